def drz (s x b : Nat) : Nat → Nat
  | 0 => 0
  | k + 1 => if s.testBit k = true ∧ wy x k = wy b k then drz s x b k ||| 2 ^ k else drz s x b k
theorem drz_lt {s x b : Nat} : ∀ {k : Nat}, drz s x b k < 2 ^ k
  | 0 => Nat.one_pos
  | k + 1 => by
    have := drz_lt (s := s) (x := x) (b := b) (k := k)
    have p : 2 ^ (k + 1) = 2 ^ k * 2 := Nat.pow_succ ..
    rw [drz]
    split
    · exact Nat.or_lt_two_pow (by omega) (by omega)
    · omega
set_option maxRecDepth 20000 in
set_option maxHeartbeats 4000000 in
theorem c_doorsAt (l : Launch) (D : va_G) (cA : Nat → ClassId) (r : Nat → Nat) {h : Hp} {s b x : Nat} (e0 : h 40 0 = nI s) (e1 : h 40 1 = nI b) (hs : s < 32) (hb : b < 1024) (hx : x < 1024) : Cn l D cA yX6_doorsAt cX6_doorsAt 4 (some .int) 1 0 0 [.ref (r 40), .int (nI x)] (LY r) h (pE (some (.int (nI (drz s x b 5)))) (LY r) h) := by
  refine Cn.of (lv := [some (.ref (r 40)), some (.int (nI x)), none, none]) (by decide +kernel) (Nat.le_of_ble_eq_true rfl) rfl (fun X hnm C CR => ?_)
  have loop : ∀ (m i : Nat), 5 < i + m → i ≤ 5 → Rn X 0 0 4 [some (.ref (r 40)), some (.int (nI x)), some (.int (nI (drz s x b i))), some (.int (nI i))] [] (LY r) h := by
    intro m
    induction m with
    | zero => intro i a1 a2; omega
    | succ m ih =>
      intro i a1 a2
      have ih1 := ih (i + 1)
      refine R_il3 (n := 5) C dX6_doorsAt_4 rfl ?_
      refine R_ic (n := 6) C dX6_doorsAt_5 ci_5 rfl ?_
      refine R_icmp_geN (tgt := 48) C dX6_doorsAt_6 rfl rfl (by omega) (by omega) (fun c1 => ?_) (fun c1 => ?_)
      · obtain rfl : i = 5 := by omega
        refine R_il2 (n := 49) C dX6_doorsAt_48 rfl ?_
        refine R_iret C CR (Nat.zero_le _) (Nat.zero_le _) dX6_doorsAt_49 ?_
        exact ⟨rfl, rfl, rfl⟩
      · have w1 := wy_lt x i
        have w2 := wy_lt b i
        refine R_al0 (n := 10) C dX6_doorsAt_9 rfl ?_
        refine M_getI (n := 13) C fl_X6_21 dX6_doorsAt_10 rfl rfl e0 rfl ?_
        refine R_il3 (n := 14) C dX6_doorsAt_13 rfl ?_
        refine R_callSN (n := 17) C (c_isIn _ _ _ r (by omega) (by omega)) mw_X10_isIn mn_X6_70 sv_X10_isIn dX6_doorsAt_14 rfl rfl (Nat.le_of_ble_eq_true rfl) ⟨Nat.le_of_ble_eq_true rfl, Nat.le_of_ble_eq_true rfl⟩ ⟨Nat.le_refl _, Nat.le_refl _⟩ rfl (pEs ?_)
        refine R_if_eqB (tgt := 42) C dX6_doorsAt_17 rfl rfl (fun c2 => ?_) (fun c2 => ?_)
        · rw [drz, if_neg (by rw [c2]; simp)] at ih1
          refine R_inc3 (n := 45) C dX6_doorsAt_42 rfl (Nat.le_of_ble_eq_true rfl) (inc_1 _) rfl ?_
          refine R_goto (n := 4) C dX6_doorsAt_45 rfl ?_
          exact ih1 (by omega) (by omega)
        · refine R_il1 (n := 21) C dX6_doorsAt_20 rfl ?_
          refine R_il3 (n := 22) C dX6_doorsAt_21 rfl ?_
          refine R_callSN (n := 25) C (c_lookIn _ _ _ r (by omega) (by omega)) mw_X10_lookIn mn_X6_84 sv_X10_lookIn dX6_doorsAt_22 rfl rfl (Nat.le_of_ble_eq_true rfl) ⟨Nat.le_of_ble_eq_true rfl, Nat.le_of_ble_eq_true rfl⟩ ⟨Nat.le_refl _, Nat.le_refl _⟩ rfl (pEs ?_)
          refine R_al0 (n := 26) C dX6_doorsAt_25 rfl ?_
          refine M_getI (n := 29) C fl_X6_25 dX6_doorsAt_26 rfl rfl e1 rfl ?_
          refine R_il3 (n := 30) C dX6_doorsAt_29 rfl ?_
          refine R_callSN (n := 33) C (c_lookIn _ _ _ r (by omega) (by omega)) mw_X10_lookIn mn_X6_84 sv_X10_lookIn dX6_doorsAt_30 rfl rfl (Nat.le_of_ble_eq_true rfl) ⟨Nat.le_of_ble_eq_true rfl, Nat.le_of_ble_eq_true rfl⟩ ⟨Nat.le_refl _, Nat.le_refl _⟩ rfl (pEs ?_)
          refine R_icmp_neN (tgt := 42) C dX6_doorsAt_33 rfl rfl (by omega) (by omega) (fun c3 => ?_) (fun c3 => ?_)
          · rw [drz, if_neg (fun q => c3 q.2)] at ih1
            refine R_inc3 (n := 45) C dX6_doorsAt_42 rfl (Nat.le_of_ble_eq_true rfl) (inc_1 _) rfl ?_
            refine R_goto (n := 4) C dX6_doorsAt_45 rfl ?_
            exact ih1 (by omega) (by omega)
          · rw [drz, if_pos ⟨c2, c3⟩] at ih1
            refine R_il2 (n := 37) C dX6_doorsAt_36 rfl ?_
            refine R_ic (n := 38) C dX6_doorsAt_37 ci_1 rfl ?_
            refine R_il3 (n := 39) C dX6_doorsAt_38 rfl ?_
            refine R_ishlN (n := 40) C dX6_doorsAt_39 (by omega) (sh1 (by omega)) rfl ?_
            refine R_iorN (n := 41) C dX6_doorsAt_40 rfl ?_
            refine R_is2 (n := 42) C dX6_doorsAt_41 rfl (Nat.le_of_ble_eq_true rfl) rfl ?_
            rw [Nat.one_mul]
            refine R_inc3 (n := 45) C dX6_doorsAt_42 rfl (Nat.le_of_ble_eq_true rfl) (inc_1 _) rfl ?_
            refine R_goto (n := 4) C dX6_doorsAt_45 rfl ?_
            exact ih1 (by omega) (by omega)
  refine R_ic (n := 1) C dX6_doorsAt_0 ci_0 rfl ?_
  refine R_is2 (n := 2) C dX6_doorsAt_1 rfl (Nat.le_of_ble_eq_true rfl) rfl ?_
  refine R_ic (n := 3) C dX6_doorsAt_2 ci_0 rfl ?_
  refine R_is3 (n := 4) C dX6_doorsAt_3 rfl (Nat.le_of_ble_eq_true rfl) rfl ?_
  exact loop 6 0 (by omega) (by omega)
def RN (f : Nat → Nat) (a m : Nat) (h : Hp) : Prop := ∀ x, x < m → h a x = nI (f x)
set_option maxRecDepth 20000 in
set_option maxHeartbeats 4000000 in
theorem c_isServed (l : Launch) (D : va_G) (cA : Nat → ClassId) (r : Nat → Nat) {h : Hp} {s al : Nat} {nw : Nat → Nat} (e0 : h 40 0 = nI s) (hs : s < 32) (ha : al ≤ 1024) (E : RN nw 41 al h) : Cn l D cA yX6_isServed cX6_isServed 3 (some .boolean) 1 0 0 [.ref (r 40), .int (nI al)] (LY r) h (pE (some (.int (bI (!alb (fun x => !(nw x).testBit s) al)))) (LY r) h) := by
  refine Cn.of (lv := [some (.ref (r 40)), some (.int (nI al)), none]) (by decide +kernel) (Nat.le_of_ble_eq_true rfl) rfl (fun X hnm C CR => ?_)
  have loop : ∀ (m i : Nat), al < i + m → i ≤ al → (∀ x, x < i → (!(nw x).testBit s) = true) → Rn X 0 0 2 [some (.ref (r 40)), some (.int (nI al)), some (.int (nI i))] [] (LY r) h := by
    intro m
    induction m with
    | zero => intro i a1 a2; omega
    | succ m ih =>
      intro i a1 a2 P
      refine R_il2 (n := 3) C dX6_isServed_2 rfl ?_
      refine R_il1 (n := 4) C dX6_isServed_3 rfl ?_
      refine R_icmp_geN (tgt := 31) C dX6_isServed_4 rfl rfl (by omega) (by omega) (fun c1 => ?_) (fun c1 => ?_)
      · obtain rfl : i = al := by omega
        refine R_ic (n := 32) C dX6_isServed_31 ci_0 rfl ?_
        refine R_zret0 C CR (Nat.zero_le _) (Nat.zero_le _) dX6_isServed_32 ?_
        exact ⟨by rw [alb_t P]; rfl, rfl, rfl⟩
      · refine R_al0 (n := 8) C dX6_isServed_7 rfl ?_
        refine M_getR (n := 11) C fl_X6_9 dX6_isServed_8 rfl rfl rfl ?_
        refine R_il2 (n := 12) C dX6_isServed_11 rfl ?_
        refine M_iald (n := 13) C dX6_isServed_12 rfl (by omega) (E i c1) rfl ?_
        refine R_al0 (n := 14) C dX6_isServed_13 rfl ?_
        refine M_getI (n := 17) C fl_X6_21 dX6_isServed_14 rfl rfl e0 rfl ?_
        refine R_callSN (n := 20) C (c_isIn32 _ _ _ r hs) mw_X10_isIn mn_X6_70 sv_X10_isIn dX6_isServed_17 rfl rfl (Nat.le_of_ble_eq_true rfl) ⟨Nat.le_of_ble_eq_true rfl, Nat.le_of_ble_eq_true rfl⟩ ⟨Nat.le_refl _, Nat.le_refl _⟩ rfl (pEs ?_)
        refine R_if_eqB (tgt := 25) C dX6_isServed_20 rfl rfl (fun c2 => ?_) (fun c2 => ?_)
        · refine R_inc2 (n := 28) C dX6_isServed_25 rfl (Nat.le_of_ble_eq_true rfl) (inc_1 _) rfl ?_
          refine R_goto (n := 2) C dX6_isServed_28 rfl ?_
          refine ih (i + 1) (by omega) (by omega) (fun x hx => ?_)
          by_cases e : x = i
          · rw [e, c2]; rfl
          · exact P x (by omega)
        · refine R_ic (n := 24) C dX6_isServed_23 ci_1 rfl ?_
          refine R_zret1 C CR (Nat.zero_le _) (Nat.zero_le _) dX6_isServed_24 ?_
          exact ⟨by rw [alb_f c1 (by rw [c2]; rfl)]; rfl, rfl, rfl⟩
  refine R_ic (n := 1) C dX6_isServed_0 ci_0 rfl ?_
  refine R_is2 (n := 2) C dX6_isServed_1 rfl (Nat.le_of_ble_eq_true rfl) rfl ?_
  exact loop (al + 1) 0 (by omega) (by omega) (fun x hx => absurd hx (Nat.not_lt_zero x))
