def heW (σ : WS) (W : Nat) (nw : Nat → Nat) (x : Nat) (f : Nat → Nat) : Nat → Nat → Nat
  | 0 => f
  | w + 1 => if W.testBit w = true then updN (heW σ W nw x f w) (trz σ w x) (heW σ W nw x f w (trz σ w x) ||| nw x) else heW σ W nw x f w
def heX (σ : WS) (W : Nat) (nw : Nat → Nat) : Nat → Nat → Nat
  | 0 => fun _ => 0
  | x + 1 => if nw x = 0 then heX σ W nw x else heW σ W nw x (heX σ W nw x) 6
set_option maxRecDepth 20000 in
set_option maxHeartbeats 4000000 in
theorem c_phear (l : Launch) (D : va_G) (cA : Nat → ClassId) (r : Nat → Nat) {h : Hp} {σ : WS} (J : Inv σ) {W : Nat} (hW : W < 64) (S : RS σ W h) {nw : Nat → Nat} (E : RN nw 41 (2 ^ (2 * sN σ)) h) (hn : ∀ x, nw x < 2 ^ 32) : Cn l D cA yX6_hear cX6_hear 6 none 2 0 0 [.ref (r 40), .ref (r 19), .int (nI W), .int (nI (2 ^ (2 * sN σ)))] (LY r) h (pG none (LY r) (fun h' => RN (heX σ W nw (2 ^ (2 * sN σ))) 42 1024 h' ∧ ∀ a, a ≠ 42 → h' a = h a)) := by
  refine Cn.of (lv := [some (.ref (r 40)), some (.ref (r 19)), some (.int (nI W)), some (.int (nI (2 ^ (2 * sN σ)))), none, none]) (by decide +kernel) (Nat.le_of_ble_eq_true rfl) rfl (fun X hnm C CR => ?_)
  have p10 := p2_10 J.n5
  have pp := p2_pos (2 * sN σ)
  have inner : ∀ (x : Nat), x < 2 ^ (2 * sN σ) → ∀ (f : Nat → Nat), (∀ (h2 : Hp) (o : Option Value), RN (heW σ W nw x f 6) 42 1024 h2 → (∀ a, a ≠ 42 → h2 a = h a) → Rn X 0 0 75 [some (.ref (r 40)), some (.ref (r 19)), some (.int (nI W)), some (.int (nI (2 ^ (2 * sN σ)))), some (.int (nI x)), o] [] (LY r) h2) → ∀ (m w : Nat) (hh : Hp), 6 < w + m → w ≤ 6 → RN (heW σ W nw x f w) 42 1024 hh → (∀ a, a ≠ 42 → hh a = h a) → Rn X 0 0 30 [some (.ref (r 40)), some (.ref (r 19)), some (.int (nI W)), some (.int (nI (2 ^ (2 * sN σ)))), some (.int (nI x)), some (.int (nI w))] [] (LY r) hh := by
    intro x hx f out m
    induction m with
    | zero => intro w hh a1 a2; omega
    | succ m ih =>
      intro w hh a1 a2 A F
      have ih1 := ih (w + 1)
      rw [heW] at ih1
      refine R_il5 (n := 32) C dX6_hear_30 rfl ?_
      refine R_bp (n := 34) C dX6_hear_32 cb_6 rfl ?_
      refine R_icmp_geN (tgt := 75) C dX6_hear_34 rfl rfl (by omega) (by omega) (fun c1 => ?_) (fun c1 => ?_)
      · obtain rfl : w = 6 := by omega
        exact out hh _ A F
      · refine R_il2 (n := 38) C dX6_hear_37 rfl ?_
        refine R_il5 (n := 40) C dX6_hear_38 rfl ?_
        refine R_callSN (n := 43) C (c_isIn _ _ _ r (by omega) (by omega)) mw_X10_isIn mn_X6_70 sv_X10_isIn dX6_hear_40 rfl rfl (Nat.le_of_ble_eq_true rfl) ⟨Nat.le_of_ble_eq_true rfl, Nat.le_of_ble_eq_true rfl⟩ ⟨Nat.le_refl _, Nat.le_refl _⟩ rfl (pEs ?_)
        refine R_if_eqB (tgt := 69) C dX6_hear_43 rfl rfl (fun c2 => ?_) (fun c2 => ?_)
        · rw [if_neg (by rw [c2]; decide)] at ih1
          refine R_inc5 (n := 72) C dX6_hear_69 rfl (Nat.le_of_ble_eq_true rfl) (inc_1 _) rfl ?_
          refine R_goto (n := 30) C dX6_hear_72 rfl ?_
          exact ih1 hh (by omega) (by omega) A F
        · rw [if_pos c2] at ih1
          have S1 : RS σ W hh := fun w hw hb => by
            rw [F 20 (by decide), F 21 (by decide)]
            exact S w hw hb
          have t10 := trz_1024 J (w := w) (l := x)
          have en : hh 41 x = nI (nw x) := by rw [F 41 (by decide)]; exact E x hx
          refine R_al0 (n := 47) C dX6_hear_46 rfl ?_
          refine M_getR (n := 50) C fl_X6_15 dX6_hear_47 rfl rfl rfl ?_
          refine R_al1 (n := 51) C dX6_hear_50 rfl ?_
          refine R_il5 (n := 53) C dX6_hear_51 rfl ?_
          refine R_il4 (n := 55) C dX6_hear_53 rfl ?_
          refine M_callV (n := 58) C (c_looksBehind _ _ _ r J S1 c1 c2 hx) mw_X7_looksBehind ml_X6_74 iv_X7_looksBehind dX6_hear_55 rfl rfl rfl rfl (Nat.le_of_ble_eq_true rfl) ⟨Nat.le_of_ble_eq_true rfl, Nat.le_of_ble_eq_true rfl⟩ ⟨Nat.le_refl _, Nat.le_refl _⟩ rfl (pEs ?_)
          refine R_dup2 (n := 59) C dX6_hear_58 rfl rfl rfl ?_
          refine M_iald (n := 60) C dX6_hear_59 rfl t10 (A _ t10) rfl ?_
          refine R_al0 (n := 61) C dX6_hear_60 rfl ?_
          refine M_getR (n := 64) C fl_X6_9 dX6_hear_61 rfl rfl rfl ?_
          refine R_il4 (n := 66) C dX6_hear_64 rfl ?_
          refine M_iald (n := 67) C dX6_hear_66 rfl (by omega) en rfl ?_
          refine R_iorN (n := 68) C dX6_hear_67 rfl ?_
          refine M_iast (n := 69) C dX6_hear_68 rfl t10 rfl ?_
          refine R_inc5 (n := 72) C dX6_hear_69 rfl (Nat.le_of_ble_eq_true rfl) (inc_1 _) rfl ?_
          refine R_goto (n := 30) C dX6_hear_72 rfl ?_
          refine ih1 _ (by omega) (by omega) (fun y hy => ?_) (fun a ha => by rw [up2_row ha]; exact F a ha)
          rw [up2_at, updN]
          by_cases e : y = trz σ w x
          · rw [if_pos e, if_pos e]
          · rw [if_neg e, if_neg e]; exact A y hy
  have outer : ∀ (m x : Nat) (hh : Hp) (o : Option Value), 2 ^ (2 * sN σ) < x + m → x ≤ 2 ^ (2 * sN σ) → RN (heX σ W nw x) 42 1024 hh → (∀ a, a ≠ 42 → hh a = h a) → Rn X 0 0 11 [some (.ref (r 40)), some (.ref (r 19)), some (.int (nI W)), some (.int (nI (2 ^ (2 * sN σ)))), some (.int (nI x)), o] [] (LY r) hh := by
    intro m
    induction m with
    | zero => intro x hh o a1 a2; omega
    | succ m ih =>
      intro x hh o a1 a2 A F
      have ih1 := ih (x + 1)
      rw [heX] at ih1
      refine R_il4 (n := 13) C dX6_hear_11 rfl ?_
      refine R_il3 (n := 14) C dX6_hear_13 rfl ?_
      refine R_icmp_geN (tgt := 81) C dX6_hear_14 rfl rfl (by omega) (by omega) (fun c1 => ?_) (fun c1 => ?_)
      · obtain rfl : x = 2 ^ (2 * sN σ) := by omega
        refine R_vret C CR (Nat.zero_le _) (Nat.zero_le _) dX6_hear_81 ?_
        exact ⟨rfl, rfl, A, F⟩
      · have en : hh 41 x = nI (nw x) := by rw [F 41 (by decide)]; exact E x c1
        have nl := hn x
        refine R_al0 (n := 18) C dX6_hear_17 rfl ?_
        refine M_getR (n := 21) C fl_X6_9 dX6_hear_18 rfl rfl rfl ?_
        refine R_il4 (n := 23) C dX6_hear_21 rfl ?_
        refine M_iald (n := 24) C dX6_hear_23 rfl (by omega) en rfl ?_
        refine R_if_eq (tgt := 75) C dX6_hear_24 rfl rfl (fun c2 => ?_) (fun c2 => ?_)
        · rw [nI_z32 nl] at c2
          rw [if_pos c2] at ih1
          refine R_inc4 (n := 78) C dX6_hear_75 rfl (Nat.le_of_ble_eq_true rfl) (inc_1 _) rfl ?_
          refine R_goto (n := 11) C dX6_hear_78 rfl ?_
          exact ih1 hh _ (by omega) (by omega) A F
        · rw [nI_z32 nl] at c2
          rw [if_neg c2] at ih1
          refine R_ic (n := 28) C dX6_hear_27 ci_0 rfl ?_
          refine R_is5 (n := 30) C dX6_hear_28 rfl (Nat.le_of_ble_eq_true rfl) rfl ?_
          refine inner x c1 (heX σ W nw x) (fun h2 o2 A2 F2 => ?_) 7 0 hh (by omega) (by omega) A F
          refine R_inc4 (n := 78) C dX6_hear_75 rfl (Nat.le_of_ble_eq_true rfl) (inc_1 _) rfl ?_
          refine R_goto (n := 11) C dX6_hear_78 rfl ?_
          exact ih1 h2 _ (by omega) (by omega) A2 F2
  refine R_al0 (n := 1) C dX6_hear_0 rfl ?_
  refine M_getR (n := 4) C fl_X6_15 dX6_hear_1 rfl rfl rfl ?_
  refine R_ic (n := 5) C dX6_hear_4 ci_0 rfl ?_
  refine R_callS (n := 8) C (c_fill _ _ _ r (LY_at (a := 42) rfl) (by decide) _) mw_J7_fill_53178 ml_X6_42 sv_J7_fill_53178 dX6_hear_5 rfl rfl (Nat.le_of_ble_eq_true rfl) ⟨Nat.le_of_ble_eq_true rfl, Nat.le_of_ble_eq_true rfl⟩ ⟨Nat.le_refl _, Nat.le_refl _⟩ rfl (pGv (fun h1 q1 => ?_))
  refine R_ic (n := 9) C dX6_hear_8 ci_0 rfl ?_
  refine R_is4 (n := 11) C dX6_hear_9 rfl (Nat.le_of_ble_eq_true rfl) rfl ?_
  exact outer (2 ^ (2 * sN σ) + 1) 0 h1 none (by omega) (by omega) q1.1 q1.2
