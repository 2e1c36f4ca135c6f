theorem chz_s {σ : WS} {W y j : Nat} {D : Nat → Nat} : chz σ W y D (j + 1) = if W.testBit j = true then (if (chz σ W y D j).1 (trz σ j y) = 0 ∨ (chz σ W y D j).1 y - 1 + tqz σ j y < (chz σ W y D j).1 (trz σ j y) - 1 then (updN (chz σ W y D j).1 (trz σ j y) ((chz σ W y D j).1 y - 1 + tqz σ j y + 1), max (chz σ W y D j).2 ((chz σ W y D j).1 y - 1 + tqz σ j y)) else chz σ W y D j) else chz σ W y D j := rfl
def RD (D : Nat → Nat) (h : Hp) : Prop := ∀ x, x < 1024 → h 23 x = pvI (D x)
theorem RD.up {D : Nat → Nat} {h : Hp} {t c : Nat} (E : RD D h) : RD (updN D t (c + 1)) (up2 h 23 t (nI c)) := fun x hx => by
  rw [up2_at, updN]
  by_cases e : x = t
  · rw [if_pos e, if_pos e, pvI_s]
  · rw [if_neg e, if_neg e]; exact E x hx
set_option maxRecDepth 20000 in
set_option maxHeartbeats 4000000 in
theorem c_cheapen (l : Launch) (D : va_G) (cA : Nat → ClassId) (r : Nat → Nat) {h : Hp} {σ : WS} (J : Inv σ) {W : Nat} (hW : W < 64) (S : RS σ W h) {A : Nat → Nat} (E : RD A h) {y k : Nat} (hy : y < 2 ^ (2 * sN σ)) (hd : A y = k + 1) (hk : k ≤ 15345) (hD : ∀ x, A x ≤ 15361) : Cn l D cA yX5_cheapen cX5_cheapen 7 (some .int) 2 0 0 [.ref (r 18), .int (nI W), .int (nI y)] (LY r) h (pG (some (.int (nI (chz σ W y A 6).2))) (LY r) (fun h' => RD (chz σ W y A 6).1 h' ∧ ∀ a, a ≠ 23 → h' a = h a)) := by
  refine Cn.of (lv := [some (.ref (r 18)), some (.int (nI W)), some (.int (nI y)), none, none, none, none]) (by decide +kernel) (Nat.le_of_ble_eq_true rfl) rfl (fun X hnm C CR => ?_)
  have y10 : y < 1024 := Nat.lt_of_lt_of_le hy (p2_10 J.n5)
  have loop : ∀ (m j : Nat) (hh : Hp) (o5 o6 : Option Value), 6 < j + m → j ≤ 6 → RD (chz σ W y A j).1 hh → (∀ a, a ≠ 23 → hh a = h a) → Rn X 0 0 5 [some (.ref (r 18)), some (.int (nI W)), some (.int (nI y)), some (.int (nI (chz σ W y A j).2)), some (.int (nI j)), o5, o6] [] (LY r) hh := by
    intro m
    induction m with
    | zero => intro j hh o5 o6 a1 a2; omega
    | succ m ih =>
      intro j hh o5 o6 a1 a2 E1 F1
      obtain ⟨c1, c2, c3, c4, c5⟩ := chz_ok J (W := W) hy hd a2
      have nxt := chz_s (σ := σ) (W := W) (y := y) (j := j) (D := A)
      have ihj := ih (j + 1)
      obtain ⟨N, hN⟩ : ∃ N, chz σ W y A (j + 1) = N := ⟨_, rfl⟩
      rw [hN] at nxt ihj
      refine R_il4 (n := 7) C dX5_cheapen_5 rfl ?_
      refine R_bp (n := 9) C dX5_cheapen_7 cb_6 rfl ?_
      refine R_icmp_geN (tgt := 96) C dX5_cheapen_9 rfl rfl (by omega) (by omega) (fun d1 => ?_) (fun d1 => ?_)
      · obtain rfl : j = 6 := by omega
        refine R_il3 (n := 97) C dX5_cheapen_96 rfl ?_
        refine R_iret C CR (Nat.zero_le _) (Nat.zero_le _) dX5_cheapen_97 ?_
        exact ⟨rfl, rfl, E1, F1⟩
      · obtain ⟨Z, hZ⟩ : ∃ Z, chz σ W y A j = Z := ⟨_, rfl⟩
        rw [hZ] at c1 c2 c3 c4 c5 nxt E1 ⊢
        have dy : Z.1 y = k + 1 := by rw [c1 y (by omega) (by omega), hd]
        rw [dy] at nxt
        have S1 : RS σ W hh := fun w hw hb => by
          rw [F1 20 (by decide), F1 21 (by decide)]
          exact S w hw hb
        refine R_il1 (n := 13) C dX5_cheapen_12 rfl ?_
        refine R_il4 (n := 15) C dX5_cheapen_13 rfl ?_
        refine R_callSN (n := 18) C (c_isIn _ _ _ r (by omega) (by omega)) mw_X10_isIn mn_X5_48 sv_X10_isIn dX5_cheapen_15 rfl rfl (Nat.le_of_ble_eq_true rfl) ⟨Nat.le_of_ble_eq_true rfl, Nat.le_of_ble_eq_true rfl⟩ ⟨Nat.le_refl _, Nat.le_refl _⟩ rfl (pEs ?_)
        refine R_if_eqB (tgt := 90) C dX5_cheapen_18 rfl rfl (fun d2 => ?_) (fun d2 => ?_)
        · rw [if_neg (by rw [d2]; decide)] at nxt
          refine R_inc4 (n := 93) C dX5_cheapen_90 rfl (Nat.le_of_ble_eq_true rfl) (inc_1 _) rfl ?_
          refine R_goto (n := 5) C dX5_cheapen_93 rfl ?_
          rw [← nxt] at E1 ⊢
          exact ihj hh _ _ (by omega) (by omega) E1 F1
        · rw [if_pos d2] at nxt
          have q15 := tqz_le J (w := j) (l := y) (by omega)
          have t10 := trz_1024 J (w := j) (l := y)
          have ey : hh 23 y = nI k := by rw [E1 y y10, dy, pvI_s]
          obtain ⟨t, ht⟩ : ∃ t, trz σ j y = t := ⟨_, rfl⟩
          have zb : Z.1 t ≤ 15361 := by
            rcases c3 t with q | ⟨w, w1, w2, w3, w4, w5, w6⟩
            · rw [q]; exact hD t
            · have := tqz_le J (w := w) (l := y) w1
              omega
          rw [ht] at nxt t10
          refine R_al0 (n := 22) C dX5_cheapen_21 rfl ?_
          refine M_getR (n := 25) C fl_X5_12 dX5_cheapen_22 rfl rfl rfl ?_
          refine R_il4 (n := 27) C dX5_cheapen_25 rfl ?_
          refine R_il2 (n := 28) C dX5_cheapen_27 rfl ?_
          refine M_callV (n := 31) C (c_looksBehind _ _ _ r J S1 d1 d2 hy) mw_X7_looksBehind ml_X5_56 iv_X7_looksBehind dX5_cheapen_28 rfl rfl rfl rfl (Nat.le_of_ble_eq_true rfl) ⟨Nat.le_of_ble_eq_true rfl, Nat.le_of_ble_eq_true rfl⟩ ⟨Nat.le_refl _, Nat.le_refl _⟩ rfl (pEs ?_)
          rw [ht]
          refine R_is5 (n := 33) C dX5_cheapen_31 rfl (Nat.le_of_ble_eq_true rfl) rfl ?_
          refine R_al0 (n := 34) C dX5_cheapen_33 rfl ?_
          refine M_getR (n := 37) C fl_X5_22 dX5_cheapen_34 rfl rfl rfl ?_
          refine R_il2 (n := 38) C dX5_cheapen_37 rfl ?_
          refine M_iald (n := 39) C dX5_cheapen_38 rfl y10 ey rfl ?_
          refine R_al0 (n := 40) C dX5_cheapen_39 rfl ?_
          refine M_getR (n := 43) C fl_X5_12 dX5_cheapen_40 rfl rfl rfl ?_
          refine R_il4 (n := 45) C dX5_cheapen_43 rfl ?_
          refine R_il2 (n := 46) C dX5_cheapen_45 rfl ?_
          refine M_callV (n := 49) C (c_quartersOf _ _ _ r J S1 d1 d2 hy) mw_X7_quartersOf ml_X5_78 iv_X7_quartersOf dX5_cheapen_46 rfl rfl rfl rfl (Nat.le_of_ble_eq_true rfl) ⟨Nat.le_of_ble_eq_true rfl, Nat.le_of_ble_eq_true rfl⟩ ⟨Nat.le_refl _, Nat.le_refl _⟩ rfl (pEs ?_)
          refine R_iaddN (n := 50) C dX5_cheapen_49 rfl ?_
          refine R_is6 (n := 52) C dX5_cheapen_50 rfl (Nat.le_of_ble_eq_true rfl) rfl ?_
          have wr : (Z.1 t = 0 ∨ k + 1 - 1 + tqz σ j y < Z.1 t - 1) → Rn X 0 0 74 [some (.ref (r 18)), some (.int (nI W)), some (.int (nI y)), some (.int (nI Z.2)), some (.int (nI j)), some (.int (nI t)), some (.int (nI (k + tqz σ j y)))] [] (LY r) hh := by
            intro q
            rw [if_pos q] at nxt
            refine R_al0 (n := 75) C dX5_cheapen_74 rfl ?_
            refine M_getR (n := 78) C fl_X5_22 dX5_cheapen_75 rfl rfl rfl ?_
            refine R_il5 (n := 80) C dX5_cheapen_78 rfl ?_
            refine R_il6 (n := 82) C dX5_cheapen_80 rfl ?_
            refine M_iast (n := 83) C dX5_cheapen_82 rfl t10 rfl ?_
            refine R_il3 (n := 84) C dX5_cheapen_83 rfl ?_
            refine R_il6 (n := 86) C dX5_cheapen_84 rfl ?_
            refine R_mmax (n := 89) C (by omega) (by omega) ml_X5_73 dX5_cheapen_86 (Nat.le_of_ble_eq_true rfl) (Nat.le_of_ble_eq_true rfl) ⟨Nat.le_refl _, Nat.le_refl _⟩ rfl ?_
            refine R_is3 (n := 90) C dX5_cheapen_89 rfl (Nat.le_of_ble_eq_true rfl) rfl ?_
            refine R_inc4 (n := 93) C dX5_cheapen_90 rfl (Nat.le_of_ble_eq_true rfl) (inc_1 _) rfl ?_
            refine R_goto (n := 5) C dX5_cheapen_93 rfl ?_
            have g := ihj (up2 hh 23 t (nI (k + tqz σ j y))) (some (.int (nI t))) (some (.int (nI (k + tqz σ j y)))) (by omega) (by omega)
            rw [nxt] at g
            exact g E1.up (fun a ha => by rw [up2_row ha]; exact F1 a ha)
          by_cases z0 : Z.1 t = 0
          · have et : hh 23 t = -1 := by rw [E1 t t10, z0]; rfl
            refine R_al0 (n := 53) C dX5_cheapen_52 rfl ?_
            refine M_getR (n := 56) C fl_X5_22 dX5_cheapen_53 rfl rfl rfl ?_
            refine R_il5 (n := 58) C dX5_cheapen_56 rfl ?_
            refine M_iald (n := 59) C dX5_cheapen_58 rfl t10 et rfl ?_
            refine R_if_lt (tgt := 74) C dX5_cheapen_59 rfl rfl (fun d3 => ?_) (fun d3 => ?_)
            · exact wr (Or.inl z0)
            · exact absurd (by decide) d3
          · have et : hh 23 t = nI (Z.1 t - 1) := by rw [E1 t t10, pvI_pos (by omega)]
            refine R_al0 (n := 53) C dX5_cheapen_52 rfl ?_
            refine M_getR (n := 56) C fl_X5_22 dX5_cheapen_53 rfl rfl rfl ?_
            refine R_il5 (n := 58) C dX5_cheapen_56 rfl ?_
            refine M_iald (n := 59) C dX5_cheapen_58 rfl t10 et rfl ?_
            refine R_if_ltN C dX5_cheapen_59 74 rfl rfl (by omega) ?_
            refine R_il6 (n := 64) C dX5_cheapen_62 rfl ?_
            refine R_al0 (n := 65) C dX5_cheapen_64 rfl ?_
            refine M_getR (n := 68) C fl_X5_22 dX5_cheapen_65 rfl rfl rfl ?_
            refine R_il5 (n := 70) C dX5_cheapen_68 rfl ?_
            refine M_iald (n := 71) C dX5_cheapen_70 rfl t10 et rfl ?_
            refine R_icmp_geN (tgt := 90) C dX5_cheapen_71 rfl rfl (by omega) (by omega) (fun d4 => ?_) (fun d4 => ?_)
            · rw [if_neg (by omega)] at nxt
              refine R_inc4 (n := 93) C dX5_cheapen_90 rfl (Nat.le_of_ble_eq_true rfl) (inc_1 _) rfl ?_
              refine R_goto (n := 5) C dX5_cheapen_93 rfl ?_
              rw [← nxt] at E1 ⊢
              exact ihj hh _ _ (by omega) (by omega) E1 F1
            · exact wr (Or.inr (by omega))
  refine R_ic (n := 1) C dX5_cheapen_0 ci_0 rfl ?_
  refine R_is3 (n := 2) C dX5_cheapen_1 rfl (Nat.le_of_ble_eq_true rfl) rfl ?_
  refine R_ic (n := 3) C dX5_cheapen_2 ci_0 rfl ?_
  refine R_is4 (n := 5) C dX5_cheapen_3 rfl (Nat.le_of_ble_eq_true rfl) rfl ?_
  exact loop 7 0 h none none (by omega) (by omega) E (fun a _ => rfl)
