def pvI (j : Nat) : Int32 := if j = 0 then -1 else nI (j - 1)
theorem pvI_ok : ∀ j, j < 40 → nI j + Int32.ofInt (-1) = pvI j := by decide +kernel
theorem pvI_0 : pvI 0 = -1 := rfl
theorem pvI_s (j : Nat) : pvI (j + 1) = nI j := rfl
def stE (σ : WS) (w k l : Nat) : Nat := tz σ k l (qz σ w k l) * 2 ^ (2 * k) + qz σ w k l * 1024
def stS (σ : WS) (w f : Nat) : Nat → Nat → Nat
  | 0, _ => 0
  | c + 1, x => stS σ w f c (x % 4 ^ c) + stE σ w (f + c) (x / 4 ^ c)
theorem stS_at {σ : WS} {w f c l i : Nat} (hi : i < 4 ^ c) : stS σ w f (c + 1) (l * 4 ^ c + i) = stS σ w f c i + stE σ w (f + c) l := by
  rw [stS, Nat.mul_comm l, Nat.mul_add_mod, Nat.mod_eq_of_lt hi, Nat.mul_add_div (by omega), Nat.div_eq_of_lt hi, Nat.add_zero]
def ctz (σ : WS) (f : Nat) : Nat := min (sN σ) (if f = 0 then 3 else 5) - f
def szz (f : Nat) : Nat := if f = 0 then 64 else 16
def SF (σ : WS) (w f t row c : Nat) (h h' : Hp) : Prop := (∀ x, x < 4 ^ c → h' t (row + x) = nI (stS σ w f c x)) ∧ (∀ j, j < row ∨ row + szz f ≤ j → h' t j = h t j) ∧ ∀ a, a ≠ t → h' a = h a
theorem p4_16 {c : Nat} (h : c < 3) : 4 ^ c ≤ 16 := Nat.pow_le_pow_right (n := 4) (j := 2) (by decide) (by omega)
theorem p4_sz {c f : Nat} {σ : WS} (I : Inv σ) (hf : f = 0 ∨ f = 3) (h : c < ctz σ f) : 4 * 4 ^ c ≤ szz f ∧ c < 3 ∧ f + c < 5 := by
  have := I.n5
  rcases hf with rfl | rfl
  · have hc : c < 3 := by simp [ctz] at h; omega
    exact ⟨Nat.mul_le_mul_left 4 (p4_16 hc), hc, by omega⟩
  · have hc : c < 2 := by simp [ctz] at h; omega
    exact ⟨Nat.mul_le_mul_left 4 (show 4 ^ c ≤ 4 ^ 1 from Nat.pow_le_pow_right (by decide) (by omega)), by omega, by omega⟩
set_option maxRecDepth 20000 in
set_option maxHeartbeats 4000000 in
theorem c_sfill (l : Launch) (D : va_G) (cA : Nat → ClassId) (r : Nat → Nat) {h : Hp} {σ : WS} (R : RW 1 σ h) (I : Inv σ) {t len row w f : Nat} (ht : LYS[t]? = some (.inr (.inl (0, len)))) (t0 : 11 < t) (hl9 : len ≤ 384) (hw : w < 6) (hf : f = 0 ∨ f = 3) (hr : row + szz f ≤ len) : Cn l D cA yX7_fill cX7_fill 12 none 1 0 0 [.ref (r t), .int (nI row), .ref (r 1), .int (nI w), .int (nI f)] (LY r) h (pG none (LY r) (SF σ w f t row (ctz σ f) h)) := by
  refine Cn.of (lv := [some (.ref (r t)), some (.int (nI row)), some (.ref (r 1)), some (.int (nI w)), some (.int (nI f)), none, none, none, none, none, none, none]) (by decide +kernel) (Nat.le_of_ble_eq_true rfl) rfl (fun X hnm C CR => ?_)
  have n5 := I.n5
  have f3 : f ≤ 3 := by omega
  have s16 : 16 ≤ szz f := by unfold szz; split <;> decide
  obtain ⟨E, hE⟩ : ∃ E, min (sN σ) (if f = 0 then 3 else 5) = E := ⟨_, rfl⟩
  have hct : ctz σ f = E - f := by rw [ctz, hE]
  have fr : ∀ {c : Nat} {hh : Hp}, SF σ w f t row c h hh → RW 1 σ hh := fun S => RWf (fun a h1 h2 => S.2.2 a (by omega)) R
  have i3 : ∀ (c lk : Nat), c < E - f → lk < 4 → ∀ (g : Hp), (∀ a, a ≠ t → g a = h a) → (∀ (h2 : Hp) (o : Option Value), (∀ x, x < 4 * 4 ^ c → lk * 4 ^ c ≤ x → h2 t (row + x) = nI (stS σ w f (c + 1) x)) → (0 < lk → ∀ x, x < 4 ^ c → h2 t (row + x) = nI (stS σ w f c x)) → (∀ j, j < row ∨ row + szz f ≤ j → h2 t j = h t j) → (∀ a, a ≠ t → h2 a = h a) → Rn X 0 0 117 [some (.ref (r t)), some (.int (nI row)), some (.ref (r 1)), some (.int (nI w)), some (.int (nI f)), some (.int (nI E)), some (.int (nI (4 ^ c))), some (.int (nI (f + c))), some (.int (nI lk)), some (.int (nI (qz σ w (f + c) lk))), some (.int (nI (stE σ w (f + c) lk))), o] [] (LY r) h2) → ∀ (m i : Nat) (hh : Hp), 4 ^ c < i + m → i ≤ 4 ^ c → (∀ x, x < 4 * 4 ^ c → (lk * 4 ^ c ≤ x ∧ x < lk * 4 ^ c + i ∨ lk * 4 ^ c + 4 ^ c ≤ x) → hh t (row + x) = nI (stS σ w f (c + 1) x)) → (∀ x, x < 4 ^ c → (0 < lk ∨ i ≤ x) → hh t (row + x) = nI (stS σ w f c x)) → (∀ j, j < row ∨ row + szz f ≤ j → hh t j = h t j) → (∀ a, a ≠ t → hh a = h a) → Rn X 0 0 83 [some (.ref (r t)), some (.int (nI row)), some (.ref (r 1)), some (.int (nI w)), some (.int (nI f)), some (.int (nI E)), some (.int (nI (4 ^ c))), some (.int (nI (f + c))), some (.int (nI lk)), some (.int (nI (qz σ w (f + c) lk))), some (.int (nI (stE σ w (f + c) lk))), some (.int (nI i))] [] (LY r) hh := by
    intro c lk hc hlk g _ out m
    obtain ⟨z1, z2, z3⟩ := p4_sz I hf (c := c) (by omega)
    have z4 := p4_16 z2
    have z5 : lk * 4 ^ c ≤ 3 * 4 ^ c := Nat.mul_le_mul_right _ (by omega)
    have z6 : 0 < lk → 4 ^ c ≤ lk * 4 ^ c := fun q => Nat.le_mul_of_pos_left _ q
    have z7 : lk = 0 → lk * 4 ^ c = 0 := fun q => by rw [q, Nat.zero_mul]
    induction m with
    | zero => intro i hh a1 a2; omega
    | succ m ih =>
      intro i hh a1 a2 A B F1 F2
      refine R_il11 (n := 85) C dX7_fill_83 rfl ?_
      refine R_il6 (n := 87) C dX7_fill_85 rfl ?_
      refine R_icmp_geN (tgt := 117) C dX7_fill_87 rfl rfl (by omega) (by omega) (fun c1 => ?_) (fun c1 => ?_)
      · refine out hh _ (fun x x1 x2 => A x x1 (by omega)) (fun q x x1 => B x x1 (Or.inl q)) F1 F2
      · have ev := stS_at (σ := σ) (w := w) (f := f) (l := lk) c1
        refine R_al0 (n := 91) C dX7_fill_90 rfl ?_
        refine R_il1 (n := 92) C dX7_fill_91 rfl ?_
        refine R_il8 (n := 94) C dX7_fill_92 rfl ?_
        refine R_il6 (n := 96) C dX7_fill_94 rfl ?_
        refine R_imulN (n := 97) C dX7_fill_96 rfl ?_
        refine R_iaddN (n := 98) C dX7_fill_97 rfl ?_
        refine R_il11 (n := 100) C dX7_fill_98 rfl ?_
        refine R_iaddN (n := 101) C dX7_fill_100 rfl ?_
        refine R_al0 (n := 102) C dX7_fill_101 rfl ?_
        refine R_il1 (n := 103) C dX7_fill_102 rfl ?_
        refine R_il11 (n := 105) C dX7_fill_103 rfl ?_
        refine R_iaddN (n := 106) C dX7_fill_105 rfl ?_
        refine M_iald (n := 107) C dX7_fill_106 ht (by omega) (B i c1 (Or.inr (Nat.le_refl _))) rfl ?_
        refine R_il10 (n := 109) C dX7_fill_107 rfl ?_
        refine R_iaddN (n := 110) C dX7_fill_109 rfl ?_
        rw [← ev, Nat.add_assoc row]
        refine M_iast (n := 111) C dX7_fill_110 ht (by omega) rfl ?_
        refine R_inc11 (n := 114) C dX7_fill_111 rfl (Nat.le_of_ble_eq_true rfl) (inc_1 _) rfl ?_
        refine R_goto (n := 83) C dX7_fill_114 rfl ?_
        refine ih (i + 1) _ (by omega) (by omega) (fun x x1 x2 => ?_) (fun x x1 x2 => ?_) (fun j hj => ?_) (fun a ha => ?_)
        · by_cases e : x = lk * 4 ^ c + i
          · rw [e, up2_same]
          · rw [up2_ne (by omega)]
            exact A x x1 (by omega)
        · rw [up2_ne (by omega)]
          exact B x x1 (by omega)
        · rw [up2_ne (by omega)]
          exact F1 j hj
        · rw [up2_row ha]
          exact F2 a ha
  have i2 : ∀ (c : Nat), c < E - f → (∀ (h2 : Hp) (o8 o9 o10 o11 : Option Value), SF σ w f t row (c + 1) h h2 → Rn X 0 0 123 [some (.ref (r t)), some (.int (nI row)), some (.ref (r 1)), some (.int (nI w)), some (.int (nI f)), some (.int (nI E)), some (.int (nI (4 ^ c))), some (.int (nI (f + c))), o8, o9, o10, o11] [] (LY r) h2) → ∀ (j : Nat) (hh : Hp) (o9 o10 o11 : Option Value), j ≤ 4 → (∀ x, x < 4 * 4 ^ c → j * 4 ^ c ≤ x → hh t (row + x) = nI (stS σ w f (c + 1) x)) → (0 < j → ∀ x, x < 4 ^ c → hh t (row + x) = nI (stS σ w f c x)) → (∀ j, j < row ∨ row + szz f ≤ j → hh t j = h t j) → (∀ a, a ≠ t → hh a = h a) → Rn X 0 0 40 [some (.ref (r t)), some (.int (nI row)), some (.ref (r 1)), some (.int (nI w)), some (.int (nI f)), some (.int (nI E)), some (.int (nI (4 ^ c))), some (.int (nI (f + c))), some (.int (pvI j)), o9, o10, o11] [] (LY r) hh := by
    intro c hc out j
    obtain ⟨z1, z2, z3⟩ := p4_sz I hf (c := c) (by omega)
    have z4 := p4_16 z2
    induction j with
    | zero =>
      intro hh o9 o10 o11 a1 A B F1 F2
      rw [pvI_0]
      refine R_il8 (n := 42) C dX7_fill_40 rfl ?_
      refine R_if_lt (tgt := 123) C dX7_fill_42 rfl rfl (fun c1 => ?_) (fun c1 => ?_)
      · refine out hh _ _ _ _ ⟨fun x hx => A x (by rw [Nat.pow_succ] at hx; omega) (by omega), F1, F2⟩
      · exact absurd (by decide) c1
    | succ lk ih =>
      intro hh o9 o10 o11 a1 A B F1 F2
      have R1 : RW 1 σ hh := RWf (fun a h1 h2 => F2 a (by omega)) R
      have q4 := qz_le (σ := σ) I (w := w) (k := f + c) (l := lk) hw z3
      have t4 := tz_lt (σ := σ) (k := f + c) (l := lk) (b := qz σ w (f + c) lk)
      have sb : tz σ (f + c) lk (qz σ w (f + c) lk) * 2 ^ (2 * (f + c)) < 2 ^ 32 := Nat.lt_of_le_of_lt (Nat.mul_le_mul (show _ ≤ 3 by omega) (Nat.pow_le_pow_right (by decide) (show 2 * (f + c) ≤ 8 by omega))) (by decide)
      have sm : (lk + 1) * 4 ^ c = lk * 4 ^ c + 4 ^ c := Nat.succ_mul ..
      rw [pvI_s]
      refine R_il8 (n := 42) C dX7_fill_40 rfl ?_
      refine R_if_ltN C dX7_fill_42 123 rfl rfl (by omega) ?_
      refine R_al2 (n := 46) C dX7_fill_45 rfl ?_
      refine R_il3 (n := 47) C dX7_fill_46 rfl ?_
      refine R_il7 (n := 49) C dX7_fill_47 rfl ?_
      refine R_il8 (n := 51) C dX7_fill_49 rfl ?_
      refine M_callV (n := 54) C (c_quarters _ _ _ r R1 I hw z3 (by omega)) mw_X9_quarters ml_X7_41 iv_X9_quarters dX7_fill_51 rfl rfl rfl rfl (Nat.le_of_ble_eq_true rfl) ⟨Nat.le_of_ble_eq_true rfl, Nat.le_of_ble_eq_true rfl⟩ ⟨Nat.le_refl _, Nat.le_refl _⟩ rfl (pEs ?_)
      refine R_is9 (n := 56) C dX7_fill_54 rfl (Nat.le_of_ble_eq_true rfl) rfl ?_
      refine R_al2 (n := 57) C dX7_fill_56 rfl ?_
      refine R_il7 (n := 59) C dX7_fill_57 rfl ?_
      refine R_il8 (n := 61) C dX7_fill_59 rfl ?_
      refine R_il9 (n := 63) C dX7_fill_61 rfl ?_
      refine M_callV (n := 66) C (c_turned _ _ _ r R1 I z3 (by omega) q4) mw_X9_turned ml_X7_45 iv_X9_turned dX7_fill_63 rfl rfl rfl rfl (Nat.le_of_ble_eq_true rfl) ⟨Nat.le_of_ble_eq_true rfl, Nat.le_of_ble_eq_true rfl⟩ ⟨Nat.le_refl _, Nat.le_refl _⟩ rfl (pEs ?_)
      refine R_ic (n := 67) C dX7_fill_66 ci_2 rfl ?_
      refine R_il7 (n := 69) C dX7_fill_67 rfl ?_
      refine R_imulN (n := 70) C dX7_fill_69 rfl ?_
      refine R_ishlN (n := 71) C dX7_fill_70 (by omega) sb rfl ?_
      refine R_il9 (n := 73) C dX7_fill_71 rfl ?_
      refine R_sp (n := 76) C dX7_fill_73 cs_1024 rfl ?_
      refine R_imulN (n := 77) C dX7_fill_76 rfl ?_
      refine R_iaddN (n := 78) C dX7_fill_77 rfl ?_
      refine R_is10 (n := 80) C dX7_fill_78 rfl (Nat.le_of_ble_eq_true rfl) rfl ?_
      refine R_ic (n := 81) C dX7_fill_80 ci_0 rfl ?_
      refine R_is11 (n := 83) C dX7_fill_81 rfl (Nat.le_of_ble_eq_true rfl) rfl ?_
      refine i3 c lk hc (by omega) hh F2 (fun h2 o A2 B2 G1 G2 => ?_) (4 ^ c + 1) 0 hh (by omega) (by omega) (fun x x1 x2 => A x x1 (by omega)) (fun x x1 x2 => B (by omega) x x1) F1 F2
      refine R_inc8 (n := 120) C dX7_fill_117 rfl (Nat.le_of_ble_eq_true rfl) (pvI_ok _ (by omega)) rfl ?_
      refine R_goto (n := 40) C dX7_fill_120 rfl ?_
      exact ih h2 _ _ _ (by omega) A2 B2 G1 G2
  have i1 : ∀ (m c : Nat) (hh : Hp) (o8 o9 o10 o11 : Option Value), E - f < c + m → c ≤ E - f → SF σ w f t row c h hh → Rn X 0 0 30 [some (.ref (r t)), some (.int (nI row)), some (.ref (r 1)), some (.int (nI w)), some (.int (nI f)), some (.int (nI E)), some (.int (nI (4 ^ c))), some (.int (nI (f + c))), o8, o9, o10, o11] [] (LY r) hh := by
    intro m
    induction m with
    | zero => intro c hh o8 o9 o10 o11 a1 a2; omega
    | succ m ih =>
      intro c hh o8 o9 o10 o11 a1 a2 S
      have e5 : E ≤ 5 := by rw [← hE]; omega
      refine R_il7 (n := 32) C dX7_fill_30 rfl ?_
      refine R_il5 (n := 34) C dX7_fill_32 rfl ?_
      refine R_icmp_geN (tgt := 135) C dX7_fill_34 rfl rfl (by omega) (by omega) (fun c1 => ?_) (fun c1 => ?_)
      · obtain rfl : c = E - f := by omega
        refine R_vret C CR (Nat.zero_le _) (Nat.zero_le _) dX7_fill_135 ?_
        exact ⟨rfl, rfl, by rw [hct]; exact S⟩
      · refine R_ic (n := 38) C dX7_fill_37 ci_3 rfl ?_
        refine R_is8 (n := 40) C dX7_fill_38 rfl (Nat.le_of_ble_eq_true rfl) rfl ?_
        refine i2 c (by omega) (fun h2 o8 o9 o10 o11 S2 => ?_) 4 hh _ _ _ (by omega) (fun x x1 x2 => absurd x1 (by omega)) (fun _ x hx => S.1 x hx) S.2.1 S.2.2
        refine R_il6 (n := 125) C dX7_fill_123 rfl ?_
        refine R_ic (n := 126) C dX7_fill_125 ci_4 rfl ?_
        refine R_imulN (n := 127) C dX7_fill_126 rfl ?_
        refine R_is6 (n := 129) C dX7_fill_127 rfl (Nat.le_of_ble_eq_true rfl) rfl ?_
        refine R_inc7 (n := 132) C dX7_fill_129 rfl (Nat.le_of_ble_eq_true rfl) (inc_1 _) rfl ?_
        refine R_goto (n := 30) C dX7_fill_132 rfl ?_
        rw [Nat.add_assoc, show 4 ^ c * 4 = 4 ^ (c + 1) from (Nat.pow_succ ..).symm]
        exact ih (c + 1) h2 _ _ _ _ (by omega) (by omega) S2
  have S0 : SF σ w f t row 0 h (up2 h t row (nI 0)) := by
    refine ⟨fun x hx => ?_, fun j hj => up2_ne (by omega), fun a ha => up2_row ha⟩
    obtain rfl : x = 0 := by simp at hx; omega
    rw [Nat.add_zero, up2_same]
    rfl
  refine R_al2 (n := 1) C dX7_fill_0 rfl ?_
  refine M_getI (n := 4) C fl_X7_30 dX7_fill_1 rfl rfl (wN R) rfl ?_
  refine R_il4 (n := 6) C dX7_fill_4 rfl ?_
  refine R_if_neN (tgt := 13) C dX7_fill_6 rfl rfl (by omega) (fun c1 => ?_) (fun c1 => ?_)
  · rw [if_neg c1] at hE
    refine R_ic (n := 14) C dX7_fill_13 ci_5 rfl ?_
    refine R_mmin (n := 17) C (by omega) (by omega) ml_X7_36 dX7_fill_14 (Nat.le_of_ble_eq_true rfl) (Nat.le_of_ble_eq_true rfl) ⟨Nat.le_refl _, Nat.le_refl _⟩ rfl ?_
    refine R_is5 (n := 19) C dX7_fill_17 rfl (Nat.le_of_ble_eq_true rfl) rfl ?_
    refine R_ic (n := 20) C dX7_fill_19 ci_1 rfl ?_
    refine R_is6 (n := 22) C dX7_fill_20 rfl (Nat.le_of_ble_eq_true rfl) rfl ?_
    refine R_al0 (n := 23) C dX7_fill_22 rfl ?_
    refine R_il1 (n := 24) C dX7_fill_23 rfl ?_
    refine R_ic (n := 25) C dX7_fill_24 ci_0 rfl ?_
    refine M_iast (n := 26) C dX7_fill_25 ht (by omega) rfl ?_
    refine R_il4 (n := 28) C dX7_fill_26 rfl ?_
    refine R_is7 (n := 30) C dX7_fill_28 rfl (Nat.le_of_ble_eq_true rfl) rfl ?_
    rw [hE]
    exact i1 (E - f + 1) 0 _ _ _ _ _ (by omega) (by omega) S0
  · rw [if_pos c1] at hE
    refine R_ic (n := 10) C dX7_fill_9 ci_3 rfl ?_
    refine R_goto (n := 14) C dX7_fill_10 rfl ?_
    refine R_mmin (n := 17) C (by omega) (by omega) ml_X7_36 dX7_fill_14 (Nat.le_of_ble_eq_true rfl) (Nat.le_of_ble_eq_true rfl) ⟨Nat.le_refl _, Nat.le_refl _⟩ rfl ?_
    refine R_is5 (n := 19) C dX7_fill_17 rfl (Nat.le_of_ble_eq_true rfl) rfl ?_
    refine R_ic (n := 20) C dX7_fill_19 ci_1 rfl ?_
    refine R_is6 (n := 22) C dX7_fill_20 rfl (Nat.le_of_ble_eq_true rfl) rfl ?_
    refine R_al0 (n := 23) C dX7_fill_22 rfl ?_
    refine R_il1 (n := 24) C dX7_fill_23 rfl ?_
    refine R_ic (n := 25) C dX7_fill_24 ci_0 rfl ?_
    refine M_iast (n := 26) C dX7_fill_25 ht (by omega) rfl ?_
    refine R_il4 (n := 28) C dX7_fill_26 rfl ?_
    refine R_is7 (n := 30) C dX7_fill_28 rfl (Nat.le_of_ble_eq_true rfl) rfl ?_
    rw [hE]
    exact i1 (E - f + 1) 0 _ _ _ _ _ (by omega) (by omega) S0
