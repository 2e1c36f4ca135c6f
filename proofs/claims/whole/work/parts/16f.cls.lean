set_option maxRecDepth 20000 in
set_option maxHeartbeats 4000000 in
theorem c_copy_53_1 (l : Launch) (D : va_G) (cA : Nat → ClassId) (r : Nat → Nat) {h : Hp} {σ : WS} (R : RW 1 σ h) : Cn l D cA yX9_copyFrom cX9_copyFrom 2 none 1 0 0 [.ref (r 53), .ref (r 1)] (LY r) h (pG none (LY r) (fun h' => RW 53 σ h' ∧ ∀ z, z < 53 ∨ 62 < z → h' z = h z)) := by
  refine Cn.of (lv := [some (.ref (r 53)), some (.ref (r 1))]) (by decide +kernel) (Nat.le_of_ble_eq_true rfl) rfl (fun X hnm C CR => ?_)
  refine R_al0 (n := 1) C dX9_copyFrom_0 rfl ?_
  refine R_al1 (n := 2) C dX9_copyFrom_1 rfl ?_
  refine M_getI (n := 5) C fl_X9_43 dX9_copyFrom_2 rfl rfl R.1 rfl ?_
  refine M_putI (n := 8) C fl_X9_43 dX9_copyFrom_5 rfl rfl rfl rfl rfl ?_
  refine R_al0 (n := 9) C dX9_copyFrom_8 rfl ?_
  refine R_al1 (n := 10) C dX9_copyFrom_9 rfl ?_
  refine M_getI (n := 13) C fl_X9_47 dX9_copyFrom_10 rfl rfl (show _ = nI (sKn σ) from up2_get (by decide) R.2.1) rfl ?_
  refine M_putI (n := 16) C fl_X9_47 dX9_copyFrom_13 rfl rfl rfl rfl rfl ?_
  refine R_al0 (n := 17) C dX9_copyFrom_16 rfl ?_
  refine R_al1 (n := 18) C dX9_copyFrom_17 rfl ?_
  refine M_getI (n := 21) C fl_X9_50 dX9_copyFrom_18 rfl rfl (show _ = nI (sSg σ) from up2_get (by decide) (up2_get (by decide) R.2.2.1)) rfl ?_
  refine M_putI (n := 24) C fl_X9_50 dX9_copyFrom_21 rfl rfl rfl rfl rfl ?_
  refine R_gen (fun h1 => (h1 53 0 = nI (sN σ) ∧ h1 53 1 = nI (sKn σ) ∧ h1 53 2 = nI (sSg σ)) ∧ ∀ z, z ≠ 53 → h1 z = h z) ⟨⟨by simp [up2_at], by simp [up2_at], by simp [up2_at]⟩, fun z hz => by rw [up2_row hz, up2_row hz, up2_row hz]⟩ (fun h1 q1 => ?_)
  refine R_al1 (n := 25) C dX9_copyFrom_24 rfl ?_
  refine M_getR (n := 28) C fl_X9_9 dX9_copyFrom_25 rfl rfl rfl ?_
  refine R_ic (n := 29) C dX9_copyFrom_28 ci_0 rfl ?_
  refine R_al0 (n := 30) C dX9_copyFrom_29 rfl ?_
  refine M_getR (n := 33) C fl_X9_9 dX9_copyFrom_30 rfl rfl rfl ?_
  refine R_ic (n := 34) C dX9_copyFrom_33 ci_0 rfl ?_
  refine R_ic (n := 35) C dX9_copyFrom_34 ci_5 rfl ?_
  refine M_copy (n := 38) C cp_X9_59 dX9_copyFrom_35 rfl rfl (by decide) (by decide) (by decide) (by decide) rfl ?_
  refine R_al1 (n := 39) C dX9_copyFrom_38 rfl ?_
  refine M_getR (n := 42) C fl_X9_15 dX9_copyFrom_39 rfl rfl rfl ?_
  refine R_ic (n := 43) C dX9_copyFrom_42 ci_0 rfl ?_
  refine R_al0 (n := 44) C dX9_copyFrom_43 rfl ?_
  refine M_getR (n := 47) C fl_X9_15 dX9_copyFrom_44 rfl rfl rfl ?_
  refine R_ic (n := 48) C dX9_copyFrom_47 ci_0 rfl ?_
  refine R_ic (n := 49) C dX9_copyFrom_48 ci_5 rfl ?_
  refine M_copy (n := 52) C cp_X9_59 dX9_copyFrom_49 rfl rfl (by decide) (by decide) (by decide) (by decide) rfl ?_
  refine R_al1 (n := 53) C dX9_copyFrom_52 rfl ?_
  refine M_getR (n := 56) C fl_X9_18 dX9_copyFrom_53 rfl rfl rfl ?_
  refine R_ic (n := 57) C dX9_copyFrom_56 ci_0 rfl ?_
  refine R_al0 (n := 58) C dX9_copyFrom_57 rfl ?_
  refine M_getR (n := 61) C fl_X9_18 dX9_copyFrom_58 rfl rfl rfl ?_
  refine R_ic (n := 62) C dX9_copyFrom_61 ci_0 rfl ?_
  refine R_ic (n := 63) C dX9_copyFrom_62 ci_5 rfl ?_
  refine M_copy (n := 66) C cp_X9_59 dX9_copyFrom_63 rfl rfl (by decide) (by decide) (by decide) (by decide) rfl ?_
  refine R_al1 (n := 67) C dX9_copyFrom_66 rfl ?_
  refine M_getR (n := 70) C fl_X9_21 dX9_copyFrom_67 rfl rfl rfl ?_
  refine R_ic (n := 71) C dX9_copyFrom_70 ci_0 rfl ?_
  refine R_al0 (n := 72) C dX9_copyFrom_71 rfl ?_
  refine M_getR (n := 75) C fl_X9_21 dX9_copyFrom_72 rfl rfl rfl ?_
  refine R_ic (n := 76) C dX9_copyFrom_75 ci_0 rfl ?_
  refine R_ic (n := 77) C dX9_copyFrom_76 ci_5 rfl ?_
  refine M_copy (n := 80) C cp_X9_59 dX9_copyFrom_77 rfl rfl (by decide) (by decide) (by decide) (by decide) rfl ?_
  refine R_al1 (n := 81) C dX9_copyFrom_80 rfl ?_
  refine M_getR (n := 84) C fl_X9_24 dX9_copyFrom_81 rfl rfl rfl ?_
  refine R_ic (n := 85) C dX9_copyFrom_84 ci_0 rfl ?_
  refine R_al0 (n := 86) C dX9_copyFrom_85 rfl ?_
  refine M_getR (n := 89) C fl_X9_24 dX9_copyFrom_86 rfl rfl rfl ?_
  refine R_ic (n := 90) C dX9_copyFrom_89 ci_0 rfl ?_
  refine R_ic (n := 91) C dX9_copyFrom_90 ci_5 rfl ?_
  refine M_copy (n := 94) C cp_X9_59 dX9_copyFrom_91 rfl rfl (by decide) (by decide) (by decide) (by decide) rfl ?_
  refine R_al1 (n := 95) C dX9_copyFrom_94 rfl ?_
  refine M_getR (n := 98) C fl_X9_27 dX9_copyFrom_95 rfl rfl rfl ?_
  refine R_ic (n := 99) C dX9_copyFrom_98 ci_0 rfl ?_
  refine R_al0 (n := 100) C dX9_copyFrom_99 rfl ?_
  refine M_getR (n := 103) C fl_X9_27 dX9_copyFrom_100 rfl rfl rfl ?_
  refine R_ic (n := 104) C dX9_copyFrom_103 ci_0 rfl ?_
  refine R_bp (n := 106) C dX9_copyFrom_104 cb_30 rfl ?_
  refine M_copy (n := 109) C cp_X9_59 dX9_copyFrom_106 rfl rfl (by decide) (by decide) (by decide) (by decide) rfl ?_
  refine R_al1 (n := 110) C dX9_copyFrom_109 rfl ?_
  refine M_getR (n := 113) C fl_X9_30 dX9_copyFrom_110 rfl rfl rfl ?_
  refine R_ic (n := 114) C dX9_copyFrom_113 ci_0 rfl ?_
  refine R_al0 (n := 115) C dX9_copyFrom_114 rfl ?_
  refine M_getR (n := 118) C fl_X9_30 dX9_copyFrom_115 rfl rfl rfl ?_
  refine R_ic (n := 119) C dX9_copyFrom_118 ci_0 rfl ?_
  refine R_bp (n := 121) C dX9_copyFrom_119 cb_6 rfl ?_
  refine M_copy (n := 124) C cp_X9_59 dX9_copyFrom_121 rfl rfl (by decide) (by decide) (by decide) (by decide) rfl ?_
  refine R_al1 (n := 125) C dX9_copyFrom_124 rfl ?_
  refine M_getR (n := 128) C fl_X9_33 dX9_copyFrom_125 rfl rfl rfl ?_
  refine R_ic (n := 129) C dX9_copyFrom_128 ci_0 rfl ?_
  refine R_al0 (n := 130) C dX9_copyFrom_129 rfl ?_
  refine M_getR (n := 133) C fl_X9_33 dX9_copyFrom_130 rfl rfl rfl ?_
  refine R_ic (n := 134) C dX9_copyFrom_133 ci_0 rfl ?_
  refine R_bp (n := 136) C dX9_copyFrom_134 cb_6 rfl ?_
  refine M_copy (n := 139) C cp_X9_59 dX9_copyFrom_136 rfl rfl (by decide) (by decide) (by decide) (by decide) rfl ?_
  refine R_al1 (n := 140) C dX9_copyFrom_139 rfl ?_
  refine M_getR (n := 143) C fl_X9_36 dX9_copyFrom_140 rfl rfl rfl ?_
  refine R_ic (n := 144) C dX9_copyFrom_143 ci_0 rfl ?_
  refine R_al0 (n := 145) C dX9_copyFrom_144 rfl ?_
  refine M_getR (n := 148) C fl_X9_36 dX9_copyFrom_145 rfl rfl rfl ?_
  refine R_ic (n := 149) C dX9_copyFrom_148 ci_0 rfl ?_
  refine R_bp (n := 151) C dX9_copyFrom_149 cb_6 rfl ?_
  refine M_copy (n := 154) C cp_X9_59 dX9_copyFrom_151 rfl rfl (by decide) (by decide) (by decide) (by decide) rfl ?_
  refine R_vret C CR (Nat.zero_le _) (Nat.zero_le _) dX9_copyFrom_154 ?_
  refine ⟨rfl, rfl, ⟨?_, ?_, ?_, fun j k hj hk => ?_⟩, fun z hz => ?_⟩
  · simp [va_up]; exact q1.1.1
  · simp [va_up]; exact q1.1.2.1
  · simp [va_up]; exact q1.1.2.2
  · match j, hj, hk with
    | 0, _, hk =>
      have hk' : k < 5 := hk
      have e := R.2.2.2 0 k (by decide) hk
      simp [va_up, va_cpy, hk']
      rw [q1.2 _ (by decide)]
      exact e
    | 1, _, hk =>
      have hk' : k < 5 := hk
      have e := R.2.2.2 1 k (by decide) hk
      simp [va_up, va_cpy, hk']
      rw [q1.2 _ (by decide)]
      exact e
    | 2, _, hk =>
      have hk' : k < 5 := hk
      have e := R.2.2.2 2 k (by decide) hk
      simp [va_up, va_cpy, hk']
      rw [q1.2 _ (by decide)]
      exact e
    | 3, _, hk =>
      have hk' : k < 5 := hk
      have e := R.2.2.2 3 k (by decide) hk
      simp [va_up, va_cpy, hk']
      rw [q1.2 _ (by decide)]
      exact e
    | 4, _, hk =>
      have hk' : k < 5 := hk
      have e := R.2.2.2 4 k (by decide) hk
      simp [va_up, va_cpy, hk']
      rw [q1.2 _ (by decide)]
      exact e
    | 5, _, hk =>
      have hk' : k < 30 := hk
      have e := R.2.2.2 5 k (by decide) hk
      simp [va_up, va_cpy, hk']
      rw [q1.2 _ (by decide)]
      exact e
    | 6, _, hk =>
      have hk' : k < 6 := hk
      have e := R.2.2.2 6 k (by decide) hk
      simp [va_up, va_cpy, hk']
      rw [q1.2 _ (by decide)]
      exact e
    | 7, _, hk =>
      have hk' : k < 6 := hk
      have e := R.2.2.2 7 k (by decide) hk
      simp [va_up, va_cpy, hk']
      rw [q1.2 _ (by decide)]
      exact e
    | 8, _, hk =>
      have hk' : k < 6 := hk
      have e := R.2.2.2 8 k (by decide) hk
      simp [va_up, va_cpy, hk']
      rw [q1.2 _ (by decide)]
      exact e
  · rw [vup_row (by omega), vup_row (by omega), vup_row (by omega), vup_row (by omega), vup_row (by omega), vup_row (by omega), vup_row (by omega), vup_row (by omega), vup_row (by omega)]
    exact q1.2 z (by omega)
set_option maxRecDepth 20000 in
set_option maxHeartbeats 4000000 in
theorem c_copy_63_1 (l : Launch) (D : va_G) (cA : Nat → ClassId) (r : Nat → Nat) {h : Hp} {σ : WS} (R : RW 1 σ h) : Cn l D cA yX9_copyFrom cX9_copyFrom 2 none 1 0 0 [.ref (r 63), .ref (r 1)] (LY r) h (pG none (LY r) (fun h' => RW 63 σ h' ∧ ∀ z, z < 63 ∨ 72 < z → h' z = h z)) := by
  refine Cn.of (lv := [some (.ref (r 63)), some (.ref (r 1))]) (by decide +kernel) (Nat.le_of_ble_eq_true rfl) rfl (fun X hnm C CR => ?_)
  refine R_al0 (n := 1) C dX9_copyFrom_0 rfl ?_
  refine R_al1 (n := 2) C dX9_copyFrom_1 rfl ?_
  refine M_getI (n := 5) C fl_X9_43 dX9_copyFrom_2 rfl rfl R.1 rfl ?_
  refine M_putI (n := 8) C fl_X9_43 dX9_copyFrom_5 rfl rfl rfl rfl rfl ?_
  refine R_al0 (n := 9) C dX9_copyFrom_8 rfl ?_
  refine R_al1 (n := 10) C dX9_copyFrom_9 rfl ?_
  refine M_getI (n := 13) C fl_X9_47 dX9_copyFrom_10 rfl rfl (show _ = nI (sKn σ) from up2_get (by decide) R.2.1) rfl ?_
  refine M_putI (n := 16) C fl_X9_47 dX9_copyFrom_13 rfl rfl rfl rfl rfl ?_
  refine R_al0 (n := 17) C dX9_copyFrom_16 rfl ?_
  refine R_al1 (n := 18) C dX9_copyFrom_17 rfl ?_
  refine M_getI (n := 21) C fl_X9_50 dX9_copyFrom_18 rfl rfl (show _ = nI (sSg σ) from up2_get (by decide) (up2_get (by decide) R.2.2.1)) rfl ?_
  refine M_putI (n := 24) C fl_X9_50 dX9_copyFrom_21 rfl rfl rfl rfl rfl ?_
  refine R_gen (fun h1 => (h1 63 0 = nI (sN σ) ∧ h1 63 1 = nI (sKn σ) ∧ h1 63 2 = nI (sSg σ)) ∧ ∀ z, z ≠ 63 → h1 z = h z) ⟨⟨by simp [up2_at], by simp [up2_at], by simp [up2_at]⟩, fun z hz => by rw [up2_row hz, up2_row hz, up2_row hz]⟩ (fun h1 q1 => ?_)
  refine R_al1 (n := 25) C dX9_copyFrom_24 rfl ?_
  refine M_getR (n := 28) C fl_X9_9 dX9_copyFrom_25 rfl rfl rfl ?_
  refine R_ic (n := 29) C dX9_copyFrom_28 ci_0 rfl ?_
  refine R_al0 (n := 30) C dX9_copyFrom_29 rfl ?_
  refine M_getR (n := 33) C fl_X9_9 dX9_copyFrom_30 rfl rfl rfl ?_
  refine R_ic (n := 34) C dX9_copyFrom_33 ci_0 rfl ?_
  refine R_ic (n := 35) C dX9_copyFrom_34 ci_5 rfl ?_
  refine M_copy (n := 38) C cp_X9_59 dX9_copyFrom_35 rfl rfl (by decide) (by decide) (by decide) (by decide) rfl ?_
  refine R_al1 (n := 39) C dX9_copyFrom_38 rfl ?_
  refine M_getR (n := 42) C fl_X9_15 dX9_copyFrom_39 rfl rfl rfl ?_
  refine R_ic (n := 43) C dX9_copyFrom_42 ci_0 rfl ?_
  refine R_al0 (n := 44) C dX9_copyFrom_43 rfl ?_
  refine M_getR (n := 47) C fl_X9_15 dX9_copyFrom_44 rfl rfl rfl ?_
  refine R_ic (n := 48) C dX9_copyFrom_47 ci_0 rfl ?_
  refine R_ic (n := 49) C dX9_copyFrom_48 ci_5 rfl ?_
  refine M_copy (n := 52) C cp_X9_59 dX9_copyFrom_49 rfl rfl (by decide) (by decide) (by decide) (by decide) rfl ?_
  refine R_al1 (n := 53) C dX9_copyFrom_52 rfl ?_
  refine M_getR (n := 56) C fl_X9_18 dX9_copyFrom_53 rfl rfl rfl ?_
  refine R_ic (n := 57) C dX9_copyFrom_56 ci_0 rfl ?_
  refine R_al0 (n := 58) C dX9_copyFrom_57 rfl ?_
  refine M_getR (n := 61) C fl_X9_18 dX9_copyFrom_58 rfl rfl rfl ?_
  refine R_ic (n := 62) C dX9_copyFrom_61 ci_0 rfl ?_
  refine R_ic (n := 63) C dX9_copyFrom_62 ci_5 rfl ?_
  refine M_copy (n := 66) C cp_X9_59 dX9_copyFrom_63 rfl rfl (by decide) (by decide) (by decide) (by decide) rfl ?_
  refine R_al1 (n := 67) C dX9_copyFrom_66 rfl ?_
  refine M_getR (n := 70) C fl_X9_21 dX9_copyFrom_67 rfl rfl rfl ?_
  refine R_ic (n := 71) C dX9_copyFrom_70 ci_0 rfl ?_
  refine R_al0 (n := 72) C dX9_copyFrom_71 rfl ?_
  refine M_getR (n := 75) C fl_X9_21 dX9_copyFrom_72 rfl rfl rfl ?_
  refine R_ic (n := 76) C dX9_copyFrom_75 ci_0 rfl ?_
  refine R_ic (n := 77) C dX9_copyFrom_76 ci_5 rfl ?_
  refine M_copy (n := 80) C cp_X9_59 dX9_copyFrom_77 rfl rfl (by decide) (by decide) (by decide) (by decide) rfl ?_
  refine R_al1 (n := 81) C dX9_copyFrom_80 rfl ?_
  refine M_getR (n := 84) C fl_X9_24 dX9_copyFrom_81 rfl rfl rfl ?_
  refine R_ic (n := 85) C dX9_copyFrom_84 ci_0 rfl ?_
  refine R_al0 (n := 86) C dX9_copyFrom_85 rfl ?_
  refine M_getR (n := 89) C fl_X9_24 dX9_copyFrom_86 rfl rfl rfl ?_
  refine R_ic (n := 90) C dX9_copyFrom_89 ci_0 rfl ?_
  refine R_ic (n := 91) C dX9_copyFrom_90 ci_5 rfl ?_
  refine M_copy (n := 94) C cp_X9_59 dX9_copyFrom_91 rfl rfl (by decide) (by decide) (by decide) (by decide) rfl ?_
  refine R_al1 (n := 95) C dX9_copyFrom_94 rfl ?_
  refine M_getR (n := 98) C fl_X9_27 dX9_copyFrom_95 rfl rfl rfl ?_
  refine R_ic (n := 99) C dX9_copyFrom_98 ci_0 rfl ?_
  refine R_al0 (n := 100) C dX9_copyFrom_99 rfl ?_
  refine M_getR (n := 103) C fl_X9_27 dX9_copyFrom_100 rfl rfl rfl ?_
  refine R_ic (n := 104) C dX9_copyFrom_103 ci_0 rfl ?_
  refine R_bp (n := 106) C dX9_copyFrom_104 cb_30 rfl ?_
  refine M_copy (n := 109) C cp_X9_59 dX9_copyFrom_106 rfl rfl (by decide) (by decide) (by decide) (by decide) rfl ?_
  refine R_al1 (n := 110) C dX9_copyFrom_109 rfl ?_
  refine M_getR (n := 113) C fl_X9_30 dX9_copyFrom_110 rfl rfl rfl ?_
  refine R_ic (n := 114) C dX9_copyFrom_113 ci_0 rfl ?_
  refine R_al0 (n := 115) C dX9_copyFrom_114 rfl ?_
  refine M_getR (n := 118) C fl_X9_30 dX9_copyFrom_115 rfl rfl rfl ?_
  refine R_ic (n := 119) C dX9_copyFrom_118 ci_0 rfl ?_
  refine R_bp (n := 121) C dX9_copyFrom_119 cb_6 rfl ?_
  refine M_copy (n := 124) C cp_X9_59 dX9_copyFrom_121 rfl rfl (by decide) (by decide) (by decide) (by decide) rfl ?_
  refine R_al1 (n := 125) C dX9_copyFrom_124 rfl ?_
  refine M_getR (n := 128) C fl_X9_33 dX9_copyFrom_125 rfl rfl rfl ?_
  refine R_ic (n := 129) C dX9_copyFrom_128 ci_0 rfl ?_
  refine R_al0 (n := 130) C dX9_copyFrom_129 rfl ?_
  refine M_getR (n := 133) C fl_X9_33 dX9_copyFrom_130 rfl rfl rfl ?_
  refine R_ic (n := 134) C dX9_copyFrom_133 ci_0 rfl ?_
  refine R_bp (n := 136) C dX9_copyFrom_134 cb_6 rfl ?_
  refine M_copy (n := 139) C cp_X9_59 dX9_copyFrom_136 rfl rfl (by decide) (by decide) (by decide) (by decide) rfl ?_
  refine R_al1 (n := 140) C dX9_copyFrom_139 rfl ?_
  refine M_getR (n := 143) C fl_X9_36 dX9_copyFrom_140 rfl rfl rfl ?_
  refine R_ic (n := 144) C dX9_copyFrom_143 ci_0 rfl ?_
  refine R_al0 (n := 145) C dX9_copyFrom_144 rfl ?_
  refine M_getR (n := 148) C fl_X9_36 dX9_copyFrom_145 rfl rfl rfl ?_
  refine R_ic (n := 149) C dX9_copyFrom_148 ci_0 rfl ?_
  refine R_bp (n := 151) C dX9_copyFrom_149 cb_6 rfl ?_
  refine M_copy (n := 154) C cp_X9_59 dX9_copyFrom_151 rfl rfl (by decide) (by decide) (by decide) (by decide) rfl ?_
  refine R_vret C CR (Nat.zero_le _) (Nat.zero_le _) dX9_copyFrom_154 ?_
  refine ⟨rfl, rfl, ⟨?_, ?_, ?_, fun j k hj hk => ?_⟩, fun z hz => ?_⟩
  · simp [va_up]; exact q1.1.1
  · simp [va_up]; exact q1.1.2.1
  · simp [va_up]; exact q1.1.2.2
  · match j, hj, hk with
    | 0, _, hk =>
      have hk' : k < 5 := hk
      have e := R.2.2.2 0 k (by decide) hk
      simp [va_up, va_cpy, hk']
      rw [q1.2 _ (by decide)]
      exact e
    | 1, _, hk =>
      have hk' : k < 5 := hk
      have e := R.2.2.2 1 k (by decide) hk
      simp [va_up, va_cpy, hk']
      rw [q1.2 _ (by decide)]
      exact e
    | 2, _, hk =>
      have hk' : k < 5 := hk
      have e := R.2.2.2 2 k (by decide) hk
      simp [va_up, va_cpy, hk']
      rw [q1.2 _ (by decide)]
      exact e
    | 3, _, hk =>
      have hk' : k < 5 := hk
      have e := R.2.2.2 3 k (by decide) hk
      simp [va_up, va_cpy, hk']
      rw [q1.2 _ (by decide)]
      exact e
    | 4, _, hk =>
      have hk' : k < 5 := hk
      have e := R.2.2.2 4 k (by decide) hk
      simp [va_up, va_cpy, hk']
      rw [q1.2 _ (by decide)]
      exact e
    | 5, _, hk =>
      have hk' : k < 30 := hk
      have e := R.2.2.2 5 k (by decide) hk
      simp [va_up, va_cpy, hk']
      rw [q1.2 _ (by decide)]
      exact e
    | 6, _, hk =>
      have hk' : k < 6 := hk
      have e := R.2.2.2 6 k (by decide) hk
      simp [va_up, va_cpy, hk']
      rw [q1.2 _ (by decide)]
      exact e
    | 7, _, hk =>
      have hk' : k < 6 := hk
      have e := R.2.2.2 7 k (by decide) hk
      simp [va_up, va_cpy, hk']
      rw [q1.2 _ (by decide)]
      exact e
    | 8, _, hk =>
      have hk' : k < 6 := hk
      have e := R.2.2.2 8 k (by decide) hk
      simp [va_up, va_cpy, hk']
      rw [q1.2 _ (by decide)]
      exact e
  · rw [vup_row (by omega), vup_row (by omega), vup_row (by omega), vup_row (by omega), vup_row (by omega), vup_row (by omega), vup_row (by omega), vup_row (by omega), vup_row (by omega)]
    exact q1.2 z (by omega)
set_option maxRecDepth 20000 in
set_option maxHeartbeats 4000000 in
theorem c_copy_1_53 (l : Launch) (D : va_G) (cA : Nat → ClassId) (r : Nat → Nat) {h : Hp} {σ : WS} (R : RW 53 σ h) : Cn l D cA yX9_copyFrom cX9_copyFrom 2 none 1 0 0 [.ref (r 1), .ref (r 53)] (LY r) h (pG none (LY r) (fun h' => RW 1 σ h' ∧ ∀ z, z < 1 ∨ 10 < z → h' z = h z)) := by
  refine Cn.of (lv := [some (.ref (r 1)), some (.ref (r 53))]) (by decide +kernel) (Nat.le_of_ble_eq_true rfl) rfl (fun X hnm C CR => ?_)
  refine R_al0 (n := 1) C dX9_copyFrom_0 rfl ?_
  refine R_al1 (n := 2) C dX9_copyFrom_1 rfl ?_
  refine M_getI (n := 5) C fl_X9_43 dX9_copyFrom_2 rfl rfl R.1 rfl ?_
  refine M_putI (n := 8) C fl_X9_43 dX9_copyFrom_5 rfl rfl rfl rfl rfl ?_
  refine R_al0 (n := 9) C dX9_copyFrom_8 rfl ?_
  refine R_al1 (n := 10) C dX9_copyFrom_9 rfl ?_
  refine M_getI (n := 13) C fl_X9_47 dX9_copyFrom_10 rfl rfl (show _ = nI (sKn σ) from up2_get (by decide) R.2.1) rfl ?_
  refine M_putI (n := 16) C fl_X9_47 dX9_copyFrom_13 rfl rfl rfl rfl rfl ?_
  refine R_al0 (n := 17) C dX9_copyFrom_16 rfl ?_
  refine R_al1 (n := 18) C dX9_copyFrom_17 rfl ?_
  refine M_getI (n := 21) C fl_X9_50 dX9_copyFrom_18 rfl rfl (show _ = nI (sSg σ) from up2_get (by decide) (up2_get (by decide) R.2.2.1)) rfl ?_
  refine M_putI (n := 24) C fl_X9_50 dX9_copyFrom_21 rfl rfl rfl rfl rfl ?_
  refine R_gen (fun h1 => (h1 1 0 = nI (sN σ) ∧ h1 1 1 = nI (sKn σ) ∧ h1 1 2 = nI (sSg σ)) ∧ ∀ z, z ≠ 1 → h1 z = h z) ⟨⟨by simp [up2_at], by simp [up2_at], by simp [up2_at]⟩, fun z hz => by rw [up2_row hz, up2_row hz, up2_row hz]⟩ (fun h1 q1 => ?_)
  refine R_al1 (n := 25) C dX9_copyFrom_24 rfl ?_
  refine M_getR (n := 28) C fl_X9_9 dX9_copyFrom_25 rfl rfl rfl ?_
  refine R_ic (n := 29) C dX9_copyFrom_28 ci_0 rfl ?_
  refine R_al0 (n := 30) C dX9_copyFrom_29 rfl ?_
  refine M_getR (n := 33) C fl_X9_9 dX9_copyFrom_30 rfl rfl rfl ?_
  refine R_ic (n := 34) C dX9_copyFrom_33 ci_0 rfl ?_
  refine R_ic (n := 35) C dX9_copyFrom_34 ci_5 rfl ?_
  refine M_copy (n := 38) C cp_X9_59 dX9_copyFrom_35 rfl rfl (by decide) (by decide) (by decide) (by decide) rfl ?_
  refine R_al1 (n := 39) C dX9_copyFrom_38 rfl ?_
  refine M_getR (n := 42) C fl_X9_15 dX9_copyFrom_39 rfl rfl rfl ?_
  refine R_ic (n := 43) C dX9_copyFrom_42 ci_0 rfl ?_
  refine R_al0 (n := 44) C dX9_copyFrom_43 rfl ?_
  refine M_getR (n := 47) C fl_X9_15 dX9_copyFrom_44 rfl rfl rfl ?_
  refine R_ic (n := 48) C dX9_copyFrom_47 ci_0 rfl ?_
  refine R_ic (n := 49) C dX9_copyFrom_48 ci_5 rfl ?_
  refine M_copy (n := 52) C cp_X9_59 dX9_copyFrom_49 rfl rfl (by decide) (by decide) (by decide) (by decide) rfl ?_
  refine R_al1 (n := 53) C dX9_copyFrom_52 rfl ?_
  refine M_getR (n := 56) C fl_X9_18 dX9_copyFrom_53 rfl rfl rfl ?_
  refine R_ic (n := 57) C dX9_copyFrom_56 ci_0 rfl ?_
  refine R_al0 (n := 58) C dX9_copyFrom_57 rfl ?_
  refine M_getR (n := 61) C fl_X9_18 dX9_copyFrom_58 rfl rfl rfl ?_
  refine R_ic (n := 62) C dX9_copyFrom_61 ci_0 rfl ?_
  refine R_ic (n := 63) C dX9_copyFrom_62 ci_5 rfl ?_
  refine M_copy (n := 66) C cp_X9_59 dX9_copyFrom_63 rfl rfl (by decide) (by decide) (by decide) (by decide) rfl ?_
  refine R_al1 (n := 67) C dX9_copyFrom_66 rfl ?_
  refine M_getR (n := 70) C fl_X9_21 dX9_copyFrom_67 rfl rfl rfl ?_
  refine R_ic (n := 71) C dX9_copyFrom_70 ci_0 rfl ?_
  refine R_al0 (n := 72) C dX9_copyFrom_71 rfl ?_
  refine M_getR (n := 75) C fl_X9_21 dX9_copyFrom_72 rfl rfl rfl ?_
  refine R_ic (n := 76) C dX9_copyFrom_75 ci_0 rfl ?_
  refine R_ic (n := 77) C dX9_copyFrom_76 ci_5 rfl ?_
  refine M_copy (n := 80) C cp_X9_59 dX9_copyFrom_77 rfl rfl (by decide) (by decide) (by decide) (by decide) rfl ?_
  refine R_al1 (n := 81) C dX9_copyFrom_80 rfl ?_
  refine M_getR (n := 84) C fl_X9_24 dX9_copyFrom_81 rfl rfl rfl ?_
  refine R_ic (n := 85) C dX9_copyFrom_84 ci_0 rfl ?_
  refine R_al0 (n := 86) C dX9_copyFrom_85 rfl ?_
  refine M_getR (n := 89) C fl_X9_24 dX9_copyFrom_86 rfl rfl rfl ?_
  refine R_ic (n := 90) C dX9_copyFrom_89 ci_0 rfl ?_
  refine R_ic (n := 91) C dX9_copyFrom_90 ci_5 rfl ?_
  refine M_copy (n := 94) C cp_X9_59 dX9_copyFrom_91 rfl rfl (by decide) (by decide) (by decide) (by decide) rfl ?_
  refine R_al1 (n := 95) C dX9_copyFrom_94 rfl ?_
  refine M_getR (n := 98) C fl_X9_27 dX9_copyFrom_95 rfl rfl rfl ?_
  refine R_ic (n := 99) C dX9_copyFrom_98 ci_0 rfl ?_
  refine R_al0 (n := 100) C dX9_copyFrom_99 rfl ?_
  refine M_getR (n := 103) C fl_X9_27 dX9_copyFrom_100 rfl rfl rfl ?_
  refine R_ic (n := 104) C dX9_copyFrom_103 ci_0 rfl ?_
  refine R_bp (n := 106) C dX9_copyFrom_104 cb_30 rfl ?_
  refine M_copy (n := 109) C cp_X9_59 dX9_copyFrom_106 rfl rfl (by decide) (by decide) (by decide) (by decide) rfl ?_
  refine R_al1 (n := 110) C dX9_copyFrom_109 rfl ?_
  refine M_getR (n := 113) C fl_X9_30 dX9_copyFrom_110 rfl rfl rfl ?_
  refine R_ic (n := 114) C dX9_copyFrom_113 ci_0 rfl ?_
  refine R_al0 (n := 115) C dX9_copyFrom_114 rfl ?_
  refine M_getR (n := 118) C fl_X9_30 dX9_copyFrom_115 rfl rfl rfl ?_
  refine R_ic (n := 119) C dX9_copyFrom_118 ci_0 rfl ?_
  refine R_bp (n := 121) C dX9_copyFrom_119 cb_6 rfl ?_
  refine M_copy (n := 124) C cp_X9_59 dX9_copyFrom_121 rfl rfl (by decide) (by decide) (by decide) (by decide) rfl ?_
  refine R_al1 (n := 125) C dX9_copyFrom_124 rfl ?_
  refine M_getR (n := 128) C fl_X9_33 dX9_copyFrom_125 rfl rfl rfl ?_
  refine R_ic (n := 129) C dX9_copyFrom_128 ci_0 rfl ?_
  refine R_al0 (n := 130) C dX9_copyFrom_129 rfl ?_
  refine M_getR (n := 133) C fl_X9_33 dX9_copyFrom_130 rfl rfl rfl ?_
  refine R_ic (n := 134) C dX9_copyFrom_133 ci_0 rfl ?_
  refine R_bp (n := 136) C dX9_copyFrom_134 cb_6 rfl ?_
  refine M_copy (n := 139) C cp_X9_59 dX9_copyFrom_136 rfl rfl (by decide) (by decide) (by decide) (by decide) rfl ?_
  refine R_al1 (n := 140) C dX9_copyFrom_139 rfl ?_
  refine M_getR (n := 143) C fl_X9_36 dX9_copyFrom_140 rfl rfl rfl ?_
  refine R_ic (n := 144) C dX9_copyFrom_143 ci_0 rfl ?_
  refine R_al0 (n := 145) C dX9_copyFrom_144 rfl ?_
  refine M_getR (n := 148) C fl_X9_36 dX9_copyFrom_145 rfl rfl rfl ?_
  refine R_ic (n := 149) C dX9_copyFrom_148 ci_0 rfl ?_
  refine R_bp (n := 151) C dX9_copyFrom_149 cb_6 rfl ?_
  refine M_copy (n := 154) C cp_X9_59 dX9_copyFrom_151 rfl rfl (by decide) (by decide) (by decide) (by decide) rfl ?_
  refine R_vret C CR (Nat.zero_le _) (Nat.zero_le _) dX9_copyFrom_154 ?_
  refine ⟨rfl, rfl, ⟨?_, ?_, ?_, fun j k hj hk => ?_⟩, fun z hz => ?_⟩
  · simp [va_up]; exact q1.1.1
  · simp [va_up]; exact q1.1.2.1
  · simp [va_up]; exact q1.1.2.2
  · match j, hj, hk with
    | 0, _, hk =>
      have hk' : k < 5 := hk
      have e := R.2.2.2 0 k (by decide) hk
      simp [va_up, va_cpy, hk']
      rw [q1.2 _ (by decide)]
      exact e
    | 1, _, hk =>
      have hk' : k < 5 := hk
      have e := R.2.2.2 1 k (by decide) hk
      simp [va_up, va_cpy, hk']
      rw [q1.2 _ (by decide)]
      exact e
    | 2, _, hk =>
      have hk' : k < 5 := hk
      have e := R.2.2.2 2 k (by decide) hk
      simp [va_up, va_cpy, hk']
      rw [q1.2 _ (by decide)]
      exact e
    | 3, _, hk =>
      have hk' : k < 5 := hk
      have e := R.2.2.2 3 k (by decide) hk
      simp [va_up, va_cpy, hk']
      rw [q1.2 _ (by decide)]
      exact e
    | 4, _, hk =>
      have hk' : k < 5 := hk
      have e := R.2.2.2 4 k (by decide) hk
      simp [va_up, va_cpy, hk']
      rw [q1.2 _ (by decide)]
      exact e
    | 5, _, hk =>
      have hk' : k < 30 := hk
      have e := R.2.2.2 5 k (by decide) hk
      simp [va_up, va_cpy, hk']
      rw [q1.2 _ (by decide)]
      exact e
    | 6, _, hk =>
      have hk' : k < 6 := hk
      have e := R.2.2.2 6 k (by decide) hk
      simp [va_up, va_cpy, hk']
      rw [q1.2 _ (by decide)]
      exact e
    | 7, _, hk =>
      have hk' : k < 6 := hk
      have e := R.2.2.2 7 k (by decide) hk
      simp [va_up, va_cpy, hk']
      rw [q1.2 _ (by decide)]
      exact e
    | 8, _, hk =>
      have hk' : k < 6 := hk
      have e := R.2.2.2 8 k (by decide) hk
      simp [va_up, va_cpy, hk']
      rw [q1.2 _ (by decide)]
      exact e
  · rw [vup_row (by omega), vup_row (by omega), vup_row (by omega), vup_row (by omega), vup_row (by omega), vup_row (by omega), vup_row (by omega), vup_row (by omega), vup_row (by omega)]
    exact q1.2 z (by omega)
set_option maxRecDepth 20000 in
set_option maxHeartbeats 4000000 in
theorem c_copy_1_63 (l : Launch) (D : va_G) (cA : Nat → ClassId) (r : Nat → Nat) {h : Hp} {σ : WS} (R : RW 63 σ h) : Cn l D cA yX9_copyFrom cX9_copyFrom 2 none 1 0 0 [.ref (r 1), .ref (r 63)] (LY r) h (pG none (LY r) (fun h' => RW 1 σ h' ∧ ∀ z, z < 1 ∨ 10 < z → h' z = h z)) := by
  refine Cn.of (lv := [some (.ref (r 1)), some (.ref (r 63))]) (by decide +kernel) (Nat.le_of_ble_eq_true rfl) rfl (fun X hnm C CR => ?_)
  refine R_al0 (n := 1) C dX9_copyFrom_0 rfl ?_
  refine R_al1 (n := 2) C dX9_copyFrom_1 rfl ?_
  refine M_getI (n := 5) C fl_X9_43 dX9_copyFrom_2 rfl rfl R.1 rfl ?_
  refine M_putI (n := 8) C fl_X9_43 dX9_copyFrom_5 rfl rfl rfl rfl rfl ?_
  refine R_al0 (n := 9) C dX9_copyFrom_8 rfl ?_
  refine R_al1 (n := 10) C dX9_copyFrom_9 rfl ?_
  refine M_getI (n := 13) C fl_X9_47 dX9_copyFrom_10 rfl rfl (show _ = nI (sKn σ) from up2_get (by decide) R.2.1) rfl ?_
  refine M_putI (n := 16) C fl_X9_47 dX9_copyFrom_13 rfl rfl rfl rfl rfl ?_
  refine R_al0 (n := 17) C dX9_copyFrom_16 rfl ?_
  refine R_al1 (n := 18) C dX9_copyFrom_17 rfl ?_
  refine M_getI (n := 21) C fl_X9_50 dX9_copyFrom_18 rfl rfl (show _ = nI (sSg σ) from up2_get (by decide) (up2_get (by decide) R.2.2.1)) rfl ?_
  refine M_putI (n := 24) C fl_X9_50 dX9_copyFrom_21 rfl rfl rfl rfl rfl ?_
  refine R_gen (fun h1 => (h1 1 0 = nI (sN σ) ∧ h1 1 1 = nI (sKn σ) ∧ h1 1 2 = nI (sSg σ)) ∧ ∀ z, z ≠ 1 → h1 z = h z) ⟨⟨by simp [up2_at], by simp [up2_at], by simp [up2_at]⟩, fun z hz => by rw [up2_row hz, up2_row hz, up2_row hz]⟩ (fun h1 q1 => ?_)
  refine R_al1 (n := 25) C dX9_copyFrom_24 rfl ?_
  refine M_getR (n := 28) C fl_X9_9 dX9_copyFrom_25 rfl rfl rfl ?_
  refine R_ic (n := 29) C dX9_copyFrom_28 ci_0 rfl ?_
  refine R_al0 (n := 30) C dX9_copyFrom_29 rfl ?_
  refine M_getR (n := 33) C fl_X9_9 dX9_copyFrom_30 rfl rfl rfl ?_
  refine R_ic (n := 34) C dX9_copyFrom_33 ci_0 rfl ?_
  refine R_ic (n := 35) C dX9_copyFrom_34 ci_5 rfl ?_
  refine M_copy (n := 38) C cp_X9_59 dX9_copyFrom_35 rfl rfl (by decide) (by decide) (by decide) (by decide) rfl ?_
  refine R_al1 (n := 39) C dX9_copyFrom_38 rfl ?_
  refine M_getR (n := 42) C fl_X9_15 dX9_copyFrom_39 rfl rfl rfl ?_
  refine R_ic (n := 43) C dX9_copyFrom_42 ci_0 rfl ?_
  refine R_al0 (n := 44) C dX9_copyFrom_43 rfl ?_
  refine M_getR (n := 47) C fl_X9_15 dX9_copyFrom_44 rfl rfl rfl ?_
  refine R_ic (n := 48) C dX9_copyFrom_47 ci_0 rfl ?_
  refine R_ic (n := 49) C dX9_copyFrom_48 ci_5 rfl ?_
  refine M_copy (n := 52) C cp_X9_59 dX9_copyFrom_49 rfl rfl (by decide) (by decide) (by decide) (by decide) rfl ?_
  refine R_al1 (n := 53) C dX9_copyFrom_52 rfl ?_
  refine M_getR (n := 56) C fl_X9_18 dX9_copyFrom_53 rfl rfl rfl ?_
  refine R_ic (n := 57) C dX9_copyFrom_56 ci_0 rfl ?_
  refine R_al0 (n := 58) C dX9_copyFrom_57 rfl ?_
  refine M_getR (n := 61) C fl_X9_18 dX9_copyFrom_58 rfl rfl rfl ?_
  refine R_ic (n := 62) C dX9_copyFrom_61 ci_0 rfl ?_
  refine R_ic (n := 63) C dX9_copyFrom_62 ci_5 rfl ?_
  refine M_copy (n := 66) C cp_X9_59 dX9_copyFrom_63 rfl rfl (by decide) (by decide) (by decide) (by decide) rfl ?_
  refine R_al1 (n := 67) C dX9_copyFrom_66 rfl ?_
  refine M_getR (n := 70) C fl_X9_21 dX9_copyFrom_67 rfl rfl rfl ?_
  refine R_ic (n := 71) C dX9_copyFrom_70 ci_0 rfl ?_
  refine R_al0 (n := 72) C dX9_copyFrom_71 rfl ?_
  refine M_getR (n := 75) C fl_X9_21 dX9_copyFrom_72 rfl rfl rfl ?_
  refine R_ic (n := 76) C dX9_copyFrom_75 ci_0 rfl ?_
  refine R_ic (n := 77) C dX9_copyFrom_76 ci_5 rfl ?_
  refine M_copy (n := 80) C cp_X9_59 dX9_copyFrom_77 rfl rfl (by decide) (by decide) (by decide) (by decide) rfl ?_
  refine R_al1 (n := 81) C dX9_copyFrom_80 rfl ?_
  refine M_getR (n := 84) C fl_X9_24 dX9_copyFrom_81 rfl rfl rfl ?_
  refine R_ic (n := 85) C dX9_copyFrom_84 ci_0 rfl ?_
  refine R_al0 (n := 86) C dX9_copyFrom_85 rfl ?_
  refine M_getR (n := 89) C fl_X9_24 dX9_copyFrom_86 rfl rfl rfl ?_
  refine R_ic (n := 90) C dX9_copyFrom_89 ci_0 rfl ?_
  refine R_ic (n := 91) C dX9_copyFrom_90 ci_5 rfl ?_
  refine M_copy (n := 94) C cp_X9_59 dX9_copyFrom_91 rfl rfl (by decide) (by decide) (by decide) (by decide) rfl ?_
  refine R_al1 (n := 95) C dX9_copyFrom_94 rfl ?_
  refine M_getR (n := 98) C fl_X9_27 dX9_copyFrom_95 rfl rfl rfl ?_
  refine R_ic (n := 99) C dX9_copyFrom_98 ci_0 rfl ?_
  refine R_al0 (n := 100) C dX9_copyFrom_99 rfl ?_
  refine M_getR (n := 103) C fl_X9_27 dX9_copyFrom_100 rfl rfl rfl ?_
  refine R_ic (n := 104) C dX9_copyFrom_103 ci_0 rfl ?_
  refine R_bp (n := 106) C dX9_copyFrom_104 cb_30 rfl ?_
  refine M_copy (n := 109) C cp_X9_59 dX9_copyFrom_106 rfl rfl (by decide) (by decide) (by decide) (by decide) rfl ?_
  refine R_al1 (n := 110) C dX9_copyFrom_109 rfl ?_
  refine M_getR (n := 113) C fl_X9_30 dX9_copyFrom_110 rfl rfl rfl ?_
  refine R_ic (n := 114) C dX9_copyFrom_113 ci_0 rfl ?_
  refine R_al0 (n := 115) C dX9_copyFrom_114 rfl ?_
  refine M_getR (n := 118) C fl_X9_30 dX9_copyFrom_115 rfl rfl rfl ?_
  refine R_ic (n := 119) C dX9_copyFrom_118 ci_0 rfl ?_
  refine R_bp (n := 121) C dX9_copyFrom_119 cb_6 rfl ?_
  refine M_copy (n := 124) C cp_X9_59 dX9_copyFrom_121 rfl rfl (by decide) (by decide) (by decide) (by decide) rfl ?_
  refine R_al1 (n := 125) C dX9_copyFrom_124 rfl ?_
  refine M_getR (n := 128) C fl_X9_33 dX9_copyFrom_125 rfl rfl rfl ?_
  refine R_ic (n := 129) C dX9_copyFrom_128 ci_0 rfl ?_
  refine R_al0 (n := 130) C dX9_copyFrom_129 rfl ?_
  refine M_getR (n := 133) C fl_X9_33 dX9_copyFrom_130 rfl rfl rfl ?_
  refine R_ic (n := 134) C dX9_copyFrom_133 ci_0 rfl ?_
  refine R_bp (n := 136) C dX9_copyFrom_134 cb_6 rfl ?_
  refine M_copy (n := 139) C cp_X9_59 dX9_copyFrom_136 rfl rfl (by decide) (by decide) (by decide) (by decide) rfl ?_
  refine R_al1 (n := 140) C dX9_copyFrom_139 rfl ?_
  refine M_getR (n := 143) C fl_X9_36 dX9_copyFrom_140 rfl rfl rfl ?_
  refine R_ic (n := 144) C dX9_copyFrom_143 ci_0 rfl ?_
  refine R_al0 (n := 145) C dX9_copyFrom_144 rfl ?_
  refine M_getR (n := 148) C fl_X9_36 dX9_copyFrom_145 rfl rfl rfl ?_
  refine R_ic (n := 149) C dX9_copyFrom_148 ci_0 rfl ?_
  refine R_bp (n := 151) C dX9_copyFrom_149 cb_6 rfl ?_
  refine M_copy (n := 154) C cp_X9_59 dX9_copyFrom_151 rfl rfl (by decide) (by decide) (by decide) (by decide) rfl ?_
  refine R_vret C CR (Nat.zero_le _) (Nat.zero_le _) dX9_copyFrom_154 ?_
  refine ⟨rfl, rfl, ⟨?_, ?_, ?_, fun j k hj hk => ?_⟩, fun z hz => ?_⟩
  · simp [va_up]; exact q1.1.1
  · simp [va_up]; exact q1.1.2.1
  · simp [va_up]; exact q1.1.2.2
  · match j, hj, hk with
    | 0, _, hk =>
      have hk' : k < 5 := hk
      have e := R.2.2.2 0 k (by decide) hk
      simp [va_up, va_cpy, hk']
      rw [q1.2 _ (by decide)]
      exact e
    | 1, _, hk =>
      have hk' : k < 5 := hk
      have e := R.2.2.2 1 k (by decide) hk
      simp [va_up, va_cpy, hk']
      rw [q1.2 _ (by decide)]
      exact e
    | 2, _, hk =>
      have hk' : k < 5 := hk
      have e := R.2.2.2 2 k (by decide) hk
      simp [va_up, va_cpy, hk']
      rw [q1.2 _ (by decide)]
      exact e
    | 3, _, hk =>
      have hk' : k < 5 := hk
      have e := R.2.2.2 3 k (by decide) hk
      simp [va_up, va_cpy, hk']
      rw [q1.2 _ (by decide)]
      exact e
    | 4, _, hk =>
      have hk' : k < 5 := hk
      have e := R.2.2.2 4 k (by decide) hk
      simp [va_up, va_cpy, hk']
      rw [q1.2 _ (by decide)]
      exact e
    | 5, _, hk =>
      have hk' : k < 30 := hk
      have e := R.2.2.2 5 k (by decide) hk
      simp [va_up, va_cpy, hk']
      rw [q1.2 _ (by decide)]
      exact e
    | 6, _, hk =>
      have hk' : k < 6 := hk
      have e := R.2.2.2 6 k (by decide) hk
      simp [va_up, va_cpy, hk']
      rw [q1.2 _ (by decide)]
      exact e
    | 7, _, hk =>
      have hk' : k < 6 := hk
      have e := R.2.2.2 7 k (by decide) hk
      simp [va_up, va_cpy, hk']
      rw [q1.2 _ (by decide)]
      exact e
    | 8, _, hk =>
      have hk' : k < 6 := hk
      have e := R.2.2.2 8 k (by decide) hk
      simp [va_up, va_cpy, hk']
      rw [q1.2 _ (by decide)]
      exact e
  · rw [vup_row (by omega), vup_row (by omega), vup_row (by omega), vup_row (by omega), vup_row (by omega), vup_row (by omega), vup_row (by omega), vup_row (by omega), vup_row (by omega)]
    exact q1.2 z (by omega)
set_option maxRecDepth 20000 in
set_option maxHeartbeats 4000000 in
theorem p_image (l : Launch) (D : va_G) (cA : Nat → ClassId) (r : Nat → Nat) {h : Hp} {G : GS} (R : RCl G h) (I : InvG G) (v : Int32) : Cn l D cA yX10_image cX10_image 2 (some .int) 2 0 0 [.ref (r 0), .int v] (LY r) h (pG (some (.int (aImage v))) (LY r) (fun h' => RCl (nImage G v) h' ∧ FrC h h')) := by
  refine Cn.of (lv := [some (.ref (r 0)), some (.int v)]) (by decide +kernel) (Nat.le_of_ble_eq_true rfl) rfl (fun X hnm C CR => ?_)
  refine R_il1 (n := 1) C dX10_image_0 rfl ?_
  refine R_ic (n := 2) C dX10_image_1 ci_0 rfl ?_
  refine R_ic (n := 3) C dX10_image_2 ci_1 rfl ?_
  refine R_callS (n := 6) C (c_isWithin _ _ _ r _ _ _) mw_X10_isWithin ml_X10_92 sv_X10_isWithin dX10_image_3 rfl rfl (Nat.le_of_ble_eq_true rfl) ⟨Nat.le_of_ble_eq_true rfl, Nat.le_of_ble_eq_true rfl⟩ ⟨Nat.le_refl _, Nat.le_refl _⟩ rfl (pEs ?_)
  refine R_if_neB (tgt := 12) C dX10_image_6 rfl rfl (fun c1 => ?_) (fun c1 => ?_)
  · obtain ⟨x, _, hx, rfl⟩ := win_of (by decide) (by decide) c1
    have xc : cl (nI x) = x := nI_clamp (by omega)
    rw [aImage, nImage, c1, if_pos rfl, if_pos rfl, xc] at CR
    obtain rfl | rfl : x = 0 ∨ x = 1 := by omega
    · refine R_al0 (n := 13) C dX10_image_12 rfl ?_
      refine M_getR (n := 16) C fl_X10_16 dX10_image_13 rfl rfl rfl ?_
      refine R_il1 (n := 17) C dX10_image_16 rfl ?_
      refine M_aald (n := 18) C dX10_image_17 rfl rfl rfl ?_
      refine R_al0 (n := 19) C dX10_image_18 rfl ?_
      refine M_getR (n := 22) C fl_X10_12 dX10_image_19 rfl rfl rfl ?_
      refine M_callV (n := 25) C (c_copy_53_1 _ _ _ r R.1) mw_X9_copyFrom ml_X10_298 iv_X9_copyFrom dX10_image_22 rfl rfl rfl rfl (Nat.le_of_ble_eq_true rfl) ⟨Nat.le_of_ble_eq_true rfl, Nat.le_of_ble_eq_true rfl⟩ ⟨Nat.le_refl _, Nat.le_refl _⟩ rfl (pGv (fun h1 q1 => ?_))
      refine R_al0 (n := 26) C dX10_image_25 rfl ?_
      refine M_getR (n := 29) C fl_X10_20 dX10_image_26 rfl rfl rfl ?_
      refine R_il1 (n := 30) C dX10_image_29 rfl ?_
      refine R_ic (n := 31) C dX10_image_30 ci_1 rfl ?_
      refine M_zast (n := 32) C (Or.inr rfl) dX10_image_31 rfl (by omega) rfl ?_
      refine R_ic (n := 33) C dX10_image_32 ci_1 rfl ?_
      refine R_iret C CR (Nat.zero_le _) (Nat.zero_le _) dX10_image_33 ?_
      refine ⟨rfl, rfl, ⟨?_, ?_, ?_, ?_, fun _ => ?_, fun k1 => ?_⟩, fun a ha => ?_⟩
      · exact RWf (fun a h1 h2 => by rw [up2_row (by omega)]; exact q1.2 a (by omega)) R.1
      · exact ⟨up2_get (by decide) (by rw [q1.2 13 (by omega)]; exact R.2.1.1), fun k hk => up2_get (by decide) (by rw [q1.2 14 (by omega)]; exact R.2.1.2 k hk)⟩
      · exact up2_same
      · exact up2_gne (by decide) (by rw [q1.2 12 (by omega)]; exact R.2.2.2.1)
      · exact RWf (fun a h1 h2 => up2_row (by omega)) q1.1
      · exact RWf (fun a h1 h2 => by rw [up2_row (by omega)]; exact q1.2 a (by omega)) (R.2.2.2.2.2 k1)
      · rw [up2_row (by omega)]
        exact q1.2 a (by omega)
    · refine R_al0 (n := 13) C dX10_image_12 rfl ?_
      refine M_getR (n := 16) C fl_X10_16 dX10_image_13 rfl rfl rfl ?_
      refine R_il1 (n := 17) C dX10_image_16 rfl ?_
      refine M_aald (n := 18) C dX10_image_17 rfl rfl rfl ?_
      refine R_al0 (n := 19) C dX10_image_18 rfl ?_
      refine M_getR (n := 22) C fl_X10_12 dX10_image_19 rfl rfl rfl ?_
      refine M_callV (n := 25) C (c_copy_63_1 _ _ _ r R.1) mw_X9_copyFrom ml_X10_298 iv_X9_copyFrom dX10_image_22 rfl rfl rfl rfl (Nat.le_of_ble_eq_true rfl) ⟨Nat.le_of_ble_eq_true rfl, Nat.le_of_ble_eq_true rfl⟩ ⟨Nat.le_refl _, Nat.le_refl _⟩ rfl (pGv (fun h1 q1 => ?_))
      refine R_al0 (n := 26) C dX10_image_25 rfl ?_
      refine M_getR (n := 29) C fl_X10_20 dX10_image_26 rfl rfl rfl ?_
      refine R_il1 (n := 30) C dX10_image_29 rfl ?_
      refine R_ic (n := 31) C dX10_image_30 ci_1 rfl ?_
      refine M_zast (n := 32) C (Or.inr rfl) dX10_image_31 rfl (by omega) rfl ?_
      refine R_ic (n := 33) C dX10_image_32 ci_1 rfl ?_
      refine R_iret C CR (Nat.zero_le _) (Nat.zero_le _) dX10_image_33 ?_
      refine ⟨rfl, rfl, ⟨?_, ?_, ?_, ?_, fun k0 => ?_, fun _ => ?_⟩, fun a ha => ?_⟩
      · exact RWf (fun a h1 h2 => by rw [up2_row (by omega)]; exact q1.2 a (by omega)) R.1
      · exact ⟨up2_get (by decide) (by rw [q1.2 13 (by omega)]; exact R.2.1.1), fun k hk => up2_get (by decide) (by rw [q1.2 14 (by omega)]; exact R.2.1.2 k hk)⟩
      · exact up2_gne (by decide) (by rw [q1.2 12 (by omega)]; exact R.2.2.1)
      · exact up2_same
      · exact RWf (fun a h1 h2 => by rw [up2_row (by omega)]; exact q1.2 a (by omega)) (R.2.2.2.2.1 k0)
      · exact RWf (fun a h1 h2 => up2_row (by omega)) q1.1
      · rw [up2_row (by omega)]
        exact q1.2 a (by omega)
  · rw [aImage, nImage, c1] at CR
    refine R_bp (n := 11) C dX10_image_9 cb_m2 rfl ?_
    refine R_iret C CR (Nat.zero_le _) (Nat.zero_le _) dX10_image_11 ?_
    exact ⟨rfl, rfl, R, FrC.rf⟩
set_option maxRecDepth 20000 in
set_option maxHeartbeats 4000000 in
theorem p_restore (l : Launch) (D : va_G) (cA : Nat → ClassId) (r : Nat → Nat) {h : Hp} {G : GS} (R : RCl G h) (I : InvG G) (v : Int32) : Cn l D cA yX10_restore cX10_restore 2 (some .int) 2 0 0 [.ref (r 0), .int v] (LY r) h (pG (some (.int (aRestore G v))) (LY r) (fun h' => RCl (nRestore G v) h' ∧ FrC h h')) := by
  refine Cn.of (lv := [some (.ref (r 0)), some (.int v)]) (by decide +kernel) (Nat.le_of_ble_eq_true rfl) rfl (fun X hnm C CR => ?_)
  refine R_il1 (n := 1) C dX10_restore_0 rfl ?_
  refine R_ic (n := 2) C dX10_restore_1 ci_0 rfl ?_
  refine R_ic (n := 3) C dX10_restore_2 ci_1 rfl ?_
  refine R_callS (n := 6) C (c_isWithin _ _ _ r _ _ _) mw_X10_isWithin ml_X10_92 sv_X10_isWithin dX10_restore_3 rfl rfl (Nat.le_of_ble_eq_true rfl) ⟨Nat.le_of_ble_eq_true rfl, Nat.le_of_ble_eq_true rfl⟩ ⟨Nat.le_refl _, Nat.le_refl _⟩ rfl (pEs ?_)
  refine R_if_neB (tgt := 12) C dX10_restore_6 rfl rfl (fun c1 => ?_) (fun c1 => ?_)
  · obtain ⟨x, _, hx, rfl⟩ := win_of (by decide) (by decide) c1
    have xc : cl (nI x) = x := nI_clamp (by omega)
    rw [aRestore, nRestore, c1, if_pos rfl, xc, Bool.true_and] at CR
    obtain rfl | rfl : x = 0 ∨ x = 1 := by omega
    · refine R_al0 (n := 13) C dX10_restore_12 rfl ?_
      refine M_getR (n := 16) C fl_X10_20 dX10_restore_13 rfl rfl rfl ?_
      refine R_il1 (n := 17) C dX10_restore_16 rfl ?_
      refine M_zald (n := 18) C dX10_restore_17 rfl (by omega) R.2.2.1 rfl ?_
      refine R_if_neB (tgt := 24) C dX10_restore_18 rfl rfl (fun c2 => ?_) (fun c2 => ?_)
      · rw [kpt, if_pos rfl, c2, if_pos rfl, if_pos rfl, if_pos rfl] at CR
        refine R_al0 (n := 25) C dX10_restore_24 rfl ?_
        refine M_getR (n := 28) C fl_X10_12 dX10_restore_25 rfl rfl rfl ?_
        refine R_al0 (n := 29) C dX10_restore_28 rfl ?_
        refine M_getR (n := 32) C fl_X10_16 dX10_restore_29 rfl rfl rfl ?_
        refine R_il1 (n := 33) C dX10_restore_32 rfl ?_
        refine M_aald (n := 34) C dX10_restore_33 rfl rfl rfl ?_
        refine M_callV (n := 37) C (c_copy_1_53 _ _ _ r (R.2.2.2.2.1 c2)) mw_X9_copyFrom ml_X10_298 iv_X9_copyFrom dX10_restore_34 rfl rfl rfl rfl (Nat.le_of_ble_eq_true rfl) ⟨Nat.le_of_ble_eq_true rfl, Nat.le_of_ble_eq_true rfl⟩ ⟨Nat.le_refl _, Nat.le_refl _⟩ rfl (pGv (fun h1 q1 => ?_))
        refine R_ic (n := 38) C dX10_restore_37 ci_1 rfl ?_
        refine R_iret C CR (Nat.zero_le _) (Nat.zero_le _) dX10_restore_38 ?_
        exact ⟨rfl, rfl, R.wood q1.1 (fun a ha => q1.2 a (by omega)), fun a ha => q1.2 a (by omega)⟩
      · rw [kpt, if_pos rfl, c2] at CR
        refine R_bp (n := 23) C dX10_restore_21 cb_m3 rfl ?_
        refine R_iret C CR (Nat.zero_le _) (Nat.zero_le _) dX10_restore_23 ?_
        exact ⟨rfl, rfl, R, FrC.rf⟩
    · refine R_al0 (n := 13) C dX10_restore_12 rfl ?_
      refine M_getR (n := 16) C fl_X10_20 dX10_restore_13 rfl rfl rfl ?_
      refine R_il1 (n := 17) C dX10_restore_16 rfl ?_
      refine M_zald (n := 18) C dX10_restore_17 rfl (by omega) R.2.2.2.1 rfl ?_
      refine R_if_neB (tgt := 24) C dX10_restore_18 rfl rfl (fun c2 => ?_) (fun c2 => ?_)
      · rw [show kpt G 1 = true from c2, if_pos rfl, if_pos rfl, if_neg (show ¬ (1 : Nat) = 0 by decide)] at CR
        refine R_al0 (n := 25) C dX10_restore_24 rfl ?_
        refine M_getR (n := 28) C fl_X10_12 dX10_restore_25 rfl rfl rfl ?_
        refine R_al0 (n := 29) C dX10_restore_28 rfl ?_
        refine M_getR (n := 32) C fl_X10_16 dX10_restore_29 rfl rfl rfl ?_
        refine R_il1 (n := 33) C dX10_restore_32 rfl ?_
        refine M_aald (n := 34) C dX10_restore_33 rfl rfl rfl ?_
        refine M_callV (n := 37) C (c_copy_1_63 _ _ _ r (R.2.2.2.2.2 c2)) mw_X9_copyFrom ml_X10_298 iv_X9_copyFrom dX10_restore_34 rfl rfl rfl rfl (Nat.le_of_ble_eq_true rfl) ⟨Nat.le_of_ble_eq_true rfl, Nat.le_of_ble_eq_true rfl⟩ ⟨Nat.le_refl _, Nat.le_refl _⟩ rfl (pGv (fun h1 q1 => ?_))
        refine R_ic (n := 38) C dX10_restore_37 ci_1 rfl ?_
        refine R_iret C CR (Nat.zero_le _) (Nat.zero_le _) dX10_restore_38 ?_
        exact ⟨rfl, rfl, R.wood q1.1 (fun a ha => q1.2 a (by omega)), fun a ha => q1.2 a (by omega)⟩
      · rw [show kpt G 1 = false from c2] at CR
        refine R_bp (n := 23) C dX10_restore_21 cb_m3 rfl ?_
        refine R_iret C CR (Nat.zero_le _) (Nat.zero_le _) dX10_restore_23 ?_
        exact ⟨rfl, rfl, R, FrC.rf⟩
  · rw [aRestore, nRestore, c1] at CR
    refine R_bp (n := 11) C dX10_restore_9 cb_m2 rfl ?_
    refine R_iret C CR (Nat.zero_le _) (Nat.zero_le _) dX10_restore_11 ?_
    exact ⟨rfl, rfl, R, FrC.rf⟩
