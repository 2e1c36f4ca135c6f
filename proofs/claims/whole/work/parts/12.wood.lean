set_option maxRecDepth 20000 in
set_option maxHeartbeats 4000000 in
theorem c_quarters (l : Launch) (D : va_G) (cA : Nat → ClassId) (r : Nat → Nat) {h : Hp} {σ : WS} (R : RW 1 σ h) (I : Inv σ) {w k l9 : Nat} (hw : w < 6) (hk : k < 5) (hl : l9 < 4) : Cn l D cA yX9_quarters cX9_quarters 5 (some .int) 0 0 0 [.ref (r 1), .int (nI w), .int (nI k), .int (nI l9)] (LY r) h (pE (some (.int (nI (qz σ w k l9)))) (LY r) h) := by
  refine Cn.of (lv := [some (.ref (r 1)), some (.int (nI w)), some (.int (nI k)), some (.int (nI l9)), none]) (by decide +kernel) (Nat.le_of_ble_eq_true rfl) rfl (fun X hnm C CR => ?_)
  have kd := I.kd hk
  refine R_al0 (n := 1) C dX9_quarters_0 rfl ?_
  refine M_getR (n := 4) C fl_X9_21 dX9_quarters_1 rfl rfl rfl ?_
  refine R_il2 (n := 5) C dX9_quarters_4 rfl ?_
  refine M_iald (n := 6) C dX9_quarters_5 rfl hk (wKd R hk) rfl ?_
  refine R_is4 (n := 8) C dX9_quarters_6 rfl (Nat.le_of_ble_eq_true rfl) rfl ?_
  refine R_il4 (n := 10) C dX9_quarters_8 rfl ?_
  refine R_ic (n := 11) C dX9_quarters_10 ci_1 rfl ?_
  refine R_icmp_eqN (tgt := 26) C dX9_quarters_11 rfl rfl (by omega) (by omega) (fun c1 => ?_) (fun c1 => ?_)
  · refine R_ic (n := 27) C dX9_quarters_26 ci_0 rfl ?_
    refine R_iret C CR (Nat.zero_le _) (Nat.zero_le _) dX9_quarters_27 ?_
    refine ⟨?_, rfl, rfl⟩
    rw [qz, if_pos (Or.inl c1)]
  · refine R_il4 (n := 16) C dX9_quarters_14 rfl ?_
    refine R_ic (n := 17) C dX9_quarters_16 ci_3 rfl ?_
    refine R_icmp_neN (tgt := 28) C dX9_quarters_17 rfl rfl (by omega) (by omega) (fun c2 => ?_) (fun c2 => ?_)
    · refine R_al0 (n := 29) C dX9_quarters_28 rfl ?_
      refine M_getR (n := 32) C fl_X9_27 dX9_quarters_29 rfl rfl rfl ?_
      refine R_il1 (n := 33) C dX9_quarters_32 rfl ?_
      refine R_ic (n := 34) C dX9_quarters_33 ci_5 rfl ?_
      refine R_imulN (n := 35) C dX9_quarters_34 rfl ?_
      refine R_il2 (n := 36) C dX9_quarters_35 rfl ?_
      refine R_iaddN (n := 37) C dX9_quarters_36 rfl ?_
      refine M_iald (n := 38) C dX9_quarters_37 rfl (by omega) (wTu R (by omega)) rfl ?_
      refine R_iret C CR (Nat.zero_le _) (Nat.zero_le _) dX9_quarters_38 ?_
      refine ⟨?_, rfl, rfl⟩
      rw [qz, if_neg (by omega), Nat.mul_comm]
    · refine R_il3 (n := 21) C dX9_quarters_20 rfl ?_
      refine R_ic (n := 22) C dX9_quarters_21 ci_1 rfl ?_
      refine R_iandN (n := 23) C dX9_quarters_22 rfl ?_
      refine R_eq (y := nI (l9 % 2)) (by congr 1; exact Nat.and_one_is_mod l9) ?_
      refine R_if_neN (tgt := 28) C dX9_quarters_23 rfl rfl (by omega) (fun c3 => ?_) (fun c3 => ?_)
      · refine R_al0 (n := 29) C dX9_quarters_28 rfl ?_
        refine M_getR (n := 32) C fl_X9_27 dX9_quarters_29 rfl rfl rfl ?_
        refine R_il1 (n := 33) C dX9_quarters_32 rfl ?_
        refine R_ic (n := 34) C dX9_quarters_33 ci_5 rfl ?_
        refine R_imulN (n := 35) C dX9_quarters_34 rfl ?_
        refine R_il2 (n := 36) C dX9_quarters_35 rfl ?_
        refine R_iaddN (n := 37) C dX9_quarters_36 rfl ?_
        refine M_iald (n := 38) C dX9_quarters_37 rfl (by omega) (wTu R (by omega)) rfl ?_
        refine R_iret C CR (Nat.zero_le _) (Nat.zero_le _) dX9_quarters_38 ?_
        refine ⟨?_, rfl, rfl⟩
        rw [qz, if_neg (by omega), Nat.mul_comm]
      · refine R_ic (n := 27) C dX9_quarters_26 ci_0 rfl ?_
        refine R_iret C CR (Nat.zero_le _) (Nat.zero_le _) dX9_quarters_27 ?_
        refine ⟨?_, rfl, rfl⟩
        rw [qz, if_pos (Or.inr ⟨c2, c3⟩)]
set_option maxRecDepth 20000 in
set_option maxHeartbeats 4000000 in
theorem c_turned (l : Launch) (D : va_G) (cA : Nat → ClassId) (r : Nat → Nat) {h : Hp} {σ : WS} (R : RW 1 σ h) (I : Inv σ) {k l9 b : Nat} (hk : k < 5) (hl : l9 < 4) (hb : b < 4) : Cn l D cA yX9_turned cX9_turned 4 (some .int) 0 0 0 [.ref (r 1), .int (nI k), .int (nI l9), .int (nI b)] (LY r) h (pE (some (.int (nI (tz σ k l9 b)))) (LY r) h) := by
  refine Cn.of (lv := [some (.ref (r 1)), some (.int (nI k)), some (.int (nI l9)), some (.int (nI b))]) (by decide +kernel) (Nat.le_of_ble_eq_true rfl) rfl (fun X hnm C CR => ?_)
  have kd := I.kd hk
  refine R_al0 (n := 1) C dX9_turned_0 rfl ?_
  refine M_getR (n := 4) C fl_X9_21 dX9_turned_1 rfl rfl rfl ?_
  refine R_il1 (n := 5) C dX9_turned_4 rfl ?_
  refine M_iald (n := 6) C dX9_turned_5 rfl hk (wKd R hk) rfl ?_
  refine R_ic (n := 7) C dX9_turned_6 ci_2 rfl ?_
  refine R_icmp_neN (tgt := 16) C dX9_turned_7 rfl rfl (by omega) (by omega) (fun c1 => ?_) (fun c1 => ?_)
  · refine R_il2 (n := 17) C dX9_turned_16 rfl ?_
    refine R_il3 (n := 18) C dX9_turned_17 rfl ?_
    refine R_iaddN (n := 19) C dX9_turned_18 rfl ?_
    refine R_ic (n := 20) C dX9_turned_19 ci_3 rfl ?_
    refine R_iandN (n := 21) C dX9_turned_20 rfl ?_
    refine R_iret C CR (Nat.zero_le _) (Nat.zero_le _) dX9_turned_21 ?_
    refine ⟨?_, rfl, rfl⟩
    rw [tz, if_neg c1, and3]
  · refine R_il2 (n := 11) C dX9_turned_10 rfl ?_
    refine R_il3 (n := 12) C dX9_turned_11 rfl ?_
    refine R_isub (n := 13) C dX9_turned_12 rfl ?_
    refine R_goto (n := 19) C dX9_turned_13 rfl ?_
    refine R_ic (n := 20) C dX9_turned_19 ci_3 rfl ?_
    refine R_iand C dX9_turned_20 rfl (R_eq (nI_sub3 hl hb) ?_)
    refine R_iret C CR (Nat.zero_le _) (Nat.zero_le _) dX9_turned_21 ?_
    refine ⟨?_, rfl, rfl⟩
    rw [tz, if_pos c1]
set_option maxRecDepth 20000 in
set_option maxHeartbeats 4000000 in
theorem c_isWithin (l : Launch) (D : va_G) (cA : Nat → ClassId) (r : Nat → Nat) {L : Ly} {h : Hp} (v a b : Int32) : Cn l D cA yX10_isWithin cX10_isWithin 3 (some .boolean) 0 0 0 [.int v, .int a, .int b] (L) h (pE (some (.int (bI (win v a b)))) L h) := by
  refine Cn.of (lv := [some (.int v), some (.int a), some (.int b)]) (by decide +kernel) (Nat.le_of_ble_eq_true rfl) rfl (fun X hnm C CR => ?_)
  refine R_il0 (n := 1) C dX10_isWithin_0 rfl ?_
  refine R_il1 (n := 2) C dX10_isWithin_1 rfl ?_
  refine R_icmp_lt (tgt := 14) C dX10_isWithin_2 rfl rfl (fun c1 => ?_) (fun c1 => ?_)
  · refine R_ic (n := 15) C dX10_isWithin_14 ci_0 rfl ?_
    refine R_zret0 C CR (Nat.zero_le _) (Nat.zero_le _) dX10_isWithin_15 ?_
    exact ⟨by rw [win_lo c1], rfl, rfl⟩
  · refine R_il0 (n := 6) C dX10_isWithin_5 rfl ?_
    refine R_il2 (n := 7) C dX10_isWithin_6 rfl ?_
    refine R_icmp_gt (tgt := 14) C dX10_isWithin_7 rfl rfl (fun c2 => ?_) (fun c2 => ?_)
    · refine R_ic (n := 15) C dX10_isWithin_14 ci_0 rfl ?_
      refine R_zret0 C CR (Nat.zero_le _) (Nat.zero_le _) dX10_isWithin_15 ?_
      exact ⟨by rw [win_hi c2], rfl, rfl⟩
    · refine R_ic (n := 11) C dX10_isWithin_10 ci_1 rfl ?_
      refine R_goto (n := 15) C dX10_isWithin_11 rfl ?_
      refine R_zret1 C CR (Nat.zero_le _) (Nat.zero_le _) dX10_isWithin_15 ?_
      exact ⟨by rw [win_ok c1 c2], rfl, rfl⟩
set_option maxRecDepth 20000 in
set_option maxHeartbeats 4000000 in
theorem c_isIn (l : Launch) (D : va_G) (cA : Nat → ClassId) (r : Nat → Nat) {L : Ly} {h : Hp} {s m : Nat} (hs : s < 2 ^ 31) (hm : m < 32) : Cn l D cA yX10_isIn cX10_isIn 2 (some .boolean) 0 0 0 [.int (nI s), .int (nI m)] (L) h (pE (some (.int (bI (s.testBit m)))) L h) := by
  refine Cn.of (lv := [some (.int (nI s)), some (.int (nI m))]) (by decide +kernel) (Nat.le_of_ble_eq_true rfl) rfl (fun X hnm C CR => ?_)
  refine R_il0 (n := 1) C dX10_isIn_0 rfl ?_
  refine R_il1 (n := 2) C dX10_isIn_1 rfl ?_
  refine R_ishrN (n := 3) C dX10_isIn_2 (by omega) (by omega) rfl ?_
  refine R_ic (n := 4) C dX10_isIn_3 ci_1 rfl ?_
  refine R_iandN (n := 5) C dX10_isIn_4 rfl ?_
  refine R_eq (y := nI (s / 2 ^ m % 2)) (by rw [and1]) ?_
  have h2 : s / 2 ^ m % 2 < 2 := Nat.mod_lt _ (by decide)
  refine R_if_eqN (tgt := 12) C dX10_isIn_5 rfl rfl (by omega) (fun c1 => ?_) (fun c1 => ?_)
  · refine R_ic (n := 13) C dX10_isIn_12 ci_0 rfl ?_
    refine R_zret0 C CR (Nat.zero_le _) (Nat.zero_le _) dX10_isIn_13 ?_
    exact ⟨by rw [tb_div, c1]; rfl, rfl, rfl⟩
  · refine R_ic (n := 9) C dX10_isIn_8 ci_1 rfl ?_
    refine R_goto (n := 13) C dX10_isIn_9 rfl ?_
    refine R_zret1 C CR (Nat.zero_le _) (Nat.zero_le _) dX10_isIn_13 ?_
    exact ⟨by rw [tb_div, show s / 2 ^ m % 2 = 1 by omega]; rfl, rfl, rfl⟩
set_option maxRecDepth 20000 in
set_option maxHeartbeats 4000000 in
theorem c_lookIn (l : Launch) (D : va_G) (cA : Nat → ClassId) (r : Nat → Nat) {L : Ly} {h : Hp} {s m : Nat} (hs : s < 2 ^ 31) (hm : m < 16) : Cn l D cA yX10_lookIn cX10_lookIn 2 (some .int) 0 0 0 [.int (nI s), .int (nI m)] (L) h (pE (some (.int (nI (wy s m)))) L h) := by
  refine Cn.of (lv := [some (.int (nI s)), some (.int (nI m))]) (by decide +kernel) (Nat.le_of_ble_eq_true rfl) rfl (fun X hnm C CR => ?_)
  refine R_il0 (n := 1) C dX10_lookIn_0 rfl ?_
  refine R_ic (n := 2) C dX10_lookIn_1 ci_2 rfl ?_
  refine R_il1 (n := 3) C dX10_lookIn_2 rfl ?_
  refine R_imulN (n := 4) C dX10_lookIn_3 rfl ?_
  refine R_ishrN (n := 5) C dX10_lookIn_4 (by omega) (by omega) rfl ?_
  refine R_ic (n := 6) C dX10_lookIn_5 ci_3 rfl ?_
  refine R_iandN (n := 7) C dX10_lookIn_6 rfl ?_
  refine R_iret C CR (Nat.zero_le _) (Nat.zero_le _) dX10_lookIn_7 ?_
  exact ⟨by rw [and3]; rfl, rfl, rfl⟩
set_option maxRecDepth 20000 in
set_option maxHeartbeats 4000000 in
theorem c_hasHut (l : Launch) (D : va_G) (cA : Nat → ClassId) (r : Nat → Nat) {h : Hp} {σ : WS} (R : RW 1 σ h) (I : Inv σ) (v : Int32) : Cn l D cA yX9_hasHut cX9_hasHut 2 (some .boolean) 1 0 0 [.ref (r 1), .int v] (LY r) h (pE (some (.int (bI (win v (nI 0) (nI (sN σ - 1)))))) (LY r) h) := by
  refine Cn.of (lv := [some (.ref (r 1)), some (.int v)]) (by decide +kernel) (Nat.le_of_ble_eq_true rfl) rfl (fun X hnm C CR => ?_)
  have n1 := I.n1
  refine R_il1 (n := 1) C dX9_hasHut_0 rfl ?_
  refine R_ic (n := 2) C dX9_hasHut_1 ci_0 rfl ?_
  refine R_al0 (n := 3) C dX9_hasHut_2 rfl ?_
  refine M_getI (n := 6) C fl_X9_43 dX9_hasHut_3 rfl rfl (wN R) rfl ?_
  refine R_ic (n := 7) C dX9_hasHut_6 ci_1 rfl ?_
  refine R_isubN (n := 8) C dX9_hasHut_7 (by omega) rfl ?_
  refine R_callSN (n := 11) C (c_isWithin _ _ _ r v _ _) mw_X10_isWithin mn_X9_65 sv_X10_isWithin dX9_hasHut_8 rfl rfl (Nat.le_of_ble_eq_true rfl) ⟨Nat.le_of_ble_eq_true rfl, Nat.le_of_ble_eq_true rfl⟩ ⟨Nat.le_refl _, Nat.le_refl _⟩ rfl (pEs ?_)
  refine R_zretB C CR (Nat.zero_le _) (Nat.zero_le _) dX9_hasHut_11 ?_
  exact pE_i _ _ _
set_option maxRecDepth 20000 in
set_option maxHeartbeats 4000000 in
theorem c_hasSet (l : Launch) (D : va_G) (cA : Nat → ClassId) (r : Nat → Nat) {h : Hp} {σ : WS} (R : RW 1 σ h) (I : Inv σ) (v : Int32) : Cn l D cA yX9_hasSet cX9_hasSet 2 (some .boolean) 1 0 0 [.ref (r 1), .int v] (LY r) h (pE (some (.int (bI (win v (nI 0) (nI (2 ^ sN σ - 1)))))) (LY r) h) := by
  refine Cn.of (lv := [some (.ref (r 1)), some (.int v)]) (by decide +kernel) (Nat.le_of_ble_eq_true rfl) rfl (fun X hnm C CR => ?_)
  have n5 := I.n5
  have p1 := p2_pos (sN σ)
  refine R_il1 (n := 1) C dX9_hasSet_0 rfl ?_
  refine R_ic (n := 2) C dX9_hasSet_1 ci_0 rfl ?_
  refine R_ic (n := 3) C dX9_hasSet_2 ci_1 rfl ?_
  refine R_al0 (n := 4) C dX9_hasSet_3 rfl ?_
  refine M_getI (n := 7) C fl_X9_43 dX9_hasSet_4 rfl rfl (wN R) rfl ?_
  refine R_ishlN (n := 8) C dX9_hasSet_7 (by omega) (sh1 n5) rfl ?_
  refine R_ic (n := 9) C dX9_hasSet_8 ci_1 rfl ?_
  refine R_isubN (n := 10) C dX9_hasSet_9 (by omega) rfl ?_
  refine R_callSN (n := 13) C (c_isWithin _ _ _ r v _ _) mw_X10_isWithin mn_X9_65 sv_X10_isWithin dX9_hasSet_10 rfl rfl (Nat.le_of_ble_eq_true rfl) ⟨Nat.le_of_ble_eq_true rfl, Nat.le_of_ble_eq_true rfl⟩ ⟨Nat.le_refl _, Nat.le_refl _⟩ rfl (pEs ?_)
  refine R_zretB C CR (Nat.zero_le _) (Nat.zero_le _) dX9_hasSet_13 ?_
  exact ⟨by rw [Nat.one_mul], rfl, rfl⟩
set_option maxRecDepth 20000 in
set_option maxHeartbeats 4000000 in
theorem c_hasLooks (l : Launch) (D : va_G) (cA : Nat → ClassId) (r : Nat → Nat) {h : Hp} {σ : WS} (R : RW 1 σ h) (I : Inv σ) (v : Int32) : Cn l D cA yX9_hasLooks cX9_hasLooks 2 (some .boolean) 1 0 0 [.ref (r 1), .int v] (LY r) h (pE (some (.int (bI (win v (nI 0) (nI (2 ^ (2 * sN σ) - 1)))))) (LY r) h) := by
  refine Cn.of (lv := [some (.ref (r 1)), some (.int v)]) (by decide +kernel) (Nat.le_of_ble_eq_true rfl) rfl (fun X hnm C CR => ?_)
  have n5 := I.n5
  have p1 := p2_pos (2 * sN σ)
  refine R_il1 (n := 1) C dX9_hasLooks_0 rfl ?_
  refine R_ic (n := 2) C dX9_hasLooks_1 ci_0 rfl ?_
  refine R_ic (n := 3) C dX9_hasLooks_2 ci_1 rfl ?_
  refine R_ic (n := 4) C dX9_hasLooks_3 ci_2 rfl ?_
  refine R_al0 (n := 5) C dX9_hasLooks_4 rfl ?_
  refine M_getI (n := 8) C fl_X9_43 dX9_hasLooks_5 rfl rfl (wN R) rfl ?_
  refine R_imulN (n := 9) C dX9_hasLooks_8 rfl ?_
  refine R_ishlN (n := 10) C dX9_hasLooks_9 (by omega) (sh2 n5) rfl ?_
  refine R_ic (n := 11) C dX9_hasLooks_10 ci_1 rfl ?_
  refine R_isubN (n := 12) C dX9_hasLooks_11 (by omega) rfl ?_
  refine R_callSN (n := 15) C (c_isWithin _ _ _ r v _ _) mw_X10_isWithin mn_X9_65 sv_X10_isWithin dX9_hasLooks_12 rfl rfl (Nat.le_of_ble_eq_true rfl) ⟨Nat.le_of_ble_eq_true rfl, Nat.le_of_ble_eq_true rfl⟩ ⟨Nat.le_refl _, Nat.le_refl _⟩ rfl (pEs ?_)
  refine R_zretB C CR (Nat.zero_le _) (Nat.zero_le _) dX9_hasLooks_15 ?_
  exact ⟨by rw [Nat.one_mul], rfl, rfl⟩
def kwz (kn : Nat) (w : Int32) : Bool := win w (nI 0) (nI 5) && kn.testBit w.toNatClampNeg
theorem kwz_n {kn w : Nat} (hw : w < 6) : kwz kn (nI w) = kn.testBit w := by
  unfold kwz
  rw [win_nI (by omega) (by omega) (by omega), nI_clamp (by omega)]
  simp
  omega
theorem kwz_of {kn : Nat} {w : Int32} (h : kwz kn w = true) : ∃ k, k < 6 ∧ w = nI k ∧ kn.testBit k = true := by
  unfold kwz at h
  rw [Bool.and_eq_true] at h
  obtain ⟨k, h1, h2, rfl⟩ := win_of (by omega) (by omega) h.1
  rw [nI_clamp (by omega)] at h
  exact ⟨k, by omega, rfl, h.2⟩
set_option maxRecDepth 20000 in
set_option maxHeartbeats 4000000 in
theorem c_knows (l : Launch) (D : va_G) (cA : Nat → ClassId) (r : Nat → Nat) {h : Hp} {σ : WS} (R : RW 1 σ h) (I : Inv σ) (w : Int32) : Cn l D cA yX9_knows cX9_knows 2 (some .boolean) 1 0 0 [.ref (r 1), .int w] (LY r) h (pE (some (.int (bI (kwz (sKn σ) w)))) (LY r) h) := by
  refine Cn.of (lv := [some (.ref (r 1)), some (.int w)]) (by decide +kernel) (Nat.le_of_ble_eq_true rfl) rfl (fun X hnm C CR => ?_)
  have kn := I.kn
  refine R_il1 (n := 1) C dX9_knows_0 rfl ?_
  refine R_ic (n := 2) C dX9_knows_1 ci_0 rfl ?_
  refine R_ic (n := 3) C dX9_knows_2 ci_5 rfl ?_
  refine R_callSN (n := 6) C (c_isWithin _ _ _ r w _ _) mw_X10_isWithin mn_X9_65 sv_X10_isWithin dX9_knows_3 rfl rfl (Nat.le_of_ble_eq_true rfl) ⟨Nat.le_of_ble_eq_true rfl, Nat.le_of_ble_eq_true rfl⟩ ⟨Nat.le_refl _, Nat.le_refl _⟩ rfl (pEs ?_)
  refine R_if_eqB (tgt := 24) C dX9_knows_6 rfl rfl (fun c1 => ?_) (fun c1 => ?_)
  · refine R_ic (n := 25) C dX9_knows_24 ci_0 rfl ?_
    refine R_zret0 C CR (Nat.zero_le _) (Nat.zero_le _) dX9_knows_25 ?_
    exact ⟨by rw [kwz, c1]; rfl, rfl, rfl⟩
  · obtain ⟨k, h1, h2, rfl⟩ := win_of (by omega) (by omega) c1
    refine R_al0 (n := 10) C dX9_knows_9 rfl ?_
    refine M_getI (n := 13) C fl_X9_47 dX9_knows_10 rfl rfl (wKn R) rfl ?_
    refine R_il1 (n := 14) C dX9_knows_13 rfl ?_
    refine R_callSN (n := 17) C (c_isIn _ _ _ r (by omega) (by omega)) mw_X10_isIn mn_X9_69 sv_X10_isIn dX9_knows_14 rfl rfl (Nat.le_of_ble_eq_true rfl) ⟨Nat.le_of_ble_eq_true rfl, Nat.le_of_ble_eq_true rfl⟩ ⟨Nat.le_refl _, Nat.le_refl _⟩ rfl (pEs ?_)
    refine R_if_eqB (tgt := 24) C dX9_knows_17 rfl rfl (fun c2 => ?_) (fun c2 => ?_)
    · refine R_ic (n := 25) C dX9_knows_24 ci_0 rfl ?_
      refine R_zret0 C CR (Nat.zero_le _) (Nat.zero_le _) dX9_knows_25 ?_
      exact ⟨by rw [kwz_n (by omega), c2], rfl, rfl⟩
    · refine R_ic (n := 21) C dX9_knows_20 ci_1 rfl ?_
      refine R_goto (n := 25) C dX9_knows_21 rfl ?_
      refine R_zret1 C CR (Nat.zero_le _) (Nat.zero_le _) dX9_knows_25 ?_
      exact ⟨by rw [kwz_n (by omega), c2], rfl, rfl⟩
def kaz (kn : Nat) (v : Int32) : Bool := !decide (v = 0) && decide (v &&& (nI kn ^^^ (-1)) = 0)
set_option maxRecDepth 20000 in
set_option maxHeartbeats 4000000 in
theorem c_knowsAll (l : Launch) (D : va_G) (cA : Nat → ClassId) (r : Nat → Nat) {h : Hp} {σ : WS} (R : RW 1 σ h) (I : Inv σ) (v : Int32) : Cn l D cA yX9_knowsAll cX9_knowsAll 2 (some .boolean) 0 0 0 [.ref (r 1), .int v] (LY r) h (pE (some (.int (bI (kaz (sKn σ) v)))) (LY r) h) := by
  refine Cn.of (lv := [some (.ref (r 1)), some (.int v)]) (by decide +kernel) (Nat.le_of_ble_eq_true rfl) rfl (fun X hnm C CR => ?_)
  refine R_il1 (n := 1) C dX9_knowsAll_0 rfl ?_
  refine R_if_eq (tgt := 19) C dX9_knowsAll_1 rfl rfl (fun c1 => ?_) (fun c1 => ?_)
  · refine R_ic (n := 20) C dX9_knowsAll_19 ci_0 rfl ?_
    refine R_zret0 C CR (Nat.zero_le _) (Nat.zero_le _) dX9_knowsAll_20 ?_
    exact ⟨by simp [kaz, c1], rfl, rfl⟩
  · refine R_il1 (n := 5) C dX9_knowsAll_4 rfl ?_
    refine R_al0 (n := 6) C dX9_knowsAll_5 rfl ?_
    refine M_getI (n := 9) C fl_X9_47 dX9_knowsAll_6 rfl rfl (wKn R) rfl ?_
    refine R_ic (n := 10) C dX9_knowsAll_9 ci_m1 rfl ?_
    refine R_ixor (n := 11) C dX9_knowsAll_10 rfl ?_
    refine R_iand (n := 12) C dX9_knowsAll_11 rfl ?_
    refine R_if_ne (tgt := 19) C dX9_knowsAll_12 rfl rfl (fun c2 => ?_) (fun c2 => ?_)
    · refine R_ic (n := 20) C dX9_knowsAll_19 ci_0 rfl ?_
      refine R_zret0 C CR (Nat.zero_le _) (Nat.zero_le _) dX9_knowsAll_20 ?_
      exact ⟨by rw [kaz, decide_eq_false c1, decide_eq_false c2]; rfl, rfl, rfl⟩
    · refine R_ic (n := 16) C dX9_knowsAll_15 ci_1 rfl ?_
      refine R_goto (n := 20) C dX9_knowsAll_16 rfl ?_
      refine R_zret1 C CR (Nat.zero_le _) (Nat.zero_le _) dX9_knowsAll_20 ?_
      exact ⟨by rw [kaz, decide_eq_false c1, decide_eq_true c2]; rfl, rfl, rfl⟩
def tkz (σ : WS) (c b : Nat) : Bool := exb (fun k => !decide (k = b) && decide (sA σ 4 k = c)) (sN σ)
set_option maxRecDepth 20000 in
set_option maxHeartbeats 4000000 in
theorem c_isTaken (l : Launch) (D : va_G) (cA : Nat → ClassId) (r : Nat → Nat) {h : Hp} {σ : WS} (R : RW 1 σ h) (I : Inv σ) {c b : Nat} (hc : c < 25) (hb : b < 5) : Cn l D cA yX9_isTaken cX9_isTaken 4 (some .boolean) 0 0 0 [.ref (r 1), .int (nI c), .int (nI b)] (LY r) h (pE (some (.int (bI (tkz σ c b)))) (LY r) h) := by
  refine Cn.of (lv := [some (.ref (r 1)), some (.int (nI c)), some (.int (nI b)), none]) (by decide +kernel) (Nat.le_of_ble_eq_true rfl) rfl (fun X hnm C CR => ?_)
  have n5 := I.n5
  have loop : ∀ (m i : Nat), sN σ < i + m → i ≤ sN σ → (∀ j, j < i → (!decide (j = b) && decide (sA σ 4 j = c)) = false) → Rn X 0 0 2 [some (.ref (r 1)), some (.int (nI c)), some (.int (nI b)), some (.int (nI i))] [] (LY r) h := by
    intro m
    induction m with
    | zero => intro i h1 h2; omega
    | succ m ih =>
      intro i h1 h2 hP
      refine R_il3 (n := 3) C dX9_isTaken_2 rfl ?_
      refine R_al0 (n := 4) C dX9_isTaken_3 rfl ?_
      refine M_getI (n := 7) C fl_X9_43 dX9_isTaken_4 rfl rfl (wN R) rfl ?_
      refine R_icmp_geN (tgt := 33) C dX9_isTaken_7 rfl rfl (by omega) (by omega) (fun c1 => ?_) (fun c1 => ?_)
      · refine R_ic (n := 34) C dX9_isTaken_33 ci_0 rfl ?_
        refine R_zret0 C CR (Nat.zero_le _) (Nat.zero_le _) dX9_isTaken_34 ?_
        exact ⟨by rw [tkz, exb_f (fun k hk => hP k (by omega))], rfl, rfl⟩
      · have hce := I.ce (k := i) (by omega)
        refine R_il3 (n := 11) C dX9_isTaken_10 rfl ?_
        refine R_il2 (n := 12) C dX9_isTaken_11 rfl ?_
        refine R_icmp_eqN (tgt := 27) C dX9_isTaken_12 rfl rfl (by omega) (by omega) (fun c2 => ?_) (fun c2 => ?_)
        · refine R_inc3 (n := 30) C dX9_isTaken_27 rfl (Nat.le_of_ble_eq_true rfl) (inc_1 _) rfl ?_
          refine R_goto (n := 2) C dX9_isTaken_30 rfl ?_
          exact ih (i + 1) (by omega) (by omega) (fun j hj => by
            by_cases e : j = i
            · subst e; simp [c2]
            · exact hP j (by omega))
        · refine R_al0 (n := 16) C dX9_isTaken_15 rfl ?_
          refine M_getR (n := 19) C fl_X9_24 dX9_isTaken_16 rfl rfl rfl ?_
          refine R_il3 (n := 20) C dX9_isTaken_19 rfl ?_
          refine M_iald (n := 21) C dX9_isTaken_20 rfl (by omega) (wCe R (by omega)) rfl ?_
          refine R_il1 (n := 22) C dX9_isTaken_21 rfl ?_
          refine R_icmp_neN (tgt := 27) C dX9_isTaken_22 rfl rfl (by omega) (by omega) (fun c3 => ?_) (fun c3 => ?_)
          · refine R_inc3 (n := 30) C dX9_isTaken_27 rfl (Nat.le_of_ble_eq_true rfl) (inc_1 _) rfl ?_
            refine R_goto (n := 2) C dX9_isTaken_30 rfl ?_
            exact ih (i + 1) (by omega) (by omega) (fun j hj => by
              by_cases e : j = i
              · subst e; simp [c3]
              · exact hP j (by omega))
          · refine R_ic (n := 26) C dX9_isTaken_25 ci_1 rfl ?_
            refine R_zret1 C CR (Nat.zero_le _) (Nat.zero_le _) dX9_isTaken_26 ?_
            exact ⟨by rw [tkz, exb_t c1 (by simp [c2, c3])], rfl, rfl⟩
  refine R_ic (n := 1) C dX9_isTaken_0 ci_0 rfl ?_
  refine R_is3 (n := 2) C dX9_isTaken_1 rfl (Nat.le_of_ble_eq_true rfl) rfl ?_
  exact loop (sN σ + 1) 0 (by omega) (by omega) (fun j hj => by omega)
