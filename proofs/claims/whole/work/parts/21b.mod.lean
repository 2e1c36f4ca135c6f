set_option maxRecDepth 20000 in
set_option maxHeartbeats 4000000 in
theorem c_mLookNow (l : Launch) (D : va_G) (cA : Nat → ClassId) (r : Nat → Nat) {h : Hp} {σ : WS} (R : RM σ h) (I : Inv σ) : Cn l D cA yX11_lookNow cX11_lookNow 3 (some .int) 0 0 0 [.ref (r 73)] (LY r) h (pE (some (.int (nI (nuz σ)))) (LY r) h) := by
  refine Cn.of (lv := [some (.ref (r 73)), none, none]) (by decide +kernel) (Nat.le_of_ble_eq_true rfl) rfl (fun X hnm C CR => ?_)
  have n5 := I.n5
  have loop : ∀ (m i : Nat), sN σ < i + m → i ≤ sN σ → Rn X 0 0 4 [some (.ref (r 73)), some (.int (nI (nmz (sA σ 0) i))), some (.int (nI i))] [] (LY r) h := by
    intro m
    induction m with
    | zero => intro i a1 a2; omega
    | succ m ih =>
      intro i a1 a2
      refine R_il2 (n := 5) C dX11_lookNow_4 rfl ?_
      refine R_al0 (n := 6) C dX11_lookNow_5 rfl ?_
      refine M_getI (n := 9) C fl_X11_94 dX11_lookNow_6 rfl rfl (mN_ R) rfl ?_
      refine R_icmp_geN (tgt := 31) C dX11_lookNow_9 rfl rfl (by omega) (by omega) (fun c => ?_) (fun c => ?_)
      · refine R_il1 (n := 32) C dX11_lookNow_31 rfl ?_
        refine R_iret C CR (Nat.zero_le _) (Nat.zero_le _) dX11_lookNow_32 ?_
        exact ⟨by rw [nuz, show sN σ = i by omega], rfl, rfl⟩
      · have b1 := I.lk (k := i) (by omega)
        have b2 := nmz_lt (f := sA σ 0) (n := i) (fun k hk => I.lk (by omega))
        refine R_il1 (n := 13) C dX11_lookNow_12 rfl ?_
        refine R_al0 (n := 14) C dX11_lookNow_13 rfl ?_
        refine M_getR (n := 17) C fl_X11_7 dX11_lookNow_14 rfl rfl rfl ?_
        refine R_il2 (n := 18) C dX11_lookNow_17 rfl ?_
        refine M_iald (n := 19) C dX11_lookNow_18 rfl (by omega) (mLk R (by omega)) rfl ?_
        refine R_ic (n := 20) C dX11_lookNow_19 ci_2 rfl ?_
        refine R_il2 (n := 21) C dX11_lookNow_20 rfl ?_
        refine R_imulN (n := 22) C dX11_lookNow_21 rfl ?_
        refine R_ishlN (n := 23) C dX11_lookNow_22 (by omega) (shb b1 (by omega)) rfl ?_
        refine R_iorN (n := 24) C dX11_lookNow_23 rfl ?_
        refine R_eq (y := nI (nmz (sA σ 0) (i + 1))) (by rw [or_sum b2]; rfl) ?_
        refine R_is1 (n := 25) C dX11_lookNow_24 rfl (Nat.le_of_ble_eq_true rfl) rfl ?_
        refine R_inc2 (n := 28) C dX11_lookNow_25 rfl (Nat.le_of_ble_eq_true rfl) (inc_1 _) rfl ?_
        refine R_goto (n := 4) C dX11_lookNow_28 rfl ?_
        exact ih (i + 1) (by omega) (by omega)
  refine R_ic (n := 1) C dX11_lookNow_0 ci_0 rfl ?_
  refine R_is1 (n := 2) C dX11_lookNow_1 rfl (Nat.le_of_ble_eq_true rfl) rfl ?_
  refine R_ic (n := 3) C dX11_lookNow_2 ci_0 rfl ?_
  refine R_is2 (n := 4) C dX11_lookNow_3 rfl (Nat.le_of_ble_eq_true rfl) rfl ?_
  exact loop (sN σ + 1) 0 (by omega) (by omega)
set_option maxRecDepth 20000 in
set_option maxHeartbeats 4000000 in
theorem c_mSaidTo (l : Launch) (D : va_G) (cA : Nat → ClassId) (r : Nat → Nat) {h : Hp} {σ : WS} (R : RM σ h) (I : Inv σ) {l9 w : Nat} (hl : l9 < 1024) (hw : w < 6) : Cn l D cA yX11_saidTo cX11_saidTo 6 (some .int) 1 0 0 [.ref (r 73), .int (nI l9), .int (nI w)] (LY r) h (pE (some (.int (nI (trz σ w l9)))) (LY r) h) := by
  refine Cn.of (lv := [some (.ref (r 73)), some (.int (nI l9)), some (.int (nI w)), none, none, none]) (by decide +kernel) (Nat.le_of_ble_eq_true rfl) rfl (fun X hnm C CR => ?_)
  have n5 := I.n5
  have loop : ∀ (m i : Nat) (o : Option Value), sN σ < i + m → i ≤ sN σ → Rn X 0 0 5 [some (.ref (r 73)), some (.int (nI l9)), some (.int (nI w)), some (.int (nI (nmz (trg σ w l9) i))), some (.int (nI i)), o] [] (LY r) h := by
    intro m
    induction m with
    | zero => intro i o a1 a2; omega
    | succ m ih =>
      intro i o a1 a2
      refine R_il4 (n := 7) C dX11_saidTo_5 rfl ?_
      refine R_al0 (n := 8) C dX11_saidTo_7 rfl ?_
      refine M_getI (n := 11) C fl_X11_94 dX11_saidTo_8 rfl rfl (mN_ R) rfl ?_
      refine R_icmp_geN (tgt := 53) C dX11_saidTo_11 rfl rfl (by omega) (by omega) (fun c => ?_) (fun c => ?_)
      · refine R_il3 (n := 54) C dX11_saidTo_53 rfl ?_
        refine R_iret C CR (Nat.zero_le _) (Nat.zero_le _) dX11_saidTo_54 ?_
        exact ⟨by rw [trz, show sN σ = i by omega], rfl, rfl⟩
      · have w4 := wy_lt l9 i
        have q4 := qz_le (σ := σ) I (w := w) (k := i) (l := wy l9 i) hw (by omega)
        have b1 : trg σ w l9 i < 4 := tz_lt
        have b2 := nmz_lt (f := trg σ w l9) (n := i) (fun k hk => tz_lt)
        refine R_il1 (n := 15) C dX11_saidTo_14 rfl ?_
        refine R_il4 (n := 17) C dX11_saidTo_15 rfl ?_
        refine R_callS (n := 20) C (c_mWayIn _ _ _ r (by omega) (by omega)) mw_X11_wayIn ml_X11_204 sv_X11_wayIn dX11_saidTo_17 rfl rfl (Nat.le_of_ble_eq_true rfl) ⟨Nat.le_of_ble_eq_true rfl, Nat.le_of_ble_eq_true rfl⟩ ⟨Nat.le_refl _, Nat.le_refl _⟩ rfl (pEs ?_)
        refine R_is5 (n := 22) C dX11_saidTo_20 rfl (Nat.le_of_ble_eq_true rfl) rfl ?_
        refine R_il3 (n := 23) C dX11_saidTo_22 rfl ?_
        refine R_al0 (n := 24) C dX11_saidTo_23 rfl ?_
        refine R_il4 (n := 26) C dX11_saidTo_24 rfl ?_
        refine R_il5 (n := 28) C dX11_saidTo_26 rfl ?_
        refine R_al0 (n := 29) C dX11_saidTo_28 rfl ?_
        refine R_il2 (n := 30) C dX11_saidTo_29 rfl ?_
        refine R_il4 (n := 32) C dX11_saidTo_30 rfl ?_
        refine R_il5 (n := 34) C dX11_saidTo_32 rfl ?_
        refine M_callV (n := 37) C (c_mHeeds _ _ _ r R I hw (by omega) w4) mw_X11_heeds ml_X11_158 iv_X11_heeds dX11_saidTo_34 rfl rfl rfl rfl (Nat.le_of_ble_eq_true rfl) ⟨Nat.le_of_ble_eq_true rfl, Nat.le_of_ble_eq_true rfl⟩ ⟨Nat.le_refl _, Nat.le_refl _⟩ rfl (pEs ?_)
        refine M_callV (n := 40) C (c_mTurned _ _ _ r R I (by omega) w4 q4) mw_X11_turned ml_X11_168 iv_X11_turned dX11_saidTo_37 rfl rfl rfl rfl (Nat.le_of_ble_eq_true rfl) ⟨Nat.le_of_ble_eq_true rfl, Nat.le_of_ble_eq_true rfl⟩ ⟨Nat.le_refl _, Nat.le_refl _⟩ rfl (pEs ?_)
        refine R_ic (n := 41) C dX11_saidTo_40 ci_2 rfl ?_
        refine R_il4 (n := 43) C dX11_saidTo_41 rfl ?_
        refine R_imulN (n := 44) C dX11_saidTo_43 rfl ?_
        refine R_ishlN (n := 45) C dX11_saidTo_44 (by omega) (shb tz_lt (by omega)) rfl ?_
        refine R_iorN (n := 46) C dX11_saidTo_45 rfl ?_
        refine R_eq (y := nI (nmz (trg σ w l9) (i + 1))) (by rw [or_sum b2]; rfl) ?_
        refine R_is3 (n := 47) C dX11_saidTo_46 rfl (Nat.le_of_ble_eq_true rfl) rfl ?_
        refine R_inc4 (n := 50) C dX11_saidTo_47 rfl (Nat.le_of_ble_eq_true rfl) (inc_1 _) rfl ?_
        refine R_goto (n := 5) C dX11_saidTo_50 rfl ?_
        exact ih (i + 1) _ (by omega) (by omega)
  refine R_ic (n := 1) C dX11_saidTo_0 ci_0 rfl ?_
  refine R_is3 (n := 2) C dX11_saidTo_1 rfl (Nat.le_of_ble_eq_true rfl) rfl ?_
  refine R_ic (n := 3) C dX11_saidTo_2 ci_0 rfl ?_
  refine R_is4 (n := 5) C dX11_saidTo_3 rfl (Nat.le_of_ble_eq_true rfl) rfl ?_
  exact loop (sN σ + 1) 0 none (by omega) (by omega)
set_option maxRecDepth 20000 in
set_option maxHeartbeats 4000000 in
theorem c_mQuartersOf (l : Launch) (D : va_G) (cA : Nat → ClassId) (r : Nat → Nat) {h : Hp} {σ : WS} (R : RM σ h) (I : Inv σ) {l9 w : Nat} (hl : l9 < 1024) (hw : w < 6) : Cn l D cA yX11_quartersOf cX11_quartersOf 5 (some .int) 1 0 0 [.ref (r 73), .int (nI l9), .int (nI w)] (LY r) h (pE (some (.int (nI (tqz σ w l9)))) (LY r) h) := by
  refine Cn.of (lv := [some (.ref (r 73)), some (.int (nI l9)), some (.int (nI w)), none, none]) (by decide +kernel) (Nat.le_of_ble_eq_true rfl) rfl (fun X hnm C CR => ?_)
  have n5 := I.n5
  have loop : ∀ (m i : Nat), sN σ < i + m → i ≤ sN σ → Rn X 0 0 5 [some (.ref (r 73)), some (.int (nI l9)), some (.int (nI w)), some (.int (nI (tqs σ w l9 i))), some (.int (nI i))] [] (LY r) h := by
    intro m
    induction m with
    | zero => intro i a1 a2; omega
    | succ m ih =>
      intro i a1 a2
      refine R_il4 (n := 7) C dX11_quartersOf_5 rfl ?_
      refine R_al0 (n := 8) C dX11_quartersOf_7 rfl ?_
      refine M_getI (n := 11) C fl_X11_94 dX11_quartersOf_8 rfl rfl (mN_ R) rfl ?_
      refine R_icmp_geN (tgt := 36) C dX11_quartersOf_11 rfl rfl (by omega) (by omega) (fun c => ?_) (fun c => ?_)
      · refine R_il3 (n := 37) C dX11_quartersOf_36 rfl ?_
        refine R_iret C CR (Nat.zero_le _) (Nat.zero_le _) dX11_quartersOf_37 ?_
        exact ⟨by rw [tqz, show sN σ = i by omega], rfl, rfl⟩
      · have w4 := wy_lt l9 i
        refine R_il3 (n := 15) C dX11_quartersOf_14 rfl ?_
        refine R_al0 (n := 16) C dX11_quartersOf_15 rfl ?_
        refine R_il2 (n := 17) C dX11_quartersOf_16 rfl ?_
        refine R_il4 (n := 19) C dX11_quartersOf_17 rfl ?_
        refine R_il1 (n := 20) C dX11_quartersOf_19 rfl ?_
        refine R_il4 (n := 22) C dX11_quartersOf_20 rfl ?_
        refine R_callS (n := 25) C (c_mWayIn _ _ _ r (by omega) (by omega)) mw_X11_wayIn ml_X11_204 sv_X11_wayIn dX11_quartersOf_22 rfl rfl (Nat.le_of_ble_eq_true rfl) ⟨Nat.le_of_ble_eq_true rfl, Nat.le_of_ble_eq_true rfl⟩ ⟨Nat.le_refl _, Nat.le_refl _⟩ rfl (pEs ?_)
        refine M_callV (n := 28) C (c_mHeeds _ _ _ r R I hw (by omega) w4) mw_X11_heeds ml_X11_158 iv_X11_heeds dX11_quartersOf_25 rfl rfl rfl rfl (Nat.le_of_ble_eq_true rfl) ⟨Nat.le_of_ble_eq_true rfl, Nat.le_of_ble_eq_true rfl⟩ ⟨Nat.le_refl _, Nat.le_refl _⟩ rfl (pEs ?_)
        refine R_iaddN (n := 29) C dX11_quartersOf_28 rfl ?_
        refine R_is3 (n := 30) C dX11_quartersOf_29 rfl (Nat.le_of_ble_eq_true rfl) rfl ?_
        refine R_inc4 (n := 33) C dX11_quartersOf_30 rfl (Nat.le_of_ble_eq_true rfl) (inc_1 _) rfl ?_
        refine R_goto (n := 5) C dX11_quartersOf_33 rfl ?_
        exact ih (i + 1) (by omega) (by omega)
  refine R_ic (n := 1) C dX11_quartersOf_0 ci_0 rfl ?_
  refine R_is3 (n := 2) C dX11_quartersOf_1 rfl (Nat.le_of_ble_eq_true rfl) rfl ?_
  refine R_ic (n := 3) C dX11_quartersOf_2 ci_0 rfl ?_
  refine R_is4 (n := 5) C dX11_quartersOf_3 rfl (Nat.le_of_ble_eq_true rfl) rfl ?_
  exact loop (sN σ + 1) 0 (by omega) (by omega)
set_option maxRecDepth 20000 in
set_option maxHeartbeats 4000000 in
theorem c_mAll (l : Launch) (D : va_G) (cA : Nat → ClassId) (r : Nat → Nat) {h : Hp} {σ : WS} (R : RM σ h) (I : Inv σ) : Cn l D cA yX11_all cX11_all 1 (some .int) 0 0 0 [.ref (r 73)] (LY r) h (pE (some (.int (nI (2 ^ (2 * sN σ))))) (LY r) h) := by
  refine Cn.of (lv := [some (.ref (r 73))]) (by decide +kernel) (Nat.le_of_ble_eq_true rfl) rfl (fun X hnm C CR => ?_)
  have n5 := I.n5
  refine R_ic (n := 1) C dX11_all_0 ci_1 rfl ?_
  refine R_ic (n := 2) C dX11_all_1 ci_2 rfl ?_
  refine R_al0 (n := 3) C dX11_all_2 rfl ?_
  refine M_getI (n := 6) C fl_X11_94 dX11_all_3 rfl rfl (mN_ R) rfl ?_
  refine R_imulN (n := 7) C dX11_all_6 rfl ?_
  refine R_ishlN (n := 8) C dX11_all_7 (by omega) (sh2 n5) rfl ?_
  rw [Nat.one_mul]
  refine R_iret C CR (Nat.zero_le _) (Nat.zero_le _) dX11_all_8 ?_
  exact ⟨rfl, rfl, rfl⟩
set_option maxRecDepth 20000 in
set_option maxHeartbeats 4000000 in
theorem c_mIsNumber (l : Launch) (D : va_G) (cA : Nat → ClassId) (r : Nat → Nat) {h : Hp} {σ : WS} (R : RM σ h) (I : Inv σ) (v : Int32) : Cn l D cA yX11_isNumber cX11_isNumber 2 (some .boolean) 1 0 0 [.ref (r 73), .int v] (LY r) h (pE (some (.int (bI (win v (nI 0) (nI (2 ^ (2 * sN σ) - 1)))))) (LY r) h) := by
  refine Cn.of (lv := [some (.ref (r 73)), some (.int v)]) (by decide +kernel) (Nat.le_of_ble_eq_true rfl) rfl (fun X hnm C CR => ?_)
  have p10 := p2_10 I.n5
  have pp := p2_pos (2 * sN σ)
  refine R_il1 (n := 1) C dX11_isNumber_0 rfl ?_
  refine R_i2l (n := 2) C dX11_isNumber_1 rfl rfl ?_
  refine R_lc (n := 3) C dX11_isNumber_2 lc_0 rfl ?_
  refine R_al0 (n := 4) C dX11_isNumber_3 rfl ?_
  refine M_callV (n := 7) C (c_mAll _ _ _ r R I) mw_X11_all ml_X11_220 iv_X11_all dX11_isNumber_4 rfl rfl rfl rfl (Nat.le_of_ble_eq_true rfl) ⟨Nat.le_of_ble_eq_true rfl, Nat.le_of_ble_eq_true rfl⟩ ⟨Nat.le_refl _, Nat.le_refl _⟩ rfl (pEs ?_)
  refine R_ic (n := 8) C dX11_isNumber_7 ci_1 rfl ?_
  refine R_isubN (n := 9) C dX11_isNumber_8 (by omega) rfl ?_
  refine R_i2l (n := 10) C dX11_isNumber_9 (i2l_n (by omega)) rfl ?_
  refine R_callS (n := 13) C (c_mIn _ _ _ r _ _ _) mw_X11_in ml_X11_104 sv_X11_in dX11_isNumber_10 rfl rfl (Nat.le_of_ble_eq_true rfl) ⟨Nat.le_of_ble_eq_true rfl, Nat.le_of_ble_eq_true rfl⟩ ⟨Nat.le_refl _, Nat.le_refl _⟩ rfl (pEs ?_)
  rw [show winL v.toInt64 (lN 0) (lN (2 ^ (2 * sN σ) - 1)) = win v (nI 0) (nI (2 ^ (2 * sN σ) - 1)) from winL_n (by decide) (by omega)]
  refine R_zretB C CR (Nat.zero_le _) (Nat.zero_le _) dX11_isNumber_13 ?_
  exact ⟨rfl, rfl, rfl⟩
set_option maxRecDepth 20000 in
set_option maxHeartbeats 4000000 in
theorem c_mIsSet (l : Launch) (D : va_G) (cA : Nat → ClassId) (r : Nat → Nat) {h : Hp} {σ : WS} (R : RM σ h) (I : Inv σ) (v : Int32) : Cn l D cA yX11_isSet cX11_isSet 2 (some .boolean) 1 0 0 [.ref (r 73), .int v] (LY r) h (pE (some (.int (bI (win v (nI 0) (nI (2 ^ sN σ - 1)))))) (LY r) h) := by
  refine Cn.of (lv := [some (.ref (r 73)), some (.int v)]) (by decide +kernel) (Nat.le_of_ble_eq_true rfl) rfl (fun X hnm C CR => ?_)
  have p5 := p2_5 I.n5
  have n5 := I.n5
  have pp := p2_pos (sN σ)
  refine R_il1 (n := 1) C dX11_isSet_0 rfl ?_
  refine R_i2l (n := 2) C dX11_isSet_1 rfl rfl ?_
  refine R_lc (n := 3) C dX11_isSet_2 lc_0 rfl ?_
  refine R_ic (n := 4) C dX11_isSet_3 ci_1 rfl ?_
  refine R_al0 (n := 5) C dX11_isSet_4 rfl ?_
  refine M_getI (n := 8) C fl_X11_94 dX11_isSet_5 rfl rfl (mN_ R) rfl ?_
  refine R_ishlN (n := 9) C dX11_isSet_8 (by omega) (sh1 n5) rfl ?_
  rw [Nat.one_mul]
  refine R_ic (n := 10) C dX11_isSet_9 ci_1 rfl ?_
  refine R_isubN (n := 11) C dX11_isSet_10 (by omega) rfl ?_
  refine R_i2l (n := 12) C dX11_isSet_11 (i2l_n (by omega)) rfl ?_
  refine R_callS (n := 15) C (c_mIn _ _ _ r _ _ _) mw_X11_in ml_X11_104 sv_X11_in dX11_isSet_12 rfl rfl (Nat.le_of_ble_eq_true rfl) ⟨Nat.le_of_ble_eq_true rfl, Nat.le_of_ble_eq_true rfl⟩ ⟨Nat.le_refl _, Nat.le_refl _⟩ rfl (pEs ?_)
  rw [show winL v.toInt64 (lN 0) (lN (2 ^ sN σ - 1)) = win v (nI 0) (nI (2 ^ sN σ - 1)) from winL_n (by decide) (by omega)]
  refine R_zretB C CR (Nat.zero_le _) (Nat.zero_le _) dX11_isSet_15 ?_
  exact ⟨rfl, rfl, rfl⟩
set_option maxRecDepth 20000 in
set_option maxHeartbeats 4000000 in
theorem c_mGreatest (l : Launch) (D : va_G) (cA : Nat → ClassId) (r : Nat → Nat) {L : Ly} {h : Hp} {w : Nat} (hw : w < 4) : Cn l D cA yX11_greatest cX11_greatest 1 (some .int) 0 0 0 [.int (nI w)] (L) h (pE (some (.int (nI (moz w)))) L h) := by
  refine Cn.of (lv := [some (.int (nI w))]) (by decide +kernel) (Nat.le_of_ble_eq_true rfl) rfl (fun X hnm C CR => ?_)
  refine R_il0 (n := 1) C dX11_greatest_0 rfl ?_
  refine R_ic (n := 2) C dX11_greatest_1 ci_1 rfl ?_
  refine R_icmp_neN (tgt := 10) C dX11_greatest_2 rfl rfl (by omega) (by omega) (fun c1 => ?_) (fun c1 => ?_)
  · refine R_il0 (n := 11) C dX11_greatest_10 rfl ?_
    refine R_ic (n := 12) C dX11_greatest_11 ci_3 rfl ?_
    refine R_icmp_neN (tgt := 20) C dX11_greatest_12 rfl rfl (by omega) (by omega) (fun c2 => ?_) (fun c2 => ?_)
    · refine R_ic (n := 21) C dX11_greatest_20 ci_3 rfl ?_
      refine R_iret C CR (Nat.zero_le _) (Nat.zero_le _) dX11_greatest_21 ?_
      exact ⟨by rw [moz, if_neg c1, if_neg c2], rfl, rfl⟩
    · refine R_bp (n := 17) C dX11_greatest_15 cb_24 rfl ?_
      refine R_goto (n := 21) C dX11_greatest_17 rfl ?_
      refine R_iret C CR (Nat.zero_le _) (Nat.zero_le _) dX11_greatest_21 ?_
      exact ⟨by rw [moz, if_neg c1, if_pos c2], rfl, rfl⟩
  · refine R_bp (n := 7) C dX11_greatest_5 cb_30 rfl ?_
    refine R_goto (n := 21) C dX11_greatest_7 rfl ?_
    refine R_iret C CR (Nat.zero_le _) (Nat.zero_le _) dX11_greatest_21 ?_
    exact ⟨by rw [moz, if_pos c1], rfl, rfl⟩
