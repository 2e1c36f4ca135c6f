def winL (x a b : Int64) : Bool := decide (a ≤ x) && decide (x ≤ b)
theorem cmp_gt {x y : Int64} : 0 < lg_cmp x y ↔ y < x := by
  unfold lg_cmp
  by_cases g : x > y
  · rw [if_pos g]
    exact ⟨fun _ => g, fun _ => by decide⟩
  · rw [if_neg g]
    by_cases e : x = y
    · rw [if_pos e]
      exact ⟨fun q => absurd q (by decide), fun q => absurd q g⟩
    · rw [if_neg e]
      exact ⟨fun q => absurd q (by decide), fun q => absurd q g⟩
theorem cmp_lt {x y : Int64} : lg_cmp x y < 0 ↔ x < y := by
  unfold lg_cmp
  by_cases g : x > y
  · rw [if_pos g]
    exact ⟨fun q => absurd q (by decide), fun q => by
      have h1 := Int64.lt_iff_toInt_lt.mp g
      have h2 := Int64.lt_iff_toInt_lt.mp q
      omega⟩
  · rw [if_neg g]
    by_cases e : x = y
    · rw [if_pos e]
      exact ⟨fun q => absurd q (by decide), fun q => by
        rw [e] at q
        have h2 := Int64.lt_iff_toInt_lt.mp q
        omega⟩
    · rw [if_neg e]
      refine ⟨fun _ => ?_, fun _ => by decide⟩
      rw [Int64.lt_iff_toInt_lt]
      have h1 : ¬ y.toInt < x.toInt := fun q => g (Int64.lt_iff_toInt_lt.mpr q)
      have h2 : x.toInt ≠ y.toInt := fun q => e (Int64.toInt_inj.mp q)
      omega
set_option maxRecDepth 20000 in
set_option maxHeartbeats 4000000 in
theorem c_mIn (l : Launch) (D : va_G) (cA : Nat → ClassId) (r : Nat → Nat) {L : Ly} {h : Hp} (x a b : Int64) : Cn l D cA yX11_in cX11_in 6 (some .boolean) 0 0 0 [.long x, .long a, .long b] (L) h (pE (some (.int (bI (winL x a b)))) L h) := by
  refine Cn.of (lv := [some (.long x), none, some (.long a), none, some (.long b), none]) (by decide +kernel) (Nat.le_of_ble_eq_true rfl) rfl (fun X hnm C CR => ?_)
  refine R_ll0 (n := 1) C dX11_in_0 rfl ?_
  refine R_ll2 (n := 2) C dX11_in_1 rfl ?_
  refine R_lcmp (n := 3) C dX11_in_2 rfl ?_
  refine R_if_lt (tgt := 17) C dX11_in_3 rfl rfl (fun c1 => ?_) (fun c1 => ?_)
  · rw [cmp_lt] at c1
    refine R_ic (n := 18) C dX11_in_17 ci_0 rfl ?_
    refine R_zret0 C CR (Nat.zero_le _) (Nat.zero_le _) dX11_in_18 ?_
    exact ⟨by rw [winL, decide_eq_false (Int64.not_le.mpr c1)]; rfl, rfl, rfl⟩
  · rw [cmp_lt] at c1
    refine R_ll0 (n := 7) C dX11_in_6 rfl ?_
    refine R_ll4 (n := 9) C dX11_in_7 rfl ?_
    refine R_lcmp (n := 10) C dX11_in_9 rfl ?_
    refine R_if_gt (tgt := 17) C dX11_in_10 rfl rfl (fun c2 => ?_) (fun c2 => ?_)
    · rw [cmp_gt] at c2
      refine R_ic (n := 18) C dX11_in_17 ci_0 rfl ?_
      refine R_zret0 C CR (Nat.zero_le _) (Nat.zero_le _) dX11_in_18 ?_
      exact ⟨by rw [winL, decide_eq_false (Int64.not_le.mpr c2), Bool.and_false], rfl, rfl⟩
    · rw [cmp_gt] at c2
      refine R_ic (n := 14) C dX11_in_13 ci_1 rfl ?_
      refine R_goto (n := 18) C dX11_in_14 rfl ?_
      refine R_zret1 C CR (Nat.zero_le _) (Nat.zero_le _) dX11_in_18 ?_
      exact ⟨by rw [winL, decide_eq_true (Int64.not_lt.mp c1), decide_eq_true (Int64.not_lt.mp c2)]; rfl, rfl, rfl⟩
theorem winL_n {v : Int32} {a b : Nat} (ha : a < 2 ^ 31) (hb : b < 2 ^ 31) : winL v.toInt64 (lN a) (lN b) = win v (nI a) (nI b) := by
  unfold winL win
  rw [← i2l_n ha, ← i2l_n hb]
  congr 1
  · rw [decide_eq_decide, Int64.le_iff_toInt_le, Int32.le_iff_toInt_le, Int32.toInt_toInt64, Int32.toInt_toInt64]
  · rw [decide_eq_decide, Int64.le_iff_toInt_le, Int32.le_iff_toInt_le, Int32.toInt_toInt64, Int32.toInt_toInt64]
set_option maxRecDepth 20000 in
set_option maxHeartbeats 4000000 in
theorem c_mIsHut (l : Launch) (D : va_G) (cA : Nat → ClassId) (r : Nat → Nat) {h : Hp} {σ : WS} (R : RM σ h) (I : Inv σ) (v : Int32) : Cn l D cA yX11_isHut cX11_isHut 2 (some .boolean) 1 0 0 [.ref (r 73), .int v] (LY r) h (pE (some (.int (bI (hasH σ v)))) (LY r) h) := by
  refine Cn.of (lv := [some (.ref (r 73)), some (.int v)]) (by decide +kernel) (Nat.le_of_ble_eq_true rfl) rfl (fun X hnm C CR => ?_)
  have n1 := I.n1
  have n5 := I.n5
  refine R_il1 (n := 1) C dX11_isHut_0 rfl ?_
  refine R_i2l (n := 2) C dX11_isHut_1 rfl rfl ?_
  refine R_lc (n := 3) C dX11_isHut_2 lc_0 rfl ?_
  refine R_al0 (n := 4) C dX11_isHut_3 rfl ?_
  refine M_getI (n := 7) C fl_X11_94 dX11_isHut_4 rfl rfl (mN_ R) rfl ?_
  refine R_ic (n := 8) C dX11_isHut_7 ci_1 rfl ?_
  refine R_isubN (n := 9) C dX11_isHut_8 (by omega) rfl ?_
  refine R_i2l (n := 10) C dX11_isHut_9 (i2l_n (by omega)) rfl ?_
  refine R_callS (n := 13) C (c_mIn _ _ _ r _ _ _) mw_X11_in ml_X11_104 sv_X11_in dX11_isHut_10 rfl rfl (Nat.le_of_ble_eq_true rfl) ⟨Nat.le_of_ble_eq_true rfl, Nat.le_of_ble_eq_true rfl⟩ ⟨Nat.le_refl _, Nat.le_refl _⟩ rfl (pEs ?_)
  rw [show winL v.toInt64 (lN 0) (lN (sN σ - 1)) = hasH σ v from winL_n (by decide) (by omega)]
  refine R_zretB C CR (Nat.zero_le _) (Nat.zero_le _) dX11_isHut_13 ?_
  exact ⟨rfl, rfl, rfl⟩
set_option maxRecDepth 20000 in
set_option maxHeartbeats 4000000 in
theorem c_mIsWay (l : Launch) (D : va_G) (cA : Nat → ClassId) (r : Nat → Nat) {L : Ly} {h : Hp} (v : Int32) : Cn l D cA yX11_isWay cX11_isWay 1 (some .boolean) 1 0 0 [.int v] (L) h (pE (some (.int (bI (win v (nI 0) (nI 3))))) L h) := by
  refine Cn.of (lv := [some (.int v)]) (by decide +kernel) (Nat.le_of_ble_eq_true rfl) rfl (fun X hnm C CR => ?_)
  refine R_il0 (n := 1) C dX11_isWay_0 rfl ?_
  refine R_i2l (n := 2) C dX11_isWay_1 rfl rfl ?_
  refine R_lc (n := 3) C dX11_isWay_2 lc_0 rfl ?_
  refine R_ldc2 (n := 6) C dX11_isWay_3 kl_X11_108 rfl ?_
  refine R_eql (y := lN 3) (by decide +kernel) ?_
  refine R_callS (n := 9) C (c_mIn _ _ _ r _ _ _) mw_X11_in ml_X11_104 sv_X11_in dX11_isWay_6 rfl rfl (Nat.le_of_ble_eq_true rfl) ⟨Nat.le_of_ble_eq_true rfl, Nat.le_of_ble_eq_true rfl⟩ ⟨Nat.le_refl _, Nat.le_refl _⟩ rfl (pEs ?_)
  rw [winL_n (by decide) (by decide)]
  refine R_zretB C CR (Nat.zero_le _) (Nat.zero_le _) dX11_isWay_9 ?_
  exact ⟨rfl, rfl, rfl⟩
set_option maxRecDepth 20000 in
set_option maxHeartbeats 4000000 in
theorem c_mIsKnown (l : Launch) (D : va_G) (cA : Nat → ClassId) (r : Nat → Nat) {h : Hp} {σ : WS} (R : RM σ h) (I : Inv σ) (v : Int32) : Cn l D cA yX11_isKnown cX11_isKnown 2 (some .boolean) 1 0 0 [.ref (r 73), .int v] (LY r) h (pE (some (.int (bI (kwz (sKn σ) v)))) (LY r) h) := by
  refine Cn.of (lv := [some (.ref (r 73)), some (.int v)]) (by decide +kernel) (Nat.le_of_ble_eq_true rfl) rfl (fun X hnm C CR => ?_)
  have kn := I.kn
  refine R_il1 (n := 1) C dX11_isKnown_0 rfl ?_
  refine R_i2l (n := 2) C dX11_isKnown_1 rfl rfl ?_
  refine R_lc (n := 3) C dX11_isKnown_2 lc_0 rfl ?_
  refine R_ldc2 (n := 6) C dX11_isKnown_3 kl_X11_110 rfl ?_
  refine R_eql (y := lN 5) (by decide +kernel) ?_
  refine R_callS (n := 9) C (c_mIn _ _ _ r _ _ _) mw_X11_in ml_X11_104 sv_X11_in dX11_isKnown_6 rfl rfl (Nat.le_of_ble_eq_true rfl) ⟨Nat.le_of_ble_eq_true rfl, Nat.le_of_ble_eq_true rfl⟩ ⟨Nat.le_refl _, Nat.le_refl _⟩ rfl (pEs ?_)
  rw [winL_n (by decide) (by decide)]
  refine R_if_eqB (tgt := 28) C dX11_isKnown_9 rfl rfl (fun c1 => ?_) (fun c1 => ?_)
  · refine R_ic (n := 29) C dX11_isKnown_28 ci_0 rfl ?_
    refine R_zret0 C CR (Nat.zero_le _) (Nat.zero_le _) dX11_isKnown_29 ?_
    exact ⟨by rw [kwz, c1]; rfl, rfl, rfl⟩
  · obtain ⟨w, _, w5, rfl⟩ := win_of (by decide) (by decide) c1
    refine R_al0 (n := 13) C dX11_isKnown_12 rfl ?_
    refine M_getI (n := 16) C fl_X11_98 dX11_isKnown_13 rfl rfl (mKn R) rfl ?_
    refine R_il1 (n := 17) C dX11_isKnown_16 rfl ?_
    refine R_ishrN (n := 18) C dX11_isKnown_17 (by omega) (by omega) rfl ?_
    refine R_ic (n := 19) C dX11_isKnown_18 ci_1 rfl ?_
    refine R_iandN (n := 20) C dX11_isKnown_19 rfl ?_
    refine R_eq (y := nI (sKn σ / 2 ^ w % 2)) (by rw [and1]) ?_
    have h2 : sKn σ / 2 ^ w % 2 < 2 := Nat.mod_lt _ (by decide)
    refine R_ic (n := 21) C dX11_isKnown_20 ci_1 rfl ?_
    refine R_icmp_neN (tgt := 28) C dX11_isKnown_21 rfl rfl (by omega) (by omega) (fun c2 => ?_) (fun c2 => ?_)
    · refine R_ic (n := 29) C dX11_isKnown_28 ci_0 rfl ?_
      refine R_zret0 C CR (Nat.zero_le _) (Nat.zero_le _) dX11_isKnown_29 ?_
      exact ⟨by rw [kwz_n (by omega), tb_div, show sKn σ / 2 ^ w % 2 = 0 by omega]; rfl, rfl, rfl⟩
    · refine R_ic (n := 25) C dX11_isKnown_24 ci_1 rfl ?_
      refine R_goto (n := 29) C dX11_isKnown_25 rfl ?_
      refine R_zret1 C CR (Nat.zero_le _) (Nat.zero_le _) dX11_isKnown_29 ?_
      exact ⟨by rw [kwz_n (by omega), tb_div, c2]; rfl, rfl, rfl⟩
set_option maxRecDepth 20000 in
set_option maxHeartbeats 4000000 in
theorem c_mHeeds (l : Launch) (D : va_G) (cA : Nat → ClassId) (r : Nat → Nat) {h : Hp} {σ : WS} (R : RM σ h) (I : Inv σ) {w k l9 : Nat} (hw : w < 6) (hk : k < 5) (hl : l9 < 4) : Cn l D cA yX11_heeds cX11_heeds 5 (some .int) 0 0 0 [.ref (r 73), .int (nI w), .int (nI k), .int (nI l9)] (LY r) h (pE (some (.int (nI (qz σ w k l9)))) (LY r) h) := by
  refine Cn.of (lv := [some (.ref (r 73)), some (.int (nI w)), some (.int (nI k)), some (.int (nI l9)), none]) (by decide +kernel) (Nat.le_of_ble_eq_true rfl) rfl (fun X hnm C CR => ?_)
  have kd := I.kd hk
  refine R_al0 (n := 1) C dX11_heeds_0 rfl ?_
  refine M_getR (n := 4) C fl_X11_25 dX11_heeds_1 rfl rfl rfl ?_
  refine R_ic (n := 5) C dX11_heeds_4 ci_5 rfl ?_
  refine R_il1 (n := 6) C dX11_heeds_5 rfl ?_
  refine R_imulN (n := 7) C dX11_heeds_6 rfl ?_
  refine R_il2 (n := 8) C dX11_heeds_7 rfl ?_
  refine R_iaddN (n := 9) C dX11_heeds_8 rfl ?_
  refine M_iald (n := 10) C dX11_heeds_9 rfl (by omega) (mTu R (show 5 * w + k < 30 by omega)) rfl ?_
  refine R_is4 (n := 12) C dX11_heeds_10 rfl (Nat.le_of_ble_eq_true rfl) rfl ?_
  refine R_al0 (n := 13) C dX11_heeds_12 rfl ?_
  refine M_getR (n := 16) C fl_X11_19 dX11_heeds_13 rfl rfl rfl ?_
  refine R_il2 (n := 17) C dX11_heeds_16 rfl ?_
  refine M_iald (n := 18) C dX11_heeds_17 rfl hk (mKd R hk) rfl ?_
  refine R_ic (n := 19) C dX11_heeds_18 ci_1 rfl ?_
  refine R_icmp_eqN (tgt := 38) C dX11_heeds_19 rfl rfl (by omega) (by omega) (fun c1 => ?_) (fun c1 => ?_)
  · refine R_ic (n := 39) C dX11_heeds_38 ci_0 rfl ?_
    refine R_goto (n := 44) C dX11_heeds_39 rfl ?_
    refine R_iret C CR (Nat.zero_le _) (Nat.zero_le _) dX11_heeds_44 ?_
    exact ⟨by rw [qz, if_pos (Or.inl c1)], rfl, rfl⟩
  · refine R_al0 (n := 23) C dX11_heeds_22 rfl ?_
    refine M_getR (n := 26) C fl_X11_19 dX11_heeds_23 rfl rfl rfl ?_
    refine R_il2 (n := 27) C dX11_heeds_26 rfl ?_
    refine M_iald (n := 28) C dX11_heeds_27 rfl hk (mKd R hk) rfl ?_
    refine R_ic (n := 29) C dX11_heeds_28 ci_3 rfl ?_
    refine R_icmp_neN (tgt := 42) C dX11_heeds_29 rfl rfl (by omega) (by omega) (fun c2 => ?_) (fun c2 => ?_)
    · refine R_il4 (n := 44) C dX11_heeds_42 rfl ?_
      refine R_iret C CR (Nat.zero_le _) (Nat.zero_le _) dX11_heeds_44 ?_
      exact ⟨by rw [qz, if_neg (by rintro (q | q); exact c1 q; exact c2 q.1)], rfl, rfl⟩
    · refine R_il3 (n := 33) C dX11_heeds_32 rfl ?_
      refine R_ic (n := 34) C dX11_heeds_33 ci_2 rfl ?_
      refine R_iremN (n := 35) C dX11_heeds_34 (by omega) (by omega) (by omega) rfl ?_
      refine R_if_neN (tgt := 42) C dX11_heeds_35 rfl rfl (by omega) (fun c3 => ?_) (fun c3 => ?_)
      · refine R_il4 (n := 44) C dX11_heeds_42 rfl ?_
        refine R_iret C CR (Nat.zero_le _) (Nat.zero_le _) dX11_heeds_44 ?_
        exact ⟨by rw [qz, if_neg (by rintro (q | q); exact c1 q; exact c3 q.2)], rfl, rfl⟩
      · refine R_ic (n := 39) C dX11_heeds_38 ci_0 rfl ?_
        refine R_goto (n := 44) C dX11_heeds_39 rfl ?_
        refine R_iret C CR (Nat.zero_le _) (Nat.zero_le _) dX11_heeds_44 ?_
        exact ⟨by rw [qz, if_pos (Or.inr ⟨c2, c3⟩)], rfl, rfl⟩
set_option maxRecDepth 20000 in
set_option maxHeartbeats 4000000 in
theorem c_mTurned (l : Launch) (D : va_G) (cA : Nat → ClassId) (r : Nat → Nat) {h : Hp} {σ : WS} (R : RM σ h) (I : Inv σ) {k l9 b : Nat} (hk : k < 5) (hl : l9 < 4) (hb : b < 4) : Cn l D cA yX11_turned cX11_turned 4 (some .int) 0 0 0 [.ref (r 73), .int (nI k), .int (nI l9), .int (nI b)] (LY r) h (pE (some (.int (nI (tz σ k l9 b)))) (LY r) h) := by
  refine Cn.of (lv := [some (.ref (r 73)), some (.int (nI k)), some (.int (nI l9)), some (.int (nI b))]) (by decide +kernel) (Nat.le_of_ble_eq_true rfl) rfl (fun X hnm C CR => ?_)
  have kd := I.kd hk
  refine R_il2 (n := 1) C dX11_turned_0 rfl ?_
  refine R_al0 (n := 2) C dX11_turned_1 rfl ?_
  refine M_getR (n := 5) C fl_X11_19 dX11_turned_2 rfl rfl rfl ?_
  refine R_il1 (n := 6) C dX11_turned_5 rfl ?_
  refine M_iald (n := 7) C dX11_turned_6 rfl hk (mKd R hk) rfl ?_
  refine R_ic (n := 8) C dX11_turned_7 ci_2 rfl ?_
  refine R_icmp_neN (tgt := 17) C dX11_turned_8 rfl rfl (by omega) (by omega) (fun c1 => ?_) (fun c1 => ?_)
  · refine R_il3 (n := 18) C dX11_turned_17 rfl ?_
    refine R_iaddN (n := 19) C dX11_turned_18 rfl ?_
    refine R_ic (n := 20) C dX11_turned_19 ci_4 rfl ?_
    refine R_iremN (n := 21) C dX11_turned_20 (by omega) (by omega) (by omega) rfl ?_
    refine R_iret C CR (Nat.zero_le _) (Nat.zero_le _) dX11_turned_21 ?_
    exact ⟨by rw [tz, if_neg c1], rfl, rfl⟩
  · refine R_ic (n := 12) C dX11_turned_11 ci_4 rfl ?_
    refine R_il3 (n := 13) C dX11_turned_12 rfl ?_
    refine R_isubN (n := 14) C dX11_turned_13 (by omega) rfl ?_
    refine R_goto (n := 18) C dX11_turned_14 rfl ?_
    refine R_iaddN (n := 19) C dX11_turned_18 rfl ?_
    refine R_ic (n := 20) C dX11_turned_19 ci_4 rfl ?_
    refine R_iremN (n := 21) C dX11_turned_20 (by omega) (by omega) (by omega) rfl ?_
    refine R_iret C CR (Nat.zero_le _) (Nat.zero_le _) dX11_turned_21 ?_
    exact ⟨by rw [tz, if_pos c1], rfl, rfl⟩
set_option maxRecDepth 20000 in
set_option maxHeartbeats 4000000 in
theorem c_mWayIn (l : Launch) (D : va_G) (cA : Nat → ClassId) (r : Nat → Nat) {L : Ly} {h : Hp} {s m : Nat} (hs : s < 2 ^ 31) (hm : m < 16) : Cn l D cA yX11_wayIn cX11_wayIn 2 (some .int) 0 0 0 [.int (nI s), .int (nI m)] (L) h (pE (some (.int (nI (wy s m)))) L h) := by
  refine Cn.of (lv := [some (.int (nI s)), some (.int (nI m))]) (by decide +kernel) (Nat.le_of_ble_eq_true rfl) rfl (fun X hnm C CR => ?_)
  refine R_il0 (n := 1) C dX11_wayIn_0 rfl ?_
  refine R_ic (n := 2) C dX11_wayIn_1 ci_2 rfl ?_
  refine R_il1 (n := 3) C dX11_wayIn_2 rfl ?_
  refine R_imulN (n := 4) C dX11_wayIn_3 rfl ?_
  refine R_ishrN (n := 5) C dX11_wayIn_4 (by omega) (by omega) rfl ?_
  refine R_ic (n := 6) C dX11_wayIn_5 ci_3 rfl ?_
  refine R_iandN (n := 7) C dX11_wayIn_6 rfl ?_
  rw [and3]
  refine R_iret C CR (Nat.zero_le _) (Nat.zero_le _) dX11_wayIn_7 ?_
  exact ⟨rfl, rfl, rfl⟩
