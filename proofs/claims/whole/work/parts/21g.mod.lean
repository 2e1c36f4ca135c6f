set_option maxRecDepth 20000 in
set_option maxHeartbeats 4000000 in
theorem c_mLookingIn (l : Launch) (D : va_G) (cA : Nat → ClassId) (r : Nat → Nat) {h : Hp} {σ : WS} (R : RM σ h) (I : Inv σ) {l9 w : Nat} (hl : l9 < 1024) (hw : w < 4) : Cn l D cA yX11_lookingIn cX11_lookingIn 5 (some .int) 1 0 0 [.ref (r 73), .int (nI l9), .int (nI w)] (LY r) h (pE (some (.int (nI (vtz (sN σ) l9 w)))) (LY r) h) := by
  refine Cn.of (lv := [some (.ref (r 73)), some (.int (nI l9)), some (.int (nI w)), none, none]) (by decide +kernel) (Nat.le_of_ble_eq_true rfl) rfl (fun X hnm C CR => ?_)
  have n5 := I.n5
  have loop : ∀ (m i : Nat), sN σ < i + m → i ≤ sN σ → Rn X 0 0 5 [some (.ref (r 73)), some (.int (nI l9)), some (.int (nI w)), some (.int (nI (vtz i l9 w))), some (.int (nI i))] [] (LY r) h := by
    intro m
    induction m with
    | zero => intro i a1 a2; omega
    | succ m ih =>
      intro i a1 a2
      refine R_il4 (n := 7) C dX11_lookingIn_5 rfl ?_
      refine R_al0 (n := 8) C dX11_lookingIn_7 rfl ?_
      refine M_getI (n := 11) C fl_X11_94 dX11_lookingIn_8 rfl rfl (mN_ R) rfl ?_
      refine R_icmp_geN (tgt := 38) C dX11_lookingIn_11 rfl rfl (by omega) (by omega) (fun c => ?_) (fun c => ?_)
      · refine R_il3 (n := 39) C dX11_lookingIn_38 rfl ?_
        refine R_iret C CR (Nat.zero_le _) (Nat.zero_le _) dX11_lookingIn_39 ?_
        exact ⟨by rw [show sN σ = i by omega], rfl, rfl⟩
      · have w4 := wy_lt l9 i
        refine R_il3 (n := 15) C dX11_lookingIn_14 rfl ?_
        refine R_il1 (n := 16) C dX11_lookingIn_15 rfl ?_
        refine R_il4 (n := 18) C dX11_lookingIn_16 rfl ?_
        refine R_callS (n := 21) C (c_mWayIn _ _ _ r (by omega) (by omega)) mw_X11_wayIn ml_X11_204 sv_X11_wayIn dX11_lookingIn_18 rfl rfl (Nat.le_of_ble_eq_true rfl) ⟨Nat.le_of_ble_eq_true rfl, Nat.le_of_ble_eq_true rfl⟩ ⟨Nat.le_refl _, Nat.le_refl _⟩ rfl (pEs ?_)
        refine R_il2 (n := 22) C dX11_lookingIn_21 rfl ?_
        refine R_icmp_neN (tgt := 29) C dX11_lookingIn_22 rfl rfl (by omega) (by omega) (fun c2 => ?_) (fun c2 => ?_)
        · have e : vtz (i + 1) l9 w = vtz i l9 w + 0 := by simp [vtz, cnz, c2]
          refine R_ic (n := 30) C dX11_lookingIn_29 ci_0 rfl ?_
          refine R_iaddN (n := 31) C dX11_lookingIn_30 rfl ?_
          refine R_is3 (n := 32) C dX11_lookingIn_31 rfl (Nat.le_of_ble_eq_true rfl) rfl ?_
          refine R_inc4 (n := 35) C dX11_lookingIn_32 rfl (Nat.le_of_ble_eq_true rfl) (inc_1 _) rfl ?_
          refine R_goto (n := 5) C dX11_lookingIn_35 rfl ?_
          rw [← e]
          exact ih (i + 1) (by omega) (by omega)
        · have e : vtz (i + 1) l9 w = vtz i l9 w + 1 := by simp [vtz, cnz, c2]
          refine R_ic (n := 26) C dX11_lookingIn_25 ci_1 rfl ?_
          refine R_goto (n := 30) C dX11_lookingIn_26 rfl ?_
          refine R_iaddN (n := 31) C dX11_lookingIn_30 rfl ?_
          refine R_is3 (n := 32) C dX11_lookingIn_31 rfl (Nat.le_of_ble_eq_true rfl) rfl ?_
          refine R_inc4 (n := 35) C dX11_lookingIn_32 rfl (Nat.le_of_ble_eq_true rfl) (inc_1 _) rfl ?_
          refine R_goto (n := 5) C dX11_lookingIn_35 rfl ?_
          rw [← e]
          exact ih (i + 1) (by omega) (by omega)
  refine R_ic (n := 1) C dX11_lookingIn_0 ci_0 rfl ?_
  refine R_is3 (n := 2) C dX11_lookingIn_1 rfl (Nat.le_of_ble_eq_true rfl) rfl ?_
  refine R_ic (n := 3) C dX11_lookingIn_2 ci_0 rfl ?_
  refine R_is4 (n := 5) C dX11_lookingIn_3 rfl (Nat.le_of_ble_eq_true rfl) rfl ?_
  exact loop (sN σ + 1) 0 (by omega) (by omega)
set_option maxRecDepth 20000 in
set_option maxHeartbeats 4000000 in
theorem m_majority (l : Launch) (D : va_G) (cA : Nat → ClassId) (r : Nat → Nat) {h : Hp} {G : GS} (R : RM (gS G) h) (I : InvG G) (v : Int32) : Cn l D cA yX11_majority cX11_majority 3 (some .int) 3 0 0 [.ref (r 73), .int v] (LY r) h (pG (some (.int (aMajority G v))) (LY r) (FrQ h)) := by
  refine Cn.of (lv := [some (.ref (r 73)), some (.int v), none]) (by decide +kernel) (Nat.le_of_ble_eq_true rfl) rfl (fun X hnm C CR => ?_)
  have p10 := p2_10 I.1.n5
  have n5 := I.1.n5
  refine R_il1 (n := 1) C dX11_majority_0 rfl ?_
  refine R_callS (n := 4) C (c_mIsWay _ _ _ r _) mw_X11_isWay ml_X11_244 sv_X11_isWay dX11_majority_1 rfl rfl (Nat.le_of_ble_eq_true rfl) ⟨Nat.le_of_ble_eq_true rfl, Nat.le_of_ble_eq_true rfl⟩ ⟨Nat.le_refl _, Nat.le_refl _⟩ rfl (pEs ?_)
  refine R_if_neB (tgt := 10) C dX11_majority_4 rfl rfl (fun c1 => ?_) (fun c1 => ?_)
  · obtain ⟨x, x1, x2, rfl⟩ := win_of (by decide) (by decide) c1
    have xc : cl (nI x) = x := nI_clamp (by omega)
    rw [aMajority, if_pos c1, xc] at CR
    have IB : BI (gS G) (bfG G) := bfz_ok I.1
    obtain ⟨Z, hZ⟩ : ∃ Z, (bfG G).1.find? (fun y => decide (sN (gS G) < 2 * vtz (sN (gS G)) y x)) = Z := ⟨_, rfl⟩
    rw [ffz, hZ] at CR
    refine R_al0 (n := 11) C dX11_majority_10 rfl ?_
    refine R_al0 (n := 12) C dX11_majority_11 rfl ?_
    refine M_getI (n := 15) C fl_X11_98 dX11_majority_12 rfl rfl (mKn R) rfl ?_
    refine M_callV (n := 18) C (c_spread _ _ _ r R I.1 I.1.kn) mw_X11_spread ml_X11_217 iv_X11_spread dX11_majority_15 rfl rfl rfl rfl (Nat.le_of_ble_eq_true rfl) ⟨Nat.le_of_ble_eq_true rfl, Nat.le_of_ble_eq_true rfl⟩ ⟨Nat.le_refl _, Nat.le_refl _⟩ rfl (pGv (fun h2 q2 => ?_))
    have E2 : RMB (bfG G) h2 := q2.1
    have R2 := q2.2.rm R
    have len := IB.len
    have loop : ∀ (m i : Nat), (bfG G).1.length < i + m → i ≤ (bfG G).1.length → Z = ((bfG G).1.drop i).find? (fun y => decide (sN (gS G) < 2 * vtz (sN (gS G)) y x)) → Rn X 0 0 20 [some (.ref (r 73)), some (.int (nI x)), some (.int (nI i))] [] (LY r) h2 := by
      intro m
      induction m with
      | zero => intro i a1 a2; omega
      | succ m ih =>
        intro i a1 a2 hz
        refine R_il2 (n := 21) C dX11_majority_20 rfl ?_
        refine R_al0 (n := 22) C dX11_majority_21 rfl ?_
        refine M_getI (n := 25) C fl_X11_208 dX11_majority_22 rfl rfl E2.1 rfl ?_
        refine R_icmp_geN (tgt := 66) C dX11_majority_25 rfl rfl (by omega) (by omega) (fun c2 => ?_) (fun c2 => ?_)
        · rw [List.drop_eq_nil_of_le (by omega)] at hz
          refine R_bp (n := 68) C dX11_majority_66 cb_m6 rfl ?_
          refine R_iret C CR (Nat.zero_le _) (Nat.zero_le _) dX11_majority_68 ?_
          exact ⟨by rw [hz]; rfl, rfl, q2.2⟩
        · have e : (bfG G).1[i]? = some (bfG G).1[i] := List.getElem?_eq_getElem c2
          obtain ⟨y, hy⟩ : ∃ y, (bfG G).1[i] = y := ⟨_, rfl⟩
          rw [List.drop_eq_getElem_cons c2, hy, List.find?_cons] at hz
          rw [hy] at e
          have e22 := E2.2.1 i y e
          obtain ⟨y1, y2⟩ := IB.1 i y e
          have y10 : y < 1024 := by omega
          have ee : h2 88 y = nI ((bfG G).2.1 y - 1) := by rw [E2.2.2.1 y y10, fvI_pos y2]
          have pl := vtz_le (n := sN (gS G)) (l := y) (w := x)
          refine R_ic (n := 29) C dX11_majority_28 ci_2 rfl ?_
          refine R_al0 (n := 30) C dX11_majority_29 rfl ?_
          refine R_al0 (n := 31) C dX11_majority_30 rfl ?_
          refine M_getR (n := 34) C fl_X11_49 dX11_majority_31 rfl rfl rfl ?_
          refine R_il2 (n := 35) C dX11_majority_34 rfl ?_
          refine M_iald (n := 36) C dX11_majority_35 rfl (by omega) e22 rfl ?_
          refine R_il1 (n := 37) C dX11_majority_36 rfl ?_
          refine M_callV (n := 40) C (c_mLookingIn _ _ _ r R2 I.1 y10 (by omega)) mw_X11_lookingIn ml_X11_280 iv_X11_lookingIn dX11_majority_37 rfl rfl rfl rfl (Nat.le_of_ble_eq_true rfl) ⟨Nat.le_of_ble_eq_true rfl, Nat.le_of_ble_eq_true rfl⟩ ⟨Nat.le_refl _, Nat.le_refl _⟩ rfl (pEs ?_)
          refine R_imulN (n := 41) C dX11_majority_40 rfl ?_
          refine R_al0 (n := 42) C dX11_majority_41 rfl ?_
          refine M_getI (n := 45) C fl_X11_94 dX11_majority_42 rfl rfl (mN_ R2) rfl ?_
          refine R_icmp_leN (tgt := 60) C dX11_majority_45 rfl rfl (by omega) (by omega) (fun c3 => ?_) (fun c3 => ?_)
          · rw [decide_eq_false (by omega)] at hz
            refine R_inc2 (n := 63) C dX11_majority_60 rfl (Nat.le_of_ble_eq_true rfl) (inc_1 _) rfl ?_
            refine R_goto (n := 20) C dX11_majority_63 rfl ?_
            exact ih (i + 1) (by omega) (by omega) hz
          · rw [decide_eq_true (by omega)] at hz
            refine R_al0 (n := 49) C dX11_majority_48 rfl ?_
            refine M_getR (n := 52) C fl_X11_52 dX11_majority_49 rfl rfl rfl ?_
            refine R_al0 (n := 53) C dX11_majority_52 rfl ?_
            refine M_getR (n := 56) C fl_X11_49 dX11_majority_53 rfl rfl rfl ?_
            refine R_il2 (n := 57) C dX11_majority_56 rfl ?_
            refine M_iald (n := 58) C dX11_majority_57 rfl (by omega) e22 rfl ?_
            refine M_iald (n := 59) C dX11_majority_58 rfl y10 ee rfl ?_
            refine R_iret C CR (Nat.zero_le _) (Nat.zero_le _) dX11_majority_59 ?_
            exact ⟨by rw [hz]; rfl, rfl, q2.2⟩
    refine R_ic (n := 19) C dX11_majority_18 ci_0 rfl ?_
    refine R_is2 (n := 20) C dX11_majority_19 rfl (Nat.le_of_ble_eq_true rfl) rfl ?_
    exact loop ((bfG G).1.length + 1) 0 (by omega) (by omega) hZ.symm
  · refine R_bp (n := 9) C dX11_majority_7 cb_m2 rfl ?_
    refine R_iret C CR (Nat.zero_le _) (Nat.zero_le _) dX11_majority_9 ?_
    refine ⟨?_, rfl, FrQ.rf⟩
    rw [aMajority, if_neg (by rw [c1]; decide)]
