set_option maxRecDepth 20000 in
set_option maxHeartbeats 4000000 in
theorem c_mToldOfHut (l : Launch) (D : va_G) (cA : Nat → ClassId) (r : Nat → Nat) {h : Hp} {σ : WS} (R : RM σ h) (I : Inv σ) {k w : Nat} (hk : k < 5) (hw : w < 10) : Cn l D cA yX11_toldOfHut cX11_toldOfHut 3 (some .int) 2 0 0 [.ref (r 73), .int (nI k), .int (nI w)] (LY r) h (pE (some (.int (toH σ k w))) (LY r) h) := by
  refine Cn.of (lv := [some (.ref (r 73)), some (.int (nI k)), some (.int (nI w))]) (by decide +kernel) (Nat.le_of_ble_eq_true rfl) rfl (fun X hnm C CR => ?_)
  have n5 := I.n5
  have n1 := I.n1
  refine R_al0 (n := 1) C dX11_toldOfHut_0 rfl ?_
  refine R_il1 (n := 2) C dX11_toldOfHut_1 rfl ?_
  refine M_callV (n := 5) C (c_mIsHut _ _ _ r R I _) mw_X11_isHut ml_X11_112 iv_X11_isHut dX11_toldOfHut_2 rfl rfl rfl rfl (Nat.le_of_ble_eq_true rfl) ⟨Nat.le_of_ble_eq_true rfl, Nat.le_of_ble_eq_true rfl⟩ ⟨Nat.le_refl _, Nat.le_refl _⟩ rfl (pEs ?_)
  rw [show hasH σ (nI k) = decide (k < sN σ) by unfold hasH; rw [win_nI (by omega) (by decide) (by omega)]; simp; omega]
  refine R_if_neB (tgt := 11) C dX11_toldOfHut_5 rfl rfl (fun c1 => ?_) (fun c1 => ?_)
  · have kl := of_decide_eq_true c1
    rw [toH, if_pos kl] at CR
    refine R_il2 (n := 12) C dX11_toldOfHut_11 rfl ?_
    by_cases w4 : w ≤ 4
    · obtain rfl | rfl | rfl | rfl | rfl : w = 0 ∨ w = 1 ∨ w = 2 ∨ w = 3 ∨ w = 4 := by omega
      · refine R_tabIn (n := 48) (off := 36) C dX11_toldOfHut_12 (by decide) (by decide) rfl rfl ?_
        refine R_al0 (n := 49) C dX11_toldOfHut_48 rfl ?_
        refine M_getR (n := 52) C fl_X11_7 dX11_toldOfHut_49 rfl rfl rfl ?_
        refine R_il1 (n := 53) C dX11_toldOfHut_52 rfl ?_
        refine M_iald (n := 54) C dX11_toldOfHut_53 rfl hk (mLk R hk) rfl ?_
        refine R_iret C CR (Nat.zero_le _) (Nat.zero_le _) dX11_toldOfHut_54 ?_
        exact ⟨rfl, rfl, rfl⟩
      · refine R_tabIn (n := 55) (off := 43) C dX11_toldOfHut_12 (by decide) (by decide) rfl rfl ?_
        refine R_al0 (n := 56) C dX11_toldOfHut_55 rfl ?_
        refine M_getR (n := 59) C fl_X11_13 dX11_toldOfHut_56 rfl rfl rfl ?_
        refine R_il1 (n := 60) C dX11_toldOfHut_59 rfl ?_
        refine M_iald (n := 61) C dX11_toldOfHut_60 rfl hk (mLg R hk) rfl ?_
        refine R_iret C CR (Nat.zero_le _) (Nat.zero_le _) dX11_toldOfHut_61 ?_
        exact ⟨rfl, rfl, rfl⟩
      · refine R_tabIn (n := 62) (off := 50) C dX11_toldOfHut_12 (by decide) (by decide) rfl rfl ?_
        refine R_al0 (n := 63) C dX11_toldOfHut_62 rfl ?_
        refine M_getR (n := 66) C fl_X11_16 dX11_toldOfHut_63 rfl rfl rfl ?_
        refine R_il1 (n := 67) C dX11_toldOfHut_66 rfl ?_
        refine M_iald (n := 68) C dX11_toldOfHut_67 rfl hk (mMo R hk) rfl ?_
        refine R_iret C CR (Nat.zero_le _) (Nat.zero_le _) dX11_toldOfHut_68 ?_
        exact ⟨rfl, rfl, rfl⟩
      · refine R_tabIn (n := 69) (off := 57) C dX11_toldOfHut_12 (by decide) (by decide) rfl rfl ?_
        refine R_al0 (n := 70) C dX11_toldOfHut_69 rfl ?_
        refine M_getR (n := 73) C fl_X11_19 dX11_toldOfHut_70 rfl rfl rfl ?_
        refine R_il1 (n := 74) C dX11_toldOfHut_73 rfl ?_
        refine M_iald (n := 75) C dX11_toldOfHut_74 rfl hk (mKd R hk) rfl ?_
        refine R_iret C CR (Nat.zero_le _) (Nat.zero_le _) dX11_toldOfHut_75 ?_
        exact ⟨rfl, rfl, rfl⟩
      · refine R_tabIn (n := 76) (off := 64) C dX11_toldOfHut_12 (by decide) (by decide) rfl rfl ?_
        refine R_al0 (n := 77) C dX11_toldOfHut_76 rfl ?_
        refine M_getR (n := 80) C fl_X11_22 dX11_toldOfHut_77 rfl rfl rfl ?_
        refine R_il1 (n := 81) C dX11_toldOfHut_80 rfl ?_
        refine M_iald (n := 82) C dX11_toldOfHut_81 rfl hk (mCe R hk) rfl ?_
        refine R_iret C CR (Nat.zero_le _) (Nat.zero_le _) dX11_toldOfHut_82 ?_
        exact ⟨rfl, rfl, rfl⟩
    · refine R_tabOut (n := 83) C dX11_toldOfHut_12 (by rw [nI_toInt (by omega)]; omega) rfl ?_
      rw [if_neg (by omega), if_neg (by omega), if_neg (by omega), if_neg (by omega), if_neg (by omega)] at CR
      refine R_bp (n := 85) C dX11_toldOfHut_83 cb_m2 rfl ?_
      refine R_iret C CR (Nat.zero_le _) (Nat.zero_le _) dX11_toldOfHut_85 ?_
      exact ⟨rfl, rfl, rfl⟩
  · refine R_bp (n := 10) C dX11_toldOfHut_8 cb_m2 rfl ?_
    refine R_iret C CR (Nat.zero_le _) (Nat.zero_le _) dX11_toldOfHut_10 ?_
    exact ⟨by rw [toH, if_neg (of_decide_eq_false c1)], rfl, rfl⟩
set_option maxRecDepth 20000 in
set_option maxHeartbeats 4000000 in
theorem m_told (l : Launch) (D : va_G) (cA : Nat → ClassId) (r : Nat → Nat) {h : Hp} {G : GS} (R : RMo G h) (I : InvG G) (v : Int32) : Cn l D cA yX11_told cX11_told 4 (some .int) 3 0 0 [.ref (r 73), .int v] (LY r) h (pG (some (.int (aTold G v))) (LY r) (fun h' => RMo G h' ∧ FrM h h')) := by
  refine Cn.of (lv := [some (.ref (r 73)), some (.int v), none, none]) (by decide +kernel) (Nat.le_of_ble_eq_true rfl) rfl (fun X hnm C CR => ?_)
  have n5 := I.1.n5
  have n1 := I.1.n1
  refine R_il1 (n := 1) C dX11_told_0 rfl ?_
  refine R_i2l (n := 2) C dX11_told_1 rfl rfl ?_
  refine R_ldc2 (n := 5) C dX11_told_2 kl_X11_339 rfl ?_
  refine R_eql (y := lN 100) (by decide +kernel) ?_
  refine R_ldc2 (n := 8) C dX11_told_5 kl_X11_341 rfl ?_
  refine R_eql (y := lN 699) (by decide +kernel) ?_
  refine R_callS (n := 11) C (c_mIn _ _ _ r _ _ _) mw_X11_in ml_X11_104 sv_X11_in dX11_told_8 rfl rfl (Nat.le_of_ble_eq_true rfl) ⟨Nat.le_of_ble_eq_true rfl, Nat.le_of_ble_eq_true rfl⟩ ⟨Nat.le_refl _, Nat.le_refl _⟩ rfl (pEs ?_)
  rw [winL_n (by decide) (by decide)]
  refine R_if_eqB (tgt := 58) C dX11_told_11 rfl rfl (fun c1 => ?_) (fun c1 => ?_)
  · refine R_il1 (n := 59) C dX11_told_58 rfl ?_
    refine R_i2l (n := 60) C dX11_told_59 rfl rfl ?_
    refine R_ldc2 (n := 63) C dX11_told_60 kl_X11_306 rfl ?_
    refine R_eql (y := lN 10) (by decide +kernel) ?_
    refine R_ldc2 (n := 66) C dX11_told_63 kl_X11_343 rfl ?_
    refine R_eql (y := lN 59) (by decide +kernel) ?_
    refine R_callS (n := 69) C (c_mIn _ _ _ r _ _ _) mw_X11_in ml_X11_104 sv_X11_in dX11_told_66 rfl rfl (Nat.le_of_ble_eq_true rfl) ⟨Nat.le_of_ble_eq_true rfl, Nat.le_of_ble_eq_true rfl⟩ ⟨Nat.le_refl _, Nat.le_refl _⟩ rfl (pEs ?_)
    rw [winL_n (by decide) (by decide)]
    refine R_if_eqB (tgt := 87) C dX11_told_69 rfl rfl (fun c2 => ?_) (fun c2 => ?_)
    · rw [aTold, c1, c2] at CR
      have fin : ∀ u : Int32, (if win v (nI 0) (nI 4) = true then (if cl v = 0 then nI (gP G).1 else if cl v = 1 then nI (sN (gS G)) else if cl v = 2 then nI (sKn (gS G)) else if cl v = 3 then nI (sSg (gS G)) else nI (nuz (gS G))) else -2) = u → Rn X 0 0 148 [some (.ref (r 73)), some (.int v), none, none] [.int u] (LY r) h := by
        intro u e
        refine R_iret C CR (Nat.zero_le _) (Nat.zero_le _) dX11_told_148 ?_
        exact ⟨by rw [← e]; rfl, rfl, R, FrM.rf⟩
      refine R_il1 (n := 88) C dX11_told_87 rfl ?_
      refine R_if_ne (tgt := 98) C dX11_told_88 rfl rfl (fun d0 => ?_) (fun d0 => ?_)
      · refine R_il1 (n := 99) C dX11_told_98 rfl ?_
        refine R_ic (n := 100) C dX11_told_99 ci_1 rfl ?_
        refine R_icmp_ne (tgt := 110) C dX11_told_100 rfl rfl (fun d1 => ?_) (fun d1 => ?_)
        · refine R_il1 (n := 111) C dX11_told_110 rfl ?_
          refine R_ic (n := 112) C dX11_told_111 ci_2 rfl ?_
          refine R_icmp_ne (tgt := 122) C dX11_told_112 rfl rfl (fun d2 => ?_) (fun d2 => ?_)
          · refine R_il1 (n := 123) C dX11_told_122 rfl ?_
            refine R_ic (n := 124) C dX11_told_123 ci_3 rfl ?_
            refine R_icmp_ne (tgt := 134) C dX11_told_124 rfl rfl (fun d3 => ?_) (fun d3 => ?_)
            · refine R_il1 (n := 135) C dX11_told_134 rfl ?_
              refine R_ic (n := 136) C dX11_told_135 ci_4 rfl ?_
              refine R_icmp_ne (tgt := 146) C dX11_told_136 rfl rfl (fun d4 => ?_) (fun d4 => ?_)
              · have nw : win v (nI 0) (nI 4) = false := by
                  cases e : win v (nI 0) (nI 4) with
                  | false => rfl
                  | true =>
                    obtain ⟨x, _, x1, rfl⟩ := win_of (by decide) (by decide) e
                    obtain rfl | rfl | rfl | rfl | rfl : x = 0 ∨ x = 1 ∨ x = 2 ∨ x = 3 ∨ x = 4 := by omega
                    · exact absurd rfl d0
                    · exact absurd rfl d1
                    · exact absurd rfl d2
                    · exact absurd rfl d3
                    · exact absurd rfl d4
                refine R_bp (n := 148) C dX11_told_146 cb_m2 rfl ?_
                exact fin _ (by rw [nw]; rfl)
              · subst d4
                refine R_al0 (n := 140) C dX11_told_139 rfl ?_
                refine M_callV (n := 143) C (c_mLookNow _ _ _ r R.1 I.1) mw_X11_lookNow ml_X11_211 iv_X11_lookNow dX11_told_140 rfl rfl rfl rfl (Nat.le_of_ble_eq_true rfl) ⟨Nat.le_of_ble_eq_true rfl, Nat.le_of_ble_eq_true rfl⟩ ⟨Nat.le_refl _, Nat.le_refl _⟩ rfl (pEs ?_)
                refine R_goto (n := 148) C dX11_told_143 rfl ?_
                exact fin _ rfl
            · subst d3
              refine R_al0 (n := 128) C dX11_told_127 rfl ?_
              refine M_getI (n := 131) C fl_X11_101 dX11_told_128 rfl rfl (mSg R.1) rfl ?_
              refine R_goto (n := 148) C dX11_told_131 rfl ?_
              exact fin _ rfl
          · subst d2
            refine R_al0 (n := 116) C dX11_told_115 rfl ?_
            refine M_getI (n := 119) C fl_X11_98 dX11_told_116 rfl rfl (mKn R.1) rfl ?_
            refine R_goto (n := 148) C dX11_told_119 rfl ?_
            exact fin _ rfl
        · subst d1
          refine R_al0 (n := 104) C dX11_told_103 rfl ?_
          refine M_getI (n := 107) C fl_X11_94 dX11_told_104 rfl rfl (mN_ R.1) rfl ?_
          refine R_goto (n := 148) C dX11_told_107 rfl ?_
          exact fin _ rfl
      · subst d0
        refine R_al0 (n := 92) C dX11_told_91 rfl ?_
        refine M_getI (n := 95) C fl_X11_128 dX11_told_92 rfl rfl R.2.1.1 rfl ?_
        refine R_goto (n := 148) C dX11_told_95 rfl ?_
        exact fin _ rfl
    · obtain ⟨x, x1, x2, rfl⟩ := win_of (by decide) (by decide) c2
      have xc : cl (nI x) = x := nI_clamp (by omega)
      rw [aTold, c2, xc, win_nI (by omega) (by decide) (by decide), decide_eq_false (show ¬ x ≤ 4 by omega), Bool.and_false] at CR
      refine R_al0 (n := 73) C dX11_told_72 rfl ?_
      refine R_il1 (n := 74) C dX11_told_73 rfl ?_
      refine R_bp (n := 76) C dX11_told_74 cb_10 rfl ?_
      refine R_idivN (n := 77) C dX11_told_76 (by omega) (by omega) (by omega) rfl ?_
      refine R_ic (n := 78) C dX11_told_77 ci_1 rfl ?_
      refine R_isubN (n := 79) C dX11_told_78 (by omega) rfl ?_
      refine R_il1 (n := 80) C dX11_told_79 rfl ?_
      refine R_bp (n := 82) C dX11_told_80 cb_10 rfl ?_
      refine R_iremN (n := 83) C dX11_told_82 (by omega) (by omega) (by omega) rfl ?_
      refine M_callV (n := 86) C (c_mToldOfHut _ _ _ r R.1 I.1 (by omega) (by omega)) mw_X11_toldOfHut ml_X11_345 iv_X11_toldOfHut dX11_told_83 rfl rfl rfl rfl (Nat.le_of_ble_eq_true rfl) ⟨Nat.le_of_ble_eq_true rfl, Nat.le_of_ble_eq_true rfl⟩ ⟨Nat.le_refl _, Nat.le_refl _⟩ rfl (pEs ?_)
      refine R_iret C CR (Nat.zero_le _) (Nat.zero_le _) dX11_told_86 ?_
      exact ⟨rfl, rfl, R, FrM.rf⟩
  · obtain ⟨x, x1, x2, rfl⟩ := win_of (by decide) (by decide) c1
    have xc : cl (nI x) = x := nI_clamp (by omega)
    rw [aTold, c1, xc, win_nI (by omega) (by decide) (by decide), decide_eq_false (show ¬ x ≤ 4 by omega), Bool.and_false, win_nI (by omega) (by decide) (by decide), decide_eq_false (show ¬ x ≤ 59 by omega), Bool.and_false, if_neg (by decide), if_neg (by decide), if_pos rfl] at CR
    have no : ((sKn (gS G)).testBit (x / 100 - 1) && decide (x % 100 < sN (gS G))) = false → Rn X 0 0 55 [some (.ref (r 73)), some (.int (nI x)), some (.int (nI (x / 100 - 1))), some (.int (nI (x % 100)))] [] (LY r) h := by
      intro q
      rw [q] at CR
      refine R_bp (n := 57) C dX11_told_55 cb_m2 rfl ?_
      refine R_iret C CR (Nat.zero_le _) (Nat.zero_le _) dX11_told_57 ?_
      exact ⟨rfl, rfl, R, FrM.rf⟩
    refine R_il1 (n := 15) C dX11_told_14 rfl ?_
    refine R_bp (n := 17) C dX11_told_15 cb_100 rfl ?_
    refine R_idivN (n := 18) C dX11_told_17 (by omega) (by omega) (by omega) rfl ?_
    refine R_ic (n := 19) C dX11_told_18 ci_1 rfl ?_
    refine R_isubN (n := 20) C dX11_told_19 (by omega) rfl ?_
    refine R_is2 (n := 21) C dX11_told_20 rfl (Nat.le_of_ble_eq_true rfl) rfl ?_
    refine R_il1 (n := 22) C dX11_told_21 rfl ?_
    refine R_bp (n := 24) C dX11_told_22 cb_100 rfl ?_
    refine R_iremN (n := 25) C dX11_told_24 (by omega) (by omega) (by omega) rfl ?_
    refine R_is3 (n := 26) C dX11_told_25 rfl (Nat.le_of_ble_eq_true rfl) rfl ?_
    refine R_al0 (n := 27) C dX11_told_26 rfl ?_
    refine R_il2 (n := 28) C dX11_told_27 rfl ?_
    refine M_callV (n := 31) C (c_mIsKnown _ _ _ r R.1 I.1 _) mw_X11_isKnown ml_X11_155 iv_X11_isKnown dX11_told_28 rfl rfl rfl rfl (Nat.le_of_ble_eq_true rfl) ⟨Nat.le_of_ble_eq_true rfl, Nat.le_of_ble_eq_true rfl⟩ ⟨Nat.le_refl _, Nat.le_refl _⟩ rfl (pEs ?_)
    rw [kwz_n (by omega)]
    refine R_if_eqB (tgt := 55) C dX11_told_31 rfl rfl (fun c2 => ?_) (fun c2 => ?_)
    · exact no (by rw [c2, Bool.false_and])
    · refine R_al0 (n := 35) C dX11_told_34 rfl ?_
      refine R_il3 (n := 36) C dX11_told_35 rfl ?_
      refine M_callV (n := 39) C (c_mIsHut _ _ _ r R.1 I.1 _) mw_X11_isHut ml_X11_112 iv_X11_isHut dX11_told_36 rfl rfl rfl rfl (Nat.le_of_ble_eq_true rfl) ⟨Nat.le_of_ble_eq_true rfl, Nat.le_of_ble_eq_true rfl⟩ ⟨Nat.le_refl _, Nat.le_refl _⟩ rfl (pEs ?_)
      rw [show hasH (gS G) (nI (x % 100)) = decide (x % 100 < sN (gS G)) by unfold hasH; rw [win_nI (by omega) (by decide) (by omega)]; simp; omega]
      refine R_if_eqB (tgt := 55) C dX11_told_39 rfl rfl (fun c3 => ?_) (fun c3 => ?_)
      · exact no (by rw [c3, Bool.and_false])
      · rw [c2, c3] at CR
        have g := of_decide_eq_true c3
        refine R_al0 (n := 43) C dX11_told_42 rfl ?_
        refine M_getR (n := 46) C fl_X11_25 dX11_told_43 rfl rfl rfl ?_
        refine R_ic (n := 47) C dX11_told_46 ci_5 rfl ?_
        refine R_il2 (n := 48) C dX11_told_47 rfl ?_
        refine R_imulN (n := 49) C dX11_told_48 rfl ?_
        refine R_il3 (n := 50) C dX11_told_49 rfl ?_
        refine R_iaddN (n := 51) C dX11_told_50 rfl ?_
        refine M_iald (n := 52) C dX11_told_51 rfl (by omega) (mTu R.1 (show 5 * (x / 100 - 1) + x % 100 < 30 by omega)) rfl ?_
        refine R_goto (n := 57) C dX11_told_52 rfl ?_
        refine R_iret C CR (Nat.zero_le _) (Nat.zero_le _) dX11_told_57 ?_
        exact ⟨rfl, rfl, R, FrM.rf⟩
set_option maxRecDepth 20000 in
set_option maxHeartbeats 4000000 in
theorem c_mPass (l : Launch) (D : va_G) (cA : Nat → ClassId) (r : Nat → Nat) {h : Hp} {p : Nat} {b : Bool} {v : Int32} (h39 : h 73 39 = nI p) (h40 : h 73 40 = bI b) (hp : p < 200) : Cn l D cA yX11_pass cX11_pass 3 (some .int) 0 0 0 [.ref (r 73), .int v] (LY r) h (pE (some (.int (if b = true then v else h 98 p))) (LY r) (up2 (up2 h 98 p (if b = true then v else h 98 p)) 73 39 (nI (p + 1)))) := by
  refine Cn.of (lv := [some (.ref (r 73)), some (.int v), none]) (by decide +kernel) (Nat.le_of_ble_eq_true rfl) rfl (fun X hnm C CR => ?_)
  have fin : ∀ u : Int32, (if b = true then v else h 98 p) = u → Rn X 0 0 20 [some (.ref (r 73)), some (.int v), none] [.int u] (LY r) h := by
    intro u e
    rw [e] at CR
    refine R_is2 (n := 21) C dX11_pass_20 rfl (Nat.le_of_ble_eq_true rfl) rfl ?_
    refine R_al0 (n := 22) C dX11_pass_21 rfl ?_
    refine M_getR (n := 25) C fl_X11_83 dX11_pass_22 rfl rfl rfl ?_
    refine R_al0 (n := 26) C dX11_pass_25 rfl ?_
    refine M_getI (n := 29) C fl_X11_330 dX11_pass_26 rfl rfl h39 rfl ?_
    refine R_il2 (n := 30) C dX11_pass_29 rfl ?_
    refine M_iast (n := 31) C dX11_pass_30 rfl hp rfl ?_
    refine R_al0 (n := 32) C dX11_pass_31 rfl ?_
    refine R_dup (n := 33) C dX11_pass_32 rfl rfl ?_
    refine M_getI (n := 36) C fl_X11_330 dX11_pass_33 rfl rfl (up2_get (by decide) h39) rfl ?_
    refine R_ic (n := 37) C dX11_pass_36 ci_1 rfl ?_
    refine R_iaddN (n := 38) C dX11_pass_37 rfl ?_
    refine M_putI (n := 41) C fl_X11_330 dX11_pass_38 rfl rfl rfl rfl rfl ?_
    refine R_il2 (n := 42) C dX11_pass_41 rfl ?_
    refine R_iret C CR (Nat.zero_le _) (Nat.zero_le _) dX11_pass_42 ?_
    exact ⟨rfl, rfl, rfl⟩
  refine R_al0 (n := 1) C dX11_pass_0 rfl ?_
  refine M_getI (n := 4) C fl_X11_326 dX11_pass_1 rfl rfl h40 rfl ?_
  refine R_if_eqB (tgt := 11) C dX11_pass_4 rfl rfl (fun c1 => ?_) (fun c1 => ?_)
  · refine R_al0 (n := 12) C dX11_pass_11 rfl ?_
    refine M_getR (n := 15) C fl_X11_83 dX11_pass_12 rfl rfl rfl ?_
    refine R_al0 (n := 16) C dX11_pass_15 rfl ?_
    refine M_getI (n := 19) C fl_X11_330 dX11_pass_16 rfl rfl h39 rfl ?_
    refine M_iald (n := 20) C dX11_pass_19 rfl hp rfl rfl ?_
    exact fin _ (by rw [c1]; rfl)
  · refine R_il1 (n := 8) C dX11_pass_7 rfl ?_
    refine R_goto (n := 20) C dX11_pass_8 rfl ?_
    exact fin _ (by rw [c1]; rfl)
def slC (s : Nat) : Nat := if s < 3 then 73 else if s < 28 then 74 + (s - 3) % 5 else if s < 58 then 79 else 80 + (s - 58) % 3
def slK (s : Nat) : Nat := if s = 0 then 0 else if s = 1 then 6 else if s = 2 then 11 else if s < 28 then (s - 3) / 5 else if s < 58 then s - 28 else (s - 58) / 3
theorem sl_inj : ∀ s, s < 76 → ∀ t, t < 76 → slC s = slC t → slK s = slK t → s = t := by decide +kernel
theorem sl_98 : ∀ s, s < 76 → 73 ≤ slC s ∧ slC s ≤ 82 ∧ (slC s = 73 → slK s = 0 ∨ slK s = 6 ∨ slK s = 11) := by decide +kernel
def slI (j k : Nat) : Nat := if j < 5 then 3 + 5 * k + j else if j = 5 then 28 + k else 58 + 3 * k + (j - 6)
theorem slI_ok {j k : Nat} (hj : j < 9) (hk : k < alen j) : slI j k < 76 ∧ slC (slI j k) = 74 + j ∧ slK (slI j k) = k ∧ ∀ σ, ikz σ (slI j k) = sA σ j k := by
  unfold alen at hk
  unfold slI
  by_cases h5 : j < 5
  · rw [if_neg (by omega), if_neg (by omega)] at hk
    rw [if_pos h5]
    refine ⟨by omega, ?_, ?_, fun σ => ?_⟩
    · rw [slC, if_neg (by omega), if_pos (by omega)]; omega
    · rw [slK, if_neg (by omega), if_neg (by omega), if_neg (by omega), if_pos (by omega)]; omega
    · rw [ikz, if_neg (by omega), if_neg (by omega), if_neg (by omega), if_pos (by omega), show (3 + 5 * k + j - 3) % 5 = j by omega, show (3 + 5 * k + j - 3) / 5 = k by omega]
  · by_cases e5 : j = 5
    · subst e5
      rw [if_pos rfl] at hk
      rw [if_neg h5, if_pos rfl]
      refine ⟨by omega, ?_, ?_, fun σ => ?_⟩
      · rw [slC, if_neg (by omega), if_neg (by omega), if_pos (by omega)]
      · rw [slK, if_neg (by omega), if_neg (by omega), if_neg (by omega), if_neg (by omega), if_pos (by omega)]; omega
      · rw [ikz, if_neg (by omega), if_neg (by omega), if_neg (by omega), if_neg (by omega), if_pos (by omega), show 28 + k - 28 = k by omega]
    · rw [if_neg e5, if_pos (by omega)] at hk
      rw [if_neg h5, if_neg e5]
      refine ⟨by omega, ?_, ?_, fun σ => ?_⟩
      · rw [slC, if_neg (by omega), if_neg (by omega), if_neg (by omega)]; omega
      · rw [slK, if_neg (by omega), if_neg (by omega), if_neg (by omega), if_neg (by omega), if_neg (by omega)]; omega
      · rw [ikz, if_neg (by omega), if_neg (by omega), if_neg (by omega), if_neg (by omega), if_neg (by omega), show 6 + (58 + 3 * k + (j - 6) - 58) % 3 = j by omega, show (58 + 3 * k + (j - 6) - 58) / 3 = k by omega]
def PI (b : Bool) (bs : Nat) (τ : WS) (h : Hp) (t : Nat) (g : Hp) : Prop := (g 73 39 = nI (bs + t) ∧ g 73 40 = bI b) ∧ (∀ s, s < 76 → s < t ∨ b = true → g (slC s) (slK s) = nI (ikz τ s)) ∧ (∀ s, s < 76 → s < t ∨ b = false → g 98 (bs + s) = nI (ikz τ s)) ∧ (∀ i, i < bs ∨ bs + 76 ≤ i → g 98 i = h 98 i) ∧ (∀ a, a < 73 ∨ 82 < a → a ≠ 98 → g a = h a) ∧ ∀ k, k ≠ 0 → k ≠ 6 → k ≠ 11 → k ≠ 39 → g 73 k = h 73 k
theorem PI.val {b : Bool} {bs : Nat} {τ : WS} {h g : Hp} {t a k : Nat} (P : PI b bs τ h t g) (ht : t < 76) (ha : slC t = a) (hk : slK t = k) : (if b = true then g a k else g 98 (bs + t)) = nI (ikz τ t) := by
  subst ha hk
  cases b with
  | true => exact P.2.1 t ht (Or.inr rfl)
  | false => exact P.2.2.1 t ht (Or.inr rfl)
theorem PI.nx {b : Bool} {bs : Nat} {τ : WS} {h g : Hp} {t a k : Nat} (P : PI b bs τ h t g) (ht : t < 76) (ha : slC t = a) (hk : slK t = k) : PI b bs τ h (t + 1) (up2 (up2 (up2 g 98 (bs + t) (nI (ikz τ t))) 73 39 (nI (bs + t + 1))) a k (nI (ikz τ t))) := by
  have st := sl_98 t ht
  subst ha hk
  refine ⟨⟨?_, ?_⟩, fun s hs q => ?_, fun s hs q => ?_, fun i hi => ?_, fun c hc h98 => ?_, fun j j0 j6 j11 j39 => ?_⟩
  · by_cases e : slC t = 73
    · have := st.2.2 e
      rw [e, up2_ne (by omega), up2_same, Nat.add_assoc]
    · rw [up2_row (by omega), up2_same, Nat.add_assoc]
  · by_cases e : slC t = 73
    · have := st.2.2 e
      rw [e, up2_ne (by omega), up2_ne (by decide), up2_row (by decide)]
      exact P.1.2
    · rw [up2_row (by omega), up2_ne (by decide), up2_row (by decide)]
      exact P.1.2
  · have ss := sl_98 s hs
    by_cases e : s = t
    · subst e
      rw [up2_same]
    · have q' : s < t ∨ b = true := by rcases q with q | q; exact Or.inl (by omega); exact Or.inr q
      have old := P.2.1 s hs q'
      have mid : (up2 (up2 g 98 (bs + t) (nI (ikz τ t))) 73 39 (nI (bs + t + 1))) (slC s) (slK s) = nI (ikz τ s) := by
        by_cases e3 : slC s = 73
        · have := ss.2.2 e3
          rw [e3] at old ⊢
          rw [up2_ne (by omega), up2_row (by decide)]
          exact old
        · rw [up2_row e3, up2_row (by omega)]
          exact old
      by_cases e1 : slC s = slC t
      · have e2 : slK s ≠ slK t := fun e2 => e (sl_inj s hs t ht e1 e2)
        rw [e1] at mid ⊢
        rw [up2_ne e2]
        exact mid
      · rw [up2_row e1]
        exact mid
  · rw [up2_row (by omega), up2_row (by decide), up2_at]
    by_cases e : s = t
    · rw [e, if_pos rfl]
    · rw [if_neg (by omega)]
      exact P.2.2.1 s hs (by rcases q with q | q; exact Or.inl (by omega); exact Or.inr q)
  · rw [up2_row (by omega), up2_row (by decide), up2_ne (by omega)]
    exact P.2.2.2.1 i hi
  · rw [up2_row (by omega), up2_row (by omega), up2_row h98]
    exact P.2.2.2.2.1 c hc h98
  · have old := P.2.2.2.2.2 j j0 j6 j11 j39
    by_cases e : slC t = 73
    · have := st.2.2 e
      rw [e, up2_ne (by omega), up2_ne j39, up2_row (by decide)]
      exact old
    · rw [up2_row (by omega), up2_ne j39, up2_row (by decide)]
      exact old
theorem PI.rm {b : Bool} {bs : Nat} {τ : WS} {h g : Hp} (P : PI b bs τ h 76 g) : RM τ g := by
  refine ⟨P.2.1 0 (by decide) (Or.inl (by decide)), P.2.1 1 (by decide) (Or.inl (by decide)), P.2.1 2 (by decide) (Or.inl (by decide)), fun j k hj hk => ?_⟩
  obtain ⟨s1, s2, s3, s4⟩ := slI_ok hj hk
  have := P.2.1 _ s1 (Or.inl s1)
  rw [s2, s3, s4] at this
  exact this
theorem sl_h {i j : Nat} (hi : i < 5) (hj : j < 5) : slC (3 + 5 * i + j) = 74 + j ∧ slK (3 + 5 * i + j) = i := by
  have := slI_ok (j := j) (k := i) (by omega) (by unfold alen; rw [if_neg (by omega), if_neg (by omega)]; exact hi)
  unfold slI at this
  rw [if_pos hj] at this
  exact ⟨this.2.1, this.2.2.1⟩
theorem sl_t {i : Nat} (hi : i < 30) : slC (28 + i) = 79 ∧ slK (28 + i) = i := by
  have := slI_ok (j := 5) (k := i) (by omega) hi
  exact ⟨this.2.1, this.2.2.1⟩
theorem sl_s {i j : Nat} (hi : i < 6) (hj : j < 3) : slC (58 + 3 * i + j) = 80 + j ∧ slK (58 + 3 * i + j) = i := by
  have := slI_ok (j := 6 + j) (k := i) (by omega) (by unfold alen; rw [if_neg (by omega), if_pos (by omega)]; exact hi)
  unfold slI at this
  rw [if_neg (by omega), if_neg (by omega), show 6 + j - 6 = j by omega] at this
  exact ⟨by rw [this.2.1]; omega, this.2.2.1⟩
set_option maxRecDepth 20000 in
set_option maxHeartbeats 4000000 in
theorem c_mPassAll (l : Launch) (D : va_G) (cA : Nat → ClassId) (r : Nat → Nat) {h : Hp} {b : Bool} {bs : Nat} {τ : WS} (hb : bs ≤ 100) (P0 : PI b bs τ h 0 h) : Cn l D cA yX11_passAll cX11_passAll 2 none 1 0 0 [.ref (r 73)] (LY r) h (pG none (LY r) (PI b bs τ h 76)) := by
  refine Cn.of (lv := [some (.ref (r 73)), none]) (by decide +kernel) (Nat.le_of_ble_eq_true rfl) rfl (fun X hnm C CR => ?_)
  have last : ∀ (m i : Nat) (g : Hp), 6 < i + m → i ≤ 6 → PI b bs τ h (58 + 3 * i) g → Rn X 0 0 161 [some (.ref (r 73)), some (.int (nI i))] [] (LY r) g := by
    intro m
    induction m with
    | zero => intro i g a1 a2; omega
    | succ m ih =>
      intro i g a1 a2 P
      refine R_il1 (n := 162) C dX11_passAll_161 rfl ?_
      refine R_bp (n := 164) C dX11_passAll_162 cb_6 rfl ?_
      refine R_icmp_geN (tgt := 221) C dX11_passAll_164 rfl rfl (by omega) (by omega) (fun c1 => ?_) (fun c1 => ?_)
      · refine R_vret C CR (Nat.zero_le _) (Nat.zero_le _) dX11_passAll_221 ?_
        obtain rfl : i = 6 := by omega
        exact ⟨rfl, rfl, P⟩
      · have s0 := sl_s (i := i) (j := 0) c1 (by decide)
        have s1 := sl_s (i := i) (j := 1) c1 (by decide)
        have s2 := sl_s (i := i) (j := 2) c1 (by decide)
        refine R_al0 (n := 168) C dX11_passAll_167 rfl ?_
        refine M_getR (n := 171) C fl_X11_28 dX11_passAll_168 rfl rfl rfl ?_
        refine R_il1 (n := 172) C dX11_passAll_171 rfl ?_
        refine R_al0 (n := 173) C dX11_passAll_172 rfl ?_
        refine R_al0 (n := 174) C dX11_passAll_173 rfl ?_
        refine M_getR (n := 177) C fl_X11_28 dX11_passAll_174 rfl rfl rfl ?_
        refine R_il1 (n := 178) C dX11_passAll_177 rfl ?_
        refine M_iald (n := 179) C dX11_passAll_178 rfl c1 rfl rfl ?_
        refine M_callV (n := 182) C (c_mPass _ _ _ r P.1.1 P.1.2 (by omega)) mw_X11_pass ml_X11_333 iv_X11_pass dX11_passAll_179 rfl rfl rfl rfl (Nat.le_of_ble_eq_true rfl) ⟨Nat.le_of_ble_eq_true rfl, Nat.le_of_ble_eq_true rfl⟩ ⟨Nat.le_refl _, Nat.le_refl _⟩ rfl (pEs ?_)
        rw [P.val (by omega) s0.1 s0.2]
        have P1 := P.nx (by omega) s0.1 s0.2
        refine M_iast (n := 183) C dX11_passAll_182 rfl c1 rfl ?_
        refine R_gen (PI b bs τ h (58 + 3 * i + 1)) P1 (fun g1 P1 => ?_)
        refine R_al0 (n := 184) C dX11_passAll_183 rfl ?_
        refine M_getR (n := 187) C fl_X11_31 dX11_passAll_184 rfl rfl rfl ?_
        refine R_il1 (n := 188) C dX11_passAll_187 rfl ?_
        refine R_al0 (n := 189) C dX11_passAll_188 rfl ?_
        refine R_al0 (n := 190) C dX11_passAll_189 rfl ?_
        refine M_getR (n := 193) C fl_X11_31 dX11_passAll_190 rfl rfl rfl ?_
        refine R_il1 (n := 194) C dX11_passAll_193 rfl ?_
        refine M_iald (n := 195) C dX11_passAll_194 rfl c1 rfl rfl ?_
        refine M_callV (n := 198) C (c_mPass _ _ _ r P1.1.1 P1.1.2 (by omega)) mw_X11_pass ml_X11_333 iv_X11_pass dX11_passAll_195 rfl rfl rfl rfl (Nat.le_of_ble_eq_true rfl) ⟨Nat.le_of_ble_eq_true rfl, Nat.le_of_ble_eq_true rfl⟩ ⟨Nat.le_refl _, Nat.le_refl _⟩ rfl (pEs ?_)
        rw [P1.val (by omega) s1.1 s1.2]
        have P2 := P1.nx (by omega) s1.1 s1.2
        refine M_iast (n := 199) C dX11_passAll_198 rfl c1 rfl ?_
        refine R_gen (PI b bs τ h (58 + 3 * i + 2)) P2 (fun g2 P2 => ?_)
        refine R_al0 (n := 200) C dX11_passAll_199 rfl ?_
        refine M_getR (n := 203) C fl_X11_34 dX11_passAll_200 rfl rfl rfl ?_
        refine R_il1 (n := 204) C dX11_passAll_203 rfl ?_
        refine R_al0 (n := 205) C dX11_passAll_204 rfl ?_
        refine R_al0 (n := 206) C dX11_passAll_205 rfl ?_
        refine M_getR (n := 209) C fl_X11_34 dX11_passAll_206 rfl rfl rfl ?_
        refine R_il1 (n := 210) C dX11_passAll_209 rfl ?_
        refine M_iald (n := 211) C dX11_passAll_210 rfl c1 rfl rfl ?_
        refine M_callV (n := 214) C (c_mPass _ _ _ r P2.1.1 P2.1.2 (by omega)) mw_X11_pass ml_X11_333 iv_X11_pass dX11_passAll_211 rfl rfl rfl rfl (Nat.le_of_ble_eq_true rfl) ⟨Nat.le_of_ble_eq_true rfl, Nat.le_of_ble_eq_true rfl⟩ ⟨Nat.le_refl _, Nat.le_refl _⟩ rfl (pEs ?_)
        rw [P2.val (by omega) s2.1 s2.2]
        have P3 := P2.nx (by omega) s2.1 s2.2
        refine M_iast (n := 215) C dX11_passAll_214 rfl c1 rfl ?_
        refine R_gen (PI b bs τ h (58 + 3 * i + 3)) P3 (fun g3 P3 => ?_)
        refine R_inc1 (n := 218) C dX11_passAll_215 rfl (Nat.le_of_ble_eq_true rfl) (inc_1 _) rfl ?_
        refine R_goto (n := 161) C dX11_passAll_218 rfl ?_
        exact ih (i + 1) g3 (by omega) (by omega) P3
  have midl : ∀ (m i : Nat) (g : Hp), 30 < i + m → i ≤ 30 → PI b bs τ h (28 + i) g → Rn X 0 0 131 [some (.ref (r 73)), some (.int (nI i))] [] (LY r) g := by
    intro m
    induction m with
    | zero => intro i g a1 a2; omega
    | succ m ih =>
      intro i g a1 a2 P
      refine R_il1 (n := 132) C dX11_passAll_131 rfl ?_
      refine R_bp (n := 134) C dX11_passAll_132 cb_30 rfl ?_
      refine R_icmp_geN (tgt := 159) C dX11_passAll_134 rfl rfl (by omega) (by omega) (fun c1 => ?_) (fun c1 => ?_)
      · obtain rfl : i = 30 := by omega
        refine R_ic (n := 160) C dX11_passAll_159 ci_0 rfl ?_
        refine R_is1 (n := 161) C dX11_passAll_160 rfl (Nat.le_of_ble_eq_true rfl) rfl ?_
        exact last 7 0 g (by omega) (by omega) P
      · have s0 := sl_t (i := i) c1
        refine R_al0 (n := 138) C dX11_passAll_137 rfl ?_
        refine M_getR (n := 141) C fl_X11_25 dX11_passAll_138 rfl rfl rfl ?_
        refine R_il1 (n := 142) C dX11_passAll_141 rfl ?_
        refine R_al0 (n := 143) C dX11_passAll_142 rfl ?_
        refine R_al0 (n := 144) C dX11_passAll_143 rfl ?_
        refine M_getR (n := 147) C fl_X11_25 dX11_passAll_144 rfl rfl rfl ?_
        refine R_il1 (n := 148) C dX11_passAll_147 rfl ?_
        refine M_iald (n := 149) C dX11_passAll_148 rfl c1 rfl rfl ?_
        refine M_callV (n := 152) C (c_mPass _ _ _ r P.1.1 P.1.2 (by omega)) mw_X11_pass ml_X11_333 iv_X11_pass dX11_passAll_149 rfl rfl rfl rfl (Nat.le_of_ble_eq_true rfl) ⟨Nat.le_of_ble_eq_true rfl, Nat.le_of_ble_eq_true rfl⟩ ⟨Nat.le_refl _, Nat.le_refl _⟩ rfl (pEs ?_)
        rw [P.val (by omega) s0.1 s0.2]
        have P1 := P.nx (by omega) s0.1 s0.2
        refine M_iast (n := 153) C dX11_passAll_152 rfl c1 rfl ?_
        refine R_gen (PI b bs τ h (28 + i + 1)) P1 (fun g1 P1 => ?_)
        refine R_inc1 (n := 156) C dX11_passAll_153 rfl (Nat.le_of_ble_eq_true rfl) (inc_1 _) rfl ?_
        refine R_goto (n := 131) C dX11_passAll_156 rfl ?_
        exact ih (i + 1) g1 (by omega) (by omega) P1
  have hutl : ∀ (m i : Nat) (g : Hp), 5 < i + m → i ≤ 5 → PI b bs τ h (3 + 5 * i) g → Rn X 0 0 38 [some (.ref (r 73)), some (.int (nI i))] [] (LY r) g := by
    intro m
    induction m with
    | zero => intro i g a1 a2; omega
    | succ m ih =>
      intro i g a1 a2 P
      refine R_il1 (n := 39) C dX11_passAll_38 rfl ?_
      refine R_ic (n := 40) C dX11_passAll_39 ci_5 rfl ?_
      refine R_icmp_geN (tgt := 129) C dX11_passAll_40 rfl rfl (by omega) (by omega) (fun c1 => ?_) (fun c1 => ?_)
      · obtain rfl : i = 5 := by omega
        refine R_ic (n := 130) C dX11_passAll_129 ci_0 rfl ?_
        refine R_is1 (n := 131) C dX11_passAll_130 rfl (Nat.le_of_ble_eq_true rfl) rfl ?_
        exact midl 31 0 g (by omega) (by omega) P
      · have s0 := sl_h (i := i) (j := 0) c1 (by decide)
        have s1 := sl_h (i := i) (j := 1) c1 (by decide)
        have s2 := sl_h (i := i) (j := 2) c1 (by decide)
        have s3 := sl_h (i := i) (j := 3) c1 (by decide)
        have s4 := sl_h (i := i) (j := 4) c1 (by decide)
        refine R_al0 (n := 44) C dX11_passAll_43 rfl ?_
        refine M_getR (n := 47) C fl_X11_7 dX11_passAll_44 rfl rfl rfl ?_
        refine R_il1 (n := 48) C dX11_passAll_47 rfl ?_
        refine R_al0 (n := 49) C dX11_passAll_48 rfl ?_
        refine R_al0 (n := 50) C dX11_passAll_49 rfl ?_
        refine M_getR (n := 53) C fl_X11_7 dX11_passAll_50 rfl rfl rfl ?_
        refine R_il1 (n := 54) C dX11_passAll_53 rfl ?_
        refine M_iald (n := 55) C dX11_passAll_54 rfl c1 rfl rfl ?_
        refine M_callV (n := 58) C (c_mPass _ _ _ r P.1.1 P.1.2 (by omega)) mw_X11_pass ml_X11_333 iv_X11_pass dX11_passAll_55 rfl rfl rfl rfl (Nat.le_of_ble_eq_true rfl) ⟨Nat.le_of_ble_eq_true rfl, Nat.le_of_ble_eq_true rfl⟩ ⟨Nat.le_refl _, Nat.le_refl _⟩ rfl (pEs ?_)
        rw [P.val (by omega) s0.1 s0.2]
        have P1 := P.nx (by omega) s0.1 s0.2
        refine M_iast (n := 59) C dX11_passAll_58 rfl c1 rfl ?_
        refine R_gen (PI b bs τ h (3 + 5 * i + 1)) P1 (fun g1 P1 => ?_)
        refine R_al0 (n := 60) C dX11_passAll_59 rfl ?_
        refine M_getR (n := 63) C fl_X11_13 dX11_passAll_60 rfl rfl rfl ?_
        refine R_il1 (n := 64) C dX11_passAll_63 rfl ?_
        refine R_al0 (n := 65) C dX11_passAll_64 rfl ?_
        refine R_al0 (n := 66) C dX11_passAll_65 rfl ?_
        refine M_getR (n := 69) C fl_X11_13 dX11_passAll_66 rfl rfl rfl ?_
        refine R_il1 (n := 70) C dX11_passAll_69 rfl ?_
        refine M_iald (n := 71) C dX11_passAll_70 rfl c1 rfl rfl ?_
        refine M_callV (n := 74) C (c_mPass _ _ _ r P1.1.1 P1.1.2 (by omega)) mw_X11_pass ml_X11_333 iv_X11_pass dX11_passAll_71 rfl rfl rfl rfl (Nat.le_of_ble_eq_true rfl) ⟨Nat.le_of_ble_eq_true rfl, Nat.le_of_ble_eq_true rfl⟩ ⟨Nat.le_refl _, Nat.le_refl _⟩ rfl (pEs ?_)
        rw [P1.val (by omega) s1.1 s1.2]
        have P2 := P1.nx (by omega) s1.1 s1.2
        refine M_iast (n := 75) C dX11_passAll_74 rfl c1 rfl ?_
        refine R_gen (PI b bs τ h (3 + 5 * i + 2)) P2 (fun g2 P2 => ?_)
        refine R_al0 (n := 76) C dX11_passAll_75 rfl ?_
        refine M_getR (n := 79) C fl_X11_16 dX11_passAll_76 rfl rfl rfl ?_
        refine R_il1 (n := 80) C dX11_passAll_79 rfl ?_
        refine R_al0 (n := 81) C dX11_passAll_80 rfl ?_
        refine R_al0 (n := 82) C dX11_passAll_81 rfl ?_
        refine M_getR (n := 85) C fl_X11_16 dX11_passAll_82 rfl rfl rfl ?_
        refine R_il1 (n := 86) C dX11_passAll_85 rfl ?_
        refine M_iald (n := 87) C dX11_passAll_86 rfl c1 rfl rfl ?_
        refine M_callV (n := 90) C (c_mPass _ _ _ r P2.1.1 P2.1.2 (by omega)) mw_X11_pass ml_X11_333 iv_X11_pass dX11_passAll_87 rfl rfl rfl rfl (Nat.le_of_ble_eq_true rfl) ⟨Nat.le_of_ble_eq_true rfl, Nat.le_of_ble_eq_true rfl⟩ ⟨Nat.le_refl _, Nat.le_refl _⟩ rfl (pEs ?_)
        rw [P2.val (by omega) s2.1 s2.2]
        have P3 := P2.nx (by omega) s2.1 s2.2
        refine M_iast (n := 91) C dX11_passAll_90 rfl c1 rfl ?_
        refine R_gen (PI b bs τ h (3 + 5 * i + 3)) P3 (fun g3 P3 => ?_)
        refine R_al0 (n := 92) C dX11_passAll_91 rfl ?_
        refine M_getR (n := 95) C fl_X11_19 dX11_passAll_92 rfl rfl rfl ?_
        refine R_il1 (n := 96) C dX11_passAll_95 rfl ?_
        refine R_al0 (n := 97) C dX11_passAll_96 rfl ?_
        refine R_al0 (n := 98) C dX11_passAll_97 rfl ?_
        refine M_getR (n := 101) C fl_X11_19 dX11_passAll_98 rfl rfl rfl ?_
        refine R_il1 (n := 102) C dX11_passAll_101 rfl ?_
        refine M_iald (n := 103) C dX11_passAll_102 rfl c1 rfl rfl ?_
        refine M_callV (n := 106) C (c_mPass _ _ _ r P3.1.1 P3.1.2 (by omega)) mw_X11_pass ml_X11_333 iv_X11_pass dX11_passAll_103 rfl rfl rfl rfl (Nat.le_of_ble_eq_true rfl) ⟨Nat.le_of_ble_eq_true rfl, Nat.le_of_ble_eq_true rfl⟩ ⟨Nat.le_refl _, Nat.le_refl _⟩ rfl (pEs ?_)
        rw [P3.val (by omega) s3.1 s3.2]
        have P4 := P3.nx (by omega) s3.1 s3.2
        refine M_iast (n := 107) C dX11_passAll_106 rfl c1 rfl ?_
        refine R_gen (PI b bs τ h (3 + 5 * i + 4)) P4 (fun g4 P4 => ?_)
        refine R_al0 (n := 108) C dX11_passAll_107 rfl ?_
        refine M_getR (n := 111) C fl_X11_22 dX11_passAll_108 rfl rfl rfl ?_
        refine R_il1 (n := 112) C dX11_passAll_111 rfl ?_
        refine R_al0 (n := 113) C dX11_passAll_112 rfl ?_
        refine R_al0 (n := 114) C dX11_passAll_113 rfl ?_
        refine M_getR (n := 117) C fl_X11_22 dX11_passAll_114 rfl rfl rfl ?_
        refine R_il1 (n := 118) C dX11_passAll_117 rfl ?_
        refine M_iald (n := 119) C dX11_passAll_118 rfl c1 rfl rfl ?_
        refine M_callV (n := 122) C (c_mPass _ _ _ r P4.1.1 P4.1.2 (by omega)) mw_X11_pass ml_X11_333 iv_X11_pass dX11_passAll_119 rfl rfl rfl rfl (Nat.le_of_ble_eq_true rfl) ⟨Nat.le_of_ble_eq_true rfl, Nat.le_of_ble_eq_true rfl⟩ ⟨Nat.le_refl _, Nat.le_refl _⟩ rfl (pEs ?_)
        rw [P4.val (by omega) s4.1 s4.2]
        have P5 := P4.nx (by omega) s4.1 s4.2
        refine M_iast (n := 123) C dX11_passAll_122 rfl c1 rfl ?_
        refine R_gen (PI b bs τ h (3 + 5 * i + 5)) P5 (fun g5 P5 => ?_)
        refine R_inc1 (n := 126) C dX11_passAll_123 rfl (Nat.le_of_ble_eq_true rfl) (inc_1 _) rfl ?_
        refine R_goto (n := 38) C dX11_passAll_126 rfl ?_
        exact ih (i + 1) g5 (by omega) (by omega) P5
  refine R_al0 (n := 1) C dX11_passAll_0 rfl ?_
  refine R_al0 (n := 2) C dX11_passAll_1 rfl ?_
  refine R_al0 (n := 3) C dX11_passAll_2 rfl ?_
  refine M_getI (n := 6) C fl_X11_94 dX11_passAll_3 rfl rfl rfl rfl ?_
  refine M_callV (n := 9) C (c_mPass _ _ _ r P0.1.1 P0.1.2 (by omega)) mw_X11_pass ml_X11_333 iv_X11_pass dX11_passAll_6 rfl rfl rfl rfl (Nat.le_of_ble_eq_true rfl) ⟨Nat.le_of_ble_eq_true rfl, Nat.le_of_ble_eq_true rfl⟩ ⟨Nat.le_refl _, Nat.le_refl _⟩ rfl (pEs ?_)
  rw [P0.val (t := 0) (by decide) (show slC 0 = 73 by decide) (show slK 0 = 0 by decide)]
  have P1 := P0.nx (t := 0) (by decide) (show slC 0 = 73 by decide) (show slK 0 = 0 by decide)
  refine M_putI (n := 12) C fl_X11_94 dX11_passAll_9 rfl rfl rfl rfl rfl ?_
  refine R_gen (PI b bs τ h 1) P1 (fun g1 P1 => ?_)
  refine R_al0 (n := 13) C dX11_passAll_12 rfl ?_
  refine R_al0 (n := 14) C dX11_passAll_13 rfl ?_
  refine R_al0 (n := 15) C dX11_passAll_14 rfl ?_
  refine M_getI (n := 18) C fl_X11_98 dX11_passAll_15 rfl rfl rfl rfl ?_
  refine M_callV (n := 21) C (c_mPass _ _ _ r P1.1.1 P1.1.2 (by omega)) mw_X11_pass ml_X11_333 iv_X11_pass dX11_passAll_18 rfl rfl rfl rfl (Nat.le_of_ble_eq_true rfl) ⟨Nat.le_of_ble_eq_true rfl, Nat.le_of_ble_eq_true rfl⟩ ⟨Nat.le_refl _, Nat.le_refl _⟩ rfl (pEs ?_)
  rw [P1.val (t := 1) (by decide) (show slC 1 = 73 by decide) (show slK 1 = 6 by decide)]
  have P2 := P1.nx (t := 1) (by decide) (show slC 1 = 73 by decide) (show slK 1 = 6 by decide)
  refine M_putI (n := 24) C fl_X11_98 dX11_passAll_21 rfl rfl rfl rfl rfl ?_
  refine R_gen (PI b bs τ h 2) P2 (fun g2 P2 => ?_)
  refine R_al0 (n := 25) C dX11_passAll_24 rfl ?_
  refine R_al0 (n := 26) C dX11_passAll_25 rfl ?_
  refine R_al0 (n := 27) C dX11_passAll_26 rfl ?_
  refine M_getI (n := 30) C fl_X11_101 dX11_passAll_27 rfl rfl rfl rfl ?_
  refine M_callV (n := 33) C (c_mPass _ _ _ r P2.1.1 P2.1.2 (by omega)) mw_X11_pass ml_X11_333 iv_X11_pass dX11_passAll_30 rfl rfl rfl rfl (Nat.le_of_ble_eq_true rfl) ⟨Nat.le_of_ble_eq_true rfl, Nat.le_of_ble_eq_true rfl⟩ ⟨Nat.le_refl _, Nat.le_refl _⟩ rfl (pEs ?_)
  rw [P2.val (t := 2) (by decide) (show slC 2 = 73 by decide) (show slK 2 = 11 by decide)]
  have P3 := P2.nx (t := 2) (by decide) (show slC 2 = 73 by decide) (show slK 2 = 11 by decide)
  refine M_putI (n := 36) C fl_X11_101 dX11_passAll_33 rfl rfl rfl rfl rfl ?_
  refine R_gen (PI b bs τ h 3) P3 (fun g3 P3 => ?_)
  refine R_ic (n := 37) C dX11_passAll_36 ci_0 rfl ?_
  refine R_is1 (n := 38) C dX11_passAll_37 rfl (Nat.le_of_ble_eq_true rfl) rfl ?_
  exact hutl 6 0 g3 (by omega) (by omega) P3
theorem RM.sl {τ : WS} {h : Hp} (R : RM τ h) : ∀ s, s < 76 → h (slC s) (slK s) = nI (ikz τ s) := by
  intro s hs
  by_cases h0 : s = 0
  · subst h0; exact R.1
  · by_cases h1 : s = 1
    · subst h1; exact R.2.1
    · by_cases h2 : s = 2
      · subst h2; exact R.2.2.1
      · by_cases h28 : s < 28
        · rw [slC, if_neg (by omega), if_pos h28, slK, if_neg h0, if_neg h1, if_neg h2, if_pos h28, ikz, if_neg h0, if_neg h1, if_neg h2, if_pos h28]
          exact R.2.2.2 _ _ (by omega) (by unfold alen; rw [if_neg (by omega), if_neg (by omega)]; omega)
        · by_cases h58 : s < 58
          · rw [slC, if_neg (by omega), if_neg h28, if_pos h58, slK, if_neg h0, if_neg h1, if_neg h2, if_neg h28, if_pos h58, ikz, if_neg h0, if_neg h1, if_neg h2, if_neg h28, if_pos h58]
            exact R.2.2.2 5 _ (by omega) (show s - 28 < 30 by omega)
          · rw [slC, if_neg (by omega), if_neg h28, if_neg h58, slK, if_neg h0, if_neg h1, if_neg h2, if_neg h28, if_neg h58, ikz, if_neg h0, if_neg h1, if_neg h2, if_neg h28, if_neg h58]
            rw [show 80 + (s - 58) % 3 = 74 + (6 + (s - 58) % 3) by omega]
            exact R.2.2.2 _ _ (by omega) (by unfold alen; rw [if_neg (by omega), if_pos (by omega)]; omega)
