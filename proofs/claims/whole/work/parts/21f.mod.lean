set_option maxRecDepth 20000 in
set_option maxHeartbeats 4000000 in
theorem m_without (l : Launch) (D : va_G) (cA : Nat → ClassId) (r : Nat → Nat) {h : Hp} {G : GS} (R : RM (gS G) h) (I : InvG G) (w s b : Int32) : Cn l D cA yX11_without cX11_without 6 (some .int) 4 0 0 [.ref (r 73), .int w, .int s, .int b] (LY r) h (pG (some (.int (aWithout G w s b))) (LY r) (FrQ h)) := by
  refine Cn.of (lv := [some (.ref (r 73)), some (.int w), some (.int s), some (.int b), none, none]) (by decide +kernel) (Nat.le_of_ble_eq_true rfl) rfl (fun X hnm C CR => ?_)
  have p10 := p2_10 I.1.n5
  have p5 := p2_5 I.1.n5
  refine R_al0 (n := 1) C dX11_without_0 rfl ?_
  refine R_il1 (n := 2) C dX11_without_1 rfl ?_
  refine M_callV (n := 5) C (c_mIsKnown _ _ _ r R I.1 _) mw_X11_isKnown ml_X11_155 iv_X11_isKnown dX11_without_2 rfl rfl rfl rfl (Nat.le_of_ble_eq_true rfl) ⟨Nat.le_of_ble_eq_true rfl, Nat.le_of_ble_eq_true rfl⟩ ⟨Nat.le_refl _, Nat.le_refl _⟩ rfl (pEs ?_)
  refine R_if_neB (tgt := 10) C dX11_without_5 rfl rfl (fun c0 => ?_) (fun c0 => ?_)
  · have out : okA (gS G) s b = false → Rn X 0 0 26 [some (.ref (r 73)), some (.int w), some (.int s), some (.int b), none, none] [] (LY r) h := by
      intro c
      rw [aWithout, if_pos c0, if_neg (by rw [c]; decide)] at CR
      refine R_bp (n := 28) C dX11_without_26 cb_m2 rfl ?_
      refine R_iret C CR (Nat.zero_le _) (Nat.zero_le _) dX11_without_28 ?_
      exact ⟨rfl, rfl, FrQ.rf⟩
    refine R_al0 (n := 11) C dX11_without_10 rfl ?_
    refine R_il2 (n := 12) C dX11_without_11 rfl ?_
    refine M_callV (n := 15) C (c_mIsSet _ _ _ r R I.1 _) mw_X11_isSet ml_X11_230 iv_X11_isSet dX11_without_12 rfl rfl rfl rfl (Nat.le_of_ble_eq_true rfl) ⟨Nat.le_of_ble_eq_true rfl, Nat.le_of_ble_eq_true rfl⟩ ⟨Nat.le_refl _, Nat.le_refl _⟩ rfl (pEs ?_)
    refine R_if_eqB (tgt := 26) C dX11_without_15 rfl rfl (fun c1 => ?_) (fun c1 => ?_)
    · exact out (by rw [okA, c1, Bool.false_and])
    · refine R_al0 (n := 19) C dX11_without_18 rfl ?_
      refine R_il3 (n := 20) C dX11_without_19 rfl ?_
      refine M_callV (n := 23) C (c_mIsNumber _ _ _ r R I.1 _) mw_X11_isNumber ml_X11_223 iv_X11_isNumber dX11_without_20 rfl rfl rfl rfl (Nat.le_of_ble_eq_true rfl) ⟨Nat.le_of_ble_eq_true rfl, Nat.le_of_ble_eq_true rfl⟩ ⟨Nat.le_refl _, Nat.le_refl _⟩ rfl (pEs ?_)
      refine R_if_neB (tgt := 29) C dX11_without_23 rfl rfl (fun c2 => ?_) (fun c2 => ?_)
      · have c3 : okA (gS G) s b = true := by rw [okA, c1, c2]; rfl
        obtain ⟨x, y, x1, y1, rfl, rfl, xc, yc⟩ := okA_of I.1 c3
        obtain ⟨v, v6, rfl, vb⟩ := kwz_of c0
        have vc : cl (nI v) = v := nI_clamp (by omega)
        rw [aWithout, if_pos c0, if_pos c3, xc, yc, vc] at CR
        have cll := clz_lt _ I.1.kn v v6
        have IB := bfz_ok I.1 (W := sKn (gS G))
        have IC := bfz_ok I.1 (W := clz (sKn (gS G)) v)
        refine R_al0 (n := 30) C dX11_without_29 rfl ?_
        refine R_al0 (n := 31) C dX11_without_30 rfl ?_
        refine M_getI (n := 34) C fl_X11_98 dX11_without_31 rfl rfl (mKn R) rfl ?_
        refine R_il2 (n := 35) C dX11_without_34 rfl ?_
        refine R_il3 (n := 36) C dX11_without_35 rfl ?_
        refine M_callV (n := 39) C (c_mFirstSo _ _ _ r R I.1 I.1.kn (by omega) (by omega)) mw_X11_firstSo ml_X11_233 iv_X11_firstSo dX11_without_36 rfl rfl rfl rfl (Nat.le_of_ble_eq_true rfl) ⟨Nat.le_of_ble_eq_true rfl, Nat.le_of_ble_eq_true rfl⟩ ⟨Nat.le_refl _, Nat.le_refl _⟩ rfl (pGs (fun h1 q1 => ?_))
        have R1 := q1.2.rm R
        obtain ⟨A, hA⟩ : ∃ A, fwz (gS G) (sKn (gS G)) x y = A := ⟨_, rfl⟩
        obtain ⟨L9, hL⟩ : ∃ L9, fwz (gS G) (clz (sKn (gS G)) v) x y = L9 := ⟨_, rfl⟩
        rw [hA, hL] at CR
        have Ab : ∀ a, A = some a → a ≤ 1024 := fun a e => fwz_le I.1 (hA.trans e)
        have rest : ∀ (o4 : Option Value), Rn X 0 0 60 [some (.ref (r 73)), some (.int (nI v)), some (.int (nI x)), some (.int (nI y)), o4, some (.int (fwI A))] [] (LY r) h1 := by
          intro o4
          refine R_al0 (n := 61) C dX11_without_60 rfl ?_
          refine R_al0 (n := 62) C dX11_without_61 rfl ?_
          refine M_getI (n := 65) C fl_X11_98 dX11_without_62 rfl rfl (mKn R1) rfl ?_
          refine R_ic (n := 66) C dX11_without_65 ci_1 rfl ?_
          refine R_il1 (n := 67) C dX11_without_66 rfl ?_
          refine R_ishlN (n := 68) C dX11_without_67 (by omega) (sh1 (by omega)) rfl ?_
          refine R_ic (n := 69) C dX11_without_68 ci_m1 rfl ?_
          refine R_ixor (n := 70) C dX11_without_69 rfl ?_
          refine R_iand (n := 71) C dX11_without_70 rfl ?_
          rw [clz_ok _ I.1.kn v v6]
          refine R_il2 (n := 72) C dX11_without_71 rfl ?_
          refine R_il3 (n := 73) C dX11_without_72 rfl ?_
          refine M_callV (n := 76) C (c_mFirstSo _ _ _ r R1 I.1 cll (by omega) (by omega)) mw_X11_firstSo ml_X11_233 iv_X11_firstSo dX11_without_73 rfl rfl rfl rfl (Nat.le_of_ble_eq_true rfl) ⟨Nat.le_of_ble_eq_true rfl, Nat.le_of_ble_eq_true rfl⟩ ⟨Nat.le_refl _, Nat.le_refl _⟩ rfl (pGs (fun h2 q2 => ?_))
          have F2 := q1.2.tr q2.2
          cases hf : fsz (sN (gS G)) (bfz (gS G) (clz (sKn (gS G)) v)) x y with
          | none =>
            have l0 : L9 = none := by rw [← hL, fwz, hf]; rfl
            rw [l0] at CR
            show Rn X _ _ _ _ [.int (-6)] _ _
            cases A with
            | none =>
              show Rn X _ _ _ [_, _, _, _, _, some (.int (-6))] _ _ _
              refine R_is4 (n := 78) C dX11_without_76 rfl (Nat.le_of_ble_eq_true rfl) rfl ?_
              refine R_il5 (n := 80) C dX11_without_78 rfl ?_
              refine R_if_lt (tgt := 88) C dX11_without_80 rfl rfl (fun d1 => ?_) (fun d1 => ?_)
              · refine R_bp (n := 90) C dX11_without_88 cb_m6 rfl ?_
                refine R_goto (n := 103) C dX11_without_90 rfl ?_
                refine R_iret C CR (Nat.zero_le _) (Nat.zero_le _) dX11_without_103 ?_
                exact ⟨rfl, rfl, F2⟩
              · exact absurd (by decide) d1
            | some a =>
              have al := Ab a rfl
              show Rn X _ _ _ [_, _, _, _, _, some (.int (nI a))] _ _ _
              refine R_is4 (n := 78) C dX11_without_76 rfl (Nat.le_of_ble_eq_true rfl) rfl ?_
              refine R_il5 (n := 80) C dX11_without_78 rfl ?_
              refine R_if_ltN C dX11_without_80 88 rfl rfl (by omega) ?_
              refine R_il4 (n := 85) C dX11_without_83 rfl ?_
              refine R_if_ge (tgt := 93) C dX11_without_85 rfl rfl (fun d2 => ?_) (fun d2 => ?_)
              · exact absurd d2 (by decide)
              · refine R_bp (n := 90) C dX11_without_88 cb_m6 rfl ?_
                refine R_goto (n := 103) C dX11_without_90 rfl ?_
                refine R_iret C CR (Nat.zero_le _) (Nat.zero_le _) dX11_without_103 ?_
                exact ⟨rfl, rfl, F2⟩
          | some e =>
            have l0 : L9 = some ((bfz (gS G) (clz (sKn (gS G)) v)).2.1 e - 1) := by rw [← hL, fwz, hf]; rfl
            obtain ⟨e1, e2⟩ := fsz_some IC hf
            have e10 : e < 1024 := by omega
            have ee : h2 88 e = nI ((bfz (gS G) (clz (sKn (gS G)) v)).2.1 e - 1) := by rw [q2.1.2.2.1 e e10, fvI_pos e2]
            rw [l0] at CR
            show Rn X _ _ _ _ [.int (nI e)] _ _
            cases A with
            | none =>
              show Rn X _ _ _ [_, _, _, _, _, some (.int (-6))] _ _ _
              refine R_is4 (n := 78) C dX11_without_76 rfl (Nat.le_of_ble_eq_true rfl) rfl ?_
              refine R_il5 (n := 80) C dX11_without_78 rfl ?_
              refine R_if_lt (tgt := 88) C dX11_without_80 rfl rfl (fun d1 => ?_) (fun d1 => ?_)
              · refine R_bp (n := 90) C dX11_without_88 cb_m6 rfl ?_
                refine R_goto (n := 103) C dX11_without_90 rfl ?_
                refine R_iret C CR (Nat.zero_le _) (Nat.zero_le _) dX11_without_103 ?_
                exact ⟨rfl, rfl, F2⟩
              · exact absurd (by decide) d1
            | some a =>
              have al := Ab a rfl
              show Rn X _ _ _ [_, _, _, _, _, some (.int (nI a))] _ _ _
              refine R_is4 (n := 78) C dX11_without_76 rfl (Nat.le_of_ble_eq_true rfl) rfl ?_
              refine R_il5 (n := 80) C dX11_without_78 rfl ?_
              refine R_if_ltN C dX11_without_80 88 rfl rfl (by omega) ?_
              refine R_il4 (n := 85) C dX11_without_83 rfl ?_
              refine R_if_geN (tgt := 93) C dX11_without_85 rfl rfl (by omega) ?_
              refine R_al0 (n := 94) C dX11_without_93 rfl ?_
              refine M_getR (n := 97) C fl_X11_52 dX11_without_94 rfl rfl rfl ?_
              refine R_il4 (n := 99) C dX11_without_97 rfl ?_
              refine M_iald (n := 100) C dX11_without_99 rfl e10 ee rfl ?_
              refine R_il5 (n := 102) C dX11_without_100 rfl ?_
              refine R_isub (n := 103) C dX11_without_102 rfl ?_
              refine R_iret C CR (Nat.zero_le _) (Nat.zero_le _) dX11_without_103 ?_
              exact ⟨rfl, rfl, F2⟩
        cases hf : fsz (sN (gS G)) (bfz (gS G) (sKn (gS G))) x y with
        | none =>
          have l0 : A = none := by rw [← hA, fwz, hf]; rfl
          rw [l0] at rest
          show Rn X _ _ _ _ [.int (-6)] _ _
          refine R_is4 (n := 41) C dX11_without_39 rfl (Nat.le_of_ble_eq_true rfl) rfl ?_
          refine R_il4 (n := 43) C dX11_without_41 rfl ?_
          refine R_if_ge (tgt := 51) C dX11_without_43 rfl rfl (fun d1 => ?_) (fun d1 => ?_)
          · exact absurd d1 (by decide)
          · refine R_bp (n := 48) C dX11_without_46 cb_m6 rfl ?_
            refine R_goto (n := 58) C dX11_without_48 rfl ?_
            refine R_is5 (n := 60) C dX11_without_58 rfl (Nat.le_of_ble_eq_true rfl) rfl ?_
            exact rest _
        | some e =>
          have l0 : A = some ((bfz (gS G) (sKn (gS G))).2.1 e - 1) := by rw [← hA, fwz, hf]; rfl
          obtain ⟨e1, e2⟩ := fsz_some IB hf
          have e10 : e < 1024 := by omega
          have ee : h1 88 e = nI ((bfz (gS G) (sKn (gS G))).2.1 e - 1) := by rw [q1.1.2.2.1 e e10, fvI_pos e2]
          rw [l0] at rest
          show Rn X _ _ _ _ [.int (nI e)] _ _
          refine R_is4 (n := 41) C dX11_without_39 rfl (Nat.le_of_ble_eq_true rfl) rfl ?_
          refine R_il4 (n := 43) C dX11_without_41 rfl ?_
          refine R_if_geN (tgt := 51) C dX11_without_43 rfl rfl (by omega) ?_
          refine R_al0 (n := 52) C dX11_without_51 rfl ?_
          refine M_getR (n := 55) C fl_X11_52 dX11_without_52 rfl rfl rfl ?_
          refine R_il4 (n := 57) C dX11_without_55 rfl ?_
          refine M_iald (n := 58) C dX11_without_57 rfl e10 ee rfl ?_
          refine R_is5 (n := 60) C dX11_without_58 rfl (Nat.le_of_ble_eq_true rfl) rfl ?_
          exact rest _
      · exact out (by rw [okA, c2, Bool.and_false])
  · refine R_ic (n := 9) C dX11_without_8 ci_m1 rfl ?_
    refine R_iret C CR (Nat.zero_le _) (Nat.zero_le _) dX11_without_9 ?_
    refine ⟨?_, rfl, FrQ.rf⟩
    rw [aWithout, if_neg (by rw [c0]; decide)]
