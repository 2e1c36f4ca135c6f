set_option maxRecDepth 20000 in
set_option maxHeartbeats 4000000 in
theorem m_spelled (l : Launch) (D : va_G) (cA : Nat → ClassId) (r : Nat → Nat) {h : Hp} {G : GS} (R : RM (gS G) h) (I : InvG G) (s b i : Int32) : Cn l D cA yX11_spelled cX11_spelled 6 (some .int) 4 0 0 [.ref (r 73), .int s, .int b, .int i] (LY r) h (pG (some (.int (aSpelled G s b i))) (LY r) (FrQ h)) := by
  refine Cn.of (lv := [some (.ref (r 73)), some (.int s), some (.int b), some (.int i), none, none]) (by decide +kernel) (Nat.le_of_ble_eq_true rfl) rfl (fun X hnm C CR => ?_)
  have p10 := p2_10 I.1.n5
  have p5 := p2_5 I.1.n5
  have out : okA (gS G) s b = false → Rn X 0 0 16 [some (.ref (r 73)), some (.int s), some (.int b), some (.int i), none, none] [] (LY r) h := by
    intro c
    rw [aSpelled, if_neg (by rw [c]; decide)] at CR
    refine R_bp (n := 18) C dX11_spelled_16 cb_m2 rfl ?_
    refine R_iret C CR (Nat.zero_le _) (Nat.zero_le _) dX11_spelled_18 ?_
    exact ⟨rfl, rfl, FrQ.rf⟩
  refine R_al0 (n := 1) C dX11_spelled_0 rfl ?_
  refine R_il1 (n := 2) C dX11_spelled_1 rfl ?_
  refine M_callV (n := 5) C (c_mIsSet _ _ _ r R I.1 _) mw_X11_isSet ml_X11_230 iv_X11_isSet dX11_spelled_2 rfl rfl rfl rfl (Nat.le_of_ble_eq_true rfl) ⟨Nat.le_of_ble_eq_true rfl, Nat.le_of_ble_eq_true rfl⟩ ⟨Nat.le_refl _, Nat.le_refl _⟩ rfl (pEs ?_)
  refine R_if_eqB (tgt := 16) C dX11_spelled_5 rfl rfl (fun c1 => ?_) (fun c1 => ?_)
  · exact out (by rw [okA, c1, Bool.false_and])
  · refine R_al0 (n := 9) C dX11_spelled_8 rfl ?_
    refine R_il2 (n := 10) C dX11_spelled_9 rfl ?_
    refine M_callV (n := 13) C (c_mIsNumber _ _ _ r R I.1 _) mw_X11_isNumber ml_X11_223 iv_X11_isNumber dX11_spelled_10 rfl rfl rfl rfl (Nat.le_of_ble_eq_true rfl) ⟨Nat.le_of_ble_eq_true rfl, Nat.le_of_ble_eq_true rfl⟩ ⟨Nat.le_refl _, Nat.le_refl _⟩ rfl (pEs ?_)
    refine R_if_neB (tgt := 19) C dX11_spelled_13 rfl rfl (fun c2 => ?_) (fun c2 => ?_)
    · have c3 : okA (gS G) s b = true := by rw [okA, c1, c2]; rfl
      obtain ⟨x, y, x1, y1, rfl, rfl, xc, yc⟩ := okA_of I.1 c3
      rw [aSpelled, if_pos c3, xc, yc] at CR
      have IB : BI (gS G) (bfG G) := bfz_ok I.1
      have len := IB.len
      refine R_al0 (n := 20) C dX11_spelled_19 rfl ?_
      refine R_al0 (n := 21) C dX11_spelled_20 rfl ?_
      refine M_getI (n := 24) C fl_X11_98 dX11_spelled_21 rfl rfl (mKn R) rfl ?_
      refine R_il1 (n := 25) C dX11_spelled_24 rfl ?_
      refine R_il2 (n := 26) C dX11_spelled_25 rfl ?_
      refine M_callV (n := 29) C (c_mFirstSo _ _ _ r R I.1 I.1.kn (by omega) (by omega)) mw_X11_firstSo ml_X11_233 iv_X11_firstSo dX11_spelled_26 rfl rfl rfl rfl (Nat.le_of_ble_eq_true rfl) ⟨Nat.le_of_ble_eq_true rfl, Nat.le_of_ble_eq_true rfl⟩ ⟨Nat.le_refl _, Nat.le_refl _⟩ rfl (pGs (fun h1 q1 => ?_))
      have E1 : RMB (bfG G) h1 := q1.1
      cases hf : fsz (sN (gS G)) (bfG G) x y with
      | none =>
        rw [hf] at CR
        rw [show fsz (sN (gS G)) (bfz (gS G) (sKn (gS G))) x y = none from hf]
        show Rn X _ _ _ _ [.int (-6)] _ _
        refine R_is4 (n := 31) C dX11_spelled_29 rfl (Nat.le_of_ble_eq_true rfl) rfl ?_
        refine R_il4 (n := 33) C dX11_spelled_31 rfl ?_
        refine R_if_lt (tgt := 41) C dX11_spelled_33 rfl rfl (fun d1 => ?_) (fun d1 => ?_)
        · refine R_il4 (n := 43) C dX11_spelled_41 rfl ?_
          refine R_if_ge (tgt := 51) C dX11_spelled_43 rfl rfl (fun d2 => ?_) (fun d2 => ?_)
          · exact absurd d2 (by decide)
          · refine R_bp (n := 48) C dX11_spelled_46 cb_m6 rfl ?_
            refine R_goto (n := 58) C dX11_spelled_48 rfl ?_
            refine R_iret C CR (Nat.zero_le _) (Nat.zero_le _) dX11_spelled_58 ?_
            exact ⟨rfl, rfl, q1.2⟩
        · exact absurd (by decide) d1
      | some e =>
        rw [hf] at CR
        rw [show fsz (sN (gS G)) (bfz (gS G) (sKn (gS G))) x y = some e from hf]
        obtain ⟨e1, e2⟩ := fsz_some IB hf
        have e10 : e < 1024 := by omega
        have de : (bfG G).2.1 e ≤ 1024 := Nat.le_trans (IB.2.2.2.1 e) len
        have ee : h1 88 e = nI ((bfG G).2.1 e - 1) := by rw [E1.2.2.1 e e10, fvI_pos e2]
        replace CR : OkR X _ _ _ (pG (some (.int (if i = -1 then nI ((bfG G).2.1 e - 1) else wrA (bfG G) e i))) _ _) := CR
        show Rn X _ _ _ _ [.int (nI e)] _ _
        refine R_is4 (n := 31) C dX11_spelled_29 rfl (Nat.le_of_ble_eq_true rfl) rfl ?_
        refine R_il4 (n := 33) C dX11_spelled_31 rfl ?_
        refine R_if_ltN C dX11_spelled_33 41 rfl rfl (by omega) ?_
        refine R_il3 (n := 37) C dX11_spelled_36 rfl ?_
        refine R_ic (n := 38) C dX11_spelled_37 ci_m1 rfl ?_
        refine R_icmp_ne (tgt := 59) C dX11_spelled_38 rfl rfl (fun d2 => ?_) (fun d2 => ?_)
        · rw [if_neg d2] at CR
          obtain ⟨d, hd⟩ : ∃ d, (bfG G).2.1 e - 1 = d := ⟨_, rfl⟩
          rw [hd] at ee
          refine R_il3 (n := 60) C dX11_spelled_59 rfl ?_
          refine R_i2l (n := 61) C dX11_spelled_60 rfl rfl ?_
          refine R_lc (n := 62) C dX11_spelled_61 lc_0 rfl ?_
          refine R_al0 (n := 63) C dX11_spelled_62 rfl ?_
          refine M_getR (n := 66) C fl_X11_52 dX11_spelled_63 rfl rfl rfl ?_
          refine R_il4 (n := 68) C dX11_spelled_66 rfl ?_
          refine M_iald (n := 69) C dX11_spelled_68 rfl e10 ee rfl ?_
          refine R_ic (n := 70) C dX11_spelled_69 ci_1 rfl ?_
          refine R_isub (n := 71) C dX11_spelled_70 rfl ?_
          refine R_i2l (n := 72) C dX11_spelled_71 rfl rfl ?_
          refine R_callS (n := 75) C (c_mIn _ _ _ r _ _ _) mw_X11_in ml_X11_104 sv_X11_in dX11_spelled_72 rfl rfl (Nat.le_of_ble_eq_true rfl) ⟨Nat.le_of_ble_eq_true rfl, Nat.le_of_ble_eq_true rfl⟩ ⟨Nat.le_refl _, Nat.le_refl _⟩ rfl (pEs ?_)
          have low : win i (nI 0) (nI (d - 1)) = false ∨ d = 0 → wrA (bfG G) e i = -6 := by
            intro q
            rw [wrA]
            by_cases n : i < 0
            · rw [if_pos n]
            · rw [if_neg n]
              obtain ⟨z, hz, rfl⟩ := nI_of n
              have zc : cl (nI z) = z := nI_clamp hz
              rw [zc, if_neg]
              rcases q with q | q
              · rw [win_nI hz (by decide) (by omega), decide_eq_true (Nat.zero_le z), Bool.true_and] at q
                have := of_decide_eq_false q
                omega
              · omega
          have wv : winL i.toInt64 (lN 0) (nI d - nI 1).toInt64 = if d = 0 then false else win i (nI 0) (nI (d - 1)) := by
            by_cases d0 : d = 0
            · rw [if_pos d0, d0, winL]
              rw [Bool.and_eq_false_iff]
              by_cases q : lN 0 ≤ i.toInt64
              · right
                refine decide_eq_false (fun g => ?_)
                have a1 := Int64.le_iff_toInt_le.mp q
                have a2 := Int64.le_iff_toInt_le.mp g
                have a3 : (lN 0).toInt = 0 := by decide +kernel
                have a4 : (nI 0 - nI 1).toInt64.toInt = -1 := by decide +kernel
                omega
              · left
                exact decide_eq_false q
            · rw [if_neg d0, pk_sub (by omega), i2l_n (by omega)]
              exact winL_n (by decide) (by omega)
          rw [wv]
          by_cases d0 : d = 0
          · rw [if_pos d0]
            rw [low (Or.inr d0)] at CR
            refine R_if_neB (tgt := 81) C dX11_spelled_75 rfl rfl (fun d3 => ?_) (fun d3 => ?_)
            · cases d3
            · refine R_bp (n := 80) C dX11_spelled_78 cb_m6 rfl ?_
              refine R_iret C CR (Nat.zero_le _) (Nat.zero_le _) dX11_spelled_80 ?_
              exact ⟨rfl, rfl, q1.2⟩
          · rw [if_neg d0]
            refine R_if_neB (tgt := 81) C dX11_spelled_75 rfl rfl (fun d3 => ?_) (fun d3 => ?_)
            · obtain ⟨z, _, z2, rfl⟩ := win_of (by decide) (by omega) d3
              have zc : cl (nI z) = z := nI_clamp (by omega)
              obtain ⟨Z, hZ⟩ : ∃ Z, wrz (bfG G).2.2 ((bfG G).2.1 e - 2 - z) e = Z := ⟨_, rfl⟩
              rw [wrA, if_neg (nI_pos (by omega)), zc, if_pos (by omega), hZ] at CR
              have loop : ∀ (m a : Nat), (bfG G).2.1 a = z + m + 2 → Z = wrz (bfG G).2.2 m a → Rn X 0 0 85 [some (.ref (r 73)), some (.int (nI x)), some (.int (nI y)), some (.int (nI z)), some (.int (nI e)), some (.int (nI a))] [] (LY r) h1 := by
                intro m
                induction m with
                | zero =>
                  intro a a1 hz
                  have a10 : a < 1024 := by have := (IB.2.2.1 a (by omega)).1; omega
                  have ea : h1 88 a = nI ((bfG G).2.1 a - 1) := by rw [E1.2.2.1 a a10, fvI_pos (by omega)]
                  have el := (E1.2.2.2 a (by omega)).2
                  refine R_al0 (n := 86) C dX11_spelled_85 rfl ?_
                  refine M_getR (n := 89) C fl_X11_52 dX11_spelled_86 rfl rfl rfl ?_
                  refine R_il5 (n := 91) C dX11_spelled_89 rfl ?_
                  refine M_iald (n := 92) C dX11_spelled_91 rfl a10 ea rfl ?_
                  refine R_il3 (n := 93) C dX11_spelled_92 rfl ?_
                  refine R_ic (n := 94) C dX11_spelled_93 ci_1 rfl ?_
                  refine R_iaddN (n := 95) C dX11_spelled_94 rfl ?_
                  refine R_icmp_leN (tgt := 110) C dX11_spelled_95 rfl rfl (by omega) (by omega) (fun d4 => ?_) (fun d4 => ?_)
                  · refine R_al0 (n := 111) C dX11_spelled_110 rfl ?_
                    refine M_getR (n := 114) C fl_X11_58 dX11_spelled_111 rfl rfl rfl ?_
                    refine R_il5 (n := 116) C dX11_spelled_114 rfl ?_
                    refine M_iald (n := 117) C dX11_spelled_116 rfl a10 el rfl ?_
                    refine R_iret C CR (Nat.zero_le _) (Nat.zero_le _) dX11_spelled_117 ?_
                    exact ⟨by rw [hz]; rfl, rfl, q1.2⟩
                  · omega
                | succ m ih =>
                  intro a a1 hz
                  have a10 : a < 1024 := by have := (IB.2.2.1 a (by omega)).1; omega
                  have da : (bfG G).2.1 a ≤ 1024 := Nat.le_trans (IB.2.2.2.1 a) len
                  have ea : h1 88 a = nI ((bfG G).2.1 a - 1) := by rw [E1.2.2.1 a a10, fvI_pos (by omega)]
                  obtain ⟨u, w, w6, u1, u2, u3, u4⟩ := IB.2.2.2.2 a (by omega)
                  have el := (E1.2.2.2 a (by omega)).1
                  refine R_al0 (n := 86) C dX11_spelled_85 rfl ?_
                  refine M_getR (n := 89) C fl_X11_52 dX11_spelled_86 rfl rfl rfl ?_
                  refine R_il5 (n := 91) C dX11_spelled_89 rfl ?_
                  refine M_iald (n := 92) C dX11_spelled_91 rfl a10 ea rfl ?_
                  refine R_il3 (n := 93) C dX11_spelled_92 rfl ?_
                  refine R_ic (n := 94) C dX11_spelled_93 ci_1 rfl ?_
                  refine R_iaddN (n := 95) C dX11_spelled_94 rfl ?_
                  refine R_icmp_leN (tgt := 110) C dX11_spelled_95 rfl rfl (by omega) (by omega) (fun d4 => ?_) (fun d4 => ?_)
                  · omega
                  · refine R_al0 (n := 99) C dX11_spelled_98 rfl ?_
                    refine M_getR (n := 102) C fl_X11_55 dX11_spelled_99 rfl rfl rfl ?_
                    refine R_il5 (n := 104) C dX11_spelled_102 rfl ?_
                    refine M_iald (n := 105) C dX11_spelled_104 rfl a10 el rfl ?_
                    refine R_is5 (n := 107) C dX11_spelled_105 rfl (Nat.le_of_ble_eq_true rfl) rfl ?_
                    refine R_goto (n := 85) C dX11_spelled_107 rfl ?_
                    refine ih _ ?_ hz
                    rw [show (bfG G).2.2 a / 8 = u by omega]
                    omega
              refine R_il4 (n := 83) C dX11_spelled_81 rfl ?_
              refine R_is5 (n := 85) C dX11_spelled_83 rfl (Nat.le_of_ble_eq_true rfl) rfl ?_
              exact loop _ e (by omega) hZ.symm
            · rw [low (Or.inl d3)] at CR
              refine R_bp (n := 80) C dX11_spelled_78 cb_m6 rfl ?_
              refine R_iret C CR (Nat.zero_le _) (Nat.zero_le _) dX11_spelled_80 ?_
              exact ⟨rfl, rfl, q1.2⟩
        · rw [if_pos d2] at CR
          refine R_il4 (n := 43) C dX11_spelled_41 rfl ?_
          refine R_if_geN (tgt := 51) C dX11_spelled_43 rfl rfl (by omega) ?_
          refine R_al0 (n := 52) C dX11_spelled_51 rfl ?_
          refine M_getR (n := 55) C fl_X11_52 dX11_spelled_52 rfl rfl rfl ?_
          refine R_il4 (n := 57) C dX11_spelled_55 rfl ?_
          refine M_iald (n := 58) C dX11_spelled_57 rfl e10 ee rfl ?_
          refine R_iret C CR (Nat.zero_le _) (Nat.zero_le _) dX11_spelled_58 ?_
          exact ⟨rfl, rfl, q1.2⟩
    · exact out (by rw [okA, c2, Bool.and_false])
