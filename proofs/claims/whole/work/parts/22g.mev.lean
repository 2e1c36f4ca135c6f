theorem RMo.back {G : GS} {h h' : Hp} (R : RMo G h) (F : FrA YA TS h h') (b : ∀ k, k < 5 → h' 74 k = h 74 k ∧ h' 75 k = h 75 k) : RMo G h' ∧ FrM h h' := by
  refine ⟨R.same ⟨by rw [F.2 0 (by decide)]; exact R.1.1, by rw [F.2 6 (by decide)]; exact R.1.2.1, by rw [F.2 11 (by decide)]; exact R.1.2.2.1, fun j k hj hk => ?_⟩ (fun a ha => F.1 a (by omega) (by simp; omega)) (F.2 13 (by decide)), F.m (by decide)⟩
  by_cases e0 : j = 0
  · subst e0
    rw [show 74 + 0 = 74 from rfl, (b k hk).1]
    exact R.1.2.2.2 0 k hj hk
  · by_cases e1 : j = 1
    · subst e1
      rw [show 74 + 1 = 75 from rfl, (b k hk).2]
      exact R.1.2.2.2 1 k hj hk
    · rw [F.1 (74 + j) (by omega) (by simp; omega)]
      exact R.1.2.2.2 j k hj hk
theorem ev_alt {n cnt : Nat} {ps : Nat → Nat} (hc : cnt ≤ 60) : (evS n ps cnt 0 none = none ∧ evz n cnt ps = -6) ∨ (evS n ps cnt 0 none ≠ none ∧ ∃ q, q < 2 ^ 31 ∧ evz n cnt ps = nI q) := by
  have key : ∀ (m i : Nat) (pd : Option Nat) (k : Nat), evS n ps m i pd = some k → k ≤ i + m := by
    intro m
    induction m with
    | zero =>
      intro i pd k h
      cases pd with
      | none => simp [evS] at h
      | some q => simp [evS] at h; omega
    | succ m ih =>
      intro i pd k h
      cases pd with
      | none =>
        unfold evS at h
        split at h
        · split at h
          · have := ih _ _ _ h; omega
          · cases h; omega
        · split at h
          · have := ih _ _ _ h; omega
          · cases h; omega
      | some q =>
        unfold evS at h
        split at h
        · have := ih _ _ _ h; omega
        · cases h; omega
  unfold evz
  cases h : evS n ps cnt 0 none with
  | none => exact Or.inl ⟨rfl, rfl⟩
  | some k =>
    have := key cnt 0 none k h
    exact Or.inr ⟨by simp, k, by omega, rfl⟩
theorem evr_ok60 {G : GS} (I : InvG G) (V : evS (sN (gS G)) (gP G).2 (gP G).1 0 none = none) : (∀ x ∈ evL (gP G).2 (gP G).1 0 none, okX (sN (gS G)) x) ∧ (evL (gP G).2 (gP G).1 0 none).length ≤ 60 := by
  refine ⟨evL_ok _ _ _ V (fun k q => by cases q), ?_⟩
  have := evL_len (ps := (gP G).2) (gP G).1 0 none
  have := I.2.1.1
  omega
def GvQ (G : GS) (h h' : Hp) : Prop := REM (0, h 73 18, 0) (gS G) (evG G).1 h' ∧ (h' 73 21 = if (evG G).2.2 = 0 then -6 else nI (evG G).2.1) ∧ (h' 73 22 = if (evG G).2.2 = 0 then -6 else nI (evG G).2.2) ∧ (evG G).2.1 ≤ 60 ∧ h' 73 15 = nI (evL (gP G).2 (gP G).1 0 none).length ∧ (∀ k, k < 5 → h' 85 k = h 74 k ∧ h' 86 k = h 75 k) ∧ FrA YA TS h h'
theorem evG_22 {G : GS} : (evG G).2.2 < 3 := by
  have : ∀ (E : List Nat) (e : EV) (c : Nat), (evr (gS G) E e c).2.2 < 3 := by
    intro E
    induction E with
    | nil => intro e c; exact (by decide : 0 < 3)
    | cons x t ih =>
      intro e c
      unfold evr
      split
      · exact ih _ _
      · exact whz_lt
  exact this _ _ _
theorem evG_O {G : GS} (I : InvG G) : EOk (gS G) (evG G).1 := evr_ok I.1 (ev0_ok I.1)
theorem GvQ.bad {G : GS} {h h' : Hp} (Q : GvQ G h h') (c : (evG G).2.2 ≠ 0) : h' 73 21 = nI (evG G).2.1 := by rw [Q.2.1, if_neg c]
theorem GvQ.good {G : GS} {h h' : Hp} (Q : GvQ G h h') (c : (evG G).2.2 = 0) : h' 73 21 = -6 := by rw [Q.2.1, if_pos c]
theorem goq {G : GS} {h h1 h2 h3 : Hp} (q1 : EvM (evL (gP G).2 (gP G).1 0 none) h1) (f1 : FrA [84] [15] h h1) (q2 : (∀ k, k < 5 → h2 85 k = h1 74 k ∧ h2 86 k = h1 75 k) ∧ FrA [85, 86] [] h1 h2) (q3 : REM (0, h2 73 18, 0) (gS G) (evG G).1 h3 ∧ (h3 73 21 = if (evG G).2.2 = 0 then -6 else nI (evG G).2.1) ∧ (h3 73 22 = if (evG G).2.2 = 0 then -6 else nI (evG G).2.2) ∧ (evG G).2.1 ≤ 60 ∧ FrA VA WSs h2 h3) : GvQ G h h3 := by
  have f2 := q2.2
  have f3 := q3.2.2.2.2
  have e18 : h2 73 18 = h 73 18 := (f2.2 18 (by decide)).trans (f1.2 18 (by decide))
  rw [e18] at q3
  refine ⟨q3.1, q3.2.1, q3.2.2.1, q3.2.2.2.1, ?_, fun k hk => ?_, ((f1.mono (by decide) (by decide)).tr (f2.mono (by decide) (by decide))).tr (f3.mono (by decide) (by decide))⟩
  · rw [f3.2 15 (by decide), f2.2 15 (by decide)]; exact q1.1
  · rw [f3.1 85 (by decide) (by decide), f3.1 86 (by decide) (by decide), (q2.1 k hk).1, (q2.1 k hk).2, f1.1 74 (by decide) (by decide), f1.1 75 (by decide) (by decide)]
    exact ⟨rfl, rfl⟩
theorem GvQ.back {G : GS} {h h3 h4 : Hp} (R : RMo G h) (Q : GvQ G h h3) (q4 : (∀ k, k < 5 → h4 74 k = h3 85 k ∧ h4 75 k = h3 86 k) ∧ FrA VA [] h3 h4) : RMo G h4 ∧ FrM h h4 := by
  refine R.back (Q.2.2.2.2.2.2.tr (q4.2.mono (by decide) (by decide))) (fun k hk => ?_)
  rw [(q4.1 k hk).1, (q4.1 k hk).2]
  exact Q.2.2.2.2.2.1 k hk
set_option maxRecDepth 20000 in
set_option maxHeartbeats 4000000 in
theorem m_judge (l : Launch) (D : va_G) (cA : Nat → ClassId) (r : Nat → Nat) {h : Hp} {G : GS} (R : RMo G h) (I : InvG G) (v : Int32) : Cn l D cA yX11_judge cX11_judge 2 (some .int) 4 0 0 [.ref (r 73), .int v] (LY r) h (pG (some (.int (aJudge G v))) (LY r) (fun h' => RMo G h' ∧ FrM h h')) := by
  refine Cn.of (lv := [some (.ref (r 73)), some (.int v)]) (by decide +kernel) (Nat.le_of_ble_eq_true rfl) rfl (fun X hnm C CR => ?_)
  have z3 := evG_22 (G := G)
  refine R_il1 (n := 1) C dX11_judge_0 rfl ?_
  refine R_i2l (n := 2) C dX11_judge_1 rfl rfl ?_
  refine R_lc (n := 3) C dX11_judge_2 lc_0 rfl ?_
  refine R_ldc2 (n := 6) C dX11_judge_3 kl_X11_108 rfl ?_
  refine R_eql (y := lN 3) (by decide +kernel) ?_
  refine R_callS (n := 9) C (c_mIn _ _ _ r _ _ _) mw_X11_in ml_X11_104 sv_X11_in dX11_judge_6 rfl rfl (Nat.le_of_ble_eq_true rfl) ⟨Nat.le_of_ble_eq_true rfl, Nat.le_of_ble_eq_true rfl⟩ ⟨Nat.le_refl _, Nat.le_refl _⟩ rfl (pEs ?_)
  rw [winL_n (by decide) (by decide)]
  refine R_if_neB (tgt := 15) C dX11_judge_9 rfl rfl (fun c1 => ?_) (fun c1 => ?_)
  · obtain ⟨x, _, hx, rfl⟩ := win_of (by decide) (by decide) c1
    have hxc : cl (nI x) = x := nI_clamp (by omega)
    rw [aJudge, if_pos c1, hxc] at CR
    refine R_al0 (n := 16) C dX11_judge_15 rfl ?_
    refine M_callV (n := 19) C (c_mFaultOfEvening _ _ _ r R.1 I.1 R.2.1 I.2.1) mw_X11_faultOfEvening ml_X11_149 iv_X11_faultOfEvening dX11_judge_16 rfl rfl rfl rfl (Nat.le_of_ble_eq_true rfl) ⟨Nat.le_of_ble_eq_true rfl, Nat.le_of_ble_eq_true rfl⟩ ⟨Nat.le_refl _, Nat.le_refl _⟩ rfl (pGs (fun h1 q1 => ?_))
    rcases ev_alt (n := sN (gS G)) (ps := (gP G).2) I.2.1.1 with ⟨V, ez⟩ | ⟨V, q, q31, ez⟩
    · have okx := evr_ok60 I V
      have ok : okE G = true := decide_eq_true V
      rw [if_pos ok] at CR
      rw [ez]
      refine R_if_lt (tgt := 25) C dX11_judge_19 rfl rfl (fun c2 => ?_) (fun c2 => ?_)
      · have A1 := q1.1 V
        have R1 := q1.2.rm R.1 (by decide) (by decide)
        refine R_al0 (n := 26) C dX11_judge_25 rfl ?_
        refine M_callV (n := 29) C (c_mKeepNow _ _ _ r) mw_X11_keepNow ml_X11_195 iv_X11_keepNow dX11_judge_26 rfl rfl rfl rfl (Nat.le_of_ble_eq_true rfl) ⟨Nat.le_of_ble_eq_true rfl, Nat.le_of_ble_eq_true rfl⟩ ⟨Nat.le_refl _, Nat.le_refl _⟩ rfl (pGv (fun h2 q2 => ?_))
        have A2 := A1.fr q2.2 (by decide) (by decide)
        have R2 := q2.2.rm R1 (by decide) (by decide)
        refine R_al0 (n := 30) C dX11_judge_29 rfl ?_
        refine M_callV (n := 33) C (c_mGoEvening _ _ _ r R2 I.1 A2 okx.1 okx.2) mw_X11_goEvening ml_X11_198 iv_X11_goEvening dX11_judge_30 rfl rfl rfl rfl (Nat.le_of_ble_eq_true rfl) ⟨Nat.le_of_ble_eq_true rfl, Nat.le_of_ble_eq_true rfl⟩ ⟨Nat.le_refl _, Nat.le_refl _⟩ rfl (pGv (fun h3 q3 => ?_))
        have Q := goq (h := h) A1 q1.2 q2 q3
        have z60 := Q.2.2.2.1
        refine R_al0 (n := 34) C dX11_judge_33 rfl ?_
        refine M_callV (n := 37) C (c_mPutBack _ _ _ r) mw_X11_putBack ml_X11_201 iv_X11_putBack dX11_judge_34 rfl rfl rfl rfl (Nat.le_of_ble_eq_true rfl) ⟨Nat.le_of_ble_eq_true rfl, Nat.le_of_ble_eq_true rfl⟩ ⟨Nat.le_refl _, Nat.le_refl _⟩ rfl (pGv (fun h4 q4 => ?_))
        have K := Q.back R q4
        have e21 : h4 73 21 = h3 73 21 := q4.2.2 21 (by decide)
        have e22 : h4 73 22 = h3 73 22 := q4.2.2 22 (by decide)
        have e16 : h4 73 16 = nI (evG G).1.2.2.1 := by rw [q4.2.2 16 (by decide), Q.1.2.1]; exact Int32.zero_add _
        have e17 : h4 73 17 = nI (evG G).1.2.2.2.2 := by rw [q4.2.2 17 (by decide), Q.1.2.2.2]; exact Int32.zero_add _
        have low : x ≤ 1 → Rn X 0 0 52 [some (.ref (r 73)), some (.int (nI x))] [] (LY r) h4 := by
          intro hx1
          refine R_il1 (n := 53) C dX11_judge_52 rfl ?_
          refine R_if_neN (tgt := 63) C dX11_judge_53 rfl rfl (by omega) (fun d1 => ?_) (fun d1 => ?_)
          · rw [if_neg d1, if_pos (show x = 1 by omega)] at CR
            refine R_il1 (n := 64) C dX11_judge_63 rfl ?_
            refine R_ic (n := 65) C dX11_judge_64 ci_1 rfl ?_
            refine R_icmp_neN (tgt := 75) C dX11_judge_65 rfl rfl (by omega) (by omega) (fun d2 => ?_) (fun d2 => ?_)
            · omega
            · refine R_al0 (n := 69) C dX11_judge_68 rfl ?_
              refine M_getI (n := 72) C fl_X11_186 dX11_judge_69 rfl rfl (e22.trans Q.2.2.1) rfl ?_
              refine R_goto (n := 91) C dX11_judge_72 rfl ?_
              refine R_iret C CR (Nat.zero_le _) (Nat.zero_le _) dX11_judge_91 ?_
              exact ⟨rfl, rfl, K⟩
          · rw [if_pos d1] at CR
            refine R_al0 (n := 57) C dX11_judge_56 rfl ?_
            refine M_getI (n := 60) C fl_X11_183 dX11_judge_57 rfl rfl (e21.trans Q.2.1) rfl ?_
            refine R_goto (n := 91) C dX11_judge_60 rfl ?_
            refine R_iret C CR (Nat.zero_le _) (Nat.zero_le _) dX11_judge_91 ?_
            exact ⟨rfl, rfl, K⟩
        refine R_il1 (n := 38) C dX11_judge_37 rfl ?_
        refine R_ic (n := 39) C dX11_judge_38 ci_1 rfl ?_
        refine R_icmp_leN (tgt := 52) C dX11_judge_39 rfl rfl (by omega) (by omega) (fun c3 => ?_) (fun c3 => ?_)
        · exact low c3
        · rw [if_neg (by omega), if_neg (by omega)] at CR
          by_cases g : (evG G).2.2 = 0
          · rw [if_pos g] at CR
            refine R_al0 (n := 43) C dX11_judge_42 rfl ?_
            refine M_getI (n := 46) C fl_X11_183 dX11_judge_43 rfl rfl (e21.trans (Q.good g)) rfl ?_
            refine R_if_lt (tgt := 52) C dX11_judge_46 rfl rfl (fun c4 => ?_) (fun c4 => ?_)
            · refine R_il1 (n := 53) C dX11_judge_52 rfl ?_
              refine R_if_neN (tgt := 63) C dX11_judge_53 rfl rfl (by omega) (fun d1 => ?_) (fun d1 => ?_)
              · refine R_il1 (n := 64) C dX11_judge_63 rfl ?_
                refine R_ic (n := 65) C dX11_judge_64 ci_1 rfl ?_
                refine R_icmp_neN (tgt := 75) C dX11_judge_65 rfl rfl (by omega) (by omega) (fun d2 => ?_) (fun d2 => ?_)
                · refine R_il1 (n := 76) C dX11_judge_75 rfl ?_
                  refine R_ic (n := 77) C dX11_judge_76 ci_2 rfl ?_
                  refine R_icmp_neN (tgt := 87) C dX11_judge_77 rfl rfl (by omega) (by omega) (fun d3 => ?_) (fun d3 => ?_)
                  · rw [if_neg d3] at CR
                    refine R_al0 (n := 88) C dX11_judge_87 rfl ?_
                    refine M_getI (n := 91) C fl_X11_180 dX11_judge_88 rfl rfl e17 rfl ?_
                    refine R_iret C CR (Nat.zero_le _) (Nat.zero_le _) dX11_judge_91 ?_
                    exact ⟨rfl, rfl, K⟩
                  · rw [if_pos d3] at CR
                    refine R_al0 (n := 81) C dX11_judge_80 rfl ?_
                    refine M_getI (n := 84) C fl_X11_165 dX11_judge_81 rfl rfl e16 rfl ?_
                    refine R_goto (n := 91) C dX11_judge_84 rfl ?_
                    refine R_iret C CR (Nat.zero_le _) (Nat.zero_le _) dX11_judge_91 ?_
                    exact ⟨rfl, rfl, K⟩
                · omega
              · omega
            · exact absurd (by decide) c4
          · rw [if_neg g] at CR
            refine R_al0 (n := 43) C dX11_judge_42 rfl ?_
            refine M_getI (n := 46) C fl_X11_183 dX11_judge_43 rfl rfl (e21.trans (Q.bad g)) rfl ?_
            refine R_if_ltN C dX11_judge_46 52 rfl rfl (by omega) ?_
            refine R_bp (n := 51) C dX11_judge_49 cb_m3 rfl ?_
            refine R_iret C CR (Nat.zero_le _) (Nat.zero_le _) dX11_judge_51 ?_
            exact ⟨rfl, rfl, K⟩
      · exact absurd (by decide) c2
    · have ok : okE G = false := decide_eq_false V
      rw [if_neg (by rw [ok]; decide)] at CR
      rw [ez]
      refine R_if_ltN C dX11_judge_19 25 rfl rfl (by omega) ?_
      refine R_bp (n := 24) C dX11_judge_22 cb_m5 rfl ?_
      refine R_iret C CR (Nat.zero_le _) (Nat.zero_le _) dX11_judge_24 ?_
      exact ⟨rfl, rfl, R.t (q1.2.mono (by decide) (by decide))⟩
  · refine R_bp (n := 14) C dX11_judge_12 cb_m2 rfl ?_
    refine R_iret C CR (Nat.zero_le _) (Nat.zero_le _) dX11_judge_14 ?_
    exact ⟨by rw [aJudge, c1]; rfl, rfl, R, FrM.rf⟩
set_option maxRecDepth 20000 in
set_option maxHeartbeats 4000000 in
theorem m_behind (l : Launch) (D : va_G) (cA : Nat → ClassId) (r : Nat → Nat) {h : Hp} {G : GS} (R : RMo G h) (I : InvG G) (hu v : Int32) : Cn l D cA yX11_behind cX11_behind 4 (some .int) 4 0 0 [.ref (r 73), .int hu, .int v] (LY r) h (pG (some (.int (aBehind G hu v))) (LY r) (fun h' => RMo G h' ∧ FrM h h')) := by
  refine Cn.of (lv := [some (.ref (r 73)), some (.int hu), some (.int v), none]) (by decide +kernel) (Nat.le_of_ble_eq_true rfl) rfl (fun X hnm C CR => ?_)
  have z3 := evG_22 (G := G)
  have n5 := I.1.n5
  refine R_al0 (n := 1) C dX11_behind_0 rfl ?_
  refine R_il1 (n := 2) C dX11_behind_1 rfl ?_
  refine M_callV (n := 5) C (c_mIsHut _ _ _ r R.1 I.1 _) mw_X11_isHut ml_X11_112 iv_X11_isHut dX11_behind_2 rfl rfl rfl rfl (Nat.le_of_ble_eq_true rfl) ⟨Nat.le_of_ble_eq_true rfl, Nat.le_of_ble_eq_true rfl⟩ ⟨Nat.le_refl _, Nat.le_refl _⟩ rfl (pEs ?_)
  refine R_if_neB (tgt := 10) C dX11_behind_5 rfl rfl (fun c0 => ?_) (fun c0 => ?_)
  · obtain ⟨k, hk, rfl, hk2⟩ := hasH_of I.1 c0
    rw [aBehind, if_pos c0, hk2] at CR
    refine R_il2 (n := 11) C dX11_behind_10 rfl ?_
    refine R_i2l (n := 12) C dX11_behind_11 rfl rfl ?_
    refine R_lc (n := 13) C dX11_behind_12 lc_0 rfl ?_
    refine R_lc (n := 14) C dX11_behind_13 lc_1 rfl ?_
    refine R_callS (n := 17) C (c_mIn _ _ _ r _ _ _) mw_X11_in ml_X11_104 sv_X11_in dX11_behind_14 rfl rfl (Nat.le_of_ble_eq_true rfl) ⟨Nat.le_of_ble_eq_true rfl, Nat.le_of_ble_eq_true rfl⟩ ⟨Nat.le_refl _, Nat.le_refl _⟩ rfl (pEs ?_)
    rw [winL_n (by decide) (by decide)]
    refine R_if_neB (tgt := 23) C dX11_behind_17 rfl rfl (fun c1 => ?_) (fun c1 => ?_)
    · obtain ⟨x, _, hx, rfl⟩ := win_of (by decide) (by decide) c1
      have hxc : cl (nI x) = x := nI_clamp (by omega)
      rw [if_pos c1, hxc] at CR
      refine R_al0 (n := 24) C dX11_behind_23 rfl ?_
      refine M_callV (n := 27) C (c_mFaultOfEvening _ _ _ r R.1 I.1 R.2.1 I.2.1) mw_X11_faultOfEvening ml_X11_149 iv_X11_faultOfEvening dX11_behind_24 rfl rfl rfl rfl (Nat.le_of_ble_eq_true rfl) ⟨Nat.le_of_ble_eq_true rfl, Nat.le_of_ble_eq_true rfl⟩ ⟨Nat.le_refl _, Nat.le_refl _⟩ rfl (pGs (fun h1 q1 => ?_))
      rcases ev_alt (n := sN (gS G)) (ps := (gP G).2) I.2.1.1 with ⟨V, ez⟩ | ⟨V, q, q31, ez⟩
      · have okx := evr_ok60 I V
        have ok : okE G = true := decide_eq_true V
        rw [if_pos ok] at CR
        rw [ez]
        refine R_if_lt (tgt := 33) C dX11_behind_27 rfl rfl (fun c2 => ?_) (fun c2 => ?_)
        · have A1 := q1.1 V
          have R1 := q1.2.rm R.1 (by decide) (by decide)
          refine R_al0 (n := 34) C dX11_behind_33 rfl ?_
          refine M_callV (n := 37) C (c_mKeepNow _ _ _ r) mw_X11_keepNow ml_X11_195 iv_X11_keepNow dX11_behind_34 rfl rfl rfl rfl (Nat.le_of_ble_eq_true rfl) ⟨Nat.le_of_ble_eq_true rfl, Nat.le_of_ble_eq_true rfl⟩ ⟨Nat.le_refl _, Nat.le_refl _⟩ rfl (pGv (fun h2 q2 => ?_))
          have A2 := A1.fr q2.2 (by decide) (by decide)
          have R2 := q2.2.rm R1 (by decide) (by decide)
          refine R_al0 (n := 38) C dX11_behind_37 rfl ?_
          refine M_callV (n := 41) C (c_mGoEvening _ _ _ r R2 I.1 A2 okx.1 okx.2) mw_X11_goEvening ml_X11_198 iv_X11_goEvening dX11_behind_38 rfl rfl rfl rfl (Nat.le_of_ble_eq_true rfl) ⟨Nat.le_of_ble_eq_true rfl, Nat.le_of_ble_eq_true rfl⟩ ⟨Nat.le_refl _, Nat.le_refl _⟩ rfl (pGv (fun h3 q3 => ?_))
          have Q := goq (h := h) A1 q1.2 q2 q3
          have z60 := Q.2.2.2.1
          have fin : ∀ (u : Int32), (if x = 0 then nI ((evG G).1.1 k) else nI ((evG G).1.2.1 k)) = u → Rn X 0 0 60 [some (.ref (r 73)), some (.int (nI k)), some (.int (nI x)), none] [.int u] (LY r) h3 := by
            intro u hu
            rw [hu] at CR
            refine R_is3 (n := 61) C dX11_behind_60 rfl (Nat.le_of_ble_eq_true rfl) rfl ?_
            refine R_al0 (n := 62) C dX11_behind_61 rfl ?_
            refine M_callV (n := 65) C (c_mPutBack _ _ _ r) mw_X11_putBack ml_X11_201 iv_X11_putBack dX11_behind_62 rfl rfl rfl rfl (Nat.le_of_ble_eq_true rfl) ⟨Nat.le_of_ble_eq_true rfl, Nat.le_of_ble_eq_true rfl⟩ ⟨Nat.le_refl _, Nat.le_refl _⟩ rfl (pGv (fun h4 q4 => ?_))
            have K := Q.back R q4
            have e21 : h4 73 21 = h3 73 21 := q4.2.2 21 (by decide)
            by_cases g : (evG G).2.2 = 0
            · rw [if_pos g] at CR
              refine R_al0 (n := 66) C dX11_behind_65 rfl ?_
              refine M_getI (n := 69) C fl_X11_183 dX11_behind_66 rfl rfl (e21.trans (Q.good g)) rfl ?_
              refine R_if_lt (tgt := 77) C dX11_behind_69 rfl rfl (fun c4 => ?_) (fun c4 => ?_)
              · refine R_il3 (n := 78) C dX11_behind_77 rfl ?_
                refine R_iret C CR (Nat.zero_le _) (Nat.zero_le _) dX11_behind_78 ?_
                exact ⟨rfl, rfl, K⟩
              · exact absurd (by decide) c4
            · rw [if_neg g] at CR
              refine R_al0 (n := 66) C dX11_behind_65 rfl ?_
              refine M_getI (n := 69) C fl_X11_183 dX11_behind_66 rfl rfl (e21.trans (Q.bad g)) rfl ?_
              refine R_if_ltN C dX11_behind_69 77 rfl rfl (by omega) ?_
              refine R_bp (n := 74) C dX11_behind_72 cb_m3 rfl ?_
              refine R_goto (n := 78) C dX11_behind_74 rfl ?_
              refine R_iret C CR (Nat.zero_le _) (Nat.zero_le _) dX11_behind_78 ?_
              exact ⟨rfl, rfl, K⟩
          refine R_il2 (n := 42) C dX11_behind_41 rfl ?_
          refine R_if_neN (tgt := 54) C dX11_behind_42 rfl rfl (by omega) (fun c3 => ?_) (fun c3 => ?_)
          · have e75 : h3 75 k = nI ((evG G).1.2.1 k) := by rw [mLg Q.1.1 (by omega), dnz_1 (by omega)]
            refine R_al0 (n := 55) C dX11_behind_54 rfl ?_
            refine M_getR (n := 58) C fl_X11_13 dX11_behind_55 rfl rfl rfl ?_
            refine R_il1 (n := 59) C dX11_behind_58 rfl ?_
            refine M_iald (n := 60) C dX11_behind_59 rfl (by omega) e75 rfl ?_
            exact fin _ (by rw [if_neg c3])
          · have e74 : h3 74 k = nI ((evG G).1.1 k) := by rw [mLk Q.1.1 (by omega), dnz_0 (by omega)]
            refine R_al0 (n := 46) C dX11_behind_45 rfl ?_
            refine M_getR (n := 49) C fl_X11_7 dX11_behind_46 rfl rfl rfl ?_
            refine R_il1 (n := 50) C dX11_behind_49 rfl ?_
            refine M_iald (n := 51) C dX11_behind_50 rfl (by omega) e74 rfl ?_
            refine R_goto (n := 60) C dX11_behind_51 rfl ?_
            exact fin _ (by rw [if_pos c3])
        · exact absurd (by decide) c2
      · have ok : okE G = false := decide_eq_false V
        rw [if_neg (by rw [ok]; decide)] at CR
        rw [ez]
        refine R_if_ltN C dX11_behind_27 33 rfl rfl (by omega) ?_
        refine R_bp (n := 32) C dX11_behind_30 cb_m5 rfl ?_
        refine R_iret C CR (Nat.zero_le _) (Nat.zero_le _) dX11_behind_32 ?_
        exact ⟨rfl, rfl, R.t (q1.2.mono (by decide) (by decide))⟩
    · refine R_bp (n := 22) C dX11_behind_20 cb_m2 rfl ?_
      refine R_iret C CR (Nat.zero_le _) (Nat.zero_le _) dX11_behind_22 ?_
      exact ⟨by rw [if_neg (by rw [c1]; decide)], rfl, R, FrM.rf⟩
  · refine R_ic (n := 9) C dX11_behind_8 ci_m1 rfl ?_
    refine R_iret C CR (Nat.zero_le _) (Nat.zero_le _) dX11_behind_9 ?_
    exact ⟨by rw [aBehind, c0]; rfl, rfl, R, FrM.rf⟩
set_option maxRecDepth 20000 in
set_option maxHeartbeats 4000000 in
theorem m_done (l : Launch) (D : va_G) (cA : Nat → ClassId) (r : Nat → Nat) {h : Hp} {G : GS} (R : RMo G h) (I : InvG G) : Cn l D cA yX11_done cX11_done 1 (some .int) 4 0 0 [.ref (r 73)] (LY r) h (pG (some (.int (aDone G))) (LY r) (fun h' => RMo (nDone G) h' ∧ FrM h h')) := by
  refine Cn.of (lv := [some (.ref (r 73))]) (by decide +kernel) (Nat.le_of_ble_eq_true rfl) rfl (fun X hnm C CR => ?_)
  have z3 := evG_22 (G := G)
  refine R_al0 (n := 1) C dX11_done_0 rfl ?_
  refine M_callV (n := 4) C (c_mFaultOfEvening _ _ _ r R.1 I.1 R.2.1 I.2.1) mw_X11_faultOfEvening ml_X11_149 iv_X11_faultOfEvening dX11_done_1 rfl rfl rfl rfl (Nat.le_of_ble_eq_true rfl) ⟨Nat.le_of_ble_eq_true rfl, Nat.le_of_ble_eq_true rfl⟩ ⟨Nat.le_refl _, Nat.le_refl _⟩ rfl (pGs (fun h1 q1 => ?_))
  rcases ev_alt (n := sN (gS G)) (ps := (gP G).2) I.2.1.1 with ⟨V, ez⟩ | ⟨V, q, q31, ez⟩
  · have okx := evr_ok60 I V
    have ok : okE G = true := decide_eq_true V
    rw [aDone, if_pos ok, nDone, ok, Bool.true_and] at CR
    rw [ez]
    refine R_if_lt (tgt := 10) C dX11_done_4 rfl rfl (fun c2 => ?_) (fun c2 => ?_)
    · have A1 := q1.1 V
      have R1 := q1.2.rm R.1 (by decide) (by decide)
      refine R_al0 (n := 11) C dX11_done_10 rfl ?_
      refine M_callV (n := 14) C (c_mKeepNow _ _ _ r) mw_X11_keepNow ml_X11_195 iv_X11_keepNow dX11_done_11 rfl rfl rfl rfl (Nat.le_of_ble_eq_true rfl) ⟨Nat.le_of_ble_eq_true rfl, Nat.le_of_ble_eq_true rfl⟩ ⟨Nat.le_refl _, Nat.le_refl _⟩ rfl (pGv (fun h2 q2 => ?_))
      have A2 := A1.fr q2.2 (by decide) (by decide)
      have R2 := q2.2.rm R1 (by decide) (by decide)
      refine R_al0 (n := 15) C dX11_done_14 rfl ?_
      refine M_callV (n := 18) C (c_mGoEvening _ _ _ r R2 I.1 A2 okx.1 okx.2) mw_X11_goEvening ml_X11_198 iv_X11_goEvening dX11_done_15 rfl rfl rfl rfl (Nat.le_of_ble_eq_true rfl) ⟨Nat.le_of_ble_eq_true rfl, Nat.le_of_ble_eq_true rfl⟩ ⟨Nat.le_refl _, Nat.le_refl _⟩ rfl (pGv (fun h3 q3 => ?_))
      have Q := goq (h := h) A1 q1.2 q2 q3
      have z60 := Q.2.2.2.1
      by_cases g : (evG G).2.2 = 0
      · rw [if_pos g, if_pos (decide_eq_true g)] at CR
        refine R_al0 (n := 19) C dX11_done_18 rfl ?_
        refine M_getI (n := 22) C fl_X11_183 dX11_done_19 rfl rfl (Q.good g) rfl ?_
        refine R_if_lt (tgt := 32) C dX11_done_22 rfl rfl (fun c4 => ?_) (fun c4 => ?_)
        · refine R_al0 (n := 33) C dX11_done_32 rfl ?_
          refine R_ic (n := 34) C dX11_done_33 ci_0 rfl ?_
          refine M_putI (n := 37) C fl_X11_128 dX11_done_34 rfl rfl rfl rfl rfl ?_
          refine R_al0 (n := 38) C dX11_done_37 rfl ?_
          refine M_getI (n := 41) C fl_X11_135 dX11_done_38 rfl rfl (up2_gne (by decide) Q.2.2.2.2.1) rfl ?_
          refine R_iret C CR (Nat.zero_le _) (Nat.zero_le _) dX11_done_41 ?_
          have F := Q.2.2.2.2.2.2
          refine ⟨?_, rfl, ?_, (F.m (by decide)).up (by decide)⟩
          · have : (evG G).2.1 = 0 + (evL (gP G).2 (gP G).1 0 none).length := evr_cnt _ _ _ g
            rw [this, Nat.zero_add]
          · have R3 : RMo (mkS G (dnz (gS G) (evG G).1)) h3 := R.wood Q.1.1 (fun a ha => F.1 a (by omega) (by simp; omega)) (F.2 13 (by decide))
            exact R3.pad ⟨up2_same, fun k hk => by rw [up2_row (by decide)]; exact R3.2.1.2 k hk⟩ (fun a b1 b2 => up2_row b1) (fun k hk => up2_ne hk)
        · exact absurd (by decide) c4
      · rw [if_neg g, if_neg (by rw [decide_eq_false g]; decide)] at CR
        refine R_al0 (n := 19) C dX11_done_18 rfl ?_
        refine M_getI (n := 22) C fl_X11_183 dX11_done_19 rfl rfl (Q.bad g) rfl ?_
        refine R_if_ltN C dX11_done_22 32 rfl rfl (by omega) ?_
        refine R_al0 (n := 26) C dX11_done_25 rfl ?_
        refine M_callV (n := 29) C (c_mPutBack _ _ _ r) mw_X11_putBack ml_X11_201 iv_X11_putBack dX11_done_26 rfl rfl rfl rfl (Nat.le_of_ble_eq_true rfl) ⟨Nat.le_of_ble_eq_true rfl, Nat.le_of_ble_eq_true rfl⟩ ⟨Nat.le_refl _, Nat.le_refl _⟩ rfl (pGv (fun h4 q4 => ?_))
        refine R_bp (n := 31) C dX11_done_29 cb_m3 rfl ?_
        refine R_iret C CR (Nat.zero_le _) (Nat.zero_le _) dX11_done_31 ?_
        exact ⟨rfl, rfl, Q.back R q4⟩
    · exact absurd (by decide) c2
  · have ok : okE G = false := decide_eq_false V
    rw [aDone, ok, nDone, ok] at CR
    rw [ez]
    refine R_if_ltN C dX11_done_4 10 rfl rfl (by omega) ?_
    refine R_bp (n := 9) C dX11_done_7 cb_m5 rfl ?_
    refine R_iret C CR (Nat.zero_le _) (Nat.zero_le _) dX11_done_9 ?_
    exact ⟨rfl, rfl, R.t (q1.2.mono (by decide) (by decide))⟩
