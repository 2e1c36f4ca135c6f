theorem evz_eq {n cnt : Nat} {ps : Nat → Nat} (hc : cnt ≤ 60) : (evz n cnt ps = -6) ↔ evS n ps cnt 0 none = none := by
  have key : ∀ (m i : Nat) (pd : Option Nat) (k : Nat), evS n ps m i pd = some k → k ≤ i + m := by
    intro m
    induction m with
    | zero =>
      intro i pd k h
      cases pd with
      | none => simp [evS] at h
      | some q => simp [evS] at h; omega
    | succ m ih =>
      intro i pd k h
      cases pd with
      | none =>
        unfold evS at h
        split at h
        · split at h
          · have := ih _ _ _ h; omega
          · cases h; omega
        · split at h
          · have := ih _ _ _ h; omega
          · cases h; omega
      | some q =>
        unfold evS at h
        split at h
        · have := ih _ _ _ h; omega
        · cases h; omega
  unfold evz
  cases h : evS n ps cnt 0 none with
  | none => simp
  | some k =>
    have := key cnt 0 none k h
    simp only [reduceCtorEq, iff_false]
    intro e
    have e2 := congrArg Int32.toInt e
    rw [nI_toInt (by omega)] at e2
    have e3 : (-6 : Int32).toInt = -6 := by decide
    omega
theorem spz_eq {n cnt : Nat} {ps : Nat → Nat} (hc : cnt ≤ 60) (h : spz n cnt ps = -6) : n ≤ cnt ∧ ∀ k, k < n → 48 ≤ ps k ∧ ps k ≤ 51 := by
  have nn : ∀ k : Nat, k ≤ 60 → nI k ≠ -6 := by decide +kernel
  have fl := fz_le (p := spB n ps) (n := cnt)
  unfold spz at h
  split at h
  · exact absurd h (nn _ (by omega))
  · rename_i h1
    split at h
    · exact absurd h (nn _ (by omega))
    · rename_i h2
      refine ⟨by omega, fun k hk => ?_⟩
      have : spB n ps k = false := by
        cases e : spB n ps k with
        | false => rfl
        | true =>
          exfalso
          have : ∀ m i, i ≤ k → k < i + m → scan (spB n ps) m i ≤ k := by
            intro m
            induction m with
            | zero => intro i a b; omega
            | succ m ih =>
              intro i a b
              unfold scan
              split
              · exact a
              · rename_i h9
                by_cases e9 : i = k
                · subst e9; exact absurd e h9
                · exact ih (i + 1) (by omega) (by omega)
          have := this cnt 0 (by omega) (by omega)
          unfold fz at h1
          omega
      simp [spB] at this
      omega
set_option maxRecDepth 20000 in
set_option maxHeartbeats 4000000 in
theorem c_playWhole (l : Launch) (D : va_G) (cA : Nat → ClassId) (r : Nat → Nat) {h : Hp} {G : GS} (R : RCl G h) (I : InvG G) : Cn l D cA yX10_playWhole cX10_playWhole 1 (some .int) 4 0 0 [.ref (r 0)] (LY r) h (pG (some (.int (if okE G then (if (evG G).2.2 = 0 then nI 0 else -3) else -5))) (LY r) (fun h' => FrE h h' ∧ (okE G = true → RE (evG G).1 (evG G).2.1 (evG G).2.2 h'))) := by
  refine Cn.of (lv := [some (.ref (r 0))]) (by decide +kernel) (Nat.le_of_ble_eq_true rfl) rfl (fun X hnm C CR => ?_)
  have n5 := I.1.n5
  have c60 := I.2.1.1
  refine R_al0 (n := 1) C dX10_playWhole_0 rfl ?_
  refine M_getR (n := 4) C fl_X10_27 dX10_playWhole_1 rfl rfl rfl ?_
  refine R_al0 (n := 5) C dX10_playWhole_4 rfl ?_
  refine M_getR (n := 8) C fl_X10_12 dX10_playWhole_5 rfl rfl rfl ?_
  refine M_getI (n := 11) C fl_X10_80 dX10_playWhole_8 rfl rfl (wN R.1) rfl ?_
  refine M_callV (n := 14) C (c_eveningFault _ _ _ r R.2.1 I.2.1 n5) mw_X4_eveningFault ml_X10_118 iv_X4_eveningFault dX10_playWhole_11 rfl rfl rfl rfl (Nat.le_of_ble_eq_true rfl) ⟨Nat.le_of_ble_eq_true rfl, Nat.le_of_ble_eq_true rfl⟩ ⟨Nat.le_refl _, Nat.le_refl _⟩ rfl (pEs ?_)
  refine R_bp (n := 16) C dX10_playWhole_14 cb_m6 rfl ?_
  refine R_icmp_eq (tgt := 22) C dX10_playWhole_16 rfl rfl (fun c1 => ?_) (fun c1 => ?_)
  · rw [evz_eq c60] at c1
    have ok : okE G = true := decide_eq_true c1
    refine R_al0 (n := 23) C dX10_playWhole_22 rfl ?_
    refine M_getR (n := 26) C fl_X10_34 dX10_playWhole_23 rfl rfl rfl ?_
    refine R_al0 (n := 27) C dX10_playWhole_26 rfl ?_
    refine M_getR (n := 30) C fl_X10_12 dX10_playWhole_27 rfl rfl rfl ?_
    refine R_al0 (n := 31) C dX10_playWhole_30 rfl ?_
    refine M_getR (n := 34) C fl_X10_27 dX10_playWhole_31 rfl rfl rfl ?_
    refine M_callV (n := 37) C (c_play _ _ _ r R.1 I.1 R.2.1 I.2.1 c1) mw_X2_play ml_X10_139 iv_X2_play dX10_playWhole_34 rfl rfl rfl rfl (Nat.le_of_ble_eq_true rfl) ⟨Nat.le_of_ble_eq_true rfl, Nat.le_of_ble_eq_true rfl⟩ ⟨Nat.le_refl _, Nat.le_refl _⟩ rfl (pGv (fun h1 q1 => ?_))
    refine R_al0 (n := 38) C dX10_playWhole_37 rfl ?_
    refine M_getR (n := 41) C fl_X10_34 dX10_playWhole_38 rfl rfl rfl ?_
    refine M_getI (n := 44) C fl_X10_143 dX10_playWhole_41 rfl rfl q1.1.2.2.2.2.2.2 rfl ?_
    have yb : (evG G).2.2 < 3 := by
      have : ∀ (l : List Nat) (e : EV) (c : Nat), (evr (gS G) l e c).2.2 < 3 := by
        intro l
        induction l with
        | nil => intro e c; simp [evr]
        | cons x t ih =>
          intro e c
          unfold evr
          split
          · exact ih _ _
          · show whz (gS G) e x < 3
            unfold whz
            repeat' split
            all_goals decide
      exact this _ _ _
    have yb' : (evr (gS G) (evL (gP G).2 (gP G).1 0 none) (ev0 (gS G)) 0).2.2 < 3 := yb
    refine R_if_neN (tgt := 51) C dX10_playWhole_44 rfl rfl (by omega) (fun c2 => ?_) (fun c2 => ?_)
    · refine R_bp (n := 53) C dX10_playWhole_51 cb_m3 rfl ?_
      refine R_iret C CR (Nat.zero_le _) (Nat.zero_le _) dX10_playWhole_53 ?_
      refine ⟨?_, rfl, q1.2, fun _ => q1.1⟩
      rw [ok, if_pos rfl, if_neg (show ¬ (evG G).2.2 = 0 from c2)]
    · refine R_ic (n := 48) C dX10_playWhole_47 ci_0 rfl ?_
      refine R_goto (n := 53) C dX10_playWhole_48 rfl ?_
      refine R_iret C CR (Nat.zero_le _) (Nat.zero_le _) dX10_playWhole_53 ?_
      refine ⟨?_, rfl, q1.2, fun _ => q1.1⟩
      rw [ok, if_pos rfl, if_pos (show (evG G).2.2 = 0 from c2)]
  · rw [evz_eq c60] at c1
    have ok : okE G = false := decide_eq_false c1
    refine R_bp (n := 21) C dX10_playWhole_19 cb_m5 rfl ?_
    refine R_iret C CR (Nat.zero_le _) (Nat.zero_le _) dX10_playWhole_21 ?_
    refine ⟨?_, rfl, FrE.rf, fun q => ?_⟩
    · rw [ok]; rfl
    · rw [ok] at q; cases q
set_option maxRecDepth 20000 in
set_option maxHeartbeats 4000000 in
theorem p_judge (l : Launch) (D : va_G) (cA : Nat → ClassId) (r : Nat → Nat) {h : Hp} {G : GS} (R : RCl G h) (I : InvG G) (v : Int32) : Cn l D cA yX10_judge cX10_judge 2 (some .int) 4 0 0 [.ref (r 0), .int v] (LY r) h (pG (some (.int (aJudge G v))) (LY r) (fun h' => RCl G h' ∧ FrC h h')) := by
  refine Cn.of (lv := [some (.ref (r 0)), some (.int v)]) (by decide +kernel) (Nat.le_of_ble_eq_true rfl) rfl (fun X hnm C CR => ?_)
  have n5 := I.1.n5
  have c60 := I.2.1.1
  refine R_il1 (n := 1) C dX10_judge_0 rfl ?_
  refine R_ic (n := 2) C dX10_judge_1 ci_0 rfl ?_
  refine R_ic (n := 3) C dX10_judge_2 ci_3 rfl ?_
  refine R_callS (n := 6) C (c_isWithin _ _ _ r _ _ _) mw_X10_isWithin ml_X10_92 sv_X10_isWithin dX10_judge_3 rfl rfl (Nat.le_of_ble_eq_true rfl) ⟨Nat.le_of_ble_eq_true rfl, Nat.le_of_ble_eq_true rfl⟩ ⟨Nat.le_refl _, Nat.le_refl _⟩ rfl (pEs ?_)
  refine R_if_neB (tgt := 12) C dX10_judge_6 rfl rfl (fun c1 => ?_) (fun c1 => ?_)
  · obtain ⟨x, _, h2, rfl⟩ := win_of (by decide) (by decide) c1
    have xc : cl (nI x) = x := nI_clamp (by omega)
    refine R_al0 (n := 13) C dX10_judge_12 rfl ?_
    refine M_getR (n := 16) C fl_X10_27 dX10_judge_13 rfl rfl rfl ?_
    refine R_al0 (n := 17) C dX10_judge_16 rfl ?_
    refine M_getR (n := 20) C fl_X10_12 dX10_judge_17 rfl rfl rfl ?_
    refine M_getI (n := 23) C fl_X10_80 dX10_judge_20 rfl rfl (wN R.1) rfl ?_
    refine M_callV (n := 26) C (c_eveningFault _ _ _ r R.2.1 I.2.1 n5) mw_X4_eveningFault ml_X10_118 iv_X4_eveningFault dX10_judge_23 rfl rfl rfl rfl (Nat.le_of_ble_eq_true rfl) ⟨Nat.le_of_ble_eq_true rfl, Nat.le_of_ble_eq_true rfl⟩ ⟨Nat.le_refl _, Nat.le_refl _⟩ rfl (pEs ?_)
    refine R_bp (n := 28) C dX10_judge_26 cb_m6 rfl ?_
    refine R_icmp_eq (tgt := 34) C dX10_judge_28 rfl rfl (fun c2 => ?_) (fun c2 => ?_)
    · rw [evz_eq c60] at c2
      have ok : okE G = true := decide_eq_true c2
      refine R_al0 (n := 35) C dX10_judge_34 rfl ?_
      refine M_getR (n := 38) C fl_X10_34 dX10_judge_35 rfl rfl rfl ?_
      refine R_al0 (n := 39) C dX10_judge_38 rfl ?_
      refine M_getR (n := 42) C fl_X10_12 dX10_judge_39 rfl rfl rfl ?_
      refine R_al0 (n := 43) C dX10_judge_42 rfl ?_
      refine M_getR (n := 46) C fl_X10_27 dX10_judge_43 rfl rfl rfl ?_
      refine M_callV (n := 49) C (c_play _ _ _ r R.1 I.1 R.2.1 I.2.1 c2) mw_X2_play ml_X10_139 iv_X2_play dX10_judge_46 rfl rfl rfl rfl (Nat.le_of_ble_eq_true rfl) ⟨Nat.le_of_ble_eq_true rfl, Nat.le_of_ble_eq_true rfl⟩ ⟨Nat.le_refl _, Nat.le_refl _⟩ rfl (pGv (fun h1 q1 => ?_))
      obtain ⟨Z, hZ⟩ : ∃ Z, evG G = Z := ⟨_, rfl⟩
      have q1' : RE Z.1 Z.2.1 Z.2.2 h1 ∧ FrE h h1 := by rw [← hZ]; exact q1
      obtain ⟨E1, F1⟩ := q1'
      have yb : Z.2.2 < 3 := by
        have : ∀ (l : List Nat) (e : EV) (c : Nat), (evr (gS G) l e c).2.2 < 3 := by
          intro l
          induction l with
          | nil => intro e c; simp [evr]
          | cons x t ih =>
            intro e c
            unfold evr
            split
            · exact ih _ _
            · show whz (gS G) e x < 3
              unfold whz
              repeat' split
              all_goals decide
        rw [← hZ]
        exact this _ _ _
      have W : RCl G h1 ∧ FrC h h1 := ⟨R.s F1.s, F1.s.c⟩
      rw [aJudge, c1, if_pos rfl, ok, if_pos rfl, xc, hZ] at CR
      refine R_il1 (n := 50) C dX10_judge_49 rfl ?_
      refine R_if_neN (tgt := 76) C dX10_judge_50 rfl rfl (by omega) (fun c3 => ?_) (fun c3 => ?_)
      · rw [if_neg c3] at CR
        refine R_il1 (n := 77) C dX10_judge_76 rfl ?_
        refine R_ic (n := 78) C dX10_judge_77 ci_1 rfl ?_
        refine R_icmp_neN (tgt := 104) C dX10_judge_78 rfl rfl (by omega) (by omega) (fun c4 => ?_) (fun c4 => ?_)
        · rw [if_neg c4] at CR
          refine R_al0 (n := 105) C dX10_judge_104 rfl ?_
          refine M_getR (n := 108) C fl_X10_34 dX10_judge_105 rfl rfl rfl ?_
          refine M_getI (n := 111) C fl_X10_143 dX10_judge_108 rfl rfl E1.2.2.2.2.2.2 rfl ?_
          refine R_if_eqN (tgt := 117) C dX10_judge_111 rfl rfl (by omega) (fun c5 => ?_) (fun c5 => ?_)
          · rw [if_pos c5] at CR
            refine R_il1 (n := 118) C dX10_judge_117 rfl ?_
            refine R_ic (n := 119) C dX10_judge_118 ci_2 rfl ?_
            refine R_icmp_neN (tgt := 132) C dX10_judge_119 rfl rfl (by omega) (by omega) (fun c6 => ?_) (fun c6 => ?_)
            · rw [if_neg c6] at CR
              refine R_al0 (n := 133) C dX10_judge_132 rfl ?_
              refine M_getR (n := 136) C fl_X10_34 dX10_judge_133 rfl rfl rfl ?_
              refine M_getI (n := 139) C fl_X10_152 dX10_judge_136 rfl rfl E1.2.2.2.2.1 rfl ?_
              refine R_iret C CR (Nat.zero_le _) (Nat.zero_le _) dX10_judge_139 ?_
              exact ⟨rfl, rfl, W⟩
            · rw [if_pos c6] at CR
              refine R_al0 (n := 123) C dX10_judge_122 rfl ?_
              refine M_getR (n := 126) C fl_X10_34 dX10_judge_123 rfl rfl rfl ?_
              refine M_getI (n := 129) C fl_X10_149 dX10_judge_126 rfl rfl E1.2.2.1 rfl ?_
              refine R_goto (n := 139) C dX10_judge_129 rfl ?_
              refine R_iret C CR (Nat.zero_le _) (Nat.zero_le _) dX10_judge_139 ?_
              exact ⟨rfl, rfl, W⟩
          · rw [if_neg c5] at CR
            refine R_bp (n := 116) C dX10_judge_114 cb_m3 rfl ?_
            refine R_iret C CR (Nat.zero_le _) (Nat.zero_le _) dX10_judge_116 ?_
            exact ⟨rfl, rfl, W⟩
        · rw [if_pos c4] at CR
          refine R_al0 (n := 82) C dX10_judge_81 rfl ?_
          refine M_getR (n := 85) C fl_X10_34 dX10_judge_82 rfl rfl rfl ?_
          refine M_getI (n := 88) C fl_X10_143 dX10_judge_85 rfl rfl E1.2.2.2.2.2.2 rfl ?_
          refine R_if_neN (tgt := 96) C dX10_judge_88 rfl rfl (by omega) (fun c5 => ?_) (fun c5 => ?_)
          · rw [if_neg c5] at CR
            refine R_al0 (n := 97) C dX10_judge_96 rfl ?_
            refine M_getR (n := 100) C fl_X10_34 dX10_judge_97 rfl rfl rfl ?_
            refine M_getI (n := 103) C fl_X10_143 dX10_judge_100 rfl rfl E1.2.2.2.2.2.2 rfl ?_
            refine R_iret C CR (Nat.zero_le _) (Nat.zero_le _) dX10_judge_103 ?_
            exact ⟨rfl, rfl, W⟩
          · rw [if_pos c5] at CR
            refine R_bp (n := 93) C dX10_judge_91 cb_m6 rfl ?_
            refine R_goto (n := 103) C dX10_judge_93 rfl ?_
            refine R_iret C CR (Nat.zero_le _) (Nat.zero_le _) dX10_judge_103 ?_
            exact ⟨rfl, rfl, W⟩
      · rw [if_pos c3] at CR
        refine R_al0 (n := 54) C dX10_judge_53 rfl ?_
        refine M_getR (n := 57) C fl_X10_34 dX10_judge_54 rfl rfl rfl ?_
        refine M_getI (n := 60) C fl_X10_143 dX10_judge_57 rfl rfl E1.2.2.2.2.2.2 rfl ?_
        refine R_if_neN (tgt := 68) C dX10_judge_60 rfl rfl (by omega) (fun c5 => ?_) (fun c5 => ?_)
        · rw [if_neg c5] at CR
          refine R_al0 (n := 69) C dX10_judge_68 rfl ?_
          refine M_getR (n := 72) C fl_X10_34 dX10_judge_69 rfl rfl rfl ?_
          refine M_getI (n := 75) C fl_X10_146 dX10_judge_72 rfl rfl E1.2.2.2.2.2.1 rfl ?_
          refine R_iret C CR (Nat.zero_le _) (Nat.zero_le _) dX10_judge_75 ?_
          exact ⟨rfl, rfl, W⟩
        · rw [if_pos c5] at CR
          refine R_bp (n := 65) C dX10_judge_63 cb_m6 rfl ?_
          refine R_goto (n := 75) C dX10_judge_65 rfl ?_
          refine R_iret C CR (Nat.zero_le _) (Nat.zero_le _) dX10_judge_75 ?_
          exact ⟨rfl, rfl, W⟩
    · rw [evz_eq c60] at c2
      have ok : okE G = false := decide_eq_false c2
      refine R_bp (n := 33) C dX10_judge_31 cb_m5 rfl ?_
      refine R_iret C CR (Nat.zero_le _) (Nat.zero_le _) dX10_judge_33 ?_
      exact ⟨by rw [aJudge, c1, if_pos rfl, ok]; rfl, rfl, R, FrC.rf⟩
  · refine R_bp (n := 11) C dX10_judge_9 cb_m2 rfl ?_
    refine R_iret C CR (Nat.zero_le _) (Nat.zero_le _) dX10_judge_11 ?_
    exact ⟨by rw [aJudge, c1]; rfl, rfl, R, FrC.rf⟩
set_option maxRecDepth 20000 in
set_option maxHeartbeats 4000000 in
theorem p_behind (l : Launch) (D : va_G) (cA : Nat → ClassId) (r : Nat → Nat) {h : Hp} {G : GS} (R : RCl G h) (I : InvG G) (hu v : Int32) : Cn l D cA yX10_behind cX10_behind 4 (some .int) 5 0 0 [.ref (r 0), .int hu, .int v] (LY r) h (pG (some (.int (aBehind G hu v))) (LY r) (fun h' => RCl G h' ∧ FrC h h')) := by
  refine Cn.of (lv := [some (.ref (r 0)), some (.int hu), some (.int v), none]) (by decide +kernel) (Nat.le_of_ble_eq_true rfl) rfl (fun X hnm C CR => ?_)
  have n5 := I.1.n5
  refine R_al0 (n := 1) C dX10_behind_0 rfl ?_
  refine M_getR (n := 4) C fl_X10_12 dX10_behind_1 rfl rfl rfl ?_
  refine R_il1 (n := 5) C dX10_behind_4 rfl ?_
  refine M_callV (n := 8) C (c_hasHut _ _ _ r R.1 I.1 hu) mw_X9_hasHut ml_X10_88 iv_X9_hasHut dX10_behind_5 rfl rfl rfl rfl (Nat.le_of_ble_eq_true rfl) ⟨Nat.le_of_ble_eq_true rfl, Nat.le_of_ble_eq_true rfl⟩ ⟨Nat.le_refl _, Nat.le_refl _⟩ rfl (pEs ?_)
  refine R_if_neB (tgt := 13) C dX10_behind_8 rfl rfl (fun c1 => ?_) (fun c1 => ?_)
  · obtain ⟨k, hk, rfl, hk2⟩ := hasH_of I.1 c1
    have c1' : hasH (gS G) (nI k) = true := c1
    rw [aBehind, c1', if_pos rfl] at CR
    refine R_il2 (n := 14) C dX10_behind_13 rfl ?_
    refine R_ic (n := 15) C dX10_behind_14 ci_0 rfl ?_
    refine R_ic (n := 16) C dX10_behind_15 ci_1 rfl ?_
    refine R_callS (n := 19) C (c_isWithin _ _ _ r _ _ _) mw_X10_isWithin ml_X10_92 sv_X10_isWithin dX10_behind_16 rfl rfl (Nat.le_of_ble_eq_true rfl) ⟨Nat.le_of_ble_eq_true rfl, Nat.le_of_ble_eq_true rfl⟩ ⟨Nat.le_refl _, Nat.le_refl _⟩ rfl (pEs ?_)
    refine R_if_neB (tgt := 25) C dX10_behind_19 rfl rfl (fun c2 => ?_) (fun c2 => ?_)
    · obtain ⟨x, _, h2, rfl⟩ := win_of (by decide) (by decide) c2
      have xc : cl (nI x) = x := nI_clamp (by omega)
      rw [c2, if_pos rfl, xc, hk2] at CR
      refine R_al0 (n := 26) C dX10_behind_25 rfl ?_
      refine M_callV (n := 29) C (c_playWhole _ _ _ r R I) mw_X10_playWhole ml_X10_155 iv_X10_playWhole dX10_behind_26 rfl rfl rfl rfl (Nat.le_of_ble_eq_true rfl) ⟨Nat.le_of_ble_eq_true rfl, Nat.le_of_ble_eq_true rfl⟩ ⟨Nat.le_refl _, Nat.le_refl _⟩ rfl (pGs (fun h1 q1 => ?_))
      have W : RCl G h1 ∧ FrC h h1 := ⟨R.s q1.1.s, q1.1.s.c⟩
      cases ok : okE G with
      | false =>
        rw [ok] at CR
        rw [if_neg (by decide)]
        refine R_is3 (n := 30) C dX10_behind_29 rfl (Nat.le_of_ble_eq_true rfl) rfl ?_
        refine R_il3 (n := 31) C dX10_behind_30 rfl ?_
        refine R_if_eq (tgt := 36) C dX10_behind_31 rfl rfl (fun c3 => ?_) (fun c3 => ?_)
        · exact absurd c3 (by decide)
        · refine R_il3 (n := 35) C dX10_behind_34 rfl ?_
          refine R_iret C CR (Nat.zero_le _) (Nat.zero_le _) dX10_behind_35 ?_
          exact ⟨rfl, rfl, W⟩
      | true =>
        rw [ok, if_pos rfl] at CR
        rw [if_pos rfl]
        by_cases c4 : (evG G).2.2 = 0
        · rw [if_pos c4] at CR ⊢
          refine R_is3 (n := 30) C dX10_behind_29 rfl (Nat.le_of_ble_eq_true rfl) rfl ?_
          refine R_il3 (n := 31) C dX10_behind_30 rfl ?_
          refine R_if_eqN (tgt := 36) C dX10_behind_31 rfl rfl (by omega) (fun c3 => ?_) (fun c3 => ?_)
          · have E1 := q1.2 ok
            refine R_il2 (n := 37) C dX10_behind_36 rfl ?_
            refine R_if_neN (tgt := 52) C dX10_behind_37 rfl rfl (by omega) (fun c5 => ?_) (fun c5 => ?_)
            · rw [if_neg c5] at CR
              refine R_al0 (n := 53) C dX10_behind_52 rfl ?_
              refine M_getR (n := 56) C fl_X10_34 dX10_behind_53 rfl rfl rfl ?_
              refine M_getR (n := 59) C fl_X10_161 dX10_behind_56 rfl rfl rfl ?_
              refine R_il1 (n := 60) C dX10_behind_59 rfl ?_
              refine M_iald (n := 61) C dX10_behind_60 rfl (by omega) (E1.2.1 k (by omega)) rfl ?_
              refine R_iret C CR (Nat.zero_le _) (Nat.zero_le _) dX10_behind_61 ?_
              exact ⟨rfl, rfl, W⟩
            · rw [if_pos c5] at CR
              refine R_al0 (n := 41) C dX10_behind_40 rfl ?_
              refine M_getR (n := 44) C fl_X10_34 dX10_behind_41 rfl rfl rfl ?_
              refine M_getR (n := 47) C fl_X10_158 dX10_behind_44 rfl rfl rfl ?_
              refine R_il1 (n := 48) C dX10_behind_47 rfl ?_
              refine M_iald (n := 49) C dX10_behind_48 rfl (by omega) (E1.1 k (by omega)) rfl ?_
              refine R_goto (n := 61) C dX10_behind_49 rfl ?_
              refine R_iret C CR (Nat.zero_le _) (Nat.zero_le _) dX10_behind_61 ?_
              exact ⟨rfl, rfl, W⟩
          · omega
        · rw [if_neg c4] at CR ⊢
          refine R_is3 (n := 30) C dX10_behind_29 rfl (Nat.le_of_ble_eq_true rfl) rfl ?_
          refine R_il3 (n := 31) C dX10_behind_30 rfl ?_
          refine R_if_eq (tgt := 36) C dX10_behind_31 rfl rfl (fun c3 => ?_) (fun c3 => ?_)
          · exact absurd c3 (by decide)
          · refine R_il3 (n := 35) C dX10_behind_34 rfl ?_
            refine R_iret C CR (Nat.zero_le _) (Nat.zero_le _) dX10_behind_35 ?_
            exact ⟨rfl, rfl, W⟩
    · refine R_bp (n := 24) C dX10_behind_22 cb_m2 rfl ?_
      refine R_iret C CR (Nat.zero_le _) (Nat.zero_le _) dX10_behind_24 ?_
      exact ⟨by rw [c2]; rfl, rfl, R, FrC.rf⟩
  · refine R_ic (n := 12) C dX10_behind_11 ci_m1 rfl ?_
    refine R_iret C CR (Nat.zero_le _) (Nat.zero_le _) dX10_behind_12 ?_
    have c1' : hasH (gS G) hu = false := c1
    exact ⟨by rw [aBehind, c1']; rfl, rfl, R, FrC.rf⟩
set_option maxRecDepth 20000 in
set_option maxHeartbeats 4000000 in
theorem p_done (l : Launch) (D : va_G) (cA : Nat → ClassId) (r : Nat → Nat) {h : Hp} {G : GS} (R : RCl G h) (I : InvG G) : Cn l D cA yX10_done cX10_done 2 (some .int) 5 0 0 [.ref (r 0)] (LY r) h (pG (some (.int (aDone G))) (LY r) (fun h' => RCl (nDone G) h' ∧ FrC h h')) := by
  refine Cn.of (lv := [some (.ref (r 0)), none]) (by decide +kernel) (Nat.le_of_ble_eq_true rfl) rfl (fun X hnm C CR => ?_)
  rw [aDone, nDone] at CR
  refine R_al0 (n := 1) C dX10_done_0 rfl ?_
  refine M_callV (n := 4) C (c_playWhole _ _ _ r R I) mw_X10_playWhole ml_X10_155 iv_X10_playWhole dX10_done_1 rfl rfl rfl rfl (Nat.le_of_ble_eq_true rfl) ⟨Nat.le_of_ble_eq_true rfl, Nat.le_of_ble_eq_true rfl⟩ ⟨Nat.le_refl _, Nat.le_refl _⟩ rfl (pGs (fun h1 q1 => ?_))
  have W : RCl G h1 ∧ FrC h h1 := ⟨R.s q1.1.s, q1.1.s.c⟩
  cases ok : okE G with
  | false =>
    rw [ok] at CR
    rw [if_neg (by decide)]
    refine R_is1 (n := 5) C dX10_done_4 rfl (Nat.le_of_ble_eq_true rfl) rfl ?_
    refine R_il1 (n := 6) C dX10_done_5 rfl ?_
    refine R_if_eq (tgt := 11) C dX10_done_6 rfl rfl (fun c3 => ?_) (fun c3 => ?_)
    · exact absurd c3 (by decide)
    · refine R_il1 (n := 10) C dX10_done_9 rfl ?_
      refine R_iret C CR (Nat.zero_le _) (Nat.zero_le _) dX10_done_10 ?_
      exact ⟨rfl, rfl, W⟩
  | true =>
    rw [ok, if_pos rfl] at CR
    rw [if_pos rfl]
    by_cases c4 : (evG G).2.2 = 0
    · rw [if_pos c4, decide_eq_true c4, Bool.and_self, if_pos rfl] at CR
      rw [if_pos c4]
      refine R_is1 (n := 5) C dX10_done_4 rfl (Nat.le_of_ble_eq_true rfl) rfl ?_
      refine R_il1 (n := 6) C dX10_done_5 rfl ?_
      refine R_if_eqN (tgt := 11) C dX10_done_6 rfl rfl (by omega) (fun c3 => ?_) (fun c3 => ?_)
      · have E1 := q1.2 ok
        refine R_al0 (n := 12) C dX10_done_11 rfl ?_
        refine M_getR (n := 15) C fl_X10_34 dX10_done_12 rfl rfl rfl ?_
        refine R_al0 (n := 16) C dX10_done_15 rfl ?_
        refine M_getR (n := 19) C fl_X10_12 dX10_done_16 rfl rfl rfl ?_
        refine M_callV (n := 22) C (c_leaveTo _ _ _ r E1) mw_X2_leaveTo ml_X10_164 iv_X2_leaveTo dX10_done_19 rfl rfl rfl rfl (Nat.le_of_ble_eq_true rfl) ⟨Nat.le_of_ble_eq_true rfl, Nat.le_of_ble_eq_true rfl⟩ ⟨Nat.le_refl _, Nat.le_refl _⟩ rfl (pGv (fun h2 q2 => ?_))
        have R2 : RP (gP G) h2 := ⟨by rw [q2.2.2 13 (by decide) (by decide)]; exact W.1.2.1.1, fun k hk => by rw [q2.2.2 14 (by decide) (by decide)]; exact W.1.2.1.2 k hk⟩
        have e15 : h2 15 3 = nI (evG G).2.1 := by rw [q2.2.2 15 (by decide) (by decide)]; exact E1.2.2.2.2.2.1
        refine R_al0 (n := 23) C dX10_done_22 rfl ?_
        refine M_getR (n := 26) C fl_X10_27 dX10_done_23 rfl rfl rfl ?_
        refine M_callV (n := 29) C (c_padClear _ _ _ r R2) mw_X4_clear ml_X10_111 iv_X4_clear dX10_done_26 rfl rfl rfl rfl (Nat.le_of_ble_eq_true rfl) ⟨Nat.le_of_ble_eq_true rfl, Nat.le_of_ble_eq_true rfl⟩ ⟨Nat.le_refl _, Nat.le_refl _⟩ rfl (pEs ?_)
        refine R_pop (n := 30) C dX10_done_29 rfl rfl ?_
        refine R_al0 (n := 31) C dX10_done_30 rfl ?_
        refine M_getR (n := 34) C fl_X10_34 dX10_done_31 rfl rfl rfl ?_
        refine M_getI (n := 37) C fl_X10_146 dX10_done_34 rfl rfl (up2_get (by decide) e15) rfl ?_
        refine R_iret C CR (Nat.zero_le _) (Nat.zero_le _) dX10_done_37 ?_
        refine ⟨rfl, rfl, ?_, ?_⟩
        · have Rw : RW 1 (dnz (gS G) (evG G).1) h2 := by
            refine ⟨by rw [q2.2.2 1 (by decide) (by decide)]; exact W.1.1.1, by rw [q2.2.2 1 (by decide) (by decide)]; exact W.1.1.2.1, by rw [q2.2.2 1 (by decide) (by decide)]; exact W.1.1.2.2.1, fun j k hj hk => ?_⟩
            by_cases j0 : j = 0
            · subst j0
              have hk5 : k < 5 := hk
              rw [show 1 + 1 + 0 = 2 from rfl, q2.1 k hk5]
              simp [dnz, sA, hk5]
            · by_cases j1 : j = 1
              · subst j1
                have hk5 : k < 5 := hk
                rw [show 1 + 1 + 1 = 3 from rfl, q2.2.1 k hk5]
                simp [dnz, sA, hk5]
              · rw [q2.2.2 (1 + 1 + j) (by omega) (by omega)]
                have := W.1.1.2.2.2 j k hj hk
                simpa [dnz, sA, j0, j1] using this
          have R3 : RCl (mkS G (dnz (gS G) (evG G).1)) h2 := W.1.wood Rw (fun a ha => q2.2.2 a (by omega) (by omega))
          refine R3.pad ⟨up2_same, fun k hk => ?_⟩ (fun a b1 b2 => up2_row b1)
          rw [up2_row (by decide)]
          exact R2.2 k hk
        · intro a ha
          rw [up2_row (by omega), q2.2.2 a (by omega) (by omega)]
          exact W.2 a ha
      · omega
    · rw [if_neg c4, decide_eq_false c4] at CR
      rw [if_neg c4]
      refine R_is1 (n := 5) C dX10_done_4 rfl (Nat.le_of_ble_eq_true rfl) rfl ?_
      refine R_il1 (n := 6) C dX10_done_5 rfl ?_
      refine R_if_eq (tgt := 11) C dX10_done_6 rfl rfl (fun c3 => ?_) (fun c3 => ?_)
      · exact absurd c3 (by decide)
      · refine R_il1 (n := 10) C dX10_done_9 rfl ?_
        refine R_iret C CR (Nat.zero_le _) (Nat.zero_le _) dX10_done_10 ?_
        exact ⟨rfl, rfl, W⟩
