def ffz (B : BS) (p : Nat → Bool) : Int32 := fwI ((B.1.find? p).map (fun e => B.2.1 e - 1))
def aDanced (G : GS) (v : Int32) : Int32 := if win v (nI 1) (nI 2) then ffz (bfG G) (fun x => decide (cl v ≤ prL x (lnZ (gS G) (sN (gS G))))) else -2
def aMajority (G : GS) (v : Int32) : Int32 := if win v (nI 0) (nI 3) then ffz (bfG G) (fun x => decide (sN (gS G) < 2 * vtz (sN (gS G)) x (cl v))) else -2
theorem prL_len {l9 : Nat} {ln : List (Nat × Nat × Nat)} : prL l9 ln ≤ ln.length := List.length_filter_le _ _
set_option maxRecDepth 20000 in
set_option maxHeartbeats 4000000 in
theorem p_danced (l : Launch) (D : va_G) (cA : Nat → ClassId) (r : Nat → Nat) {h : Hp} {G : GS} (R : RCl G h) (I : InvG G) (v : Int32) : Cn l D cA yX10_danced cX10_danced 3 (some .int) 4 0 0 [.ref (r 0), .int v] (LY r) h (pG (some (.int (aDanced G v))) (LY r) (fun h' => RCl G h' ∧ FrC h h')) := by
  refine Cn.of (lv := [some (.ref (r 0)), some (.int v), none]) (by decide +kernel) (Nat.le_of_ble_eq_true rfl) rfl (fun X hnm C CR => ?_)
  have p10 := p2_10 I.1.n5
  refine R_il1 (n := 1) C dX10_danced_0 rfl ?_
  refine R_ic (n := 2) C dX10_danced_1 ci_1 rfl ?_
  refine R_ic (n := 3) C dX10_danced_2 ci_2 rfl ?_
  refine R_callS (n := 6) C (c_isWithin _ _ _ r _ _ _) mw_X10_isWithin ml_X10_92 sv_X10_isWithin dX10_danced_3 rfl rfl (Nat.le_of_ble_eq_true rfl) ⟨Nat.le_of_ble_eq_true rfl, Nat.le_of_ble_eq_true rfl⟩ ⟨Nat.le_refl _, Nat.le_refl _⟩ rfl (pEs ?_)
  refine R_if_neB (tgt := 12) C dX10_danced_6 rfl rfl (fun c1 => ?_) (fun c1 => ?_)
  · obtain ⟨x, x1, x2, rfl⟩ := win_of (by decide) (by decide) c1
    have xc : cl (nI x) = x := nI_clamp (by omega)
    rw [aDanced, if_pos c1, xc] at CR
    have IB : BI (gS G) (bfG G) := bfz_ok I.1
    have l25 := lnZ_25 I.1
    have lok := lnZ_ok (σ := gS G) _ (Nat.le_refl _)
    obtain ⟨ln, hln⟩ : ∃ ln, lnZ (gS G) (sN (gS G)) = ln := ⟨_, rfl⟩
    rw [hln] at CR l25 lok
    obtain ⟨Z, hZ⟩ : ∃ Z, (bfG G).1.find? (fun y => decide (x ≤ prL y ln)) = Z := ⟨_, rfl⟩
    rw [ffz, hZ] at CR
    refine R_al0 (n := 13) C dX10_danced_12 rfl ?_
    refine M_getR (n := 16) C fl_X10_69 dX10_danced_13 rfl rfl rfl ?_
    refine R_al0 (n := 17) C dX10_danced_16 rfl ?_
    refine M_getR (n := 20) C fl_X10_12 dX10_danced_17 rfl rfl rfl ?_
    refine M_callV (n := 23) C (c_survey _ _ _ r R.1 I.1) mw_X1_survey ml_X10_231 iv_X1_survey dX10_danced_20 rfl rfl rfl rfl (Nat.le_of_ble_eq_true rfl) ⟨Nat.le_of_ble_eq_true rfl, Nat.le_of_ble_eq_true rfl⟩ ⟨Nat.le_refl _, Nat.le_refl _⟩ rfl (pGv (fun h1 q1 => ?_))
    have W1 : RCl G h1 := R.s q1.2
    refine R_al0 (n := 24) C dX10_danced_23 rfl ?_
    refine M_getR (n := 27) C fl_X10_41 dX10_danced_24 rfl rfl rfl ?_
    refine R_al0 (n := 28) C dX10_danced_27 rfl ?_
    refine M_getR (n := 31) C fl_X10_12 dX10_danced_28 rfl rfl rfl ?_
    refine R_al0 (n := 32) C dX10_danced_31 rfl ?_
    refine M_getR (n := 35) C fl_X10_12 dX10_danced_32 rfl rfl rfl ?_
    refine M_getI (n := 38) C fl_X10_128 dX10_danced_35 rfl rfl (wKn W1.1) rfl ?_
    refine M_callV (n := 41) C (c_explore _ _ _ r W1.1 I.1 I.1.kn) mw_X5_explore ml_X10_172 iv_X5_explore dX10_danced_38 rfl rfl rfl rfl (Nat.le_of_ble_eq_true rfl) ⟨Nat.le_of_ble_eq_true rfl, Nat.le_of_ble_eq_true rfl⟩ ⟨Nat.le_refl _, Nat.le_refl _⟩ rfl (pGv (fun h2 q2 => ?_))
    have W2 : RCl G h2 ∧ FrC h h2 := ⟨W1.s q2.2.s, q1.2.c.tr q2.2.s.c⟩
    have E2 : RB (bfG G) h2 := q2.1
    have L2 : RL_ ln h2 := by
      have L1 := q1.1
      rw [hln] at L1
      unfold RL_
      rw [q2.2 47 (by decide), q2.2 48 (by decide), q2.2 49 (by decide), q2.2 50 (by decide)]
      exact L1
    have len := IB.len
    have loop : ∀ (m i : Nat), (bfG G).1.length < i + m → i ≤ (bfG G).1.length → Z = ((bfG G).1.drop i).find? (fun y => decide (x ≤ prL y ln)) → Rn X 0 0 43 [some (.ref (r 0)), some (.int (nI x)), some (.int (nI i))] [] (LY r) h2 := by
      intro m
      induction m with
      | zero => intro i a1 a2; omega
      | succ m ih =>
        intro i a1 a2 hz
        refine R_il2 (n := 44) C dX10_danced_43 rfl ?_
        refine R_al0 (n := 45) C dX10_danced_44 rfl ?_
        refine M_getR (n := 48) C fl_X10_41 dX10_danced_45 rfl rfl rfl ?_
        refine M_getI (n := 51) C fl_X10_176 dX10_danced_48 rfl rfl E2.1 rfl ?_
        refine R_icmp_geN (tgt := 98) C dX10_danced_51 rfl rfl (by omega) (by omega) (fun c2 => ?_) (fun c2 => ?_)
        · rw [List.drop_eq_nil_of_le (by omega)] at hz
          refine R_bp (n := 100) C dX10_danced_98 cb_m6 rfl ?_
          refine R_iret C CR (Nat.zero_le _) (Nat.zero_le _) dX10_danced_100 ?_
          exact ⟨by rw [hz]; rfl, rfl, W2⟩
        · have e : (bfG G).1[i]? = some (bfG G).1[i] := List.getElem?_eq_getElem c2
          obtain ⟨y, hy⟩ : ∃ y, (bfG G).1[i] = y := ⟨_, rfl⟩
          rw [List.drop_eq_getElem_cons c2, hy, List.find?_cons] at hz
          rw [hy] at e
          have e22 := E2.2.1 i y e
          obtain ⟨y1, y2⟩ := IB.1 i y e
          have y10 : y < 1024 := by omega
          have ee : h2 23 y = nI ((bfG G).2.1 y - 1) := by rw [E2.2.2.1 y y10, pvI_pos y2]
          have pl := prL_len (l9 := y) (ln := ln)
          refine R_al0 (n := 55) C dX10_danced_54 rfl ?_
          refine M_getR (n := 58) C fl_X10_69 dX10_danced_55 rfl rfl rfl ?_
          refine R_al0 (n := 59) C dX10_danced_58 rfl ?_
          refine M_getR (n := 62) C fl_X10_41 dX10_danced_59 rfl rfl rfl ?_
          refine M_getR (n := 65) C fl_X10_240 dX10_danced_62 rfl rfl rfl ?_
          refine R_il2 (n := 66) C dX10_danced_65 rfl ?_
          refine M_iald (n := 67) C dX10_danced_66 rfl (by omega) e22 rfl ?_
          refine M_callV (n := 70) C (c_pairsIn _ _ _ r L2 l25 lok I.1.n5 y10) mw_X1_pairsIn ml_X10_237 iv_X1_pairsIn dX10_danced_67 rfl rfl rfl rfl (Nat.le_of_ble_eq_true rfl) ⟨Nat.le_of_ble_eq_true rfl, Nat.le_of_ble_eq_true rfl⟩ ⟨Nat.le_refl _, Nat.le_refl _⟩ rfl (pEs ?_)
          refine R_il1 (n := 71) C dX10_danced_70 rfl ?_
          refine R_icmp_ltN (tgt := 92) C dX10_danced_71 rfl rfl (by omega) (by omega) (fun c3 => ?_) (fun c3 => ?_)
          · rw [decide_eq_false (by omega)] at hz
            refine R_inc2 (n := 95) C dX10_danced_92 rfl (Nat.le_of_ble_eq_true rfl) (inc_1 _) rfl ?_
            refine R_goto (n := 43) C dX10_danced_95 rfl ?_
            exact ih (i + 1) (by omega) (by omega) hz
          · rw [decide_eq_true (by omega)] at hz
            refine R_al0 (n := 75) C dX10_danced_74 rfl ?_
            refine M_getR (n := 78) C fl_X10_41 dX10_danced_75 rfl rfl rfl ?_
            refine M_getR (n := 81) C fl_X10_182 dX10_danced_78 rfl rfl rfl ?_
            refine R_al0 (n := 82) C dX10_danced_81 rfl ?_
            refine M_getR (n := 85) C fl_X10_41 dX10_danced_82 rfl rfl rfl ?_
            refine M_getR (n := 88) C fl_X10_240 dX10_danced_85 rfl rfl rfl ?_
            refine R_il2 (n := 89) C dX10_danced_88 rfl ?_
            refine M_iald (n := 90) C dX10_danced_89 rfl (by omega) e22 rfl ?_
            refine M_iald (n := 91) C dX10_danced_90 rfl y10 ee rfl ?_
            refine R_iret C CR (Nat.zero_le _) (Nat.zero_le _) dX10_danced_91 ?_
            exact ⟨by rw [hz]; rfl, rfl, W2⟩
    refine R_ic (n := 42) C dX10_danced_41 ci_0 rfl ?_
    refine R_is2 (n := 43) C dX10_danced_42 rfl (Nat.le_of_ble_eq_true rfl) rfl ?_
    exact loop ((bfG G).1.length + 1) 0 (by omega) (by omega) hZ.symm
  · refine R_bp (n := 11) C dX10_danced_9 cb_m2 rfl ?_
    refine R_iret C CR (Nat.zero_le _) (Nat.zero_le _) dX10_danced_11 ?_
    refine ⟨?_, rfl, R, FrC.rf⟩
    rw [aDanced, if_neg (by rw [c1]; decide)]
theorem vtz_le {n l w : Nat} : vtz n l w ≤ n := cnz_le
set_option maxRecDepth 20000 in
set_option maxHeartbeats 4000000 in
theorem p_majority (l : Launch) (D : va_G) (cA : Nat → ClassId) (r : Nat → Nat) {h : Hp} {G : GS} (R : RCl G h) (I : InvG G) (v : Int32) : Cn l D cA yX10_majority cX10_majority 3 (some .int) 4 0 0 [.ref (r 0), .int v] (LY r) h (pG (some (.int (aMajority G v))) (LY r) (fun h' => RCl G h' ∧ FrC h h')) := by
  refine Cn.of (lv := [some (.ref (r 0)), some (.int v), none]) (by decide +kernel) (Nat.le_of_ble_eq_true rfl) rfl (fun X hnm C CR => ?_)
  have p10 := p2_10 I.1.n5
  have n5 := I.1.n5
  refine R_il1 (n := 1) C dX10_majority_0 rfl ?_
  refine R_ic (n := 2) C dX10_majority_1 ci_0 rfl ?_
  refine R_ic (n := 3) C dX10_majority_2 ci_3 rfl ?_
  refine R_callS (n := 6) C (c_isWithin _ _ _ r _ _ _) mw_X10_isWithin ml_X10_92 sv_X10_isWithin dX10_majority_3 rfl rfl (Nat.le_of_ble_eq_true rfl) ⟨Nat.le_of_ble_eq_true rfl, Nat.le_of_ble_eq_true rfl⟩ ⟨Nat.le_refl _, Nat.le_refl _⟩ rfl (pEs ?_)
  refine R_if_neB (tgt := 12) C dX10_majority_6 rfl rfl (fun c1 => ?_) (fun c1 => ?_)
  · obtain ⟨x, x1, x2, rfl⟩ := win_of (by decide) (by decide) c1
    have xc : cl (nI x) = x := nI_clamp (by omega)
    rw [aMajority, if_pos c1, xc] at CR
    have IB : BI (gS G) (bfG G) := bfz_ok I.1
    obtain ⟨Z, hZ⟩ : ∃ Z, (bfG G).1.find? (fun y => decide (sN (gS G) < 2 * vtz (sN (gS G)) y x)) = Z := ⟨_, rfl⟩
    rw [ffz, hZ] at CR
    refine R_al0 (n := 13) C dX10_majority_12 rfl ?_
    refine M_getR (n := 16) C fl_X10_41 dX10_majority_13 rfl rfl rfl ?_
    refine R_al0 (n := 17) C dX10_majority_16 rfl ?_
    refine M_getR (n := 20) C fl_X10_12 dX10_majority_17 rfl rfl rfl ?_
    refine R_al0 (n := 21) C dX10_majority_20 rfl ?_
    refine M_getR (n := 24) C fl_X10_12 dX10_majority_21 rfl rfl rfl ?_
    refine M_getI (n := 27) C fl_X10_128 dX10_majority_24 rfl rfl (wKn R.1) rfl ?_
    refine M_callV (n := 30) C (c_explore _ _ _ r R.1 I.1 I.1.kn) mw_X5_explore ml_X10_172 iv_X5_explore dX10_majority_27 rfl rfl rfl rfl (Nat.le_of_ble_eq_true rfl) ⟨Nat.le_of_ble_eq_true rfl, Nat.le_of_ble_eq_true rfl⟩ ⟨Nat.le_refl _, Nat.le_refl _⟩ rfl (pGv (fun h2 q2 => ?_))
    have W2 : RCl G h2 ∧ FrC h h2 := ⟨R.s q2.2.s, q2.2.s.c⟩
    have E2 : RB (bfG G) h2 := q2.1
    have len := IB.len
    have loop : ∀ (m i : Nat), (bfG G).1.length < i + m → i ≤ (bfG G).1.length → Z = ((bfG G).1.drop i).find? (fun y => decide (sN (gS G) < 2 * vtz (sN (gS G)) y x)) → Rn X 0 0 32 [some (.ref (r 0)), some (.int (nI x)), some (.int (nI i))] [] (LY r) h2 := by
      intro m
      induction m with
      | zero => intro i a1 a2; omega
      | succ m ih =>
        intro i a1 a2 hz
        refine R_il2 (n := 33) C dX10_majority_32 rfl ?_
        refine R_al0 (n := 34) C dX10_majority_33 rfl ?_
        refine M_getR (n := 37) C fl_X10_41 dX10_majority_34 rfl rfl rfl ?_
        refine M_getI (n := 40) C fl_X10_176 dX10_majority_37 rfl rfl E2.1 rfl ?_
        refine R_icmp_geN (tgt := 93) C dX10_majority_40 rfl rfl (by omega) (by omega) (fun c2 => ?_) (fun c2 => ?_)
        · rw [List.drop_eq_nil_of_le (by omega)] at hz
          refine R_bp (n := 95) C dX10_majority_93 cb_m6 rfl ?_
          refine R_iret C CR (Nat.zero_le _) (Nat.zero_le _) dX10_majority_95 ?_
          exact ⟨by rw [hz]; rfl, rfl, W2⟩
        · have e : (bfG G).1[i]? = some (bfG G).1[i] := List.getElem?_eq_getElem c2
          obtain ⟨y, hy⟩ : ∃ y, (bfG G).1[i] = y := ⟨_, rfl⟩
          rw [List.drop_eq_getElem_cons c2, hy, List.find?_cons] at hz
          rw [hy] at e
          have e22 := E2.2.1 i y e
          obtain ⟨y1, y2⟩ := IB.1 i y e
          have y10 : y < 1024 := by omega
          have ee : h2 23 y = nI ((bfG G).2.1 y - 1) := by rw [E2.2.2.1 y y10, pvI_pos y2]
          have pl := vtz_le (n := sN (gS G)) (l := y) (w := x)
          refine R_ic (n := 44) C dX10_majority_43 ci_2 rfl ?_
          refine R_al0 (n := 45) C dX10_majority_44 rfl ?_
          refine R_al0 (n := 46) C dX10_majority_45 rfl ?_
          refine M_getR (n := 49) C fl_X10_41 dX10_majority_46 rfl rfl rfl ?_
          refine M_getR (n := 52) C fl_X10_240 dX10_majority_49 rfl rfl rfl ?_
          refine R_il2 (n := 53) C dX10_majority_52 rfl ?_
          refine M_iald (n := 54) C dX10_majority_53 rfl (by omega) e22 rfl ?_
          refine R_il1 (n := 55) C dX10_majority_54 rfl ?_
          refine M_callV (n := 58) C (c_votes _ _ _ r W2.1.1 I.1 y10 (by omega)) mw_X10_votes ml_X10_243 iv_X10_votes dX10_majority_55 rfl rfl rfl rfl (Nat.le_of_ble_eq_true rfl) ⟨Nat.le_of_ble_eq_true rfl, Nat.le_of_ble_eq_true rfl⟩ ⟨Nat.le_refl _, Nat.le_refl _⟩ rfl (pEs ?_)
          refine R_imulN (n := 59) C dX10_majority_58 rfl ?_
          refine R_al0 (n := 60) C dX10_majority_59 rfl ?_
          refine M_getR (n := 63) C fl_X10_12 dX10_majority_60 rfl rfl rfl ?_
          refine M_getI (n := 66) C fl_X10_80 dX10_majority_63 rfl rfl (wN W2.1.1) rfl ?_
          refine R_icmp_leN (tgt := 87) C dX10_majority_66 rfl rfl (by omega) (by omega) (fun c3 => ?_) (fun c3 => ?_)
          · rw [decide_eq_false (by omega)] at hz
            refine R_inc2 (n := 90) C dX10_majority_87 rfl (Nat.le_of_ble_eq_true rfl) (inc_1 _) rfl ?_
            refine R_goto (n := 32) C dX10_majority_90 rfl ?_
            exact ih (i + 1) (by omega) (by omega) hz
          · rw [decide_eq_true (by omega)] at hz
            refine R_al0 (n := 70) C dX10_majority_69 rfl ?_
            refine M_getR (n := 73) C fl_X10_41 dX10_majority_70 rfl rfl rfl ?_
            refine M_getR (n := 76) C fl_X10_182 dX10_majority_73 rfl rfl rfl ?_
            refine R_al0 (n := 77) C dX10_majority_76 rfl ?_
            refine M_getR (n := 80) C fl_X10_41 dX10_majority_77 rfl rfl rfl ?_
            refine M_getR (n := 83) C fl_X10_240 dX10_majority_80 rfl rfl rfl ?_
            refine R_il2 (n := 84) C dX10_majority_83 rfl ?_
            refine M_iald (n := 85) C dX10_majority_84 rfl (by omega) e22 rfl ?_
            refine M_iald (n := 86) C dX10_majority_85 rfl y10 ee rfl ?_
            refine R_iret C CR (Nat.zero_le _) (Nat.zero_le _) dX10_majority_86 ?_
            exact ⟨by rw [hz]; rfl, rfl, W2⟩
    refine R_ic (n := 31) C dX10_majority_30 ci_0 rfl ?_
    refine R_is2 (n := 32) C dX10_majority_31 rfl (Nat.le_of_ble_eq_true rfl) rfl ?_
    exact loop ((bfG G).1.length + 1) 0 (by omega) (by omega) hZ.symm
  · refine R_bp (n := 11) C dX10_majority_9 cb_m2 rfl ?_
    refine R_iret C CR (Nat.zero_le _) (Nat.zero_le _) dX10_majority_11 ?_
    refine ⟨?_, rfl, R, FrC.rf⟩
    rw [aMajority, if_neg (by rw [c1]; decide)]
