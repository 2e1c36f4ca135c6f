def los (s : Nat) : Nat → Int32 → Nat → Option Nat
  | 0, v, lk => if v = 0 then some lk else none
  | j + 1, v, lk => if s.testBit j = true then (if win (v - v / nI 10 * nI 10) (nI 0) (nI 3) = true then los s j (v / nI 10) (lk ||| cl (v - v / nI 10 * nI 10) * 2 ^ (2 * j)) else none) else los s j v lk
theorem los_lt {s : Nat} : ∀ {j : Nat} {v : Int32} {lk b : Nat}, j ≤ 5 → lk < 1024 → los s j v lk = some b → b < 1024
  | 0, v, lk, b, _, hl, h => by
    rw [los] at h
    split at h
    · rw [← Option.some.inj h]; exact hl
    · cases h
  | j + 1, v, lk, b, hj, hl, h => by
    rw [los] at h
    split at h
    · split at h
      · rename_i c
        obtain ⟨d, _, d3, e⟩ := win_of (by decide) (by decide) c
        have ec : cl (v - v / nI 10 * nI 10) = d := by rw [e]; exact nI_clamp (by omega)
        rw [ec] at h
        have b1 : d * 2 ^ (2 * j) < 1024 := Nat.lt_of_le_of_lt (Nat.mul_le_mul d3 (p2_8 (show j ≤ 4 by omega))) (by decide)
        exact los_lt (by omega) (Nat.or_lt_two_pow (n := 10) hl b1) h
      · cases h
    · exact los_lt (by omega) hl h
set_option maxRecDepth 20000 in
set_option maxHeartbeats 4000000 in
theorem c_looksOfSides (l : Launch) (D : va_G) (cA : Nat → ClassId) (r : Nat → Nat) {h : Hp} {σ : WS} (R : RW 1 σ h) (J : Inv σ) {s : Nat} (hs : s < 32) (v : Int32) : Cn l D cA yX10_looksOfSides cX10_looksOfSides 6 (some .int) 1 0 0 [.ref (r 0), .int (nI s), .int v] (LY r) h (pE (some (.int (match los s (sN σ) v 0 with | none => -1 | some b => nI b))) (LY r) h) := by
  refine Cn.of (lv := [some (.ref (r 0)), some (.int (nI s)), some (.int v), none, none, none]) (by decide +kernel) (Nat.le_of_ble_eq_true rfl) rfl (fun X hnm C CR => ?_)
  have n5 := J.n5
  have n1 := J.n1
  obtain ⟨Z, hZ⟩ : ∃ Z, los s (sN σ) v 0 = Z := ⟨_, rfl⟩
  rw [hZ] at CR
  have loop : ∀ (j : Nat) (u : Int32) (lk : Nat), j ≤ 5 → lk < 1024 → Z = los s j u lk → Rn X 0 0 16 [some (.ref (r 0)), some (.int (nI s)), some (.int v), some (.int (nI lk)), some (.int u), some (.int (pvI j))] [] (LY r) h := by
    intro j
    induction j with
    | zero =>
      intro u lk a1 hl hz
      rw [los] at hz
      rw [pvI_0]
      refine R_il5 (n := 18) C dX10_looksOfSides_16 rfl ?_
      refine R_if_lt (tgt := 71) C dX10_looksOfSides_18 rfl rfl (fun c1 => ?_) (fun c1 => ?_)
      · refine R_il4 (n := 73) C dX10_looksOfSides_71 rfl ?_
        refine R_if_ne (tgt := 80) C dX10_looksOfSides_73 rfl rfl (fun c2 => ?_) (fun c2 => ?_)
        · rw [if_neg c2] at hz
          refine R_ic (n := 81) C dX10_looksOfSides_80 ci_m1 rfl ?_
          refine R_iret C CR (Nat.zero_le _) (Nat.zero_le _) dX10_looksOfSides_81 ?_
          exact ⟨by rw [hz], rfl, rfl⟩
        · rw [if_pos c2] at hz
          refine R_il3 (n := 77) C dX10_looksOfSides_76 rfl ?_
          refine R_goto (n := 81) C dX10_looksOfSides_77 rfl ?_
          refine R_iret C CR (Nat.zero_le _) (Nat.zero_le _) dX10_looksOfSides_81 ?_
          exact ⟨by rw [hz], rfl, rfl⟩
      · exact absurd (by decide) c1
    | succ j ih =>
      intro u lk a1 hl hz
      rw [los] at hz
      rw [pvI_s]
      refine R_il5 (n := 18) C dX10_looksOfSides_16 rfl ?_
      refine R_if_ltN C dX10_looksOfSides_18 71 rfl rfl (by omega) ?_
      refine R_il1 (n := 22) C dX10_looksOfSides_21 rfl ?_
      refine R_il5 (n := 24) C dX10_looksOfSides_22 rfl ?_
      refine R_callS (n := 27) C (c_isIn _ _ _ r (by omega) (by omega)) mw_X10_isIn ml_X10_326 sv_X10_isIn dX10_looksOfSides_24 rfl rfl (Nat.le_of_ble_eq_true rfl) ⟨Nat.le_of_ble_eq_true rfl, Nat.le_of_ble_eq_true rfl⟩ ⟨Nat.le_refl _, Nat.le_refl _⟩ rfl (pEs ?_)
      have nx : ∀ (u2 : Int32) (lk2 : Nat), lk2 < 1024 → Z = los s j u2 lk2 → Rn X 0 0 65 [some (.ref (r 0)), some (.int (nI s)), some (.int v), some (.int (nI lk2)), some (.int u2), some (.int (nI j))] [] (LY r) h := by
        intro u2 lk2 hl2 hz2
        refine R_inc5 (n := 68) C dX10_looksOfSides_65 rfl (Nat.le_of_ble_eq_true rfl) (pvI_ok _ (by omega)) rfl ?_
        refine R_goto (n := 16) C dX10_looksOfSides_68 rfl ?_
        exact ih u2 lk2 (by omega) hl2 hz2
      refine R_if_eqB (tgt := 65) C dX10_looksOfSides_27 rfl rfl (fun c2 => ?_) (fun c2 => ?_)
      · rw [if_neg (by rw [c2]; decide)] at hz
        exact nx u lk hl hz
      · rw [if_pos c2] at hz
        refine R_il4 (n := 32) C dX10_looksOfSides_30 rfl ?_
        refine R_bp (n := 34) C dX10_looksOfSides_32 cb_10 rfl ?_
        refine R_irem (n := 35) C dX10_looksOfSides_34 (by decide) rfl ?_
        refine R_ic (n := 36) C dX10_looksOfSides_35 ci_0 rfl ?_
        refine R_ic (n := 37) C dX10_looksOfSides_36 ci_3 rfl ?_
        refine R_callS (n := 40) C (c_isWithin _ _ _ r _ _ _) mw_X10_isWithin ml_X10_92 sv_X10_isWithin dX10_looksOfSides_37 rfl rfl (Nat.le_of_ble_eq_true rfl) ⟨Nat.le_of_ble_eq_true rfl, Nat.le_of_ble_eq_true rfl⟩ ⟨Nat.le_refl _, Nat.le_refl _⟩ rfl (pEs ?_)
        refine R_if_neB (tgt := 45) C dX10_looksOfSides_40 rfl rfl (fun c3 => ?_) (fun c3 => ?_)
        · rw [if_pos c3] at hz
          obtain ⟨d, _, d3, e⟩ := win_of (by decide) (by decide) c3
          have ec : cl (u - u / nI 10 * nI 10) = d := by rw [e]; exact nI_clamp (by omega)
          rw [ec] at hz
          have b1 : d * 2 ^ (2 * j) < 1024 := Nat.lt_of_le_of_lt (Nat.mul_le_mul d3 (p2_8 (show j ≤ 4 by omega))) (by decide)
          refine R_il3 (n := 46) C dX10_looksOfSides_45 rfl ?_
          refine R_il4 (n := 48) C dX10_looksOfSides_46 rfl ?_
          refine R_bp (n := 50) C dX10_looksOfSides_48 cb_10 rfl ?_
          refine R_irem (n := 51) C dX10_looksOfSides_50 (by decide) rfl ?_
          rw [e]
          refine R_ic (n := 52) C dX10_looksOfSides_51 ci_2 rfl ?_
          refine R_il5 (n := 54) C dX10_looksOfSides_52 rfl ?_
          refine R_imulN (n := 55) C dX10_looksOfSides_54 rfl ?_
          refine R_ishlN (n := 56) C dX10_looksOfSides_55 (by omega) (shb (by omega) (by omega)) rfl ?_
          refine R_iorN (n := 57) C dX10_looksOfSides_56 rfl ?_
          refine R_is3 (n := 58) C dX10_looksOfSides_57 rfl (Nat.le_of_ble_eq_true rfl) rfl ?_
          refine R_il4 (n := 60) C dX10_looksOfSides_58 rfl ?_
          refine R_bp (n := 62) C dX10_looksOfSides_60 cb_10 rfl ?_
          refine R_idiv (n := 63) C dX10_looksOfSides_62 (by decide) rfl ?_
          refine R_is4 (n := 65) C dX10_looksOfSides_63 rfl (Nat.le_of_ble_eq_true rfl) rfl ?_
          exact nx _ _ (Nat.or_lt_two_pow (n := 10) hl b1) hz
        · rw [if_neg (by rw [c3]; decide)] at hz
          refine R_ic (n := 44) C dX10_looksOfSides_43 ci_m1 rfl ?_
          refine R_iret C CR (Nat.zero_le _) (Nat.zero_le _) dX10_looksOfSides_44 ?_
          exact ⟨by rw [hz], rfl, rfl⟩
  refine R_ic (n := 1) C dX10_looksOfSides_0 ci_0 rfl ?_
  refine R_is3 (n := 2) C dX10_looksOfSides_1 rfl (Nat.le_of_ble_eq_true rfl) rfl ?_
  refine R_il2 (n := 3) C dX10_looksOfSides_2 rfl ?_
  refine R_is4 (n := 5) C dX10_looksOfSides_3 rfl (Nat.le_of_ble_eq_true rfl) rfl ?_
  refine R_al0 (n := 6) C dX10_looksOfSides_5 rfl ?_
  refine M_getR (n := 9) C fl_X10_12 dX10_looksOfSides_6 rfl rfl rfl ?_
  refine M_getI (n := 12) C fl_X10_80 dX10_looksOfSides_9 rfl rfl (wN R) rfl ?_
  refine R_ic (n := 13) C dX10_looksOfSides_12 ci_1 rfl ?_
  refine R_isubN (n := 14) C dX10_looksOfSides_13 (by omega) rfl ?_
  refine R_is5 (n := 16) C dX10_looksOfSides_14 rfl (Nat.le_of_ble_eq_true rfl) rfl ?_
  rw [show nI (sN σ - 1) = pvI (sN σ) from (pvI_pos (by omega)).symm]
  exact loop (sN σ) v 0 n5 (by omega) hZ.symm
noncomputable def aRound (G : GS) (s v : Int32) : Int32 := if win s (nI 0) (nI (2 ^ sN (gS G) - 1)) then (match los (cl s) (sN (gS G)) v 0 with | none => -2 | some b => roV (gS G) (sKn (gS G)) (cl s) b) else -2
set_option maxRecDepth 20000 in
set_option maxHeartbeats 4000000 in
theorem p_round (l : Launch) (D : va_G) (cA : Nat → ClassId) (r : Nat → Nat) {h : Hp} {G : GS} (R : RCl G h) (I : InvG G) (s v : Int32) : Cn l D cA yX10_round cX10_round 4 (some .int) 4 0 0 [.ref (r 0), .int s, .int v] (LY r) h (pG (some (.int (aRound G s v))) (LY r) (fun h' => RCl G h' ∧ FrC h h')) := by
  refine Cn.of (lv := [some (.ref (r 0)), some (.int s), some (.int v), none]) (by decide +kernel) (Nat.le_of_ble_eq_true rfl) rfl (fun X hnm C CR => ?_)
  have p5 := p2_5 I.1.n5
  have pp := p2_pos (sN (gS G))
  refine R_al0 (n := 1) C dX10_round_0 rfl ?_
  refine M_getR (n := 4) C fl_X10_12 dX10_round_1 rfl rfl rfl ?_
  refine R_il1 (n := 5) C dX10_round_4 rfl ?_
  refine M_callV (n := 8) C (c_hasSet _ _ _ r R.1 I.1 _) mw_X9_hasSet ml_X10_204 iv_X9_hasSet dX10_round_5 rfl rfl rfl rfl (Nat.le_of_ble_eq_true rfl) ⟨Nat.le_of_ble_eq_true rfl, Nat.le_of_ble_eq_true rfl⟩ ⟨Nat.le_refl _, Nat.le_refl _⟩ rfl (pEs ?_)
  refine R_if_neB (tgt := 14) C dX10_round_8 rfl rfl (fun c1 => ?_) (fun c1 => ?_)
  · obtain ⟨x, _, x1, rfl⟩ := win_of (by omega) (by omega) c1
    have xc : cl (nI x) = x := nI_clamp (by omega)
    rw [aRound, if_pos c1, xc] at CR
    refine R_al0 (n := 15) C dX10_round_14 rfl ?_
    refine R_il1 (n := 16) C dX10_round_15 rfl ?_
    refine R_il2 (n := 17) C dX10_round_16 rfl ?_
    refine M_callV (n := 20) C (c_looksOfSides _ _ _ r R.1 I.1 (by omega) v) mw_X10_looksOfSides ml_X10_207 iv_X10_looksOfSides dX10_round_17 rfl rfl rfl rfl (Nat.le_of_ble_eq_true rfl) ⟨Nat.le_of_ble_eq_true rfl, Nat.le_of_ble_eq_true rfl⟩ ⟨Nat.le_refl _, Nat.le_refl _⟩ rfl (pEs ?_)
    cases hf : los x (sN (gS G)) v 0 with
    | none =>
      rw [hf] at CR
      show Rn X _ _ _ _ [.int (-1)] _ _
      refine R_is3 (n := 21) C dX10_round_20 rfl (Nat.le_of_ble_eq_true rfl) rfl ?_
      refine R_il3 (n := 22) C dX10_round_21 rfl ?_
      refine R_if_ge (tgt := 30) C dX10_round_22 rfl rfl (fun c2 => ?_) (fun c2 => ?_)
      · exact absurd c2 (by decide)
      · refine R_bp (n := 27) C dX10_round_25 cb_m2 rfl ?_
        refine R_goto (n := 50) C dX10_round_27 rfl ?_
        refine R_iret C CR (Nat.zero_le _) (Nat.zero_le _) dX10_round_50 ?_
        exact ⟨rfl, rfl, R, FrC.rf⟩
    | some b =>
      rw [hf] at CR
      have b10 := los_lt I.1.n5 (by decide) hf
      show Rn X _ _ _ _ [.int (nI b)] _ _
      refine R_is3 (n := 21) C dX10_round_20 rfl (Nat.le_of_ble_eq_true rfl) rfl ?_
      refine R_il3 (n := 22) C dX10_round_21 rfl ?_
      refine R_if_geN (tgt := 30) C dX10_round_22 rfl rfl (by omega) ?_
      refine R_al0 (n := 31) C dX10_round_30 rfl ?_
      refine M_getR (n := 34) C fl_X10_55 dX10_round_31 rfl rfl rfl ?_
      refine R_al0 (n := 35) C dX10_round_34 rfl ?_
      refine M_getR (n := 38) C fl_X10_12 dX10_round_35 rfl rfl rfl ?_
      refine R_al0 (n := 39) C dX10_round_38 rfl ?_
      refine M_getR (n := 42) C fl_X10_41 dX10_round_39 rfl rfl rfl ?_
      refine M_getR (n := 45) C fl_X10_210 dX10_round_42 rfl rfl rfl ?_
      refine R_il1 (n := 46) C dX10_round_45 rfl ?_
      refine R_il3 (n := 47) C dX10_round_46 rfl ?_
      refine M_callV (n := 50) C (c_fewestMinutes _ _ _ r R.1 I.1 (by omega) b10) mw_X6_fewestMinutes ml_X10_214 iv_X6_fewestMinutes dX10_round_47 rfl rfl rfl rfl (Nat.le_of_ble_eq_true rfl) ⟨Nat.le_of_ble_eq_true rfl, Nat.le_of_ble_eq_true rfl⟩ ⟨Nat.le_refl _, Nat.le_refl _⟩ rfl (pGs (fun h1 q1 => ?_))
      refine R_iret C CR (Nat.zero_le _) (Nat.zero_le _) dX10_round_50 ?_
      exact ⟨rfl, rfl, R.s q1, q1.c⟩
  · refine R_bp (n := 13) C dX10_round_11 cb_m2 rfl ?_
    refine R_iret C CR (Nat.zero_le _) (Nat.zero_le _) dX10_round_13 ?_
    refine ⟨?_, rfl, R, FrC.rf⟩
    rw [aRound, if_neg (by rw [c1]; decide)]
