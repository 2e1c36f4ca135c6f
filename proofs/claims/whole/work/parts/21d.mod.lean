set_option maxRecDepth 20000 in
set_option maxHeartbeats 4000000 in
theorem m_reached (l : Launch) (D : va_G) (cA : Nat → ClassId) (r : Nat → Nat) {h : Hp} {G : GS} (R : RM (gS G) h) (I : InvG G) : Cn l D cA yX11_reached cX11_reached 1 (some .int) 3 0 0 [.ref (r 73)] (LY r) h (pG (some (.int (aReached G))) (LY r) (FrQ h)) := by
  refine Cn.of (lv := [some (.ref (r 73))]) (by decide +kernel) (Nat.le_of_ble_eq_true rfl) rfl (fun X hnm C CR => ?_)
  refine R_al0 (n := 1) C dX11_reached_0 rfl ?_
  refine R_al0 (n := 2) C dX11_reached_1 rfl ?_
  refine M_getI (n := 5) C fl_X11_98 dX11_reached_2 rfl rfl (mKn R) rfl ?_
  refine M_callV (n := 8) C (c_spread _ _ _ r R I.1 I.1.kn) mw_X11_spread ml_X11_217 iv_X11_spread dX11_reached_5 rfl rfl rfl rfl (Nat.le_of_ble_eq_true rfl) ⟨Nat.le_of_ble_eq_true rfl, Nat.le_of_ble_eq_true rfl⟩ ⟨Nat.le_refl _, Nat.le_refl _⟩ rfl (pGv (fun h1 q1 => ?_))
  refine R_al0 (n := 9) C dX11_reached_8 rfl ?_
  refine M_getI (n := 12) C fl_X11_208 dX11_reached_9 rfl rfl q1.1.1 rfl ?_
  refine R_iret C CR (Nat.zero_le _) (Nat.zero_le _) dX11_reached_12 ?_
  exact ⟨rfl, rfl, q1.2⟩
set_option maxRecDepth 20000 in
set_option maxHeartbeats 4000000 in
theorem m_can (l : Launch) (D : va_G) (cA : Nat → ClassId) (r : Nat → Nat) {h : Hp} {G : GS} (R : RM (gS G) h) (I : InvG G) (v : Int32) : Cn l D cA yX11_can cX11_can 2 (some .int) 3 0 0 [.ref (r 73), .int v] (LY r) h (pG (some (.int (aCan G v))) (LY r) (FrQ h)) := by
  refine Cn.of (lv := [some (.ref (r 73)), some (.int v)]) (by decide +kernel) (Nat.le_of_ble_eq_true rfl) rfl (fun X hnm C CR => ?_)
  have p10 := p2_10 I.1.n5
  have pp := p2_pos (2 * sN (gS G))
  refine R_al0 (n := 1) C dX11_can_0 rfl ?_
  refine R_il1 (n := 2) C dX11_can_1 rfl ?_
  refine M_callV (n := 5) C (c_mIsNumber _ _ _ r R I.1 _) mw_X11_isNumber ml_X11_223 iv_X11_isNumber dX11_can_2 rfl rfl rfl rfl (Nat.le_of_ble_eq_true rfl) ⟨Nat.le_of_ble_eq_true rfl, Nat.le_of_ble_eq_true rfl⟩ ⟨Nat.le_refl _, Nat.le_refl _⟩ rfl (pEs ?_)
  refine R_if_neB (tgt := 11) C dX11_can_5 rfl rfl (fun c1 => ?_) (fun c1 => ?_)
  · obtain ⟨x, _, x1, rfl⟩ := win_of (by omega) (by omega) c1
    have xc : cl (nI x) = x := nI_clamp (by omega)
    have x10 : x < 1024 := by omega
    rw [aCan, if_pos c1, xc] at CR
    refine R_al0 (n := 12) C dX11_can_11 rfl ?_
    refine R_al0 (n := 13) C dX11_can_12 rfl ?_
    refine M_getI (n := 16) C fl_X11_98 dX11_can_13 rfl rfl (mKn R) rfl ?_
    refine M_callV (n := 19) C (c_spread _ _ _ r R I.1 I.1.kn) mw_X11_spread ml_X11_217 iv_X11_spread dX11_can_16 rfl rfl rfl rfl (Nat.le_of_ble_eq_true rfl) ⟨Nat.le_of_ble_eq_true rfl, Nat.le_of_ble_eq_true rfl⟩ ⟨Nat.le_refl _, Nat.le_refl _⟩ rfl (pGv (fun h1 q1 => ?_))
    have e23 : h1 88 x = fvI ((bfG G).2.1 x) := q1.1.2.2.1 x x10
    have dl : (bfG G).2.1 x ≤ 1024 := Nat.le_trans ((bfz_ok I.1).2.2.2.1 x) (bfz_ok I.1).len
    refine R_al0 (n := 20) C dX11_can_19 rfl ?_
    refine M_getR (n := 23) C fl_X11_52 dX11_can_20 rfl rfl rfl ?_
    refine R_il1 (n := 24) C dX11_can_23 rfl ?_
    refine M_iald (n := 25) C dX11_can_24 rfl x10 e23 rfl ?_
    by_cases c0 : (bfG G).2.1 x = 0
    · rw [if_pos c0] at CR
      rw [c0, show fvI 0 = -6 from rfl]
      refine R_if_ge (tgt := 32) C dX11_can_25 rfl rfl (fun c2 => ?_) (fun c2 => ?_)
      · exact absurd c2 (by decide)
      · refine R_ic (n := 29) C dX11_can_28 ci_0 rfl ?_
        refine R_goto (n := 33) C dX11_can_29 rfl ?_
        refine R_iret C CR (Nat.zero_le _) (Nat.zero_le _) dX11_can_33 ?_
        exact ⟨rfl, rfl, q1.2⟩
    · rw [if_neg c0] at CR
      rw [fvI_pos (by omega)]
      refine R_if_geN (tgt := 32) C dX11_can_25 rfl rfl (by omega) ?_
      refine R_ic (n := 33) C dX11_can_32 ci_1 rfl ?_
      refine R_iret C CR (Nat.zero_le _) (Nat.zero_le _) dX11_can_33 ?_
      exact ⟨rfl, rfl, q1.2⟩
  · refine R_bp (n := 10) C dX11_can_8 cb_m2 rfl ?_
    refine R_iret C CR (Nat.zero_le _) (Nat.zero_le _) dX11_can_10 ?_
    refine ⟨?_, rfl, FrQ.rf⟩
    rw [aCan, if_neg (by rw [c1]; decide)]
set_option maxRecDepth 20000 in
set_option maxHeartbeats 4000000 in
theorem c_mIsSo (l : Launch) (D : va_G) (cA : Nat → ClassId) (r : Nat → Nat) {h : Hp} {σ : WS} (R : RM σ h) (I : Inv σ) {a s b : Nat} (ha : a < 1024) (hs : s < 32) (hb : b < 1024) : Cn l D cA yX11_isSo cX11_isSo 6 (some .boolean) 1 0 0 [.ref (r 73), .int (nI a), .int (nI s), .int (nI b)] (LY r) h (pE (some (.int (bI (soS (sN σ) s a b)))) (LY r) h) := by
  refine Cn.of (lv := [some (.ref (r 73)), some (.int (nI a)), some (.int (nI s)), some (.int (nI b)), none, none]) (by decide +kernel) (Nat.le_of_ble_eq_true rfl) rfl (fun X hnm C CR => ?_)
  have n5 := I.n5
  have loop : ∀ (m i : Nat), sN σ < i + m → i ≤ sN σ → Rn X 0 0 6 [some (.ref (r 73)), some (.int (nI a)), some (.int (nI s)), some (.int (nI b)), some (.int (bI (soS i s a b))), some (.int (nI i))] [] (LY r) h := by
    intro m
    induction m with
    | zero => intro i a1 a2; omega
    | succ m ih =>
      intro i a1 a2
      have ih1 := ih (i + 1)
      rw [show soS (i + 1) s a b = (soS i s a b && (!s.testBit i || decide (wy a i = wy b i))) from alb_s] at ih1
      have w1 := wy_lt a i
      have w2 := wy_lt b i
      have no : (soS i s a b && (!s.testBit i || decide (wy a i = wy b i))) = false → i < sN σ → Rn X 0 0 48 [some (.ref (r 73)), some (.int (nI a)), some (.int (nI s)), some (.int (nI b)), some (.int (bI (soS i s a b))), some (.int (nI i))] [] (LY r) h := by
        intro q hi
        rw [q] at ih1
        refine R_ic (n := 49) C dX11_isSo_48 ci_0 rfl ?_
        refine R_eq (y := bI false) rfl ?_
        refine R_is4 (n := 51) C dX11_isSo_49 rfl (Nat.le_of_ble_eq_true rfl) rfl ?_
        refine R_inc5 (n := 54) C dX11_isSo_51 rfl (Nat.le_of_ble_eq_true rfl) (inc_1 _) rfl ?_
        refine R_goto (n := 6) C dX11_isSo_54 rfl ?_
        exact ih1 (by omega) (by omega)
      have yes : (soS i s a b && (!s.testBit i || decide (wy a i = wy b i))) = true → i < sN σ → Rn X 0 0 44 [some (.ref (r 73)), some (.int (nI a)), some (.int (nI s)), some (.int (nI b)), some (.int (bI (soS i s a b))), some (.int (nI i))] [] (LY r) h := by
        intro q hi
        rw [q] at ih1
        refine R_ic (n := 45) C dX11_isSo_44 ci_1 rfl ?_
        refine R_goto (n := 49) C dX11_isSo_45 rfl ?_
        refine R_eq (y := bI true) rfl ?_
        refine R_is4 (n := 51) C dX11_isSo_49 rfl (Nat.le_of_ble_eq_true rfl) rfl ?_
        refine R_inc5 (n := 54) C dX11_isSo_51 rfl (Nat.le_of_ble_eq_true rfl) (inc_1 _) rfl ?_
        refine R_goto (n := 6) C dX11_isSo_54 rfl ?_
        exact ih1 (by omega) (by omega)
      refine R_il5 (n := 8) C dX11_isSo_6 rfl ?_
      refine R_al0 (n := 9) C dX11_isSo_8 rfl ?_
      refine M_getI (n := 12) C fl_X11_94 dX11_isSo_9 rfl rfl (mN_ R) rfl ?_
      refine R_icmp_geN (tgt := 57) C dX11_isSo_12 rfl rfl (by omega) (by omega) (fun c1 => ?_) (fun c1 => ?_)
      · refine R_il4 (n := 59) C dX11_isSo_57 rfl ?_
        refine R_zretB C CR (Nat.zero_le _) (Nat.zero_le _) dX11_isSo_59 ?_
        exact ⟨by rw [show sN σ = i by omega], rfl, rfl⟩
      · refine R_il4 (n := 17) C dX11_isSo_15 rfl ?_
        refine R_if_eqB (tgt := 48) C dX11_isSo_17 rfl rfl (fun c2 => ?_) (fun c2 => ?_)
        · exact no (by rw [c2, Bool.false_and]) c1
        · have h2 : s / 2 ^ i % 2 < 2 := Nat.mod_lt _ (by decide)
          refine R_il2 (n := 21) C dX11_isSo_20 rfl ?_
          refine R_il5 (n := 23) C dX11_isSo_21 rfl ?_
          refine R_ishrN (n := 24) C dX11_isSo_23 (by omega) (by omega) rfl ?_
          refine R_ic (n := 25) C dX11_isSo_24 ci_1 rfl ?_
          refine R_iandN (n := 26) C dX11_isSo_25 rfl ?_
          refine R_eq (y := nI (s / 2 ^ i % 2)) (by rw [and1]) ?_
          refine R_if_eqN (tgt := 44) C dX11_isSo_26 rfl rfl (by omega) (fun c3 => ?_) (fun c3 => ?_)
          · have tb : s.testBit i = false := by rw [tb_div, c3]; rfl
            exact yes (by rw [c2, tb]; rfl) c1
          · have tb : s.testBit i = true := by rw [tb_div, show s / 2 ^ i % 2 = 1 by omega]; rfl
            refine R_il1 (n := 30) C dX11_isSo_29 rfl ?_
            refine R_il5 (n := 32) C dX11_isSo_30 rfl ?_
            refine R_callS (n := 35) C (c_mWayIn _ _ _ r (by omega) (by omega)) mw_X11_wayIn ml_X11_204 sv_X11_wayIn dX11_isSo_32 rfl rfl (Nat.le_of_ble_eq_true rfl) ⟨Nat.le_of_ble_eq_true rfl, Nat.le_of_ble_eq_true rfl⟩ ⟨Nat.le_refl _, Nat.le_refl _⟩ rfl (pEs ?_)
            refine R_il3 (n := 36) C dX11_isSo_35 rfl ?_
            refine R_il5 (n := 38) C dX11_isSo_36 rfl ?_
            refine R_callS (n := 41) C (c_mWayIn _ _ _ r (by omega) (by omega)) mw_X11_wayIn ml_X11_204 sv_X11_wayIn dX11_isSo_38 rfl rfl (Nat.le_of_ble_eq_true rfl) ⟨Nat.le_of_ble_eq_true rfl, Nat.le_of_ble_eq_true rfl⟩ ⟨Nat.le_refl _, Nat.le_refl _⟩ rfl (pEs ?_)
            refine R_icmp_neN (tgt := 48) C dX11_isSo_41 rfl rfl (by omega) (by omega) (fun c4 => ?_) (fun c4 => ?_)
            · exact no (by rw [tb, decide_eq_false c4, c2]; rfl) c1
            · exact yes (by rw [tb, decide_eq_true c4, c2]; rfl) c1
  refine R_ic (n := 1) C dX11_isSo_0 ci_1 rfl ?_
  refine R_is4 (n := 3) C dX11_isSo_1 rfl (Nat.le_of_ble_eq_true rfl) rfl ?_
  refine R_ic (n := 4) C dX11_isSo_3 ci_0 rfl ?_
  refine R_is5 (n := 6) C dX11_isSo_4 rfl (Nat.le_of_ble_eq_true rfl) rfl ?_
  exact loop (sN σ + 1) 0 (by omega) (by omega)
set_option maxRecDepth 20000 in
set_option maxHeartbeats 4000000 in
theorem c_mFirstSo (l : Launch) (D : va_G) (cA : Nat → ClassId) (r : Nat → Nat) {h : Hp} {σ : WS} (R : RM σ h) (J : Inv σ) {W s b : Nat} (hW : W < 64) (hs : s < 32) (hb : b < 1024) : Cn l D cA yX11_firstSo cX11_firstSo 5 (some .int) 3 0 0 [.ref (r 73), .int (nI W), .int (nI s), .int (nI b)] (LY r) h (pG (some (.int (fwI (fsz (sN σ) (bfz σ W) s b)))) (LY r) (fun h' => RMB (bfz σ W) h' ∧ FrQ h h')) := by
  refine Cn.of (lv := [some (.ref (r 73)), some (.int (nI W)), some (.int (nI s)), some (.int (nI b)), none]) (by decide +kernel) (Nat.le_of_ble_eq_true rfl) rfl (fun X hnm C CR => ?_)
  have p10 := p2_10 J.n5
  have IB := bfz_ok J (W := W)
  obtain ⟨B, hB⟩ : ∃ B, bfz σ W = B := ⟨_, rfl⟩
  have len := IB.len
  refine R_al0 (n := 1) C dX11_firstSo_0 rfl ?_
  refine R_il1 (n := 2) C dX11_firstSo_1 rfl ?_
  refine M_callV (n := 5) C (c_spread _ _ _ r R J hW) mw_X11_spread ml_X11_217 iv_X11_spread dX11_firstSo_2 rfl rfl rfl rfl (Nat.le_of_ble_eq_true rfl) ⟨Nat.le_of_ble_eq_true rfl, Nat.le_of_ble_eq_true rfl⟩ ⟨Nat.le_refl _, Nat.le_refl _⟩ rfl (pGv (fun h1 q1 => ?_))
  rw [hB] at CR IB len q1
  obtain ⟨Z, hZ⟩ : ∃ Z, fsz (sN σ) B s b = Z := ⟨_, rfl⟩
  rw [hZ] at CR
  have R1 := q1.2.rm R
  have loop : ∀ (m i : Nat), B.1.length < i + m → i ≤ B.1.length → Z = (B.1.drop i).find? (fun x => soS (sN σ) s x b) → Rn X 0 0 8 [some (.ref (r 73)), some (.int (nI W)), some (.int (nI s)), some (.int (nI b)), some (.int (nI i))] [] (LY r) h1 := by
    intro m
    induction m with
    | zero => intro i a1 a2; omega
    | succ m ih =>
      intro i a1 a2 hz
      refine R_il4 (n := 10) C dX11_firstSo_8 rfl ?_
      refine R_al0 (n := 11) C dX11_firstSo_10 rfl ?_
      refine M_getI (n := 14) C fl_X11_208 dX11_firstSo_11 rfl rfl q1.1.1 rfl ?_
      refine R_icmp_geN (tgt := 47) C dX11_firstSo_14 rfl rfl (by omega) (by omega) (fun c1 => ?_) (fun c1 => ?_)
      · rw [List.drop_eq_nil_of_le (by omega)] at hz
        refine R_bp (n := 49) C dX11_firstSo_47 cb_m6 rfl ?_
        refine R_iret C CR (Nat.zero_le _) (Nat.zero_le _) dX11_firstSo_49 ?_
        exact ⟨by rw [hz]; rfl, rfl, q1⟩
      · have e : B.1[i]? = some B.1[i] := List.getElem?_eq_getElem c1
        obtain ⟨x, hx⟩ : ∃ x, B.1[i] = x := ⟨_, rfl⟩
        rw [List.drop_eq_getElem_cons c1, hx, List.find?_cons] at hz
        rw [hx] at e
        have e22 := q1.1.2.1 i x e
        have x10 : x < 1024 := Nat.lt_of_lt_of_le (IB.1 i x e).1 p10
        refine R_al0 (n := 18) C dX11_firstSo_17 rfl ?_
        refine R_al0 (n := 19) C dX11_firstSo_18 rfl ?_
        refine M_getR (n := 22) C fl_X11_49 dX11_firstSo_19 rfl rfl rfl ?_
        refine R_il4 (n := 24) C dX11_firstSo_22 rfl ?_
        refine M_iald (n := 25) C dX11_firstSo_24 rfl (by omega) e22 rfl ?_
        refine R_il2 (n := 26) C dX11_firstSo_25 rfl ?_
        refine R_il3 (n := 27) C dX11_firstSo_26 rfl ?_
        refine M_callV (n := 30) C (c_mIsSo _ _ _ r R1 J x10 hs hb) mw_X11_isSo ml_X11_226 iv_X11_isSo dX11_firstSo_27 rfl rfl rfl rfl (Nat.le_of_ble_eq_true rfl) ⟨Nat.le_of_ble_eq_true rfl, Nat.le_of_ble_eq_true rfl⟩ ⟨Nat.le_refl _, Nat.le_refl _⟩ rfl (pEs ?_)
        refine R_if_eqB (tgt := 41) C dX11_firstSo_30 rfl rfl (fun c2 => ?_) (fun c2 => ?_)
        · rw [c2] at hz
          refine R_inc4 (n := 44) C dX11_firstSo_41 rfl (Nat.le_of_ble_eq_true rfl) (inc_1 _) rfl ?_
          refine R_goto (n := 8) C dX11_firstSo_44 rfl ?_
          exact ih (i + 1) (by omega) (by omega) hz
        · rw [c2] at hz
          refine R_al0 (n := 34) C dX11_firstSo_33 rfl ?_
          refine M_getR (n := 37) C fl_X11_49 dX11_firstSo_34 rfl rfl rfl ?_
          refine R_il4 (n := 39) C dX11_firstSo_37 rfl ?_
          refine M_iald (n := 40) C dX11_firstSo_39 rfl (by omega) e22 rfl ?_
          refine R_iret C CR (Nat.zero_le _) (Nat.zero_le _) dX11_firstSo_40 ?_
          exact ⟨by rw [hz]; rfl, rfl, q1⟩
  refine R_ic (n := 6) C dX11_firstSo_5 ci_0 rfl ?_
  refine R_is4 (n := 8) C dX11_firstSo_6 rfl (Nat.le_of_ble_eq_true rfl) rfl ?_
  exact loop (B.1.length + 1) 0 (by omega) (by omega) hZ.symm
