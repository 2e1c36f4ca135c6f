def wrz (lt : Nat → Nat) : Nat → Nat → Nat
  | 0, a => lt a % 8
  | m + 1, a => wrz lt m (lt a / 8)
def wrA (B : BS) (e : Nat) (i : Int32) : Int32 := if i < 0 then -6 else if cl i + 1 < B.2.1 e then nI (wrz B.2.2 (B.2.1 e - 2 - cl i) e) else -6
set_option maxRecDepth 20000 in
set_option maxHeartbeats 4000000 in
theorem c_wordOfRow (l : Launch) (D : va_G) (cA : Nat → ClassId) (r : Nat → Nat) {h : Hp} {σ : WS} (J : Inv σ) {B : BS} (I : BI σ B) (E : RB B h) {e : Nat} (he : 0 < B.2.1 e) (i : Int32) : Cn l D cA yX5_wordOfRow cX5_wordOfRow 5 (some .int) 0 0 0 [.ref (r 18), .int (nI e), .int i] (LY r) h (pE (some (.int (wrA B e i))) (LY r) h) := by
  refine Cn.of (lv := [some (.ref (r 18)), some (.int (nI e)), some (.int i), none, none]) (by decide +kernel) (Nat.le_of_ble_eq_true rfl) rfl (fun X hnm C CR => ?_)
  have len := I.len
  have lt10 : ∀ y, 0 < B.2.1 y → y < 1024 := fun y hy => Nat.lt_of_lt_of_le (I.2.2.1 y hy).1 (p2_10 J.n5)
  have d10 : ∀ y, B.2.1 y ≤ 1024 := fun y => Nat.le_trans (I.2.2.2.1 y) len
  have e10 := lt10 e he
  have de := d10 e
  have ee : h 23 e = nI (B.2.1 e - 1) := by rw [E.2.2.1 e e10, pvI_pos he]
  refine R_il2 (n := 1) C dX5_wordOfRow_0 rfl ?_
  refine R_if_lt (tgt := 14) C dX5_wordOfRow_1 rfl rfl (fun c1 => ?_) (fun c1 => ?_)
  · rw [wrA, if_pos c1] at CR
    refine R_bp (n := 16) C dX5_wordOfRow_14 cb_m6 rfl ?_
    refine R_iret C CR (Nat.zero_le _) (Nat.zero_le _) dX5_wordOfRow_16 ?_
    exact ⟨rfl, rfl, rfl⟩
  · obtain ⟨x, hx, rfl⟩ := nI_of c1
    have xc : cl (nI x) = x := nI_clamp hx
    rw [wrA, if_neg c1, xc] at CR
    refine R_il2 (n := 5) C dX5_wordOfRow_4 rfl ?_
    refine R_al0 (n := 6) C dX5_wordOfRow_5 rfl ?_
    refine M_getR (n := 9) C fl_X5_22 dX5_wordOfRow_6 rfl rfl rfl ?_
    refine R_il1 (n := 10) C dX5_wordOfRow_9 rfl ?_
    refine M_iald (n := 11) C dX5_wordOfRow_10 rfl e10 ee rfl ?_
    refine R_icmp_ltN (tgt := 17) C dX5_wordOfRow_11 rfl rfl (by omega) (by omega) (fun c2 => ?_) (fun c2 => ?_)
    · obtain ⟨Z, hZ⟩ : ∃ Z, wrz B.2.2 (B.2.1 e - 2 - x) e = Z := ⟨_, rfl⟩
      rw [if_pos (by omega), hZ] at CR
      have loop : ∀ (m a : Nat), B.2.1 a = x + m + 2 → Z = wrz B.2.2 m a → Rn X 0 0 29 [some (.ref (r 18)), some (.int (nI e)), some (.int (nI x)), some (.int (nI a)), some (.int (nI (x + m)))] [] (LY r) h := by
        intro m
        induction m with
        | zero =>
          intro a a1 hz
          have a10 := lt10 a (by omega)
          have da := d10 a
          obtain ⟨y, w, w6, y1, y2, y3, y4⟩ := I.2.2.2.2 a (by omega)
          have y10 := lt10 y y4
          have el := E.2.2.2 a (by omega)
          have lb : B.2.2 a < 2 ^ 31 := by omega
          refine R_il4 (n := 31) C dX5_wordOfRow_29 rfl ?_
          refine R_il2 (n := 32) C dX5_wordOfRow_31 rfl ?_
          refine R_icmp_leN (tgt := 51) C dX5_wordOfRow_32 rfl rfl (by omega) (by omega) (fun c3 => ?_) (fun c3 => ?_)
          · refine R_al0 (n := 52) C dX5_wordOfRow_51 rfl ?_
            refine M_getR (n := 55) C fl_X5_25 dX5_wordOfRow_52 rfl rfl rfl ?_
            refine R_il3 (n := 56) C dX5_wordOfRow_55 rfl ?_
            refine M_iald (n := 57) C dX5_wordOfRow_56 rfl a10 el rfl ?_
            refine R_bp (n := 59) C dX5_wordOfRow_57 cb_8 rfl ?_
            refine R_iremN (n := 60) C dX5_wordOfRow_59 (by omega) (by omega) (by omega) rfl ?_
            refine R_iret C CR (Nat.zero_le _) (Nat.zero_le _) dX5_wordOfRow_60 ?_
            exact ⟨by rw [hz]; rfl, rfl, rfl⟩
          · omega
        | succ m ih =>
          intro a a1 hz
          have a10 := lt10 a (by omega)
          have da := d10 a
          obtain ⟨y, w, w6, y1, y2, y3, y4⟩ := I.2.2.2.2 a (by omega)
          have y10 := lt10 y y4
          have el := E.2.2.2 a (by omega)
          have lb : B.2.2 a < 2 ^ 31 := by omega
          have dv : B.2.2 a / 8 = y := by omega
          refine R_il4 (n := 31) C dX5_wordOfRow_29 rfl ?_
          refine R_il2 (n := 32) C dX5_wordOfRow_31 rfl ?_
          refine R_icmp_leN (tgt := 51) C dX5_wordOfRow_32 rfl rfl (by omega) (by omega) (fun c3 => ?_) (fun c3 => ?_)
          · omega
          · refine R_al0 (n := 36) C dX5_wordOfRow_35 rfl ?_
            refine M_getR (n := 39) C fl_X5_25 dX5_wordOfRow_36 rfl rfl rfl ?_
            refine R_il3 (n := 40) C dX5_wordOfRow_39 rfl ?_
            refine M_iald (n := 41) C dX5_wordOfRow_40 rfl a10 el rfl ?_
            refine R_bp (n := 43) C dX5_wordOfRow_41 cb_8 rfl ?_
            refine R_idivN (n := 44) C dX5_wordOfRow_43 (by omega) (by omega) (by omega) rfl ?_
            refine R_is3 (n := 45) C dX5_wordOfRow_44 rfl (Nat.le_of_ble_eq_true rfl) rfl ?_
            refine R_inc4 (n := 48) C dX5_wordOfRow_45 rfl (Nat.le_of_ble_eq_true rfl) (inc_m1 _) rfl ?_
            refine R_goto (n := 29) C dX5_wordOfRow_48 rfl ?_
            refine ih _ ?_ hz
            rw [dv]
            omega
      refine R_il1 (n := 18) C dX5_wordOfRow_17 rfl ?_
      refine R_is3 (n := 19) C dX5_wordOfRow_18 rfl (Nat.le_of_ble_eq_true rfl) rfl ?_
      refine R_al0 (n := 20) C dX5_wordOfRow_19 rfl ?_
      refine M_getR (n := 23) C fl_X5_22 dX5_wordOfRow_20 rfl rfl rfl ?_
      refine R_il1 (n := 24) C dX5_wordOfRow_23 rfl ?_
      refine M_iald (n := 25) C dX5_wordOfRow_24 rfl e10 ee rfl ?_
      refine R_ic (n := 26) C dX5_wordOfRow_25 ci_1 rfl ?_
      refine R_isubN (n := 27) C dX5_wordOfRow_26 (by omega) rfl ?_
      refine R_is4 (n := 29) C dX5_wordOfRow_27 rfl (Nat.le_of_ble_eq_true rfl) rfl ?_
      rw [show B.2.1 e - 1 - 1 = x + (B.2.1 e - 2 - x) by omega]
      exact loop _ e (by omega) hZ.symm
    · rw [if_neg (by omega)] at CR
      refine R_bp (n := 16) C dX5_wordOfRow_14 cb_m6 rfl ?_
      refine R_iret C CR (Nat.zero_le _) (Nat.zero_le _) dX5_wordOfRow_16 ?_
      exact ⟨rfl, rfl, rfl⟩
def okA (σ : WS) (s b : Int32) : Bool := win s (nI 0) (nI (2 ^ sN σ - 1)) && win b (nI 0) (nI (2 ^ (2 * sN σ) - 1))
set_option maxRecDepth 20000 in
set_option maxHeartbeats 4000000 in
theorem c_isAim (l : Launch) (D : va_G) (cA : Nat → ClassId) (r : Nat → Nat) {h : Hp} {σ : WS} (R : RW 1 σ h) (I : Inv σ) (s b : Int32) : Cn l D cA yX10_isAim cX10_isAim 3 (some .boolean) 2 0 0 [.ref (r 0), .int s, .int b] (LY r) h (pE (some (.int (bI (okA σ s b)))) (LY r) h) := by
  refine Cn.of (lv := [some (.ref (r 0)), some (.int s), some (.int b)]) (by decide +kernel) (Nat.le_of_ble_eq_true rfl) rfl (fun X hnm C CR => ?_)
  refine R_al0 (n := 1) C dX10_isAim_0 rfl ?_
  refine M_getR (n := 4) C fl_X10_12 dX10_isAim_1 rfl rfl rfl ?_
  refine R_il1 (n := 5) C dX10_isAim_4 rfl ?_
  refine M_callV (n := 8) C (c_hasSet _ _ _ r R I _) mw_X9_hasSet ml_X10_204 iv_X9_hasSet dX10_isAim_5 rfl rfl rfl rfl (Nat.le_of_ble_eq_true rfl) ⟨Nat.le_of_ble_eq_true rfl, Nat.le_of_ble_eq_true rfl⟩ ⟨Nat.le_refl _, Nat.le_refl _⟩ rfl (pEs ?_)
  refine R_if_eqB (tgt := 26) C dX10_isAim_8 rfl rfl (fun c1 => ?_) (fun c1 => ?_)
  · refine R_ic (n := 27) C dX10_isAim_26 ci_0 rfl ?_
    refine R_zret0 C CR (Nat.zero_le _) (Nat.zero_le _) dX10_isAim_27 ?_
    exact ⟨by rw [okA, c1, Bool.false_and], rfl, rfl⟩
  · refine R_al0 (n := 12) C dX10_isAim_11 rfl ?_
    refine M_getR (n := 15) C fl_X10_12 dX10_isAim_12 rfl rfl rfl ?_
    refine R_il2 (n := 16) C dX10_isAim_15 rfl ?_
    refine M_callV (n := 19) C (c_hasLooks _ _ _ r R I _) mw_X9_hasLooks ml_X10_179 iv_X9_hasLooks dX10_isAim_16 rfl rfl rfl rfl (Nat.le_of_ble_eq_true rfl) ⟨Nat.le_of_ble_eq_true rfl, Nat.le_of_ble_eq_true rfl⟩ ⟨Nat.le_refl _, Nat.le_refl _⟩ rfl (pEs ?_)
    refine R_if_eqB (tgt := 26) C dX10_isAim_19 rfl rfl (fun c2 => ?_) (fun c2 => ?_)
    · refine R_ic (n := 27) C dX10_isAim_26 ci_0 rfl ?_
      refine R_zret0 C CR (Nat.zero_le _) (Nat.zero_le _) dX10_isAim_27 ?_
      exact ⟨by rw [okA, c2, Bool.and_false], rfl, rfl⟩
    · refine R_ic (n := 23) C dX10_isAim_22 ci_1 rfl ?_
      refine R_goto (n := 27) C dX10_isAim_23 rfl ?_
      refine R_zret1 C CR (Nat.zero_le _) (Nat.zero_le _) dX10_isAim_27 ?_
      exact ⟨by rw [okA, c1, c2]; rfl, rfl, rfl⟩
theorem okA_of {σ : WS} (I : Inv σ) {s b : Int32} (h : okA σ s b = true) : ∃ x y, x < 2 ^ sN σ ∧ y < 2 ^ (2 * sN σ) ∧ s = nI x ∧ b = nI y ∧ cl s = x ∧ cl b = y := by
  unfold okA at h
  rw [Bool.and_eq_true] at h
  have p5 := p2_5 I.n5
  have p10 := p2_10 I.n5
  obtain ⟨x, _, x1, rfl⟩ := win_of (by omega) (by omega) h.1
  obtain ⟨y, _, y1, rfl⟩ := win_of (by omega) (by omega) h.2
  have := p2_pos (sN σ)
  have := p2_pos (2 * sN σ)
  exact ⟨x, y, by omega, by omega, rfl, rfl, nI_clamp (by omega), nI_clamp (by omega)⟩
def bfG (G : GS) : BS := bfz (gS G) (sKn (gS G))
def aReached (G : GS) : Int32 := nI (bfG G).1.length
def aCan (G : GS) (v : Int32) : Int32 := if win v (nI 0) (nI (2 ^ (2 * sN (gS G)) - 1)) then (if (bfG G).2.1 (cl v) = 0 then 0 else 1) else -2
def aSpelled (G : GS) (s b i : Int32) : Int32 := if okA (gS G) s b then (match fsz (sN (gS G)) (bfG G) (cl s) (cl b) with | none => -6 | some e => if i = -1 then nI ((bfG G).2.1 e - 1) else wrA (bfG G) e i) else -2
def fwz (σ : WS) (W s b : Nat) : Option Nat := (fsz (sN σ) (bfz σ W) s b).map (fun e => (bfz σ W).2.1 e - 1)
def aWithout (G : GS) (w s b : Int32) : Int32 := if kwz (sKn (gS G)) w then (if okA (gS G) s b then (match fwz (gS G) (clz (sKn (gS G)) (cl w)) (cl s) (cl b), fwz (gS G) (sKn (gS G)) (cl s) (cl b) with | some a, some c => nI a - nI c | _, _ => -6) else -2) else -1
set_option maxRecDepth 20000 in
set_option maxHeartbeats 4000000 in
theorem p_reached (l : Launch) (D : va_G) (cA : Nat → ClassId) (r : Nat → Nat) {h : Hp} {G : GS} (R : RCl G h) (I : InvG G) : Cn l D cA yX10_reached cX10_reached 1 (some .int) 4 0 0 [.ref (r 0)] (LY r) h (pG (some (.int (aReached G))) (LY r) (fun h' => RCl G h' ∧ FrC h h')) := by
  refine Cn.of (lv := [some (.ref (r 0))]) (by decide +kernel) (Nat.le_of_ble_eq_true rfl) rfl (fun X hnm C CR => ?_)
  refine R_al0 (n := 1) C dX10_reached_0 rfl ?_
  refine M_getR (n := 4) C fl_X10_41 dX10_reached_1 rfl rfl rfl ?_
  refine R_al0 (n := 5) C dX10_reached_4 rfl ?_
  refine M_getR (n := 8) C fl_X10_12 dX10_reached_5 rfl rfl rfl ?_
  refine R_al0 (n := 9) C dX10_reached_8 rfl ?_
  refine M_getR (n := 12) C fl_X10_12 dX10_reached_9 rfl rfl rfl ?_
  refine M_getI (n := 15) C fl_X10_128 dX10_reached_12 rfl rfl (wKn R.1) rfl ?_
  refine M_callV (n := 18) C (c_explore _ _ _ r R.1 I.1 I.1.kn) mw_X5_explore ml_X10_172 iv_X5_explore dX10_reached_15 rfl rfl rfl rfl (Nat.le_of_ble_eq_true rfl) ⟨Nat.le_of_ble_eq_true rfl, Nat.le_of_ble_eq_true rfl⟩ ⟨Nat.le_refl _, Nat.le_refl _⟩ rfl (pGv (fun h1 q1 => ?_))
  have W : RCl G h1 ∧ FrC h h1 := ⟨R.s q1.2.s, q1.2.s.c⟩
  refine R_al0 (n := 19) C dX10_reached_18 rfl ?_
  refine M_getR (n := 22) C fl_X10_41 dX10_reached_19 rfl rfl rfl ?_
  refine M_getI (n := 25) C fl_X10_176 dX10_reached_22 rfl rfl q1.1.1 rfl ?_
  refine R_iret C CR (Nat.zero_le _) (Nat.zero_le _) dX10_reached_25 ?_
  exact ⟨rfl, rfl, W⟩
set_option maxRecDepth 20000 in
set_option maxHeartbeats 4000000 in
theorem p_can (l : Launch) (D : va_G) (cA : Nat → ClassId) (r : Nat → Nat) {h : Hp} {G : GS} (R : RCl G h) (I : InvG G) (v : Int32) : Cn l D cA yX10_can cX10_can 2 (some .int) 4 0 0 [.ref (r 0), .int v] (LY r) h (pG (some (.int (aCan G v))) (LY r) (fun h' => RCl G h' ∧ FrC h h')) := by
  refine Cn.of (lv := [some (.ref (r 0)), some (.int v)]) (by decide +kernel) (Nat.le_of_ble_eq_true rfl) rfl (fun X hnm C CR => ?_)
  have p10 := p2_10 I.1.n5
  have pp := p2_pos (2 * sN (gS G))
  refine R_al0 (n := 1) C dX10_can_0 rfl ?_
  refine M_getR (n := 4) C fl_X10_12 dX10_can_1 rfl rfl rfl ?_
  refine R_il1 (n := 5) C dX10_can_4 rfl ?_
  refine M_callV (n := 8) C (c_hasLooks _ _ _ r R.1 I.1 _) mw_X9_hasLooks ml_X10_179 iv_X9_hasLooks dX10_can_5 rfl rfl rfl rfl (Nat.le_of_ble_eq_true rfl) ⟨Nat.le_of_ble_eq_true rfl, Nat.le_of_ble_eq_true rfl⟩ ⟨Nat.le_refl _, Nat.le_refl _⟩ rfl (pEs ?_)
  refine R_if_neB (tgt := 14) C dX10_can_8 rfl rfl (fun c1 => ?_) (fun c1 => ?_)
  · obtain ⟨x, _, x1, rfl⟩ := win_of (by omega) (by omega) c1
    have xc : cl (nI x) = x := nI_clamp (by omega)
    have x10 : x < 1024 := by omega
    rw [aCan, if_pos c1, xc] at CR
    refine R_al0 (n := 15) C dX10_can_14 rfl ?_
    refine M_getR (n := 18) C fl_X10_41 dX10_can_15 rfl rfl rfl ?_
    refine R_al0 (n := 19) C dX10_can_18 rfl ?_
    refine M_getR (n := 22) C fl_X10_12 dX10_can_19 rfl rfl rfl ?_
    refine R_al0 (n := 23) C dX10_can_22 rfl ?_
    refine M_getR (n := 26) C fl_X10_12 dX10_can_23 rfl rfl rfl ?_
    refine M_getI (n := 29) C fl_X10_128 dX10_can_26 rfl rfl (wKn R.1) rfl ?_
    refine M_callV (n := 32) C (c_explore _ _ _ r R.1 I.1 I.1.kn) mw_X5_explore ml_X10_172 iv_X5_explore dX10_can_29 rfl rfl rfl rfl (Nat.le_of_ble_eq_true rfl) ⟨Nat.le_of_ble_eq_true rfl, Nat.le_of_ble_eq_true rfl⟩ ⟨Nat.le_refl _, Nat.le_refl _⟩ rfl (pGv (fun h1 q1 => ?_))
    have W : RCl G h1 ∧ FrC h h1 := ⟨R.s q1.2.s, q1.2.s.c⟩
    have e23 : h1 23 x = pvI ((bfG G).2.1 x) := q1.1.2.2.1 x x10
    have dl : (bfG G).2.1 x ≤ 1024 := Nat.le_trans ((bfz_ok I.1).2.2.2.1 x) (bfz_ok I.1).len
    refine R_al0 (n := 33) C dX10_can_32 rfl ?_
    refine M_getR (n := 36) C fl_X10_41 dX10_can_33 rfl rfl rfl ?_
    refine M_getR (n := 39) C fl_X10_182 dX10_can_36 rfl rfl rfl ?_
    refine R_il1 (n := 40) C dX10_can_39 rfl ?_
    refine M_iald (n := 41) C dX10_can_40 rfl x10 e23 rfl ?_
    by_cases c0 : (bfG G).2.1 x = 0
    · rw [if_pos c0] at CR
      rw [c0, pvI_0]
      refine R_if_ge (tgt := 48) C dX10_can_41 rfl rfl (fun c2 => ?_) (fun c2 => ?_)
      · exact absurd c2 (by decide)
      · refine R_ic (n := 45) C dX10_can_44 ci_0 rfl ?_
        refine R_goto (n := 49) C dX10_can_45 rfl ?_
        refine R_iret C CR (Nat.zero_le _) (Nat.zero_le _) dX10_can_49 ?_
        exact ⟨rfl, rfl, W⟩
    · rw [if_neg c0] at CR
      rw [pvI_pos (by omega)]
      refine R_if_geN (tgt := 48) C dX10_can_41 rfl rfl (by omega) ?_
      refine R_ic (n := 49) C dX10_can_48 ci_1 rfl ?_
      refine R_iret C CR (Nat.zero_le _) (Nat.zero_le _) dX10_can_49 ?_
      exact ⟨rfl, rfl, W⟩
  · refine R_bp (n := 13) C dX10_can_11 cb_m2 rfl ?_
    refine R_iret C CR (Nat.zero_le _) (Nat.zero_le _) dX10_can_13 ?_
    refine ⟨?_, rfl, R, FrC.rf⟩
    rw [aCan, if_neg (by rw [c1]; decide)]
set_option maxRecDepth 20000 in
set_option maxHeartbeats 4000000 in
theorem p_spelled (l : Launch) (D : va_G) (cA : Nat → ClassId) (r : Nat → Nat) {h : Hp} {G : GS} (R : RCl G h) (I : InvG G) (s b i : Int32) : Cn l D cA yX10_spelled cX10_spelled 5 (some .int) 4 0 0 [.ref (r 0), .int s, .int b, .int i] (LY r) h (pG (some (.int (aSpelled G s b i))) (LY r) (fun h' => RCl G h' ∧ FrC h h')) := by
  refine Cn.of (lv := [some (.ref (r 0)), some (.int s), some (.int b), some (.int i), none]) (by decide +kernel) (Nat.le_of_ble_eq_true rfl) rfl (fun X hnm C CR => ?_)
  have p10 := p2_10 I.1.n5
  refine R_al0 (n := 1) C dX10_spelled_0 rfl ?_
  refine R_il1 (n := 2) C dX10_spelled_1 rfl ?_
  refine R_il2 (n := 3) C dX10_spelled_2 rfl ?_
  refine M_callV (n := 6) C (c_isAim _ _ _ r R.1 I.1 _ _) mw_X10_isAim ml_X10_185 iv_X10_isAim dX10_spelled_3 rfl rfl rfl rfl (Nat.le_of_ble_eq_true rfl) ⟨Nat.le_of_ble_eq_true rfl, Nat.le_of_ble_eq_true rfl⟩ ⟨Nat.le_refl _, Nat.le_refl _⟩ rfl (pEs ?_)
  refine R_if_neB (tgt := 12) C dX10_spelled_6 rfl rfl (fun c1 => ?_) (fun c1 => ?_)
  · obtain ⟨x, y, x1, y1, rfl, rfl, xc, yc⟩ := okA_of I.1 c1
    rw [aSpelled, if_pos c1, xc, yc] at CR
    have IB : BI (gS G) (bfG G) := bfz_ok I.1
    refine R_al0 (n := 13) C dX10_spelled_12 rfl ?_
    refine M_getR (n := 16) C fl_X10_41 dX10_spelled_13 rfl rfl rfl ?_
    refine R_al0 (n := 17) C dX10_spelled_16 rfl ?_
    refine M_getR (n := 20) C fl_X10_12 dX10_spelled_17 rfl rfl rfl ?_
    refine R_al0 (n := 21) C dX10_spelled_20 rfl ?_
    refine M_getR (n := 24) C fl_X10_12 dX10_spelled_21 rfl rfl rfl ?_
    refine M_getI (n := 27) C fl_X10_128 dX10_spelled_24 rfl rfl (wKn R.1) rfl ?_
    refine M_callV (n := 30) C (c_explore _ _ _ r R.1 I.1 I.1.kn) mw_X5_explore ml_X10_172 iv_X5_explore dX10_spelled_27 rfl rfl rfl rfl (Nat.le_of_ble_eq_true rfl) ⟨Nat.le_of_ble_eq_true rfl, Nat.le_of_ble_eq_true rfl⟩ ⟨Nat.le_refl _, Nat.le_refl _⟩ rfl (pGv (fun h1 q1 => ?_))
    have W : RCl G h1 ∧ FrC h h1 := ⟨R.s q1.2.s, q1.2.s.c⟩
    have E1 : RB (bfG G) h1 := q1.1
    refine R_al0 (n := 31) C dX10_spelled_30 rfl ?_
    refine M_getR (n := 34) C fl_X10_41 dX10_spelled_31 rfl rfl rfl ?_
    refine R_il1 (n := 35) C dX10_spelled_34 rfl ?_
    refine R_il2 (n := 36) C dX10_spelled_35 rfl ?_
    refine M_callV (n := 39) C (c_firstLooking _ _ _ r I.1 IB E1 x1 (by omega)) mw_X5_firstLooking ml_X10_188 iv_X5_firstLooking dX10_spelled_36 rfl rfl rfl rfl (Nat.le_of_ble_eq_true rfl) ⟨Nat.le_of_ble_eq_true rfl, Nat.le_of_ble_eq_true rfl⟩ ⟨Nat.le_refl _, Nat.le_refl _⟩ rfl (pEs ?_)
    cases hf : fsz (sN (gS G)) (bfG G) x y with
    | none =>
      rw [hf] at CR
      show Rn X _ _ _ _ [.int (-1)] _ _
      refine R_is4 (n := 41) C dX10_spelled_39 rfl (Nat.le_of_ble_eq_true rfl) rfl ?_
      refine R_il4 (n := 43) C dX10_spelled_41 rfl ?_
      refine R_if_ge (tgt := 49) C dX10_spelled_43 rfl rfl (fun c2 => ?_) (fun c2 => ?_)
      · exact absurd c2 (by decide)
      · refine R_bp (n := 48) C dX10_spelled_46 cb_m6 rfl ?_
        refine R_iret C CR (Nat.zero_le _) (Nat.zero_le _) dX10_spelled_48 ?_
        exact ⟨rfl, rfl, W⟩
    | some e =>
      rw [hf] at CR
      obtain ⟨e1, e2⟩ := fsz_some IB hf
      have e10 : e < 1024 := by omega
      have ee : h1 23 e = nI ((bfG G).2.1 e - 1) := by rw [E1.2.2.1 e e10, pvI_pos e2]
      show Rn X _ _ _ _ [.int (nI e)] _ _
      refine R_is4 (n := 41) C dX10_spelled_39 rfl (Nat.le_of_ble_eq_true rfl) rfl ?_
      refine R_il4 (n := 43) C dX10_spelled_41 rfl ?_
      refine R_if_geN (tgt := 49) C dX10_spelled_43 rfl rfl (by omega) ?_
      refine R_il3 (n := 50) C dX10_spelled_49 rfl ?_
      refine R_ic (n := 51) C dX10_spelled_50 ci_m1 rfl ?_
      refine R_icmp_ne (tgt := 67) C dX10_spelled_51 rfl rfl (fun c3 => ?_) (fun c3 => ?_)
      · replace CR : OkR X _ _ _ (pG (some (.int (if i = -1 then nI ((bfG G).2.1 e - 1) else wrA (bfG G) e i))) _ _) := CR
        rw [if_neg c3] at CR
        refine R_al0 (n := 68) C dX10_spelled_67 rfl ?_
        refine M_getR (n := 71) C fl_X10_41 dX10_spelled_68 rfl rfl rfl ?_
        refine R_il4 (n := 73) C dX10_spelled_71 rfl ?_
        refine R_il3 (n := 74) C dX10_spelled_73 rfl ?_
        refine M_callV (n := 77) C (c_wordOfRow _ _ _ r I.1 IB E1 e2 i) mw_X5_wordOfRow ml_X10_192 iv_X5_wordOfRow dX10_spelled_74 rfl rfl rfl rfl (Nat.le_of_ble_eq_true rfl) ⟨Nat.le_of_ble_eq_true rfl, Nat.le_of_ble_eq_true rfl⟩ ⟨Nat.le_refl _, Nat.le_refl _⟩ rfl (pEs ?_)
        refine R_iret C CR (Nat.zero_le _) (Nat.zero_le _) dX10_spelled_77 ?_
        exact ⟨rfl, rfl, W⟩
      · replace CR : OkR X _ _ _ (pG (some (.int (if i = -1 then nI ((bfG G).2.1 e - 1) else wrA (bfG G) e i))) _ _) := CR
        rw [if_pos c3] at CR
        refine R_al0 (n := 55) C dX10_spelled_54 rfl ?_
        refine M_getR (n := 58) C fl_X10_41 dX10_spelled_55 rfl rfl rfl ?_
        refine M_getR (n := 61) C fl_X10_182 dX10_spelled_58 rfl rfl rfl ?_
        refine R_il4 (n := 63) C dX10_spelled_61 rfl ?_
        refine M_iald (n := 64) C dX10_spelled_63 rfl e10 ee rfl ?_
        refine R_goto (n := 77) C dX10_spelled_64 rfl ?_
        refine R_iret C CR (Nat.zero_le _) (Nat.zero_le _) dX10_spelled_77 ?_
        exact ⟨rfl, rfl, W⟩
  · refine R_bp (n := 11) C dX10_spelled_9 cb_m2 rfl ?_
    refine R_iret C CR (Nat.zero_le _) (Nat.zero_le _) dX10_spelled_11 ?_
    refine ⟨?_, rfl, R, FrC.rf⟩
    rw [aSpelled, if_neg (by rw [c1]; decide)]
