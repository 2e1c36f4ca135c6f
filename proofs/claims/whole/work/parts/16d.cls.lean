def cnz (p : Nat → Bool) : Nat → Nat
  | 0 => 0
  | n + 1 => cnz p n + (if p n then 1 else 0)
theorem cnz_le {p : Nat → Bool} : ∀ {n : Nat}, cnz p n ≤ n
  | 0 => Nat.le_refl _
  | n + 1 => by
    have := cnz_le (p := p) (n := n)
    unfold cnz
    split <;> omega
def vtz (n l w : Nat) : Nat := cnz (fun k => decide (wy l k = w)) n
def elz (f : Nat → Nat) : Nat → Nat
  | 0 => 0
  | k + 1 => if f (elz f k) < f (k + 1) then k + 1 else elz f k
theorem elz_le (f : Nat → Nat) : ∀ k, elz f k ≤ k
  | 0 => Nat.le_refl _
  | k + 1 => by
    have := elz_le f k
    unfold elz
    split <;> omega
def nuz (σ : WS) : Nat := nmz (sA σ 0) (sN σ)
theorem nuz_lt {σ : WS} (I : Inv σ) : nuz σ < 2 ^ (2 * sN σ) := nmz_lt (fun k hk => I.lk (by have := I.n5; omega))
theorem nuz_1024 {σ : WS} (I : Inv σ) : nuz σ < 1024 := Nat.lt_of_lt_of_le (nuz_lt I) (p2_10 I.n5)
def aElected (G : GS) : Int32 := nI (elz (vtz (sN (gS G)) (nuz (gS G))) 3)
def toH (σ : WS) (k w : Nat) : Int32 := if k < sN σ then (if w = 0 then nI (sA σ 0 k) else if w = 1 then nI (sA σ 1 k) else if w = 2 then nI (sA σ 2 k) else if w = 3 then nI (sA σ 3 k) else if w = 4 then nI (sA σ 4 k) else -2) else -2
def aTold (G : GS) (v : Int32) : Int32 :=
  if win v (nI 0) (nI 4) then (if cl v = 0 then nI (gP G).1 else if cl v = 1 then nI (sN (gS G)) else if cl v = 2 then nI (sKn (gS G)) else if cl v = 3 then nI (sSg (gS G)) else nI (nuz (gS G)))
  else if win v (nI 10) (nI 59) then toH (gS G) (cl v / 10 - 1) (cl v % 10)
  else if win v (nI 100) (nI 699) then (if (sKn (gS G)).testBit (cl v / 100 - 1) && decide (cl v % 100 < sN (gS G)) then nI (sA (gS G) 5 (5 * (cl v / 100 - 1) + cl v % 100)) else -2)
  else -2
set_option maxRecDepth 20000 in
set_option maxHeartbeats 4000000 in
theorem c_numberOf (l : Launch) (D : va_G) (cA : Nat → ClassId) (r : Nat → Nat) {h : Hp} {a n : Nat} {f : Nat → Nat} (hs : LYS[a]? = some (.inr (.inl (0, 5)))) (hn : n ≤ 5) (hf : ∀ k, k < 5 → h a k = nI (f k)) (h4 : ∀ k, k < 5 → f k < 4) : Cn l D cA yX10_numberOf cX10_numberOf 4 (some .int) 0 0 0 [.ref (r a), .int (nI n)] (LY r) h (pE (some (.int (nI (nmz f n)))) (LY r) h) := by
  refine Cn.of (lv := [some (.ref (r a)), some (.int (nI n)), none, none]) (by decide +kernel) (Nat.le_of_ble_eq_true rfl) rfl (fun X hnm C CR => ?_)
  have loop : ∀ (m i : Nat), n < i + m → i ≤ n → Rn X 0 0 4 [some (.ref (r a)), some (.int (nI n)), some (.int (nI (nmz f i))), some (.int (nI i))] [] (LY r) h := by
    intro m
    induction m with
    | zero => intro i a1 a2; omega
    | succ m ih =>
      intro i a1 a2
      refine R_il3 (n := 5) C dX10_numberOf_4 rfl ?_
      refine R_il1 (n := 6) C dX10_numberOf_5 rfl ?_
      refine R_icmp_geN (tgt := 31) C dX10_numberOf_6 rfl rfl (by omega) (by omega) (fun c => ?_) (fun c => ?_)
      · refine R_il2 (n := 32) C dX10_numberOf_31 rfl ?_
        refine R_iret C CR (Nat.zero_le _) (Nat.zero_le _) dX10_numberOf_32 ?_
        exact ⟨by rw [show n = i by omega], rfl, rfl⟩
      · refine R_il3 (n := 10) C dX10_numberOf_9 rfl ?_
        refine R_al0 (n := 11) C dX10_numberOf_10 rfl ?_
        refine M_alen (n := 12) C dX10_numberOf_11 hs rfl ?_
        refine R_icmp_geN (tgt := 31) C dX10_numberOf_12 rfl rfl (by omega) (by omega) (fun c2 => ?_) (fun c2 => ?_)
        · omega
        · have b1 := h4 i (by omega)
          have b2 := nmz_lt (f := f) (n := i) (fun k hk => h4 k (by omega))
          refine R_il2 (n := 16) C dX10_numberOf_15 rfl ?_
          refine R_al0 (n := 17) C dX10_numberOf_16 rfl ?_
          refine R_il3 (n := 18) C dX10_numberOf_17 rfl ?_
          refine M_iald (n := 19) C dX10_numberOf_18 hs (by omega) (hf i (by omega)) rfl ?_
          refine R_ic (n := 20) C dX10_numberOf_19 ci_2 rfl ?_
          refine R_il3 (n := 21) C dX10_numberOf_20 rfl ?_
          refine R_imulN (n := 22) C dX10_numberOf_21 rfl ?_
          refine R_ishlN (n := 23) C dX10_numberOf_22 (by omega) (shb b1 (by omega)) rfl ?_
          refine R_iorN (n := 24) C dX10_numberOf_23 rfl ?_
          refine R_eq (y := nI (nmz f (i + 1))) (by rw [or_sum b2]; rfl) ?_
          refine R_is2 (n := 25) C dX10_numberOf_24 rfl (Nat.le_of_ble_eq_true rfl) rfl ?_
          refine R_inc3 (n := 28) C dX10_numberOf_25 rfl (Nat.le_of_ble_eq_true rfl) (inc_1 _) rfl ?_
          refine R_goto (n := 4) C dX10_numberOf_28 rfl ?_
          exact ih (i + 1) (by omega) (by omega)
  refine R_ic (n := 1) C dX10_numberOf_0 ci_0 rfl ?_
  refine R_is2 (n := 2) C dX10_numberOf_1 rfl (Nat.le_of_ble_eq_true rfl) rfl ?_
  refine R_ic (n := 3) C dX10_numberOf_2 ci_0 rfl ?_
  refine R_is3 (n := 4) C dX10_numberOf_3 rfl (Nat.le_of_ble_eq_true rfl) rfl ?_
  exact loop (n + 1) 0 (by omega) (by omega)
set_option maxRecDepth 20000 in
set_option maxHeartbeats 4000000 in
theorem c_number (l : Launch) (D : va_G) (cA : Nat → ClassId) (r : Nat → Nat) {h : Hp} {σ : WS} (R : RW 1 σ h) (I : Inv σ) : Cn l D cA yX9_number cX9_number 1 (some .int) 1 0 0 [.ref (r 1)] (LY r) h (pE (some (.int (nI (nuz σ)))) (LY r) h) := by
  refine Cn.of (lv := [some (.ref (r 1))]) (by decide +kernel) (Nat.le_of_ble_eq_true rfl) rfl (fun X hnm C CR => ?_)
  refine R_al0 (n := 1) C dX9_number_0 rfl ?_
  refine M_getR (n := 4) C fl_X9_9 dX9_number_1 rfl rfl rfl ?_
  refine R_al0 (n := 5) C dX9_number_4 rfl ?_
  refine M_getI (n := 8) C fl_X9_43 dX9_number_5 rfl rfl (wN R) rfl ?_
  refine R_callSN (n := 11) C (c_numberOf _ _ _ r rfl I.n5 (fun k hk => wLk R hk) (fun k hk => I.lk hk)) mw_X10_numberOf mn_X9_77 sv_X10_numberOf dX9_number_8 rfl rfl (Nat.le_of_ble_eq_true rfl) ⟨Nat.le_of_ble_eq_true rfl, Nat.le_of_ble_eq_true rfl⟩ ⟨Nat.le_refl _, Nat.le_refl _⟩ rfl (pEs ?_)
  refine R_iret C CR (Nat.zero_le _) (Nat.zero_le _) dX9_number_11 ?_
  exact pE_i _ _ _
set_option maxRecDepth 20000 in
set_option maxHeartbeats 4000000 in
theorem c_votes (l : Launch) (D : va_G) (cA : Nat → ClassId) (r : Nat → Nat) {h : Hp} {σ : WS} (R : RW 1 σ h) (I : Inv σ) {l9 w : Nat} (hl : l9 < 1024) (hw : w < 4) : Cn l D cA yX10_votes cX10_votes 5 (some .int) 1 0 0 [.ref (r 0), .int (nI l9), .int (nI w)] (LY r) h (pE (some (.int (nI (vtz (sN σ) l9 w)))) (LY r) h) := by
  refine Cn.of (lv := [some (.ref (r 0)), some (.int (nI l9)), some (.int (nI w)), none, none]) (by decide +kernel) (Nat.le_of_ble_eq_true rfl) rfl (fun X hnm C CR => ?_)
  have n5 := I.n5
  have loop : ∀ (m i : Nat), sN σ < i + m → i ≤ sN σ → Rn X 0 0 5 [some (.ref (r 0)), some (.int (nI l9)), some (.int (nI w)), some (.int (nI (vtz i l9 w))), some (.int (nI i))] [] (LY r) h := by
    intro m
    induction m with
    | zero => intro i a1 a2; omega
    | succ m ih =>
      intro i a1 a2
      refine R_il4 (n := 7) C dX10_votes_5 rfl ?_
      refine R_al0 (n := 8) C dX10_votes_7 rfl ?_
      refine M_getR (n := 11) C fl_X10_12 dX10_votes_8 rfl rfl rfl ?_
      refine M_getI (n := 14) C fl_X10_80 dX10_votes_11 rfl rfl (wN R) rfl ?_
      refine R_icmp_geN (tgt := 36) C dX10_votes_14 rfl rfl (by omega) (by omega) (fun c => ?_) (fun c => ?_)
      · refine R_il3 (n := 37) C dX10_votes_36 rfl ?_
        refine R_iret C CR (Nat.zero_le _) (Nat.zero_le _) dX10_votes_37 ?_
        exact ⟨by rw [show sN σ = i by omega], rfl, rfl⟩
      · refine R_il1 (n := 18) C dX10_votes_17 rfl ?_
        refine R_il4 (n := 20) C dX10_votes_18 rfl ?_
        refine R_callS (n := 23) C (c_lookIn _ _ _ r (by omega) (by omega)) mw_X10_lookIn ml_X10_323 sv_X10_lookIn dX10_votes_20 rfl rfl (Nat.le_of_ble_eq_true rfl) ⟨Nat.le_of_ble_eq_true rfl, Nat.le_of_ble_eq_true rfl⟩ ⟨Nat.le_refl _, Nat.le_refl _⟩ rfl (pEs ?_)
        refine R_il2 (n := 24) C dX10_votes_23 rfl ?_
        have w4 := wy_lt l9 i
        refine R_icmp_neN (tgt := 30) C dX10_votes_24 rfl rfl (by omega) (by omega) (fun c2 => ?_) (fun c2 => ?_)
        · have e : vtz (i + 1) l9 w = vtz i l9 w := by simp [vtz, cnz, c2]
          refine R_inc4 (n := 33) C dX10_votes_30 rfl (Nat.le_of_ble_eq_true rfl) (inc_1 _) rfl ?_
          refine R_goto (n := 5) C dX10_votes_33 rfl ?_
          rw [← e]
          exact ih (i + 1) (by omega) (by omega)
        · have e : vtz (i + 1) l9 w = vtz i l9 w + 1 := by simp [vtz, cnz, c2]
          refine R_inc3 (n := 30) C dX10_votes_27 rfl (Nat.le_of_ble_eq_true rfl) (inc_1 _) rfl ?_
          refine R_inc4 (n := 33) C dX10_votes_30 rfl (Nat.le_of_ble_eq_true rfl) (inc_1 _) rfl ?_
          refine R_goto (n := 5) C dX10_votes_33 rfl ?_
          rw [← e]
          exact ih (i + 1) (by omega) (by omega)
  refine R_ic (n := 1) C dX10_votes_0 ci_0 rfl ?_
  refine R_is3 (n := 2) C dX10_votes_1 rfl (Nat.le_of_ble_eq_true rfl) rfl ?_
  refine R_ic (n := 3) C dX10_votes_2 ci_0 rfl ?_
  refine R_is4 (n := 5) C dX10_votes_3 rfl (Nat.le_of_ble_eq_true rfl) rfl ?_
  exact loop (sN σ + 1) 0 (by omega) (by omega)
set_option maxRecDepth 20000 in
set_option maxHeartbeats 4000000 in
theorem p_elected (l : Launch) (D : va_G) (cA : Nat → ClassId) (r : Nat → Nat) {h : Hp} {G : GS} (R : RCl G h) (I : InvG G) : Cn l D cA yX10_elected cX10_elected 4 (some .int) 2 0 0 [.ref (r 0)] (LY r) h (pG (some (.int (aElected G))) (LY r) (fun h' => RCl G h' ∧ FrC h h')) := by
  refine Cn.of (lv := [some (.ref (r 0)), none, none, none]) (by decide +kernel) (Nat.le_of_ble_eq_true rfl) rfl (fun X hnm C CR => ?_)
  have n5 := I.1.n5
  have nb := nuz_1024 I.1
  obtain ⟨f, hf⟩ : ∃ f, vtz (sN (gS G)) (nuz (gS G)) = f := ⟨_, rfl⟩
  have fb : ∀ w, f w ≤ 5 := fun w => by rw [← hf]; exact Nat.le_trans cnz_le n5
  have loop : ∀ (m i : Nat), 3 < i + m → i ≤ 3 → Rn X 0 0 12 [some (.ref (r 0)), some (.int (nI (nuz (gS G)))), some (.int (nI (elz f i))), some (.int (nI (i + 1)))] [] (LY r) h := by
    intro m
    induction m with
    | zero => intro i a1 a2; omega
    | succ m ih =>
      intro i a1 a2
      have el := elz_le f i
      refine R_il3 (n := 13) C dX10_elected_12 rfl ?_
      refine R_ic (n := 14) C dX10_elected_13 ci_4 rfl ?_
      refine R_icmp_geN (tgt := 40) C dX10_elected_14 rfl rfl (by omega) (by omega) (fun c => ?_) (fun c => ?_)
      · refine R_il2 (n := 41) C dX10_elected_40 rfl ?_
        refine R_iret C CR (Nat.zero_le _) (Nat.zero_le _) dX10_elected_41 ?_
        refine ⟨?_, rfl, R, FrC.rf⟩
        rw [aElected, hf, show i = 3 by omega]
      · refine R_al0 (n := 18) C dX10_elected_17 rfl ?_
        refine R_il1 (n := 19) C dX10_elected_18 rfl ?_
        refine R_il3 (n := 20) C dX10_elected_19 rfl ?_
        refine M_callV (n := 23) C (c_votes _ _ _ r R.1 I.1 nb (by omega)) mw_X10_votes ml_X10_243 iv_X10_votes dX10_elected_20 rfl rfl rfl rfl (Nat.le_of_ble_eq_true rfl) ⟨Nat.le_of_ble_eq_true rfl, Nat.le_of_ble_eq_true rfl⟩ ⟨Nat.le_refl _, Nat.le_refl _⟩ rfl (pEs ?_)
        refine R_al0 (n := 24) C dX10_elected_23 rfl ?_
        refine R_il1 (n := 25) C dX10_elected_24 rfl ?_
        refine R_il2 (n := 26) C dX10_elected_25 rfl ?_
        refine M_callV (n := 29) C (c_votes _ _ _ r R.1 I.1 nb (by omega)) mw_X10_votes ml_X10_243 iv_X10_votes dX10_elected_26 rfl rfl rfl rfl (Nat.le_of_ble_eq_true rfl) ⟨Nat.le_of_ble_eq_true rfl, Nat.le_of_ble_eq_true rfl⟩ ⟨Nat.le_refl _, Nat.le_refl _⟩ rfl (pEs ?_)
        rw [hf]
        have f1 := fb (i + 1)
        have f2 := fb (elz f i)
        refine R_icmp_leN (tgt := 34) C dX10_elected_29 rfl rfl (by omega) (by omega) (fun c2 => ?_) (fun c2 => ?_)
        · have e : elz f (i + 1) = elz f i := by rw [elz, if_neg (by omega)]
          refine R_inc3 (n := 37) C dX10_elected_34 rfl (Nat.le_of_ble_eq_true rfl) (inc_1 _) rfl ?_
          refine R_goto (n := 12) C dX10_elected_37 rfl ?_
          rw [← e]
          exact ih (i + 1) (by omega) (by omega)
        · have e : elz f (i + 1) = i + 1 := by rw [elz, if_pos (by omega)]
          refine R_il3 (n := 33) C dX10_elected_32 rfl ?_
          refine R_is2 (n := 34) C dX10_elected_33 rfl (Nat.le_of_ble_eq_true rfl) rfl ?_
          refine R_inc3 (n := 37) C dX10_elected_34 rfl (Nat.le_of_ble_eq_true rfl) (inc_1 _) rfl ?_
          refine R_goto (n := 12) C dX10_elected_37 rfl ?_
          have := ih (i + 1) (by omega) (by omega)
          rw [e] at this
          exact this
  refine R_al0 (n := 1) C dX10_elected_0 rfl ?_
  refine M_getR (n := 4) C fl_X10_12 dX10_elected_1 rfl rfl rfl ?_
  refine M_callV (n := 7) C (c_number _ _ _ r R.1 I.1) mw_X9_number ml_X10_234 iv_X9_number dX10_elected_4 rfl rfl rfl rfl (Nat.le_of_ble_eq_true rfl) ⟨Nat.le_of_ble_eq_true rfl, Nat.le_of_ble_eq_true rfl⟩ ⟨Nat.le_refl _, Nat.le_refl _⟩ rfl (pEs ?_)
  refine R_is1 (n := 8) C dX10_elected_7 rfl (Nat.le_of_ble_eq_true rfl) rfl ?_
  refine R_ic (n := 9) C dX10_elected_8 ci_0 rfl ?_
  refine R_is2 (n := 10) C dX10_elected_9 rfl (Nat.le_of_ble_eq_true rfl) rfl ?_
  refine R_ic (n := 11) C dX10_elected_10 ci_1 rfl ?_
  refine R_is3 (n := 12) C dX10_elected_11 rfl (Nat.le_of_ble_eq_true rfl) rfl ?_
  exact loop 4 0 (by omega) (by omega)
set_option maxRecDepth 20000 in
set_option maxHeartbeats 4000000 in
theorem p_state (l : Launch) (D : va_G) (cA : Nat → ClassId) (r : Nat → Nat) {h : Hp} {G : GS} (R : RCl G h) (I : InvG G) (hu v : Int32) : Cn l D cA yX10_state cX10_state 3 (some .int) 2 0 0 [.ref (r 0), .int hu, .int v] (LY r) h (pG (some (.int (aState G hu v))) (LY r) (fun h' => RCl G h' ∧ FrC h h')) := by
  refine Cn.of (lv := [some (.ref (r 0)), some (.int hu), some (.int v)]) (by decide +kernel) (Nat.le_of_ble_eq_true rfl) rfl (fun X hnm C CR => ?_)
  have n5 := I.1.n5
  refine R_al0 (n := 1) C dX10_state_0 rfl ?_
  refine M_getR (n := 4) C fl_X10_12 dX10_state_1 rfl rfl rfl ?_
  refine R_il1 (n := 5) C dX10_state_4 rfl ?_
  refine M_callV (n := 8) C (c_hasHut _ _ _ r R.1 I.1 hu) mw_X9_hasHut ml_X10_88 iv_X9_hasHut dX10_state_5 rfl rfl rfl rfl (Nat.le_of_ble_eq_true rfl) ⟨Nat.le_of_ble_eq_true rfl, Nat.le_of_ble_eq_true rfl⟩ ⟨Nat.le_refl _, Nat.le_refl _⟩ rfl (pEs ?_)
  refine R_if_neB (tgt := 13) C dX10_state_8 rfl rfl (fun c1 => ?_) (fun c1 => ?_)
  · obtain ⟨k, hk, rfl, hk2⟩ := hasH_of I.1 c1
    have c1' : hasH (gS G) (nI k) = true := c1
    rw [aState, c1', if_pos rfl, hk2] at CR
    refine R_il2 (n := 14) C dX10_state_13 rfl ?_
    refine R_ic (n := 15) C dX10_state_14 ci_0 rfl ?_
    refine R_ic (n := 16) C dX10_state_15 ci_1 rfl ?_
    refine R_callS (n := 19) C (c_isWithin _ _ _ r _ _ _) mw_X10_isWithin ml_X10_92 sv_X10_isWithin dX10_state_16 rfl rfl (Nat.le_of_ble_eq_true rfl) ⟨Nat.le_of_ble_eq_true rfl, Nat.le_of_ble_eq_true rfl⟩ ⟨Nat.le_refl _, Nat.le_refl _⟩ rfl (pEs ?_)
    refine R_if_neB (tgt := 25) C dX10_state_19 rfl rfl (fun c2 => ?_) (fun c2 => ?_)
    · obtain ⟨x, _, h2, rfl⟩ := win_of (by decide) (by decide) c2
      have xc : cl (nI x) = x := nI_clamp (by omega)
      rw [c2, if_pos rfl, xc] at CR
      refine R_il2 (n := 26) C dX10_state_25 rfl ?_
      refine R_if_neN (tgt := 41) C dX10_state_26 rfl rfl (by omega) (fun c3 => ?_) (fun c3 => ?_)
      · rw [if_neg c3] at CR
        refine R_al0 (n := 42) C dX10_state_41 rfl ?_
        refine M_getR (n := 45) C fl_X10_12 dX10_state_42 rfl rfl rfl ?_
        refine M_getR (n := 48) C fl_X10_169 dX10_state_45 rfl rfl rfl ?_
        refine R_il1 (n := 49) C dX10_state_48 rfl ?_
        refine M_iald (n := 50) C dX10_state_49 rfl (by omega) (wLg R.1 (by omega)) rfl ?_
        refine R_iret C CR (Nat.zero_le _) (Nat.zero_le _) dX10_state_50 ?_
        exact ⟨rfl, rfl, R, FrC.rf⟩
      · rw [if_pos c3] at CR
        refine R_al0 (n := 30) C dX10_state_29 rfl ?_
        refine M_getR (n := 33) C fl_X10_12 dX10_state_30 rfl rfl rfl ?_
        refine M_getR (n := 36) C fl_X10_168 dX10_state_33 rfl rfl rfl ?_
        refine R_il1 (n := 37) C dX10_state_36 rfl ?_
        refine M_iald (n := 38) C dX10_state_37 rfl (by omega) (wLk R.1 (by omega)) rfl ?_
        refine R_goto (n := 50) C dX10_state_38 rfl ?_
        refine R_iret C CR (Nat.zero_le _) (Nat.zero_le _) dX10_state_50 ?_
        exact ⟨rfl, rfl, R, FrC.rf⟩
    · refine R_bp (n := 24) C dX10_state_22 cb_m2 rfl ?_
      refine R_iret C CR (Nat.zero_le _) (Nat.zero_le _) dX10_state_24 ?_
      exact ⟨by rw [c2]; rfl, rfl, R, FrC.rf⟩
  · refine R_ic (n := 12) C dX10_state_11 ci_m1 rfl ?_
    refine R_iret C CR (Nat.zero_le _) (Nat.zero_le _) dX10_state_12 ?_
    have c1' : hasH (gS G) hu = false := c1
    exact ⟨by rw [aState, c1']; rfl, rfl, R, FrC.rf⟩
set_option maxRecDepth 20000 in
set_option maxHeartbeats 4000000 in
theorem p_bare (l : Launch) (D : va_G) (cA : Nat → ClassId) (r : Nat → Nat) {h : Hp} {G : GS} (R : RCl G h) (I : InvG G) (w hu : Int32) : Cn l D cA yX10_bare cX10_bare 4 (some .int) 2 0 0 [.ref (r 0), .int w, .int hu] (LY r) h (pG (some (.int (aBare G w hu))) (LY r) (fun h' => RCl G h' ∧ FrC h h')) := by
  refine Cn.of (lv := [some (.ref (r 0)), some (.int w), some (.int hu), none]) (by decide +kernel) (Nat.le_of_ble_eq_true rfl) rfl (fun X hnm C CR => ?_)
  have n5 := I.1.n5
  refine R_al0 (n := 1) C dX10_bare_0 rfl ?_
  refine M_getR (n := 4) C fl_X10_12 dX10_bare_1 rfl rfl rfl ?_
  refine R_il1 (n := 5) C dX10_bare_4 rfl ?_
  refine M_callV (n := 8) C (c_knows _ _ _ r R.1 I.1 w) mw_X9_knows ml_X10_136 iv_X9_knows dX10_bare_5 rfl rfl rfl rfl (Nat.le_of_ble_eq_true rfl) ⟨Nat.le_of_ble_eq_true rfl, Nat.le_of_ble_eq_true rfl⟩ ⟨Nat.le_refl _, Nat.le_refl _⟩ rfl (pEs ?_)
  refine R_if_eqB (tgt := 22) C dX10_bare_8 rfl rfl (fun c1 => ?_) (fun c1 => ?_)
  · refine R_ic (n := 23) C dX10_bare_22 ci_m1 rfl ?_
    refine R_iret C CR (Nat.zero_le _) (Nat.zero_le _) dX10_bare_23 ?_
    exact ⟨by rw [aBare, c1]; rfl, rfl, R, FrC.rf⟩
  · refine R_al0 (n := 12) C dX10_bare_11 rfl ?_
    refine M_getR (n := 15) C fl_X10_12 dX10_bare_12 rfl rfl rfl ?_
    refine R_il2 (n := 16) C dX10_bare_15 rfl ?_
    refine M_callV (n := 19) C (c_hasHut _ _ _ r R.1 I.1 hu) mw_X9_hasHut ml_X10_88 iv_X9_hasHut dX10_bare_16 rfl rfl rfl rfl (Nat.le_of_ble_eq_true rfl) ⟨Nat.le_of_ble_eq_true rfl, Nat.le_of_ble_eq_true rfl⟩ ⟨Nat.le_refl _, Nat.le_refl _⟩ rfl (pEs ?_)
    refine R_if_neB (tgt := 24) C dX10_bare_19 rfl rfl (fun c2 => ?_) (fun c2 => ?_)
    · obtain ⟨k, hk, rfl, hk2⟩ := hasH_of I.1 c2
      have c2' : hasH (gS G) (nI k) = true := c2
      obtain ⟨x, hx, rfl, hx2⟩ := kwz_of c1
      have xc : cl (nI x) = x := nI_clamp (by omega)
      rw [aBare, c1, c2', Bool.and_self, if_pos rfl, hk2, xc] at CR
      have q4 := qz_le I.1 (l := sA (gS G) 0 k) hx (show k < 5 by omega)
      have lg := I.1.lg (k := k) (by omega)
      refine R_al0 (n := 25) C dX10_bare_24 rfl ?_
      refine M_getR (n := 28) C fl_X10_12 dX10_bare_25 rfl rfl rfl ?_
      refine R_il1 (n := 29) C dX10_bare_28 rfl ?_
      refine R_il2 (n := 30) C dX10_bare_29 rfl ?_
      refine R_al0 (n := 31) C dX10_bare_30 rfl ?_
      refine M_getR (n := 34) C fl_X10_12 dX10_bare_31 rfl rfl rfl ?_
      refine M_getR (n := 37) C fl_X10_168 dX10_bare_34 rfl rfl rfl ?_
      refine R_il2 (n := 38) C dX10_bare_37 rfl ?_
      refine M_iald (n := 39) C dX10_bare_38 rfl (by omega) (wLk R.1 (by omega)) rfl ?_
      refine M_callV (n := 42) C (c_quarters _ _ _ r R.1 I.1 hx (by omega) (I.1.lk (by omega))) mw_X9_quarters ml_X10_170 iv_X9_quarters dX10_bare_39 rfl rfl rfl rfl (Nat.le_of_ble_eq_true rfl) ⟨Nat.le_of_ble_eq_true rfl, Nat.le_of_ble_eq_true rfl⟩ ⟨Nat.le_refl _, Nat.le_refl _⟩ rfl (pEs ?_)
      refine R_is3 (n := 43) C dX10_bare_42 rfl (Nat.le_of_ble_eq_true rfl) rfl ?_
      refine R_il3 (n := 44) C dX10_bare_43 rfl ?_
      refine R_if_eqN (tgt := 60) C dX10_bare_44 rfl rfl (by omega) (fun c3 => ?_) (fun c3 => ?_)
      · refine R_ic (n := 61) C dX10_bare_60 ci_1 rfl ?_
        refine R_goto (n := 65) C dX10_bare_61 rfl ?_
        refine R_iret C CR (Nat.zero_le _) (Nat.zero_le _) dX10_bare_65 ?_
        exact ⟨by rw [brz, decide_eq_true c3]; rfl, rfl, R, FrC.rf⟩
      · refine R_il3 (n := 48) C dX10_bare_47 rfl ?_
        refine R_al0 (n := 49) C dX10_bare_48 rfl ?_
        refine M_getR (n := 52) C fl_X10_12 dX10_bare_49 rfl rfl rfl ?_
        refine M_getR (n := 55) C fl_X10_169 dX10_bare_52 rfl rfl rfl ?_
        refine R_il2 (n := 56) C dX10_bare_55 rfl ?_
        refine M_iald (n := 57) C dX10_bare_56 rfl (by omega) (wLg R.1 (by omega)) rfl ?_
        refine R_icmp_leN (tgt := 64) C dX10_bare_57 rfl rfl (by omega) (by omega) (fun c4 => ?_) (fun c4 => ?_)
        · refine R_ic (n := 65) C dX10_bare_64 ci_0 rfl ?_
          refine R_iret C CR (Nat.zero_le _) (Nat.zero_le _) dX10_bare_65 ?_
          exact ⟨by rw [brz, decide_eq_false c3, decide_eq_false (by omega)]; rfl, rfl, R, FrC.rf⟩
        · refine R_ic (n := 61) C dX10_bare_60 ci_1 rfl ?_
          refine R_goto (n := 65) C dX10_bare_61 rfl ?_
          refine R_iret C CR (Nat.zero_le _) (Nat.zero_le _) dX10_bare_65 ?_
          exact ⟨by rw [brz, decide_eq_true c4, Bool.or_true]; rfl, rfl, R, FrC.rf⟩
    · have c2' : hasH (gS G) hu = false := c2
      refine R_ic (n := 23) C dX10_bare_22 ci_m1 rfl ?_
      refine R_iret C CR (Nat.zero_le _) (Nat.zero_le _) dX10_bare_23 ?_
      exact ⟨by rw [aBare, c2', Bool.and_false]; rfl, rfl, R, FrC.rf⟩
set_option maxRecDepth 20000 in
set_option maxHeartbeats 4000000 in
theorem p_forget (l : Launch) (D : va_G) (cA : Nat → ClassId) (r : Nat → Nat) {h : Hp} {G : GS} (R : RCl G h) (I : InvG G) : Cn l D cA yX10_forget cX10_forget 2 (some .int) 0 0 0 [.ref (r 0)] (LY r) h (pG (some (.int (aForget G))) (LY r) (fun h' => RCl (nForget G) h' ∧ FrC h h')) := by
  refine Cn.of (lv := [some (.ref (r 0)), none]) (by decide +kernel) (Nat.le_of_ble_eq_true rfl) rfl (fun X hnm C CR => ?_)
  refine R_al0 (n := 1) C dX10_forget_0 rfl ?_
  refine M_getR (n := 4) C fl_X10_12 dX10_forget_1 rfl rfl rfl ?_
  refine M_getI (n := 7) C fl_X10_249 dX10_forget_4 rfl rfl (wSg R.1) rfl ?_
  refine R_is1 (n := 8) C dX10_forget_7 rfl (Nat.le_of_ble_eq_true rfl) rfl ?_
  refine R_al0 (n := 9) C dX10_forget_8 rfl ?_
  refine M_getR (n := 12) C fl_X10_12 dX10_forget_9 rfl rfl rfl ?_
  refine R_ic (n := 13) C dX10_forget_12 ci_0 rfl ?_
  refine M_putI (n := 16) C fl_X10_249 dX10_forget_13 rfl rfl rfl rfl rfl ?_
  refine R_il1 (n := 17) C dX10_forget_16 rfl ?_
  refine R_iret C CR (Nat.zero_le _) (Nat.zero_le _) dX10_forget_17 ?_
  refine ⟨rfl, rfl, R.wood ⟨up2_gne (by decide) R.1.1, up2_gne (by decide) R.1.2.1, up2_same, fun j k hj hk => ?_⟩ (fun a ha => up2_row (by omega)), FrC.rf.up (by decide)⟩
  rw [up2_row (by omega)]
  exact R.1.2.2.2 j k hj hk
set_option maxRecDepth 20000 in
set_option maxHeartbeats 4000000 in
theorem c_addSight (l : Launch) (D : va_G) (cA : Nat → ClassId) (r : Nat → Nat) {h : Hp} {σ : WS} (R : RW 1 σ h) (I : Inv σ) {a b c : Nat} : Cn l D cA yX9_addSight cX9_addSight 4 (some .int) 0 0 0 [.ref (r 1), .int (nI a), .int (nI b), .int (nI c)] (LY r) h (pG (some (.int (if sSg σ < 6 then nI (sSg σ + 1) else -4))) (LY r) (fun h' => RW 1 (if sSg σ < 6 then sez σ a b c else σ) h' ∧ ∀ z, z ≠ 1 → z ≠ 8 → z ≠ 9 → z ≠ 10 → h' z = h z)) := by
  refine Cn.of (lv := [some (.ref (r 1)), some (.int (nI a)), some (.int (nI b)), some (.int (nI c))]) (by decide +kernel) (Nat.le_of_ble_eq_true rfl) rfl (fun X hnm C CR => ?_)
  have sg := I.sg
  refine R_al0 (n := 1) C dX9_addSight_0 rfl ?_
  refine M_getI (n := 4) C fl_X9_50 dX9_addSight_1 rfl rfl (wSg R) rfl ?_
  refine R_bp (n := 6) C dX9_addSight_4 cb_6 rfl ?_
  refine R_icmp_ltN (tgt := 12) C dX9_addSight_6 rfl rfl (by omega) (by omega) (fun c1 => ?_) (fun c1 => ?_)
  · rw [if_pos c1, if_pos c1] at CR
    have R1 : RW 1 (setA σ 6 (sSg σ) a) (up2 h 8 (sSg σ) (nI a)) := R.set (j := 6)
    have R2 : RW 1 (setA (setA σ 6 (sSg σ) a) 7 (sSg σ) b) (up2 (up2 h 8 (sSg σ) (nI a)) 9 (sSg σ) (nI b)) := R1.set (j := 7)
    have R3 : RW 1 (setA (setA (setA σ 6 (sSg σ) a) 7 (sSg σ) b) 8 (sSg σ) c) (up2 (up2 (up2 h 8 (sSg σ) (nI a)) 9 (sSg σ) (nI b)) 10 (sSg σ) (nI c)) := R2.set (j := 8)
    refine R_al0 (n := 13) C dX9_addSight_12 rfl ?_
    refine M_getR (n := 16) C fl_X9_30 dX9_addSight_13 rfl rfl rfl ?_
    refine R_al0 (n := 17) C dX9_addSight_16 rfl ?_
    refine M_getI (n := 20) C fl_X9_50 dX9_addSight_17 rfl rfl (wSg R) rfl ?_
    refine R_il1 (n := 21) C dX9_addSight_20 rfl ?_
    refine M_iast (n := 22) C dX9_addSight_21 rfl (by omega) rfl ?_
    refine R_al0 (n := 23) C dX9_addSight_22 rfl ?_
    refine M_getR (n := 26) C fl_X9_33 dX9_addSight_23 rfl rfl rfl ?_
    refine R_al0 (n := 27) C dX9_addSight_26 rfl ?_
    refine M_getI (n := 30) C fl_X9_50 dX9_addSight_27 rfl rfl (show _ = nI (sSg σ) from R1.2.2.1) rfl ?_
    refine R_il2 (n := 31) C dX9_addSight_30 rfl ?_
    refine M_iast (n := 32) C dX9_addSight_31 rfl (by omega) rfl ?_
    refine R_al0 (n := 33) C dX9_addSight_32 rfl ?_
    refine M_getR (n := 36) C fl_X9_36 dX9_addSight_33 rfl rfl rfl ?_
    refine R_al0 (n := 37) C dX9_addSight_36 rfl ?_
    refine M_getI (n := 40) C fl_X9_50 dX9_addSight_37 rfl rfl (show _ = nI (sSg σ) from R2.2.2.1) rfl ?_
    refine R_il3 (n := 41) C dX9_addSight_40 rfl ?_
    refine M_iast (n := 42) C dX9_addSight_41 rfl (by omega) rfl ?_
    refine R_al0 (n := 43) C dX9_addSight_42 rfl ?_
    refine R_dup (n := 44) C dX9_addSight_43 rfl rfl ?_
    refine M_getI (n := 47) C fl_X9_50 dX9_addSight_44 rfl rfl (show _ = nI (sSg σ) from R3.2.2.1) rfl ?_
    refine R_ic (n := 48) C dX9_addSight_47 ci_1 rfl ?_
    refine R_iaddN (n := 49) C dX9_addSight_48 rfl ?_
    refine M_putI (n := 52) C fl_X9_50 dX9_addSight_49 rfl rfl rfl rfl rfl ?_
    refine R_al0 (n := 53) C dX9_addSight_52 rfl ?_
    refine M_getI (n := 56) C fl_X9_50 dX9_addSight_53 rfl rfl up2_same rfl ?_
    refine R_iret C CR (Nat.zero_le _) (Nat.zero_le _) dX9_addSight_56 ?_
    refine ⟨rfl, rfl, ⟨up2_gne (by decide) R3.1, up2_gne (by decide) R3.2.1, up2_same, fun j k hj hk => ?_⟩, fun z b1 b2 b3 b4 => ?_⟩
    · rw [up2_row (by omega)]
      exact R3.2.2.2 j k hj hk
    · rw [up2_row b1, up2_row b4, up2_row b3, up2_row b2]
  · rw [if_neg (by omega), if_neg (by omega)] at CR
    refine R_bp (n := 11) C dX9_addSight_9 cb_m4 rfl ?_
    refine R_iret C CR (Nat.zero_le _) (Nat.zero_le _) dX9_addSight_11 ?_
    exact ⟨rfl, rfl, R, fun _ _ _ _ _ => rfl⟩
set_option maxRecDepth 20000 in
set_option maxHeartbeats 4000000 in
theorem p_seen (l : Launch) (D : va_G) (cA : Nat → ClassId) (r : Nat → Nat) {h : Hp} {G : GS} (R : RCl G h) (I : InvG G) (hu ev w : Int32) : Cn l D cA yX10_seen cX10_seen 4 (some .int) 2 0 0 [.ref (r 0), .int hu, .int ev, .int w] (LY r) h (pG (some (.int (aSeen G hu ev w))) (LY r) (fun h' => RCl (nSeen G hu ev w) h' ∧ FrC h h')) := by
  refine Cn.of (lv := [some (.ref (r 0)), some (.int hu), some (.int ev), some (.int w)]) (by decide +kernel) (Nat.le_of_ble_eq_true rfl) rfl (fun X hnm C CR => ?_)
  have n5 := I.1.n5
  refine R_al0 (n := 1) C dX10_seen_0 rfl ?_
  refine M_getR (n := 4) C fl_X10_12 dX10_seen_1 rfl rfl rfl ?_
  refine R_il1 (n := 5) C dX10_seen_4 rfl ?_
  refine M_callV (n := 8) C (c_hasHut _ _ _ r R.1 I.1 hu) mw_X9_hasHut ml_X10_88 iv_X9_hasHut dX10_seen_5 rfl rfl rfl rfl (Nat.le_of_ble_eq_true rfl) ⟨Nat.le_of_ble_eq_true rfl, Nat.le_of_ble_eq_true rfl⟩ ⟨Nat.le_refl _, Nat.le_refl _⟩ rfl (pEs ?_)
  refine R_if_neB (tgt := 13) C dX10_seen_8 rfl rfl (fun c1 => ?_) (fun c1 => ?_)
  · obtain ⟨k, hk, rfl, hk2⟩ := hasH_of I.1 c1
    have c1' : hasH (gS G) (nI k) = true := c1
    rw [aSeen, nSeen, c1', if_pos rfl, hk2, Bool.true_and] at CR
    have bad : (win ev (nI 0) (nI 30) && win w (nI 0) (nI 3)) = false → Rn X 0 0 32 [some (.ref (r 0)), some (.int (nI k)), some (.int ev), some (.int w)] [] (LY r) h := by
      intro q
      rw [q] at CR
      refine R_bp (n := 34) C dX10_seen_32 cb_m2 rfl ?_
      refine R_iret C CR (Nat.zero_le _) (Nat.zero_le _) dX10_seen_34 ?_
      exact ⟨rfl, rfl, R, FrC.rf⟩
    refine R_il2 (n := 14) C dX10_seen_13 rfl ?_
    refine R_ic (n := 15) C dX10_seen_14 ci_0 rfl ?_
    refine R_bp (n := 17) C dX10_seen_15 cb_30 rfl ?_
    refine R_callS (n := 20) C (c_isWithin _ _ _ r _ _ _) mw_X10_isWithin ml_X10_92 sv_X10_isWithin dX10_seen_17 rfl rfl (Nat.le_of_ble_eq_true rfl) ⟨Nat.le_of_ble_eq_true rfl, Nat.le_of_ble_eq_true rfl⟩ ⟨Nat.le_refl _, Nat.le_refl _⟩ rfl (pEs ?_)
    refine R_if_eqB (tgt := 32) C dX10_seen_20 rfl rfl (fun c2 => ?_) (fun c2 => ?_)
    · exact bad (by rw [c2]; rfl)
    · obtain ⟨x, _, hx, rfl⟩ := win_of (by decide) (by decide) c2
      have xc : cl (nI x) = x := nI_clamp (by omega)
      refine R_il3 (n := 24) C dX10_seen_23 rfl ?_
      refine R_ic (n := 25) C dX10_seen_24 ci_0 rfl ?_
      refine R_ic (n := 26) C dX10_seen_25 ci_3 rfl ?_
      refine R_callS (n := 29) C (c_isWithin _ _ _ r _ _ _) mw_X10_isWithin ml_X10_92 sv_X10_isWithin dX10_seen_26 rfl rfl (Nat.le_of_ble_eq_true rfl) ⟨Nat.le_of_ble_eq_true rfl, Nat.le_of_ble_eq_true rfl⟩ ⟨Nat.le_refl _, Nat.le_refl _⟩ rfl (pEs ?_)
      refine R_if_neB (tgt := 35) C dX10_seen_29 rfl rfl (fun c3 => ?_) (fun c3 => ?_)
      · obtain ⟨y, _, hy, rfl⟩ := win_of (by decide) (by decide) c3
        have yc : cl (nI y) = y := nI_clamp (by omega)
        rw [c2, c3, Bool.and_self, if_pos rfl, xc, yc, Bool.true_and] at CR
        refine R_al0 (n := 36) C dX10_seen_35 rfl ?_
        refine M_getR (n := 39) C fl_X10_12 dX10_seen_36 rfl rfl rfl ?_
        refine R_il1 (n := 40) C dX10_seen_39 rfl ?_
        refine R_il2 (n := 41) C dX10_seen_40 rfl ?_
        refine R_il3 (n := 42) C dX10_seen_41 rfl ?_
        refine M_callV (n := 45) C (c_addSight _ _ _ r R.1 I.1) mw_X9_addSight ml_X10_246 iv_X9_addSight dX10_seen_42 rfl rfl rfl rfl (Nat.le_of_ble_eq_true rfl) ⟨Nat.le_of_ble_eq_true rfl, Nat.le_of_ble_eq_true rfl⟩ ⟨Nat.le_refl _, Nat.le_refl _⟩ rfl (pGs (fun h1 q1 => ?_))
        refine R_iret C CR (Nat.zero_le _) (Nat.zero_le _) dX10_seen_45 ?_
        refine ⟨rfl, rfl, ?_, fun a ha => q1.2 a (by omega) (by omega) (by omega) (by omega)⟩
        have q2 := q1.1
        by_cases c4 : sSg (gS G) < 6
        · rw [if_pos c4] at q2
          rw [decide_eq_true c4, if_pos rfl]
          exact R.wood q2 (fun a ha => q1.2 a (by omega) (by omega) (by omega) (by omega))
        · rw [if_neg c4] at q2
          rw [decide_eq_false c4]
          exact R.wood q2 (fun a ha => q1.2 a (by omega) (by omega) (by omega) (by omega))
      · exact bad (by rw [c3, Bool.and_false])
  · have c1' : hasH (gS G) hu = false := c1
    rw [aSeen, nSeen, c1', Bool.false_and, Bool.false_and] at CR
    refine R_ic (n := 12) C dX10_seen_11 ci_m1 rfl ?_
    refine R_iret C CR (Nat.zero_le _) (Nat.zero_le _) dX10_seen_12 ?_
    exact ⟨rfl, rfl, R, FrC.rf⟩
