abbrev YA : List Nat := 74 :: 75 :: TA
set_option maxRecDepth 20000 in
set_option maxHeartbeats 4000000 in
theorem c_mKeepNow (l : Launch) (D : va_G) (cA : Nat → ClassId) (r : Nat → Nat) {h : Hp} : Cn l D cA yX11_keepNow cX11_keepNow 2 none 0 0 0 [.ref (r 73)] (LY r) h (pG none (LY r) (fun h' => (∀ k, k < 5 → h' 85 k = h 74 k ∧ h' 86 k = h 75 k) ∧ FrA [85, 86] [] h h')) := by
  refine Cn.of (lv := [some (.ref (r 73)), none]) (by decide +kernel) (Nat.le_of_ble_eq_true rfl) rfl (fun X hnm C CR => ?_)
  have loop : ∀ (m i : Nat) (h1 : Hp), 5 < i + m → i ≤ 5 → (∀ k, k < i → h1 85 k = h 74 k ∧ h1 86 k = h 75 k) → FrA [85, 86] [] h h1 → Rn X 0 0 2 [some (.ref (r 73)), some (.int (nI i))] [] (LY r) h1 := by
    intro m
    induction m with
    | zero => intro i h1 a1 a2; omega
    | succ m ih =>
      intro i h1 a1 a2 q F1
      refine R_il1 (n := 3) C dX11_keepNow_2 rfl ?_
      refine R_ic (n := 4) C dX11_keepNow_3 ci_5 rfl ?_
      refine R_icmp_geN (tgt := 37) C dX11_keepNow_4 rfl rfl (by omega) (by omega) (fun c1 => ?_) (fun c1 => ?_)
      · refine R_vret C CR (Nat.zero_le _) (Nat.zero_le _) dX11_keepNow_37 ?_
        exact ⟨rfl, rfl, fun k hk => q k (by omega), F1⟩
      · refine R_al0 (n := 8) C dX11_keepNow_7 rfl ?_
        refine M_getR (n := 11) C fl_X11_43 dX11_keepNow_8 rfl rfl rfl ?_
        refine R_il1 (n := 12) C dX11_keepNow_11 rfl ?_
        refine R_al0 (n := 13) C dX11_keepNow_12 rfl ?_
        refine M_getR (n := 16) C fl_X11_7 dX11_keepNow_13 rfl rfl rfl ?_
        refine R_il1 (n := 17) C dX11_keepNow_16 rfl ?_
        refine M_iald (n := 18) C dX11_keepNow_17 rfl c1 (show h1 74 i = h 74 i from congrFun (F1.1 74 (by decide) (by decide)) i) rfl ?_
        refine M_iast (n := 19) C dX11_keepNow_18 rfl c1 rfl ?_
        refine R_al0 (n := 20) C dX11_keepNow_19 rfl ?_
        refine M_getR (n := 23) C fl_X11_46 dX11_keepNow_20 rfl rfl rfl ?_
        refine R_il1 (n := 24) C dX11_keepNow_23 rfl ?_
        refine R_al0 (n := 25) C dX11_keepNow_24 rfl ?_
        refine M_getR (n := 28) C fl_X11_13 dX11_keepNow_25 rfl rfl rfl ?_
        refine R_il1 (n := 29) C dX11_keepNow_28 rfl ?_
        refine M_iald (n := 30) C dX11_keepNow_29 rfl c1 (show (up2 h1 85 i (h 74 i)) 75 i = h 75 i from (congrFun (up2_row (by decide)) i).trans (congrFun (F1.1 75 (by decide) (by decide)) i)) rfl ?_
        refine M_iast (n := 31) C dX11_keepNow_30 rfl c1 rfl ?_
        refine R_inc1 (n := 34) C dX11_keepNow_31 rfl (Nat.le_of_ble_eq_true rfl) (inc_1 _) rfl ?_
        refine R_goto (n := 2) C dX11_keepNow_34 rfl ?_
        refine ih (i + 1) _ (by omega) (by omega) (fun k hk => ?_) ((F1.up (by decide) (by decide)).up (by decide) (by decide))
        rw [up2_at, up2_row (by decide), up2_at]
        by_cases g : k = i
        · rw [if_pos g, if_pos g, g]; exact ⟨rfl, rfl⟩
        · rw [if_neg g, if_neg g, up2_row (by decide)]
          exact q k (by omega)
  refine R_ic (n := 1) C dX11_keepNow_0 ci_0 rfl ?_
  refine R_is1 (n := 2) C dX11_keepNow_1 rfl (Nat.le_of_ble_eq_true rfl) rfl ?_
  exact loop 6 0 h (by omega) (by omega) (fun k hk => by omega) FrA.rf
set_option maxRecDepth 20000 in
set_option maxHeartbeats 4000000 in
theorem c_mPutBack (l : Launch) (D : va_G) (cA : Nat → ClassId) (r : Nat → Nat) {h : Hp} : Cn l D cA yX11_putBack cX11_putBack 2 none 0 0 0 [.ref (r 73)] (LY r) h (pG none (LY r) (fun h' => (∀ k, k < 5 → h' 74 k = h 85 k ∧ h' 75 k = h 86 k) ∧ FrA VA [] h h')) := by
  refine Cn.of (lv := [some (.ref (r 73)), none]) (by decide +kernel) (Nat.le_of_ble_eq_true rfl) rfl (fun X hnm C CR => ?_)
  have loop : ∀ (m i : Nat) (h1 : Hp), 5 < i + m → i ≤ 5 → (∀ k, k < i → h1 74 k = h 85 k ∧ h1 75 k = h 86 k) → FrA VA [] h h1 → Rn X 0 0 2 [some (.ref (r 73)), some (.int (nI i))] [] (LY r) h1 := by
    intro m
    induction m with
    | zero => intro i h1 a1 a2; omega
    | succ m ih =>
      intro i h1 a1 a2 q F1
      refine R_il1 (n := 3) C dX11_putBack_2 rfl ?_
      refine R_ic (n := 4) C dX11_putBack_3 ci_5 rfl ?_
      refine R_icmp_geN (tgt := 37) C dX11_putBack_4 rfl rfl (by omega) (by omega) (fun c1 => ?_) (fun c1 => ?_)
      · refine R_vret C CR (Nat.zero_le _) (Nat.zero_le _) dX11_putBack_37 ?_
        exact ⟨rfl, rfl, fun k hk => q k (by omega), F1⟩
      · refine R_al0 (n := 8) C dX11_putBack_7 rfl ?_
        refine M_getR (n := 11) C fl_X11_7 dX11_putBack_8 rfl rfl rfl ?_
        refine R_il1 (n := 12) C dX11_putBack_11 rfl ?_
        refine R_al0 (n := 13) C dX11_putBack_12 rfl ?_
        refine M_getR (n := 16) C fl_X11_43 dX11_putBack_13 rfl rfl rfl ?_
        refine R_il1 (n := 17) C dX11_putBack_16 rfl ?_
        refine M_iald (n := 18) C dX11_putBack_17 rfl c1 (show h1 85 i = h 85 i from congrFun (F1.1 85 (by decide) (by decide)) i) rfl ?_
        refine M_iast (n := 19) C dX11_putBack_18 rfl c1 rfl ?_
        refine R_al0 (n := 20) C dX11_putBack_19 rfl ?_
        refine M_getR (n := 23) C fl_X11_13 dX11_putBack_20 rfl rfl rfl ?_
        refine R_il1 (n := 24) C dX11_putBack_23 rfl ?_
        refine R_al0 (n := 25) C dX11_putBack_24 rfl ?_
        refine M_getR (n := 28) C fl_X11_46 dX11_putBack_25 rfl rfl rfl ?_
        refine R_il1 (n := 29) C dX11_putBack_28 rfl ?_
        refine M_iald (n := 30) C dX11_putBack_29 rfl c1 (show (up2 h1 74 i (h 85 i)) 86 i = h 86 i from (congrFun (up2_row (by decide)) i).trans (congrFun (F1.1 86 (by decide) (by decide)) i)) rfl ?_
        refine M_iast (n := 31) C dX11_putBack_30 rfl c1 rfl ?_
        refine R_inc1 (n := 34) C dX11_putBack_31 rfl (Nat.le_of_ble_eq_true rfl) (inc_1 _) rfl ?_
        refine R_goto (n := 2) C dX11_putBack_34 rfl ?_
        refine ih (i + 1) _ (by omega) (by omega) (fun k hk => ?_) ((F1.up (by decide) (by decide)).up (by decide) (by decide))
        rw [up2_at, up2_row (by decide), up2_at]
        by_cases g : k = i
        · rw [if_pos g, if_pos g, g]; exact ⟨rfl, rfl⟩
        · rw [if_neg g, if_neg g, up2_row (by decide)]
          exact q k (by omega)
  refine R_ic (n := 1) C dX11_putBack_0 ci_0 rfl ?_
  refine R_is1 (n := 2) C dX11_putBack_1 rfl (Nat.le_of_ble_eq_true rfl) rfl ?_
  exact loop 6 0 h (by omega) (by omega) (fun k hk => by omega) FrA.rf
def okX (n x : Nat) : Prop := x ≤ 7 ∨ ∃ k w, k < n ∧ w < 4 ∧ x = 10 * (k + 1) + w
theorem okX.lt {n x : Nat} (h : okX n x) (n5 : n ≤ 5) : x < 64 := by
  rcases h with h | ⟨k, w, h1, h2, h3⟩ <;> omega
theorem sgE_lt {s : Nat} (h : s = 42 ∨ s = 46 ∨ isLt s = true) : sgE s ≤ 7 := by
  rcases h with rfl | rfl | h
  · decide
  · decide
  · simp [isLt] at h
    unfold sgE
    split
    · omega
    · split <;> omega
theorem evL_ok {n : Nat} {ps : Nat → Nat} : ∀ (m i : Nat) (pd : Option Nat), evS n ps m i pd = none → (∀ k, pd = some k → k < n) → ∀ x ∈ evL ps m i pd, okX n x
  | 0, i, pd, _, _ => by intro x hx; simp [evL] at hx
  | m + 1, i, some k, h, hk => by
    unfold evS at h
    by_cases g : isW (ps i) = true
    · rw [if_pos g] at h
      intro x hx
      unfold evL at hx
      rcases List.mem_cons.mp hx with rfl | hx
      · exact Or.inr ⟨k, _, hk k rfl, wyN_lt _, rfl⟩
      · exact evL_ok m (i + 1) none h (fun k q => by cases q) x hx
    · rw [if_neg g] at h
      cases h
  | m + 1, i, none, h, hk => by
    by_cases g : isDg (ps i) = true
    · unfold evS at h
      rw [if_pos g] at h
      by_cases g2 : ps i - 48 < n
      · rw [if_pos g2] at h
        intro x hx
        unfold evL at hx
        rw [if_pos g] at hx
        exact evL_ok m (i + 1) (some (ps i - 48)) h (fun k q => by cases q; exact g2) x hx
      · rw [if_neg g2] at h
        cases h
    · have g' : isDg (ps i) = false := by simpa using g
      obtain ⟨v1, v2⟩ := evS_ot h g'
      intro x hx
      unfold evL at hx
      rw [if_neg g] at hx
      rcases List.mem_cons.mp hx with rfl | hx
      · exact Or.inl (sgE_lt v1)
      · exact evL_ok m (i + 1) none v2 (fun k q => by cases q) x hx
theorem evL_len {ps : Nat → Nat} : ∀ (m i : Nat) (pd : Option Nat), (evL ps m i pd).length ≤ m
  | 0, i, pd => by simp [evL]
  | m + 1, i, some k => by
    unfold evL
    have := evL_len (ps := ps) m (i + 1) none
    simp; omega
  | m + 1, i, none => by
    unfold evL
    split
    · have := evL_len (ps := ps) m (i + 1) (some (ps i - 48)); omega
    · have := evL_len (ps := ps) m (i + 1) none
      simp; omega
theorem evr_cnt {σ : WS} : ∀ (E : List Nat) (e : EV) (c : Nat), (evr σ E e c).2.2 = 0 → (evr σ E e c).2.1 = c + E.length
  | [], e, c, _ => rfl
  | x :: t, e, c, h => by
    unfold evr at h ⊢
    by_cases g : whz σ e x = 0
    · rw [if_pos g] at h ⊢
      rw [evr_cnt t _ _ h, List.length_cons]
      omega
    · rw [if_neg g] at h
      exact absurd h g
set_option maxRecDepth 20000 in
set_option maxHeartbeats 4000000 in
theorem c_mHappen (l : Launch) (D : va_G) (cA : Nat → ClassId) (r : Nat → Nat) {h : Hp} {σ : WS} {o : Int32 × Int32 × Int32} {e : EV} (E : REM o σ e h) (I : Inv σ) (O : EOk σ e) {x : Nat} (hx : x < 64) : Cn l D cA yX11_happen cX11_happen 2 none 2 0 0 [.ref (r 73), .int (nI x)] (LY r) h (pG none (LY r) (fun h' => REM o σ (hpz σ x e) h' ∧ FrA VA VS h h')) := by
  refine Cn.of (lv := [some (.ref (r 73)), some (.int (nI x))]) (by decide +kernel) (Nat.le_of_ble_eq_true rfl) rfl (fun X hnm C CR => ?_)
  refine R_il1 (n := 1) C dX11_happen_0 rfl ?_
  refine R_bp (n := 3) C dX11_happen_1 cb_6 rfl ?_
  refine R_icmp_geN (tgt := 14) C dX11_happen_3 rfl rfl (by omega) (by omega) (fun c1 => ?_) (fun c1 => ?_)
  · refine R_il1 (n := 15) C dX11_happen_14 rfl ?_
    refine R_bp (n := 17) C dX11_happen_15 cb_6 rfl ?_
    refine R_icmp_neN (tgt := 27) C dX11_happen_17 rfl rfl (by omega) (by omega) (fun c2 => ?_) (fun c2 => ?_)
    · refine R_il1 (n := 28) C dX11_happen_27 rfl ?_
      refine R_bp (n := 30) C dX11_happen_28 cb_7 rfl ?_
      refine R_icmp_neN (tgt := 40) C dX11_happen_30 rfl rfl (by omega) (by omega) (fun c3 => ?_) (fun c3 => ?_)
      · refine R_al0 (n := 41) C dX11_happen_40 rfl ?_
        refine R_dup (n := 42) C dX11_happen_41 rfl rfl ?_
        refine M_getI (n := 45) C fl_X11_180 dX11_happen_42 rfl rfl E.2.2.2 rfl ?_
        refine R_ic (n := 46) C dX11_happen_45 ci_1 rfl ?_
        refine R_iadd (n := 47) C dX11_happen_46 rfl ?_
        refine M_putI (n := 50) C fl_X11_180 dX11_happen_47 rfl rfl rfl rfl rfl ?_
        rw [addz]
        refine R_vret C CR (Nat.zero_le _) (Nat.zero_le _) dX11_happen_50 ?_
        refine ⟨rfl, rfl, ?_, FrA.rf.fld (by decide)⟩
        rw [hpz, if_neg (by omega), if_neg c2, if_neg c3]
        exact ⟨E.1.fl (by decide), up2_gne (by decide) E.2.1, up2_gne (by decide) E.2.2.1, up2_same⟩
      · refine R_al0 (n := 34) C dX11_happen_33 rfl ?_
        refine M_callV (n := 37) C (c_mNight _ _ _ r E I O) mw_X11_night ml_X11_177 iv_X11_night dX11_happen_34 rfl rfl rfl rfl (Nat.le_of_ble_eq_true rfl) ⟨Nat.le_of_ble_eq_true rfl, Nat.le_of_ble_eq_true rfl⟩ ⟨Nat.le_refl _, Nat.le_refl _⟩ rfl (pGv (fun h1 q1 => ?_))
        refine R_goto (n := 50) C dX11_happen_37 rfl ?_
        refine R_vret C CR (Nat.zero_le _) (Nat.zero_le _) dX11_happen_50 ?_
        refine ⟨rfl, rfl, ?_, q1.2⟩
        rw [hpz, if_neg (by omega), if_neg c2, if_pos c3]
        exact q1.1
    · refine R_al0 (n := 21) C dX11_happen_20 rfl ?_
      refine M_callV (n := 24) C (c_mThunder _ _ _ r E I O) mw_X11_thunder ml_X11_174 iv_X11_thunder dX11_happen_21 rfl rfl rfl rfl (Nat.le_of_ble_eq_true rfl) ⟨Nat.le_of_ble_eq_true rfl, Nat.le_of_ble_eq_true rfl⟩ ⟨Nat.le_refl _, Nat.le_refl _⟩ rfl (pGv (fun h1 q1 => ?_))
      refine R_goto (n := 50) C dX11_happen_24 rfl ?_
      refine R_vret C CR (Nat.zero_le _) (Nat.zero_le _) dX11_happen_50 ?_
      refine ⟨rfl, rfl, ?_, q1.2⟩
      rw [hpz, if_neg (by omega), if_pos c2]
      exact q1.1
  · refine R_al0 (n := 7) C dX11_happen_6 rfl ?_
    refine R_il1 (n := 8) C dX11_happen_7 rfl ?_
    refine M_callV (n := 11) C (c_mSayWord _ _ _ r E I O c1) mw_X11_sayWord ml_X11_171 iv_X11_sayWord dX11_happen_8 rfl rfl rfl rfl (Nat.le_of_ble_eq_true rfl) ⟨Nat.le_of_ble_eq_true rfl, Nat.le_of_ble_eq_true rfl⟩ ⟨Nat.le_refl _, Nat.le_refl _⟩ rfl (pGv (fun h1 q1 => ?_))
    refine R_goto (n := 50) C dX11_happen_11 rfl ?_
    refine R_vret C CR (Nat.zero_le _) (Nat.zero_le _) dX11_happen_50 ?_
    refine ⟨rfl, rfl, ?_, q1.2⟩
    rw [hpz, if_pos c1]
    exact q1.1
set_option maxRecDepth 20000 in
set_option maxHeartbeats 4000000 in
theorem c_mWhyNot (l : Launch) (D : va_G) (cA : Nat → ClassId) (r : Nat → Nat) {h : Hp} {σ : WS} {o : Int32 × Int32 × Int32} {e : EV} (E : REM o σ e h) (I : Inv σ) (O : EOk σ e) {x : Nat} (hx : okX (sN σ) x) : Cn l D cA yX11_whyNot cX11_whyNot 2 (some .int) 2 0 0 [.ref (r 73), .int (nI x)] (LY r) h (pE (some (.int (nI (whz σ e x)))) (LY r) h) := by
  refine Cn.of (lv := [some (.ref (r 73)), some (.int (nI x))]) (by decide +kernel) (Nat.le_of_ble_eq_true rfl) rfl (fun X hnm C CR => ?_)
  have n5 := I.n5
  have x64 := hx.lt n5
  refine R_il1 (n := 1) C dX11_whyNot_0 rfl ?_
  refine R_bp (n := 3) C dX11_whyNot_1 cb_6 rfl ?_
  refine R_icmp_geN (tgt := 20) C dX11_whyNot_3 rfl rfl (by omega) (by omega) (fun c1 => ?_) (fun c1 => ?_)
  · refine R_il1 (n := 21) C dX11_whyNot_20 rfl ?_
    refine R_bp (n := 23) C dX11_whyNot_21 cb_7 rfl ?_
    refine R_icmp_leN (tgt := 48) C dX11_whyNot_23 rfl rfl (by omega) (by omega) (fun c2 => ?_) (fun c2 => ?_)
    · refine R_ic (n := 49) C dX11_whyNot_48 ci_0 rfl ?_
      refine R_iret C CR (Nat.zero_le _) (Nat.zero_le _) dX11_whyNot_49 ?_
      exact ⟨by rw [whz, if_neg (by omega), if_pos c2], rfl, rfl⟩
    · obtain ⟨k, w, hk, hw, he⟩ : ∃ k w, k < sN σ ∧ w < 4 ∧ x = 10 * (k + 1) + w := by
        rcases hx with g | g
        · omega
        · exact g
      have k5 : k < 5 := by omega
      have o1 := (O k k5).1
      have ek : x / 10 - 1 = k := by omega
      have ew : x % 10 = w := by omega
      have e74 : h 74 (x / 10 - 1) = nI (e.1 (x / 10 - 1)) := by rw [ek, mLk E.1 k5, dnz_0 k5]
      have o2 : e.1 (x / 10 - 1) < 4 := by rw [ek]; exact o1
      refine R_al0 (n := 27) C dX11_whyNot_26 rfl ?_
      refine M_getR (n := 30) C fl_X11_7 dX11_whyNot_27 rfl rfl rfl ?_
      refine R_il1 (n := 31) C dX11_whyNot_30 rfl ?_
      refine R_bp (n := 33) C dX11_whyNot_31 cb_10 rfl ?_
      refine R_idivN (n := 34) C dX11_whyNot_33 (by omega) (by omega) (by omega) rfl ?_
      refine R_ic (n := 35) C dX11_whyNot_34 ci_1 rfl ?_
      refine R_isubN (n := 36) C dX11_whyNot_35 (by omega) rfl ?_
      refine M_iald (n := 37) C dX11_whyNot_36 rfl (by omega) e74 rfl ?_
      refine R_il1 (n := 38) C dX11_whyNot_37 rfl ?_
      refine R_bp (n := 40) C dX11_whyNot_38 cb_10 rfl ?_
      refine R_iremN (n := 41) C dX11_whyNot_40 (by omega) (by omega) (by omega) rfl ?_
      refine R_icmp_eqN (tgt := 48) C dX11_whyNot_41 rfl rfl (by omega) (by omega) (fun c3 => ?_) (fun c3 => ?_)
      · refine R_ic (n := 49) C dX11_whyNot_48 ci_0 rfl ?_
        refine R_iret C CR (Nat.zero_le _) (Nat.zero_le _) dX11_whyNot_49 ?_
        exact ⟨by rw [whz, if_neg (by omega), if_neg (by omega), if_pos c3], rfl, rfl⟩
      · refine R_ic (n := 45) C dX11_whyNot_44 ci_2 rfl ?_
        refine R_goto (n := 49) C dX11_whyNot_45 rfl ?_
        refine R_iret C CR (Nat.zero_le _) (Nat.zero_le _) dX11_whyNot_49 ?_
        exact ⟨by rw [whz, if_neg (by omega), if_neg (by omega), if_neg c3], rfl, rfl⟩
  · refine R_al0 (n := 7) C dX11_whyNot_6 rfl ?_
    refine R_il1 (n := 8) C dX11_whyNot_7 rfl ?_
    refine M_callV (n := 11) C (c_mIsKnown _ _ _ r E.1 (dnz_inv I O) _) mw_X11_isKnown ml_X11_155 iv_X11_isKnown dX11_whyNot_8 rfl rfl rfl rfl (Nat.le_of_ble_eq_true rfl) ⟨Nat.le_of_ble_eq_true rfl, Nat.le_of_ble_eq_true rfl⟩ ⟨Nat.le_refl _, Nat.le_refl _⟩ rfl (pEs ?_)
    rw [show sKn (dnz σ e) = sKn σ from rfl, kwz_n c1]
    refine R_if_eqB (tgt := 18) C dX11_whyNot_11 rfl rfl (fun c2 => ?_) (fun c2 => ?_)
    · refine R_ic (n := 19) C dX11_whyNot_18 ci_1 rfl ?_
      refine R_iret C CR (Nat.zero_le _) (Nat.zero_le _) dX11_whyNot_19 ?_
      exact ⟨by rw [whz, if_pos c1, if_neg (by rw [c2]; decide)], rfl, rfl⟩
    · refine R_ic (n := 15) C dX11_whyNot_14 ci_0 rfl ?_
      refine R_goto (n := 19) C dX11_whyNot_15 rfl ?_
      refine R_iret C CR (Nat.zero_le _) (Nat.zero_le _) dX11_whyNot_19 ?_
      exact ⟨by rw [whz, if_pos c1, if_pos c2], rfl, rfl⟩
theorem whz_lt {σ : WS} {e : EV} {x : Nat} : whz σ e x < 3 := by
  unfold whz
  repeat' split
  all_goals decide
theorem EvM.f {E : List Nat} {h h' : Hp} (A : EvM E h) (f : h' 84 = h 84) (f0 : h' 73 15 = h 73 15) : EvM E h' := ⟨by rw [f0]; exact A.1, fun k x hx => by rw [f]; exact A.2 k x hx⟩
theorem EvM.fr {E : List Nat} {A S : List Nat} {h h' : Hp} (M : EvM E h) (F : FrA A S h h') (hA : 84 ∉ A) (hS : 15 ∉ S) : EvM E h' := M.f (F.1 84 (by decide) hA) (F.2 15 hS)
abbrev WSs : List Nat := [16, 17, 18, 21, 22]
theorem REM.fl {o : Int32 × Int32 × Int32} {σ : WS} {e : EV} {h : Hp} (E : REM o σ e h) {k : Nat} {v : Int32} (hk : k = 21 ∨ k = 22) : REM o σ e (up2 h 73 k v) :=
  ⟨E.1.fl (by omega), up2_gne (by omega) E.2.1, up2_gne (by omega) E.2.2.1, up2_gne (by omega) E.2.2.2⟩
set_option maxRecDepth 20000 in
set_option maxHeartbeats 4000000 in
theorem c_mGoEvening (l : Launch) (D : va_G) (cA : Nat → ClassId) (r : Nat → Nat) {h : Hp} {σ : WS} (R : RM σ h) (I : Inv σ) {E : List Nat} (A : EvM E h) (hE : ∀ x ∈ E, okX (sN σ) x) (hl : E.length ≤ 60) : Cn l D cA yX11_goEvening cX11_goEvening 3 none 3 0 0 [.ref (r 73)] (LY r) h (pG none (LY r) (fun h' => REM (0, h 73 18, 0) σ (evr σ E (ev0 σ) 0).1 h' ∧ (h' 73 21 = if (evr σ E (ev0 σ) 0).2.2 = 0 then -6 else nI (evr σ E (ev0 σ) 0).2.1) ∧ (h' 73 22 = if (evr σ E (ev0 σ) 0).2.2 = 0 then -6 else nI (evr σ E (ev0 σ) 0).2.2) ∧ (evr σ E (ev0 σ) 0).2.1 ≤ 60 ∧ FrA VA WSs h h')) := by
  refine Cn.of (lv := [some (.ref (r 73)), none, none]) (by decide +kernel) (Nat.le_of_ble_eq_true rfl) rfl (fun X hnm C CR => ?_)
  obtain ⟨Z, hZ⟩ : ∃ Z, evr σ E (ev0 σ) 0 = Z := ⟨_, rfl⟩
  rw [hZ] at CR
  have n5 := I.n5
  have loop : ∀ (m k : Nat) (e : EV) (h1 : Hp) (o2 : Option Value), E.length < k + m → k ≤ E.length → Z = evr σ (E.drop k) e k → REM (0, h 73 18, 0) σ e h1 → EOk σ e → h1 73 21 = -6 → h1 73 22 = -6 → FrA VA WSs h h1 → Rn X 0 0 24 [some (.ref (r 73)), some (.int (nI k)), o2] [] (LY r) h1 := by
    intro m
    induction m with
    | zero => intro k e h1 o2 a1 a2; omega
    | succ m ih =>
      intro k e h1 o2 a1 a2 hz E1 O1 b1 b2 F1
      have A1 := A.fr F1 (by decide) (by decide)
      refine R_il1 (n := 25) C dX11_goEvening_24 rfl ?_
      refine R_al0 (n := 26) C dX11_goEvening_25 rfl ?_
      refine M_getI (n := 29) C fl_X11_135 dX11_goEvening_26 rfl rfl A1.1 rfl ?_
      refine R_icmp_geN (tgt := 98) C dX11_goEvening_29 rfl rfl (by omega) (by omega) (fun c1 => ?_) (fun c1 => ?_)
      · refine R_vret C CR (Nat.zero_le _) (Nat.zero_le _) dX11_goEvening_98 ?_
        rw [List.drop_eq_nil_of_le (by omega), evr] at hz
        refine ⟨rfl, rfl, by rw [hz]; exact E1, by rw [hz]; exact b1, by rw [hz]; exact b2, by rw [hz]; show k ≤ 60; omega, F1⟩
      · have ek : E[k]? = some E[k] := List.getElem?_eq_getElem c1
        obtain ⟨x, hx⟩ : ∃ x, E[k] = x := ⟨_, rfl⟩
        rw [List.drop_eq_getElem_cons c1, hx, evr] at hz
        rw [hx] at ek
        have ox := hE x (List.mem_of_getElem? ek)
        have e84 := A1.2 k x ek
        have x64 := ox.lt n5
        refine R_al0 (n := 33) C dX11_goEvening_32 rfl ?_
        refine M_getI (n := 36) C fl_X11_183 dX11_goEvening_33 rfl rfl b1 rfl ?_
        refine R_if_ge (tgt := 98) C dX11_goEvening_36 rfl rfl (fun c2 => ?_) (fun c2 => ?_)
        · exact absurd c2 (by decide)
        · refine R_al0 (n := 40) C dX11_goEvening_39 rfl ?_
          refine R_al0 (n := 41) C dX11_goEvening_40 rfl ?_
          refine M_getR (n := 44) C fl_X11_40 dX11_goEvening_41 rfl rfl rfl ?_
          refine R_il1 (n := 45) C dX11_goEvening_44 rfl ?_
          refine M_iald (n := 46) C dX11_goEvening_45 rfl (by omega) e84 rfl ?_
          refine M_callV (n := 49) C (c_mWhyNot _ _ _ r E1 I O1 ox) mw_X11_whyNot ml_X11_189 iv_X11_whyNot dX11_goEvening_46 rfl rfl rfl rfl (Nat.le_of_ble_eq_true rfl) ⟨Nat.le_of_ble_eq_true rfl, Nat.le_of_ble_eq_true rfl⟩ ⟨Nat.le_refl _, Nat.le_refl _⟩ rfl (pEs ?_)
          have wl := whz_lt (σ := σ) (e := e) (x := x)
          obtain ⟨y, hy⟩ : ∃ y, whz σ e x = y := ⟨_, rfl⟩
          rw [hy] at wl hz ⊢
          refine R_is2 (n := 50) C dX11_goEvening_49 rfl (Nat.le_of_ble_eq_true rfl) rfl ?_
          refine R_al0 (n := 51) C dX11_goEvening_50 rfl ?_
          refine R_il2 (n := 52) C dX11_goEvening_51 rfl ?_
          refine R_if_leN (tgt := 59) C dX11_goEvening_52 rfl rfl (by omega) (fun c3 => ?_) (fun c3 => ?_)
          · subst c3
            rw [if_pos rfl] at hz
            refine R_bp (n := 61) C dX11_goEvening_59 cb_m6 rfl ?_
            refine M_putI (n := 64) C fl_X11_183 dX11_goEvening_61 rfl rfl rfl rfl rfl ?_
            refine R_al0 (n := 65) C dX11_goEvening_64 rfl ?_
            refine R_il2 (n := 66) C dX11_goEvening_65 rfl ?_
            refine R_if_leN (tgt := 73) C dX11_goEvening_66 rfl rfl (by omega) (fun c4 => ?_) (fun c4 => ?_)
            · refine R_bp (n := 75) C dX11_goEvening_73 cb_m6 rfl ?_
              refine M_putI (n := 78) C fl_X11_186 dX11_goEvening_75 rfl rfl rfl rfl rfl ?_
              refine R_il2 (n := 79) C dX11_goEvening_78 rfl ?_
              refine R_if_neN (tgt := 92) C dX11_goEvening_79 rfl rfl (by omega) (fun c5 => ?_) (fun c5 => ?_)
              · exact absurd rfl c5
              · have E2 := (E1.fl (k := 21) (v := -6) (Or.inl rfl)).fl (k := 22) (v := -6) (Or.inr rfl)
                have F2 : FrA VA WSs h (up2 (up2 h1 73 21 (-6)) 73 22 (-6)) := (F1.fld (by decide)).fld (by decide)
                have e84' := (A.fr F2 (by decide) (by decide)).2 k x ek
                refine R_al0 (n := 83) C dX11_goEvening_82 rfl ?_
                refine R_al0 (n := 84) C dX11_goEvening_83 rfl ?_
                refine M_getR (n := 87) C fl_X11_40 dX11_goEvening_84 rfl rfl rfl ?_
                refine R_il1 (n := 88) C dX11_goEvening_87 rfl ?_
                refine M_iald (n := 89) C dX11_goEvening_88 rfl (by omega) e84' rfl ?_
                refine M_callV (n := 92) C (c_mHappen _ _ _ r E2 I O1 x64) mw_X11_happen ml_X11_192 iv_X11_happen dX11_goEvening_89 rfl rfl rfl rfl (Nat.le_of_ble_eq_true rfl) ⟨Nat.le_of_ble_eq_true rfl, Nat.le_of_ble_eq_true rfl⟩ ⟨Nat.le_refl _, Nat.le_refl _⟩ rfl (pGv (fun h2 q2 => ?_))
                refine R_inc1 (n := 95) C dX11_goEvening_92 rfl (Nat.le_of_ble_eq_true rfl) (inc_1 _) rfl ?_
                refine R_goto (n := 24) C dX11_goEvening_95 rfl ?_
                refine ih (k + 1) _ h2 _ (by omega) (by omega) hz q2.1 (hpz_ok I O1) ?_ ?_ (F2.tr (q2.2.mono (by decide) (by decide)))
                · rw [q2.2.2 21 (by decide), up2_ne (by decide), up2_same]
                · rw [q2.2.2 22 (by decide), up2_same]
            · exact absurd c4 (by decide)
          · have y0 : y ≠ 0 := by omega
            rw [if_neg y0] at hz
            have fin : ∀ (h2 : Hp), h2 = up2 (up2 h1 73 21 (nI k)) 73 22 (nI y) → Rn X 0 0 92 [some (.ref (r 73)), some (.int (nI k)), some (.int (nI y))] [] (LY r) h2 := by
              intro h2 e2
              have E2 := (E1.fl (k := 21) (v := nI k) (Or.inl rfl)).fl (k := 22) (v := nI y) (Or.inr rfl)
              have F2 : FrA VA WSs h (up2 (up2 h1 73 21 (nI k)) 73 22 (nI y)) := (F1.fld (by decide)).fld (by decide)
              have z21 : (up2 (up2 h1 73 21 (nI k)) 73 22 (nI y)) 73 21 = nI k := by rw [up2_ne (by decide), up2_same]
              have z22 : (up2 (up2 h1 73 21 (nI k)) 73 22 (nI y)) 73 22 = nI y := up2_same
              rw [← e2] at E2 F2 z21 z22
              have A2 := A.fr F2 (by decide) (by decide)
              have post : pG none (LY r) (fun h' => REM (0, h 73 18, 0) σ Z.1 h' ∧ (h' 73 21 = if Z.2.2 = 0 then -6 else nI Z.2.1) ∧ (h' 73 22 = if Z.2.2 = 0 then -6 else nI Z.2.2) ∧ Z.2.1 ≤ 60 ∧ FrA VA WSs h h') none (LY r) h2 := by
                rw [hz]
                refine ⟨rfl, rfl, E2, ?_, ?_, ?_, F2⟩
                · rw [z21]; exact (if_neg y0).symm
                · rw [z22]; exact (if_neg y0).symm
                · show k ≤ 60; omega
              refine R_inc1 (n := 95) C dX11_goEvening_92 rfl (Nat.le_of_ble_eq_true rfl) (inc_1 _) rfl ?_
              refine R_goto (n := 24) C dX11_goEvening_95 rfl ?_
              refine R_il1 (n := 25) C dX11_goEvening_24 rfl ?_
              refine R_al0 (n := 26) C dX11_goEvening_25 rfl ?_
              refine M_getI (n := 29) C fl_X11_135 dX11_goEvening_26 rfl rfl A2.1 rfl ?_
              refine R_icmp_geN (tgt := 98) C dX11_goEvening_29 rfl rfl (by omega) (by omega) (fun d1 => ?_) (fun d1 => ?_)
              · refine R_vret C CR (Nat.zero_le _) (Nat.zero_le _) dX11_goEvening_98 ?_
                exact post
              · refine R_al0 (n := 33) C dX11_goEvening_32 rfl ?_
                refine M_getI (n := 36) C fl_X11_183 dX11_goEvening_33 rfl rfl z21 rfl ?_
                refine R_if_geN (tgt := 98) C dX11_goEvening_36 rfl rfl (by omega) ?_
                refine R_vret C CR (Nat.zero_le _) (Nat.zero_le _) dX11_goEvening_98 ?_
                exact post
            refine R_il1 (n := 56) C dX11_goEvening_55 rfl ?_
            refine R_goto (n := 61) C dX11_goEvening_56 rfl ?_
            refine M_putI (n := 64) C fl_X11_183 dX11_goEvening_61 rfl rfl rfl rfl rfl ?_
            refine R_al0 (n := 65) C dX11_goEvening_64 rfl ?_
            refine R_il2 (n := 66) C dX11_goEvening_65 rfl ?_
            refine R_if_leN (tgt := 73) C dX11_goEvening_66 rfl rfl (by omega) (fun c4 => ?_) (fun c4 => ?_)
            · omega
            · refine R_il2 (n := 70) C dX11_goEvening_69 rfl ?_
              refine R_goto (n := 75) C dX11_goEvening_70 rfl ?_
              refine M_putI (n := 78) C fl_X11_186 dX11_goEvening_75 rfl rfl rfl rfl rfl ?_
              refine R_il2 (n := 79) C dX11_goEvening_78 rfl ?_
              refine R_if_neN (tgt := 92) C dX11_goEvening_79 rfl rfl (by omega) (fun c5 => ?_) (fun c5 => ?_)
              · exact fin _ rfl
              · omega
  refine R_al0 (n := 1) C dX11_goEvening_0 rfl ?_
  refine R_bp (n := 3) C dX11_goEvening_1 cb_m6 rfl ?_
  refine M_putI (n := 6) C fl_X11_183 dX11_goEvening_3 rfl rfl rfl rfl rfl ?_
  refine R_al0 (n := 7) C dX11_goEvening_6 rfl ?_
  refine R_bp (n := 9) C dX11_goEvening_7 cb_m6 rfl ?_
  refine M_putI (n := 12) C fl_X11_186 dX11_goEvening_9 rfl rfl rfl rfl rfl ?_
  refine R_al0 (n := 13) C dX11_goEvening_12 rfl ?_
  refine R_ic (n := 14) C dX11_goEvening_13 ci_0 rfl ?_
  refine M_putI (n := 17) C fl_X11_165 dX11_goEvening_14 rfl rfl rfl rfl rfl ?_
  refine R_al0 (n := 18) C dX11_goEvening_17 rfl ?_
  refine R_ic (n := 19) C dX11_goEvening_18 ci_0 rfl ?_
  refine M_putI (n := 22) C fl_X11_180 dX11_goEvening_19 rfl rfl rfl rfl rfl ?_
  refine R_ic (n := 23) C dX11_goEvening_22 ci_0 rfl ?_
  refine R_is1 (n := 24) C dX11_goEvening_23 rfl (Nat.le_of_ble_eq_true rfl) rfl ?_
  refine loop (E.length + 1) 0 (ev0 σ) _ none (by omega) (by omega) hZ.symm ⟨?_, ?_, ?_, ?_⟩ (ev0_ok I) ?_ ?_ ((((FrA.rf.fld (by decide)).fld (by decide)).fld (by decide)).fld (by decide))
  · refine RM.cong ((((R.fl (by decide)).fl (by decide)).fl (by decide)).fl (by decide)) rfl rfl rfl (fun j k hj hk => ?_)
    by_cases e0 : j = 0
    · subst e0; rw [dnz_0 hk]; rfl
    · by_cases e1 : j = 1
      · subst e1; rw [dnz_1 hk]; rfl
      · rw [dnz_o (by omega)]
  · rw [up2_ne (by decide), up2_same]; rfl
  · rw [up2_ne (by decide), up2_ne (by decide), up2_ne (by decide), up2_ne (by decide)]
    show _ = h 73 18 + nI 0
    rw [show nI 0 = (0 : Int32) from rfl, Int32.add_zero]
  · rw [up2_same]; rfl
  · rw [up2_ne (by decide), up2_ne (by decide), up2_ne (by decide), up2_same]
  · rw [up2_ne (by decide), up2_ne (by decide), up2_same]
