set_option maxRecDepth 20000 in
set_option maxHeartbeats 4000000 in
theorem c_mBegin (l : Launch) (D : va_G) (cA : Nat → ClassId) (r : Nat → Nat) {h : Hp} {σ : WS} (R : RM σ h) (n : Nat) : Cn l D cA yX11_begin cX11_begin 3 none 1 0 0 [.ref (r 73), .int (nI n)] (LY r) h (pG none (LY r) (fun h' => RM (plz σ n) h' ∧ (∀ a, a < 73 ∨ 78 < a → h' a = h a) ∧ h' 73 13 = h 73 13)) := by
  refine Cn.of (lv := [some (.ref (r 73)), some (.int (nI n)), none]) (by decide +kernel) (Nat.le_of_ble_eq_true rfl) rfl (fun X hnm C CR => ?_)
  refine R_al0 (n := 1) C dX11_begin_0 rfl ?_
  refine R_il1 (n := 2) C dX11_begin_1 rfl ?_
  refine M_putI (n := 5) C fl_X11_94 dX11_begin_2 rfl rfl rfl rfl rfl ?_
  refine R_al0 (n := 6) C dX11_begin_5 rfl ?_
  refine R_ic (n := 7) C dX11_begin_6 ci_0 rfl ?_
  refine M_putI (n := 10) C fl_X11_98 dX11_begin_7 rfl rfl rfl rfl rfl ?_
  refine R_al0 (n := 11) C dX11_begin_10 rfl ?_
  refine R_ic (n := 12) C dX11_begin_11 ci_0 rfl ?_
  refine M_putI (n := 15) C fl_X11_101 dX11_begin_12 rfl rfl rfl rfl rfl ?_
  refine R_ic (n := 16) C dX11_begin_15 ci_0 rfl ?_
  refine R_is2 (n := 17) C dX11_begin_16 rfl (Nat.le_of_ble_eq_true rfl) rfl ?_
  obtain ⟨h0, e0⟩ : ∃ h0, up2 (up2 (up2 h 73 0 (nI n)) 73 6 (nI 0)) 73 11 (nI 0) = h0 := ⟨_, rfl⟩
  rw [e0]
  have a0 : h0 73 0 = nI n ∧ h0 73 6 = nI 0 ∧ h0 73 11 = nI 0 ∧ h0 73 13 = h 73 13 ∧ ∀ a, a ≠ 73 → h0 a = h a := by
    rw [← e0]
    exact ⟨by simp [up2_at], by simp [up2_at], by simp [up2_at], by simp [up2_at], fun a ha => by rw [up2_row ha, up2_row ha, up2_row ha]⟩
  have loop : ∀ (m i : Nat) (g : Hp), 5 < i + m → i ≤ 5 → (∀ k, k < i → g 74 k = nI 0 ∧ g 75 k = nI 9 ∧ g 76 k = nI 9 ∧ g 77 k = nI 0 ∧ g 78 k = nI k) → (∀ b, b < 74 ∨ 78 < b → g b = h0 b) → Rn X 0 0 17 [some (.ref (r 73)), some (.int (nI n)), some (.int (nI i))] [] (LY r) g := by
    intro m
    induction m with
    | zero => intro i g a1 a2; omega
    | succ m ih =>
      intro i g a1 a2 e1 e2
      refine R_il2 (n := 18) C dX11_begin_17 rfl ?_
      refine R_ic (n := 19) C dX11_begin_18 ci_5 rfl ?_
      refine R_icmp_geN (tgt := 65) C dX11_begin_19 rfl rfl (by omega) (by omega) (fun c => ?_) (fun c => ?_)
      · refine R_vret C CR (Nat.zero_le _) (Nat.zero_le _) dX11_begin_65 ?_
        obtain rfl : i = 5 := by omega
        refine ⟨rfl, rfl, ⟨?_, ?_, ?_, fun j k hj hk => ?_⟩, fun a ha => ?_, ?_⟩
        · rw [e2 73 (by omega)]; exact a0.1
        · rw [e2 73 (by omega)]; exact a0.2.1
        · rw [e2 73 (by omega)]; exact a0.2.2.1
        · match j, hj, hk with
          | 0, _, hk => exact (e1 k hk).1
          | 1, _, hk => exact (e1 k hk).2.1
          | 2, _, hk => exact (e1 k hk).2.2.1
          | 3, _, hk => exact (e1 k hk).2.2.2.1
          | 4, _, hk => exact (e1 k hk).2.2.2.2
          | 5, _, hk => rw [e2 (74 + 5) (by omega), a0.2.2.2.2 (74 + 5) (by decide)]; exact R.2.2.2 5 k (by decide) hk
          | 6, _, hk => rw [e2 (74 + 6) (by omega), a0.2.2.2.2 (74 + 6) (by decide)]; exact R.2.2.2 6 k (by decide) hk
          | 7, _, hk => rw [e2 (74 + 7) (by omega), a0.2.2.2.2 (74 + 7) (by decide)]; exact R.2.2.2 7 k (by decide) hk
          | 8, _, hk => rw [e2 (74 + 8) (by omega), a0.2.2.2.2 (74 + 8) (by decide)]; exact R.2.2.2 8 k (by decide) hk
        · rw [e2 a (by omega), a0.2.2.2.2 a (by omega)]
        · rw [e2 73 (by omega)]; exact a0.2.2.2.1
      · refine R_al0 (n := 23) C dX11_begin_22 rfl ?_
        refine M_getR (n := 26) C fl_X11_7 dX11_begin_23 rfl rfl rfl ?_
        refine R_il2 (n := 27) C dX11_begin_26 rfl ?_
        refine R_ic (n := 28) C dX11_begin_27 ci_0 rfl ?_
        refine M_iast (n := 29) C dX11_begin_28 rfl c rfl ?_
        refine R_al0 (n := 30) C dX11_begin_29 rfl ?_
        refine M_getR (n := 33) C fl_X11_13 dX11_begin_30 rfl rfl rfl ?_
        refine R_il2 (n := 34) C dX11_begin_33 rfl ?_
        refine R_bp (n := 36) C dX11_begin_34 cb_9 rfl ?_
        refine M_iast (n := 37) C dX11_begin_36 rfl c rfl ?_
        refine R_al0 (n := 38) C dX11_begin_37 rfl ?_
        refine M_getR (n := 41) C fl_X11_16 dX11_begin_38 rfl rfl rfl ?_
        refine R_il2 (n := 42) C dX11_begin_41 rfl ?_
        refine R_bp (n := 44) C dX11_begin_42 cb_9 rfl ?_
        refine M_iast (n := 45) C dX11_begin_44 rfl c rfl ?_
        refine R_al0 (n := 46) C dX11_begin_45 rfl ?_
        refine M_getR (n := 49) C fl_X11_19 dX11_begin_46 rfl rfl rfl ?_
        refine R_il2 (n := 50) C dX11_begin_49 rfl ?_
        refine R_ic (n := 51) C dX11_begin_50 ci_0 rfl ?_
        refine M_iast (n := 52) C dX11_begin_51 rfl c rfl ?_
        refine R_al0 (n := 53) C dX11_begin_52 rfl ?_
        refine M_getR (n := 56) C fl_X11_22 dX11_begin_53 rfl rfl rfl ?_
        refine R_il2 (n := 57) C dX11_begin_56 rfl ?_
        refine R_il2 (n := 58) C dX11_begin_57 rfl ?_
        refine M_iast (n := 59) C dX11_begin_58 rfl c rfl ?_
        refine R_inc2 (n := 62) C dX11_begin_59 rfl (Nat.le_of_ble_eq_true rfl) (inc_1 _) rfl ?_
        refine R_goto (n := 17) C dX11_begin_62 rfl ?_
        refine ih (i + 1) _ (by omega) (by omega) (fun k hk => ?_) (fun b hb => ?_)
        · by_cases e : k = i
          · subst e
            exact ⟨by simp [up2, va_up, upd], by simp [up2, va_up, upd], by simp [up2, va_up, upd], by simp [up2, va_up, upd], by simp [up2, va_up, upd]⟩
          · have := e1 k (by omega)
            exact ⟨by simp [up2, va_up, upd, e, this.1], by simp [up2, va_up, upd, e, this.2.1], by simp [up2, va_up, upd, e, this.2.2.1], by simp [up2, va_up, upd, e, this.2.2.2.1], by simp [up2, va_up, upd, e, this.2.2.2.2]⟩
        · rw [up2_row (by omega), up2_row (by omega), up2_row (by omega), up2_row (by omega), up2_row (by omega)]
          exact e2 b hb
  exact loop 6 0 h0 (by omega) (by omega) (fun k hk => by omega) (fun _ _ => rfl)
set_option maxRecDepth 20000 in
set_option maxHeartbeats 4000000 in
theorem m_huts (l : Launch) (D : va_G) (cA : Nat → ClassId) (r : Nat → Nat) {h : Hp} {G : GS} (R : RMo G h) (I : InvG G) (v : Int32) : Cn l D cA yX11_huts cX11_huts 3 (some .int) 2 0 0 [.ref (r 73), .int v] (LY r) h (pG (some (.int (aHuts G v))) (LY r) (fun h' => RMo (nHuts G v) h' ∧ FrM h h')) := by
  refine Cn.of (lv := [some (.ref (r 73)), some (.int v), none]) (by decide +kernel) (Nat.le_of_ble_eq_true rfl) rfl (fun X hnm C CR => ?_)
  refine R_il1 (n := 1) C dX11_huts_0 rfl ?_
  refine R_i2l (n := 2) C dX11_huts_1 rfl rfl ?_
  refine R_lc (n := 3) C dX11_huts_2 lc_1 rfl ?_
  refine R_ldc2 (n := 6) C dX11_huts_3 kl_X11_110 rfl ?_
  refine R_eql (y := lN 5) (by decide +kernel) ?_
  refine R_callS (n := 9) C (c_mIn _ _ _ r _ _ _) mw_X11_in ml_X11_104 sv_X11_in dX11_huts_6 rfl rfl (Nat.le_of_ble_eq_true rfl) ⟨Nat.le_of_ble_eq_true rfl, Nat.le_of_ble_eq_true rfl⟩ ⟨Nat.le_refl _, Nat.le_refl _⟩ rfl (pEs ?_)
  rw [winL_n (by decide) (by decide)]
  refine R_if_neB (tgt := 15) C dX11_huts_9 rfl rfl (fun c1 => ?_) (fun c1 => ?_)
  · obtain ⟨n, h1, h5, rfl⟩ := win_of (by decide) (by decide) c1
    refine R_al0 (n := 16) C dX11_huts_15 rfl ?_
    refine M_getI (n := 19) C fl_X11_94 dX11_huts_16 rfl rfl (mN_ R.1) rfl ?_
    refine R_is2 (n := 20) C dX11_huts_19 rfl (Nat.le_of_ble_eq_true rfl) rfl ?_
    refine R_al0 (n := 21) C dX11_huts_20 rfl ?_
    refine R_il1 (n := 22) C dX11_huts_21 rfl ?_
    refine M_callV (n := 25) C (c_mBegin _ _ _ r R.1 n) mw_X11_begin ml_X11_90 iv_X11_begin dX11_huts_22 rfl rfl rfl rfl (Nat.le_of_ble_eq_true rfl) ⟨Nat.le_of_ble_eq_true rfl, Nat.le_of_ble_eq_true rfl⟩ ⟨Nat.le_refl _, Nat.le_refl _⟩ rfl (pGv (fun h1 q1 => ?_))
    refine R_il2 (n := 26) C dX11_huts_25 rfl ?_
    refine R_iret C CR (Nat.zero_le _) (Nat.zero_le _) dX11_huts_26 ?_
    refine ⟨by rw [aHuts, c1]; rfl, rfl, ?_, fun a ha => q1.2.1 a (by omega)⟩
    rw [nHuts, c1, if_pos rfl, cl, nI_clamp (by omega)]
    exact R.wood q1.1 (fun a ha => q1.2.1 a (by omega)) q1.2.2
  · refine R_bp (n := 14) C dX11_huts_12 cb_m2 rfl ?_
    refine R_iret C CR (Nat.zero_le _) (Nat.zero_le _) dX11_huts_14 ?_
    refine ⟨by rw [aHuts, c1]; rfl, rfl, ?_, FrM.rf⟩
    rw [nHuts, c1]
    exact R
set_option maxRecDepth 20000 in
set_option maxHeartbeats 4000000 in
theorem m_wipe (l : Launch) (D : va_G) (cA : Nat → ClassId) (r : Nat → Nat) {h : Hp} {G : GS} (R : RMo G h) : Cn l D cA yX11_wipe cX11_wipe 2 (some .int) 0 0 0 [.ref (r 73)] (LY r) h (pG (some (.int (aWipe G))) (LY r) (fun h' => RMo (nWipe G) h' ∧ FrM h h')) := by
  refine Cn.of (lv := [some (.ref (r 73)), none]) (by decide +kernel) (Nat.le_of_ble_eq_true rfl) rfl (fun X hnm C CR => ?_)
  refine R_al0 (n := 1) C dX11_wipe_0 rfl ?_
  refine M_getI (n := 4) C fl_X11_128 dX11_wipe_1 rfl rfl R.2.1.1 rfl ?_
  refine R_is1 (n := 5) C dX11_wipe_4 rfl (Nat.le_of_ble_eq_true rfl) rfl ?_
  refine R_al0 (n := 6) C dX11_wipe_5 rfl ?_
  refine R_ic (n := 7) C dX11_wipe_6 ci_0 rfl ?_
  refine M_putI (n := 10) C fl_X11_128 dX11_wipe_7 rfl rfl rfl rfl rfl ?_
  refine R_il1 (n := 11) C dX11_wipe_10 rfl ?_
  refine R_iret C CR (Nat.zero_le _) (Nat.zero_le _) dX11_wipe_11 ?_
  exact ⟨rfl, rfl, R.pad (p := (0, (gP G).2)) ⟨up2_same, fun k hk => up2_get (by decide) (R.2.1.2 k hk)⟩ (fun a h1 h2 => up2_row h1) (fun k hk => up2_ne hk), FrM.rf.up (by decide)⟩
set_option maxRecDepth 20000 in
set_option maxHeartbeats 4000000 in
theorem m_forget (l : Launch) (D : va_G) (cA : Nat → ClassId) (r : Nat → Nat) {h : Hp} {G : GS} (R : RMo G h) : Cn l D cA yX11_forget cX11_forget 2 (some .int) 0 0 0 [.ref (r 73)] (LY r) h (pG (some (.int (aForget G))) (LY r) (fun h' => RMo (nForget G) h' ∧ FrM h h')) := by
  refine Cn.of (lv := [some (.ref (r 73)), none]) (by decide +kernel) (Nat.le_of_ble_eq_true rfl) rfl (fun X hnm C CR => ?_)
  refine R_al0 (n := 1) C dX11_forget_0 rfl ?_
  refine M_getI (n := 4) C fl_X11_101 dX11_forget_1 rfl rfl (mSg R.1) rfl ?_
  refine R_is1 (n := 5) C dX11_forget_4 rfl (Nat.le_of_ble_eq_true rfl) rfl ?_
  refine R_al0 (n := 6) C dX11_forget_5 rfl ?_
  refine R_ic (n := 7) C dX11_forget_6 ci_0 rfl ?_
  refine M_putI (n := 10) C fl_X11_101 dX11_forget_7 rfl rfl rfl rfl rfl ?_
  refine R_il1 (n := 11) C dX11_forget_10 rfl ?_
  refine R_iret C CR (Nat.zero_le _) (Nat.zero_le _) dX11_forget_11 ?_
  exact ⟨rfl, rfl, R.wood ⟨up2_gne (by decide) R.1.1, up2_gne (by decide) R.1.2.1, up2_same, fun j k hj hk => up2_get (by omega) (R.1.2.2.2 j k hj hk)⟩ (fun a ha => up2_row (by omega)) (up2_ne (by decide)), FrM.rf.up (by decide)⟩
set_option maxRecDepth 20000 in
set_option maxHeartbeats 4000000 in
theorem m_say (l : Launch) (D : va_G) (cA : Nat → ClassId) (r : Nat → Nat) {h : Hp} {G : GS} (R : RMo G h) (I : InvG G) (v : Int32) : Cn l D cA yX11_say cX11_say 2 (some .int) 1 0 0 [.ref (r 73), .int v] (LY r) h (pG (some (.int (aSay G v))) (LY r) (fun h' => RMo (nSay G v) h' ∧ FrM h h')) := by
  refine Cn.of (lv := [some (.ref (r 73)), some (.int v)]) (by decide +kernel) (Nat.le_of_ble_eq_true rfl) rfl (fun X hnm C CR => ?_)
  have j0 := I.2.1.1
  refine R_il1 (n := 1) C dX11_say_0 rfl ?_
  refine R_i2l (n := 2) C dX11_say_1 rfl rfl ?_
  refine R_ldc2 (n := 5) C dX11_say_2 kl_X11_124 rfl ?_
  refine R_eql (y := lN 33) (by decide +kernel) ?_
  refine R_ldc2 (n := 8) C dX11_say_5 kl_X11_126 rfl ?_
  refine R_eql (y := lN 126) (by decide +kernel) ?_
  refine R_callS (n := 11) C (c_mIn _ _ _ r _ _ _) mw_X11_in ml_X11_104 sv_X11_in dX11_say_8 rfl rfl (Nat.le_of_ble_eq_true rfl) ⟨Nat.le_of_ble_eq_true rfl, Nat.le_of_ble_eq_true rfl⟩ ⟨Nat.le_refl _, Nat.le_refl _⟩ rfl (pEs ?_)
  rw [winL_n (by decide) (by decide)]
  refine R_if_neB (tgt := 17) C dX11_say_11 rfl rfl (fun c1 => ?_) (fun c1 => ?_)
  · obtain ⟨n, h1, h5, rfl⟩ := win_of (by decide) (by decide) c1
    refine R_al0 (n := 18) C dX11_say_17 rfl ?_
    refine M_getI (n := 21) C fl_X11_128 dX11_say_18 rfl rfl R.2.1.1 rfl ?_
    refine R_bp (n := 23) C dX11_say_21 cb_60 rfl ?_
    refine R_icmp_neN (tgt := 29) C dX11_say_23 rfl rfl (by omega) (by omega) (fun c2 => ?_) (fun c2 => ?_)
    · have lt : (gP G).1 < 60 := by omega
      refine R_al0 (n := 30) C dX11_say_29 rfl ?_
      refine M_getR (n := 33) C fl_X11_37 dX11_say_30 rfl rfl rfl ?_
      refine R_al0 (n := 34) C dX11_say_33 rfl ?_
      refine M_getI (n := 37) C fl_X11_128 dX11_say_34 rfl rfl R.2.1.1 rfl ?_
      refine R_il1 (n := 38) C dX11_say_37 rfl ?_
      refine M_iast (n := 39) C dX11_say_38 rfl lt rfl ?_
      refine R_al0 (n := 40) C dX11_say_39 rfl ?_
      refine R_dup (n := 41) C dX11_say_40 rfl rfl ?_
      refine M_getI (n := 44) C fl_X11_128 dX11_say_41 rfl rfl (up2_get (by decide) R.2.1.1) rfl ?_
      refine R_ic (n := 45) C dX11_say_44 ci_1 rfl ?_
      refine R_iaddN (n := 46) C dX11_say_45 rfl ?_
      refine M_putI (n := 49) C fl_X11_128 dX11_say_46 rfl rfl rfl rfl rfl ?_
      refine R_al0 (n := 50) C dX11_say_49 rfl ?_
      refine M_getI (n := 53) C fl_X11_128 dX11_say_50 rfl rfl up2_same rfl ?_
      refine R_iret C CR (Nat.zero_le _) (Nat.zero_le _) dX11_say_53 ?_
      refine ⟨by rw [aSay, c1, if_pos rfl, if_pos lt], rfl, ?_, (FrM.rf.up (by decide)).up (by decide)⟩
      rw [nSay, c1, decide_eq_true lt, if_pos (by decide), cl, nI_clamp (by omega)]
      refine R.pad (p := ((gP G).1 + 1, updN (gP G).2 (gP G).1 n)) ⟨up2_same, fun k hk => ?_⟩ (fun a h1 h2 => by rw [up2_row h1, up2_row h2]) (fun k hk => by rw [up2_ne hk, up2_row (by decide)])
      rw [up2_row (by decide), up2_at]
      show _ = nI (updN (gP G).2 (gP G).1 n k)
      unfold updN
      split
      · rfl
      · exact R.2.1.2 k hk
    · refine R_bp (n := 28) C dX11_say_26 cb_m4 rfl ?_
      refine R_iret C CR (Nat.zero_le _) (Nat.zero_le _) dX11_say_28 ?_
      refine ⟨by rw [aSay, c1, if_pos rfl, if_neg (by omega)], rfl, ?_, FrM.rf⟩
      rw [nSay, c1, decide_eq_false (by omega), if_neg (by decide)]
      exact R
  · refine R_bp (n := 16) C dX11_say_14 cb_m2 rfl ?_
    refine R_iret C CR (Nat.zero_le _) (Nat.zero_le _) dX11_say_16 ?_
    refine ⟨by rw [aSay, c1]; rfl, rfl, ?_, FrM.rf⟩
    rw [nSay, c1, if_neg (by rw [Bool.false_and]; decide)]
    exact R
set_option maxRecDepth 20000 in
set_option maxHeartbeats 4000000 in
theorem c_mOnes (l : Launch) (D : va_G) (cA : Nat → ClassId) (r : Nat → Nat) {L : Ly} {h : Hp} {k : Nat} (hk : k < 64) : Cn l D cA yX11_ones cX11_ones 3 (some .int) 0 0 0 [.int (nI k)] (L) h (pE (some (.int (nI (pcz k)))) L h) := by
  refine Cn.of (lv := [some (.int (nI k)), none, none]) (by decide +kernel) (Nat.le_of_ble_eq_true rfl) rfl (fun X hnm C CR => ?_)
  have loop : ∀ (m x n : Nat), x < 64 → pcz x ≤ m → n + pcz x = pcz k → Rn X 0 0 4 [some (.int (nI k)), some (.int (nI n)), some (.int (nI x))] [] L h := by
    intro m
    induction m with
    | zero =>
      intro x n a1 a2 a3
      obtain rfl : x = 0 := pcz_0 x a1 (by omega)
      refine R_il2 (n := 5) C dX11_ones_4 rfl ?_
      refine R_if_eqN (tgt := 20) C dX11_ones_5 rfl rfl (by omega) (fun c => ?_) (fun c => ?_)
      · refine R_il1 (n := 21) C dX11_ones_20 rfl ?_
        refine R_iret C CR (Nat.zero_le _) (Nat.zero_le _) dX11_ones_21 ?_
        exact ⟨by rw [← a3]; rfl, rfl, rfl⟩
      · exact absurd rfl c
    | succ m ih =>
      intro x n a1 a2 a3
      refine R_il2 (n := 5) C dX11_ones_4 rfl ?_
      refine R_if_eqN (tgt := 20) C dX11_ones_5 rfl rfl (by omega) (fun c => ?_) (fun c => ?_)
      · refine R_il1 (n := 21) C dX11_ones_20 rfl ?_
        refine R_iret C CR (Nat.zero_le _) (Nat.zero_le _) dX11_ones_21 ?_
        rw [c] at a3
        exact ⟨by rw [← a3]; rfl, rfl, rfl⟩
      · have s := pcz_step x a1 c
        refine R_inc1 (n := 11) C dX11_ones_8 rfl (Nat.le_of_ble_eq_true rfl) (inc_1 _) rfl ?_
        refine R_il2 (n := 12) C dX11_ones_11 rfl ?_
        refine R_il2 (n := 13) C dX11_ones_12 rfl ?_
        refine R_ic (n := 14) C dX11_ones_13 ci_1 rfl ?_
        refine R_isubN (n := 15) C dX11_ones_14 (by omega) rfl ?_
        refine R_iandN (n := 16) C dX11_ones_15 rfl ?_
        refine R_is2 (n := 17) C dX11_ones_16 rfl (Nat.le_of_ble_eq_true rfl) rfl ?_
        refine R_goto (n := 4) C dX11_ones_17 rfl ?_
        exact ih (x &&& (x - 1)) (n + 1) s.1 (by omega) (by omega)
  refine R_ic (n := 1) C dX11_ones_0 ci_0 rfl ?_
  refine R_is1 (n := 2) C dX11_ones_1 rfl (Nat.le_of_ble_eq_true rfl) rfl ?_
  refine R_il0 (n := 3) C dX11_ones_2 rfl ?_
  refine R_is2 (n := 4) C dX11_ones_3 rfl (Nat.le_of_ble_eq_true rfl) rfl ?_
  exact loop 6 k 0 hk (pcz_6 k hk) (by omega)
set_option maxRecDepth 20000 in
set_option maxHeartbeats 4000000 in
theorem m_unword (l : Launch) (D : va_G) (cA : Nat → ClassId) (r : Nat → Nat) {h : Hp} {G : GS} (R : RMo G h) (I : InvG G) (v : Int32) : Cn l D cA yX11_unword cX11_unword 2 (some .int) 2 0 0 [.ref (r 73), .int v] (LY r) h (pG (some (.int (aUnword G v))) (LY r) (fun h' => RMo (nUnword G v) h' ∧ FrM h h')) := by
  refine Cn.of (lv := [some (.ref (r 73)), some (.int v)]) (by decide +kernel) (Nat.le_of_ble_eq_true rfl) rfl (fun X hnm C CR => ?_)
  have kn := I.1.kn
  refine R_al0 (n := 1) C dX11_unword_0 rfl ?_
  refine R_il1 (n := 2) C dX11_unword_1 rfl ?_
  refine M_callV (n := 5) C (c_mIsKnown _ _ _ r R.1 I.1 _) mw_X11_isKnown ml_X11_155 iv_X11_isKnown dX11_unword_2 rfl rfl rfl rfl (Nat.le_of_ble_eq_true rfl) ⟨Nat.le_of_ble_eq_true rfl, Nat.le_of_ble_eq_true rfl⟩ ⟨Nat.le_refl _, Nat.le_refl _⟩ rfl (pEs ?_)
  refine R_if_neB (tgt := 10) C dX11_unword_5 rfl rfl (fun c1 => ?_) (fun c1 => ?_)
  · obtain ⟨x, x6, rfl, _⟩ := kwz_of c1
    have xc : cl (nI x) = x := nI_clamp (by omega)
    have p5 := p2_5 (k := x) (by omega)
    refine R_al0 (n := 11) C dX11_unword_10 rfl ?_
    refine R_dup (n := 12) C dX11_unword_11 rfl rfl ?_
    refine M_getI (n := 15) C fl_X11_98 dX11_unword_12 rfl rfl (mKn R.1) rfl ?_
    refine R_ic (n := 16) C dX11_unword_15 ci_1 rfl ?_
    refine R_il1 (n := 17) C dX11_unword_16 rfl ?_
    refine R_ishlN (n := 18) C dX11_unword_17 (by omega) (sh1 (by omega)) rfl ?_
    refine R_ic (n := 19) C dX11_unword_18 ci_m1 rfl ?_
    refine R_ixor (n := 20) C dX11_unword_19 rfl ?_
    refine R_iand (n := 21) C dX11_unword_20 rfl ?_
    refine R_eq (y := nI (clz (sKn (gS G)) x)) (clz_ok _ kn _ x6) ?_
    refine M_putI (n := 24) C fl_X11_98 dX11_unword_21 rfl rfl rfl rfl rfl ?_
    refine R_al0 (n := 25) C dX11_unword_24 rfl ?_
    refine M_getI (n := 28) C fl_X11_98 dX11_unword_25 rfl rfl up2_same rfl ?_
    refine R_callS (n := 31) C (c_mOnes _ _ _ r (clz_lt _ kn _ x6)) mw_X11_ones ml_X11_152 sv_X11_ones dX11_unword_28 rfl rfl (Nat.le_of_ble_eq_true rfl) ⟨Nat.le_of_ble_eq_true rfl, Nat.le_of_ble_eq_true rfl⟩ ⟨Nat.le_refl _, Nat.le_refl _⟩ rfl (pEs ?_)
    refine R_iret C CR (Nat.zero_le _) (Nat.zero_le _) dX11_unword_31 ?_
    refine ⟨by rw [aUnword, c1, if_pos rfl, xc], rfl, ?_, FrM.rf.up (by decide)⟩
    rw [nUnword, c1, if_pos rfl, xc]
    exact R.wood ⟨up2_gne (by decide) R.1.1, up2_same, up2_gne (by decide) R.1.2.2.1, fun j k hj hk => up2_get (by omega) (R.1.2.2.2 j k hj hk)⟩ (fun a ha => up2_row (by omega)) (up2_ne (by decide))
  · refine R_ic (n := 9) C dX11_unword_8 ci_m1 rfl ?_
    refine R_iret C CR (Nat.zero_le _) (Nat.zero_le _) dX11_unword_9 ?_
    refine ⟨by rw [aUnword, c1]; rfl, rfl, ?_, FrM.rf⟩
    rw [nUnword, c1]
    exact R
