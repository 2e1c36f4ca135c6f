theorem PI.mo {G : GS} {h g : Hp} {b : Bool} {bs : Nat} {τ : WS} {h0 : Hp} (R : RMo G h) (P : PI b bs τ h0 76 g) (f : ∀ a, a ≠ 73 → h0 a = h a) (f13 : h0 73 13 = h 73 13) : RMP (gP G) g ∧ g 99 = h 99 ∧ FrM h g := by
  refine ⟨⟨?_, fun k hk => ?_⟩, ?_, fun a ha => ?_⟩
  · rw [P.2.2.2.2.2 13 (by decide) (by decide) (by decide) (by decide), f13]; exact R.2.1.1
  · rw [P.2.2.2.2.1 83 (by decide) (by decide), f 83 (by decide)]; exact R.2.1.2 k hk
  · rw [P.2.2.2.2.1 99 (by decide) (by decide), f 99 (by decide)]
  · rw [P.2.2.2.2.1 a (by omega) (by omega), f a (by omega)]
set_option maxRecDepth 20000 in
set_option maxHeartbeats 4000000 in
theorem m_image (l : Launch) (D : va_G) (cA : Nat → ClassId) (r : Nat → Nat) {h : Hp} {G : GS} (R : RMo G h) (v : Int32) : Cn l D cA yX11_image cX11_image 2 (some .int) 2 0 0 [.ref (r 73), .int v] (LY r) h (pG (some (.int (aImage v))) (LY r) (fun h' => RMo (nImage G v) h' ∧ FrM h h')) := by
  refine Cn.of (lv := [some (.ref (r 73)), some (.int v)]) (by decide +kernel) (Nat.le_of_ble_eq_true rfl) rfl (fun X hnm C CR => ?_)
  refine R_il1 (n := 1) C dX11_image_0 rfl ?_
  refine R_i2l (n := 2) C dX11_image_1 rfl rfl ?_
  refine R_lc (n := 3) C dX11_image_2 lc_0 rfl ?_
  refine R_lc (n := 4) C dX11_image_3 lc_1 rfl ?_
  refine R_callS (n := 7) C (c_mIn _ _ _ r _ _ _) mw_X11_in ml_X11_104 sv_X11_in dX11_image_4 rfl rfl (Nat.le_of_ble_eq_true rfl) ⟨Nat.le_of_ble_eq_true rfl, Nat.le_of_ble_eq_true rfl⟩ ⟨Nat.le_refl _, Nat.le_refl _⟩ rfl (pEs ?_)
  rw [winL_n (by decide) (by decide)]
  refine R_if_neB (tgt := 13) C dX11_image_7 rfl rfl (fun c1 => ?_) (fun c1 => ?_)
  · obtain ⟨x, _, hx, rfl⟩ := win_of (by decide) (by decide) c1
    have xc : cl (nI x) = x := nI_clamp (by omega)
    rw [aImage, nImage, c1, if_pos rfl, if_pos rfl, xc] at CR
    refine R_al0 (n := 14) C dX11_image_13 rfl ?_
    refine R_bp (n := 16) C dX11_image_14 cb_100 rfl ?_
    refine R_il1 (n := 17) C dX11_image_16 rfl ?_
    refine R_imulN (n := 18) C dX11_image_17 rfl ?_
    refine M_putI (n := 21) C fl_X11_330 dX11_image_18 rfl rfl rfl rfl rfl ?_
    refine R_al0 (n := 22) C dX11_image_21 rfl ?_
    refine R_ic (n := 23) C dX11_image_22 ci_1 rfl ?_
    refine M_putZ (n := 26) C fl_X11_326 dX11_image_23 rfl rfl rfl rfl (Or.inr rfl) rfl ?_
    obtain ⟨h0, e0⟩ : ∃ h0, up2 (up2 h 73 39 (nI (100 * x))) 73 40 (nI 1) = h0 := ⟨_, rfl⟩
    rw [e0]
    have f : ∀ a, a ≠ 73 → h0 a = h a := fun a ha => by rw [← e0, up2_row ha, up2_row ha]
    have f73 : ∀ k, k ≠ 39 → k ≠ 40 → h0 73 k = h 73 k := fun k k1 k2 => by rw [← e0, up2_ne k2, up2_ne k1]
    have R0 : RM (gS G) h0 := R.1.f (fun a h1 h2 => f a (by omega)) (f73 0 (by decide) (by decide)) (f73 6 (by decide) (by decide)) (f73 11 (by decide) (by decide))
    have P0 : PI true (100 * x) (gS G) h0 0 h0 := ⟨⟨by rw [← e0, up2_ne (by decide), up2_same]; rfl, by rw [← e0, up2_same]; rfl⟩, fun s hs _ => R0.sl s hs, fun s hs q => (by rcases q with q | q; omega; cases q), fun _ _ => rfl, fun _ _ _ => rfl, fun _ _ _ _ _ => rfl⟩
    refine R_al0 (n := 27) C dX11_image_26 rfl ?_
    refine M_callV (n := 30) C (c_mPassAll _ _ _ r (by omega) P0) mw_X11_passAll ml_X11_336 iv_X11_passAll dX11_image_27 rfl rfl rfl rfl (Nat.le_of_ble_eq_true rfl) ⟨Nat.le_of_ble_eq_true rfl, Nat.le_of_ble_eq_true rfl⟩ ⟨Nat.le_refl _, Nat.le_refl _⟩ rfl (pGv (fun h1 P => ?_))
    obtain ⟨p1, p2, p3⟩ := P.mo R f (f73 13 (by decide) (by decide))
    refine R_al0 (n := 31) C dX11_image_30 rfl ?_
    refine M_getR (n := 34) C fl_X11_86 dX11_image_31 rfl rfl rfl ?_
    refine R_il1 (n := 35) C dX11_image_34 rfl ?_
    refine R_ic (n := 36) C dX11_image_35 ci_1 rfl ?_
    refine M_zast (n := 37) C (Or.inr rfl) dX11_image_36 rfl (by omega) rfl ?_
    refine R_ic (n := 38) C dX11_image_37 ci_1 rfl ?_
    refine R_iret C CR (Nat.zero_le _) (Nat.zero_le _) dX11_image_38 ?_
    have R1 : RM (gS G) (up2 h1 99 x (nI 1)) := P.rm.f (fun a g1 g2 => up2_row (by omega)) (by rw [up2_row (by decide)]) (by rw [up2_row (by decide)]) (by rw [up2_row (by decide)])
    have P1 : RMP (gP G) (up2 h1 99 x (nI 1)) := p1.f (up2_row (by decide)) (by rw [up2_row (by decide)])
    obtain rfl | rfl : x = 0 ∨ x = 1 := by omega
    · refine ⟨rfl, rfl, ⟨R1, P1, up2_same, ?_, fun _ t ht => ?_, fun q t ht => ?_⟩, fun a ha => by rw [up2_row (by omega)]; exact p3 a ha⟩
      · rw [up2_ne (by decide), p2]; exact R.2.2.2.1
      · rw [up2_row (by decide)]
        have := P.2.2.1 t ht (Or.inl ht)
        rw [Nat.mul_zero, Nat.zero_add] at this
        exact this
      · rw [up2_row (by decide), P.2.2.2.1 (100 + t) (by omega), f 98 (by decide)]
        exact R.2.2.2.2.2 q t ht
    · refine ⟨rfl, rfl, ⟨R1, P1, ?_, up2_same, fun q t ht => ?_, fun _ t ht => ?_⟩, fun a ha => by rw [up2_row (by omega)]; exact p3 a ha⟩
      · rw [up2_ne (by decide), p2]; exact R.2.2.1
      · rw [up2_row (by decide), P.2.2.2.1 t (by omega), f 98 (by decide)]
        exact R.2.2.2.2.1 q t ht
      · rw [up2_row (by decide)]
        exact P.2.2.1 t ht (Or.inl ht)
  · refine R_bp (n := 12) C dX11_image_10 cb_m2 rfl ?_
    refine R_iret C CR (Nat.zero_le _) (Nat.zero_le _) dX11_image_12 ?_
    refine ⟨by rw [aImage, c1]; rfl, rfl, ?_, FrM.rf⟩
    rw [nImage, c1]
    exact R
set_option maxRecDepth 20000 in
set_option maxHeartbeats 4000000 in
theorem m_restore (l : Launch) (D : va_G) (cA : Nat → ClassId) (r : Nat → Nat) {h : Hp} {G : GS} (R : RMo G h) (v : Int32) : Cn l D cA yX11_restore cX11_restore 2 (some .int) 2 0 0 [.ref (r 73), .int v] (LY r) h (pG (some (.int (aRestore G v))) (LY r) (fun h' => RMo (nRestore G v) h' ∧ FrM h h')) := by
  refine Cn.of (lv := [some (.ref (r 73)), some (.int v)]) (by decide +kernel) (Nat.le_of_ble_eq_true rfl) rfl (fun X hnm C CR => ?_)
  refine R_il1 (n := 1) C dX11_restore_0 rfl ?_
  refine R_i2l (n := 2) C dX11_restore_1 rfl rfl ?_
  refine R_lc (n := 3) C dX11_restore_2 lc_0 rfl ?_
  refine R_lc (n := 4) C dX11_restore_3 lc_1 rfl ?_
  refine R_callS (n := 7) C (c_mIn _ _ _ r _ _ _) mw_X11_in ml_X11_104 sv_X11_in dX11_restore_4 rfl rfl (Nat.le_of_ble_eq_true rfl) ⟨Nat.le_of_ble_eq_true rfl, Nat.le_of_ble_eq_true rfl⟩ ⟨Nat.le_refl _, Nat.le_refl _⟩ rfl (pEs ?_)
  rw [winL_n (by decide) (by decide)]
  refine R_if_neB (tgt := 13) C dX11_restore_7 rfl rfl (fun c1 => ?_) (fun c1 => ?_)
  · obtain ⟨x, _, hx, rfl⟩ := win_of (by decide) (by decide) c1
    have xc : cl (nI x) = x := nI_clamp (by omega)
    rw [aRestore, nRestore, c1, if_pos rfl, Bool.true_and, xc] at CR
    have e99 : h 99 x = bI (kpt G x) := by
      obtain rfl | rfl : x = 0 ∨ x = 1 := by omega
      · exact R.2.2.1
      · exact R.2.2.2.1
    refine R_al0 (n := 14) C dX11_restore_13 rfl ?_
    refine M_getR (n := 17) C fl_X11_86 dX11_restore_14 rfl rfl rfl ?_
    refine R_il1 (n := 18) C dX11_restore_17 rfl ?_
    refine M_zald (n := 19) C dX11_restore_18 rfl (by omega) e99 rfl ?_
    refine R_if_neB (tgt := 25) C dX11_restore_19 rfl rfl (fun c2 => ?_) (fun c2 => ?_)
    · rw [c2, if_pos rfl, if_pos rfl] at CR
      refine R_al0 (n := 26) C dX11_restore_25 rfl ?_
      refine R_bp (n := 28) C dX11_restore_26 cb_100 rfl ?_
      refine R_il1 (n := 29) C dX11_restore_28 rfl ?_
      refine R_imulN (n := 30) C dX11_restore_29 rfl ?_
      refine M_putI (n := 33) C fl_X11_330 dX11_restore_30 rfl rfl rfl rfl rfl ?_
      refine R_al0 (n := 34) C dX11_restore_33 rfl ?_
      refine R_ic (n := 35) C dX11_restore_34 ci_0 rfl ?_
      refine M_putZ (n := 38) C fl_X11_326 dX11_restore_35 rfl rfl rfl rfl (Or.inl rfl) rfl ?_
      obtain ⟨h0, e0⟩ : ∃ h0, up2 (up2 h 73 39 (nI (100 * x))) 73 40 (nI 0) = h0 := ⟨_, rfl⟩
      rw [e0]
      have f : ∀ a, a ≠ 73 → h0 a = h a := fun a ha => by rw [← e0, up2_row ha, up2_row ha]
      have f73 : ∀ k, k ≠ 39 → k ≠ 40 → h0 73 k = h 73 k := fun k k1 k2 => by rw [← e0, up2_ne k2, up2_ne k1]
      have k0 : ∀ s, s < 76 → h0 98 (100 * x + s) = nI (ikz (if x = 0 then gS0 G else gS1 G) s) := by
        intro s hs
        rw [f 98 (by decide)]
        obtain rfl | rfl : x = 0 ∨ x = 1 := by omega
        · rw [Nat.mul_zero, Nat.zero_add]
          exact R.2.2.2.2.1 c2 s hs
        · exact R.2.2.2.2.2 c2 s hs
      have P0 : PI false (100 * x) (if x = 0 then gS0 G else gS1 G) h0 0 h0 := ⟨⟨by rw [← e0, up2_ne (by decide), up2_same]; rfl, by rw [← e0, up2_same]; rfl⟩, fun s hs q => (by rcases q with q | q; omega; cases q), fun s hs _ => k0 s hs, fun _ _ => rfl, fun _ _ _ => rfl, fun _ _ _ _ _ => rfl⟩
      refine R_al0 (n := 39) C dX11_restore_38 rfl ?_
      refine M_callV (n := 42) C (c_mPassAll _ _ _ r (by omega) P0) mw_X11_passAll ml_X11_336 iv_X11_passAll dX11_restore_39 rfl rfl rfl rfl (Nat.le_of_ble_eq_true rfl) ⟨Nat.le_of_ble_eq_true rfl, Nat.le_of_ble_eq_true rfl⟩ ⟨Nat.le_refl _, Nat.le_refl _⟩ rfl (pGv (fun h1 P => ?_))
      obtain ⟨p1, p2, p3⟩ := P.mo R f (f73 13 (by decide) (by decide))
      have old : ∀ i, i < 200 → (i < 100 * x ∨ 100 * x + 76 ≤ i) → h1 98 i = h 98 i := fun i _ q => by rw [P.2.2.2.1 i q, f 98 (by decide)]
      have nw : ∀ t, t < 76 → h1 98 (100 * x + t) = h 98 (100 * x + t) := fun t ht => by
        rw [P.2.2.1 t ht (Or.inl ht), ← P0.2.2.1 t ht (Or.inr rfl), f 98 (by decide)]
      refine R_ic (n := 43) C dX11_restore_42 ci_1 rfl ?_
      refine R_iret C CR (Nat.zero_le _) (Nat.zero_le _) dX11_restore_43 ?_
      refine ⟨rfl, rfl, ⟨P.rm, p1, by rw [p2]; exact R.2.2.1, by rw [p2]; exact R.2.2.2.1, fun q t ht => ?_, fun q t ht => ?_⟩, p3⟩
      · obtain rfl | rfl : x = 0 ∨ x = 1 := by omega
        · have := nw t ht
          rw [Nat.mul_zero, Nat.zero_add] at this
          rw [this]
          exact R.2.2.2.2.1 q t ht
        · rw [old t (by omega) (by omega)]
          exact R.2.2.2.2.1 q t ht
      · obtain rfl | rfl : x = 0 ∨ x = 1 := by omega
        · rw [old (100 + t) (by omega) (by omega)]
          exact R.2.2.2.2.2 q t ht
        · have := nw t ht
          rw [show 100 * 1 + t = 100 + t by omega] at this
          rw [this]
          exact R.2.2.2.2.2 q t ht
    · rw [c2, if_neg (by decide), if_neg (by decide)] at CR
      refine R_bp (n := 24) C dX11_restore_22 cb_m3 rfl ?_
      refine R_iret C CR (Nat.zero_le _) (Nat.zero_le _) dX11_restore_24 ?_
      exact ⟨rfl, rfl, R, FrM.rf⟩
  · refine R_bp (n := 12) C dX11_restore_10 cb_m2 rfl ?_
    refine R_iret C CR (Nat.zero_le _) (Nat.zero_le _) dX11_restore_12 ?_
    refine ⟨by rw [aRestore, c1]; rfl, rfl, ?_, FrM.rf⟩
    rw [nRestore, c1, Bool.false_and]
    exact R
