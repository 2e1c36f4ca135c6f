/-! the class's calls on its state -/
def WoodAt (L : Ly) (w q : Nat) (qa : Nat → Nat) : Prop := L[w]? = some (q, .inl (9, [none, none, none, some (some (qa 0)), some (some (qa 1)), some (some (qa 2)), some (some (qa 3)), some (some (qa 4)), some (some (qa 5)), some (some (qa 6)), some (some (qa 7)), some (some (qa 8))])) ∧ ∀ j, j < 9 → L[w + 1 + j]? = some (qa j, .inr (.inl (0, alen j)))
theorem woodAt_LY (r : Nat → Nat) {w : Nat} (hw : w = 1 ∨ w = 53 ∨ w = 63) : WoodAt (LY r) w (r w) (fun j => r (w + 1 + j)) := by
  rcases hw with rfl | rfl | rfl
  · refine ⟨LY_at (r := r) (a := 1) (x := .inl (9, [none, none, none, some (some 2), some (some 3), some (some 4), some (some 5), some (some 6), some (some 7), some (some 8), some (some 9), some (some 10)])) rfl, fun j hj => ?_⟩
    match j, hj with
    | 0, _ => exact LY_at (a := 2) (x := .inr (.inl (0, 5))) rfl
    | 1, _ => exact LY_at (a := 3) (x := .inr (.inl (0, 5))) rfl
    | 2, _ => exact LY_at (a := 4) (x := .inr (.inl (0, 5))) rfl
    | 3, _ => exact LY_at (a := 5) (x := .inr (.inl (0, 5))) rfl
    | 4, _ => exact LY_at (a := 6) (x := .inr (.inl (0, 5))) rfl
    | 5, _ => exact LY_at (a := 7) (x := .inr (.inl (0, 30))) rfl
    | 6, _ => exact LY_at (a := 8) (x := .inr (.inl (0, 6))) rfl
    | 7, _ => exact LY_at (a := 9) (x := .inr (.inl (0, 6))) rfl
    | 8, _ => exact LY_at (a := 10) (x := .inr (.inl (0, 6))) rfl
  · refine ⟨LY_at (r := r) (a := 53) (x := .inl (9, [none, none, none, some (some 54), some (some 55), some (some 56), some (some 57), some (some 58), some (some 59), some (some 60), some (some 61), some (some 62)])) rfl, fun j hj => ?_⟩
    match j, hj with
    | 0, _ => exact LY_at (a := 54) (x := .inr (.inl (0, 5))) rfl
    | 1, _ => exact LY_at (a := 55) (x := .inr (.inl (0, 5))) rfl
    | 2, _ => exact LY_at (a := 56) (x := .inr (.inl (0, 5))) rfl
    | 3, _ => exact LY_at (a := 57) (x := .inr (.inl (0, 5))) rfl
    | 4, _ => exact LY_at (a := 58) (x := .inr (.inl (0, 5))) rfl
    | 5, _ => exact LY_at (a := 59) (x := .inr (.inl (0, 30))) rfl
    | 6, _ => exact LY_at (a := 60) (x := .inr (.inl (0, 6))) rfl
    | 7, _ => exact LY_at (a := 61) (x := .inr (.inl (0, 6))) rfl
    | 8, _ => exact LY_at (a := 62) (x := .inr (.inl (0, 6))) rfl
  · refine ⟨LY_at (r := r) (a := 63) (x := .inl (9, [none, none, none, some (some 64), some (some 65), some (some 66), some (some 67), some (some 68), some (some 69), some (some 70), some (some 71), some (some 72)])) rfl, fun j hj => ?_⟩
    match j, hj with
    | 0, _ => exact LY_at (a := 64) (x := .inr (.inl (0, 5))) rfl
    | 1, _ => exact LY_at (a := 65) (x := .inr (.inl (0, 5))) rfl
    | 2, _ => exact LY_at (a := 66) (x := .inr (.inl (0, 5))) rfl
    | 3, _ => exact LY_at (a := 67) (x := .inr (.inl (0, 5))) rfl
    | 4, _ => exact LY_at (a := 68) (x := .inr (.inl (0, 5))) rfl
    | 5, _ => exact LY_at (a := 69) (x := .inr (.inl (0, 30))) rfl
    | 6, _ => exact LY_at (a := 70) (x := .inr (.inl (0, 6))) rfl
    | 7, _ => exact LY_at (a := 71) (x := .inr (.inl (0, 6))) rfl
    | 8, _ => exact LY_at (a := 72) (x := .inr (.inl (0, 6))) rfl
def plQ (w n : Nat) (h h' : Hp) : Prop := (h' w 0 = nI n ∧ h' w 1 = nI 0 ∧ h' w 2 = nI 0) ∧ (∀ k, k < 5 → h' (w + 1) k = nI 0 ∧ h' (w + 2) k = nI 9 ∧ h' (w + 3) k = nI 9 ∧ h' (w + 4) k = nI 0 ∧ h' (w + 5) k = nI k) ∧ ∀ a, a < w ∨ w + 5 < a → h' a = h a
set_option maxRecDepth 20000 in
set_option maxHeartbeats 4000000 in
theorem c_plant (l : Launch) (D : va_G) (cA : Nat → ClassId) (r : Nat → Nat) {L : Ly} {h : Hp} {w q : Nat} {qa : Nat → Nat} (W : WoodAt L w q qa) (n : Nat) : Cn l D cA yX9_plant cX9_plant 3 none 1 0 0 [.ref q, .int (nI n)] (L) h (pG none L (plQ w n h)) := by
  refine Cn.of (lv := [some (.ref q), some (.int (nI n)), none]) (by decide +kernel) (Nat.le_of_ble_eq_true rfl) rfl (fun X hnm C CR => ?_)
  refine R_al0 (n := 1) C dX9_plant_0 rfl ?_
  refine R_il1 (n := 2) C dX9_plant_1 rfl ?_
  refine G_putI (n := 5) C w fl_X9_43 rfl rfl dX9_plant_2 W.1 rfl rfl ?_
  refine R_al0 (n := 6) C dX9_plant_5 rfl ?_
  refine R_ic (n := 7) C dX9_plant_6 ci_0 rfl ?_
  refine G_putI (n := 10) C w fl_X9_47 rfl rfl dX9_plant_7 W.1 rfl rfl ?_
  refine R_al0 (n := 11) C dX9_plant_10 rfl ?_
  refine R_ic (n := 12) C dX9_plant_11 ci_0 rfl ?_
  refine G_putI (n := 15) C w fl_X9_50 rfl rfl dX9_plant_12 W.1 rfl rfl ?_
  refine R_gen (fun h1 => (h1 w 0 = nI n ∧ h1 w 1 = nI 0 ∧ h1 w 2 = nI 0) ∧ ∀ a, a ≠ w → h1 a = h a) ⟨⟨by simp [up2_at], by simp [up2_at], by simp [up2_at]⟩, fun a ha => by rw [up2_row ha, up2_row ha, up2_row ha]⟩ (fun h1 q1 => ?_)
  refine R_al0 (n := 16) C dX9_plant_15 rfl ?_
  refine G_getR (n := 19) C w fl_X9_9 dX9_plant_16 W.1 rfl rfl ?_
  refine R_ic (n := 20) C dX9_plant_19 ci_0 rfl ?_
  refine R_callS (n := 23) C (c_fill _ _ _ r (W.2 0 (by decide)) (by decide) _) mw_J7_fill_53178 ml_X9_53 sv_J7_fill_53178 dX9_plant_20 rfl rfl (Nat.le_of_ble_eq_true rfl) ⟨Nat.le_of_ble_eq_true rfl, Nat.le_of_ble_eq_true rfl⟩ ⟨Nat.le_refl _, Nat.le_refl _⟩ rfl (pGv (fun h2 q2 => ?_))
  refine R_al0 (n := 24) C dX9_plant_23 rfl ?_
  refine G_getR (n := 27) C w fl_X9_15 dX9_plant_24 W.1 rfl rfl ?_
  refine R_bp (n := 29) C dX9_plant_27 cb_9 rfl ?_
  refine R_callS (n := 32) C (c_fill _ _ _ r (W.2 1 (by decide)) (by decide) _) mw_J7_fill_53178 ml_X9_53 sv_J7_fill_53178 dX9_plant_29 rfl rfl (Nat.le_of_ble_eq_true rfl) ⟨Nat.le_of_ble_eq_true rfl, Nat.le_of_ble_eq_true rfl⟩ ⟨Nat.le_refl _, Nat.le_refl _⟩ rfl (pGv (fun h3 q3 => ?_))
  refine R_al0 (n := 33) C dX9_plant_32 rfl ?_
  refine G_getR (n := 36) C w fl_X9_18 dX9_plant_33 W.1 rfl rfl ?_
  refine R_bp (n := 38) C dX9_plant_36 cb_9 rfl ?_
  refine R_callS (n := 41) C (c_fill _ _ _ r (W.2 2 (by decide)) (by decide) _) mw_J7_fill_53178 ml_X9_53 sv_J7_fill_53178 dX9_plant_38 rfl rfl (Nat.le_of_ble_eq_true rfl) ⟨Nat.le_of_ble_eq_true rfl, Nat.le_of_ble_eq_true rfl⟩ ⟨Nat.le_refl _, Nat.le_refl _⟩ rfl (pGv (fun h4 q4 => ?_))
  refine R_al0 (n := 42) C dX9_plant_41 rfl ?_
  refine G_getR (n := 45) C w fl_X9_21 dX9_plant_42 W.1 rfl rfl ?_
  refine R_ic (n := 46) C dX9_plant_45 ci_0 rfl ?_
  refine R_callS (n := 49) C (c_fill _ _ _ r (W.2 3 (by decide)) (by decide) _) mw_J7_fill_53178 ml_X9_53 sv_J7_fill_53178 dX9_plant_46 rfl rfl (Nat.le_of_ble_eq_true rfl) ⟨Nat.le_of_ble_eq_true rfl, Nat.le_of_ble_eq_true rfl⟩ ⟨Nat.le_refl _, Nat.le_refl _⟩ rfl (pGv (fun h5 q5 => ?_))
  have f5 : ∀ a, a ≠ w + 1 + 3 → a ≠ w + 1 + 2 → a ≠ w + 1 + 1 → a ≠ w + 1 + 0 → a ≠ w → h5 a = h a := fun a b1 b2 b3 b4 b5 => by rw [q5.2 a b1, q4.2 a b2, q3.2 a b3, q2.2 a b4, q1.2 a b5]
  have loop : ∀ (m i : Nat) (g : Hp), 5 < i + m → i ≤ 5 → (∀ k, k < i → g (w + 5) k = nI k) → (∀ b, b ≠ w + 5 → g b = h5 b) → Rn X 0 0 51 [some (.ref q), some (.int (nI n)), some (.int (nI i))] [] L g := by
    intro m
    induction m with
    | zero => intro i g a1 a2; omega
    | succ m ih =>
      intro i g a1 a2 e1 e2
      refine R_il2 (n := 52) C dX9_plant_51 rfl ?_
      refine R_ic (n := 53) C dX9_plant_52 ci_5 rfl ?_
      refine R_icmp_geN (tgt := 69) C dX9_plant_53 rfl rfl (by omega) (by omega) (fun c => ?_) (fun c => ?_)
      · refine R_vret C CR (Nat.zero_le _) (Nat.zero_le _) dX9_plant_69 ?_
        refine ⟨rfl, rfl, ⟨?_, ?_, ?_⟩, fun k hk => ⟨?_, ?_, ?_, ?_, ?_⟩, fun a ha => ?_⟩
        · rw [e2 w (by omega), q5.2 w (by omega), q4.2 w (by omega), q3.2 w (by omega), q2.2 w (by omega)]; exact q1.1.1
        · rw [e2 w (by omega), q5.2 w (by omega), q4.2 w (by omega), q3.2 w (by omega), q2.2 w (by omega)]; exact q1.1.2.1
        · rw [e2 w (by omega), q5.2 w (by omega), q4.2 w (by omega), q3.2 w (by omega), q2.2 w (by omega)]; exact q1.1.2.2
        · rw [e2 _ (by omega), q5.2 _ (by omega), q4.2 _ (by omega), q3.2 _ (by omega)]; exact q2.1 k hk
        · rw [e2 _ (by omega), q5.2 _ (by omega), q4.2 _ (by omega)]; exact q3.1 k hk
        · rw [e2 _ (by omega), q5.2 _ (by omega)]; exact q4.1 k hk
        · rw [e2 _ (by omega)]; exact q5.1 k hk
        · exact e1 k (by omega)
        · rw [e2 a (by omega)]; exact f5 a (by omega) (by omega) (by omega) (by omega) (by omega)
      · refine R_al0 (n := 57) C dX9_plant_56 rfl ?_
        refine G_getR (n := 60) C w fl_X9_24 dX9_plant_57 W.1 rfl rfl ?_
        refine R_il2 (n := 61) C dX9_plant_60 rfl ?_
        refine R_il2 (n := 62) C dX9_plant_61 rfl ?_
        refine G_iast (n := 63) C (w + 1 + 4) dX9_plant_62 (W.2 4 (by decide)) (by decide) (show i < 5 by omega) rfl ?_
        refine R_inc2 (n := 66) C dX9_plant_63 rfl (Nat.le_of_ble_eq_true rfl) (inc_1 _) rfl ?_
        refine R_goto (n := 51) C dX9_plant_66 rfl ?_
        refine ih (i + 1) _ (by omega) (by omega) (fun k hk => ?_) (fun b hb => by rw [up2_row (by omega)]; exact e2 b hb)
        rw [show w + 5 = w + 1 + 4 by omega, up2_at]
        split
        · rename_i e; rw [e]
        · exact e1 k (by omega)
  refine R_ic (n := 50) C dX9_plant_49 ci_0 rfl ?_
  refine R_is2 (n := 51) C dX9_plant_50 rfl (Nat.le_of_ble_eq_true rfl) rfl ?_
  exact loop 6 0 h5 (by omega) (by omega) (fun k hk => by omega) (fun _ _ => rfl)
theorem pl_rw {σ : WS} {n : Nat} {h h' : Hp} (R : RW 1 σ h) (q : plQ 1 n h h') : RW 1 (plz σ n) h' := by
  refine ⟨q.1.1, q.1.2.1, q.1.2.2, fun j k hj hk => ?_⟩
  match j, hj, hk with
  | 0, _, hk => exact (q.2.1 k hk).1
  | 1, _, hk => exact (q.2.1 k hk).2.1
  | 2, _, hk => exact (q.2.1 k hk).2.2.1
  | 3, _, hk => exact (q.2.1 k hk).2.2.2.1
  | 4, _, hk => exact (q.2.1 k hk).2.2.2.2
  | 5, _, hk => rw [q.2.2 (1 + 1 + 5) (by omega)]; exact R.2.2.2 5 k (by decide) hk
  | 6, _, hk => rw [q.2.2 (1 + 1 + 6) (by omega)]; exact R.2.2.2 6 k (by decide) hk
  | 7, _, hk => rw [q.2.2 (1 + 1 + 7) (by omega)]; exact R.2.2.2 7 k (by decide) hk
  | 8, _, hk => rw [q.2.2 (1 + 1 + 8) (by omega)]; exact R.2.2.2 8 k (by decide) hk
theorem pl_inv {σ : WS} {n : Nat} (I : Inv σ) (h1 : 1 ≤ n) (h5 : n ≤ 5) : Inv (plz σ n) := by
  refine ⟨⟨h1, h5, (show (0 : Nat) < 64 by decide), (show (0 : Nat) ≤ 6 by decide)⟩, fun k hk => ⟨(show (0 : Nat) < 4 by decide), (show (9 : Nat) ≤ 30 by decide), (show (9 : Nat) ≤ 30 by decide), (show (0 : Nat) < 4 by decide), ?_⟩, fun k hk => I.tu hk, fun k hk => ?_, fun k _ hk => ⟨rfl, rfl, rfl, rfl, rfl⟩⟩
  · show k < 25
    omega
  · exact absurd hk (Nat.not_lt_zero k)
set_option maxRecDepth 20000 in
set_option maxHeartbeats 4000000 in
theorem p_huts (l : Launch) (D : va_G) (cA : Nat → ClassId) (r : Nat → Nat) {h : Hp} {G : GS} (R : RCl G h) (I : InvG G) (v : Int32) : Cn l D cA yX10_huts cX10_huts 3 (some .int) 2 0 0 [.ref (r 0), .int v] (LY r) h (pG (some (.int (aHuts G v))) (LY r) (fun h' => RCl (nHuts G v) h' ∧ FrC h h')) := by
  refine Cn.of (lv := [some (.ref (r 0)), some (.int v), none]) (by decide +kernel) (Nat.le_of_ble_eq_true rfl) rfl (fun X hnm C CR => ?_)
  refine R_il1 (n := 1) C dX10_huts_0 rfl ?_
  refine R_ic (n := 2) C dX10_huts_1 ci_1 rfl ?_
  refine R_icmp_lt (tgt := 10) C dX10_huts_2 rfl rfl (fun c1 => ?_) (fun c1 => ?_)
  · refine R_bp (n := 12) C dX10_huts_10 cb_m2 rfl ?_
    refine R_iret C CR (Nat.zero_le _) (Nat.zero_le _) dX10_huts_12 ?_
    refine ⟨by rw [aHuts, win_lo c1]; rfl, rfl, ?_, FrC.rf⟩
    rw [nHuts, win_lo c1]
    exact R
  · refine R_il1 (n := 6) C dX10_huts_5 rfl ?_
    refine R_ic (n := 7) C dX10_huts_6 ci_5 rfl ?_
    refine R_icmp_le (tgt := 13) C dX10_huts_7 rfl rfl (fun c2 => ?_) (fun c2 => ?_)
    · have hw : win v (nI 1) (nI 5) = true := win_ok c1 (Int32.not_lt.mpr c2)
      obtain ⟨n, h1, h5, rfl⟩ := win_of (by decide) (by decide) hw
      refine R_al0 (n := 14) C dX10_huts_13 rfl ?_
      refine M_getR (n := 17) C fl_X10_12 dX10_huts_14 rfl rfl rfl ?_
      refine M_getI (n := 20) C fl_X10_80 dX10_huts_17 rfl rfl (wN R.1) rfl ?_
      refine R_is2 (n := 21) C dX10_huts_20 rfl (Nat.le_of_ble_eq_true rfl) rfl ?_
      refine R_al0 (n := 22) C dX10_huts_21 rfl ?_
      refine M_getR (n := 25) C fl_X10_12 dX10_huts_22 rfl rfl rfl ?_
      refine R_il1 (n := 26) C dX10_huts_25 rfl ?_
      refine M_callV (n := 29) C (c_plant _ _ _ r (woodAt_LY r (Or.inl rfl)) n) mw_X9_plant ml_X10_84 iv_X9_plant dX10_huts_26 rfl rfl rfl rfl (Nat.le_of_ble_eq_true rfl) ⟨Nat.le_of_ble_eq_true rfl, Nat.le_of_ble_eq_true rfl⟩ ⟨Nat.le_refl _, Nat.le_refl _⟩ rfl (pGv (fun h1 q1 => ?_))
      refine R_il2 (n := 30) C dX10_huts_29 rfl ?_
      refine R_iret C CR (Nat.zero_le _) (Nat.zero_le _) dX10_huts_30 ?_
      refine ⟨by rw [aHuts, hw]; rfl, rfl, ?_, fun a ha => q1.2.2 a (by omega)⟩
      rw [nHuts, hw, if_pos rfl, cl, nI_clamp (by omega)]
      exact R.wood (pl_rw R.1 q1) (fun a ha => q1.2.2 a (by omega))
    · have hw : win v (nI 1) (nI 5) = false := win_hi (Int32.not_le.mp c2)
      refine R_bp (n := 12) C dX10_huts_10 cb_m2 rfl ?_
      refine R_iret C CR (Nat.zero_le _) (Nat.zero_le _) dX10_huts_12 ?_
      refine ⟨by rw [aHuts, hw]; rfl, rfl, ?_, FrC.rf⟩
      rw [nHuts, hw]
      exact R
