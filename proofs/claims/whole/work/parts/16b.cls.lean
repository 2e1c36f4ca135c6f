def WoodAt (L : Ly) (w q : Nat) (qa : Nat → Nat) : Prop := L[w]? = some (q, .inl (9, [none, none, none, some (some (qa 0)), some (some (qa 1)), some (some (qa 2)), some (some (qa 3)), some (some (qa 4)), some (some (qa 5)), some (some (qa 6)), some (some (qa 7)), some (some (qa 8))])) ∧ ∀ j, j < 9 → L[w + 1 + j]? = some (qa j, .inr (.inl (0, alen j)))
theorem woodAt_LY (r : Nat → Nat) {w : Nat} (hw : w = 1 ∨ w = 53 ∨ w = 63) : WoodAt (LY r) w (r w) (fun j => r (w + 1 + j)) := by
  rcases hw with rfl | rfl | rfl
  · refine ⟨LY_at (r := r) (a := 1) (x := .inl (9, [none, none, none, some (some 2), some (some 3), some (some 4), some (some 5), some (some 6), some (some 7), some (some 8), some (some 9), some (some 10)])) rfl, fun j hj => ?_⟩
    match j, hj with
    | 0, _ => exact LY_at (a := 2) (x := .inr (.inl (0, 5))) rfl
    | 1, _ => exact LY_at (a := 3) (x := .inr (.inl (0, 5))) rfl
    | 2, _ => exact LY_at (a := 4) (x := .inr (.inl (0, 5))) rfl
    | 3, _ => exact LY_at (a := 5) (x := .inr (.inl (0, 5))) rfl
    | 4, _ => exact LY_at (a := 6) (x := .inr (.inl (0, 5))) rfl
    | 5, _ => exact LY_at (a := 7) (x := .inr (.inl (0, 30))) rfl
    | 6, _ => exact LY_at (a := 8) (x := .inr (.inl (0, 6))) rfl
    | 7, _ => exact LY_at (a := 9) (x := .inr (.inl (0, 6))) rfl
    | 8, _ => exact LY_at (a := 10) (x := .inr (.inl (0, 6))) rfl
  · refine ⟨LY_at (r := r) (a := 53) (x := .inl (9, [none, none, none, some (some 54), some (some 55), some (some 56), some (some 57), some (some 58), some (some 59), some (some 60), some (some 61), some (some 62)])) rfl, fun j hj => ?_⟩
    match j, hj with
    | 0, _ => exact LY_at (a := 54) (x := .inr (.inl (0, 5))) rfl
    | 1, _ => exact LY_at (a := 55) (x := .inr (.inl (0, 5))) rfl
    | 2, _ => exact LY_at (a := 56) (x := .inr (.inl (0, 5))) rfl
    | 3, _ => exact LY_at (a := 57) (x := .inr (.inl (0, 5))) rfl
    | 4, _ => exact LY_at (a := 58) (x := .inr (.inl (0, 5))) rfl
    | 5, _ => exact LY_at (a := 59) (x := .inr (.inl (0, 30))) rfl
    | 6, _ => exact LY_at (a := 60) (x := .inr (.inl (0, 6))) rfl
    | 7, _ => exact LY_at (a := 61) (x := .inr (.inl (0, 6))) rfl
    | 8, _ => exact LY_at (a := 62) (x := .inr (.inl (0, 6))) rfl
  · refine ⟨LY_at (r := r) (a := 63) (x := .inl (9, [none, none, none, some (some 64), some (some 65), some (some 66), some (some 67), some (some 68), some (some 69), some (some 70), some (some 71), some (some 72)])) rfl, fun j hj => ?_⟩
    match j, hj with
    | 0, _ => exact LY_at (a := 64) (x := .inr (.inl (0, 5))) rfl
    | 1, _ => exact LY_at (a := 65) (x := .inr (.inl (0, 5))) rfl
    | 2, _ => exact LY_at (a := 66) (x := .inr (.inl (0, 5))) rfl
    | 3, _ => exact LY_at (a := 67) (x := .inr (.inl (0, 5))) rfl
    | 4, _ => exact LY_at (a := 68) (x := .inr (.inl (0, 5))) rfl
    | 5, _ => exact LY_at (a := 69) (x := .inr (.inl (0, 30))) rfl
    | 6, _ => exact LY_at (a := 70) (x := .inr (.inl (0, 6))) rfl
    | 7, _ => exact LY_at (a := 71) (x := .inr (.inl (0, 6))) rfl
    | 8, _ => exact LY_at (a := 72) (x := .inr (.inl (0, 6))) rfl
def plQ (w n : Nat) (h h' : Hp) : Prop := (h' w 0 = nI n ∧ h' w 1 = nI 0 ∧ h' w 2 = nI 0) ∧ (∀ k, k < 5 → h' (w + 1) k = nI 0 ∧ h' (w + 2) k = nI 9 ∧ h' (w + 3) k = nI 9 ∧ h' (w + 4) k = nI 0 ∧ h' (w + 5) k = nI k) ∧ ∀ a, a < w ∨ w + 5 < a → h' a = h a
set_option maxRecDepth 20000 in
set_option maxHeartbeats 4000000 in
theorem c_plant (l : Launch) (D : va_G) (cA : Nat → ClassId) (r : Nat → Nat) {L : Ly} {h : Hp} {w q : Nat} {qa : Nat → Nat} (W : WoodAt L w q qa) (n : Nat) : Cn l D cA yX9_plant cX9_plant 3 none 1 0 0 [.ref q, .int (nI n)] (L) h (pG none L (plQ w n h)) := by
  refine Cn.of (lv := [some (.ref q), some (.int (nI n)), none]) (by decide +kernel) (Nat.le_of_ble_eq_true rfl) rfl (fun X hnm C CR => ?_)
  refine R_al0 (n := 1) C dX9_plant_0 rfl ?_
  refine R_il1 (n := 2) C dX9_plant_1 rfl ?_
  refine G_putI (n := 5) C w fl_X9_43 rfl rfl dX9_plant_2 W.1 rfl rfl ?_
  refine R_al0 (n := 6) C dX9_plant_5 rfl ?_
  refine R_ic (n := 7) C dX9_plant_6 ci_0 rfl ?_
  refine G_putI (n := 10) C w fl_X9_47 rfl rfl dX9_plant_7 W.1 rfl rfl ?_
  refine R_al0 (n := 11) C dX9_plant_10 rfl ?_
  refine R_ic (n := 12) C dX9_plant_11 ci_0 rfl ?_
  refine G_putI (n := 15) C w fl_X9_50 rfl rfl dX9_plant_12 W.1 rfl rfl ?_
  refine R_gen (fun h1 => (h1 w 0 = nI n ∧ h1 w 1 = nI 0 ∧ h1 w 2 = nI 0) ∧ ∀ a, a ≠ w → h1 a = h a) ⟨⟨by simp [up2_at], by simp [up2_at], by simp [up2_at]⟩, fun a ha => by rw [up2_row ha, up2_row ha, up2_row ha]⟩ (fun h1 q1 => ?_)
  refine R_al0 (n := 16) C dX9_plant_15 rfl ?_
  refine G_getR (n := 19) C w fl_X9_9 dX9_plant_16 W.1 rfl rfl ?_
  refine R_ic (n := 20) C dX9_plant_19 ci_0 rfl ?_
  refine R_callS (n := 23) C (c_fill _ _ _ r (W.2 0 (by decide)) (by decide) _) mw_J7_fill_53178 ml_X9_53 sv_J7_fill_53178 dX9_plant_20 rfl rfl (Nat.le_of_ble_eq_true rfl) ⟨Nat.le_of_ble_eq_true rfl, Nat.le_of_ble_eq_true rfl⟩ ⟨Nat.le_refl _, Nat.le_refl _⟩ rfl (pGv (fun h2 q2 => ?_))
  refine R_al0 (n := 24) C dX9_plant_23 rfl ?_
  refine G_getR (n := 27) C w fl_X9_15 dX9_plant_24 W.1 rfl rfl ?_
  refine R_bp (n := 29) C dX9_plant_27 cb_9 rfl ?_
  refine R_callS (n := 32) C (c_fill _ _ _ r (W.2 1 (by decide)) (by decide) _) mw_J7_fill_53178 ml_X9_53 sv_J7_fill_53178 dX9_plant_29 rfl rfl (Nat.le_of_ble_eq_true rfl) ⟨Nat.le_of_ble_eq_true rfl, Nat.le_of_ble_eq_true rfl⟩ ⟨Nat.le_refl _, Nat.le_refl _⟩ rfl (pGv (fun h3 q3 => ?_))
  refine R_al0 (n := 33) C dX9_plant_32 rfl ?_
  refine G_getR (n := 36) C w fl_X9_18 dX9_plant_33 W.1 rfl rfl ?_
  refine R_bp (n := 38) C dX9_plant_36 cb_9 rfl ?_
  refine R_callS (n := 41) C (c_fill _ _ _ r (W.2 2 (by decide)) (by decide) _) mw_J7_fill_53178 ml_X9_53 sv_J7_fill_53178 dX9_plant_38 rfl rfl (Nat.le_of_ble_eq_true rfl) ⟨Nat.le_of_ble_eq_true rfl, Nat.le_of_ble_eq_true rfl⟩ ⟨Nat.le_refl _, Nat.le_refl _⟩ rfl (pGv (fun h4 q4 => ?_))
  refine R_al0 (n := 42) C dX9_plant_41 rfl ?_
  refine G_getR (n := 45) C w fl_X9_21 dX9_plant_42 W.1 rfl rfl ?_
  refine R_ic (n := 46) C dX9_plant_45 ci_0 rfl ?_
  refine R_callS (n := 49) C (c_fill _ _ _ r (W.2 3 (by decide)) (by decide) _) mw_J7_fill_53178 ml_X9_53 sv_J7_fill_53178 dX9_plant_46 rfl rfl (Nat.le_of_ble_eq_true rfl) ⟨Nat.le_of_ble_eq_true rfl, Nat.le_of_ble_eq_true rfl⟩ ⟨Nat.le_refl _, Nat.le_refl _⟩ rfl (pGv (fun h5 q5 => ?_))
  have f5 : ∀ a, a ≠ w + 1 + 3 → a ≠ w + 1 + 2 → a ≠ w + 1 + 1 → a ≠ w + 1 + 0 → a ≠ w → h5 a = h a := fun a b1 b2 b3 b4 b5 => by rw [q5.2 a b1, q4.2 a b2, q3.2 a b3, q2.2 a b4, q1.2 a b5]
  have loop : ∀ (m i : Nat) (g : Hp), 5 < i + m → i ≤ 5 → (∀ k, k < i → g (w + 5) k = nI k) → (∀ b, b ≠ w + 5 → g b = h5 b) → Rn X 0 0 51 [some (.ref q), some (.int (nI n)), some (.int (nI i))] [] L g := by
    intro m
    induction m with
    | zero => intro i g a1 a2; omega
    | succ m ih =>
      intro i g a1 a2 e1 e2
      refine R_il2 (n := 52) C dX9_plant_51 rfl ?_
      refine R_ic (n := 53) C dX9_plant_52 ci_5 rfl ?_
      refine R_icmp_geN (tgt := 69) C dX9_plant_53 rfl rfl (by omega) (by omega) (fun c => ?_) (fun c => ?_)
      · refine R_vret C CR (Nat.zero_le _) (Nat.zero_le _) dX9_plant_69 ?_
        refine ⟨rfl, rfl, ⟨?_, ?_, ?_⟩, fun k hk => ⟨?_, ?_, ?_, ?_, ?_⟩, fun a ha => ?_⟩
        · rw [e2 w (by omega), q5.2 w (by omega), q4.2 w (by omega), q3.2 w (by omega), q2.2 w (by omega)]; exact q1.1.1
        · rw [e2 w (by omega), q5.2 w (by omega), q4.2 w (by omega), q3.2 w (by omega), q2.2 w (by omega)]; exact q1.1.2.1
        · rw [e2 w (by omega), q5.2 w (by omega), q4.2 w (by omega), q3.2 w (by omega), q2.2 w (by omega)]; exact q1.1.2.2
        · rw [e2 _ (by omega), q5.2 _ (by omega), q4.2 _ (by omega), q3.2 _ (by omega)]; exact q2.1 k hk
        · rw [e2 _ (by omega), q5.2 _ (by omega), q4.2 _ (by omega)]; exact q3.1 k hk
        · rw [e2 _ (by omega), q5.2 _ (by omega)]; exact q4.1 k hk
        · rw [e2 _ (by omega)]; exact q5.1 k hk
        · exact e1 k (by omega)
        · rw [e2 a (by omega)]; exact f5 a (by omega) (by omega) (by omega) (by omega) (by omega)
      · refine R_al0 (n := 57) C dX9_plant_56 rfl ?_
        refine G_getR (n := 60) C w fl_X9_24 dX9_plant_57 W.1 rfl rfl ?_
        refine R_il2 (n := 61) C dX9_plant_60 rfl ?_
        refine R_il2 (n := 62) C dX9_plant_61 rfl ?_
        refine G_iast (n := 63) C (w + 1 + 4) dX9_plant_62 (W.2 4 (by decide)) (by decide) (show i < 5 by omega) rfl ?_
        refine R_inc2 (n := 66) C dX9_plant_63 rfl (Nat.le_of_ble_eq_true rfl) (inc_1 _) rfl ?_
        refine R_goto (n := 51) C dX9_plant_66 rfl ?_
        refine ih (i + 1) _ (by omega) (by omega) (fun k hk => ?_) (fun b hb => by rw [up2_row (by omega)]; exact e2 b hb)
        rw [show w + 5 = w + 1 + 4 by omega, up2_at]
        split
        · rename_i e; rw [e]
        · exact e1 k (by omega)
  refine R_ic (n := 50) C dX9_plant_49 ci_0 rfl ?_
  refine R_is2 (n := 51) C dX9_plant_50 rfl (Nat.le_of_ble_eq_true rfl) rfl ?_
  exact loop 6 0 h5 (by omega) (by omega) (fun k hk => by omega) (fun _ _ => rfl)
theorem pl_rw {σ : WS} {n : Nat} {h h' : Hp} (R : RW 1 σ h) (q : plQ 1 n h h') : RW 1 (plz σ n) h' := by
  refine ⟨q.1.1, q.1.2.1, q.1.2.2, fun j k hj hk => ?_⟩
  match j, hj, hk with
  | 0, _, hk => exact (q.2.1 k hk).1
  | 1, _, hk => exact (q.2.1 k hk).2.1
  | 2, _, hk => exact (q.2.1 k hk).2.2.1
  | 3, _, hk => exact (q.2.1 k hk).2.2.2.1
  | 4, _, hk => exact (q.2.1 k hk).2.2.2.2
  | 5, _, hk => rw [q.2.2 (1 + 1 + 5) (by omega)]; exact R.2.2.2 5 k (by decide) hk
  | 6, _, hk => rw [q.2.2 (1 + 1 + 6) (by omega)]; exact R.2.2.2 6 k (by decide) hk
  | 7, _, hk => rw [q.2.2 (1 + 1 + 7) (by omega)]; exact R.2.2.2 7 k (by decide) hk
  | 8, _, hk => rw [q.2.2 (1 + 1 + 8) (by omega)]; exact R.2.2.2 8 k (by decide) hk
theorem pl_inv {σ : WS} {n : Nat} (I : Inv σ) (h1 : 1 ≤ n) (h5 : n ≤ 5) : Inv (plz σ n) := by
  refine ⟨⟨h1, h5, (show (0 : Nat) < 64 by decide), (show (0 : Nat) ≤ 6 by decide)⟩, fun k hk => ⟨(show (0 : Nat) < 4 by decide), (show (9 : Nat) ≤ 30 by decide), (show (9 : Nat) ≤ 30 by decide), (show (0 : Nat) < 4 by decide), ?_⟩, fun k hk => I.tu hk, fun k hk => ?_, fun k _ hk => ⟨rfl, rfl, rfl, rfl, rfl⟩⟩
  · show k < 25
    omega
  · exact absurd hk (Nat.not_lt_zero k)
set_option maxRecDepth 20000 in
set_option maxHeartbeats 4000000 in
theorem p_huts (l : Launch) (D : va_G) (cA : Nat → ClassId) (r : Nat → Nat) {h : Hp} {G : GS} (R : RCl G h) (I : InvG G) (v : Int32) : Cn l D cA yX10_huts cX10_huts 3 (some .int) 2 0 0 [.ref (r 0), .int v] (LY r) h (pG (some (.int (aHuts G v))) (LY r) (fun h' => RCl (nHuts G v) h' ∧ FrC h h')) := by
  refine Cn.of (lv := [some (.ref (r 0)), some (.int v), none]) (by decide +kernel) (Nat.le_of_ble_eq_true rfl) rfl (fun X hnm C CR => ?_)
  refine R_il1 (n := 1) C dX10_huts_0 rfl ?_
  refine R_ic (n := 2) C dX10_huts_1 ci_1 rfl ?_
  refine R_icmp_lt (tgt := 10) C dX10_huts_2 rfl rfl (fun c1 => ?_) (fun c1 => ?_)
  · refine R_bp (n := 12) C dX10_huts_10 cb_m2 rfl ?_
    refine R_iret C CR (Nat.zero_le _) (Nat.zero_le _) dX10_huts_12 ?_
    refine ⟨by rw [aHuts, win_lo c1]; rfl, rfl, ?_, FrC.rf⟩
    rw [nHuts, win_lo c1]
    exact R
  · refine R_il1 (n := 6) C dX10_huts_5 rfl ?_
    refine R_ic (n := 7) C dX10_huts_6 ci_5 rfl ?_
    refine R_icmp_le (tgt := 13) C dX10_huts_7 rfl rfl (fun c2 => ?_) (fun c2 => ?_)
    · have hw : win v (nI 1) (nI 5) = true := win_ok c1 (Int32.not_lt.mpr c2)
      obtain ⟨n, h1, h5, rfl⟩ := win_of (by decide) (by decide) hw
      refine R_al0 (n := 14) C dX10_huts_13 rfl ?_
      refine M_getR (n := 17) C fl_X10_12 dX10_huts_14 rfl rfl rfl ?_
      refine M_getI (n := 20) C fl_X10_80 dX10_huts_17 rfl rfl (wN R.1) rfl ?_
      refine R_is2 (n := 21) C dX10_huts_20 rfl (Nat.le_of_ble_eq_true rfl) rfl ?_
      refine R_al0 (n := 22) C dX10_huts_21 rfl ?_
      refine M_getR (n := 25) C fl_X10_12 dX10_huts_22 rfl rfl rfl ?_
      refine R_il1 (n := 26) C dX10_huts_25 rfl ?_
      refine M_callV (n := 29) C (c_plant _ _ _ r (woodAt_LY r (Or.inl rfl)) n) mw_X9_plant ml_X10_84 iv_X9_plant dX10_huts_26 rfl rfl rfl rfl (Nat.le_of_ble_eq_true rfl) ⟨Nat.le_of_ble_eq_true rfl, Nat.le_of_ble_eq_true rfl⟩ ⟨Nat.le_refl _, Nat.le_refl _⟩ rfl (pGv (fun h1 q1 => ?_))
      refine R_il2 (n := 30) C dX10_huts_29 rfl ?_
      refine R_iret C CR (Nat.zero_le _) (Nat.zero_le _) dX10_huts_30 ?_
      refine ⟨by rw [aHuts, hw]; rfl, rfl, ?_, fun a ha => q1.2.2 a (by omega)⟩
      rw [nHuts, hw, if_pos rfl, cl, nI_clamp (by omega)]
      exact R.wood (pl_rw R.1 q1) (fun a ha => q1.2.2 a (by omega))
    · have hw : win v (nI 1) (nI 5) = false := win_hi (Int32.not_le.mp c2)
      refine R_bp (n := 12) C dX10_huts_10 cb_m2 rfl ?_
      refine R_iret C CR (Nat.zero_le _) (Nat.zero_le _) dX10_huts_12 ?_
      refine ⟨by rw [aHuts, hw]; rfl, rfl, ?_, FrC.rf⟩
      rw [nHuts, hw]
      exact R
theorem RW.set {w : Nat} {σ : WS} {h : Hp} (R : RW w σ h) {j k v : Nat} : RW w (setA σ j k v) (up2 h (w + 1 + j) k (nI v)) := by
  refine ⟨up2_get (by omega) R.1, up2_get (by omega) R.2.1, up2_get (by omega) R.2.2.1, fun a b ha hb => ?_⟩
  by_cases e : a = j
  · subst e
    rw [up2_at]
    by_cases e2 : b = k
    · subst e2
      simp [setA, sA]
    · rw [if_neg e2]
      have := R.2.2.2 a b ha hb
      simpa [setA, sA, e2] using this
  · rw [up2_row (by omega)]
    have := R.2.2.2 a b ha hb
    simpa [setA, sA, e] using this
theorem setA_inv {σ : WS} {j k v : Nat} (I : Inv σ) (hk : k < sN σ) (hv : (j = 0 ∧ v < 4) ∨ (j = 1 ∧ v ≤ 30) ∨ (j = 2 ∧ v ≤ 30) ∨ (j = 3 ∧ v < 4) ∨ (j = 4 ∧ v < 25)) : Inv (setA σ j k v) := by
  obtain ⟨i1, i2, i3, i4, i5⟩ := I
  have key : ∀ a b, sA (setA σ j k v) a b = if a = j ∧ b = k then v else sA σ a b := fun a b => rfl
  refine ⟨i1, fun b hb => ?_, fun b hb => ?_, fun b hb => ?_, fun b hb hb2 => ?_⟩
  · have := i2 b hb
    simp only [key]
    by_cases e : b = k
    · subst e
      rcases hv with ⟨rfl, h9⟩ | ⟨rfl, h9⟩ | ⟨rfl, h9⟩ | ⟨rfl, h9⟩ | ⟨rfl, h9⟩ <;> simp <;> omega
    · simp only [e, and_false, if_false]
      exact this
  · rw [key, if_neg (by omega)]
    exact i3 b hb
  · have := i4 b hb
    rw [key, key, key, if_neg (by omega), if_neg (by omega), if_neg (by omega)]
    exact this
  · have hb' : sN σ ≤ b := hb
    have := i5 b hb' hb2
    rw [key, key, key, key, key, if_neg (by omega), if_neg (by omega), if_neg (by omega), if_neg (by omega), if_neg (by omega)]
    exact this
set_option maxRecDepth 20000 in
set_option maxHeartbeats 4000000 in
theorem c_mostOf (l : Launch) (D : va_G) (cA : Nat → ClassId) (r : Nat → Nat) {L : Ly} {h : Hp} {w : Nat} (hw : w ≤ 3) : Cn l D cA yX10_mostOf cX10_mostOf 1 (some .int) 0 0 0 [.int (nI w)] (L) h (pE (some (.int (nI (moz w)))) L h) := by
  refine Cn.of (lv := [some (.int (nI w))]) (by decide +kernel) (Nat.le_of_ble_eq_true rfl) rfl (fun X hnm C CR => ?_)
  refine R_il0 (n := 1) C dX10_mostOf_0 rfl ?_
  obtain rfl | rfl | rfl | rfl : w = 0 ∨ w = 1 ∨ w = 2 ∨ w = 3 := by omega
  · refine R_look (n := 34) (off := 33) C dX10_mostOf_1 rfl (by decide) rfl ?_
    refine R_ic (n := 35) C dX10_mostOf_34 ci_3 rfl ?_
    refine R_iret C CR (Nat.zero_le _) (Nat.zero_le _) dX10_mostOf_35 ?_
    exact ⟨rfl, rfl, rfl⟩
  · refine R_look (n := 28) (off := 27) C dX10_mostOf_1 rfl (by decide) rfl ?_
    refine R_bp (n := 30) C dX10_mostOf_28 cb_30 rfl ?_
    refine R_iret C CR (Nat.zero_le _) (Nat.zero_le _) dX10_mostOf_30 ?_
    exact ⟨rfl, rfl, rfl⟩
  · refine R_look (n := 34) (off := 33) C dX10_mostOf_1 rfl (by decide) rfl ?_
    refine R_ic (n := 35) C dX10_mostOf_34 ci_3 rfl ?_
    refine R_iret C CR (Nat.zero_le _) (Nat.zero_le _) dX10_mostOf_35 ?_
    exact ⟨rfl, rfl, rfl⟩
  · refine R_look (n := 31) (off := 30) C dX10_mostOf_1 rfl (by decide) rfl ?_
    refine R_bp (n := 33) C dX10_mostOf_31 cb_24 rfl ?_
    refine R_iret C CR (Nat.zero_le _) (Nat.zero_le _) dX10_mostOf_33 ?_
    exact ⟨rfl, rfl, rfl⟩
set_option maxRecDepth 20000 in
set_option maxHeartbeats 4000000 in
theorem c_rowOf (l : Launch) (D : va_G) (cA : Nat → ClassId) (r : Nat → Nat) {h : Hp} {w : Nat} (hw : w ≤ 3) : Cn l D cA yX9_rowOf cX9_rowOf 2 (some (.array .int)) 0 0 0 [.ref (r 1), .int (nI w)] (LY r) h (pE (some (.ref (r (2 + arH w)))) (LY r) h) := by
  refine Cn.of (lv := [some (.ref (r 1)), some (.int (nI w))]) (by decide +kernel) (Nat.le_of_ble_eq_true rfl) rfl (fun X hnm C CR => ?_)
  refine R_il1 (n := 1) C dX9_rowOf_0 rfl ?_
  obtain rfl | rfl | rfl | rfl : w = 0 ∨ w = 1 ∨ w = 2 ∨ w = 3 := by omega
  · refine R_tabIn (n := 28) (off := 27) C dX9_rowOf_1 (by decide) (by decide) rfl rfl ?_
    refine R_al0 (n := 29) C dX9_rowOf_28 rfl ?_
    refine M_getR (n := 32) C fl_X9_9 dX9_rowOf_29 rfl rfl rfl ?_
    refine R_aret C CR (Nat.zero_le _) (Nat.zero_le _) dX9_rowOf_32 ?_
    exact ⟨rfl, rfl, rfl⟩
  · refine R_tabIn (n := 33) (off := 32) C dX9_rowOf_1 (by decide) (by decide) rfl rfl ?_
    refine R_al0 (n := 34) C dX9_rowOf_33 rfl ?_
    refine M_getR (n := 37) C fl_X9_18 dX9_rowOf_34 rfl rfl rfl ?_
    refine R_aret C CR (Nat.zero_le _) (Nat.zero_le _) dX9_rowOf_37 ?_
    exact ⟨rfl, rfl, rfl⟩
  · refine R_tabIn (n := 38) (off := 37) C dX9_rowOf_1 (by decide) (by decide) rfl rfl ?_
    refine R_al0 (n := 39) C dX9_rowOf_38 rfl ?_
    refine M_getR (n := 42) C fl_X9_21 dX9_rowOf_39 rfl rfl rfl ?_
    refine R_aret C CR (Nat.zero_le _) (Nat.zero_le _) dX9_rowOf_42 ?_
    exact ⟨rfl, rfl, rfl⟩
  · refine R_tabOut (n := 43) C dX9_rowOf_1 (by decide) rfl ?_
    refine R_al0 (n := 44) C dX9_rowOf_43 rfl ?_
    refine M_getR (n := 47) C fl_X9_24 dX9_rowOf_44 rfl rfl rfl ?_
    refine R_aret C CR (Nat.zero_le _) (Nat.zero_le _) dX9_rowOf_47 ?_
    exact ⟨rfl, rfl, rfl⟩
set_option maxRecDepth 20000 in
set_option maxHeartbeats 4000000 in
theorem c_alter (l : Launch) (D : va_G) (cA : Nat → ClassId) (r : Nat → Nat) {h : Hp} {σ : WS} (R : RW 1 σ h) {k w v : Nat} (hk : k < 5) (hw : w ≤ 3) : Cn l D cA yX9_alter cX9_alter 6 (some .int) 1 0 0 [.ref (r 1), .int (nI k), .int (nI w), .int (nI v)] (LY r) h (pG (some (.int (nI (sA σ (arH w) k)))) (LY r) (fun h' => RW 1 (alz σ k w v) h' ∧ ∀ a, a < 2 ∨ 6 < a → h' a = h a)) := by
  refine Cn.of (lv := [some (.ref (r 1)), some (.int (nI k)), some (.int (nI w)), some (.int (nI v)), none, none]) (by decide +kernel) (Nat.le_of_ble_eq_true rfl) rfl (fun X hnm C CR => ?_)
  obtain rfl | rfl | rfl | rfl : w = 0 ∨ w = 1 ∨ w = 2 ∨ w = 3 := by omega
  · refine R_il2 (n := 1) C dX9_alter_0 rfl ?_
    refine R_ic (n := 2) C dX9_alter_1 ci_1 rfl ?_
    refine R_icmp_neN (tgt := 12) C dX9_alter_2 rfl rfl (by omega) (by omega) (fun c => ?_) (fun c => ?_)
    · refine R_al0 (n := 13) C dX9_alter_12 rfl ?_
      refine R_il2 (n := 14) C dX9_alter_13 rfl ?_
      refine M_callV (n := 17) C (c_rowOf _ _ _ r (by decide)) mw_X9_rowOf ml_X9_73 iv_X9_rowOf dX9_alter_14 rfl rfl rfl rfl (Nat.le_of_ble_eq_true rfl) ⟨Nat.le_of_ble_eq_true rfl, Nat.le_of_ble_eq_true rfl⟩ ⟨Nat.le_refl _, Nat.le_refl _⟩ rfl (pEs ?_)
      refine R_as4 (n := 19) C dX9_alter_17 rfl (Nat.le_of_ble_eq_true rfl) rfl ?_
      refine R_al4 (n := 21) C dX9_alter_19 rfl ?_
      refine R_il1 (n := 22) C dX9_alter_21 rfl ?_
      refine M_iald (n := 23) C dX9_alter_22 (show LYS[2]? = some (.inr (.inl (0, 5))) from rfl) hk (wLk R hk) rfl ?_
      refine R_is5 (n := 25) C dX9_alter_23 rfl (Nat.le_of_ble_eq_true rfl) rfl ?_
      refine R_al4 (n := 27) C dX9_alter_25 rfl ?_
      refine R_il1 (n := 28) C dX9_alter_27 rfl ?_
      refine R_il3 (n := 29) C dX9_alter_28 rfl ?_
      refine M_iast (n := 30) C dX9_alter_29 (show LYS[2]? = some (.inr (.inl (0, 5))) from rfl) hk rfl ?_
      refine R_il5 (n := 32) C dX9_alter_30 rfl ?_
      refine R_iret C CR (Nat.zero_le _) (Nat.zero_le _) dX9_alter_32 ?_
      exact ⟨rfl, rfl, R.set (j := 0), fun a ha => up2_row (show a ≠ 2 by omega)⟩
    · omega
  · refine R_il2 (n := 1) C dX9_alter_0 rfl ?_
    refine R_ic (n := 2) C dX9_alter_1 ci_1 rfl ?_
    refine R_icmp_neN (tgt := 12) C dX9_alter_2 rfl rfl (by omega) (by omega) (fun c => ?_) (fun c => ?_)
    · omega
    · refine R_al0 (n := 6) C dX9_alter_5 rfl ?_
      refine M_getR (n := 9) C fl_X9_15 dX9_alter_6 rfl rfl rfl ?_
      refine R_il1 (n := 10) C dX9_alter_9 rfl ?_
      refine R_il3 (n := 11) C dX9_alter_10 rfl ?_
      refine M_iast (n := 12) C dX9_alter_11 rfl hk rfl ?_
      have R1 : RW 1 (setA σ 1 k v) (up2 h 3 k (nI v)) := R.set (j := 1)
      refine R_al0 (n := 13) C dX9_alter_12 rfl ?_
      refine R_il2 (n := 14) C dX9_alter_13 rfl ?_
      refine M_callV (n := 17) C (c_rowOf _ _ _ r (by decide)) mw_X9_rowOf ml_X9_73 iv_X9_rowOf dX9_alter_14 rfl rfl rfl rfl (Nat.le_of_ble_eq_true rfl) ⟨Nat.le_of_ble_eq_true rfl, Nat.le_of_ble_eq_true rfl⟩ ⟨Nat.le_refl _, Nat.le_refl _⟩ rfl (pEs ?_)
      refine R_as4 (n := 19) C dX9_alter_17 rfl (Nat.le_of_ble_eq_true rfl) rfl ?_
      refine R_al4 (n := 21) C dX9_alter_19 rfl ?_
      refine R_il1 (n := 22) C dX9_alter_21 rfl ?_
      refine M_iald (n := 23) C dX9_alter_22 (show LYS[4]? = some (.inr (.inl (0, 5))) from rfl) hk (wMo R1 hk) rfl ?_
      refine R_is5 (n := 25) C dX9_alter_23 rfl (Nat.le_of_ble_eq_true rfl) rfl ?_
      refine R_al4 (n := 27) C dX9_alter_25 rfl ?_
      refine R_il1 (n := 28) C dX9_alter_27 rfl ?_
      refine R_il3 (n := 29) C dX9_alter_28 rfl ?_
      refine M_iast (n := 30) C dX9_alter_29 (show LYS[4]? = some (.inr (.inl (0, 5))) from rfl) hk rfl ?_
      refine R_il5 (n := 32) C dX9_alter_30 rfl ?_
      refine R_iret C CR (Nat.zero_le _) (Nat.zero_le _) dX9_alter_32 ?_
      refine ⟨?_, rfl, R1.set (j := 2), fun a ha => ?_⟩
      · simp [setA, sA, arH]
      · rw [show 2 + arH 1 = 4 from rfl, up2_row (show a ≠ 4 by omega), up2_row (show a ≠ 3 by omega)]
  · refine R_il2 (n := 1) C dX9_alter_0 rfl ?_
    refine R_ic (n := 2) C dX9_alter_1 ci_1 rfl ?_
    refine R_icmp_neN (tgt := 12) C dX9_alter_2 rfl rfl (by omega) (by omega) (fun c => ?_) (fun c => ?_)
    · refine R_al0 (n := 13) C dX9_alter_12 rfl ?_
      refine R_il2 (n := 14) C dX9_alter_13 rfl ?_
      refine M_callV (n := 17) C (c_rowOf _ _ _ r (by decide)) mw_X9_rowOf ml_X9_73 iv_X9_rowOf dX9_alter_14 rfl rfl rfl rfl (Nat.le_of_ble_eq_true rfl) ⟨Nat.le_of_ble_eq_true rfl, Nat.le_of_ble_eq_true rfl⟩ ⟨Nat.le_refl _, Nat.le_refl _⟩ rfl (pEs ?_)
      refine R_as4 (n := 19) C dX9_alter_17 rfl (Nat.le_of_ble_eq_true rfl) rfl ?_
      refine R_al4 (n := 21) C dX9_alter_19 rfl ?_
      refine R_il1 (n := 22) C dX9_alter_21 rfl ?_
      refine M_iald (n := 23) C dX9_alter_22 (show LYS[5]? = some (.inr (.inl (0, 5))) from rfl) hk (wKd R hk) rfl ?_
      refine R_is5 (n := 25) C dX9_alter_23 rfl (Nat.le_of_ble_eq_true rfl) rfl ?_
      refine R_al4 (n := 27) C dX9_alter_25 rfl ?_
      refine R_il1 (n := 28) C dX9_alter_27 rfl ?_
      refine R_il3 (n := 29) C dX9_alter_28 rfl ?_
      refine M_iast (n := 30) C dX9_alter_29 (show LYS[5]? = some (.inr (.inl (0, 5))) from rfl) hk rfl ?_
      refine R_il5 (n := 32) C dX9_alter_30 rfl ?_
      refine R_iret C CR (Nat.zero_le _) (Nat.zero_le _) dX9_alter_32 ?_
      exact ⟨rfl, rfl, R.set (j := 3), fun a ha => up2_row (show a ≠ 5 by omega)⟩
    · omega
  · refine R_il2 (n := 1) C dX9_alter_0 rfl ?_
    refine R_ic (n := 2) C dX9_alter_1 ci_1 rfl ?_
    refine R_icmp_neN (tgt := 12) C dX9_alter_2 rfl rfl (by omega) (by omega) (fun c => ?_) (fun c => ?_)
    · refine R_al0 (n := 13) C dX9_alter_12 rfl ?_
      refine R_il2 (n := 14) C dX9_alter_13 rfl ?_
      refine M_callV (n := 17) C (c_rowOf _ _ _ r (by decide)) mw_X9_rowOf ml_X9_73 iv_X9_rowOf dX9_alter_14 rfl rfl rfl rfl (Nat.le_of_ble_eq_true rfl) ⟨Nat.le_of_ble_eq_true rfl, Nat.le_of_ble_eq_true rfl⟩ ⟨Nat.le_refl _, Nat.le_refl _⟩ rfl (pEs ?_)
      refine R_as4 (n := 19) C dX9_alter_17 rfl (Nat.le_of_ble_eq_true rfl) rfl ?_
      refine R_al4 (n := 21) C dX9_alter_19 rfl ?_
      refine R_il1 (n := 22) C dX9_alter_21 rfl ?_
      refine M_iald (n := 23) C dX9_alter_22 (show LYS[6]? = some (.inr (.inl (0, 5))) from rfl) hk (wCe R hk) rfl ?_
      refine R_is5 (n := 25) C dX9_alter_23 rfl (Nat.le_of_ble_eq_true rfl) rfl ?_
      refine R_al4 (n := 27) C dX9_alter_25 rfl ?_
      refine R_il1 (n := 28) C dX9_alter_27 rfl ?_
      refine R_il3 (n := 29) C dX9_alter_28 rfl ?_
      refine M_iast (n := 30) C dX9_alter_29 (show LYS[6]? = some (.inr (.inl (0, 5))) from rfl) hk rfl ?_
      refine R_il5 (n := 32) C dX9_alter_30 rfl ?_
      refine R_iret C CR (Nat.zero_le _) (Nat.zero_le _) dX9_alter_32 ?_
      exact ⟨rfl, rfl, R.set (j := 4), fun a ha => up2_row (show a ≠ 6 by omega)⟩
    · omega
theorem hasH_of {σ : WS} (I : Inv σ) {v : Int32} (h : hasH σ v = true) : ∃ k, k < sN σ ∧ v = nI k ∧ cl v = k := by
  have n1 := I.n1
  have n5 := I.n5
  obtain ⟨k, _, h2, rfl⟩ := win_of (by decide) (by omega) h
  exact ⟨k, by omega, rfl, nI_clamp (by omega)⟩
set_option maxRecDepth 20000 in
set_option maxHeartbeats 4000000 in
theorem p_hut (l : Launch) (D : va_G) (cA : Nat → ClassId) (r : Nat → Nat) {h : Hp} {G : GS} (R : RCl G h) (I : InvG G) (hu wh v : Int32) : Cn l D cA yX10_hut cX10_hut 4 (some .int) 2 0 0 [.ref (r 0), .int hu, .int wh, .int v] (LY r) h (pG (some (.int (aHut G hu wh v))) (LY r) (fun h' => RCl (nHut G hu wh v) h' ∧ FrC h h')) := by
  refine Cn.of (lv := [some (.ref (r 0)), some (.int hu), some (.int wh), some (.int v)]) (by decide +kernel) (Nat.le_of_ble_eq_true rfl) rfl (fun X hnm C CR => ?_)
  have n5 := I.1.n5
  refine R_al0 (n := 1) C dX10_hut_0 rfl ?_
  refine M_getR (n := 4) C fl_X10_12 dX10_hut_1 rfl rfl rfl ?_
  refine R_il1 (n := 5) C dX10_hut_4 rfl ?_
  refine M_callV (n := 8) C (c_hasHut _ _ _ r R.1 I.1 hu) mw_X9_hasHut ml_X10_88 iv_X9_hasHut dX10_hut_5 rfl rfl rfl rfl (Nat.le_of_ble_eq_true rfl) ⟨Nat.le_of_ble_eq_true rfl, Nat.le_of_ble_eq_true rfl⟩ ⟨Nat.le_refl _, Nat.le_refl _⟩ rfl (pEs ?_)
  refine R_if_neB (tgt := 13) C dX10_hut_8 rfl rfl (fun c1 => ?_) (fun c1 => ?_)
  · obtain ⟨k, hk, rfl, hk2⟩ := hasH_of I.1 c1
    have c1' : hasH (gS G) (nI k) = true := c1
    have bad : (win wh (nI 0) (nI 3) && win v (nI 0) (nI (moz (cl wh)))) = false → Rn X 0 0 34 [some (.ref (r 0)), some (.int (nI k)), some (.int wh), some (.int v)] [] (LY r) h := by
      intro q
      refine R_bp (n := 36) C dX10_hut_34 cb_m2 rfl ?_
      refine R_iret C CR (Nat.zero_le _) (Nat.zero_le _) dX10_hut_36 ?_
      refine ⟨by rw [aHut, c1', q]; rfl, rfl, ?_, FrC.rf⟩
      rw [nHut, okHut, q, Bool.and_false, Bool.false_and]
      exact R
    refine R_il2 (n := 14) C dX10_hut_13 rfl ?_
    refine R_ic (n := 15) C dX10_hut_14 ci_0 rfl ?_
    refine R_ic (n := 16) C dX10_hut_15 ci_3 rfl ?_
    refine R_callS (n := 19) C (c_isWithin _ _ _ r _ _ _) mw_X10_isWithin ml_X10_92 sv_X10_isWithin dX10_hut_16 rfl rfl (Nat.le_of_ble_eq_true rfl) ⟨Nat.le_of_ble_eq_true rfl, Nat.le_of_ble_eq_true rfl⟩ ⟨Nat.le_refl _, Nat.le_refl _⟩ rfl (pEs ?_)
    refine R_if_eqB (tgt := 34) C dX10_hut_19 rfl rfl (fun c2 => ?_) (fun c2 => ?_)
    · exact bad (by rw [c2]; rfl)
    · obtain ⟨w, _, hw, rfl⟩ := win_of (by decide) (by decide) c2
      have hwc : cl (nI w) = w := nI_clamp (by omega)
      rw [hwc] at bad
      refine R_il3 (n := 23) C dX10_hut_22 rfl ?_
      refine R_ic (n := 24) C dX10_hut_23 ci_0 rfl ?_
      refine R_il2 (n := 25) C dX10_hut_24 rfl ?_
      refine R_callS (n := 28) C (c_mostOf _ _ _ r hw) mw_X10_mostOf ml_X10_96 sv_X10_mostOf dX10_hut_25 rfl rfl (Nat.le_of_ble_eq_true rfl) ⟨Nat.le_of_ble_eq_true rfl, Nat.le_of_ble_eq_true rfl⟩ ⟨Nat.le_refl _, Nat.le_refl _⟩ rfl (pEs ?_)
      refine R_callS (n := 31) C (c_isWithin _ _ _ r _ _ _) mw_X10_isWithin ml_X10_92 sv_X10_isWithin dX10_hut_28 rfl rfl (Nat.le_of_ble_eq_true rfl) ⟨Nat.le_of_ble_eq_true rfl, Nat.le_of_ble_eq_true rfl⟩ ⟨Nat.le_refl _, Nat.le_refl _⟩ rfl (pEs ?_)
      refine R_if_neB (tgt := 37) C dX10_hut_31 rfl rfl (fun c3 => ?_) (fun c3 => ?_)
      · have mb : moz w ≤ 30 := by unfold moz; split; decide; split <;> decide
        obtain ⟨x, _, hx, rfl⟩ := win_of (by decide) (by omega) c3
        have hxc : cl (nI x) = x := nI_clamp (by omega)
        have done : (decide (w = 3) && tkz (gS G) x k) = false → Rn X 0 0 57 [some (.ref (r 0)), some (.int (nI k)), some (.int (nI w)), some (.int (nI x))] [] (LY r) h := by
          intro q
          refine R_al0 (n := 58) C dX10_hut_57 rfl ?_
          refine M_getR (n := 61) C fl_X10_12 dX10_hut_58 rfl rfl rfl ?_
          refine R_il1 (n := 62) C dX10_hut_61 rfl ?_
          refine R_il2 (n := 63) C dX10_hut_62 rfl ?_
          refine R_il3 (n := 64) C dX10_hut_63 rfl ?_
          refine M_callV (n := 67) C (c_alter _ _ _ r R.1 (by omega) hw) mw_X9_alter ml_X10_104 iv_X9_alter dX10_hut_64 rfl rfl rfl rfl (Nat.le_of_ble_eq_true rfl) ⟨Nat.le_of_ble_eq_true rfl, Nat.le_of_ble_eq_true rfl⟩ ⟨Nat.le_refl _, Nat.le_refl _⟩ rfl (pGs (fun h1 q1 => ?_))
          refine R_iret C CR (Nat.zero_le _) (Nat.zero_le _) dX10_hut_67 ?_
          refine ⟨?_, rfl, ?_, fun a ha => q1.2 a (by omega)⟩
          · rw [aHut, c1', hwc, hxc, hk2, c2, c3, q]; rfl
          · rw [nHut, okHut, c1', hwc, hxc, hk2, c2, c3, q]
            exact R.wood q1.1 (fun a ha => q1.2 a (by omega))
        refine R_il2 (n := 38) C dX10_hut_37 rfl ?_
        refine R_ic (n := 39) C dX10_hut_38 ci_3 rfl ?_
        refine R_icmp_neN (tgt := 57) C dX10_hut_39 rfl rfl (by omega) (by omega) (fun c4 => ?_) (fun c4 => ?_)
        · exact done (by rw [decide_eq_false c4]; rfl)
        · subst c4
          have hx24 : x ≤ 24 := hx
          refine R_al0 (n := 43) C dX10_hut_42 rfl ?_
          refine M_getR (n := 46) C fl_X10_12 dX10_hut_43 rfl rfl rfl ?_
          refine R_il3 (n := 47) C dX10_hut_46 rfl ?_
          refine R_il1 (n := 48) C dX10_hut_47 rfl ?_
          refine M_callV (n := 51) C (c_isTaken _ _ _ r R.1 I.1 (by omega) (by omega)) mw_X9_isTaken ml_X10_100 iv_X9_isTaken dX10_hut_48 rfl rfl rfl rfl (Nat.le_of_ble_eq_true rfl) ⟨Nat.le_of_ble_eq_true rfl, Nat.le_of_ble_eq_true rfl⟩ ⟨Nat.le_refl _, Nat.le_refl _⟩ rfl (pEs ?_)
          refine R_if_eqB (tgt := 57) C dX10_hut_51 rfl rfl (fun c5 => ?_) (fun c5 => ?_)
          · exact done (by rw [c5]; rfl)
          · refine R_bp (n := 56) C dX10_hut_54 cb_m3 rfl ?_
            refine R_iret C CR (Nat.zero_le _) (Nat.zero_le _) dX10_hut_56 ?_
            refine ⟨by rw [aHut, c1', hwc, hxc, hk2, c2, c3, c5]; rfl, rfl, ?_, FrC.rf⟩
            rw [nHut, okHut, hwc, hxc, hk2, c5, Bool.and_true, decide_eq_true rfl, Bool.not_true, Bool.and_false]
            exact R
      · exact bad (by rw [c3, Bool.and_false])
  · refine R_ic (n := 12) C dX10_hut_11 ci_m1 rfl ?_
    refine R_iret C CR (Nat.zero_le _) (Nat.zero_le _) dX10_hut_12 ?_
    have c1' : hasH (gS G) hu = false := c1
    refine ⟨by rw [aHut, c1']; rfl, rfl, ?_, FrC.rf⟩
    rw [nHut, okHut, c1', Bool.false_and, Bool.false_and]
    exact R
set_option maxRecDepth 20000 in
set_option maxHeartbeats 4000000 in
theorem p_say (l : Launch) (D : va_G) (cA : Nat → ClassId) (r : Nat → Nat) {h : Hp} {G : GS} (R : RCl G h) (I : InvG G) (v : Int32) : Cn l D cA yX10_say cX10_say 2 (some .int) 1 0 0 [.ref (r 0), .int v] (LY r) h (pG (some (.int (aSay G v))) (LY r) (fun h' => RCl (nSay G v) h' ∧ FrC h h')) := by
  refine Cn.of (lv := [some (.ref (r 0)), some (.int v)]) (by decide +kernel) (Nat.le_of_ble_eq_true rfl) rfl (fun X hnm C CR => ?_)
  refine R_il1 (n := 1) C dX10_say_0 rfl ?_
  refine R_bp (n := 3) C dX10_say_1 cb_33 rfl ?_
  refine R_bp (n := 5) C dX10_say_3 cb_126 rfl ?_
  refine R_callS (n := 8) C (c_isWithin _ _ _ r _ _ _) mw_X10_isWithin ml_X10_92 sv_X10_isWithin dX10_say_5 rfl rfl (Nat.le_of_ble_eq_true rfl) ⟨Nat.le_of_ble_eq_true rfl, Nat.le_of_ble_eq_true rfl⟩ ⟨Nat.le_refl _, Nat.le_refl _⟩ rfl (pEs ?_)
  refine R_if_neB (tgt := 14) C dX10_say_8 rfl rfl (fun c1 => ?_) (fun c1 => ?_)
  · obtain ⟨x, h1, h2, rfl⟩ := win_of (by decide) (by decide) c1
    refine R_al0 (n := 15) C dX10_say_14 rfl ?_
    refine M_getR (n := 18) C fl_X10_27 dX10_say_15 rfl rfl rfl ?_
    refine R_il1 (n := 19) C dX10_say_18 rfl ?_
    refine M_callV (n := 22) C (c_padAdd _ _ _ r R.2.1 I.2.1 _) mw_X4_add ml_X10_108 iv_X4_add dX10_say_19 rfl rfl rfl rfl (Nat.le_of_ble_eq_true rfl) ⟨Nat.le_of_ble_eq_true rfl, Nat.le_of_ble_eq_true rfl⟩ ⟨Nat.le_refl _, Nat.le_refl _⟩ rfl (pEs ?_)
    refine R_iret C CR (Nat.zero_le _) (Nat.zero_le _) dX10_say_22 ?_
    refine ⟨by rw [aSay, c1, if_pos rfl], rfl, ?_, ?_⟩
    · rw [nSay, c1, Bool.true_and]
      by_cases c2 : (gP G).1 < 60
      · rw [if_pos c2, decide_eq_true c2, if_pos rfl, cl, nI_clamp (by omega)]
        refine R.pad ⟨up2_same, fun k hk => ?_⟩ (fun a h1 h2 => by rw [up2_row h1, up2_row h2])
        rw [up2_row (by decide), up2_at]
        simp only [updN]
        split
        · rfl
        · exact R.2.1.2 k hk
      · rw [if_neg c2, decide_eq_false c2]
        exact R
    · split
      · exact (FrC.rf.up (by decide)).up (by decide)
      · exact FrC.rf
  · refine R_bp (n := 13) C dX10_say_11 cb_m2 rfl ?_
    refine R_iret C CR (Nat.zero_le _) (Nat.zero_le _) dX10_say_13 ?_
    refine ⟨by rw [aSay, c1]; rfl, rfl, ?_, FrC.rf⟩
    rw [nSay, c1]
    exact R
set_option maxRecDepth 20000 in
set_option maxHeartbeats 4000000 in
theorem p_wipe (l : Launch) (D : va_G) (cA : Nat → ClassId) (r : Nat → Nat) {h : Hp} {G : GS} (R : RCl G h) (I : InvG G) : Cn l D cA yX10_wipe cX10_wipe 1 (some .int) 1 0 0 [.ref (r 0)] (LY r) h (pG (some (.int (aWipe G))) (LY r) (fun h' => RCl (nWipe G) h' ∧ FrC h h')) := by
  refine Cn.of (lv := [some (.ref (r 0))]) (by decide +kernel) (Nat.le_of_ble_eq_true rfl) rfl (fun X hnm C CR => ?_)
  refine R_al0 (n := 1) C dX10_wipe_0 rfl ?_
  refine M_getR (n := 4) C fl_X10_27 dX10_wipe_1 rfl rfl rfl ?_
  refine M_callV (n := 7) C (c_padClear _ _ _ r R.2.1) mw_X4_clear ml_X10_111 iv_X4_clear dX10_wipe_4 rfl rfl rfl rfl (Nat.le_of_ble_eq_true rfl) ⟨Nat.le_of_ble_eq_true rfl, Nat.le_of_ble_eq_true rfl⟩ ⟨Nat.le_refl _, Nat.le_refl _⟩ rfl (pEs ?_)
  refine R_iret C CR (Nat.zero_le _) (Nat.zero_le _) dX10_wipe_7 ?_
  refine ⟨rfl, rfl, R.pad ⟨up2_same, fun k hk => ?_⟩ (fun a h1 h2 => up2_row h1), FrC.rf.up (by decide)⟩
  rw [up2_row (by decide)]
  exact R.2.1.2 k hk
set_option maxRecDepth 20000 in
set_option maxHeartbeats 4000000 in
theorem p_fault (l : Launch) (D : va_G) (cA : Nat → ClassId) (r : Nat → Nat) {h : Hp} {G : GS} (R : RCl G h) (I : InvG G) (v : Int32) : Cn l D cA yX10_fault cX10_fault 2 (some .int) 3 0 0 [.ref (r 0), .int v] (LY r) h (pG (some (.int (aFault G v))) (LY r) (fun h' => RCl G h' ∧ FrC h h')) := by
  refine Cn.of (lv := [some (.ref (r 0)), some (.int v)]) (by decide +kernel) (Nat.le_of_ble_eq_true rfl) rfl (fun X hnm C CR => ?_)
  have n5 := I.1.n5
  refine R_il1 (n := 1) C dX10_fault_0 rfl ?_
  refine R_ic (n := 2) C dX10_fault_1 ci_0 rfl ?_
  refine R_ic (n := 3) C dX10_fault_2 ci_1 rfl ?_
  refine R_callS (n := 6) C (c_isWithin _ _ _ r _ _ _) mw_X10_isWithin ml_X10_92 sv_X10_isWithin dX10_fault_3 rfl rfl (Nat.le_of_ble_eq_true rfl) ⟨Nat.le_of_ble_eq_true rfl, Nat.le_of_ble_eq_true rfl⟩ ⟨Nat.le_refl _, Nat.le_refl _⟩ rfl (pEs ?_)
  refine R_if_neB (tgt := 12) C dX10_fault_6 rfl rfl (fun c1 => ?_) (fun c1 => ?_)
  · obtain ⟨x, h1, h2, rfl⟩ := win_of (by decide) (by decide) c1
    have xc : cl (nI x) = x := nI_clamp (by omega)
    refine R_il1 (n := 13) C dX10_fault_12 rfl ?_
    refine R_if_neN (tgt := 33) C dX10_fault_13 rfl rfl (by omega) (fun c2 => ?_) (fun c2 => ?_)
    · refine R_al0 (n := 34) C dX10_fault_33 rfl ?_
      refine M_getR (n := 37) C fl_X10_27 dX10_fault_34 rfl rfl rfl ?_
      refine R_al0 (n := 38) C dX10_fault_37 rfl ?_
      refine M_getR (n := 41) C fl_X10_12 dX10_fault_38 rfl rfl rfl ?_
      refine M_getI (n := 44) C fl_X10_80 dX10_fault_41 rfl rfl (wN R.1) rfl ?_
      refine M_callV (n := 47) C (c_eveningFault _ _ _ r R.2.1 I.2.1 n5) mw_X4_eveningFault ml_X10_118 iv_X4_eveningFault dX10_fault_44 rfl rfl rfl rfl (Nat.le_of_ble_eq_true rfl) ⟨Nat.le_of_ble_eq_true rfl, Nat.le_of_ble_eq_true rfl⟩ ⟨Nat.le_refl _, Nat.le_refl _⟩ rfl (pEs ?_)
      refine R_iret C CR (Nat.zero_le _) (Nat.zero_le _) dX10_fault_47 ?_
      exact ⟨by rw [aFault, c1, if_pos rfl, xc, if_neg c2], rfl, R, FrC.rf⟩
    · refine R_al0 (n := 17) C dX10_fault_16 rfl ?_
      refine M_getR (n := 20) C fl_X10_27 dX10_fault_17 rfl rfl rfl ?_
      refine R_al0 (n := 21) C dX10_fault_20 rfl ?_
      refine M_getR (n := 24) C fl_X10_12 dX10_fault_21 rfl rfl rfl ?_
      refine M_getI (n := 27) C fl_X10_80 dX10_fault_24 rfl rfl (wN R.1) rfl ?_
      refine M_callV (n := 30) C (c_spellFault _ _ _ r R.2.1 I.2.1 n5) mw_X4_spellFault ml_X10_115 iv_X4_spellFault dX10_fault_27 rfl rfl rfl rfl (Nat.le_of_ble_eq_true rfl) ⟨Nat.le_of_ble_eq_true rfl, Nat.le_of_ble_eq_true rfl⟩ ⟨Nat.le_refl _, Nat.le_refl _⟩ rfl (pEs ?_)
      refine R_goto (n := 47) C dX10_fault_30 rfl ?_
      refine R_iret C CR (Nat.zero_le _) (Nat.zero_le _) dX10_fault_47 ?_
      exact ⟨by rw [aFault, c1, if_pos rfl, xc, if_pos c2], rfl, R, FrC.rf⟩
  · refine R_bp (n := 11) C dX10_fault_9 cb_m2 rfl ?_
    refine R_iret C CR (Nat.zero_le _) (Nat.zero_le _) dX10_fault_11 ?_
    exact ⟨by rw [aFault, c1]; rfl, rfl, R, FrC.rf⟩
