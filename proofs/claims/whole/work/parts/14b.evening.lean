/-! the class's evening -/
set_option maxRecDepth 20000 in
set_option maxHeartbeats 4000000 in
theorem c_hear (l : Launch) (D : va_G) (cA : Nat → ClassId) (r : Nat → Nat) {h : Hp} {σ : WS} (R : RW 1 σ h) (I : Inv σ) {e : EV} {c y : Nat} (E : RE e c y h) (O : EOk σ e) {w : Nat} (hw : w < 6) : Cn l D cA yX2_hear cX2_hear 5 none 1 0 0 [.ref (r 15), .ref (r 1), .int (nI w)] (LY r) h (pG none (LY r) (fun h' => RE (hrz σ w (sN σ) e) c y h' ∧ FrE h h')) := by
  refine Cn.of (lv := [some (.ref (r 15)), some (.ref (r 1)), some (.int (nI w)), none, none]) (by decide +kernel) (Nat.le_of_ble_eq_true rfl) rfl (fun X hnm C CR => ?_)
  have n5 := I.n5
  have loop : ∀ (m i : Nat) (h1 : Hp) (o : Option Value), sN σ < i + m → i ≤ sN σ → RE (hrz σ w i e) c y h1 → FrE h h1 → Rn X 0 0 2 [some (.ref (r 15)), some (.ref (r 1)), some (.int (nI w)), some (.int (nI i)), o] [] (LY r) h1 := by
    intro m
    induction m with
    | zero => intro i h1 o a1 a2; omega
    | succ m ih =>
      intro i h1 o a1 a2 E1 F1
      have R1 := F1.rw R
      refine R_il3 (n := 3) C dX2_hear_2 rfl ?_
      refine R_al1 (n := 4) C dX2_hear_3 rfl ?_
      refine M_getI (n := 7) C fl_X2_92 dX2_hear_4 rfl rfl (wN R1) rfl ?_
      refine R_icmp_geN (tgt := 95) C dX2_hear_7 rfl rfl (by omega) (by omega) (fun c1 => ?_) (fun c1 => ?_)
      · refine R_vret C CR (Nat.zero_le _) (Nat.zero_le _) dX2_hear_95 ?_
        exact ⟨rfl, rfl, by rw [show sN σ = i by omega]; exact E1, F1⟩
      · have O1 := hrz_ok (w := w) O (k := i) (by omega)
        have hi : i < 5 := by omega
        obtain ⟨e', he'⟩ : ∃ e', hrz σ w i e = e' := ⟨_, rfl⟩
        rw [he'] at E1 O1
        have o1 := (O1 i hi).1
        have o2 := (O1 i hi).2.1
        have q4 := qz_le I (l := e'.1 i) hw hi
        have hs : hrz σ w (i + 1) e = hr1 σ w i e' := by rw [← he']; rfl
        obtain ⟨b, hb⟩ : ∃ b, qz σ w i (e'.1 i) = b := ⟨_, rfl⟩
        refine R_al1 (n := 11) C dX2_hear_10 rfl ?_
        refine R_il2 (n := 12) C dX2_hear_11 rfl ?_
        refine R_il3 (n := 13) C dX2_hear_12 rfl ?_
        refine R_al0 (n := 14) C dX2_hear_13 rfl ?_
        refine M_getR (n := 17) C fl_X2_9 dX2_hear_14 rfl rfl rfl ?_
        refine R_il3 (n := 18) C dX2_hear_17 rfl ?_
        refine M_iald (n := 19) C dX2_hear_18 rfl hi (E1.1 i hi) rfl ?_
        refine M_callV (n := 22) C (c_quarters _ _ _ r R1 I hw hi o1) mw_X9_quarters ml_X2_95 iv_X9_quarters dX2_hear_19 rfl rfl rfl rfl (Nat.le_of_ble_eq_true rfl) ⟨Nat.le_of_ble_eq_true rfl, Nat.le_of_ble_eq_true rfl⟩ ⟨Nat.le_refl _, Nat.le_refl _⟩ rfl (pEs ?_)
        refine R_is4 (n := 24) C dX2_hear_22 rfl (Nat.le_of_ble_eq_true rfl) rfl ?_
        rw [hb] at q4 ⊢
        refine R_il4 (n := 26) C dX2_hear_24 rfl ?_
        refine R_al0 (n := 27) C dX2_hear_26 rfl ?_
        refine M_getR (n := 30) C fl_X2_15 dX2_hear_27 rfl rfl rfl ?_
        refine R_il3 (n := 31) C dX2_hear_30 rfl ?_
        refine M_iald (n := 32) C dX2_hear_31 rfl hi (E1.2.1 i hi) rfl ?_
        refine R_icmp_leN (tgt := 48) C dX2_hear_32 rfl rfl (by omega) (by omega) (fun c2 => ?_) (fun c2 => ?_)
        · refine R_al0 (n := 49) C dX2_hear_48 rfl ?_
          refine M_getR (n := 52) C fl_X2_9 dX2_hear_49 rfl rfl rfl ?_
          refine R_il3 (n := 53) C dX2_hear_52 rfl ?_
          refine R_al1 (n := 54) C dX2_hear_53 rfl ?_
          refine R_il3 (n := 55) C dX2_hear_54 rfl ?_
          refine R_al0 (n := 56) C dX2_hear_55 rfl ?_
          refine M_getR (n := 59) C fl_X2_9 dX2_hear_56 rfl rfl rfl ?_
          refine R_il3 (n := 60) C dX2_hear_59 rfl ?_
          refine M_iald (n := 61) C dX2_hear_60 rfl hi (E1.1 i hi) rfl ?_
          refine R_il4 (n := 63) C dX2_hear_61 rfl ?_
          refine M_callV (n := 66) C (c_turned _ _ _ r R1 I hi o1 q4) mw_X9_turned ml_X2_98 iv_X9_turned dX2_hear_63 rfl rfl rfl rfl (Nat.le_of_ble_eq_true rfl) ⟨Nat.le_of_ble_eq_true rfl, Nat.le_of_ble_eq_true rfl⟩ ⟨Nat.le_refl _, Nat.le_refl _⟩ rfl (pEs ?_)
          refine M_iast (n := 67) C dX2_hear_66 rfl hi rfl ?_
          refine R_al0 (n := 68) C dX2_hear_67 rfl ?_
          refine M_getR (n := 71) C fl_X2_15 dX2_hear_68 rfl rfl rfl ?_
          refine R_il3 (n := 72) C dX2_hear_71 rfl ?_
          refine R_dup2 (n := 73) C dX2_hear_72 rfl rfl rfl ?_
          refine M_iald (n := 74) C dX2_hear_73 rfl hi (up2_get (by decide) (E1.2.1 i hi)) rfl ?_
          refine R_il4 (n := 76) C dX2_hear_74 rfl ?_
          refine R_isubN (n := 77) C dX2_hear_76 (by omega) rfl ?_
          refine M_iast (n := 78) C dX2_hear_77 rfl hi rfl ?_
          refine R_al0 (n := 79) C dX2_hear_78 rfl ?_
          refine R_dup (n := 80) C dX2_hear_79 rfl rfl ?_
          refine M_getI (n := 83) C fl_X2_18 dX2_hear_80 rfl rfl (up2_get (by decide) (up2_get (by decide) E1.2.2.1)) rfl ?_
          refine R_il4 (n := 85) C dX2_hear_83 rfl ?_
          refine R_iaddN (n := 86) C dX2_hear_85 rfl ?_
          refine M_putI (n := 89) C fl_X2_18 dX2_hear_86 rfl rfl rfl rfl rfl ?_
          refine R_inc3 (n := 92) C dX2_hear_89 rfl (Nat.le_of_ble_eq_true rfl) (inc_1 _) rfl ?_
          refine R_goto (n := 2) C dX2_hear_92 rfl ?_
          refine ih (i + 1) _ _ (by omega) (by omega) ?_ (((F1.up (by decide) (by decide)).up (by decide) (by decide)).up (by decide) (by decide))
          rw [hs, hr1, hb, if_pos c2]
          refine ⟨fun k hk => ?_, fun k hk => ?_, ?_, ?_, ?_, ?_, ?_⟩
          · rw [up2_row (by decide), up2_row (by decide), up2_at]; simp only [updN]
            split
            · rfl
            · exact E1.1 k hk
          · rw [up2_row (by decide), up2_at]; simp only [updN]
            split
            · rfl
            · rw [up2_row (by decide)]
              exact E1.2.1 k hk
          · exact up2_same
          · rw [up2_ne (by decide), up2_row (by decide), up2_row (by decide)]
            exact E1.2.2.2.1
          · rw [up2_ne (by decide), up2_row (by decide), up2_row (by decide)]
            exact E1.2.2.2.2.1
          · rw [up2_ne (by decide), up2_row (by decide), up2_row (by decide)]
            exact E1.2.2.2.2.2.1
          · rw [up2_ne (by decide), up2_row (by decide), up2_row (by decide)]
            exact E1.2.2.2.2.2.2
        · refine R_al0 (n := 36) C dX2_hear_35 rfl ?_
          refine R_dup (n := 37) C dX2_hear_36 rfl rfl ?_
          refine M_getI (n := 40) C fl_X2_22 dX2_hear_37 rfl rfl E1.2.2.2.1 rfl ?_
          refine R_ic (n := 41) C dX2_hear_40 ci_1 rfl ?_
          refine R_iaddN (n := 42) C dX2_hear_41 rfl ?_
          refine M_putI (n := 45) C fl_X2_22 dX2_hear_42 rfl rfl rfl rfl rfl ?_
          refine R_goto (n := 89) C dX2_hear_45 rfl ?_
          refine R_inc3 (n := 92) C dX2_hear_89 rfl (Nat.le_of_ble_eq_true rfl) (inc_1 _) rfl ?_
          refine R_goto (n := 2) C dX2_hear_92 rfl ?_
          refine ih (i + 1) _ _ (by omega) (by omega) ?_ (F1.up (by decide) (by decide))
          rw [hs, hr1, hb, if_neg (by omega)]
          refine ⟨fun k hk => ?_, fun k hk => ?_, ?_, ?_, ?_, ?_, ?_⟩
          · rw [up2_row (by decide)]; exact E1.1 k hk
          · rw [up2_row (by decide)]; exact E1.2.1 k hk
          · rw [up2_ne (by decide)]; exact E1.2.2.1
          · exact up2_same
          · rw [up2_ne (by decide)]; exact E1.2.2.2.2.1
          · rw [up2_ne (by decide)]; exact E1.2.2.2.2.2.1
          · rw [up2_ne (by decide)]; exact E1.2.2.2.2.2.2
  refine R_ic (n := 1) C dX2_hear_0 ci_0 rfl ?_
  refine R_is3 (n := 2) C dX2_hear_1 rfl (Nat.le_of_ble_eq_true rfl) rfl ?_
  exact loop (sN σ + 1) 0 h none (by omega) (by omega) E FrE.rf
set_option maxRecDepth 20000 in
set_option maxHeartbeats 4000000 in
theorem c_thunder (l : Launch) (D : va_G) (cA : Nat → ClassId) (r : Nat → Nat) {h : Hp} {σ : WS} (R : RW 1 σ h) (I : Inv σ) {e : EV} {c y : Nat} (E : RE e c y h) (O : EOk σ e) : Cn l D cA yX2_thunder cX2_thunder 3 none 0 0 0 [.ref (r 15), .ref (r 1)] (LY r) h (pG none (LY r) (fun h' => RE (thz (sN σ) e) c y h' ∧ FrE h h')) := by
  refine Cn.of (lv := [some (.ref (r 15)), some (.ref (r 1)), none]) (by decide +kernel) (Nat.le_of_ble_eq_true rfl) rfl (fun X hnm C CR => ?_)
  have n5 := I.n5
  have loop : ∀ (m i : Nat) (h1 : Hp), sN σ < i + m → i ≤ sN σ → RE (thz i e) c y h1 → FrE h h1 → Rn X 0 0 2 [some (.ref (r 15)), some (.ref (r 1)), some (.int (nI i))] [] (LY r) h1 := by
    intro m
    induction m with
    | zero => intro i h1 a1 a2; omega
    | succ m ih =>
      intro i h1 a1 a2 E1 F1
      have R1 := F1.rw R
      refine R_il2 (n := 3) C dX2_thunder_2 rfl ?_
      refine R_al1 (n := 4) C dX2_thunder_3 rfl ?_
      refine M_getI (n := 7) C fl_X2_92 dX2_thunder_4 rfl rfl (wN R1) rfl ?_
      refine R_icmp_geN (tgt := 32) C dX2_thunder_7 rfl rfl (by omega) (by omega) (fun c1 => ?_) (fun c1 => ?_)
      · refine R_vret C CR (Nat.zero_le _) (Nat.zero_le _) dX2_thunder_32 ?_
        exact ⟨rfl, rfl, by rw [show sN σ = i by omega]; exact E1, F1⟩
      · have hi : i < 5 := by omega
        refine R_al0 (n := 11) C dX2_thunder_10 rfl ?_
        refine M_getR (n := 14) C fl_X2_9 dX2_thunder_11 rfl rfl rfl ?_
        refine R_il2 (n := 15) C dX2_thunder_14 rfl ?_
        refine R_al0 (n := 16) C dX2_thunder_15 rfl ?_
        refine M_getR (n := 19) C fl_X2_9 dX2_thunder_16 rfl rfl rfl ?_
        refine R_il2 (n := 20) C dX2_thunder_19 rfl ?_
        refine M_iald (n := 21) C dX2_thunder_20 rfl hi (E1.1 i hi) rfl ?_
        refine R_ic (n := 22) C dX2_thunder_21 ci_2 rfl ?_
        refine R_iaddN (n := 23) C dX2_thunder_22 rfl ?_
        refine R_ic (n := 24) C dX2_thunder_23 ci_3 rfl ?_
        refine R_iandN (n := 25) C dX2_thunder_24 rfl ?_
        refine R_eq (congrArg nI (and3 _)) ?_
        refine M_iast (n := 26) C dX2_thunder_25 rfl hi rfl ?_
        refine R_inc2 (n := 29) C dX2_thunder_26 rfl (Nat.le_of_ble_eq_true rfl) (inc_1 _) rfl ?_
        refine R_goto (n := 2) C dX2_thunder_29 rfl ?_
        refine ih (i + 1) _ (by omega) (by omega) ?_ (F1.up (by decide) (by decide))
        refine ⟨fun k hk => ?_, fun k hk => ?_, ?_, ?_, ?_, ?_, ?_⟩
        · simp only [thz, up2_at, updN]
          split
          · rfl
          · exact E1.1 k hk
        · rw [up2_row (by decide)]; exact E1.2.1 k hk
        · rw [up2_row (by decide)]; exact E1.2.2.1
        · rw [up2_row (by decide)]; exact E1.2.2.2.1
        · rw [up2_row (by decide)]; exact E1.2.2.2.2.1
        · rw [up2_row (by decide)]; exact E1.2.2.2.2.2.1
        · rw [up2_row (by decide)]; exact E1.2.2.2.2.2.2
  refine R_ic (n := 1) C dX2_thunder_0 ci_0 rfl ?_
  refine R_is2 (n := 2) C dX2_thunder_1 rfl (Nat.le_of_ble_eq_true rfl) rfl ?_
  exact loop (sN σ + 1) 0 h (by omega) (by omega) E FrE.rf
set_option maxRecDepth 20000 in
set_option maxHeartbeats 4000000 in
theorem c_rest (l : Launch) (D : va_G) (cA : Nat → ClassId) (r : Nat → Nat) {h : Hp} {σ : WS} (R : RW 1 σ h) (I : Inv σ) {e : EV} {c y : Nat} (E : RE e c y h) : Cn l D cA yX2_rest cX2_rest 2 none 1 0 0 [.ref (r 15), .ref (r 1)] (LY r) h (pG none (LY r) (fun h' => RE (niz σ e) c y h' ∧ FrE h h')) := by
  refine Cn.of (lv := [some (.ref (r 15)), some (.ref (r 1))]) (by decide +kernel) (Nat.le_of_ble_eq_true rfl) rfl (fun X hnm C CR => ?_)
  refine R_al1 (n := 1) C dX2_rest_0 rfl ?_
  refine M_getR (n := 4) C fl_X2_101 dX2_rest_1 rfl rfl rfl ?_
  refine R_ic (n := 5) C dX2_rest_4 ci_0 rfl ?_
  refine R_al0 (n := 6) C dX2_rest_5 rfl ?_
  refine M_getR (n := 9) C fl_X2_15 dX2_rest_6 rfl rfl rfl ?_
  refine R_ic (n := 10) C dX2_rest_9 ci_0 rfl ?_
  refine R_ic (n := 11) C dX2_rest_10 ci_5 rfl ?_
  refine M_copy (n := 14) C cp_X2_37 dX2_rest_11 rfl rfl (by decide) (by decide) (by decide) (by decide) rfl ?_
  refine R_vret C CR (Nat.zero_le _) (Nat.zero_le _) dX2_rest_14 ?_
  refine ⟨rfl, rfl, ⟨fun k hk => ?_, fun k hk => ?_, ?_, ?_, ?_, ?_, ?_⟩, fun a ha => ?_⟩
  · rw [vup_row (by decide)]; exact E.1 k hk
  · rw [vup_same, cpy0 hk]; exact wMo R hk
  · rw [vup_row (by decide)]; exact E.2.2.1
  · rw [vup_row (by decide)]; exact E.2.2.2.1
  · rw [vup_row (by decide)]; exact E.2.2.2.2.1
  · rw [vup_row (by decide)]; exact E.2.2.2.2.2.1
  · rw [vup_row (by decide)]; exact E.2.2.2.2.2.2
  · rw [vup_row (by omega)]
set_option maxRecDepth 20000 in
set_option maxHeartbeats 4000000 in
theorem c_evBegin (l : Launch) (D : va_G) (cA : Nat → ClassId) (r : Nat → Nat) {h : Hp} {σ : WS} (R : RW 1 σ h) (I : Inv σ) : Cn l D cA yX2_begin cX2_begin 2 none 1 0 0 [.ref (r 15), .ref (r 1)] (LY r) h (pG none (LY r) (fun h' => RE (ev0 σ) 0 0 h' ∧ FrE h h')) := by
  refine Cn.of (lv := [some (.ref (r 15)), some (.ref (r 1))]) (by decide +kernel) (Nat.le_of_ble_eq_true rfl) rfl (fun X hnm C CR => ?_)
  refine R_al0 (n := 1) C dX2_begin_0 rfl ?_
  refine R_ic (n := 2) C dX2_begin_1 ci_0 rfl ?_
  refine M_putI (n := 5) C fl_X2_18 dX2_begin_2 rfl rfl rfl rfl rfl ?_
  refine R_al0 (n := 6) C dX2_begin_5 rfl ?_
  refine R_ic (n := 7) C dX2_begin_6 ci_0 rfl ?_
  refine M_putI (n := 10) C fl_X2_22 dX2_begin_7 rfl rfl rfl rfl rfl ?_
  refine R_al0 (n := 11) C dX2_begin_10 rfl ?_
  refine R_ic (n := 12) C dX2_begin_11 ci_0 rfl ?_
  refine M_putI (n := 15) C fl_X2_25 dX2_begin_12 rfl rfl rfl rfl rfl ?_
  refine R_al0 (n := 16) C dX2_begin_15 rfl ?_
  refine R_ic (n := 17) C dX2_begin_16 ci_0 rfl ?_
  refine M_putI (n := 20) C fl_X2_28 dX2_begin_17 rfl rfl rfl rfl rfl ?_
  refine R_al0 (n := 21) C dX2_begin_20 rfl ?_
  refine R_ic (n := 22) C dX2_begin_21 ci_0 rfl ?_
  refine M_putI (n := 25) C fl_X2_31 dX2_begin_22 rfl rfl rfl rfl rfl ?_
  refine R_al1 (n := 26) C dX2_begin_25 rfl ?_
  refine M_getR (n := 29) C fl_X2_34 dX2_begin_26 rfl rfl rfl ?_
  refine R_ic (n := 30) C dX2_begin_29 ci_0 rfl ?_
  refine R_al0 (n := 31) C dX2_begin_30 rfl ?_
  refine M_getR (n := 34) C fl_X2_9 dX2_begin_31 rfl rfl rfl ?_
  refine R_ic (n := 35) C dX2_begin_34 ci_0 rfl ?_
  refine R_ic (n := 36) C dX2_begin_35 ci_5 rfl ?_
  refine M_copy (n := 39) C cp_X2_37 dX2_begin_36 rfl rfl (by decide) (by decide) (by decide) (by decide) rfl ?_
  refine R_al1 (n := 40) C dX2_begin_39 rfl ?_
  refine M_getR (n := 43) C fl_X2_43 dX2_begin_40 rfl rfl rfl ?_
  refine R_ic (n := 44) C dX2_begin_43 ci_0 rfl ?_
  refine R_al0 (n := 45) C dX2_begin_44 rfl ?_
  refine M_getR (n := 48) C fl_X2_15 dX2_begin_45 rfl rfl rfl ?_
  refine R_ic (n := 49) C dX2_begin_48 ci_0 rfl ?_
  refine R_ic (n := 50) C dX2_begin_49 ci_5 rfl ?_
  refine M_copy (n := 53) C cp_X2_37 dX2_begin_50 rfl rfl (by decide) (by decide) (by decide) (by decide) rfl ?_
  refine R_vret C CR (Nat.zero_le _) (Nat.zero_le _) dX2_begin_53 ?_
  have z : ∀ {k : Nat} {v : Int32} {g : Hp} {a : Nat} {f : Nat → Int32} {b : Nat} {f2 : Nat → Int32}, True := trivial
  refine ⟨rfl, rfl, ⟨fun k hk => ?_, fun k hk => ?_, ?_, ?_, ?_, ?_, ?_⟩, fun a ha => ?_⟩
  · rw [vup_row (by decide), vup_same, cpy0 hk]
    simp only [up2_row (show (2 : Nat) ≠ 15 by decide)]
    exact wLk R hk
  · rw [vup_same, cpy0 hk, vup_row (by decide)]
    simp only [up2_row (show (3 : Nat) ≠ 15 by decide)]
    exact wLg R hk
  · rw [vup_row (by decide), vup_row (by decide)]; simp [up2_at, ev0]
  · rw [vup_row (by decide), vup_row (by decide)]; simp [up2_at, ev0]
  · rw [vup_row (by decide), vup_row (by decide)]; simp [up2_at, ev0]
  · rw [vup_row (by decide), vup_row (by decide)]; simp [up2_at]
  · rw [vup_row (by decide), vup_row (by decide)]; simp [up2_at]
  · rw [vup_row (by omega), vup_row (by omega)]
    simp only [up2_row (show a ≠ 15 by omega)]
