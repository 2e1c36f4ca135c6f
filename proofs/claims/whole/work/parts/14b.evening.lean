set_option maxRecDepth 20000 in
set_option maxHeartbeats 4000000 in
theorem c_hear (l : Launch) (D : va_G) (cA : Nat → ClassId) (r : Nat → Nat) {h : Hp} {σ : WS} (R : RW 1 σ h) (I : Inv σ) {e : EV} {c y : Nat} (E : RE e c y h) (O : EOk σ e) {w : Nat} (hw : w < 6) : Cn l D cA yX2_hear cX2_hear 5 none 1 0 0 [.ref (r 15), .ref (r 1), .int (nI w)] (LY r) h (pG none (LY r) (fun h' => RE (hrz σ w (sN σ) e) c y h' ∧ FrE h h')) := by
  refine Cn.of (lv := [some (.ref (r 15)), some (.ref (r 1)), some (.int (nI w)), none, none]) (by decide +kernel) (Nat.le_of_ble_eq_true rfl) rfl (fun X hnm C CR => ?_)
  have n5 := I.n5
  have loop : ∀ (m i : Nat) (h1 : Hp) (o : Option Value), sN σ < i + m → i ≤ sN σ → RE (hrz σ w i e) c y h1 → FrE h h1 → Rn X 0 0 2 [some (.ref (r 15)), some (.ref (r 1)), some (.int (nI w)), some (.int (nI i)), o] [] (LY r) h1 := by
    intro m
    induction m with
    | zero => intro i h1 o a1 a2; omega
    | succ m ih =>
      intro i h1 o a1 a2 E1 F1
      have R1 := F1.rw R
      refine R_il3 (n := 3) C dX2_hear_2 rfl ?_
      refine R_al1 (n := 4) C dX2_hear_3 rfl ?_
      refine M_getI (n := 7) C fl_X2_92 dX2_hear_4 rfl rfl (wN R1) rfl ?_
      refine R_icmp_geN (tgt := 95) C dX2_hear_7 rfl rfl (by omega) (by omega) (fun c1 => ?_) (fun c1 => ?_)
      · refine R_vret C CR (Nat.zero_le _) (Nat.zero_le _) dX2_hear_95 ?_
        exact ⟨rfl, rfl, by rw [show sN σ = i by omega]; exact E1, F1⟩
      · have O1 := hrz_ok (w := w) O (k := i) (by omega)
        have hi : i < 5 := by omega
        obtain ⟨e', he'⟩ : ∃ e', hrz σ w i e = e' := ⟨_, rfl⟩
        rw [he'] at E1 O1
        have o1 := (O1 i hi).1
        have o2 := (O1 i hi).2.1
        have q4 := qz_le I (l := e'.1 i) hw hi
        have hs : hrz σ w (i + 1) e = hr1 σ w i e' := by rw [← he']; rfl
        obtain ⟨b, hb⟩ : ∃ b, qz σ w i (e'.1 i) = b := ⟨_, rfl⟩
        refine R_al1 (n := 11) C dX2_hear_10 rfl ?_
        refine R_il2 (n := 12) C dX2_hear_11 rfl ?_
        refine R_il3 (n := 13) C dX2_hear_12 rfl ?_
        refine R_al0 (n := 14) C dX2_hear_13 rfl ?_
        refine M_getR (n := 17) C fl_X2_9 dX2_hear_14 rfl rfl rfl ?_
        refine R_il3 (n := 18) C dX2_hear_17 rfl ?_
        refine M_iald (n := 19) C dX2_hear_18 rfl hi (E1.1 i hi) rfl ?_
        refine M_callV (n := 22) C (c_quarters _ _ _ r R1 I hw hi o1) mw_X9_quarters ml_X2_95 iv_X9_quarters dX2_hear_19 rfl rfl rfl rfl (Nat.le_of_ble_eq_true rfl) ⟨Nat.le_of_ble_eq_true rfl, Nat.le_of_ble_eq_true rfl⟩ ⟨Nat.le_refl _, Nat.le_refl _⟩ rfl (pEs ?_)
        refine R_is4 (n := 24) C dX2_hear_22 rfl (Nat.le_of_ble_eq_true rfl) rfl ?_
        rw [hb] at q4 ⊢
        refine R_il4 (n := 26) C dX2_hear_24 rfl ?_
        refine R_al0 (n := 27) C dX2_hear_26 rfl ?_
        refine M_getR (n := 30) C fl_X2_15 dX2_hear_27 rfl rfl rfl ?_
        refine R_il3 (n := 31) C dX2_hear_30 rfl ?_
        refine M_iald (n := 32) C dX2_hear_31 rfl hi (E1.2.1 i hi) rfl ?_
        refine R_icmp_leN (tgt := 48) C dX2_hear_32 rfl rfl (by omega) (by omega) (fun c2 => ?_) (fun c2 => ?_)
        · refine R_al0 (n := 49) C dX2_hear_48 rfl ?_
          refine M_getR (n := 52) C fl_X2_9 dX2_hear_49 rfl rfl rfl ?_
          refine R_il3 (n := 53) C dX2_hear_52 rfl ?_
          refine R_al1 (n := 54) C dX2_hear_53 rfl ?_
          refine R_il3 (n := 55) C dX2_hear_54 rfl ?_
          refine R_al0 (n := 56) C dX2_hear_55 rfl ?_
          refine M_getR (n := 59) C fl_X2_9 dX2_hear_56 rfl rfl rfl ?_
          refine R_il3 (n := 60) C dX2_hear_59 rfl ?_
          refine M_iald (n := 61) C dX2_hear_60 rfl hi (E1.1 i hi) rfl ?_
          refine R_il4 (n := 63) C dX2_hear_61 rfl ?_
          refine M_callV (n := 66) C (c_turned _ _ _ r R1 I hi o1 q4) mw_X9_turned ml_X2_98 iv_X9_turned dX2_hear_63 rfl rfl rfl rfl (Nat.le_of_ble_eq_true rfl) ⟨Nat.le_of_ble_eq_true rfl, Nat.le_of_ble_eq_true rfl⟩ ⟨Nat.le_refl _, Nat.le_refl _⟩ rfl (pEs ?_)
          refine M_iast (n := 67) C dX2_hear_66 rfl hi rfl ?_
          refine R_al0 (n := 68) C dX2_hear_67 rfl ?_
          refine M_getR (n := 71) C fl_X2_15 dX2_hear_68 rfl rfl rfl ?_
          refine R_il3 (n := 72) C dX2_hear_71 rfl ?_
          refine R_dup2 (n := 73) C dX2_hear_72 rfl rfl rfl ?_
          refine M_iald (n := 74) C dX2_hear_73 rfl hi (up2_get (by decide) (E1.2.1 i hi)) rfl ?_
          refine R_il4 (n := 76) C dX2_hear_74 rfl ?_
          refine R_isubN (n := 77) C dX2_hear_76 (by omega) rfl ?_
          refine M_iast (n := 78) C dX2_hear_77 rfl hi rfl ?_
          refine R_al0 (n := 79) C dX2_hear_78 rfl ?_
          refine R_dup (n := 80) C dX2_hear_79 rfl rfl ?_
          refine M_getI (n := 83) C fl_X2_18 dX2_hear_80 rfl rfl (up2_get (by decide) (up2_get (by decide) E1.2.2.1)) rfl ?_
          refine R_il4 (n := 85) C dX2_hear_83 rfl ?_
          refine R_iaddN (n := 86) C dX2_hear_85 rfl ?_
          refine M_putI (n := 89) C fl_X2_18 dX2_hear_86 rfl rfl rfl rfl rfl ?_
          refine R_inc3 (n := 92) C dX2_hear_89 rfl (Nat.le_of_ble_eq_true rfl) (inc_1 _) rfl ?_
          refine R_goto (n := 2) C dX2_hear_92 rfl ?_
          refine ih (i + 1) _ _ (by omega) (by omega) ?_ (((F1.up (by decide) (by decide)).up (by decide) (by decide)).up (by decide) (by decide))
          rw [hs, hr1, hb, if_pos c2]
          refine ⟨fun k hk => ?_, fun k hk => ?_, ?_, ?_, ?_, ?_, ?_⟩
          · rw [up2_row (by decide), up2_row (by decide), up2_at]; simp only [updN]
            split
            · rfl
            · exact E1.1 k hk
          · rw [up2_row (by decide), up2_at]; simp only [updN]
            split
            · rfl
            · rw [up2_row (by decide)]
              exact E1.2.1 k hk
          · exact up2_same
          · rw [up2_ne (by decide), up2_row (by decide), up2_row (by decide)]
            exact E1.2.2.2.1
          · rw [up2_ne (by decide), up2_row (by decide), up2_row (by decide)]
            exact E1.2.2.2.2.1
          · rw [up2_ne (by decide), up2_row (by decide), up2_row (by decide)]
            exact E1.2.2.2.2.2.1
          · rw [up2_ne (by decide), up2_row (by decide), up2_row (by decide)]
            exact E1.2.2.2.2.2.2
        · refine R_al0 (n := 36) C dX2_hear_35 rfl ?_
          refine R_dup (n := 37) C dX2_hear_36 rfl rfl ?_
          refine M_getI (n := 40) C fl_X2_22 dX2_hear_37 rfl rfl E1.2.2.2.1 rfl ?_
          refine R_ic (n := 41) C dX2_hear_40 ci_1 rfl ?_
          refine R_iaddN (n := 42) C dX2_hear_41 rfl ?_
          refine M_putI (n := 45) C fl_X2_22 dX2_hear_42 rfl rfl rfl rfl rfl ?_
          refine R_goto (n := 89) C dX2_hear_45 rfl ?_
          refine R_inc3 (n := 92) C dX2_hear_89 rfl (Nat.le_of_ble_eq_true rfl) (inc_1 _) rfl ?_
          refine R_goto (n := 2) C dX2_hear_92 rfl ?_
          refine ih (i + 1) _ _ (by omega) (by omega) ?_ (F1.up (by decide) (by decide))
          rw [hs, hr1, hb, if_neg (by omega)]
          refine ⟨fun k hk => ?_, fun k hk => ?_, ?_, ?_, ?_, ?_, ?_⟩
          · rw [up2_row (by decide)]; exact E1.1 k hk
          · rw [up2_row (by decide)]; exact E1.2.1 k hk
          · rw [up2_ne (by decide)]; exact E1.2.2.1
          · exact up2_same
          · rw [up2_ne (by decide)]; exact E1.2.2.2.2.1
          · rw [up2_ne (by decide)]; exact E1.2.2.2.2.2.1
          · rw [up2_ne (by decide)]; exact E1.2.2.2.2.2.2
  refine R_ic (n := 1) C dX2_hear_0 ci_0 rfl ?_
  refine R_is3 (n := 2) C dX2_hear_1 rfl (Nat.le_of_ble_eq_true rfl) rfl ?_
  exact loop (sN σ + 1) 0 h none (by omega) (by omega) E FrE.rf
set_option maxRecDepth 20000 in
set_option maxHeartbeats 4000000 in
theorem c_thunder (l : Launch) (D : va_G) (cA : Nat → ClassId) (r : Nat → Nat) {h : Hp} {σ : WS} (R : RW 1 σ h) (I : Inv σ) {e : EV} {c y : Nat} (E : RE e c y h) (O : EOk σ e) : Cn l D cA yX2_thunder cX2_thunder 3 none 0 0 0 [.ref (r 15), .ref (r 1)] (LY r) h (pG none (LY r) (fun h' => RE (thz (sN σ) e) c y h' ∧ FrE h h')) := by
  refine Cn.of (lv := [some (.ref (r 15)), some (.ref (r 1)), none]) (by decide +kernel) (Nat.le_of_ble_eq_true rfl) rfl (fun X hnm C CR => ?_)
  have n5 := I.n5
  have loop : ∀ (m i : Nat) (h1 : Hp), sN σ < i + m → i ≤ sN σ → RE (thz i e) c y h1 → FrE h h1 → Rn X 0 0 2 [some (.ref (r 15)), some (.ref (r 1)), some (.int (nI i))] [] (LY r) h1 := by
    intro m
    induction m with
    | zero => intro i h1 a1 a2; omega
    | succ m ih =>
      intro i h1 a1 a2 E1 F1
      have R1 := F1.rw R
      refine R_il2 (n := 3) C dX2_thunder_2 rfl ?_
      refine R_al1 (n := 4) C dX2_thunder_3 rfl ?_
      refine M_getI (n := 7) C fl_X2_92 dX2_thunder_4 rfl rfl (wN R1) rfl ?_
      refine R_icmp_geN (tgt := 32) C dX2_thunder_7 rfl rfl (by omega) (by omega) (fun c1 => ?_) (fun c1 => ?_)
      · refine R_vret C CR (Nat.zero_le _) (Nat.zero_le _) dX2_thunder_32 ?_
        exact ⟨rfl, rfl, by rw [show sN σ = i by omega]; exact E1, F1⟩
      · have hi : i < 5 := by omega
        refine R_al0 (n := 11) C dX2_thunder_10 rfl ?_
        refine M_getR (n := 14) C fl_X2_9 dX2_thunder_11 rfl rfl rfl ?_
        refine R_il2 (n := 15) C dX2_thunder_14 rfl ?_
        refine R_al0 (n := 16) C dX2_thunder_15 rfl ?_
        refine M_getR (n := 19) C fl_X2_9 dX2_thunder_16 rfl rfl rfl ?_
        refine R_il2 (n := 20) C dX2_thunder_19 rfl ?_
        refine M_iald (n := 21) C dX2_thunder_20 rfl hi (E1.1 i hi) rfl ?_
        refine R_ic (n := 22) C dX2_thunder_21 ci_2 rfl ?_
        refine R_iaddN (n := 23) C dX2_thunder_22 rfl ?_
        refine R_ic (n := 24) C dX2_thunder_23 ci_3 rfl ?_
        refine R_iandN (n := 25) C dX2_thunder_24 rfl ?_
        refine R_eq (congrArg nI (and3 _)) ?_
        refine M_iast (n := 26) C dX2_thunder_25 rfl hi rfl ?_
        refine R_inc2 (n := 29) C dX2_thunder_26 rfl (Nat.le_of_ble_eq_true rfl) (inc_1 _) rfl ?_
        refine R_goto (n := 2) C dX2_thunder_29 rfl ?_
        refine ih (i + 1) _ (by omega) (by omega) ?_ (F1.up (by decide) (by decide))
        refine ⟨fun k hk => ?_, fun k hk => ?_, ?_, ?_, ?_, ?_, ?_⟩
        · simp only [thz, up2_at, updN]
          split
          · rfl
          · exact E1.1 k hk
        · rw [up2_row (by decide)]; exact E1.2.1 k hk
        · rw [up2_row (by decide)]; exact E1.2.2.1
        · rw [up2_row (by decide)]; exact E1.2.2.2.1
        · rw [up2_row (by decide)]; exact E1.2.2.2.2.1
        · rw [up2_row (by decide)]; exact E1.2.2.2.2.2.1
        · rw [up2_row (by decide)]; exact E1.2.2.2.2.2.2
  refine R_ic (n := 1) C dX2_thunder_0 ci_0 rfl ?_
  refine R_is2 (n := 2) C dX2_thunder_1 rfl (Nat.le_of_ble_eq_true rfl) rfl ?_
  exact loop (sN σ + 1) 0 h (by omega) (by omega) E FrE.rf
set_option maxRecDepth 20000 in
set_option maxHeartbeats 4000000 in
theorem c_rest (l : Launch) (D : va_G) (cA : Nat → ClassId) (r : Nat → Nat) {h : Hp} {σ : WS} (R : RW 1 σ h) (I : Inv σ) {e : EV} {c y : Nat} (E : RE e c y h) : Cn l D cA yX2_rest cX2_rest 2 none 1 0 0 [.ref (r 15), .ref (r 1)] (LY r) h (pG none (LY r) (fun h' => RE (niz σ e) c y h' ∧ FrE h h')) := by
  refine Cn.of (lv := [some (.ref (r 15)), some (.ref (r 1))]) (by decide +kernel) (Nat.le_of_ble_eq_true rfl) rfl (fun X hnm C CR => ?_)
  refine R_al1 (n := 1) C dX2_rest_0 rfl ?_
  refine M_getR (n := 4) C fl_X2_101 dX2_rest_1 rfl rfl rfl ?_
  refine R_ic (n := 5) C dX2_rest_4 ci_0 rfl ?_
  refine R_al0 (n := 6) C dX2_rest_5 rfl ?_
  refine M_getR (n := 9) C fl_X2_15 dX2_rest_6 rfl rfl rfl ?_
  refine R_ic (n := 10) C dX2_rest_9 ci_0 rfl ?_
  refine R_ic (n := 11) C dX2_rest_10 ci_5 rfl ?_
  refine M_copy (n := 14) C cp_X2_37 dX2_rest_11 rfl rfl (by decide) (by decide) (by decide) (by decide) rfl ?_
  refine R_vret C CR (Nat.zero_le _) (Nat.zero_le _) dX2_rest_14 ?_
  refine ⟨rfl, rfl, ⟨fun k hk => ?_, fun k hk => ?_, ?_, ?_, ?_, ?_, ?_⟩, fun a ha => ?_⟩
  · rw [vup_row (by decide)]; exact E.1 k hk
  · rw [vup_same, cpy0 hk]; exact wMo R hk
  · rw [vup_row (by decide)]; exact E.2.2.1
  · rw [vup_row (by decide)]; exact E.2.2.2.1
  · rw [vup_row (by decide)]; exact E.2.2.2.2.1
  · rw [vup_row (by decide)]; exact E.2.2.2.2.2.1
  · rw [vup_row (by decide)]; exact E.2.2.2.2.2.2
  · rw [vup_row (by omega)]
set_option maxRecDepth 20000 in
set_option maxHeartbeats 4000000 in
theorem c_evBegin (l : Launch) (D : va_G) (cA : Nat → ClassId) (r : Nat → Nat) {h : Hp} {σ : WS} (R : RW 1 σ h) (I : Inv σ) : Cn l D cA yX2_begin cX2_begin 2 none 1 0 0 [.ref (r 15), .ref (r 1)] (LY r) h (pG none (LY r) (fun h' => RE (ev0 σ) 0 0 h' ∧ FrE h h')) := by
  refine Cn.of (lv := [some (.ref (r 15)), some (.ref (r 1))]) (by decide +kernel) (Nat.le_of_ble_eq_true rfl) rfl (fun X hnm C CR => ?_)
  refine R_al0 (n := 1) C dX2_begin_0 rfl ?_
  refine R_ic (n := 2) C dX2_begin_1 ci_0 rfl ?_
  refine M_putI (n := 5) C fl_X2_18 dX2_begin_2 rfl rfl rfl rfl rfl ?_
  refine R_al0 (n := 6) C dX2_begin_5 rfl ?_
  refine R_ic (n := 7) C dX2_begin_6 ci_0 rfl ?_
  refine M_putI (n := 10) C fl_X2_22 dX2_begin_7 rfl rfl rfl rfl rfl ?_
  refine R_al0 (n := 11) C dX2_begin_10 rfl ?_
  refine R_ic (n := 12) C dX2_begin_11 ci_0 rfl ?_
  refine M_putI (n := 15) C fl_X2_25 dX2_begin_12 rfl rfl rfl rfl rfl ?_
  refine R_al0 (n := 16) C dX2_begin_15 rfl ?_
  refine R_ic (n := 17) C dX2_begin_16 ci_0 rfl ?_
  refine M_putI (n := 20) C fl_X2_28 dX2_begin_17 rfl rfl rfl rfl rfl ?_
  refine R_al0 (n := 21) C dX2_begin_20 rfl ?_
  refine R_ic (n := 22) C dX2_begin_21 ci_0 rfl ?_
  refine M_putI (n := 25) C fl_X2_31 dX2_begin_22 rfl rfl rfl rfl rfl ?_
  refine R_al1 (n := 26) C dX2_begin_25 rfl ?_
  refine M_getR (n := 29) C fl_X2_34 dX2_begin_26 rfl rfl rfl ?_
  refine R_ic (n := 30) C dX2_begin_29 ci_0 rfl ?_
  refine R_al0 (n := 31) C dX2_begin_30 rfl ?_
  refine M_getR (n := 34) C fl_X2_9 dX2_begin_31 rfl rfl rfl ?_
  refine R_ic (n := 35) C dX2_begin_34 ci_0 rfl ?_
  refine R_ic (n := 36) C dX2_begin_35 ci_5 rfl ?_
  refine M_copy (n := 39) C cp_X2_37 dX2_begin_36 rfl rfl (by decide) (by decide) (by decide) (by decide) rfl ?_
  refine R_al1 (n := 40) C dX2_begin_39 rfl ?_
  refine M_getR (n := 43) C fl_X2_43 dX2_begin_40 rfl rfl rfl ?_
  refine R_ic (n := 44) C dX2_begin_43 ci_0 rfl ?_
  refine R_al0 (n := 45) C dX2_begin_44 rfl ?_
  refine M_getR (n := 48) C fl_X2_15 dX2_begin_45 rfl rfl rfl ?_
  refine R_ic (n := 49) C dX2_begin_48 ci_0 rfl ?_
  refine R_ic (n := 50) C dX2_begin_49 ci_5 rfl ?_
  refine M_copy (n := 53) C cp_X2_37 dX2_begin_50 rfl rfl (by decide) (by decide) (by decide) (by decide) rfl ?_
  refine R_vret C CR (Nat.zero_le _) (Nat.zero_le _) dX2_begin_53 ?_
  have z : ∀ {k : Nat} {v : Int32} {g : Hp} {a : Nat} {f : Nat → Int32} {b : Nat} {f2 : Nat → Int32}, True := trivial
  refine ⟨rfl, rfl, ⟨fun k hk => ?_, fun k hk => ?_, ?_, ?_, ?_, ?_, ?_⟩, fun a ha => ?_⟩
  · rw [vup_row (by decide), vup_same, cpy0 hk]
    simp only [up2_row (show (2 : Nat) ≠ 15 by decide)]
    exact wLk R hk
  · rw [vup_same, cpy0 hk, vup_row (by decide)]
    simp only [up2_row (show (3 : Nat) ≠ 15 by decide)]
    exact wLg R hk
  · rw [vup_row (by decide), vup_row (by decide)]; simp [up2_at, ev0]
  · rw [vup_row (by decide), vup_row (by decide)]; simp [up2_at, ev0]
  · rw [vup_row (by decide), vup_row (by decide)]; simp [up2_at, ev0]
  · rw [vup_row (by decide), vup_row (by decide)]; simp [up2_at]
  · rw [vup_row (by decide), vup_row (by decide)]; simp [up2_at]
  · rw [vup_row (by omega), vup_row (by omega)]
    simp only [up2_row (show a ≠ 15 by omega)]
set_option maxRecDepth 20000 in
set_option maxHeartbeats 4000000 in
theorem c_knock (l : Launch) (D : va_G) (cA : Nat → ClassId) (r : Nat → Nat) {h : Hp} {σ : WS} (R : RW 1 σ h) (I : Inv σ) {e : EV} {c y : Nat} (E : RE e c y h) (O : EOk σ e) {k w : Nat} (hk : k < sN σ) (hw : w < 4) : Cn l D cA yX2_knock cX2_knock 4 (some .int) 2 0 0 [.ref (r 15), .ref (r 1), .int (nI k), .int (nI w)] (LY r) h (pG (some (.int (nI (if e.1 k = w then 0 else 2)))) (LY r) (fun h' => RE (knE e k w) c y h' ∧ FrE h h')) := by
  refine Cn.of (lv := [some (.ref (r 15)), some (.ref (r 1)), some (.int (nI k)), some (.int (nI w))]) (by decide +kernel) (Nat.le_of_ble_eq_true rfl) rfl (fun X hnm C CR => ?_)
  have n5 := I.n5
  have ok := (O k (by omega)).1
  refine R_al1 (n := 1) C dX2_knock_0 rfl ?_
  refine R_il2 (n := 2) C dX2_knock_1 rfl ?_
  refine M_callV (n := 5) C (c_hasHut _ _ _ r R I _) mw_X9_hasHut ml_X2_89 iv_X9_hasHut dX2_knock_2 rfl rfl rfl rfl (Nat.le_of_ble_eq_true rfl) ⟨Nat.le_of_ble_eq_true rfl, Nat.le_of_ble_eq_true rfl⟩ ⟨Nat.le_refl _, Nat.le_refl _⟩ rfl (pEs ?_)
  rw [win_nI (by omega) (by omega) (by omega)]
  refine R_if_eqB (tgt := 18) C dX2_knock_5 rfl rfl (fun c1 => ?_) (fun c1 => ?_)
  · simp at c1
    omega
  · refine R_al0 (n := 9) C dX2_knock_8 rfl ?_
    refine M_getR (n := 12) C fl_X2_9 dX2_knock_9 rfl rfl rfl ?_
    refine R_il2 (n := 13) C dX2_knock_12 rfl ?_
    refine M_iald (n := 14) C dX2_knock_13 rfl (by omega) (E.1 k (by omega)) rfl ?_
    refine R_il3 (n := 15) C dX2_knock_14 rfl ?_
    refine R_icmp_eqN (tgt := 20) C dX2_knock_15 rfl rfl (by omega) (by omega) (fun c2 => ?_) (fun c2 => ?_)
    · refine R_al0 (n := 21) C dX2_knock_20 rfl ?_
      refine R_dup (n := 22) C dX2_knock_21 rfl rfl ?_
      refine M_getI (n := 25) C fl_X2_25 dX2_knock_22 rfl rfl E.2.2.2.2.1 rfl ?_
      refine R_ic (n := 26) C dX2_knock_25 ci_1 rfl ?_
      refine R_iaddN (n := 27) C dX2_knock_26 rfl ?_
      refine M_putI (n := 30) C fl_X2_25 dX2_knock_27 rfl rfl rfl rfl rfl ?_
      refine R_ic (n := 31) C dX2_knock_30 ci_0 rfl ?_
      refine R_iret C CR (Nat.zero_le _) (Nat.zero_le _) dX2_knock_31 ?_
      refine ⟨by rw [if_pos c2], rfl, ?_, FrE.rf.up (by decide) (by decide)⟩
      rw [knE, if_pos c2]
      exact E.let
    · refine R_ic (n := 19) C dX2_knock_18 ci_2 rfl ?_
      refine R_iret C CR (Nat.zero_le _) (Nat.zero_le _) dX2_knock_19 ?_
      refine ⟨by rw [if_neg c2], rfl, ?_, FrE.rf⟩
      rw [knE, if_neg c2]
      exact E
set_option maxRecDepth 20000 in
set_option maxHeartbeats 4000000 in
theorem c_happen (l : Launch) (D : va_G) (cA : Nat → ClassId) (r : Nat → Nat) {h : Hp} {σ : WS} (R : RW 1 σ h) (I : Inv σ) {e : EV} {c y : Nat} (E : RE e c y h) (O : EOk σ e) {s : Nat} (hs : s = 42 ∨ s = 46 ∨ isLt s = true) : Cn l D cA yX2_happen cX2_happen 3 (some .int) 2 0 0 [.ref (r 15), .ref (r 1), .int (nI s)] (LY r) h (pG (some (.int (nI (whz σ e (sgE s))))) (LY r) (fun h' => RE (if whz σ e (sgE s) = 0 then hpz σ (sgE s) e else e) c y h' ∧ FrE h h')) := by
  refine Cn.of (lv := [some (.ref (r 15)), some (.ref (r 1)), some (.int (nI s))]) (by decide +kernel) (Nat.le_of_ble_eq_true rfl) rfl (fun X hnm C CR => ?_)
  have sb : s < 200 := by
    rcases hs with rfl | rfl | h9
    · decide
    · decide
    · simp [isLt] at h9; omega
  refine R_il2 (n := 1) C dX2_happen_0 rfl ?_
  refine R_bp (n := 3) C dX2_happen_1 cb_42 rfl ?_
  refine R_icmp_neN (tgt := 14) C dX2_happen_3 rfl rfl (by omega) (by omega) (fun c1 => ?_) (fun c1 => ?_)
  · refine R_il2 (n := 15) C dX2_happen_14 rfl ?_
    refine R_bp (n := 17) C dX2_happen_15 cb_46 rfl ?_
    refine R_icmp_neN (tgt := 28) C dX2_happen_17 rfl rfl (by omega) (by omega) (fun c2 => ?_) (fun c2 => ?_)
    · have h9 : isLt s = true := by rcases hs with h9 | h9 | h9; exact absurd h9 c1; exact absurd h9 c2; exact h9
      have h97 : 97 ≤ s ∧ s ≤ 102 := by simp [isLt] at h9; omega
      have e1 : sgE s = s - 97 := by rw [sgE, if_neg c1, if_neg c2]
      have e2 : whz σ e (s - 97) = if (sKn σ).testBit (s - 97) then 0 else 1 := by rw [whz, if_pos (by omega)]
      rw [e1, e2] at CR
      refine R_al1 (n := 29) C dX2_happen_28 rfl ?_
      refine R_il2 (n := 30) C dX2_happen_29 rfl ?_
      refine R_bp (n := 32) C dX2_happen_30 cb_97 rfl ?_
      refine R_isubN (n := 33) C dX2_happen_32 (by omega) rfl ?_
      refine M_callV (n := 36) C (c_knows _ _ _ r R I _) mw_X9_knows ml_X2_76 iv_X9_knows dX2_happen_33 rfl rfl rfl rfl (Nat.le_of_ble_eq_true rfl) ⟨Nat.le_of_ble_eq_true rfl, Nat.le_of_ble_eq_true rfl⟩ ⟨Nat.le_refl _, Nat.le_refl _⟩ rfl (pEs ?_)
      rw [kwz_n (by omega)]
      refine R_if_eqB (tgt := 51) C dX2_happen_36 rfl rfl (fun c3 => ?_) (fun c3 => ?_)
      · refine R_ic (n := 52) C dX2_happen_51 ci_1 rfl ?_
        refine R_iret C CR (Nat.zero_le _) (Nat.zero_le _) dX2_happen_52 ?_
        exact ⟨by rw [c3]; rfl, rfl, by rw [c3]; exact E, FrE.rf⟩
      · refine R_al0 (n := 40) C dX2_happen_39 rfl ?_
        refine R_al1 (n := 41) C dX2_happen_40 rfl ?_
        refine R_il2 (n := 42) C dX2_happen_41 rfl ?_
        refine R_bp (n := 44) C dX2_happen_42 cb_97 rfl ?_
        refine R_isubN (n := 45) C dX2_happen_44 (by omega) rfl ?_
        refine M_callV (n := 48) C (c_hear _ _ _ r R I E O (by omega)) mw_X2_hear ml_X2_79 iv_X2_hear dX2_happen_45 rfl rfl rfl rfl (Nat.le_of_ble_eq_true rfl) ⟨Nat.le_of_ble_eq_true rfl, Nat.le_of_ble_eq_true rfl⟩ ⟨Nat.le_refl _, Nat.le_refl _⟩ rfl (pGv (fun h1 q1 => ?_))
        refine R_goto (n := 53) C dX2_happen_48 rfl ?_
        refine R_ic (n := 54) C dX2_happen_53 ci_0 rfl ?_
        refine R_iret C CR (Nat.zero_le _) (Nat.zero_le _) dX2_happen_54 ?_
        refine ⟨by rw [c3]; rfl, rfl, ?_, q1.2⟩
        rw [c3, if_pos rfl, if_pos rfl, hpz, if_pos (by omega)]
        exact q1.1
    · subst c2
      refine R_al0 (n := 21) C dX2_happen_20 rfl ?_
      refine R_al1 (n := 22) C dX2_happen_21 rfl ?_
      refine M_callV (n := 25) C (c_rest _ _ _ r R I E) mw_X2_rest ml_X2_86 iv_X2_rest dX2_happen_22 rfl rfl rfl rfl (Nat.le_of_ble_eq_true rfl) ⟨Nat.le_of_ble_eq_true rfl, Nat.le_of_ble_eq_true rfl⟩ ⟨Nat.le_refl _, Nat.le_refl _⟩ rfl (pGv (fun h1 q1 => ?_))
      refine R_goto (n := 53) C dX2_happen_25 rfl ?_
      refine R_ic (n := 54) C dX2_happen_53 ci_0 rfl ?_
      refine R_iret C CR (Nat.zero_le _) (Nat.zero_le _) dX2_happen_54 ?_
      exact ⟨rfl, rfl, q1.1, q1.2⟩
  · subst c1
    refine R_al0 (n := 7) C dX2_happen_6 rfl ?_
    refine R_al1 (n := 8) C dX2_happen_7 rfl ?_
    refine M_callV (n := 11) C (c_thunder _ _ _ r R I E O) mw_X2_thunder ml_X2_83 iv_X2_thunder dX2_happen_8 rfl rfl rfl rfl (Nat.le_of_ble_eq_true rfl) ⟨Nat.le_of_ble_eq_true rfl, Nat.le_of_ble_eq_true rfl⟩ ⟨Nat.le_refl _, Nat.le_refl _⟩ rfl (pGv (fun h1 q1 => ?_))
    refine R_goto (n := 53) C dX2_happen_11 rfl ?_
    refine R_ic (n := 54) C dX2_happen_53 ci_0 rfl ?_
    refine R_iret C CR (Nat.zero_le _) (Nat.zero_le _) dX2_happen_54 ?_
    exact ⟨rfl, rfl, q1.1, q1.2⟩
theorem evS_dg {n : Nat} {ps : Nat → Nat} {m i : Nat} (h : evS n ps (m + 1) i none = none) (hd : isDg (ps i) = true) : ∃ m', m = m' + 1 ∧ ps i - 48 < n ∧ 48 ≤ ps i ∧ isW (ps (i + 1)) = true ∧ evS n ps m' (i + 2) none = none := by
  unfold evS at h
  rw [if_pos hd] at h
  by_cases h1 : ps i - 48 < n
  · rw [if_pos h1] at h
    cases m with
    | zero => simp [evS] at h
    | succ m' =>
      unfold evS at h
      by_cases h2 : isW (ps (i + 1)) = true
      · rw [if_pos h2] at h
        refine ⟨m', rfl, h1, ?_, h2, h⟩
        simp [isDg] at hd
        omega
      · rw [if_neg h2] at h
        cases h
  · rw [if_neg h1] at h
    cases h
theorem evS_ot {n : Nat} {ps : Nat → Nat} {m i : Nat} (h : evS n ps (m + 1) i none = none) (hd : isDg (ps i) = false) : (ps i = 42 ∨ ps i = 46 ∨ isLt (ps i) = true) ∧ evS n ps m (i + 1) none = none := by
  unfold evS at h
  rw [if_neg (by rw [hd]; decide)] at h
  by_cases h1 : (isLt (ps i) || (decide (ps i = 42) || decide (ps i = 46))) = true
  · rw [if_pos h1] at h
    simp at h1
    exact ⟨by rcases h1 with a | a | a; exact Or.inr (Or.inr a); exact Or.inl a; exact Or.inr (Or.inl a), h⟩
  · rw [if_neg h1] at h
    cases h
theorem wyN_lt (s : Nat) : wyN s < 4 := by
  unfold wyN
  repeat' split
  all_goals decide
set_option maxRecDepth 20000 in
set_option maxHeartbeats 4000000 in
theorem c_play (l : Launch) (D : va_G) (cA : Nat → ClassId) (r : Nat → Nat) {h : Hp} {σ : WS} (R : RW 1 σ h) (I : Inv σ) {p : PS} (P : RP p h) (J : InvP p) (V : evS (sN σ) p.2 p.1 0 none = none) : Cn l D cA yX2_play cX2_play 5 none 3 0 0 [.ref (r 15), .ref (r 1), .ref (r 13)] (LY r) h (pG none (LY r) (fun h' => RE (evr σ (evL p.2 p.1 0 none) (ev0 σ) 0).1 (evr σ (evL p.2 p.1 0 none) (ev0 σ) 0).2.1 (evr σ (evL p.2 p.1 0 none) (ev0 σ) 0).2.2 h' ∧ FrE h h')) := by
  refine Cn.of (lv := [some (.ref (r 15)), some (.ref (r 1)), some (.ref (r 13)), none, none]) (by decide +kernel) (Nat.le_of_ble_eq_true rfl) rfl (fun X hnm C CR => ?_)
  have n5 := I.n5
  have j0 := J.1
  obtain ⟨Z, hZ⟩ : ∃ Z, evr σ (evL p.2 p.1 0 none) (ev0 σ) 0 = Z := ⟨_, rfl⟩
  rw [hZ] at CR
  have loop : ∀ (q m i : Nat) (e : EV) (c : Nat) (h1 : Hp) (o : Option Value), m ≤ q → i + m = p.1 → evS (sN σ) p.2 m i none = none → Z = evr σ (evL p.2 m i none) e c → RE e c 0 h1 → EOk σ e → FrE h h1 → Rn X 0 0 7 [some (.ref (r 15)), some (.ref (r 1)), some (.ref (r 13)), some (.int (nI i)), o] [] (LY r) h1 := by
    intro q
    induction q with
    | zero =>
      intro m i e c h1 o a1 a2 V1 hz E1 O1 F1
      obtain rfl : m = 0 := by omega
      have P1 := F1.rp P
      refine R_il3 (n := 8) C dX2_play_7 rfl ?_
      refine R_al2 (n := 9) C dX2_play_8 rfl ?_
      refine M_getI (n := 12) C fl_X2_48 dX2_play_9 rfl rfl P1.1 rfl ?_
      refine R_icmp_geN (tgt := 94) C dX2_play_12 rfl rfl (by omega) (by omega) (fun c1 => ?_) (fun c1 => ?_)
      · refine R_vret C CR (Nat.zero_le _) (Nat.zero_le _) dX2_play_94 ?_
        refine ⟨rfl, rfl, ?_, F1⟩
        rw [hz]
        exact E1
      · omega
    | succ q ih =>
      intro m i e c h1 o a1 a2 V1 hz E1 O1 F1
      have P1 := F1.rp P
      have R1 := F1.rw R
      refine R_il3 (n := 8) C dX2_play_7 rfl ?_
      refine R_al2 (n := 9) C dX2_play_8 rfl ?_
      refine M_getI (n := 12) C fl_X2_48 dX2_play_9 rfl rfl P1.1 rfl ?_
      refine R_icmp_geN (tgt := 94) C dX2_play_12 rfl rfl (by omega) (by omega) (fun c1 => ?_) (fun c1 => ?_)
      · obtain rfl : m = 0 := by omega
        refine R_vret C CR (Nat.zero_le _) (Nat.zero_le _) dX2_play_94 ?_
        refine ⟨rfl, rfl, ?_, F1⟩
        rw [hz]
        exact E1
      · obtain ⟨m1, rfl⟩ : ∃ m1, m = m1 + 1 := ⟨m - 1, by omega⟩
        have s1 := J.2 i (by omega)
        refine R_al2 (n := 16) C dX2_play_15 rfl ?_
        refine M_getR (n := 19) C fl_X2_53 dX2_play_16 rfl rfl rfl ?_
        refine R_il3 (n := 20) C dX2_play_19 rfl ?_
        refine M_iald (n := 21) C dX2_play_20 rfl (by omega) (P1.2 i (by omega)) rfl ?_
        refine R_is4 (n := 23) C dX2_play_21 rfl (Nat.le_of_ble_eq_true rfl) rfl ?_
        refine R_il4 (n := 25) C dX2_play_23 rfl ?_
        refine R_callSN (n := 28) C (c_isDigit _ _ _ r (by omega)) mw_X10_isDigit mn_X2_56 sv_X10_isDigit dX2_play_25 rfl rfl (Nat.le_of_ble_eq_true rfl) ⟨Nat.le_of_ble_eq_true rfl, Nat.le_of_ble_eq_true rfl⟩ ⟨Nat.le_refl _, Nat.le_refl _⟩ rfl (pEs ?_)
        refine R_if_eqB (tgt := 59) C dX2_play_28 rfl rfl (fun c2 => ?_) (fun c2 => ?_)
        · obtain ⟨v1, v2⟩ := evS_ot V1 c2
          have hz' : Z = evr σ (sgE (p.2 i) :: evL p.2 m1 (i + 1) none) e c := by
            rw [hz]
            conv => lhs; unfold evL
            rw [if_neg (by rw [c2]; decide)]
          unfold evr at hz'
          refine R_al0 (n := 60) C dX2_play_59 rfl ?_
          refine R_al0 (n := 61) C dX2_play_60 rfl ?_
          refine R_al1 (n := 62) C dX2_play_61 rfl ?_
          refine R_il4 (n := 64) C dX2_play_62 rfl ?_
          refine M_callV (n := 67) C (c_happen _ _ _ r R1 I E1 O1 v1) mw_X2_happen ml_X2_71 iv_X2_happen dX2_play_64 rfl rfl rfl rfl (Nat.le_of_ble_eq_true rfl) ⟨Nat.le_of_ble_eq_true rfl, Nat.le_of_ble_eq_true rfl⟩ ⟨Nat.le_refl _, Nat.le_refl _⟩ rfl (pGs (fun h2 q2 => ?_))
          refine M_putI (n := 70) C fl_X2_31 dX2_play_67 rfl rfl rfl rfl rfl ?_
          obtain ⟨y, hy⟩ : ∃ y, whz σ e (sgE (p.2 i)) = y := ⟨_, rfl⟩
          rw [hy] at q2 hz' ⊢
          have yb : y < 3 := by
            rw [← hy, whz]
            repeat' split
            all_goals decide
          have E2 := q2.1.why (y' := y)
          have F2 := (F1.tr q2.2).up (a := 15) (k := 4) (v := nI y) (by decide) (by decide)
          refine R_al0 (n := 71) C dX2_play_70 rfl ?_
          refine M_getI (n := 74) C fl_X2_31 dX2_play_71 rfl rfl up2_same rfl ?_
          refine R_if_eqN (tgt := 78) C dX2_play_74 rfl rfl (by omega) (fun c3 => ?_) (fun c3 => ?_)
          · rw [if_pos c3] at hz' E2
            subst c3
            refine R_al0 (n := 79) C dX2_play_78 rfl ?_
            refine R_dup (n := 80) C dX2_play_79 rfl rfl ?_
            refine M_getI (n := 83) C fl_X2_28 dX2_play_80 rfl rfl E2.2.2.2.2.2.1 rfl ?_
            refine R_ic (n := 84) C dX2_play_83 ci_1 rfl ?_
            refine R_iaddN (n := 85) C dX2_play_84 rfl ?_
            refine M_putI (n := 88) C fl_X2_28 dX2_play_85 rfl rfl rfl rfl rfl ?_
            refine R_inc3 (n := 91) C dX2_play_88 rfl (Nat.le_of_ble_eq_true rfl) (inc_1 _) rfl ?_
            refine R_goto (n := 7) C dX2_play_91 rfl ?_
            exact ih m1 (i + 1) _ (c + 1) _ _ (by omega) (by omega) v2 hz' E2.evs (hpz_ok I O1) (F2.up (by decide) (by decide))
          · rw [if_neg c3] at hz' E2
            refine R_vret C CR (Nat.zero_le _) (Nat.zero_le _) dX2_play_77 ?_
            refine ⟨rfl, rfl, ?_, F2⟩
            rw [hz']
            exact E2
        · obtain ⟨m2, rfl, v1, v2, v3, v4⟩ := evS_dg V1 c2
          obtain ⟨k, hk⟩ : ∃ k, p.2 i - 48 = k := ⟨_, rfl⟩
          obtain ⟨g1, g2⟩ := knE_hp (σ := σ) (e := e) (k := k) (w := wyN (p.2 (i + 1))) (by omega) (wyN_lt _)
          have s2 := J.2 (i + 1) (by omega)
          have hz' : Z = evr σ ((10 * (k + 1) + wyN (p.2 (i + 1))) :: evL p.2 m2 (i + 2) none) e c := by
            rw [hz]
            conv => lhs; unfold evL
            rw [if_pos c2, hk]
            conv => lhs; unfold evL
          unfold evr at hz'
          rw [g1] at hz'
          refine R_inc3 (n := 34) C dX2_play_31 rfl (Nat.le_of_ble_eq_true rfl) (inc_1 _) rfl ?_
          refine R_al0 (n := 35) C dX2_play_34 rfl ?_
          refine R_al0 (n := 36) C dX2_play_35 rfl ?_
          refine R_al1 (n := 37) C dX2_play_36 rfl ?_
          refine R_il4 (n := 39) C dX2_play_37 rfl ?_
          refine R_bp (n := 41) C dX2_play_39 cb_48 rfl ?_
          refine R_isubN (n := 42) C dX2_play_41 (by omega) rfl ?_
          refine R_al2 (n := 43) C dX2_play_42 rfl ?_
          refine R_il3 (n := 44) C dX2_play_43 rfl ?_
          refine M_callV (n := 47) C (c_signAt _ _ _ r P1 J (by omega)) mw_X4_signAt ml_X2_60 iv_X4_signAt dX2_play_44 rfl rfl rfl rfl (Nat.le_of_ble_eq_true rfl) ⟨Nat.le_of_ble_eq_true rfl, Nat.le_of_ble_eq_true rfl⟩ ⟨Nat.le_refl _, Nat.le_refl _⟩ rfl (pEs ?_)
          refine R_callSN (n := 50) C (c_wayOf _ _ _ r (by omega)) mw_X10_wayOf mn_X2_64 sv_X10_wayOf dX2_play_47 rfl rfl (Nat.le_of_ble_eq_true rfl) ⟨Nat.le_of_ble_eq_true rfl, Nat.le_of_ble_eq_true rfl⟩ ⟨Nat.le_refl _, Nat.le_refl _⟩ rfl (pEs ?_)
          rw [wyO_is v3, hk]
          have O2 : EOk σ (knE e k (wyN (p.2 (i + 1)))) := knE_ok O1
          refine M_callV (n := 53) C (c_knock _ _ _ r R1 I E1 O1 (by omega) (wyN_lt _)) mw_X2_knock ml_X2_67 iv_X2_knock dX2_play_50 rfl rfl rfl rfl (Nat.le_of_ble_eq_true rfl) ⟨Nat.le_of_ble_eq_true rfl, Nat.le_of_ble_eq_true rfl⟩ ⟨Nat.le_refl _, Nat.le_refl _⟩ rfl (pGs (fun h2 q2 => ?_))
          refine M_putI (n := 56) C fl_X2_31 dX2_play_53 rfl rfl rfl rfl rfl ?_
          refine R_goto (n := 70) C dX2_play_56 rfl ?_
          have E2 := q2.1.why (y' := if e.1 k = wyN (p.2 (i + 1)) then 0 else 2)
          have F2 := (F1.tr q2.2).up (a := 15) (k := 4) (v := nI (if e.1 k = wyN (p.2 (i + 1)) then 0 else 2)) (by decide) (by decide)
          by_cases c4 : e.1 k = wyN (p.2 (i + 1))
          · rw [if_pos c4] at hz' E2 F2 ⊢
            rw [if_pos rfl] at hz'
            refine R_al0 (n := 71) C dX2_play_70 rfl ?_
            refine M_getI (n := 74) C fl_X2_31 dX2_play_71 rfl rfl up2_same rfl ?_
            refine R_if_eqN (tgt := 78) C dX2_play_74 rfl rfl (by omega) (fun c3 => ?_) (fun c3 => ?_)
            · refine R_al0 (n := 79) C dX2_play_78 rfl ?_
              refine R_dup (n := 80) C dX2_play_79 rfl rfl ?_
              refine M_getI (n := 83) C fl_X2_28 dX2_play_80 rfl rfl E2.2.2.2.2.2.1 rfl ?_
              refine R_ic (n := 84) C dX2_play_83 ci_1 rfl ?_
              refine R_iaddN (n := 85) C dX2_play_84 rfl ?_
              refine M_putI (n := 88) C fl_X2_28 dX2_play_85 rfl rfl rfl rfl rfl ?_
              refine R_inc3 (n := 91) C dX2_play_88 rfl (Nat.le_of_ble_eq_true rfl) (inc_1 _) rfl ?_
              refine R_goto (n := 7) C dX2_play_91 rfl ?_
              refine ih m2 (i + 2) _ (c + 1) _ _ (by omega) (by omega) v4 hz' ?_ ?_ (F2.up (by decide) (by decide))
              · rw [g2 c4]
                exact E2.evs
              · rw [g2 c4]
                exact O2
            · omega
          · rw [if_neg c4] at hz' E2 F2 ⊢
            rw [if_neg (by decide)] at hz'
            refine R_al0 (n := 71) C dX2_play_70 rfl ?_
            refine M_getI (n := 74) C fl_X2_31 dX2_play_71 rfl rfl up2_same rfl ?_
            refine R_if_eqN (tgt := 78) C dX2_play_74 rfl rfl (by omega) (fun c3 => ?_) (fun c3 => ?_)
            · omega
            · refine R_vret C CR (Nat.zero_le _) (Nat.zero_le _) dX2_play_77 ?_
              refine ⟨rfl, rfl, ?_, F2⟩
              rw [hz']
              rw [knE, if_neg c4] at E2
              exact E2
  refine R_al0 (n := 1) C dX2_play_0 rfl ?_
  refine R_al1 (n := 2) C dX2_play_1 rfl ?_
  refine M_callV (n := 5) C (c_evBegin _ _ _ r R I) mw_X2_begin ml_X2_44 iv_X2_begin dX2_play_2 rfl rfl rfl rfl (Nat.le_of_ble_eq_true rfl) ⟨Nat.le_of_ble_eq_true rfl, Nat.le_of_ble_eq_true rfl⟩ ⟨Nat.le_refl _, Nat.le_refl _⟩ rfl (pGv (fun h1 q1 => ?_))
  refine R_ic (n := 6) C dX2_play_5 ci_0 rfl ?_
  refine R_is3 (n := 7) C dX2_play_6 rfl (Nat.le_of_ble_eq_true rfl) rfl ?_
  exact loop p.1 p.1 0 (ev0 σ) 0 h1 none (Nat.le_refl _) (by omega) V hZ.symm q1.1 (ev0_ok I) q1.2
set_option maxRecDepth 20000 in
set_option maxHeartbeats 4000000 in
theorem c_playDraws (l : Launch) (D : va_G) (cA : Nat → ClassId) (r : Nat → Nat) {h : Hp} {σ : WS} (R : RW 1 σ h) (I : Inv σ) {x0 m0 : Nat} (hx0 : x0 < 65537) (hm0 : m0 < 100) : Cn l D cA yX2_playDraws cX2_playDraws 6 none 2 0 0 [.ref (r 15), .ref (r 1), .int (nI x0), .int (nI m0)] (LY r) h (pG none (LY r) (fun h' => RE (dwz σ m0 1 x0 (ev0 σ)) 0 0 h' ∧ FrE h h')) := by
  refine Cn.of (lv := [some (.ref (r 15)), some (.ref (r 1)), some (.int (nI x0)), some (.int (nI m0)), none, none]) (by decide +kernel) (Nat.le_of_ble_eq_true rfl) rfl (fun X hnm C CR => ?_)
  obtain ⟨Z, hZ⟩ : ∃ Z, dwz σ m0 1 x0 (ev0 σ) = Z := ⟨_, rfl⟩
  rw [hZ] at CR
  have loop : ∀ (m d x : Nat) (e : EV) (h1 : Hp), d + m = m0 + 1 → x < 65537 → Z = dwz σ m d x e → RE e 0 0 h1 → EOk σ e → FrE h h1 → Rn X 0 0 11 [some (.ref (r 15)), some (.ref (r 1)), some (.int (nI x0)), some (.int (nI m0)), some (.int (nI x)), some (.int (nI d))] [] (LY r) h1 := by
    intro m
    induction m with
    | zero =>
      intro d x e h1 a1 a2 hz E1 O1 F1
      refine R_il5 (n := 13) C dX2_playDraws_11 rfl ?_
      refine R_il3 (n := 14) C dX2_playDraws_13 rfl ?_
      refine R_icmp_gtN (tgt := 86) C dX2_playDraws_14 rfl rfl (by omega) (by omega) (fun c1 => ?_) (fun c1 => ?_)
      · refine R_vret C CR (Nat.zero_le _) (Nat.zero_le _) dX2_playDraws_86 ?_
        exact ⟨rfl, rfl, by rw [hz]; exact E1, F1⟩
      · omega
    | succ m ih =>
      intro d x e h1 a1 a2 hz E1 O1 F1
      unfold dwz at hz
      obtain ⟨x', hx'⟩ : ∃ x', (75 * x + 74) % 65537 = x' := ⟨_, rfl⟩
      have x'b : x' < 65537 := by omega
      simp only [hx'] at hz
      have R1 := F1.rw R
      refine R_il5 (n := 13) C dX2_playDraws_11 rfl ?_
      refine R_il3 (n := 14) C dX2_playDraws_13 rfl ?_
      refine R_icmp_gtN (tgt := 86) C dX2_playDraws_14 rfl rfl (by omega) (by omega) (fun c1 => ?_) (fun c1 => ?_)
      · omega
      · refine R_bp (n := 19) C dX2_playDraws_17 cb_75 rfl ?_
        refine R_il4 (n := 21) C dX2_playDraws_19 rfl ?_
        refine R_imulN (n := 22) C dX2_playDraws_21 rfl ?_
        refine R_bp (n := 24) C dX2_playDraws_22 cb_74 rfl ?_
        refine R_iaddN (n := 25) C dX2_playDraws_24 rfl ?_
        refine R_ldc (n := 27) C dX2_playDraws_25 kc_X2_75 rfl ?_
        refine R_eq (y := nI 65537) (by decide +kernel) ?_
        refine R_iremN (n := 28) C dX2_playDraws_27 (by omega) (by omega) (by omega) rfl ?_
        refine R_is4 (n := 30) C dX2_playDraws_28 rfl (Nat.le_of_ble_eq_true rfl) rfl ?_
        rw [hx']
        have w6 : x' % 6 < 6 := Nat.mod_lt _ (by decide)
        refine R_al1 (n := 31) C dX2_playDraws_30 rfl ?_
        refine R_il4 (n := 33) C dX2_playDraws_31 rfl ?_
        refine R_bp (n := 35) C dX2_playDraws_33 cb_6 rfl ?_
        refine R_iremN (n := 36) C dX2_playDraws_35 (by omega) (by omega) (by omega) rfl ?_
        refine M_callV (n := 39) C (c_knows _ _ _ r R1 I _) mw_X9_knows ml_X2_76 iv_X9_knows dX2_playDraws_36 rfl rfl rfl rfl (Nat.le_of_ble_eq_true rfl) ⟨Nat.le_of_ble_eq_true rfl, Nat.le_of_ble_eq_true rfl⟩ ⟨Nat.le_refl _, Nat.le_refl _⟩ rfl (pEs ?_)
        rw [kwz_n w6]
        have kr : ∀ (h4 : Hp) (e3 : EV), Z = dwz σ m (d + 1) x' e3 → RE e3 0 0 h4 → EOk σ e3 → FrE h h4 → Rn X 0 0 80 [some (.ref (r 15)), some (.ref (r 1)), some (.int (nI x0)), some (.int (nI m0)), some (.int (nI x')), some (.int (nI d))] [] (LY r) h4 := by
          intro h4 e3 hz3 E3 O3 F3
          refine R_inc5 (n := 83) C dX2_playDraws_80 rfl (Nat.le_of_ble_eq_true rfl) (inc_1 _) rfl ?_
          refine R_goto (n := 11) C dX2_playDraws_83 rfl ?_
          exact ih (d + 1) x' e3 h4 (by omega) x'b hz3 E3 O3 F3
        have kt : ∀ (h3 : Hp) (e2 : EV), Z = dwz σ m (d + 1) x' (if d % 5 = 0 then niz σ e2 else e2) → RE e2 0 0 h3 → EOk σ e2 → FrE h h3 → Rn X 0 0 68 [some (.ref (r 15)), some (.ref (r 1)), some (.int (nI x0)), some (.int (nI m0)), some (.int (nI x')), some (.int (nI d))] [] (LY r) h3 := by
          intro h3 e2 hz3 E3 O3 F3
          refine R_il5 (n := 70) C dX2_playDraws_68 rfl ?_
          refine R_ic (n := 71) C dX2_playDraws_70 ci_5 rfl ?_
          refine R_iremN (n := 72) C dX2_playDraws_71 (by omega) (by omega) (by omega) rfl ?_
          refine R_if_neN (tgt := 80) C dX2_playDraws_72 rfl rfl (by omega) (fun c5 => ?_) (fun c5 => ?_)
          · rw [if_neg c5] at hz3
            exact kr h3 e2 hz3 E3 O3 F3
          · rw [if_pos c5] at hz3
            refine R_al0 (n := 76) C dX2_playDraws_75 rfl ?_
            refine R_al1 (n := 77) C dX2_playDraws_76 rfl ?_
            refine M_callV (n := 80) C (c_rest _ _ _ r (F3.rw R) I E3) mw_X2_rest ml_X2_86 iv_X2_rest dX2_playDraws_77 rfl rfl rfl rfl (Nat.le_of_ble_eq_true rfl) ⟨Nat.le_of_ble_eq_true rfl, Nat.le_of_ble_eq_true rfl⟩ ⟨Nat.le_refl _, Nat.le_refl _⟩ rfl (pGv (fun h4 q4 => ?_))
            exact kr h4 _ hz3 q4.1 (niz_ok I O3) (F3.tr q4.2)
        have kw : ∀ (h2 : Hp) (e1 : EV), Z = dwz σ m (d + 1) x' (if d % 5 = 0 then niz σ (if x' / 6 % 10 = 0 then thz (sN σ) e1 else e1) else (if x' / 6 % 10 = 0 then thz (sN σ) e1 else e1)) → RE e1 0 0 h2 → EOk σ e1 → FrE h h2 → Rn X 0 0 52 [some (.ref (r 15)), some (.ref (r 1)), some (.int (nI x0)), some (.int (nI m0)), some (.int (nI x')), some (.int (nI d))] [] (LY r) h2 := by
          intro h2 e1 hz2 E2 O2 F2
          refine R_il4 (n := 54) C dX2_playDraws_52 rfl ?_
          refine R_bp (n := 56) C dX2_playDraws_54 cb_6 rfl ?_
          refine R_idivN (n := 57) C dX2_playDraws_56 (by omega) (by omega) (by omega) rfl ?_
          refine R_bp (n := 59) C dX2_playDraws_57 cb_10 rfl ?_
          refine R_iremN (n := 60) C dX2_playDraws_59 (by omega) (by omega) (by omega) rfl ?_
          refine R_if_neN (tgt := 68) C dX2_playDraws_60 rfl rfl (by omega) (fun c4 => ?_) (fun c4 => ?_)
          · rw [if_neg c4] at hz2
            exact kt h2 e1 hz2 E2 O2 F2
          · rw [if_pos c4] at hz2
            refine R_al0 (n := 64) C dX2_playDraws_63 rfl ?_
            refine R_al1 (n := 65) C dX2_playDraws_64 rfl ?_
            refine M_callV (n := 68) C (c_thunder _ _ _ r (F2.rw R) I E2 O2) mw_X2_thunder ml_X2_83 iv_X2_thunder dX2_playDraws_65 rfl rfl rfl rfl (Nat.le_of_ble_eq_true rfl) ⟨Nat.le_of_ble_eq_true rfl, Nat.le_of_ble_eq_true rfl⟩ ⟨Nat.le_refl _, Nat.le_refl _⟩ rfl (pGv (fun h3 q3 => ?_))
            exact kt h3 _ hz2 q3.1 (thz_ok O2 (Nat.le_refl _)) (F2.tr q3.2)
        refine R_if_eqB (tgt := 52) C dX2_playDraws_39 rfl rfl (fun c3 => ?_) (fun c3 => ?_)
        · rw [c3] at hz
          exact kw h1 e hz E1 O1 F1
        · rw [c3] at hz
          refine R_al0 (n := 43) C dX2_playDraws_42 rfl ?_
          refine R_al1 (n := 44) C dX2_playDraws_43 rfl ?_
          refine R_il4 (n := 46) C dX2_playDraws_44 rfl ?_
          refine R_bp (n := 48) C dX2_playDraws_46 cb_6 rfl ?_
          refine R_iremN (n := 49) C dX2_playDraws_48 (by omega) (by omega) (by omega) rfl ?_
          refine M_callV (n := 52) C (c_hear _ _ _ r R1 I E1 O1 w6) mw_X2_hear ml_X2_79 iv_X2_hear dX2_playDraws_49 rfl rfl rfl rfl (Nat.le_of_ble_eq_true rfl) ⟨Nat.le_of_ble_eq_true rfl, Nat.le_of_ble_eq_true rfl⟩ ⟨Nat.le_refl _, Nat.le_refl _⟩ rfl (pGv (fun h2 q2 => ?_))
          exact kw h2 _ hz q2.1 (hrz_ok O1 (Nat.le_refl _)) (F1.tr q2.2)
  refine R_al0 (n := 1) C dX2_playDraws_0 rfl ?_
  refine R_al1 (n := 2) C dX2_playDraws_1 rfl ?_
  refine M_callV (n := 5) C (c_evBegin _ _ _ r R I) mw_X2_begin ml_X2_44 iv_X2_begin dX2_playDraws_2 rfl rfl rfl rfl (Nat.le_of_ble_eq_true rfl) ⟨Nat.le_of_ble_eq_true rfl, Nat.le_of_ble_eq_true rfl⟩ ⟨Nat.le_refl _, Nat.le_refl _⟩ rfl (pGv (fun h1 q1 => ?_))
  refine R_il2 (n := 6) C dX2_playDraws_5 rfl ?_
  refine R_is4 (n := 8) C dX2_playDraws_6 rfl (Nat.le_of_ble_eq_true rfl) rfl ?_
  refine R_ic (n := 9) C dX2_playDraws_8 ci_1 rfl ?_
  refine R_is5 (n := 11) C dX2_playDraws_9 rfl (Nat.le_of_ble_eq_true rfl) rfl ?_
  exact loop m0 1 x0 (ev0 σ) h1 (by omega) hx0 hZ.symm q1.1 (ev0_ok I) q1.2
set_option maxRecDepth 20000 in
set_option maxHeartbeats 4000000 in
theorem c_leaveTo (l : Launch) (D : va_G) (cA : Nat → ClassId) (r : Nat → Nat) {h : Hp} {e : EV} {c y : Nat} (E : RE e c y h) : Cn l D cA yX2_leaveTo cX2_leaveTo 2 none 1 0 0 [.ref (r 15), .ref (r 1)] (LY r) h (pG none (LY r) (fun h' => (∀ k, k < 5 → h' 2 k = nI (e.1 k)) ∧ (∀ k, k < 5 → h' 3 k = nI (e.2.1 k)) ∧ ∀ a, a ≠ 2 → a ≠ 3 → h' a = h a)) := by
  refine Cn.of (lv := [some (.ref (r 15)), some (.ref (r 1))]) (by decide +kernel) (Nat.le_of_ble_eq_true rfl) rfl (fun X hnm C CR => ?_)
  refine R_al0 (n := 1) C dX2_leaveTo_0 rfl ?_
  refine M_getR (n := 4) C fl_X2_9 dX2_leaveTo_1 rfl rfl rfl ?_
  refine R_ic (n := 5) C dX2_leaveTo_4 ci_0 rfl ?_
  refine R_al1 (n := 6) C dX2_leaveTo_5 rfl ?_
  refine M_getR (n := 9) C fl_X2_34 dX2_leaveTo_6 rfl rfl rfl ?_
  refine R_ic (n := 10) C dX2_leaveTo_9 ci_0 rfl ?_
  refine R_ic (n := 11) C dX2_leaveTo_10 ci_5 rfl ?_
  refine M_copy (n := 14) C cp_X2_37 dX2_leaveTo_11 rfl rfl (by decide) (by decide) (by decide) (by decide) rfl ?_
  refine R_al0 (n := 15) C dX2_leaveTo_14 rfl ?_
  refine M_getR (n := 18) C fl_X2_15 dX2_leaveTo_15 rfl rfl rfl ?_
  refine R_ic (n := 19) C dX2_leaveTo_18 ci_0 rfl ?_
  refine R_al1 (n := 20) C dX2_leaveTo_19 rfl ?_
  refine M_getR (n := 23) C fl_X2_43 dX2_leaveTo_20 rfl rfl rfl ?_
  refine R_ic (n := 24) C dX2_leaveTo_23 ci_0 rfl ?_
  refine R_ic (n := 25) C dX2_leaveTo_24 ci_5 rfl ?_
  refine M_copy (n := 28) C cp_X2_37 dX2_leaveTo_25 rfl rfl (by decide) (by decide) (by decide) (by decide) rfl ?_
  refine R_vret C CR (Nat.zero_le _) (Nat.zero_le _) dX2_leaveTo_28 ?_
  refine ⟨rfl, rfl, fun k hk => ?_, fun k hk => ?_, fun a h1 h2 => ?_⟩
  · rw [vup_row (by decide), vup_same, cpy0 hk]
    exact E.1 k hk
  · rw [vup_same, cpy0 hk, vup_row (by decide)]
    exact E.2.1 k hk
  · rw [vup_row h2, vup_row h1]
def owz (σ : WS) (ps : Nat → Nat) (m i : Nat) : Bool := (evL ps m i none).all (fun x => !decide (x < 6) || (sKn σ).testBit x)
set_option maxRecDepth 20000 in
set_option maxHeartbeats 4000000 in
theorem c_hasOnlyWords (l : Launch) (D : va_G) (cA : Nat → ClassId) (r : Nat → Nat) {h : Hp} {σ : WS} (R : RW 1 σ h) (I : Inv σ) {p : PS} (P : RP p h) (J : InvP p) (V : evS (sN σ) p.2 p.1 0 none = none) : Cn l D cA yX4_hasOnlyWords cX4_hasOnlyWords 3 (some .boolean) 2 0 0 [.ref (r 13), .ref (r 1)] (LY r) h (pE (some (.int (bI (owz σ p.2 p.1 0)))) (LY r) h) := by
  refine Cn.of (lv := [some (.ref (r 13)), some (.ref (r 1)), none]) (by decide +kernel) (Nat.le_of_ble_eq_true rfl) rfl (fun X hnm C CR => ?_)
  have j0 := J.1
  have n5 := I.n5
  obtain ⟨Z, hZ⟩ : ∃ Z, owz σ p.2 p.1 0 = Z := ⟨_, rfl⟩
  rw [hZ] at CR
  have loop : ∀ (q m i : Nat), m ≤ q → i + m = p.1 → evS (sN σ) p.2 m i none = none → Z = owz σ p.2 m i → Rn X 0 0 2 [some (.ref (r 13)), some (.ref (r 1)), some (.int (nI i))] [] (LY r) h := by
    intro q
    induction q with
    | zero =>
      intro m i a1 a2 V1 hz
      obtain rfl : m = 0 := by omega
      refine R_il2 (n := 3) C dX4_hasOnlyWords_2 rfl ?_
      refine R_al0 (n := 4) C dX4_hasOnlyWords_3 rfl ?_
      refine M_getI (n := 7) C fl_X4_15 dX4_hasOnlyWords_4 rfl rfl P.1 rfl ?_
      refine R_icmp_geN (tgt := 64) C dX4_hasOnlyWords_7 rfl rfl (by omega) (by omega) (fun c1 => ?_) (fun c1 => ?_)
      · refine R_ic (n := 65) C dX4_hasOnlyWords_64 ci_1 rfl ?_
        refine R_zret1 C CR (Nat.zero_le _) (Nat.zero_le _) dX4_hasOnlyWords_65 ?_
        exact ⟨by rw [hz]; rfl, rfl, rfl⟩
      · omega
    | succ q ih =>
      intro m i a1 a2 V1 hz
      refine R_il2 (n := 3) C dX4_hasOnlyWords_2 rfl ?_
      refine R_al0 (n := 4) C dX4_hasOnlyWords_3 rfl ?_
      refine M_getI (n := 7) C fl_X4_15 dX4_hasOnlyWords_4 rfl rfl P.1 rfl ?_
      refine R_icmp_geN (tgt := 64) C dX4_hasOnlyWords_7 rfl rfl (by omega) (by omega) (fun c1 => ?_) (fun c1 => ?_)
      · obtain rfl : m = 0 := by omega
        refine R_ic (n := 65) C dX4_hasOnlyWords_64 ci_1 rfl ?_
        refine R_zret1 C CR (Nat.zero_le _) (Nat.zero_le _) dX4_hasOnlyWords_65 ?_
        exact ⟨by rw [hz]; rfl, rfl, rfl⟩
      · obtain ⟨m1, rfl⟩ : ∃ m1, m = m1 + 1 := ⟨m - 1, by omega⟩
        have s1 := J.2 i (by omega)
        refine R_al0 (n := 11) C dX4_hasOnlyWords_10 rfl ?_
        refine M_getR (n := 14) C fl_X4_9 dX4_hasOnlyWords_11 rfl rfl rfl ?_
        refine R_il2 (n := 15) C dX4_hasOnlyWords_14 rfl ?_
        refine M_iald (n := 16) C dX4_hasOnlyWords_15 rfl (by omega) (P.2 i (by omega)) rfl ?_
        refine R_callSN (n := 19) C (c_isDigit _ _ _ r (by omega)) mw_X10_isDigit mn_X4_27 sv_X10_isDigit dX4_hasOnlyWords_16 rfl rfl (Nat.le_of_ble_eq_true rfl) ⟨Nat.le_of_ble_eq_true rfl, Nat.le_of_ble_eq_true rfl⟩ ⟨Nat.le_refl _, Nat.le_refl _⟩ rfl (pEs ?_)
        refine R_if_eqB (tgt := 28) C dX4_hasOnlyWords_19 rfl rfl (fun c2 => ?_) (fun c2 => ?_)
        · obtain ⟨v1, v2⟩ := evS_ot V1 c2
          have hz' : Z = ((!decide (sgE (p.2 i) < 6) || (sKn σ).testBit (sgE (p.2 i))) && owz σ p.2 m1 (i + 1)) := by
            rw [hz, owz]
            conv => lhs; unfold evL
            rw [if_neg (by rw [c2]; decide)]
            rfl
          refine R_al0 (n := 29) C dX4_hasOnlyWords_28 rfl ?_
          refine M_getR (n := 32) C fl_X4_9 dX4_hasOnlyWords_29 rfl rfl rfl ?_
          refine R_il2 (n := 33) C dX4_hasOnlyWords_32 rfl ?_
          refine M_iald (n := 34) C dX4_hasOnlyWords_33 rfl (by omega) (P.2 i (by omega)) rfl ?_
          refine R_callSN (n := 37) C (c_isLetter _ _ _ r (by omega)) mw_X10_isLetter mn_X4_31 sv_X10_isLetter dX4_hasOnlyWords_34 rfl rfl (Nat.le_of_ble_eq_true rfl) ⟨Nat.le_of_ble_eq_true rfl, Nat.le_of_ble_eq_true rfl⟩ ⟨Nat.le_refl _, Nat.le_refl _⟩ rfl (pEs ?_)
          refine R_if_eqB (tgt := 58) C dX4_hasOnlyWords_37 rfl rfl (fun c3 => ?_) (fun c3 => ?_)
          · refine R_inc2 (n := 61) C dX4_hasOnlyWords_58 rfl (Nat.le_of_ble_eq_true rfl) (inc_1 _) rfl ?_
            refine R_goto (n := 2) C dX4_hasOnlyWords_61 rfl ?_
            refine ih m1 (i + 1) (by omega) (by omega) v2 ?_
            rw [hz']
            have : ¬ sgE (p.2 i) < 6 := by
              rcases v1 with e | e | e
              · rw [e]; decide
              · rw [e]; decide
              · rw [e] at c3; cases c3
            simp [this]
          · have h97 : 97 ≤ p.2 i ∧ p.2 i ≤ 102 := by simp [isLt] at c3; omega
            have e1 : sgE (p.2 i) = p.2 i - 97 := by rw [sgE, if_neg (by omega), if_neg (by omega)]
            rw [e1] at hz'
            refine R_al1 (n := 41) C dX4_hasOnlyWords_40 rfl ?_
            refine R_al0 (n := 42) C dX4_hasOnlyWords_41 rfl ?_
            refine M_getR (n := 45) C fl_X4_9 dX4_hasOnlyWords_42 rfl rfl rfl ?_
            refine R_il2 (n := 46) C dX4_hasOnlyWords_45 rfl ?_
            refine M_iald (n := 47) C dX4_hasOnlyWords_46 rfl (by omega) (P.2 i (by omega)) rfl ?_
            refine R_bp (n := 49) C dX4_hasOnlyWords_47 cb_97 rfl ?_
            refine R_isubN (n := 50) C dX4_hasOnlyWords_49 (by omega) rfl ?_
            refine M_callV (n := 53) C (c_knows _ _ _ r R I _) mw_X9_knows ml_X4_34 iv_X9_knows dX4_hasOnlyWords_50 rfl rfl rfl rfl (Nat.le_of_ble_eq_true rfl) ⟨Nat.le_of_ble_eq_true rfl, Nat.le_of_ble_eq_true rfl⟩ ⟨Nat.le_refl _, Nat.le_refl _⟩ rfl (pEs ?_)
            rw [kwz_n (by omega)]
            refine R_if_neB (tgt := 58) C dX4_hasOnlyWords_53 rfl rfl (fun c4 => ?_) (fun c4 => ?_)
            · refine R_inc2 (n := 61) C dX4_hasOnlyWords_58 rfl (Nat.le_of_ble_eq_true rfl) (inc_1 _) rfl ?_
              refine R_goto (n := 2) C dX4_hasOnlyWords_61 rfl ?_
              refine ih m1 (i + 1) (by omega) (by omega) v2 ?_
              rw [hz', c4, Bool.or_true, Bool.true_and]
            · refine R_ic (n := 57) C dX4_hasOnlyWords_56 ci_0 rfl ?_
              refine R_zret0 C CR (Nat.zero_le _) (Nat.zero_le _) dX4_hasOnlyWords_57 ?_
              refine ⟨?_, rfl, rfl⟩
              rw [hz', c4, decide_eq_true (show p.2 i - 97 < 6 by omega)]
              rfl
        · obtain ⟨m2, rfl, v1, v2, v3, v4⟩ := evS_dg V1 c2
          refine R_inc2 (n := 25) C dX4_hasOnlyWords_22 rfl (Nat.le_of_ble_eq_true rfl) (inc_1 _) rfl ?_
          refine R_goto (n := 58) C dX4_hasOnlyWords_25 rfl ?_
          refine R_inc2 (n := 61) C dX4_hasOnlyWords_58 rfl (Nat.le_of_ble_eq_true rfl) (inc_1 _) rfl ?_
          refine R_goto (n := 2) C dX4_hasOnlyWords_61 rfl ?_
          refine ih m2 (i + 2) (by omega) (by omega) v4 ?_
          rw [hz, owz]
          conv => lhs; unfold evL
          rw [if_pos c2]
          conv => lhs; unfold evL
          have : ¬ 10 * (p.2 i - 48 + 1) + wyN (p.2 (i + 1)) < 6 := by omega
          simp [this, owz]
  refine R_ic (n := 1) C dX4_hasOnlyWords_0 ci_0 rfl ?_
  refine R_is2 (n := 2) C dX4_hasOnlyWords_1 rfl (Nat.le_of_ble_eq_true rfl) rfl ?_
  exact loop p.1 p.1 0 (Nat.le_refl _) (by omega) V hZ.symm
