set_option maxRecDepth 20000 in
set_option maxHeartbeats 4000000 in
theorem c_isMet_0 (l : Launch) (D : va_G) (cA : Nat → ClassId) (r : Nat → Nat) {h : Hp} {σ : WS} (R : RW 1 σ h) (J : Inv σ) {s b d : Nat} {st : Nat → Nat × Nat} (E : RLg σ s d st h) (O : stOk (sN σ) st) (e0 : h 25 0 = nI s) (e1 : h 25 1 = nI b) (hs : s < 32) (hb : b < 1024) (hd : d + 0 ≤ 5) : Cn l D cA yX3_isMet cX3_isMet 5 (some .boolean) 0 0 0 [.ref (r 25), .ref (r 1), .int (nI d), .int (nI (d + 0))] (LY r) h (pG (some (.int (bI (mtz σ (sKn σ) s b 0 st)))) (LY r) (fun h' => ∀ a, ¬ (27 + d < a ∧ a ≤ 32) → ¬ (34 + d < a ∧ a ≤ 39) → h' a = h a)) := by
  refine Cn.of (lv := [some (.ref (r 25)), some (.ref (r 1)), some (.int (nI d)), some (.int (nI (d + 0))), none]) (by decide +kernel) (Nat.le_of_ble_eq_true rfl) rfl (fun X hnm C CR => ?_)
  refine R_il2 (n := 1) C dX3_isMet_0 rfl ?_
  refine R_il3 (n := 2) C dX3_isMet_1 rfl ?_
  refine R_icmp_geN (tgt := 10) C dX3_isMet_2 rfl rfl (by omega) (by omega) (fun c1 => ?_) (fun c1 => ?_)
  · refine R_ic (n := 11) C dX3_isMet_10 ci_1 rfl ?_
    refine R_zret1 C CR (Nat.zero_le _) (Nat.zero_le _) dX3_isMet_11 ?_
    exact ⟨rfl, rfl, fun a _ _ => rfl⟩
  · omega
set_option maxRecDepth 20000 in
set_option maxHeartbeats 4000000 in
theorem c_isMet_1 (l : Launch) (D : va_G) (cA : Nat → ClassId) (r : Nat → Nat) {h : Hp} {σ : WS} (R : RW 1 σ h) (J : Inv σ) {s b d : Nat} {st : Nat → Nat × Nat} (E : RLg σ s d st h) (O : stOk (sN σ) st) (e0 : h 25 0 = nI s) (e1 : h 25 1 = nI b) (hs : s < 32) (hb : b < 1024) (hd : d + 1 ≤ 5) : Cn l D cA yX3_isMet cX3_isMet 5 (some .boolean) 2 0 0 [.ref (r 25), .ref (r 1), .int (nI d), .int (nI (d + 1))] (LY r) h (pG (some (.int (bI (mtz σ (sKn σ) s b 1 st)))) (LY r) (fun h' => ∀ a, ¬ (27 + d < a ∧ a ≤ 32) → ¬ (34 + d < a ∧ a ≤ 39) → h' a = h a)) := by
  refine Cn.of (lv := [some (.ref (r 25)), some (.ref (r 1)), some (.int (nI d)), some (.int (nI (d + 1))), none]) (by decide +kernel) (Nat.le_of_ble_eq_true rfl) rfl (fun X hnm C CR => ?_)
  have loop : ∀ (m j : Nat) (hh : Hp), 6 < j + m → j ≤ 6 → (∀ w, w < j → (!((sKn σ).testBit w && (lkz σ s b true w st && mtz σ (sKn σ) s b 0 (hrS σ w st)))) = true) → (∀ a, ¬ (27 + d < a ∧ a ≤ 32) → ¬ (34 + d < a ∧ a ≤ 39) → hh a = h a) → Rn X 0 0 15 [some (.ref (r 25)), some (.ref (r 1)), some (.int (nI d)), some (.int (nI (d + 1))), some (.int (nI j))] [] (LY r) hh := by
    intro m
    induction m with
    | zero => intro j hh a1 a2; omega
    | succ m ih =>
      intro j hh a1 a2 P F
      have R1 : RW 1 σ hh := RWf (fun a h1 h2 => F a (by omega) (by omega)) R
      have g0 : hh 25 0 = nI s := by rw [F 25 (by omega) (by omega)]; exact e0
      have g1 : hh 25 1 = nI b := by rw [F 25 (by omega) (by omega)]; exact e1
      have E1 : RLg σ s d st hh := fun k hk hb => by
        rw [F (27 + d) (by omega) (by omega), F (34 + d) (by omega) (by omega)]
        exact E k hk hb
      have nx : ∀ (h2 : Hp), (∀ a, ¬ (27 + d < a ∧ a ≤ 32) → ¬ (34 + d < a ∧ a ≤ 39) → h2 a = h a) → (!((sKn σ).testBit j && (lkz σ s b true j st && mtz σ (sKn σ) s b 0 (hrS σ j st)))) = true → j < 6 → Rn X 0 0 68 [some (.ref (r 25)), some (.ref (r 1)), some (.int (nI d)), some (.int (nI (d + 1))), some (.int (nI j))] [] (LY r) h2 := by
        intro h2 F2 q j6
        refine R_inc4 (n := 71) C dX3_isMet_68 rfl (Nat.le_of_ble_eq_true rfl) (inc_1 _) rfl ?_
        refine R_goto (n := 15) C dX3_isMet_71 rfl ?_
        refine ih (j + 1) h2 (by omega) (by omega) (fun w hw => ?_) F2
        by_cases e : w = j
        · rw [e]; exact q
        · exact P w (by omega)
      refine R_il4 (n := 17) C dX3_isMet_15 rfl ?_
      refine R_bp (n := 19) C dX3_isMet_17 cb_6 rfl ?_
      refine R_icmp_geN (tgt := 74) C dX3_isMet_19 rfl rfl (by omega) (by omega) (fun d1 => ?_) (fun d1 => ?_)
      · obtain rfl : j = 6 := by omega
        have z : mtz σ (sKn σ) s b 1 st = false := by
          exact congrArg not (alb_t (n := 6) P)
        refine R_ic (n := 75) C dX3_isMet_74 ci_0 rfl ?_
        refine R_zret0 C CR (Nat.zero_le _) (Nat.zero_le _) dX3_isMet_75 ?_
        exact ⟨by rw [z], rfl, F⟩
      · replace nx := fun h2 f q => nx h2 f q d1
        refine R_al1 (n := 23) C dX3_isMet_22 rfl ?_
        refine R_il4 (n := 25) C dX3_isMet_23 rfl ?_
        refine M_callV (n := 28) C (c_knows _ _ _ r R1 J _) mw_X9_knows ml_X3_51 iv_X9_knows dX3_isMet_25 rfl rfl rfl rfl (Nat.le_of_ble_eq_true rfl) ⟨Nat.le_of_ble_eq_true rfl, Nat.le_of_ble_eq_true rfl⟩ ⟨Nat.le_refl _, Nat.le_refl _⟩ rfl (pEs ?_)
        rw [kwz_n d1]
        refine R_if_eqB (tgt := 68) C dX3_isMet_28 rfl rfl (fun d2 => ?_) (fun d2 => ?_)
        · exact nx hh F (by rw [d2, Bool.false_and]; rfl)
        · refine R_al0 (n := 32) C dX3_isMet_31 rfl ?_
          refine R_al1 (n := 33) C dX3_isMet_32 rfl ?_
          refine R_il4 (n := 35) C dX3_isMet_33 rfl ?_
          refine R_il2 (n := 36) C dX3_isMet_35 rfl ?_
          refine R_il2 (n := 37) C dX3_isMet_36 rfl ?_
          refine R_ic (n := 38) C dX3_isMet_37 ci_1 rfl ?_
          refine R_iaddN (n := 39) C dX3_isMet_38 rfl ?_
          refine R_il3 (n := 40) C dX3_isMet_39 rfl ?_
          refine R_icmp_neN (tgt := 47) C dX3_isMet_40 rfl rfl (by omega) (by omega) (fun d3 => ?_) (fun d3 => ?_)
          · omega
          · refine R_ic (n := 44) C dX3_isMet_43 ci_1 rfl ?_
            refine R_goto (n := 48) C dX3_isMet_44 rfl ?_
            refine R_eq (y := bI true) rfl ?_
            refine M_callV (n := 51) C (c_lhear _ _ _ r R1 J true E1 O g0 g1 hs hb d1 (by omega)) mw_X3_hear ml_X3_55 iv_X3_hear dX3_isMet_48 rfl rfl rfl rfl (Nat.le_of_ble_eq_true rfl) ⟨Nat.le_of_ble_eq_true rfl, Nat.le_of_ble_eq_true rfl⟩ ⟨Nat.le_refl _, Nat.le_refl _⟩ rfl (pGs (fun h2 q2 => ?_))
            have F2 : ∀ a, ¬ (27 + d < a ∧ a ≤ 32) → ¬ (34 + d < a ∧ a ≤ 39) → h2 a = h a := fun a a1 a2 => by rw [q2.2 a (by omega) (by omega), F a a1 a2]
            refine R_if_eqB (tgt := 68) C dX3_isMet_51 rfl rfl (fun d4 => ?_) (fun d4 => ?_)
            · exact nx h2 F2 (by rw [d4, Bool.false_and, Bool.and_false]; rfl)
            · have R2 : RW 1 σ h2 := RWf (fun a h1 h2 => F2 a (by omega) (by omega)) R
              have k0 : h2 25 0 = nI s := by rw [F2 25 (by omega) (by omega)]; exact e0
              have k1 : h2 25 1 = nI b := by rw [F2 25 (by omega) (by omega)]; exact e1
              refine R_al0 (n := 55) C dX3_isMet_54 rfl ?_
              refine R_al1 (n := 56) C dX3_isMet_55 rfl ?_
              refine R_il2 (n := 57) C dX3_isMet_56 rfl ?_
              refine R_ic (n := 58) C dX3_isMet_57 ci_1 rfl ?_
              refine R_iaddN (n := 59) C dX3_isMet_58 rfl ?_
              refine R_il3 (n := 60) C dX3_isMet_59 rfl ?_
              refine R_callS (n := 63) C (c_isMet_0 _ _ _ r (d := d + 1) R2 J (q2.1 d4) (hrS_ok O) k0 k1 hs hb (by omega)) mw_X3_isMet ml_X3_47 sv_X3_isMet dX3_isMet_60 rfl rfl (Nat.le_of_ble_eq_true rfl) ⟨Nat.le_of_ble_eq_true rfl, Nat.le_of_ble_eq_true rfl⟩ ⟨Nat.le_refl _, Nat.le_refl _⟩ rfl (pGs (fun h3 q3 => ?_))
              have F3 : ∀ a, ¬ (27 + d < a ∧ a ≤ 32) → ¬ (34 + d < a ∧ a ≤ 39) → h3 a = h a := fun a a1 a2 => by rw [q3 a (by omega) (by omega), F2 a a1 a2]
              refine R_if_eqB (tgt := 68) C dX3_isMet_63 rfl rfl (fun d5 => ?_) (fun d5 => ?_)
              · exact nx h3 F3 (by rw [d5, Bool.and_false, Bool.and_false]; rfl)
              · have z : mtz σ (sKn σ) s b 1 st = true := by
                  show (!alb _ 6) = true
                  rw [alb_f d1 (by show (!((sKn σ).testBit j && (lkz σ s b true j st && mtz σ (sKn σ) s b 0 (hrS σ j st)))) = false; rw [d2, d4, d5]; rfl)]
                  rfl
                refine R_ic (n := 67) C dX3_isMet_66 ci_1 rfl ?_
                refine R_zret1 C CR (Nat.zero_le _) (Nat.zero_le _) dX3_isMet_67 ?_
                exact ⟨by rw [z], rfl, F3⟩
  refine R_il2 (n := 1) C dX3_isMet_0 rfl ?_
  refine R_il3 (n := 2) C dX3_isMet_1 rfl ?_
  refine R_icmp_geN (tgt := 10) C dX3_isMet_2 rfl rfl (by omega) (by omega) (fun c1 => ?_) (fun c1 => ?_)
  · omega
  · refine R_il2 (n := 6) C dX3_isMet_5 rfl ?_
    refine R_ic (n := 7) C dX3_isMet_6 ci_5 rfl ?_
    refine R_icmp_ltN (tgt := 12) C dX3_isMet_7 rfl rfl (by omega) (by omega) (fun c2 => ?_) (fun c2 => ?_)
    · refine R_ic (n := 13) C dX3_isMet_12 ci_0 rfl ?_
      refine R_is4 (n := 15) C dX3_isMet_13 rfl (Nat.le_of_ble_eq_true rfl) rfl ?_
      exact loop 7 0 h (by omega) (by omega) (fun w hw => absurd hw (Nat.not_lt_zero w)) (fun a _ _ => rfl)
    · omega
set_option maxRecDepth 20000 in
set_option maxHeartbeats 4000000 in
theorem c_isMet_2 (l : Launch) (D : va_G) (cA : Nat → ClassId) (r : Nat → Nat) {h : Hp} {σ : WS} (R : RW 1 σ h) (J : Inv σ) {s b d : Nat} {st : Nat → Nat × Nat} (E : RLg σ s d st h) (O : stOk (sN σ) st) (e0 : h 25 0 = nI s) (e1 : h 25 1 = nI b) (hs : s < 32) (hb : b < 1024) (hd : d + 2 ≤ 5) : Cn l D cA yX3_isMet cX3_isMet 5 (some .boolean) 3 0 0 [.ref (r 25), .ref (r 1), .int (nI d), .int (nI (d + 2))] (LY r) h (pG (some (.int (bI (mtz σ (sKn σ) s b 2 st)))) (LY r) (fun h' => ∀ a, ¬ (27 + d < a ∧ a ≤ 32) → ¬ (34 + d < a ∧ a ≤ 39) → h' a = h a)) := by
  refine Cn.of (lv := [some (.ref (r 25)), some (.ref (r 1)), some (.int (nI d)), some (.int (nI (d + 2))), none]) (by decide +kernel) (Nat.le_of_ble_eq_true rfl) rfl (fun X hnm C CR => ?_)
  have loop : ∀ (m j : Nat) (hh : Hp), 6 < j + m → j ≤ 6 → (∀ w, w < j → (!((sKn σ).testBit w && (lkz σ s b false w st && mtz σ (sKn σ) s b 1 (hrS σ w st)))) = true) → (∀ a, ¬ (27 + d < a ∧ a ≤ 32) → ¬ (34 + d < a ∧ a ≤ 39) → hh a = h a) → Rn X 0 0 15 [some (.ref (r 25)), some (.ref (r 1)), some (.int (nI d)), some (.int (nI (d + 2))), some (.int (nI j))] [] (LY r) hh := by
    intro m
    induction m with
    | zero => intro j hh a1 a2; omega
    | succ m ih =>
      intro j hh a1 a2 P F
      have R1 : RW 1 σ hh := RWf (fun a h1 h2 => F a (by omega) (by omega)) R
      have g0 : hh 25 0 = nI s := by rw [F 25 (by omega) (by omega)]; exact e0
      have g1 : hh 25 1 = nI b := by rw [F 25 (by omega) (by omega)]; exact e1
      have E1 : RLg σ s d st hh := fun k hk hb => by
        rw [F (27 + d) (by omega) (by omega), F (34 + d) (by omega) (by omega)]
        exact E k hk hb
      have nx : ∀ (h2 : Hp), (∀ a, ¬ (27 + d < a ∧ a ≤ 32) → ¬ (34 + d < a ∧ a ≤ 39) → h2 a = h a) → (!((sKn σ).testBit j && (lkz σ s b false j st && mtz σ (sKn σ) s b 1 (hrS σ j st)))) = true → j < 6 → Rn X 0 0 68 [some (.ref (r 25)), some (.ref (r 1)), some (.int (nI d)), some (.int (nI (d + 2))), some (.int (nI j))] [] (LY r) h2 := by
        intro h2 F2 q j6
        refine R_inc4 (n := 71) C dX3_isMet_68 rfl (Nat.le_of_ble_eq_true rfl) (inc_1 _) rfl ?_
        refine R_goto (n := 15) C dX3_isMet_71 rfl ?_
        refine ih (j + 1) h2 (by omega) (by omega) (fun w hw => ?_) F2
        by_cases e : w = j
        · rw [e]; exact q
        · exact P w (by omega)
      refine R_il4 (n := 17) C dX3_isMet_15 rfl ?_
      refine R_bp (n := 19) C dX3_isMet_17 cb_6 rfl ?_
      refine R_icmp_geN (tgt := 74) C dX3_isMet_19 rfl rfl (by omega) (by omega) (fun d1 => ?_) (fun d1 => ?_)
      · obtain rfl : j = 6 := by omega
        have z : mtz σ (sKn σ) s b 2 st = false := by
          exact congrArg not (alb_t (n := 6) P)
        refine R_ic (n := 75) C dX3_isMet_74 ci_0 rfl ?_
        refine R_zret0 C CR (Nat.zero_le _) (Nat.zero_le _) dX3_isMet_75 ?_
        exact ⟨by rw [z], rfl, F⟩
      · replace nx := fun h2 f q => nx h2 f q d1
        refine R_al1 (n := 23) C dX3_isMet_22 rfl ?_
        refine R_il4 (n := 25) C dX3_isMet_23 rfl ?_
        refine M_callV (n := 28) C (c_knows _ _ _ r R1 J _) mw_X9_knows ml_X3_51 iv_X9_knows dX3_isMet_25 rfl rfl rfl rfl (Nat.le_of_ble_eq_true rfl) ⟨Nat.le_of_ble_eq_true rfl, Nat.le_of_ble_eq_true rfl⟩ ⟨Nat.le_refl _, Nat.le_refl _⟩ rfl (pEs ?_)
        rw [kwz_n d1]
        refine R_if_eqB (tgt := 68) C dX3_isMet_28 rfl rfl (fun d2 => ?_) (fun d2 => ?_)
        · exact nx hh F (by rw [d2, Bool.false_and]; rfl)
        · refine R_al0 (n := 32) C dX3_isMet_31 rfl ?_
          refine R_al1 (n := 33) C dX3_isMet_32 rfl ?_
          refine R_il4 (n := 35) C dX3_isMet_33 rfl ?_
          refine R_il2 (n := 36) C dX3_isMet_35 rfl ?_
          refine R_il2 (n := 37) C dX3_isMet_36 rfl ?_
          refine R_ic (n := 38) C dX3_isMet_37 ci_1 rfl ?_
          refine R_iaddN (n := 39) C dX3_isMet_38 rfl ?_
          refine R_il3 (n := 40) C dX3_isMet_39 rfl ?_
          refine R_icmp_neN (tgt := 47) C dX3_isMet_40 rfl rfl (by omega) (by omega) (fun d3 => ?_) (fun d3 => ?_)
          · refine R_ic (n := 48) C dX3_isMet_47 ci_0 rfl ?_
            refine R_eq (y := bI false) rfl ?_
            refine M_callV (n := 51) C (c_lhear _ _ _ r R1 J false E1 O g0 g1 hs hb d1 (by omega)) mw_X3_hear ml_X3_55 iv_X3_hear dX3_isMet_48 rfl rfl rfl rfl (Nat.le_of_ble_eq_true rfl) ⟨Nat.le_of_ble_eq_true rfl, Nat.le_of_ble_eq_true rfl⟩ ⟨Nat.le_refl _, Nat.le_refl _⟩ rfl (pGs (fun h2 q2 => ?_))
            have F2 : ∀ a, ¬ (27 + d < a ∧ a ≤ 32) → ¬ (34 + d < a ∧ a ≤ 39) → h2 a = h a := fun a a1 a2 => by rw [q2.2 a (by omega) (by omega), F a a1 a2]
            refine R_if_eqB (tgt := 68) C dX3_isMet_51 rfl rfl (fun d4 => ?_) (fun d4 => ?_)
            · exact nx h2 F2 (by rw [d4, Bool.false_and, Bool.and_false]; rfl)
            · have R2 : RW 1 σ h2 := RWf (fun a h1 h2 => F2 a (by omega) (by omega)) R
              have k0 : h2 25 0 = nI s := by rw [F2 25 (by omega) (by omega)]; exact e0
              have k1 : h2 25 1 = nI b := by rw [F2 25 (by omega) (by omega)]; exact e1
              refine R_al0 (n := 55) C dX3_isMet_54 rfl ?_
              refine R_al1 (n := 56) C dX3_isMet_55 rfl ?_
              refine R_il2 (n := 57) C dX3_isMet_56 rfl ?_
              refine R_ic (n := 58) C dX3_isMet_57 ci_1 rfl ?_
              refine R_iaddN (n := 59) C dX3_isMet_58 rfl ?_
              refine R_il3 (n := 60) C dX3_isMet_59 rfl ?_
              refine R_callS (n := 63) C (c_isMet_1 _ _ _ r (d := d + 1) R2 J (q2.1 d4) (hrS_ok O) k0 k1 hs hb (by omega)) mw_X3_isMet ml_X3_47 sv_X3_isMet dX3_isMet_60 rfl rfl (Nat.le_of_ble_eq_true rfl) ⟨Nat.le_of_ble_eq_true rfl, Nat.le_of_ble_eq_true rfl⟩ ⟨Nat.le_refl _, Nat.le_refl _⟩ rfl (pGs (fun h3 q3 => ?_))
              have F3 : ∀ a, ¬ (27 + d < a ∧ a ≤ 32) → ¬ (34 + d < a ∧ a ≤ 39) → h3 a = h a := fun a a1 a2 => by rw [q3 a (by omega) (by omega), F2 a a1 a2]
              refine R_if_eqB (tgt := 68) C dX3_isMet_63 rfl rfl (fun d5 => ?_) (fun d5 => ?_)
              · exact nx h3 F3 (by rw [d5, Bool.and_false, Bool.and_false]; rfl)
              · have z : mtz σ (sKn σ) s b 2 st = true := by
                  show (!alb _ 6) = true
                  rw [alb_f d1 (by show (!((sKn σ).testBit j && (lkz σ s b false j st && mtz σ (sKn σ) s b 1 (hrS σ j st)))) = false; rw [d2, d4, d5]; rfl)]
                  rfl
                refine R_ic (n := 67) C dX3_isMet_66 ci_1 rfl ?_
                refine R_zret1 C CR (Nat.zero_le _) (Nat.zero_le _) dX3_isMet_67 ?_
                exact ⟨by rw [z], rfl, F3⟩
          · omega
  refine R_il2 (n := 1) C dX3_isMet_0 rfl ?_
  refine R_il3 (n := 2) C dX3_isMet_1 rfl ?_
  refine R_icmp_geN (tgt := 10) C dX3_isMet_2 rfl rfl (by omega) (by omega) (fun c1 => ?_) (fun c1 => ?_)
  · omega
  · refine R_il2 (n := 6) C dX3_isMet_5 rfl ?_
    refine R_ic (n := 7) C dX3_isMet_6 ci_5 rfl ?_
    refine R_icmp_ltN (tgt := 12) C dX3_isMet_7 rfl rfl (by omega) (by omega) (fun c2 => ?_) (fun c2 => ?_)
    · refine R_ic (n := 13) C dX3_isMet_12 ci_0 rfl ?_
      refine R_is4 (n := 15) C dX3_isMet_13 rfl (Nat.le_of_ble_eq_true rfl) rfl ?_
      exact loop 7 0 h (by omega) (by omega) (fun w hw => absurd hw (Nat.not_lt_zero w)) (fun a _ _ => rfl)
    · omega
set_option maxRecDepth 20000 in
set_option maxHeartbeats 4000000 in
theorem c_isMet_3 (l : Launch) (D : va_G) (cA : Nat → ClassId) (r : Nat → Nat) {h : Hp} {σ : WS} (R : RW 1 σ h) (J : Inv σ) {s b d : Nat} {st : Nat → Nat × Nat} (E : RLg σ s d st h) (O : stOk (sN σ) st) (e0 : h 25 0 = nI s) (e1 : h 25 1 = nI b) (hs : s < 32) (hb : b < 1024) (hd : d + 3 ≤ 5) : Cn l D cA yX3_isMet cX3_isMet 5 (some .boolean) 4 0 0 [.ref (r 25), .ref (r 1), .int (nI d), .int (nI (d + 3))] (LY r) h (pG (some (.int (bI (mtz σ (sKn σ) s b 3 st)))) (LY r) (fun h' => ∀ a, ¬ (27 + d < a ∧ a ≤ 32) → ¬ (34 + d < a ∧ a ≤ 39) → h' a = h a)) := by
  refine Cn.of (lv := [some (.ref (r 25)), some (.ref (r 1)), some (.int (nI d)), some (.int (nI (d + 3))), none]) (by decide +kernel) (Nat.le_of_ble_eq_true rfl) rfl (fun X hnm C CR => ?_)
  have loop : ∀ (m j : Nat) (hh : Hp), 6 < j + m → j ≤ 6 → (∀ w, w < j → (!((sKn σ).testBit w && (lkz σ s b false w st && mtz σ (sKn σ) s b 2 (hrS σ w st)))) = true) → (∀ a, ¬ (27 + d < a ∧ a ≤ 32) → ¬ (34 + d < a ∧ a ≤ 39) → hh a = h a) → Rn X 0 0 15 [some (.ref (r 25)), some (.ref (r 1)), some (.int (nI d)), some (.int (nI (d + 3))), some (.int (nI j))] [] (LY r) hh := by
    intro m
    induction m with
    | zero => intro j hh a1 a2; omega
    | succ m ih =>
      intro j hh a1 a2 P F
      have R1 : RW 1 σ hh := RWf (fun a h1 h2 => F a (by omega) (by omega)) R
      have g0 : hh 25 0 = nI s := by rw [F 25 (by omega) (by omega)]; exact e0
      have g1 : hh 25 1 = nI b := by rw [F 25 (by omega) (by omega)]; exact e1
      have E1 : RLg σ s d st hh := fun k hk hb => by
        rw [F (27 + d) (by omega) (by omega), F (34 + d) (by omega) (by omega)]
        exact E k hk hb
      have nx : ∀ (h2 : Hp), (∀ a, ¬ (27 + d < a ∧ a ≤ 32) → ¬ (34 + d < a ∧ a ≤ 39) → h2 a = h a) → (!((sKn σ).testBit j && (lkz σ s b false j st && mtz σ (sKn σ) s b 2 (hrS σ j st)))) = true → j < 6 → Rn X 0 0 68 [some (.ref (r 25)), some (.ref (r 1)), some (.int (nI d)), some (.int (nI (d + 3))), some (.int (nI j))] [] (LY r) h2 := by
        intro h2 F2 q j6
        refine R_inc4 (n := 71) C dX3_isMet_68 rfl (Nat.le_of_ble_eq_true rfl) (inc_1 _) rfl ?_
        refine R_goto (n := 15) C dX3_isMet_71 rfl ?_
        refine ih (j + 1) h2 (by omega) (by omega) (fun w hw => ?_) F2
        by_cases e : w = j
        · rw [e]; exact q
        · exact P w (by omega)
      refine R_il4 (n := 17) C dX3_isMet_15 rfl ?_
      refine R_bp (n := 19) C dX3_isMet_17 cb_6 rfl ?_
      refine R_icmp_geN (tgt := 74) C dX3_isMet_19 rfl rfl (by omega) (by omega) (fun d1 => ?_) (fun d1 => ?_)
      · obtain rfl : j = 6 := by omega
        have z : mtz σ (sKn σ) s b 3 st = false := by
          exact congrArg not (alb_t (n := 6) P)
        refine R_ic (n := 75) C dX3_isMet_74 ci_0 rfl ?_
        refine R_zret0 C CR (Nat.zero_le _) (Nat.zero_le _) dX3_isMet_75 ?_
        exact ⟨by rw [z], rfl, F⟩
      · replace nx := fun h2 f q => nx h2 f q d1
        refine R_al1 (n := 23) C dX3_isMet_22 rfl ?_
        refine R_il4 (n := 25) C dX3_isMet_23 rfl ?_
        refine M_callV (n := 28) C (c_knows _ _ _ r R1 J _) mw_X9_knows ml_X3_51 iv_X9_knows dX3_isMet_25 rfl rfl rfl rfl (Nat.le_of_ble_eq_true rfl) ⟨Nat.le_of_ble_eq_true rfl, Nat.le_of_ble_eq_true rfl⟩ ⟨Nat.le_refl _, Nat.le_refl _⟩ rfl (pEs ?_)
        rw [kwz_n d1]
        refine R_if_eqB (tgt := 68) C dX3_isMet_28 rfl rfl (fun d2 => ?_) (fun d2 => ?_)
        · exact nx hh F (by rw [d2, Bool.false_and]; rfl)
        · refine R_al0 (n := 32) C dX3_isMet_31 rfl ?_
          refine R_al1 (n := 33) C dX3_isMet_32 rfl ?_
          refine R_il4 (n := 35) C dX3_isMet_33 rfl ?_
          refine R_il2 (n := 36) C dX3_isMet_35 rfl ?_
          refine R_il2 (n := 37) C dX3_isMet_36 rfl ?_
          refine R_ic (n := 38) C dX3_isMet_37 ci_1 rfl ?_
          refine R_iaddN (n := 39) C dX3_isMet_38 rfl ?_
          refine R_il3 (n := 40) C dX3_isMet_39 rfl ?_
          refine R_icmp_neN (tgt := 47) C dX3_isMet_40 rfl rfl (by omega) (by omega) (fun d3 => ?_) (fun d3 => ?_)
          · refine R_ic (n := 48) C dX3_isMet_47 ci_0 rfl ?_
            refine R_eq (y := bI false) rfl ?_
            refine M_callV (n := 51) C (c_lhear _ _ _ r R1 J false E1 O g0 g1 hs hb d1 (by omega)) mw_X3_hear ml_X3_55 iv_X3_hear dX3_isMet_48 rfl rfl rfl rfl (Nat.le_of_ble_eq_true rfl) ⟨Nat.le_of_ble_eq_true rfl, Nat.le_of_ble_eq_true rfl⟩ ⟨Nat.le_refl _, Nat.le_refl _⟩ rfl (pGs (fun h2 q2 => ?_))
            have F2 : ∀ a, ¬ (27 + d < a ∧ a ≤ 32) → ¬ (34 + d < a ∧ a ≤ 39) → h2 a = h a := fun a a1 a2 => by rw [q2.2 a (by omega) (by omega), F a a1 a2]
            refine R_if_eqB (tgt := 68) C dX3_isMet_51 rfl rfl (fun d4 => ?_) (fun d4 => ?_)
            · exact nx h2 F2 (by rw [d4, Bool.false_and, Bool.and_false]; rfl)
            · have R2 : RW 1 σ h2 := RWf (fun a h1 h2 => F2 a (by omega) (by omega)) R
              have k0 : h2 25 0 = nI s := by rw [F2 25 (by omega) (by omega)]; exact e0
              have k1 : h2 25 1 = nI b := by rw [F2 25 (by omega) (by omega)]; exact e1
              refine R_al0 (n := 55) C dX3_isMet_54 rfl ?_
              refine R_al1 (n := 56) C dX3_isMet_55 rfl ?_
              refine R_il2 (n := 57) C dX3_isMet_56 rfl ?_
              refine R_ic (n := 58) C dX3_isMet_57 ci_1 rfl ?_
              refine R_iaddN (n := 59) C dX3_isMet_58 rfl ?_
              refine R_il3 (n := 60) C dX3_isMet_59 rfl ?_
              refine R_callS (n := 63) C (c_isMet_2 _ _ _ r (d := d + 1) R2 J (q2.1 d4) (hrS_ok O) k0 k1 hs hb (by omega)) mw_X3_isMet ml_X3_47 sv_X3_isMet dX3_isMet_60 rfl rfl (Nat.le_of_ble_eq_true rfl) ⟨Nat.le_of_ble_eq_true rfl, Nat.le_of_ble_eq_true rfl⟩ ⟨Nat.le_refl _, Nat.le_refl _⟩ rfl (pGs (fun h3 q3 => ?_))
              have F3 : ∀ a, ¬ (27 + d < a ∧ a ≤ 32) → ¬ (34 + d < a ∧ a ≤ 39) → h3 a = h a := fun a a1 a2 => by rw [q3 a (by omega) (by omega), F2 a a1 a2]
              refine R_if_eqB (tgt := 68) C dX3_isMet_63 rfl rfl (fun d5 => ?_) (fun d5 => ?_)
              · exact nx h3 F3 (by rw [d5, Bool.and_false, Bool.and_false]; rfl)
              · have z : mtz σ (sKn σ) s b 3 st = true := by
                  show (!alb _ 6) = true
                  rw [alb_f d1 (by show (!((sKn σ).testBit j && (lkz σ s b false j st && mtz σ (sKn σ) s b 2 (hrS σ j st)))) = false; rw [d2, d4, d5]; rfl)]
                  rfl
                refine R_ic (n := 67) C dX3_isMet_66 ci_1 rfl ?_
                refine R_zret1 C CR (Nat.zero_le _) (Nat.zero_le _) dX3_isMet_67 ?_
                exact ⟨by rw [z], rfl, F3⟩
          · omega
  refine R_il2 (n := 1) C dX3_isMet_0 rfl ?_
  refine R_il3 (n := 2) C dX3_isMet_1 rfl ?_
  refine R_icmp_geN (tgt := 10) C dX3_isMet_2 rfl rfl (by omega) (by omega) (fun c1 => ?_) (fun c1 => ?_)
  · omega
  · refine R_il2 (n := 6) C dX3_isMet_5 rfl ?_
    refine R_ic (n := 7) C dX3_isMet_6 ci_5 rfl ?_
    refine R_icmp_ltN (tgt := 12) C dX3_isMet_7 rfl rfl (by omega) (by omega) (fun c2 => ?_) (fun c2 => ?_)
    · refine R_ic (n := 13) C dX3_isMet_12 ci_0 rfl ?_
      refine R_is4 (n := 15) C dX3_isMet_13 rfl (Nat.le_of_ble_eq_true rfl) rfl ?_
      exact loop 7 0 h (by omega) (by omega) (fun w hw => absurd hw (Nat.not_lt_zero w)) (fun a _ _ => rfl)
    · omega
set_option maxRecDepth 20000 in
set_option maxHeartbeats 4000000 in
theorem c_isMet_4 (l : Launch) (D : va_G) (cA : Nat → ClassId) (r : Nat → Nat) {h : Hp} {σ : WS} (R : RW 1 σ h) (J : Inv σ) {s b d : Nat} {st : Nat → Nat × Nat} (E : RLg σ s d st h) (O : stOk (sN σ) st) (e0 : h 25 0 = nI s) (e1 : h 25 1 = nI b) (hs : s < 32) (hb : b < 1024) (hd : d + 4 ≤ 5) : Cn l D cA yX3_isMet cX3_isMet 5 (some .boolean) 5 0 0 [.ref (r 25), .ref (r 1), .int (nI d), .int (nI (d + 4))] (LY r) h (pG (some (.int (bI (mtz σ (sKn σ) s b 4 st)))) (LY r) (fun h' => ∀ a, ¬ (27 + d < a ∧ a ≤ 32) → ¬ (34 + d < a ∧ a ≤ 39) → h' a = h a)) := by
  refine Cn.of (lv := [some (.ref (r 25)), some (.ref (r 1)), some (.int (nI d)), some (.int (nI (d + 4))), none]) (by decide +kernel) (Nat.le_of_ble_eq_true rfl) rfl (fun X hnm C CR => ?_)
  have loop : ∀ (m j : Nat) (hh : Hp), 6 < j + m → j ≤ 6 → (∀ w, w < j → (!((sKn σ).testBit w && (lkz σ s b false w st && mtz σ (sKn σ) s b 3 (hrS σ w st)))) = true) → (∀ a, ¬ (27 + d < a ∧ a ≤ 32) → ¬ (34 + d < a ∧ a ≤ 39) → hh a = h a) → Rn X 0 0 15 [some (.ref (r 25)), some (.ref (r 1)), some (.int (nI d)), some (.int (nI (d + 4))), some (.int (nI j))] [] (LY r) hh := by
    intro m
    induction m with
    | zero => intro j hh a1 a2; omega
    | succ m ih =>
      intro j hh a1 a2 P F
      have R1 : RW 1 σ hh := RWf (fun a h1 h2 => F a (by omega) (by omega)) R
      have g0 : hh 25 0 = nI s := by rw [F 25 (by omega) (by omega)]; exact e0
      have g1 : hh 25 1 = nI b := by rw [F 25 (by omega) (by omega)]; exact e1
      have E1 : RLg σ s d st hh := fun k hk hb => by
        rw [F (27 + d) (by omega) (by omega), F (34 + d) (by omega) (by omega)]
        exact E k hk hb
      have nx : ∀ (h2 : Hp), (∀ a, ¬ (27 + d < a ∧ a ≤ 32) → ¬ (34 + d < a ∧ a ≤ 39) → h2 a = h a) → (!((sKn σ).testBit j && (lkz σ s b false j st && mtz σ (sKn σ) s b 3 (hrS σ j st)))) = true → j < 6 → Rn X 0 0 68 [some (.ref (r 25)), some (.ref (r 1)), some (.int (nI d)), some (.int (nI (d + 4))), some (.int (nI j))] [] (LY r) h2 := by
        intro h2 F2 q j6
        refine R_inc4 (n := 71) C dX3_isMet_68 rfl (Nat.le_of_ble_eq_true rfl) (inc_1 _) rfl ?_
        refine R_goto (n := 15) C dX3_isMet_71 rfl ?_
        refine ih (j + 1) h2 (by omega) (by omega) (fun w hw => ?_) F2
        by_cases e : w = j
        · rw [e]; exact q
        · exact P w (by omega)
      refine R_il4 (n := 17) C dX3_isMet_15 rfl ?_
      refine R_bp (n := 19) C dX3_isMet_17 cb_6 rfl ?_
      refine R_icmp_geN (tgt := 74) C dX3_isMet_19 rfl rfl (by omega) (by omega) (fun d1 => ?_) (fun d1 => ?_)
      · obtain rfl : j = 6 := by omega
        have z : mtz σ (sKn σ) s b 4 st = false := by
          exact congrArg not (alb_t (n := 6) P)
        refine R_ic (n := 75) C dX3_isMet_74 ci_0 rfl ?_
        refine R_zret0 C CR (Nat.zero_le _) (Nat.zero_le _) dX3_isMet_75 ?_
        exact ⟨by rw [z], rfl, F⟩
      · replace nx := fun h2 f q => nx h2 f q d1
        refine R_al1 (n := 23) C dX3_isMet_22 rfl ?_
        refine R_il4 (n := 25) C dX3_isMet_23 rfl ?_
        refine M_callV (n := 28) C (c_knows _ _ _ r R1 J _) mw_X9_knows ml_X3_51 iv_X9_knows dX3_isMet_25 rfl rfl rfl rfl (Nat.le_of_ble_eq_true rfl) ⟨Nat.le_of_ble_eq_true rfl, Nat.le_of_ble_eq_true rfl⟩ ⟨Nat.le_refl _, Nat.le_refl _⟩ rfl (pEs ?_)
        rw [kwz_n d1]
        refine R_if_eqB (tgt := 68) C dX3_isMet_28 rfl rfl (fun d2 => ?_) (fun d2 => ?_)
        · exact nx hh F (by rw [d2, Bool.false_and]; rfl)
        · refine R_al0 (n := 32) C dX3_isMet_31 rfl ?_
          refine R_al1 (n := 33) C dX3_isMet_32 rfl ?_
          refine R_il4 (n := 35) C dX3_isMet_33 rfl ?_
          refine R_il2 (n := 36) C dX3_isMet_35 rfl ?_
          refine R_il2 (n := 37) C dX3_isMet_36 rfl ?_
          refine R_ic (n := 38) C dX3_isMet_37 ci_1 rfl ?_
          refine R_iaddN (n := 39) C dX3_isMet_38 rfl ?_
          refine R_il3 (n := 40) C dX3_isMet_39 rfl ?_
          refine R_icmp_neN (tgt := 47) C dX3_isMet_40 rfl rfl (by omega) (by omega) (fun d3 => ?_) (fun d3 => ?_)
          · refine R_ic (n := 48) C dX3_isMet_47 ci_0 rfl ?_
            refine R_eq (y := bI false) rfl ?_
            refine M_callV (n := 51) C (c_lhear _ _ _ r R1 J false E1 O g0 g1 hs hb d1 (by omega)) mw_X3_hear ml_X3_55 iv_X3_hear dX3_isMet_48 rfl rfl rfl rfl (Nat.le_of_ble_eq_true rfl) ⟨Nat.le_of_ble_eq_true rfl, Nat.le_of_ble_eq_true rfl⟩ ⟨Nat.le_refl _, Nat.le_refl _⟩ rfl (pGs (fun h2 q2 => ?_))
            have F2 : ∀ a, ¬ (27 + d < a ∧ a ≤ 32) → ¬ (34 + d < a ∧ a ≤ 39) → h2 a = h a := fun a a1 a2 => by rw [q2.2 a (by omega) (by omega), F a a1 a2]
            refine R_if_eqB (tgt := 68) C dX3_isMet_51 rfl rfl (fun d4 => ?_) (fun d4 => ?_)
            · exact nx h2 F2 (by rw [d4, Bool.false_and, Bool.and_false]; rfl)
            · have R2 : RW 1 σ h2 := RWf (fun a h1 h2 => F2 a (by omega) (by omega)) R
              have k0 : h2 25 0 = nI s := by rw [F2 25 (by omega) (by omega)]; exact e0
              have k1 : h2 25 1 = nI b := by rw [F2 25 (by omega) (by omega)]; exact e1
              refine R_al0 (n := 55) C dX3_isMet_54 rfl ?_
              refine R_al1 (n := 56) C dX3_isMet_55 rfl ?_
              refine R_il2 (n := 57) C dX3_isMet_56 rfl ?_
              refine R_ic (n := 58) C dX3_isMet_57 ci_1 rfl ?_
              refine R_iaddN (n := 59) C dX3_isMet_58 rfl ?_
              refine R_il3 (n := 60) C dX3_isMet_59 rfl ?_
              refine R_callS (n := 63) C (c_isMet_3 _ _ _ r (d := d + 1) R2 J (q2.1 d4) (hrS_ok O) k0 k1 hs hb (by omega)) mw_X3_isMet ml_X3_47 sv_X3_isMet dX3_isMet_60 rfl rfl (Nat.le_of_ble_eq_true rfl) ⟨Nat.le_of_ble_eq_true rfl, Nat.le_of_ble_eq_true rfl⟩ ⟨Nat.le_refl _, Nat.le_refl _⟩ rfl (pGs (fun h3 q3 => ?_))
              have F3 : ∀ a, ¬ (27 + d < a ∧ a ≤ 32) → ¬ (34 + d < a ∧ a ≤ 39) → h3 a = h a := fun a a1 a2 => by rw [q3 a (by omega) (by omega), F2 a a1 a2]
              refine R_if_eqB (tgt := 68) C dX3_isMet_63 rfl rfl (fun d5 => ?_) (fun d5 => ?_)
              · exact nx h3 F3 (by rw [d5, Bool.and_false, Bool.and_false]; rfl)
              · have z : mtz σ (sKn σ) s b 4 st = true := by
                  show (!alb _ 6) = true
                  rw [alb_f d1 (by show (!((sKn σ).testBit j && (lkz σ s b false j st && mtz σ (sKn σ) s b 3 (hrS σ j st)))) = false; rw [d2, d4, d5]; rfl)]
                  rfl
                refine R_ic (n := 67) C dX3_isMet_66 ci_1 rfl ?_
                refine R_zret1 C CR (Nat.zero_le _) (Nat.zero_le _) dX3_isMet_67 ?_
                exact ⟨by rw [z], rfl, F3⟩
          · omega
  refine R_il2 (n := 1) C dX3_isMet_0 rfl ?_
  refine R_il3 (n := 2) C dX3_isMet_1 rfl ?_
  refine R_icmp_geN (tgt := 10) C dX3_isMet_2 rfl rfl (by omega) (by omega) (fun c1 => ?_) (fun c1 => ?_)
  · omega
  · refine R_il2 (n := 6) C dX3_isMet_5 rfl ?_
    refine R_ic (n := 7) C dX3_isMet_6 ci_5 rfl ?_
    refine R_icmp_ltN (tgt := 12) C dX3_isMet_7 rfl rfl (by omega) (by omega) (fun c2 => ?_) (fun c2 => ?_)
    · refine R_ic (n := 13) C dX3_isMet_12 ci_0 rfl ?_
      refine R_is4 (n := 15) C dX3_isMet_13 rfl (Nat.le_of_ble_eq_true rfl) rfl ?_
      exact loop 7 0 h (by omega) (by omega) (fun w hw => absurd hw (Nat.not_lt_zero w)) (fun a _ _ => rfl)
    · omega
set_option maxRecDepth 20000 in
set_option maxHeartbeats 4000000 in
theorem c_isMet_5 (l : Launch) (D : va_G) (cA : Nat → ClassId) (r : Nat → Nat) {h : Hp} {σ : WS} (R : RW 1 σ h) (J : Inv σ) {s b d : Nat} {st : Nat → Nat × Nat} (E : RLg σ s d st h) (O : stOk (sN σ) st) (e0 : h 25 0 = nI s) (e1 : h 25 1 = nI b) (hs : s < 32) (hb : b < 1024) (hd : d + 5 ≤ 5) : Cn l D cA yX3_isMet cX3_isMet 5 (some .boolean) 6 0 0 [.ref (r 25), .ref (r 1), .int (nI d), .int (nI (d + 5))] (LY r) h (pG (some (.int (bI (mtz σ (sKn σ) s b 5 st)))) (LY r) (fun h' => ∀ a, ¬ (27 + d < a ∧ a ≤ 32) → ¬ (34 + d < a ∧ a ≤ 39) → h' a = h a)) := by
  refine Cn.of (lv := [some (.ref (r 25)), some (.ref (r 1)), some (.int (nI d)), some (.int (nI (d + 5))), none]) (by decide +kernel) (Nat.le_of_ble_eq_true rfl) rfl (fun X hnm C CR => ?_)
  have loop : ∀ (m j : Nat) (hh : Hp), 6 < j + m → j ≤ 6 → (∀ w, w < j → (!((sKn σ).testBit w && (lkz σ s b false w st && mtz σ (sKn σ) s b 4 (hrS σ w st)))) = true) → (∀ a, ¬ (27 + d < a ∧ a ≤ 32) → ¬ (34 + d < a ∧ a ≤ 39) → hh a = h a) → Rn X 0 0 15 [some (.ref (r 25)), some (.ref (r 1)), some (.int (nI d)), some (.int (nI (d + 5))), some (.int (nI j))] [] (LY r) hh := by
    intro m
    induction m with
    | zero => intro j hh a1 a2; omega
    | succ m ih =>
      intro j hh a1 a2 P F
      have R1 : RW 1 σ hh := RWf (fun a h1 h2 => F a (by omega) (by omega)) R
      have g0 : hh 25 0 = nI s := by rw [F 25 (by omega) (by omega)]; exact e0
      have g1 : hh 25 1 = nI b := by rw [F 25 (by omega) (by omega)]; exact e1
      have E1 : RLg σ s d st hh := fun k hk hb => by
        rw [F (27 + d) (by omega) (by omega), F (34 + d) (by omega) (by omega)]
        exact E k hk hb
      have nx : ∀ (h2 : Hp), (∀ a, ¬ (27 + d < a ∧ a ≤ 32) → ¬ (34 + d < a ∧ a ≤ 39) → h2 a = h a) → (!((sKn σ).testBit j && (lkz σ s b false j st && mtz σ (sKn σ) s b 4 (hrS σ j st)))) = true → j < 6 → Rn X 0 0 68 [some (.ref (r 25)), some (.ref (r 1)), some (.int (nI d)), some (.int (nI (d + 5))), some (.int (nI j))] [] (LY r) h2 := by
        intro h2 F2 q j6
        refine R_inc4 (n := 71) C dX3_isMet_68 rfl (Nat.le_of_ble_eq_true rfl) (inc_1 _) rfl ?_
        refine R_goto (n := 15) C dX3_isMet_71 rfl ?_
        refine ih (j + 1) h2 (by omega) (by omega) (fun w hw => ?_) F2
        by_cases e : w = j
        · rw [e]; exact q
        · exact P w (by omega)
      refine R_il4 (n := 17) C dX3_isMet_15 rfl ?_
      refine R_bp (n := 19) C dX3_isMet_17 cb_6 rfl ?_
      refine R_icmp_geN (tgt := 74) C dX3_isMet_19 rfl rfl (by omega) (by omega) (fun d1 => ?_) (fun d1 => ?_)
      · obtain rfl : j = 6 := by omega
        have z : mtz σ (sKn σ) s b 5 st = false := by
          exact congrArg not (alb_t (n := 6) P)
        refine R_ic (n := 75) C dX3_isMet_74 ci_0 rfl ?_
        refine R_zret0 C CR (Nat.zero_le _) (Nat.zero_le _) dX3_isMet_75 ?_
        exact ⟨by rw [z], rfl, F⟩
      · replace nx := fun h2 f q => nx h2 f q d1
        refine R_al1 (n := 23) C dX3_isMet_22 rfl ?_
        refine R_il4 (n := 25) C dX3_isMet_23 rfl ?_
        refine M_callV (n := 28) C (c_knows _ _ _ r R1 J _) mw_X9_knows ml_X3_51 iv_X9_knows dX3_isMet_25 rfl rfl rfl rfl (Nat.le_of_ble_eq_true rfl) ⟨Nat.le_of_ble_eq_true rfl, Nat.le_of_ble_eq_true rfl⟩ ⟨Nat.le_refl _, Nat.le_refl _⟩ rfl (pEs ?_)
        rw [kwz_n d1]
        refine R_if_eqB (tgt := 68) C dX3_isMet_28 rfl rfl (fun d2 => ?_) (fun d2 => ?_)
        · exact nx hh F (by rw [d2, Bool.false_and]; rfl)
        · refine R_al0 (n := 32) C dX3_isMet_31 rfl ?_
          refine R_al1 (n := 33) C dX3_isMet_32 rfl ?_
          refine R_il4 (n := 35) C dX3_isMet_33 rfl ?_
          refine R_il2 (n := 36) C dX3_isMet_35 rfl ?_
          refine R_il2 (n := 37) C dX3_isMet_36 rfl ?_
          refine R_ic (n := 38) C dX3_isMet_37 ci_1 rfl ?_
          refine R_iaddN (n := 39) C dX3_isMet_38 rfl ?_
          refine R_il3 (n := 40) C dX3_isMet_39 rfl ?_
          refine R_icmp_neN (tgt := 47) C dX3_isMet_40 rfl rfl (by omega) (by omega) (fun d3 => ?_) (fun d3 => ?_)
          · refine R_ic (n := 48) C dX3_isMet_47 ci_0 rfl ?_
            refine R_eq (y := bI false) rfl ?_
            refine M_callV (n := 51) C (c_lhear _ _ _ r R1 J false E1 O g0 g1 hs hb d1 (by omega)) mw_X3_hear ml_X3_55 iv_X3_hear dX3_isMet_48 rfl rfl rfl rfl (Nat.le_of_ble_eq_true rfl) ⟨Nat.le_of_ble_eq_true rfl, Nat.le_of_ble_eq_true rfl⟩ ⟨Nat.le_refl _, Nat.le_refl _⟩ rfl (pGs (fun h2 q2 => ?_))
            have F2 : ∀ a, ¬ (27 + d < a ∧ a ≤ 32) → ¬ (34 + d < a ∧ a ≤ 39) → h2 a = h a := fun a a1 a2 => by rw [q2.2 a (by omega) (by omega), F a a1 a2]
            refine R_if_eqB (tgt := 68) C dX3_isMet_51 rfl rfl (fun d4 => ?_) (fun d4 => ?_)
            · exact nx h2 F2 (by rw [d4, Bool.false_and, Bool.and_false]; rfl)
            · have R2 : RW 1 σ h2 := RWf (fun a h1 h2 => F2 a (by omega) (by omega)) R
              have k0 : h2 25 0 = nI s := by rw [F2 25 (by omega) (by omega)]; exact e0
              have k1 : h2 25 1 = nI b := by rw [F2 25 (by omega) (by omega)]; exact e1
              refine R_al0 (n := 55) C dX3_isMet_54 rfl ?_
              refine R_al1 (n := 56) C dX3_isMet_55 rfl ?_
              refine R_il2 (n := 57) C dX3_isMet_56 rfl ?_
              refine R_ic (n := 58) C dX3_isMet_57 ci_1 rfl ?_
              refine R_iaddN (n := 59) C dX3_isMet_58 rfl ?_
              refine R_il3 (n := 60) C dX3_isMet_59 rfl ?_
              refine R_callS (n := 63) C (c_isMet_4 _ _ _ r (d := d + 1) R2 J (q2.1 d4) (hrS_ok O) k0 k1 hs hb (by omega)) mw_X3_isMet ml_X3_47 sv_X3_isMet dX3_isMet_60 rfl rfl (Nat.le_of_ble_eq_true rfl) ⟨Nat.le_of_ble_eq_true rfl, Nat.le_of_ble_eq_true rfl⟩ ⟨Nat.le_refl _, Nat.le_refl _⟩ rfl (pGs (fun h3 q3 => ?_))
              have F3 : ∀ a, ¬ (27 + d < a ∧ a ≤ 32) → ¬ (34 + d < a ∧ a ≤ 39) → h3 a = h a := fun a a1 a2 => by rw [q3 a (by omega) (by omega), F2 a a1 a2]
              refine R_if_eqB (tgt := 68) C dX3_isMet_63 rfl rfl (fun d5 => ?_) (fun d5 => ?_)
              · exact nx h3 F3 (by rw [d5, Bool.and_false, Bool.and_false]; rfl)
              · have z : mtz σ (sKn σ) s b 5 st = true := by
                  show (!alb _ 6) = true
                  rw [alb_f d1 (by show (!((sKn σ).testBit j && (lkz σ s b false j st && mtz σ (sKn σ) s b 4 (hrS σ j st)))) = false; rw [d2, d4, d5]; rfl)]
                  rfl
                refine R_ic (n := 67) C dX3_isMet_66 ci_1 rfl ?_
                refine R_zret1 C CR (Nat.zero_le _) (Nat.zero_le _) dX3_isMet_67 ?_
                exact ⟨by rw [z], rfl, F3⟩
          · omega
  refine R_il2 (n := 1) C dX3_isMet_0 rfl ?_
  refine R_il3 (n := 2) C dX3_isMet_1 rfl ?_
  refine R_icmp_geN (tgt := 10) C dX3_isMet_2 rfl rfl (by omega) (by omega) (fun c1 => ?_) (fun c1 => ?_)
  · omega
  · refine R_il2 (n := 6) C dX3_isMet_5 rfl ?_
    refine R_ic (n := 7) C dX3_isMet_6 ci_5 rfl ?_
    refine R_icmp_ltN (tgt := 12) C dX3_isMet_7 rfl rfl (by omega) (by omega) (fun c2 => ?_) (fun c2 => ?_)
    · refine R_ic (n := 13) C dX3_isMet_12 ci_0 rfl ?_
      refine R_is4 (n := 15) C dX3_isMet_13 rfl (Nat.le_of_ble_eq_true rfl) rfl ?_
      exact loop 7 0 h (by omega) (by omega) (fun w hw => absurd hw (Nat.not_lt_zero w)) (fun a _ _ => rfl)
    · omega
