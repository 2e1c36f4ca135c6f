def st0 (σ : WS) : Nat → Nat × Nat := fun k => (sA σ 0 k, sA σ 1 k)
def abz (σ : WS) (s b : Nat) : Int32 := if soS (sN σ) s (nuz σ) b = true then nI 0 else fwI ([1, 2, 3, 4, 5].find? (fun m => mtz σ (sKn σ) s b m (st0 σ)))
def aAble (G : GS) (s b : Int32) : Int32 := if okA (gS G) s b then abz (gS G) (cl s) (cl b) else -2
def QL (σ : WS) (s b : Nat) (h h1 : Hp) : Prop := h1 25 0 = nI s ∧ h1 25 1 = nI b ∧ (∀ k, k < 5 → h1 27 k = nI (sA σ 0 k)) ∧ (∀ k, k < 5 → h1 34 k = nI (sA σ 1 k)) ∧ ∀ a, a < 25 ∨ 39 < a → h1 a = h a
theorem QL.f {σ : WS} {s b : Nat} {h h1 h2 : Hp} (Q : QL σ s b h h1) (F : ∀ a, ¬ (27 + 0 < a ∧ a ≤ 32) → ¬ (34 + 0 < a ∧ a ≤ 39) → h2 a = h1 a) : QL σ s b h h2 := by
  refine ⟨?_, ?_, fun k hk => ?_, fun k hk => ?_, fun a ha => ?_⟩
  · rw [F 25 (by omega) (by omega)]; exact Q.1
  · rw [F 25 (by omega) (by omega)]; exact Q.2.1
  · rw [F 27 (by omega) (by omega)]; exact Q.2.2.1 k hk
  · rw [F 34 (by omega) (by omega)]; exact Q.2.2.2.1 k hk
  · rw [F a (by omega) (by omega)]; exact Q.2.2.2.2 a ha
theorem QL.rw {σ : WS} {s b : Nat} {h h1 : Hp} (Q : QL σ s b h h1) (R : RW 1 σ h) : RW 1 σ h1 := RWf (fun a _ h2 => Q.2.2.2.2 a (by omega)) R
theorem QL.lg {σ : WS} (J : Inv σ) {s b : Nat} {h h1 : Hp} (Q : QL σ s b h h1) : RLg σ s 0 (st0 σ) h1 := fun k hk _ => by
  have := J.n5
  exact ⟨Q.2.2.1 k (by omega), Q.2.2.2.1 k (by omega)⟩
theorem QL.s {σ : WS} {s b : Nat} {h h1 : Hp} (Q : QL σ s b h h1) : FrS h h1 := fun a ha => Q.2.2.2.2 a (by omega)
theorem st0_ok {σ : WS} (J : Inv σ) : stOk (sN σ) (st0 σ) := fun k hk => by
  have := J.n5
  exact ⟨J.lk (by omega), J.lg (by omega)⟩
set_option maxRecDepth 20000 in
set_option maxHeartbeats 4000000 in
theorem c_lfewest (l : Launch) (D : va_G) (cA : Nat → ClassId) (r : Nat → Nat) {h : Hp} {σ : WS} (R : RW 1 σ h) (J : Inv σ) {s b : Nat} (hs : s < 2 ^ sN σ) (hb : b < 1024) : Cn l D cA yX3_fewestWords cX3_fewestWords 5 (some .int) 7 0 0 [.ref (r 25), .ref (r 1), .int (nI s), .int (nI b)] (LY r) h (pG (some (.int (abz σ s b))) (LY r) (FrS h)) := by
  refine Cn.of (lv := [some (.ref (r 25)), some (.ref (r 1)), some (.int (nI s)), some (.int (nI b)), none]) (by decide +kernel) (Nat.le_of_ble_eq_true rfl) rfl (fun X hnm C CR => ?_)
  have n5 := J.n5
  have s32 : s < 32 := Nat.lt_of_lt_of_le hs (p2_5 n5)
  have nu := nuz_1024 J
  have ml := mskz_lt (s := s)
  have xb : (nuz σ ^^^ b) < 2 ^ 31 := Nat.lt_trans (Nat.xor_lt_two_pow (n := 10) nu hb) (by decide)
  have xm : (nuz σ ^^^ b) &&& mskz s 5 < 2 ^ 31 := Nat.lt_of_le_of_lt Nat.and_le_left xb
  have O := st0_ok J
  unfold abz at CR
  refine R_al0 (n := 1) C dX3_fewestWords_0 rfl ?_
  refine R_il2 (n := 2) C dX3_fewestWords_1 rfl ?_
  refine M_putI (n := 5) C fl_X3_19 dX3_fewestWords_2 rfl rfl rfl rfl rfl ?_
  refine R_al0 (n := 6) C dX3_fewestWords_5 rfl ?_
  refine R_il3 (n := 7) C dX3_fewestWords_6 rfl ?_
  refine M_putI (n := 10) C fl_X3_23 dX3_fewestWords_7 rfl rfl rfl rfl rfl ?_
  refine R_gen (fun h1 => h1 25 0 = nI s ∧ h1 25 1 = nI b ∧ ∀ a, a ≠ 25 → h1 a = h a) ⟨up2_gne (by decide) up2_same, up2_same, fun a ha => by rw [up2_row ha, up2_row ha]⟩ (fun h0 q0 => ?_)
  refine R_al1 (n := 11) C dX3_fewestWords_10 rfl ?_
  refine M_getR (n := 14) C fl_X3_26 dX3_fewestWords_11 rfl rfl rfl ?_
  refine R_ic (n := 15) C dX3_fewestWords_14 ci_0 rfl ?_
  refine R_al0 (n := 16) C dX3_fewestWords_15 rfl ?_
  refine M_getR (n := 19) C fl_X3_11 dX3_fewestWords_16 rfl rfl rfl ?_
  refine R_ic (n := 20) C dX3_fewestWords_19 ci_0 rfl ?_
  refine M_aaldA (n := 21) C dX3_fewestWords_20 rfl rfl rfl ?_
  refine R_ic (n := 22) C dX3_fewestWords_21 ci_0 rfl ?_
  refine R_ic (n := 23) C dX3_fewestWords_22 ci_5 rfl ?_
  refine M_copy (n := 26) C cp_X3_31 dX3_fewestWords_23 rfl rfl (by decide) (by decide) (by decide) (by decide) rfl ?_
  refine R_al1 (n := 27) C dX3_fewestWords_26 rfl ?_
  refine M_getR (n := 30) C fl_X3_37 dX3_fewestWords_27 rfl rfl rfl ?_
  refine R_ic (n := 31) C dX3_fewestWords_30 ci_0 rfl ?_
  refine R_al0 (n := 32) C dX3_fewestWords_31 rfl ?_
  refine M_getR (n := 35) C fl_X3_16 dX3_fewestWords_32 rfl rfl rfl ?_
  refine R_ic (n := 36) C dX3_fewestWords_35 ci_0 rfl ?_
  refine M_aaldA (n := 37) C dX3_fewestWords_36 rfl rfl rfl ?_
  refine R_ic (n := 38) C dX3_fewestWords_37 ci_0 rfl ?_
  refine R_ic (n := 39) C dX3_fewestWords_38 ci_5 rfl ?_
  refine M_copy (n := 42) C cp_X3_31 dX3_fewestWords_39 rfl rfl (by decide) (by decide) (by decide) (by decide) rfl ?_
  have R0 : RW 1 σ h0 := RWf (fun a h1 h2 => q0.2.2 a (by omega)) R
  refine R_gen (QL σ s b h) ⟨?_, ?_, fun k hk => ?_, fun k hk => ?_, fun a ha => ?_⟩ (fun h1 Q => ?_)
  · rw [vup_row (by decide), vup_row (by decide)]; exact q0.1
  · rw [vup_row (by decide), vup_row (by decide)]; exact q0.2.1
  · rw [vup_row (by decide), vup_same, cpy0 hk]; exact wLk R0 hk
  · rw [vup_same, cpy0 hk, vup_row (by decide)]; exact wLg R0 hk
  · rw [vup_row (by omega), vup_row (by omega)]; exact q0.2.2 a (by omega)
  have R1 := Q.rw R
  refine R_al1 (n := 43) C dX3_fewestWords_42 rfl ?_
  refine M_callV (n := 46) C (c_number _ _ _ r R1 J) mw_X9_number ml_X3_39 iv_X9_number dX3_fewestWords_43 rfl rfl rfl rfl (Nat.le_of_ble_eq_true rfl) ⟨Nat.le_of_ble_eq_true rfl, Nat.le_of_ble_eq_true rfl⟩ ⟨Nat.le_refl _, Nat.le_refl _⟩ rfl (pEs ?_)
  refine R_al0 (n := 47) C dX3_fewestWords_46 rfl ?_
  refine M_getI (n := 50) C fl_X3_23 dX3_fewestWords_47 rfl rfl Q.2.1 rfl ?_
  refine R_ixorN (n := 51) C dX3_fewestWords_50 rfl ?_
  refine R_al0 (n := 52) C dX3_fewestWords_51 rfl ?_
  refine M_getI (n := 55) C fl_X3_19 dX3_fewestWords_52 rfl rfl Q.1 rfl ?_
  refine R_callSN (n := 58) C (c_maskOf _ _ _ r (by omega)) mw_X10_maskOf mn_X3_43 sv_X10_maskOf dX3_fewestWords_55 rfl rfl (Nat.le_of_ble_eq_true rfl) ⟨Nat.le_of_ble_eq_true rfl, Nat.le_of_ble_eq_true rfl⟩ ⟨Nat.le_refl _, Nat.le_refl _⟩ rfl (pEs ?_)
  refine R_iandN (n := 59) C dX3_fewestWords_58 rfl ?_
  refine R_if_neN (tgt := 64) C dX3_fewestWords_59 rfl rfl (by omega) (fun c1 => ?_) (fun c1 => ?_)
  · rw [msk_so n5 hs] at c1
    rw [if_neg c1] at CR
    obtain ⟨Z, hZ⟩ : ∃ Z, [1, 2, 3, 4, 5].find? (fun m => mtz σ (sKn σ) s b m (st0 σ)) = Z := ⟨_, rfl⟩
    rw [hZ] at CR
    have s6 : ∀ (hh : Hp), QL σ s b h hh → Z = ([] : List Nat).find? (fun m => mtz σ (sKn σ) s b m (st0 σ)) → Rn X 0 0 67 [some (.ref (r 25)), some (.ref (r 1)), some (.int (nI s)), some (.int (nI b)), some (.int (nI 6))] [] (LY r) hh := by
      intro hh Q1 hz
      refine R_il4 (n := 69) C dX3_fewestWords_67 rfl ?_
      refine R_ic (n := 70) C dX3_fewestWords_69 ci_5 rfl ?_
      refine R_icmp_gtN (tgt := 93) C dX3_fewestWords_70 rfl rfl (by omega) (by omega) (fun d1 => ?_) (fun d1 => ?_)
      · refine R_bp (n := 95) C dX3_fewestWords_93 cb_m6 rfl ?_
        refine R_iret C CR (Nat.zero_le _) (Nat.zero_le _) dX3_fewestWords_95 ?_
        exact ⟨by rw [hz]; rfl, rfl, Q1.s⟩
      · omega
    have s5 : ∀ (hh : Hp), QL σ s b h hh → Z = ([5] : List Nat).find? (fun m => mtz σ (sKn σ) s b m (st0 σ)) → Rn X 0 0 67 [some (.ref (r 25)), some (.ref (r 1)), some (.int (nI s)), some (.int (nI b)), some (.int (nI 5))] [] (LY r) hh := by
      intro hh Q1 hz
      rw [List.find?_cons] at hz
      refine R_il4 (n := 69) C dX3_fewestWords_67 rfl ?_
      refine R_ic (n := 70) C dX3_fewestWords_69 ci_5 rfl ?_
      refine R_icmp_gtN (tgt := 93) C dX3_fewestWords_70 rfl rfl (by omega) (by omega) (fun d1 => ?_) (fun d1 => ?_)
      · omega
      · refine R_al0 (n := 74) C dX3_fewestWords_73 rfl ?_
        refine R_al1 (n := 75) C dX3_fewestWords_74 rfl ?_
        refine R_ic (n := 76) C dX3_fewestWords_75 ci_0 rfl ?_
        refine R_il4 (n := 78) C dX3_fewestWords_76 rfl ?_
        refine R_callS (n := 81) C (c_isMet_5 _ _ _ r (d := 0) (Q1.rw R) J (Q1.lg J) O Q1.1 Q1.2.1 s32 hb (by omega)) mw_X3_isMet ml_X3_47 sv_X3_isMet dX3_fewestWords_78 rfl rfl (Nat.le_of_ble_eq_true rfl) ⟨Nat.le_of_ble_eq_true rfl, Nat.le_of_ble_eq_true rfl⟩ ⟨Nat.le_refl _, Nat.le_refl _⟩ rfl (pGs (fun h2 q2 => ?_))
        have Q2 := Q1.f q2
        refine R_if_eqB (tgt := 87) C dX3_fewestWords_81 rfl rfl (fun d2 => ?_) (fun d2 => ?_)
        · rw [d2] at hz
          refine R_inc4 (n := 90) C dX3_fewestWords_87 rfl (Nat.le_of_ble_eq_true rfl) (inc_1 _) rfl ?_
          refine R_goto (n := 67) C dX3_fewestWords_90 rfl ?_
          exact s6 h2 Q2 hz
        · rw [d2] at hz
          refine R_il4 (n := 86) C dX3_fewestWords_84 rfl ?_
          refine R_iret C CR (Nat.zero_le _) (Nat.zero_le _) dX3_fewestWords_86 ?_
          exact ⟨by rw [hz]; rfl, rfl, Q2.s⟩
    have s4 : ∀ (hh : Hp), QL σ s b h hh → Z = ([4, 5] : List Nat).find? (fun m => mtz σ (sKn σ) s b m (st0 σ)) → Rn X 0 0 67 [some (.ref (r 25)), some (.ref (r 1)), some (.int (nI s)), some (.int (nI b)), some (.int (nI 4))] [] (LY r) hh := by
      intro hh Q1 hz
      rw [List.find?_cons] at hz
      refine R_il4 (n := 69) C dX3_fewestWords_67 rfl ?_
      refine R_ic (n := 70) C dX3_fewestWords_69 ci_5 rfl ?_
      refine R_icmp_gtN (tgt := 93) C dX3_fewestWords_70 rfl rfl (by omega) (by omega) (fun d1 => ?_) (fun d1 => ?_)
      · omega
      · refine R_al0 (n := 74) C dX3_fewestWords_73 rfl ?_
        refine R_al1 (n := 75) C dX3_fewestWords_74 rfl ?_
        refine R_ic (n := 76) C dX3_fewestWords_75 ci_0 rfl ?_
        refine R_il4 (n := 78) C dX3_fewestWords_76 rfl ?_
        refine R_callS (n := 81) C (c_isMet_4 _ _ _ r (d := 0) (Q1.rw R) J (Q1.lg J) O Q1.1 Q1.2.1 s32 hb (by omega)) mw_X3_isMet ml_X3_47 sv_X3_isMet dX3_fewestWords_78 rfl rfl (Nat.le_of_ble_eq_true rfl) ⟨Nat.le_of_ble_eq_true rfl, Nat.le_of_ble_eq_true rfl⟩ ⟨Nat.le_refl _, Nat.le_refl _⟩ rfl (pGs (fun h2 q2 => ?_))
        have Q2 := Q1.f q2
        refine R_if_eqB (tgt := 87) C dX3_fewestWords_81 rfl rfl (fun d2 => ?_) (fun d2 => ?_)
        · rw [d2] at hz
          refine R_inc4 (n := 90) C dX3_fewestWords_87 rfl (Nat.le_of_ble_eq_true rfl) (inc_1 _) rfl ?_
          refine R_goto (n := 67) C dX3_fewestWords_90 rfl ?_
          exact s5 h2 Q2 hz
        · rw [d2] at hz
          refine R_il4 (n := 86) C dX3_fewestWords_84 rfl ?_
          refine R_iret C CR (Nat.zero_le _) (Nat.zero_le _) dX3_fewestWords_86 ?_
          exact ⟨by rw [hz]; rfl, rfl, Q2.s⟩
    have s3 : ∀ (hh : Hp), QL σ s b h hh → Z = ([3, 4, 5] : List Nat).find? (fun m => mtz σ (sKn σ) s b m (st0 σ)) → Rn X 0 0 67 [some (.ref (r 25)), some (.ref (r 1)), some (.int (nI s)), some (.int (nI b)), some (.int (nI 3))] [] (LY r) hh := by
      intro hh Q1 hz
      rw [List.find?_cons] at hz
      refine R_il4 (n := 69) C dX3_fewestWords_67 rfl ?_
      refine R_ic (n := 70) C dX3_fewestWords_69 ci_5 rfl ?_
      refine R_icmp_gtN (tgt := 93) C dX3_fewestWords_70 rfl rfl (by omega) (by omega) (fun d1 => ?_) (fun d1 => ?_)
      · omega
      · refine R_al0 (n := 74) C dX3_fewestWords_73 rfl ?_
        refine R_al1 (n := 75) C dX3_fewestWords_74 rfl ?_
        refine R_ic (n := 76) C dX3_fewestWords_75 ci_0 rfl ?_
        refine R_il4 (n := 78) C dX3_fewestWords_76 rfl ?_
        refine R_callS (n := 81) C (c_isMet_3 _ _ _ r (d := 0) (Q1.rw R) J (Q1.lg J) O Q1.1 Q1.2.1 s32 hb (by omega)) mw_X3_isMet ml_X3_47 sv_X3_isMet dX3_fewestWords_78 rfl rfl (Nat.le_of_ble_eq_true rfl) ⟨Nat.le_of_ble_eq_true rfl, Nat.le_of_ble_eq_true rfl⟩ ⟨Nat.le_refl _, Nat.le_refl _⟩ rfl (pGs (fun h2 q2 => ?_))
        have Q2 := Q1.f q2
        refine R_if_eqB (tgt := 87) C dX3_fewestWords_81 rfl rfl (fun d2 => ?_) (fun d2 => ?_)
        · rw [d2] at hz
          refine R_inc4 (n := 90) C dX3_fewestWords_87 rfl (Nat.le_of_ble_eq_true rfl) (inc_1 _) rfl ?_
          refine R_goto (n := 67) C dX3_fewestWords_90 rfl ?_
          exact s4 h2 Q2 hz
        · rw [d2] at hz
          refine R_il4 (n := 86) C dX3_fewestWords_84 rfl ?_
          refine R_iret C CR (Nat.zero_le _) (Nat.zero_le _) dX3_fewestWords_86 ?_
          exact ⟨by rw [hz]; rfl, rfl, Q2.s⟩
    have s2 : ∀ (hh : Hp), QL σ s b h hh → Z = ([2, 3, 4, 5] : List Nat).find? (fun m => mtz σ (sKn σ) s b m (st0 σ)) → Rn X 0 0 67 [some (.ref (r 25)), some (.ref (r 1)), some (.int (nI s)), some (.int (nI b)), some (.int (nI 2))] [] (LY r) hh := by
      intro hh Q1 hz
      rw [List.find?_cons] at hz
      refine R_il4 (n := 69) C dX3_fewestWords_67 rfl ?_
      refine R_ic (n := 70) C dX3_fewestWords_69 ci_5 rfl ?_
      refine R_icmp_gtN (tgt := 93) C dX3_fewestWords_70 rfl rfl (by omega) (by omega) (fun d1 => ?_) (fun d1 => ?_)
      · omega
      · refine R_al0 (n := 74) C dX3_fewestWords_73 rfl ?_
        refine R_al1 (n := 75) C dX3_fewestWords_74 rfl ?_
        refine R_ic (n := 76) C dX3_fewestWords_75 ci_0 rfl ?_
        refine R_il4 (n := 78) C dX3_fewestWords_76 rfl ?_
        refine R_callS (n := 81) C (c_isMet_2 _ _ _ r (d := 0) (Q1.rw R) J (Q1.lg J) O Q1.1 Q1.2.1 s32 hb (by omega)) mw_X3_isMet ml_X3_47 sv_X3_isMet dX3_fewestWords_78 rfl rfl (Nat.le_of_ble_eq_true rfl) ⟨Nat.le_of_ble_eq_true rfl, Nat.le_of_ble_eq_true rfl⟩ ⟨Nat.le_refl _, Nat.le_refl _⟩ rfl (pGs (fun h2 q2 => ?_))
        have Q2 := Q1.f q2
        refine R_if_eqB (tgt := 87) C dX3_fewestWords_81 rfl rfl (fun d2 => ?_) (fun d2 => ?_)
        · rw [d2] at hz
          refine R_inc4 (n := 90) C dX3_fewestWords_87 rfl (Nat.le_of_ble_eq_true rfl) (inc_1 _) rfl ?_
          refine R_goto (n := 67) C dX3_fewestWords_90 rfl ?_
          exact s3 h2 Q2 hz
        · rw [d2] at hz
          refine R_il4 (n := 86) C dX3_fewestWords_84 rfl ?_
          refine R_iret C CR (Nat.zero_le _) (Nat.zero_le _) dX3_fewestWords_86 ?_
          exact ⟨by rw [hz]; rfl, rfl, Q2.s⟩
    have s1 : ∀ (hh : Hp), QL σ s b h hh → Z = ([1, 2, 3, 4, 5] : List Nat).find? (fun m => mtz σ (sKn σ) s b m (st0 σ)) → Rn X 0 0 67 [some (.ref (r 25)), some (.ref (r 1)), some (.int (nI s)), some (.int (nI b)), some (.int (nI 1))] [] (LY r) hh := by
      intro hh Q1 hz
      rw [List.find?_cons] at hz
      refine R_il4 (n := 69) C dX3_fewestWords_67 rfl ?_
      refine R_ic (n := 70) C dX3_fewestWords_69 ci_5 rfl ?_
      refine R_icmp_gtN (tgt := 93) C dX3_fewestWords_70 rfl rfl (by omega) (by omega) (fun d1 => ?_) (fun d1 => ?_)
      · omega
      · refine R_al0 (n := 74) C dX3_fewestWords_73 rfl ?_
        refine R_al1 (n := 75) C dX3_fewestWords_74 rfl ?_
        refine R_ic (n := 76) C dX3_fewestWords_75 ci_0 rfl ?_
        refine R_il4 (n := 78) C dX3_fewestWords_76 rfl ?_
        refine R_callS (n := 81) C (c_isMet_1 _ _ _ r (d := 0) (Q1.rw R) J (Q1.lg J) O Q1.1 Q1.2.1 s32 hb (by omega)) mw_X3_isMet ml_X3_47 sv_X3_isMet dX3_fewestWords_78 rfl rfl (Nat.le_of_ble_eq_true rfl) ⟨Nat.le_of_ble_eq_true rfl, Nat.le_of_ble_eq_true rfl⟩ ⟨Nat.le_refl _, Nat.le_refl _⟩ rfl (pGs (fun h2 q2 => ?_))
        have Q2 := Q1.f q2
        refine R_if_eqB (tgt := 87) C dX3_fewestWords_81 rfl rfl (fun d2 => ?_) (fun d2 => ?_)
        · rw [d2] at hz
          refine R_inc4 (n := 90) C dX3_fewestWords_87 rfl (Nat.le_of_ble_eq_true rfl) (inc_1 _) rfl ?_
          refine R_goto (n := 67) C dX3_fewestWords_90 rfl ?_
          exact s2 h2 Q2 hz
        · rw [d2] at hz
          refine R_il4 (n := 86) C dX3_fewestWords_84 rfl ?_
          refine R_iret C CR (Nat.zero_le _) (Nat.zero_le _) dX3_fewestWords_86 ?_
          exact ⟨by rw [hz]; rfl, rfl, Q2.s⟩
    refine R_ic (n := 65) C dX3_fewestWords_64 ci_1 rfl ?_
    refine R_is4 (n := 67) C dX3_fewestWords_65 rfl (Nat.le_of_ble_eq_true rfl) rfl ?_
    exact s1 h1 Q hZ.symm
  · rw [msk_so n5 hs] at c1
    rw [if_pos c1] at CR
    refine R_ic (n := 63) C dX3_fewestWords_62 ci_0 rfl ?_
    refine R_iret C CR (Nat.zero_le _) (Nat.zero_le _) dX3_fewestWords_63 ?_
    exact ⟨rfl, rfl, Q.s⟩
set_option maxRecDepth 20000 in
set_option maxHeartbeats 4000000 in
theorem p_able (l : Launch) (D : va_G) (cA : Nat → ClassId) (r : Nat → Nat) {h : Hp} {G : GS} (R : RCl G h) (I : InvG G) (s b : Int32) : Cn l D cA yX10_able cX10_able 3 (some .int) 8 0 0 [.ref (r 0), .int s, .int b] (LY r) h (pG (some (.int (aAble G s b))) (LY r) (fun h' => RCl G h' ∧ FrC h h')) := by
  refine Cn.of (lv := [some (.ref (r 0)), some (.int s), some (.int b)]) (by decide +kernel) (Nat.le_of_ble_eq_true rfl) rfl (fun X hnm C CR => ?_)
  have p10 := p2_10 I.1.n5
  refine R_al0 (n := 1) C dX10_able_0 rfl ?_
  refine R_il1 (n := 2) C dX10_able_1 rfl ?_
  refine R_il2 (n := 3) C dX10_able_2 rfl ?_
  refine M_callV (n := 6) C (c_isAim _ _ _ r R.1 I.1 _ _) mw_X10_isAim ml_X10_185 iv_X10_isAim dX10_able_3 rfl rfl rfl rfl (Nat.le_of_ble_eq_true rfl) ⟨Nat.le_of_ble_eq_true rfl, Nat.le_of_ble_eq_true rfl⟩ ⟨Nat.le_refl _, Nat.le_refl _⟩ rfl (pEs ?_)
  refine R_if_neB (tgt := 12) C dX10_able_6 rfl rfl (fun c1 => ?_) (fun c1 => ?_)
  · obtain ⟨x, y, x1, y1, rfl, rfl, xc, yc⟩ := okA_of I.1 c1
    rw [aAble, if_pos c1, xc, yc] at CR
    refine R_al0 (n := 13) C dX10_able_12 rfl ?_
    refine M_getR (n := 16) C fl_X10_48 dX10_able_13 rfl rfl rfl ?_
    refine R_al0 (n := 17) C dX10_able_16 rfl ?_
    refine M_getR (n := 20) C fl_X10_12 dX10_able_17 rfl rfl rfl ?_
    refine R_il1 (n := 21) C dX10_able_20 rfl ?_
    refine R_il2 (n := 22) C dX10_able_21 rfl ?_
    refine M_callV (n := 25) C (c_lfewest _ _ _ r R.1 I.1 x1 (by omega)) mw_X3_fewestWords ml_X10_199 iv_X3_fewestWords dX10_able_22 rfl rfl rfl rfl (Nat.le_of_ble_eq_true rfl) ⟨Nat.le_of_ble_eq_true rfl, Nat.le_of_ble_eq_true rfl⟩ ⟨Nat.le_refl _, Nat.le_refl _⟩ rfl (pGs (fun h1 q1 => ?_))
    refine R_iret C CR (Nat.zero_le _) (Nat.zero_le _) dX10_able_25 ?_
    exact ⟨rfl, rfl, R.s q1, q1.c⟩
  · refine R_bp (n := 11) C dX10_able_9 cb_m2 rfl ?_
    refine R_iret C CR (Nat.zero_le _) (Nat.zero_le _) dX10_able_11 ?_
    refine ⟨?_, rfl, R, FrC.rf⟩
    rw [aAble, if_neg (by rw [c1]; decide)]
