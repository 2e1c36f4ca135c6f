set_option maxRecDepth 20000 in
set_option maxHeartbeats 4000000 in
theorem m_word (l : Launch) (D : va_G) (cA : Nat → ClassId) (r : Nat → Nat) {h : Hp} {G : GS} (R : RMo G h) (I : InvG G) (v : Int32) : Cn l D cA yX11_word cX11_word 3 (some .int) 2 0 0 [.ref (r 73), .int v] (LY r) h (pG (some (.int (aWord G v))) (LY r) (fun h' => RMo (nWord G v) h' ∧ FrM h h')) := by
  refine Cn.of (lv := [some (.ref (r 73)), some (.int v), none]) (by decide +kernel) (Nat.le_of_ble_eq_true rfl) rfl (fun X hnm C CR => ?_)
  have n5 := I.1.n5
  have c60 := I.2.1.1
  have knb := I.1.kn
  refine R_il1 (n := 1) C dX11_word_0 rfl ?_
  refine R_i2l (n := 2) C dX11_word_1 rfl rfl ?_
  refine R_lc (n := 3) C dX11_word_2 lc_0 rfl ?_
  refine R_ldc2 (n := 6) C dX11_word_3 kl_X11_110 rfl ?_
  refine R_eql (y := lN 5) (by decide +kernel) ?_
  refine R_callS (n := 9) C (c_mIn _ _ _ r _ _ _) mw_X11_in ml_X11_104 sv_X11_in dX11_word_6 rfl rfl (Nat.le_of_ble_eq_true rfl) ⟨Nat.le_of_ble_eq_true rfl, Nat.le_of_ble_eq_true rfl⟩ ⟨Nat.le_refl _, Nat.le_refl _⟩ rfl (pEs ?_)
  rw [winL_n (by decide) (by decide)]
  refine R_if_neB (tgt := 14) C dX11_word_9 rfl rfl (fun c1 => ?_) (fun c1 => ?_)
  · obtain ⟨w, _, hw, rfl⟩ := win_of (by decide) (by decide) c1
    have wc : cl (nI w) = w := nI_clamp (by omega)
    refine R_al0 (n := 15) C dX11_word_14 rfl ?_
    refine M_callV (n := 18) C (c_mFaultOfSpell _ _ _ r R.1 I.1 R.2.1 I.2.1) mw_X11_faultOfSpell ml_X11_145 iv_X11_faultOfSpell dX11_word_15 rfl rfl rfl rfl (Nat.le_of_ble_eq_true rfl) ⟨Nat.le_of_ble_eq_true rfl, Nat.le_of_ble_eq_true rfl⟩ ⟨Nat.le_refl _, Nat.le_refl _⟩ rfl (pEs ?_)
    have fl := fz_le (p := spB (sN (gS G)) (gP G).2) (n := (gP G).1)
    have alt : spz (sN (gS G)) (gP G).1 (gP G).2 = -6 ∨ ∃ q, q ≤ 60 ∧ spz (sN (gS G)) (gP G).1 (gP G).2 = nI q := by
      unfold spz
      split
      · exact Or.inr ⟨_, by omega, rfl⟩
      · split
        · exact Or.inr ⟨_, by omega, rfl⟩
        · exact Or.inl rfl
    rcases alt with c2 | ⟨q, q60, c2⟩
    · rw [aWord, nWord, okW, c1, if_pos rfl, if_pos c2, decide_eq_true c2, Bool.and_self, if_pos rfl, wc] at CR
      obtain ⟨s1, s2⟩ := spz_eq c60 c2
      have ob := orz_lt _ knb w (by omega)
      have loop : ∀ (m i : Nat) (h1 : Hp), sN (gS G) < i + m → i ≤ sN (gS G) → RM (stW (gS G) w (gP G).2 i) h1 → (∀ a, a ≠ 79 → h1 a = h a) → Rn X 0 0 26 [some (.ref (r 73)), some (.int (nI w)), some (.int (nI i))] [] (LY r) h1 := by
        intro m
        induction m with
        | zero => intro i h1 a1 a2; omega
        | succ m ih =>
          intro i h1 a1 a2 R1 F1
          refine R_il2 (n := 27) C dX11_word_26 rfl ?_
          refine R_al0 (n := 28) C dX11_word_27 rfl ?_
          refine M_getI (n := 31) C fl_X11_94 dX11_word_28 rfl rfl (show _ = nI (sN (gS G)) from R1.1) rfl ?_
          refine R_icmp_geN (tgt := 59) C dX11_word_31 rfl rfl (by omega) (by omega) (fun c3 => ?_) (fun c3 => ?_)
          · have e9 : h1 73 6 = nI (sKn (gS G)) := R1.2.1
            refine R_al0 (n := 60) C dX11_word_59 rfl ?_
            refine R_dup (n := 61) C dX11_word_60 rfl rfl ?_
            refine M_getI (n := 64) C fl_X11_98 dX11_word_61 rfl rfl e9 rfl ?_
            refine R_ic (n := 65) C dX11_word_64 ci_1 rfl ?_
            refine R_il1 (n := 66) C dX11_word_65 rfl ?_
            refine R_ishlN (n := 67) C dX11_word_66 (by omega) (sh1 (by omega)) rfl ?_
            refine R_iorN (n := 68) C dX11_word_67 rfl ?_
            refine R_eq (y := nI (sKn (gS G) ||| 2 ^ w)) (by rw [Nat.one_mul]) ?_
            refine M_putI (n := 71) C fl_X11_98 dX11_word_68 rfl rfl rfl rfl rfl ?_
            refine R_al0 (n := 72) C dX11_word_71 rfl ?_
            refine R_ic (n := 73) C dX11_word_72 ci_0 rfl ?_
            refine M_putI (n := 76) C fl_X11_128 dX11_word_73 rfl rfl rfl rfl rfl ?_
            refine R_al0 (n := 77) C dX11_word_76 rfl ?_
            refine M_getI (n := 80) C fl_X11_98 dX11_word_77 rfl rfl (up2_gne (by decide) up2_same) rfl ?_
            refine R_callS (n := 83) C (c_mOnes _ _ _ r ob) mw_X11_ones ml_X11_152 sv_X11_ones dX11_word_80 rfl rfl (Nat.le_of_ble_eq_true rfl) ⟨Nat.le_of_ble_eq_true rfl, Nat.le_of_ble_eq_true rfl⟩ ⟨Nat.le_refl _, Nat.le_refl _⟩ rfl (pEs ?_)
            refine R_iret C CR (Nat.zero_le _) (Nat.zero_le _) dX11_word_83 ?_
            refine ⟨rfl, rfl, ?_, fun a ha => by rw [up2_row (by omega), up2_row (by omega)]; exact F1 a (by omega)⟩
            have Rw : RM (setW (gS G) w (gP G).2) (up2 h1 73 6 (nI (sKn (gS G) ||| 2 ^ w))) := by
              have R1' : RM (stW (gS G) w (gP G).2 (sN (gS G))) h1 := by rw [show sN (gS G) = i by omega]; exact R1
              refine ⟨up2_gne (by decide) R1'.1, up2_same, up2_gne (by decide) R1'.2.2.1, fun j k hj hk => ?_⟩
              rw [up2_row (by omega)]
              exact R1'.2.2.2 j k hj hk
            have R3 : RMo (mkS G (setW (gS G) w (gP G).2)) (up2 h1 73 6 (nI (sKn (gS G) ||| 2 ^ w))) := R.wood Rw (fun a ha => by rw [up2_row (by omega)]; exact F1 a (by omega)) (by rw [up2_ne (by decide)]; exact congrFun (F1 73 (by decide)) 13)
            exact R3.pad ⟨up2_same, fun k hk => by rw [up2_row (by decide)]; exact R3.2.1.2 k hk⟩ (fun a b1 b2 => up2_row b1) (fun k hk => up2_ne hk)
          · have b1 := s2 i c3
            have e83 : h1 83 i = nI ((gP G).2 i) := by rw [F1 83 (by decide)]; exact R.2.1.2 i (by omega)
            refine R_al0 (n := 35) C dX11_word_34 rfl ?_
            refine M_getR (n := 38) C fl_X11_25 dX11_word_35 rfl rfl rfl ?_
            refine R_ic (n := 39) C dX11_word_38 ci_5 rfl ?_
            refine R_il1 (n := 40) C dX11_word_39 rfl ?_
            refine R_imulN (n := 41) C dX11_word_40 rfl ?_
            refine R_il2 (n := 42) C dX11_word_41 rfl ?_
            refine R_iaddN (n := 43) C dX11_word_42 rfl ?_
            refine R_al0 (n := 44) C dX11_word_43 rfl ?_
            refine M_getR (n := 47) C fl_X11_37 dX11_word_44 rfl rfl rfl ?_
            refine R_il2 (n := 48) C dX11_word_47 rfl ?_
            refine M_iald (n := 49) C dX11_word_48 rfl (by omega) e83 rfl ?_
            refine R_bp (n := 51) C dX11_word_49 cb_48 rfl ?_
            refine R_isubN (n := 52) C dX11_word_51 (by omega) rfl ?_
            refine M_iast (n := 53) C dX11_word_52 rfl (by omega) rfl ?_
            refine R_inc2 (n := 56) C dX11_word_53 rfl (Nat.le_of_ble_eq_true rfl) (inc_1 _) rfl ?_
            refine R_goto (n := 26) C dX11_word_56 rfl ?_
            refine ih (i + 1) _ (by omega) (by omega) ?_ (fun a ha => by rw [up2_row ha]; exact F1 a ha)
            rw [← stW_s]
            exact RM.set R1 (j := 5)
      rw [c2]
      refine R_if_lt (tgt := 24) C dX11_word_18 rfl rfl (fun c4 => ?_) (fun c4 => ?_)
      · refine R_ic (n := 25) C dX11_word_24 ci_0 rfl ?_
        refine R_is2 (n := 26) C dX11_word_25 rfl (Nat.le_of_ble_eq_true rfl) rfl ?_
        exact loop (sN (gS G) + 1) 0 h (by omega) (by omega) (by rw [stW_0]; exact R.1) (fun _ _ => rfl)
      · exact absurd (by decide) c4
    · have nn : ∀ k : Nat, k ≤ 60 → nI k ≠ -6 := by decide +kernel
      have c3 : spz (sN (gS G)) (gP G).1 (gP G).2 ≠ -6 := by rw [c2]; exact nn q q60
      rw [c2]
      refine R_if_ltN C dX11_word_18 24 rfl rfl (by omega) ?_
      refine R_bp (n := 23) C dX11_word_21 cb_m5 rfl ?_
      refine R_iret C CR (Nat.zero_le _) (Nat.zero_le _) dX11_word_23 ?_
      refine ⟨by rw [aWord, c1, if_pos rfl, if_neg c3], rfl, ?_, FrM.rf⟩
      rw [nWord, okW, decide_eq_false c3, Bool.and_false]
      exact R
  · refine R_ic (n := 13) C dX11_word_12 ci_m1 rfl ?_
    refine R_iret C CR (Nat.zero_le _) (Nat.zero_le _) dX11_word_13 ?_
    refine ⟨by rw [aWord, c1]; rfl, rfl, ?_, FrM.rf⟩
    rw [nWord, okW, c1, Bool.false_and]
    exact R
def wyM (s : Nat) : Int32 := if s = 110 then nI 0 else if s = 101 then nI 1 else if s = 115 then nI 2 else if s = 119 then nI 3 else -6
theorem wyM_is {s : Nat} (h : isW s = true) : wyM s = nI (wyN s) := by
  unfold isW at h
  unfold wyM wyN
  by_cases h1 : s = 110
  · subst h1; decide
  · by_cases h2 : s = 101
    · subst h2; decide
    · by_cases h3 : s = 115
      · subst h3; decide
      · by_cases h4 : s = 119
        · subst h4; decide
        · simp [h1, h2, h3, h4] at h
theorem wyM_no {s : Nat} (h : isW s = false) : wyM s = -6 := by
  unfold isW at h
  simp at h
  unfold wyM
  rw [if_neg h.1.1.1, if_neg h.1.1.2, if_neg h.1.2, if_neg h.2]
set_option maxRecDepth 20000 in
set_option maxHeartbeats 4000000 in
theorem c_mWayOf (l : Launch) (D : va_G) (cA : Nat → ClassId) (r : Nat → Nat) {L : Ly} {h : Hp} {s : Nat} (hs : s < 2 ^ 31) : Cn l D cA yX11_wayOf cX11_wayOf 1 (some .int) 0 0 0 [.int (nI s)] (L) h (pE (some (.int (wyM s))) L h) := by
  refine Cn.of (lv := [some (.int (nI s))]) (by decide +kernel) (Nat.le_of_ble_eq_true rfl) rfl (fun X hnm C CR => ?_)
  refine R_il0 (n := 1) C dX11_wayOf_0 rfl ?_
  refine R_bp (n := 3) C dX11_wayOf_1 cb_110 rfl ?_
  refine R_icmp_neN (tgt := 10) C dX11_wayOf_3 rfl rfl (by omega) (by omega) (fun c1 => ?_) (fun c1 => ?_)
  · refine R_il0 (n := 11) C dX11_wayOf_10 rfl ?_
    refine R_bp (n := 13) C dX11_wayOf_11 cb_101 rfl ?_
    refine R_icmp_neN (tgt := 20) C dX11_wayOf_13 rfl rfl (by omega) (by omega) (fun c2 => ?_) (fun c2 => ?_)
    · refine R_il0 (n := 21) C dX11_wayOf_20 rfl ?_
      refine R_bp (n := 23) C dX11_wayOf_21 cb_115 rfl ?_
      refine R_icmp_neN (tgt := 30) C dX11_wayOf_23 rfl rfl (by omega) (by omega) (fun c3 => ?_) (fun c3 => ?_)
      · refine R_il0 (n := 31) C dX11_wayOf_30 rfl ?_
        refine R_bp (n := 33) C dX11_wayOf_31 cb_119 rfl ?_
        refine R_icmp_neN (tgt := 40) C dX11_wayOf_33 rfl rfl (by omega) (by omega) (fun c4 => ?_) (fun c4 => ?_)
        · refine R_bp (n := 42) C dX11_wayOf_40 cb_m6 rfl ?_
          refine R_iret C CR (Nat.zero_le _) (Nat.zero_le _) dX11_wayOf_42 ?_
          exact ⟨by rw [wyM, if_neg c1, if_neg c2, if_neg c3, if_neg c4], rfl, rfl⟩
        · refine R_ic (n := 37) C dX11_wayOf_36 ci_3 rfl ?_
          refine R_goto (n := 42) C dX11_wayOf_37 rfl ?_
          refine R_iret C CR (Nat.zero_le _) (Nat.zero_le _) dX11_wayOf_42 ?_
          exact ⟨by rw [wyM, if_neg c1, if_neg c2, if_neg c3, if_pos c4], rfl, rfl⟩
      · refine R_ic (n := 27) C dX11_wayOf_26 ci_2 rfl ?_
        refine R_goto (n := 42) C dX11_wayOf_27 rfl ?_
        refine R_iret C CR (Nat.zero_le _) (Nat.zero_le _) dX11_wayOf_42 ?_
        exact ⟨by rw [wyM, if_neg c1, if_neg c2, if_pos c3], rfl, rfl⟩
    · refine R_ic (n := 17) C dX11_wayOf_16 ci_1 rfl ?_
      refine R_goto (n := 42) C dX11_wayOf_17 rfl ?_
      refine R_iret C CR (Nat.zero_le _) (Nat.zero_le _) dX11_wayOf_42 ?_
      exact ⟨by rw [wyM, if_neg c1, if_pos c2], rfl, rfl⟩
  · refine R_ic (n := 7) C dX11_wayOf_6 ci_0 rfl ?_
    refine R_goto (n := 42) C dX11_wayOf_7 rfl ?_
    refine R_iret C CR (Nat.zero_le _) (Nat.zero_le _) dX11_wayOf_42 ?_
    exact ⟨by rw [wyM, if_pos c1], rfl, rfl⟩
def EvM (E : List Nat) (h : Hp) : Prop := h 73 15 = nI E.length ∧ ∀ (k x : Nat), E[k]? = some x → h 84 k = nI x
theorem hasH_sub : ∀ n, n < 6 → 1 ≤ n → ∀ c, c < 127 → win (nI c - nI 48) (nI 0) (nI (n - 1)) = (decide (48 ≤ c) && decide (c - 48 < n)) := by decide +kernel
theorem EvM.add {E : List Nat} {h : Hp} (A : EvM E h) (x : Nat) : EvM (E ++ [x]) (up2 (up2 h 84 E.length (nI x)) 73 15 (nI (E.length + 1))) := by
  refine ⟨by rw [up2_same, List.length_append]; rfl, fun j y hy => ?_⟩
  rw [up2_row (by decide)]
  by_cases e : j < E.length
  · rw [List.getElem?_append_left e] at hy
    rw [up2_ne (by omega)]
    exact A.2 j y hy
  · rw [List.getElem?_append_right (by omega)] at hy
    have h0 : j - E.length < 1 := (List.getElem?_eq_some_iff.mp hy).1
    have h1 : j = E.length := by omega
    rw [List.mem_singleton.mp (List.mem_of_getElem? hy), h1, up2_same]
def pdI (pd : Option Nat) : Int32 := match pd with
  | none => -6
  | some k => nI k
theorem isDg_lt {s : Nat} (h : isDg s = true) : 48 ≤ s ∧ s ≤ 57 := by
  simp [isDg] at h
  exact h
set_option maxRecDepth 20000 in
set_option maxHeartbeats 4000000 in
theorem c_mFaultOfEvening (l : Launch) (D : va_G) (cA : Nat → ClassId) (r : Nat → Nat) {h : Hp} {σ : WS} (R : RM σ h) (I : Inv σ) {p : PS} (P : RMP p h) (J : InvP p) : Cn l D cA yX11_faultOfEvening cX11_faultOfEvening 5 (some .int) 2 0 0 [.ref (r 73)] (LY r) h (pG (some (.int (evz (sN σ) p.1 p.2))) (LY r) (fun h' => (evS (sN σ) p.2 p.1 0 none = none → EvM (evL p.2 p.1 0 none) h') ∧ FrA [84] [15] h h')) := by
  refine Cn.of (lv := [some (.ref (r 73)), none, none, none, none]) (by decide +kernel) (Nat.le_of_ble_eq_true rfl) rfl (fun X hnm C CR => ?_)
  have n5 := I.n5
  have n1 := I.n1
  have j0 := J.1
  obtain ⟨Z, hZ⟩ : ∃ Z, evS (sN σ) p.2 p.1 0 none = Z := ⟨_, rfl⟩
  obtain ⟨Y, hY⟩ : ∃ Y, evL p.2 p.1 0 none = Y := ⟨_, rfl⟩
  rw [evz, hZ, hY] at CR
  have loop : ∀ (m i : Nat) (pd : Option Nat) (E : List Nat) (hh : Hp) (o3 o4 : Option Value), i + m = p.1 → E.length ≤ i → (∀ k, pd = some k → k < sN σ) → Z = evS (sN σ) p.2 m i pd → Y = E ++ evL p.2 m i pd → EvM E hh → FrA [84] [15] h hh → Rn X 0 0 10 [some (.ref (r 73)), some (.int (pdI pd)), some (.int (nI i)), o3, o4] [] (LY r) hh := by
    intro m
    induction m with
    | zero =>
      intro i pd E hh o3 o4 a1 a2 a3 hz hy A F
      have P1 := F.rp P (by decide) (by decide)
      refine R_il2 (n := 11) C dX11_faultOfEvening_10 rfl ?_
      refine R_al0 (n := 12) C dX11_faultOfEvening_11 rfl ?_
      refine M_getI (n := 15) C fl_X11_128 dX11_faultOfEvening_12 rfl rfl P1.1 rfl ?_
      refine R_icmp_geN (tgt := 205) C dX11_faultOfEvening_15 rfl rfl (by omega) (by omega) (fun c1 => ?_) (fun c1 => ?_)
      · cases pd with
        | none =>
          show Rn X _ _ _ [_, some (.int (-6)), _, _, _] _ _ _
          refine R_il1 (n := 206) C dX11_faultOfEvening_205 rfl ?_
          refine R_if_lt (tgt := 216) C dX11_faultOfEvening_206 rfl rfl (fun c2 => ?_) (fun c2 => ?_)
          · refine R_bp (n := 218) C dX11_faultOfEvening_216 cb_m6 rfl ?_
            refine R_iret C CR (Nat.zero_le _) (Nat.zero_le _) dX11_faultOfEvening_218 ?_
            refine ⟨?_, rfl, fun _ => ?_, F⟩
            · rw [hz]; rfl
            · rw [hy, evL, List.append_nil]; exact A
          · exact absurd (by decide) c2
        | some k =>
          have k5 := a3 k rfl
          show Rn X _ _ _ [_, some (.int (nI k)), _, _, _] _ _ _
          refine R_il1 (n := 206) C dX11_faultOfEvening_205 rfl ?_
          refine R_if_ltN C dX11_faultOfEvening_206 216 rfl rfl (by omega) ?_
          refine R_al0 (n := 210) C dX11_faultOfEvening_209 rfl ?_
          refine M_getI (n := 213) C fl_X11_128 dX11_faultOfEvening_210 rfl rfl P1.1 rfl ?_
          refine R_goto (n := 218) C dX11_faultOfEvening_213 rfl ?_
          refine R_iret C CR (Nat.zero_le _) (Nat.zero_le _) dX11_faultOfEvening_218 ?_
          refine ⟨?_, rfl, fun q => ?_, F⟩
          · rw [hz, evS, show p.1 = i by omega]
          · rw [hz, evS] at q; cases q
      · omega
    | succ m ih =>
      intro i pd E hh o3 o4 a1 a2 a3 hz hy A F
      have P1 := F.rp P (by decide) (by decide)
      have R1 := F.rm R (by decide) (by decide)
      have s1 := J.2 i (by omega)
      have i60 : E.length < 60 := by omega
      refine R_il2 (n := 11) C dX11_faultOfEvening_10 rfl ?_
      refine R_al0 (n := 12) C dX11_faultOfEvening_11 rfl ?_
      refine M_getI (n := 15) C fl_X11_128 dX11_faultOfEvening_12 rfl rfl P1.1 rfl ?_
      refine R_icmp_geN (tgt := 205) C dX11_faultOfEvening_15 rfl rfl (by omega) (by omega) (fun c1 => ?_) (fun c1 => ?_)
      · omega
      · refine R_al0 (n := 19) C dX11_faultOfEvening_18 rfl ?_
        refine M_getR (n := 22) C fl_X11_37 dX11_faultOfEvening_19 rfl rfl rfl ?_
        refine R_il2 (n := 23) C dX11_faultOfEvening_22 rfl ?_
        refine M_iald (n := 24) C dX11_faultOfEvening_23 rfl (by omega) (P1.2 i (by omega)) rfl ?_
        refine R_is3 (n := 25) C dX11_faultOfEvening_24 rfl (Nat.le_of_ble_eq_true rfl) rfl ?_
        obtain ⟨s, hs⟩ : ∃ s, p.2 i = s := ⟨_, rfl⟩
        rw [hs] at s1 ⊢
        cases pd with
        | none =>
          show Rn X _ _ _ [_, some (.int (-6)), _, _, _] _ _ _
          unfold evS at hz
          unfold evL at hy
          rw [hs] at hz hy
          have sub := hasH_sub (sN σ) (by omega) n1 s (by omega)
          have no : Z = some i → Rn X 0 0 85 [some (.ref (r 73)), some (.int (-6)), some (.int (nI i)), some (.int (nI s)), o4] [] (LY r) hh := by
            intro q
            refine R_ic (n := 86) C dX11_faultOfEvening_85 ci_0 rfl ?_
            refine R_is4 (n := 88) C dX11_faultOfEvening_86 rfl (Nat.le_of_ble_eq_true rfl) rfl ?_
            refine R_il4 (n := 90) C dX11_faultOfEvening_88 rfl ?_
            refine R_if_neN (tgt := 95) C dX11_faultOfEvening_90 rfl rfl (by omega) (fun c9 => ?_) (fun c9 => ?_)
            · exact absurd rfl c9
            · refine R_il2 (n := 94) C dX11_faultOfEvening_93 rfl ?_
              refine R_iret C CR (Nat.zero_le _) (Nat.zero_le _) dX11_faultOfEvening_94 ?_
              refine ⟨by rw [q], rfl, fun e => ?_, F⟩
              rw [q] at e
              cases e
          have yes : (isDg s = true → s - 48 < sN σ) → (isDg s = false → (isLt s || (decide (s = 42) || decide (s = 46))) = true) → Rn X 0 0 81 [some (.ref (r 73)), some (.int (-6)), some (.int (nI i)), some (.int (nI s)), o4] [] (LY r) hh := by
            intro q1 q2
            refine R_ic (n := 82) C dX11_faultOfEvening_81 ci_1 rfl ?_
            refine R_goto (n := 86) C dX11_faultOfEvening_82 rfl ?_
            refine R_is4 (n := 88) C dX11_faultOfEvening_86 rfl (Nat.le_of_ble_eq_true rfl) rfl ?_
            refine R_il4 (n := 90) C dX11_faultOfEvening_88 rfl ?_
            refine R_if_neN (tgt := 95) C dX11_faultOfEvening_90 rfl rfl (by omega) (fun c9 => ?_) (fun c9 => ?_)
            · refine R_il1 (n := 96) C dX11_faultOfEvening_95 rfl ?_
              refine R_if_lt (tgt := 135) C dX11_faultOfEvening_96 rfl rfl (fun c8 => ?_) (fun c8 => ?_)
              · refine R_al0 (n := 136) C dX11_faultOfEvening_135 rfl ?_
                refine R_il3 (n := 137) C dX11_faultOfEvening_136 rfl ?_
                refine R_bp (n := 139) C dX11_faultOfEvening_137 cb_48 rfl ?_
                refine R_isub (n := 140) C dX11_faultOfEvening_139 rfl ?_
                refine M_callV (n := 143) C (c_mIsHut _ _ _ r R1 I _) mw_X11_isHut ml_X11_112 iv_X11_isHut dX11_faultOfEvening_140 rfl rfl rfl rfl (Nat.le_of_ble_eq_true rfl) ⟨Nat.le_of_ble_eq_true rfl, Nat.le_of_ble_eq_true rfl⟩ ⟨Nat.le_refl _, Nat.le_refl _⟩ rfl (pEs ?_)
                rw [show hasH σ (nI s - nI 48) = (decide (48 ≤ s) && decide (s - 48 < sN σ)) from sub]
                refine R_if_eqB (tgt := 154) C dX11_faultOfEvening_143 rfl rfl (fun c7 => ?_) (fun c7 => ?_)
                · have dg : isDg s = false := by
                    cases e : isDg s with
                    | false => rfl
                    | true =>
                      have := q1 e
                      have := isDg_lt e
                      rw [decide_eq_true (by omega), decide_eq_true (by omega)] at c7
                      cases c7
                  have q3 := q2 dg
                  rw [if_neg (by rw [dg]; decide), if_pos q3] at hz
                  rw [if_neg (by rw [dg]; decide)] at hy
                  have hy' : Y = (E ++ [sgE s]) ++ evL p.2 m (i + 1) none := by rw [hy, List.append_assoc]; rfl
                  have nxt := ih (i + 1) none (E ++ [sgE s]) (up2 (up2 hh 84 E.length (nI (sgE s))) 73 15 (nI (E.length + 1))) (some (.int (nI s))) (some (.int (nI 1))) (by omega) (by rw [List.length_append]; simp; omega) (fun k q => by cases q) hz hy' (A.add _) ((F.up (by decide) (by decide)).fld (by decide))
                  refine R_al0 (n := 155) C dX11_faultOfEvening_154 rfl ?_
                  refine M_getR (n := 158) C fl_X11_40 dX11_faultOfEvening_155 rfl rfl rfl ?_
                  refine R_al0 (n := 159) C dX11_faultOfEvening_158 rfl ?_
                  refine M_getI (n := 162) C fl_X11_135 dX11_faultOfEvening_159 rfl rfl A.1 rfl ?_
                  refine R_il3 (n := 163) C dX11_faultOfEvening_162 rfl ?_
                  refine R_bp (n := 165) C dX11_faultOfEvening_163 cb_42 rfl ?_
                  refine R_icmp_neN (tgt := 173) C dX11_faultOfEvening_165 rfl rfl (by omega) (by omega) (fun d1 => ?_) (fun d1 => ?_)
                  · refine R_il3 (n := 174) C dX11_faultOfEvening_173 rfl ?_
                    refine R_bp (n := 176) C dX11_faultOfEvening_174 cb_46 rfl ?_
                    refine R_icmp_neN (tgt := 184) C dX11_faultOfEvening_176 rfl rfl (by omega) (by omega) (fun d2 => ?_) (fun d2 => ?_)
                    · have h97 : 97 ≤ s := by
                        simp [isLt, d1, d2] at q3
                        omega
                      rw [show sgE s = s - 97 by rw [sgE, if_neg d1, if_neg d2]] at nxt
                      refine R_il3 (n := 185) C dX11_faultOfEvening_184 rfl ?_
                      refine R_bp (n := 187) C dX11_faultOfEvening_185 cb_97 rfl ?_
                      refine R_isubN (n := 188) C dX11_faultOfEvening_187 (by omega) rfl ?_
                      refine M_iast (n := 189) C dX11_faultOfEvening_188 rfl i60 rfl ?_
                      refine R_al0 (n := 190) C dX11_faultOfEvening_189 rfl ?_
                      refine R_dup (n := 191) C dX11_faultOfEvening_190 rfl rfl ?_
                      refine M_getI (n := 194) C fl_X11_135 dX11_faultOfEvening_191 rfl rfl (up2_get (by decide) A.1) rfl ?_
                      refine R_ic (n := 195) C dX11_faultOfEvening_194 ci_1 rfl ?_
                      refine R_iaddN (n := 196) C dX11_faultOfEvening_195 rfl ?_
                      refine M_putI (n := 199) C fl_X11_135 dX11_faultOfEvening_196 rfl rfl rfl rfl rfl ?_
                      refine R_inc2 (n := 202) C dX11_faultOfEvening_199 rfl (Nat.le_of_ble_eq_true rfl) (inc_1 _) rfl ?_
                      refine R_goto (n := 10) C dX11_faultOfEvening_202 rfl ?_
                      exact nxt
                    · rw [show sgE s = 7 by rw [sgE, if_neg d1, if_pos d2]] at nxt
                      refine R_bp (n := 181) C dX11_faultOfEvening_179 cb_7 rfl ?_
                      refine R_goto (n := 188) C dX11_faultOfEvening_181 rfl ?_
                      refine M_iast (n := 189) C dX11_faultOfEvening_188 rfl i60 rfl ?_
                      refine R_al0 (n := 190) C dX11_faultOfEvening_189 rfl ?_
                      refine R_dup (n := 191) C dX11_faultOfEvening_190 rfl rfl ?_
                      refine M_getI (n := 194) C fl_X11_135 dX11_faultOfEvening_191 rfl rfl (up2_get (by decide) A.1) rfl ?_
                      refine R_ic (n := 195) C dX11_faultOfEvening_194 ci_1 rfl ?_
                      refine R_iaddN (n := 196) C dX11_faultOfEvening_195 rfl ?_
                      refine M_putI (n := 199) C fl_X11_135 dX11_faultOfEvening_196 rfl rfl rfl rfl rfl ?_
                      refine R_inc2 (n := 202) C dX11_faultOfEvening_199 rfl (Nat.le_of_ble_eq_true rfl) (inc_1 _) rfl ?_
                      refine R_goto (n := 10) C dX11_faultOfEvening_202 rfl ?_
                      exact nxt
                  · rw [show sgE s = 6 by rw [sgE, if_pos d1]] at nxt
                    refine R_bp (n := 170) C dX11_faultOfEvening_168 cb_6 rfl ?_
                    refine R_goto (n := 188) C dX11_faultOfEvening_170 rfl ?_
                    refine M_iast (n := 189) C dX11_faultOfEvening_188 rfl i60 rfl ?_
                    refine R_al0 (n := 190) C dX11_faultOfEvening_189 rfl ?_
                    refine R_dup (n := 191) C dX11_faultOfEvening_190 rfl rfl ?_
                    refine M_getI (n := 194) C fl_X11_135 dX11_faultOfEvening_191 rfl rfl (up2_get (by decide) A.1) rfl ?_
                    refine R_ic (n := 195) C dX11_faultOfEvening_194 ci_1 rfl ?_
                    refine R_iaddN (n := 196) C dX11_faultOfEvening_195 rfl ?_
                    refine M_putI (n := 199) C fl_X11_135 dX11_faultOfEvening_196 rfl rfl rfl rfl rfl ?_
                    refine R_inc2 (n := 202) C dX11_faultOfEvening_199 rfl (Nat.le_of_ble_eq_true rfl) (inc_1 _) rfl ?_
                    refine R_goto (n := 10) C dX11_faultOfEvening_202 rfl ?_
                    exact nxt
                · rw [Bool.and_eq_true] at c7
                  have g1 := of_decide_eq_true c7.1
                  have g2 := of_decide_eq_true c7.2
                  have dg : isDg s = true := by simp [isDg]; omega
                  rw [if_pos dg, if_pos g2] at hz
                  rw [if_pos dg] at hy
                  refine R_il3 (n := 147) C dX11_faultOfEvening_146 rfl ?_
                  refine R_bp (n := 149) C dX11_faultOfEvening_147 cb_48 rfl ?_
                  refine R_isubN (n := 150) C dX11_faultOfEvening_149 (by omega) rfl ?_
                  refine R_is1 (n := 151) C dX11_faultOfEvening_150 rfl (Nat.le_of_ble_eq_true rfl) rfl ?_
                  refine R_goto (n := 199) C dX11_faultOfEvening_151 rfl ?_
                  refine R_inc2 (n := 202) C dX11_faultOfEvening_199 rfl (Nat.le_of_ble_eq_true rfl) (inc_1 _) rfl ?_
                  refine R_goto (n := 10) C dX11_faultOfEvening_202 rfl ?_
                  exact ih (i + 1) (some (s - 48)) E hh _ _ (by omega) (by omega) (fun k q => by cases q; exact g2) hz hy A F
              · exact absurd (by decide) c8
            · exact absurd c9 (by decide)
          refine R_il1 (n := 26) C dX11_faultOfEvening_25 rfl ?_
          refine R_if_lt (tgt := 44) C dX11_faultOfEvening_26 rfl rfl (fun c2 => ?_) (fun c2 => ?_)
          · refine R_il3 (n := 45) C dX11_faultOfEvening_44 rfl ?_
            refine R_i2l (n := 46) C dX11_faultOfEvening_45 rfl rfl ?_
            refine R_ldc2 (n := 49) C dX11_faultOfEvening_46 kl_X11_141 rfl ?_
            refine R_eql (y := lN 97) (by decide +kernel) ?_
            refine R_ldc2 (n := 52) C dX11_faultOfEvening_49 kl_X11_143 rfl ?_
            refine R_eql (y := lN 102) (by decide +kernel) ?_
            refine R_callS (n := 55) C (c_mIn _ _ _ r _ _ _) mw_X11_in ml_X11_104 sv_X11_in dX11_faultOfEvening_52 rfl rfl (Nat.le_of_ble_eq_true rfl) ⟨Nat.le_of_ble_eq_true rfl, Nat.le_of_ble_eq_true rfl⟩ ⟨Nat.le_refl _, Nat.le_refl _⟩ rfl (pEs ?_)
            rw [show winL (nI s).toInt64 (lN 97) (lN 102) = isLt s from (winL_n (by decide) (by decide)).trans (win_nI (by omega) (by decide) (by decide))]
            refine R_if_neB (tgt := 81) C dX11_faultOfEvening_55 rfl rfl (fun c3 => ?_) (fun c3 => ?_)
            · have h97 : 97 ≤ s := by simp [isLt] at c3; omega
              exact yes (fun q => by have := isDg_lt q; omega) (fun _ => by rw [c3]; rfl)
            · refine R_il3 (n := 59) C dX11_faultOfEvening_58 rfl ?_
              refine R_bp (n := 61) C dX11_faultOfEvening_59 cb_42 rfl ?_
              refine R_icmp_eqN (tgt := 81) C dX11_faultOfEvening_61 rfl rfl (by omega) (by omega) (fun c4 => ?_) (fun c4 => ?_)
              · exact yes (fun q => by have := isDg_lt q; omega) (fun _ => by rw [c3, decide_eq_true c4]; rfl)
              · refine R_il3 (n := 65) C dX11_faultOfEvening_64 rfl ?_
                refine R_bp (n := 67) C dX11_faultOfEvening_65 cb_46 rfl ?_
                refine R_icmp_eqN (tgt := 81) C dX11_faultOfEvening_67 rfl rfl (by omega) (by omega) (fun c5 => ?_) (fun c5 => ?_)
                · exact yes (fun q => by have := isDg_lt q; omega) (fun _ => by rw [c3, decide_eq_false c4, decide_eq_true c5]; rfl)
                · refine R_al0 (n := 71) C dX11_faultOfEvening_70 rfl ?_
                  refine R_il3 (n := 72) C dX11_faultOfEvening_71 rfl ?_
                  refine R_bp (n := 74) C dX11_faultOfEvening_72 cb_48 rfl ?_
                  refine R_isub (n := 75) C dX11_faultOfEvening_74 rfl ?_
                  refine M_callV (n := 78) C (c_mIsHut _ _ _ r R1 I _) mw_X11_isHut ml_X11_112 iv_X11_isHut dX11_faultOfEvening_75 rfl rfl rfl rfl (Nat.le_of_ble_eq_true rfl) ⟨Nat.le_of_ble_eq_true rfl, Nat.le_of_ble_eq_true rfl⟩ ⟨Nat.le_refl _, Nat.le_refl _⟩ rfl (pEs ?_)
                  rw [show hasH σ (nI s - nI 48) = (decide (48 ≤ s) && decide (s - 48 < sN σ)) from sub]
                  refine R_if_eqB (tgt := 85) C dX11_faultOfEvening_78 rfl rfl (fun c6 => ?_) (fun c6 => ?_)
                  · refine no ?_
                    rw [hz]
                    by_cases dg : isDg s = true
                    · have := isDg_lt dg
                      rw [if_pos dg]
                      rw [decide_eq_true this.1, Bool.true_and] at c6
                      rw [if_neg (of_decide_eq_false c6)]
                    · rw [if_neg dg, c3, decide_eq_false c4, decide_eq_false c5]
                      rfl
                  · rw [Bool.and_eq_true] at c6
                    have g1 := of_decide_eq_true c6.1
                    have g2 := of_decide_eq_true c6.2
                    refine yes (fun _ => g2) (fun q => ?_)
                    have dg : isDg s = true := by simp [isDg]; omega
                    rw [dg] at q
                    cases q
          · exact absurd (by decide) c2
        | some k =>
          have k5 := a3 k rfl
          show Rn X _ _ _ [_, some (.int (nI k)), _, _, _] _ _ _
          unfold evS at hz
          unfold evL at hy
          rw [hs] at hz hy
          refine R_il1 (n := 26) C dX11_faultOfEvening_25 rfl ?_
          refine R_if_ltN C dX11_faultOfEvening_26 44 rfl rfl (by omega) ?_
          refine R_il3 (n := 30) C dX11_faultOfEvening_29 rfl ?_
          refine R_callS (n := 33) C (c_mWayOf _ _ _ r (by omega)) mw_X11_wayOf ml_X11_138 sv_X11_wayOf dX11_faultOfEvening_30 rfl rfl (Nat.le_of_ble_eq_true rfl) ⟨Nat.le_of_ble_eq_true rfl, Nat.le_of_ble_eq_true rfl⟩ ⟨Nat.le_refl _, Nat.le_refl _⟩ rfl (pEs ?_)
          by_cases ww : isW s = true
          · have w4 := wyN_lt s
            rw [if_pos ww] at hz
            rw [wyM_is ww]
            refine R_if_ltN C dX11_faultOfEvening_33 40 rfl rfl (by omega) ?_
            refine R_ic (n := 37) C dX11_faultOfEvening_36 ci_1 rfl ?_
            refine R_goto (n := 86) C dX11_faultOfEvening_37 rfl ?_
            refine R_is4 (n := 88) C dX11_faultOfEvening_86 rfl (Nat.le_of_ble_eq_true rfl) rfl ?_
            refine R_il4 (n := 90) C dX11_faultOfEvening_88 rfl ?_
            refine R_if_neN (tgt := 95) C dX11_faultOfEvening_90 rfl rfl (by omega) (fun c9 => ?_) (fun c9 => ?_)
            · refine R_il1 (n := 96) C dX11_faultOfEvening_95 rfl ?_
              refine R_if_ltN C dX11_faultOfEvening_96 135 rfl rfl (by omega) ?_
              refine R_al0 (n := 100) C dX11_faultOfEvening_99 rfl ?_
              refine M_getR (n := 103) C fl_X11_40 dX11_faultOfEvening_100 rfl rfl rfl ?_
              refine R_al0 (n := 104) C dX11_faultOfEvening_103 rfl ?_
              refine M_getI (n := 107) C fl_X11_135 dX11_faultOfEvening_104 rfl rfl A.1 rfl ?_
              refine R_bp (n := 109) C dX11_faultOfEvening_107 cb_10 rfl ?_
              refine R_il1 (n := 110) C dX11_faultOfEvening_109 rfl ?_
              refine R_ic (n := 111) C dX11_faultOfEvening_110 ci_1 rfl ?_
              refine R_iaddN (n := 112) C dX11_faultOfEvening_111 rfl ?_
              refine R_imulN (n := 113) C dX11_faultOfEvening_112 rfl ?_
              refine R_il3 (n := 114) C dX11_faultOfEvening_113 rfl ?_
              refine R_callS (n := 117) C (c_mWayOf _ _ _ r (by omega)) mw_X11_wayOf ml_X11_138 sv_X11_wayOf dX11_faultOfEvening_114 rfl rfl (Nat.le_of_ble_eq_true rfl) ⟨Nat.le_of_ble_eq_true rfl, Nat.le_of_ble_eq_true rfl⟩ ⟨Nat.le_refl _, Nat.le_refl _⟩ rfl (pEs ?_)
              rw [wyM_is ww]
              refine R_iaddN (n := 118) C dX11_faultOfEvening_117 rfl ?_
              refine M_iast (n := 119) C dX11_faultOfEvening_118 rfl i60 rfl ?_
              refine R_al0 (n := 120) C dX11_faultOfEvening_119 rfl ?_
              refine R_dup (n := 121) C dX11_faultOfEvening_120 rfl rfl ?_
              refine M_getI (n := 124) C fl_X11_135 dX11_faultOfEvening_121 rfl rfl (up2_get (by decide) A.1) rfl ?_
              refine R_ic (n := 125) C dX11_faultOfEvening_124 ci_1 rfl ?_
              refine R_iaddN (n := 126) C dX11_faultOfEvening_125 rfl ?_
              refine M_putI (n := 129) C fl_X11_135 dX11_faultOfEvening_126 rfl rfl rfl rfl rfl ?_
              refine R_bp (n := 131) C dX11_faultOfEvening_129 cb_m6 rfl ?_
              refine R_is1 (n := 132) C dX11_faultOfEvening_131 rfl (Nat.le_of_ble_eq_true rfl) rfl ?_
              refine R_goto (n := 199) C dX11_faultOfEvening_132 rfl ?_
              refine R_inc2 (n := 202) C dX11_faultOfEvening_199 rfl (Nat.le_of_ble_eq_true rfl) (inc_1 _) rfl ?_
              refine R_goto (n := 10) C dX11_faultOfEvening_202 rfl ?_
              refine ih (i + 1) none (E ++ [10 * (k + 1) + wyN s]) _ _ _ (by omega) (by rw [List.length_append]; simp; omega) (fun k q => by cases q) hz (by rw [hy, List.append_assoc]; rfl) (A.add _) ((F.up (by decide) (by decide)).fld (by decide))
            · exact absurd c9 (by decide)
          · rw [if_neg ww] at hz
            rw [wyM_no (by simpa using ww)]
            refine R_if_lt (tgt := 40) C dX11_faultOfEvening_33 rfl rfl (fun c3 => ?_) (fun c3 => ?_)
            · refine R_ic (n := 41) C dX11_faultOfEvening_40 ci_0 rfl ?_
              refine R_goto (n := 86) C dX11_faultOfEvening_41 rfl ?_
              refine R_is4 (n := 88) C dX11_faultOfEvening_86 rfl (Nat.le_of_ble_eq_true rfl) rfl ?_
              refine R_il4 (n := 90) C dX11_faultOfEvening_88 rfl ?_
              refine R_if_neN (tgt := 95) C dX11_faultOfEvening_90 rfl rfl (by omega) (fun c9 => ?_) (fun c9 => ?_)
              · exact absurd rfl c9
              · refine R_il2 (n := 94) C dX11_faultOfEvening_93 rfl ?_
                refine R_iret C CR (Nat.zero_le _) (Nat.zero_le _) dX11_faultOfEvening_94 ?_
                refine ⟨by rw [hz], rfl, fun e => ?_, F⟩
                rw [hz] at e
                cases e
            · exact absurd (by decide) c3
  refine R_al0 (n := 1) C dX11_faultOfEvening_0 rfl ?_
  refine R_ic (n := 2) C dX11_faultOfEvening_1 ci_0 rfl ?_
  refine M_putI (n := 5) C fl_X11_135 dX11_faultOfEvening_2 rfl rfl rfl rfl rfl ?_
  refine R_bp (n := 7) C dX11_faultOfEvening_5 cb_m6 rfl ?_
  refine R_is1 (n := 8) C dX11_faultOfEvening_7 rfl (Nat.le_of_ble_eq_true rfl) rfl ?_
  refine R_ic (n := 9) C dX11_faultOfEvening_8 ci_0 rfl ?_
  refine R_is2 (n := 10) C dX11_faultOfEvening_9 rfl (Nat.le_of_ble_eq_true rfl) rfl ?_
  exact loop p.1 0 none [] _ none none (by omega) (by decide) (fun k q => by cases q) hZ.symm hY.symm ⟨up2_same, fun k x hx => by simp at hx⟩ (FrA.rf.fld (by decide))
set_option maxRecDepth 20000 in
set_option maxHeartbeats 4000000 in
theorem m_fault (l : Launch) (D : va_G) (cA : Nat → ClassId) (r : Nat → Nat) {h : Hp} {G : GS} (R : RMo G h) (I : InvG G) (v : Int32) : Cn l D cA yX11_fault cX11_fault 2 (some .int) 3 0 0 [.ref (r 73), .int v] (LY r) h (pG (some (.int (aFault G v))) (LY r) (fun h' => RMo G h' ∧ FrM h h')) := by
  refine Cn.of (lv := [some (.ref (r 73)), some (.int v)]) (by decide +kernel) (Nat.le_of_ble_eq_true rfl) rfl (fun X hnm C CR => ?_)
  refine R_il1 (n := 1) C dX11_fault_0 rfl ?_
  refine R_if_ne (tgt := 11) C dX11_fault_1 rfl rfl (fun c1 => ?_) (fun c1 => ?_)
  · refine R_il1 (n := 12) C dX11_fault_11 rfl ?_
    refine R_ic (n := 13) C dX11_fault_12 ci_1 rfl ?_
    refine R_icmp_ne (tgt := 23) C dX11_fault_13 rfl rfl (fun c2 => ?_) (fun c2 => ?_)
    · have nw : win v (nI 0) (nI 1) = false := by
        cases e : win v (nI 0) (nI 1) with
        | false => rfl
        | true =>
          obtain ⟨x, _, x1, rfl⟩ := win_of (by decide) (by decide) e
          have : x = 0 ∨ x = 1 := by omega
          rcases this with rfl | rfl
          · exact absurd rfl c1
          · exact absurd rfl c2
      refine R_bp (n := 25) C dX11_fault_23 cb_m2 rfl ?_
      refine R_iret C CR (Nat.zero_le _) (Nat.zero_le _) dX11_fault_25 ?_
      exact ⟨by rw [aFault, nw]; rfl, rfl, R, FrM.rf⟩
    · subst c2
      refine R_al0 (n := 17) C dX11_fault_16 rfl ?_
      refine M_callV (n := 20) C (c_mFaultOfEvening _ _ _ r R.1 I.1 R.2.1 I.2.1) mw_X11_faultOfEvening ml_X11_149 iv_X11_faultOfEvening dX11_fault_17 rfl rfl rfl rfl (Nat.le_of_ble_eq_true rfl) ⟨Nat.le_of_ble_eq_true rfl, Nat.le_of_ble_eq_true rfl⟩ ⟨Nat.le_refl _, Nat.le_refl _⟩ rfl (pGs (fun h1 q1 => ?_))
      refine R_goto (n := 25) C dX11_fault_20 rfl ?_
      refine R_iret C CR (Nat.zero_le _) (Nat.zero_le _) dX11_fault_25 ?_
      exact ⟨rfl, rfl, R.t (q1.2.mono (by decide) (by decide))⟩
  · subst c1
    refine R_al0 (n := 5) C dX11_fault_4 rfl ?_
    refine M_callV (n := 8) C (c_mFaultOfSpell _ _ _ r R.1 I.1 R.2.1 I.2.1) mw_X11_faultOfSpell ml_X11_145 iv_X11_faultOfSpell dX11_fault_5 rfl rfl rfl rfl (Nat.le_of_ble_eq_true rfl) ⟨Nat.le_of_ble_eq_true rfl, Nat.le_of_ble_eq_true rfl⟩ ⟨Nat.le_refl _, Nat.le_refl _⟩ rfl (pEs ?_)
    refine R_goto (n := 25) C dX11_fault_8 rfl ?_
    refine R_iret C CR (Nat.zero_le _) (Nat.zero_le _) dX11_fault_25 ?_
    exact ⟨rfl, rfl, R, FrM.rf⟩
