def stW (σ : WS) (w : Nat) (ps : Nat → Nat) (i : Nat) : WS := (σ.1, σ.2.1, σ.2.2.1, fun a b => if a = 5 ∧ 5 * w ≤ b ∧ b < 5 * w + i then ps (b - 5 * w) - 48 else sA σ a b)
theorem stW_0 (σ : WS) (w : Nat) (ps : Nat → Nat) : stW σ w ps 0 = σ := by
  have : (fun a b => if a = 5 ∧ 5 * w ≤ b ∧ b < 5 * w + 0 then ps (b - 5 * w) - 48 else sA σ a b) = sA σ := by
    funext a b
    rw [if_neg (by omega)]
  unfold stW
  rw [this]
  rfl
theorem stW_s (σ : WS) (w : Nat) (ps : Nat → Nat) (i : Nat) : setA (stW σ w ps i) 5 (5 * w + i) (ps i - 48) = stW σ w ps (i + 1) := by
  unfold setA stW
  simp only [sA]
  congr 3
  funext a b
  by_cases h1 : a = 5 ∧ b = 5 * w + i
  · obtain ⟨rfl, rfl⟩ := h1
    rw [if_pos ⟨rfl, rfl⟩, if_pos ⟨rfl, by omega, by omega⟩, show 5 * w + i - 5 * w = i by omega]
  · rw [if_neg h1]
    by_cases h2 : a = 5 ∧ 5 * w ≤ b ∧ b < 5 * w + i
    · rw [if_pos h2, if_pos ⟨h2.1, h2.2.1, by omega⟩]
    · rw [if_neg h2, if_neg (fun h3 => by
        by_cases e : b = 5 * w + i
        · exact h1 ⟨h3.1, e⟩
        · exact h2 ⟨h3.1, h3.2.1, by omega⟩)]
set_option maxRecDepth 20000 in
set_option maxHeartbeats 4000000 in
theorem p_word (l : Launch) (D : va_G) (cA : Nat → ClassId) (r : Nat → Nat) {h : Hp} {G : GS} (R : RCl G h) (I : InvG G) (v : Int32) : Cn l D cA yX10_word cX10_word 3 (some .int) 2 0 0 [.ref (r 0), .int v] (LY r) h (pG (some (.int (aWord G v))) (LY r) (fun h' => RCl (nWord G v) h' ∧ FrC h h')) := by
  refine Cn.of (lv := [some (.ref (r 0)), some (.int v), none]) (by decide +kernel) (Nat.le_of_ble_eq_true rfl) rfl (fun X hnm C CR => ?_)
  have n5 := I.1.n5
  have c60 := I.2.1.1
  have knb := I.1.kn
  refine R_il1 (n := 1) C dX10_word_0 rfl ?_
  refine R_ic (n := 2) C dX10_word_1 ci_0 rfl ?_
  refine R_ic (n := 3) C dX10_word_2 ci_5 rfl ?_
  refine R_callS (n := 6) C (c_isWithin _ _ _ r _ _ _) mw_X10_isWithin ml_X10_92 sv_X10_isWithin dX10_word_3 rfl rfl (Nat.le_of_ble_eq_true rfl) ⟨Nat.le_of_ble_eq_true rfl, Nat.le_of_ble_eq_true rfl⟩ ⟨Nat.le_refl _, Nat.le_refl _⟩ rfl (pEs ?_)
  refine R_if_neB (tgt := 11) C dX10_word_6 rfl rfl (fun c1 => ?_) (fun c1 => ?_)
  · obtain ⟨w, _, hw, rfl⟩ := win_of (by decide) (by decide) c1
    have wc : cl (nI w) = w := nI_clamp (by omega)
    refine R_al0 (n := 12) C dX10_word_11 rfl ?_
    refine M_getR (n := 15) C fl_X10_27 dX10_word_12 rfl rfl rfl ?_
    refine R_al0 (n := 16) C dX10_word_15 rfl ?_
    refine M_getR (n := 19) C fl_X10_12 dX10_word_16 rfl rfl rfl ?_
    refine M_getI (n := 22) C fl_X10_80 dX10_word_19 rfl rfl (wN R.1) rfl ?_
    refine M_callV (n := 25) C (c_spellFault _ _ _ r R.2.1 I.2.1 n5) mw_X4_spellFault ml_X10_115 iv_X4_spellFault dX10_word_22 rfl rfl rfl rfl (Nat.le_of_ble_eq_true rfl) ⟨Nat.le_of_ble_eq_true rfl, Nat.le_of_ble_eq_true rfl⟩ ⟨Nat.le_refl _, Nat.le_refl _⟩ rfl (pEs ?_)
    refine R_bp (n := 27) C dX10_word_25 cb_m6 rfl ?_
    refine R_icmp_eq (tgt := 33) C dX10_word_27 rfl rfl (fun c2 => ?_) (fun c2 => ?_)
    · rw [aWord, nWord, okW, c1, if_pos rfl, if_pos c2, decide_eq_true c2, Bool.and_self, if_pos rfl, wc] at CR
      obtain ⟨s1, s2⟩ := spz_eq c60 c2
      have ob := orz_lt _ knb w (by omega)
      have loop : ∀ (m i : Nat) (h1 : Hp), sN (gS G) < i + m → i ≤ sN (gS G) → RW 1 (stW (gS G) w (gP G).2 i) h1 → (∀ a, a ≠ 7 → h1 a = h a) → Rn X 0 0 35 [some (.ref (r 0)), some (.int (nI w)), some (.int (nI i))] [] (LY r) h1 := by
        intro m
        induction m with
        | zero => intro i h1 a1 a2; omega
        | succ m ih =>
          intro i h1 a1 a2 R1 F1
          have P1 : RP (gP G) h1 := ⟨by rw [F1 13 (by decide)]; exact R.2.1.1, fun k hk => by rw [F1 14 (by decide)]; exact R.2.1.2 k hk⟩
          refine R_il2 (n := 36) C dX10_word_35 rfl ?_
          refine R_al0 (n := 37) C dX10_word_36 rfl ?_
          refine M_getR (n := 40) C fl_X10_12 dX10_word_37 rfl rfl rfl ?_
          refine M_getI (n := 43) C fl_X10_80 dX10_word_40 rfl rfl (show _ = nI (sN (gS G)) from R1.1) rfl ?_
          refine R_icmp_geN (tgt := 76) C dX10_word_43 rfl rfl (by omega) (by omega) (fun c3 => ?_) (fun c3 => ?_)
          · have e9 : h1 1 1 = nI (sKn (gS G)) := R1.2.1
            refine R_al0 (n := 77) C dX10_word_76 rfl ?_
            refine M_getR (n := 80) C fl_X10_12 dX10_word_77 rfl rfl rfl ?_
            refine R_dup (n := 81) C dX10_word_80 rfl rfl ?_
            refine M_getI (n := 84) C fl_X10_128 dX10_word_81 rfl rfl e9 rfl ?_
            refine R_ic (n := 85) C dX10_word_84 ci_1 rfl ?_
            refine R_il1 (n := 86) C dX10_word_85 rfl ?_
            refine R_ishlN (n := 87) C dX10_word_86 (by omega) (sh1 (by omega)) rfl ?_
            refine R_iorN (n := 88) C dX10_word_87 rfl ?_
            refine R_eq (y := nI (sKn (gS G) ||| 2 ^ w)) (by rw [Nat.one_mul]) ?_
            have P2 : RP (gP G) (up2 h1 1 1 (nI (sKn (gS G) ||| 2 ^ w))) := ⟨up2_get (by decide) P1.1, fun k hk => up2_get (by decide) (P1.2 k hk)⟩
            refine M_putI (n := 91) C fl_X10_128 dX10_word_88 rfl rfl rfl rfl rfl ?_
            refine R_al0 (n := 92) C dX10_word_91 rfl ?_
            refine M_getR (n := 95) C fl_X10_27 dX10_word_92 rfl rfl rfl ?_
            refine M_callV (n := 98) C (c_padClear _ _ _ r P2) mw_X4_clear ml_X10_111 iv_X4_clear dX10_word_95 rfl rfl rfl rfl (Nat.le_of_ble_eq_true rfl) ⟨Nat.le_of_ble_eq_true rfl, Nat.le_of_ble_eq_true rfl⟩ ⟨Nat.le_refl _, Nat.le_refl _⟩ rfl (pEs ?_)
            refine R_pop (n := 99) C dX10_word_98 rfl rfl ?_
            refine R_al0 (n := 100) C dX10_word_99 rfl ?_
            refine M_getR (n := 103) C fl_X10_12 dX10_word_100 rfl rfl rfl ?_
            refine M_getI (n := 106) C fl_X10_128 dX10_word_103 rfl rfl (up2_get (by decide) up2_same) rfl ?_
            refine R_callS (n := 109) C (c_bitCount _ _ _ r ob) mw_J6_bitCount_0f7a4 ml_X10_131 sv_J6_bitCount_0f7a4 dX10_word_106 rfl rfl (Nat.le_of_ble_eq_true rfl) ⟨Nat.le_of_ble_eq_true rfl, Nat.le_of_ble_eq_true rfl⟩ ⟨Nat.le_refl _, Nat.le_refl _⟩ rfl (pEs ?_)
            refine R_iret C CR (Nat.zero_le _) (Nat.zero_le _) dX10_word_109 ?_
            refine ⟨rfl, rfl, ?_, fun a ha => by rw [up2_row (by omega), up2_row (by omega)]; exact F1 a (by omega)⟩
            have Rw : RW 1 (setW (gS G) w (gP G).2) (up2 h1 1 1 (nI (sKn (gS G) ||| 2 ^ w))) := by
              have R1' : RW 1 (stW (gS G) w (gP G).2 (sN (gS G))) h1 := by rw [show sN (gS G) = i by omega]; exact R1
              refine ⟨up2_gne (by decide) R1'.1, up2_same, up2_gne (by decide) R1'.2.2.1, fun j k hj hk => ?_⟩
              rw [up2_row (by omega)]
              exact R1'.2.2.2 j k hj hk
            have R3 : RCl (mkS G (setW (gS G) w (gP G).2)) (up2 h1 1 1 (nI (sKn (gS G) ||| 2 ^ w))) := R.wood Rw (fun a ha => by rw [up2_row (by omega)]; exact F1 a (by omega))
            refine R3.pad ⟨up2_same, fun k hk => ?_⟩ (fun a b1 b2 => up2_row b1)
            rw [up2_row (by decide)]
            exact P2.2 k hk
          · have b1 := s2 i c3
            refine R_al0 (n := 47) C dX10_word_46 rfl ?_
            refine M_getR (n := 50) C fl_X10_12 dX10_word_47 rfl rfl rfl ?_
            refine M_getR (n := 53) C fl_X10_121 dX10_word_50 rfl rfl rfl ?_
            refine R_il1 (n := 54) C dX10_word_53 rfl ?_
            refine R_ic (n := 55) C dX10_word_54 ci_5 rfl ?_
            refine R_imulN (n := 56) C dX10_word_55 rfl ?_
            refine R_il2 (n := 57) C dX10_word_56 rfl ?_
            refine R_iaddN (n := 58) C dX10_word_57 rfl ?_
            refine R_al0 (n := 59) C dX10_word_58 rfl ?_
            refine M_getR (n := 62) C fl_X10_27 dX10_word_59 rfl rfl rfl ?_
            refine R_il2 (n := 63) C dX10_word_62 rfl ?_
            refine M_callV (n := 66) C (c_signAt _ _ _ r P1 I.2.1 (by omega)) mw_X4_signAt ml_X10_125 iv_X4_signAt dX10_word_63 rfl rfl rfl rfl (Nat.le_of_ble_eq_true rfl) ⟨Nat.le_of_ble_eq_true rfl, Nat.le_of_ble_eq_true rfl⟩ ⟨Nat.le_refl _, Nat.le_refl _⟩ rfl (pEs ?_)
            refine R_bp (n := 68) C dX10_word_66 cb_48 rfl ?_
            refine R_isubN (n := 69) C dX10_word_68 (by omega) rfl ?_
            refine M_iast (n := 70) C dX10_word_69 rfl (by omega) rfl ?_
            refine R_inc2 (n := 73) C dX10_word_70 rfl (Nat.le_of_ble_eq_true rfl) (inc_1 _) rfl ?_
            refine R_goto (n := 35) C dX10_word_73 rfl ?_
            refine ih (i + 1) _ (by omega) (by omega) ?_ (fun a ha => by rw [up2_row ha]; exact F1 a ha)
            rw [← stW_s, show w * 5 + i = 5 * w + i by omega]
            exact R1.set (j := 5)
      refine R_ic (n := 34) C dX10_word_33 ci_0 rfl ?_
      refine R_is2 (n := 35) C dX10_word_34 rfl (Nat.le_of_ble_eq_true rfl) rfl ?_
      exact loop (sN (gS G) + 1) 0 h (by omega) (by omega) (by rw [stW_0]; exact R.1) (fun _ _ => rfl)
    · rw [aWord, nWord, okW, c1, if_pos rfl, if_neg c2, decide_eq_false c2] at CR
      refine R_bp (n := 32) C dX10_word_30 cb_m5 rfl ?_
      refine R_iret C CR (Nat.zero_le _) (Nat.zero_le _) dX10_word_32 ?_
      exact ⟨rfl, rfl, R, FrC.rf⟩
  · rw [aWord, nWord, okW, c1] at CR
    refine R_ic (n := 10) C dX10_word_9 ci_m1 rfl ?_
    refine R_iret C CR (Nat.zero_le _) (Nat.zero_le _) dX10_word_10 ?_
    exact ⟨rfl, rfl, R, FrC.rf⟩
set_option maxRecDepth 20000 in
set_option maxHeartbeats 4000000 in
theorem p_unword (l : Launch) (D : va_G) (cA : Nat → ClassId) (r : Nat → Nat) {h : Hp} {G : GS} (R : RCl G h) (I : InvG G) (v : Int32) : Cn l D cA yX10_unword cX10_unword 2 (some .int) 2 0 0 [.ref (r 0), .int v] (LY r) h (pG (some (.int (aUnword G v))) (LY r) (fun h' => RCl (nUnword G v) h' ∧ FrC h h')) := by
  refine Cn.of (lv := [some (.ref (r 0)), some (.int v)]) (by decide +kernel) (Nat.le_of_ble_eq_true rfl) rfl (fun X hnm C CR => ?_)
  have knb := I.1.kn
  refine R_al0 (n := 1) C dX10_unword_0 rfl ?_
  refine M_getR (n := 4) C fl_X10_12 dX10_unword_1 rfl rfl rfl ?_
  refine R_il1 (n := 5) C dX10_unword_4 rfl ?_
  refine M_callV (n := 8) C (c_knows _ _ _ r R.1 I.1 v) mw_X9_knows ml_X10_136 iv_X9_knows dX10_unword_5 rfl rfl rfl rfl (Nat.le_of_ble_eq_true rfl) ⟨Nat.le_of_ble_eq_true rfl, Nat.le_of_ble_eq_true rfl⟩ ⟨Nat.le_refl _, Nat.le_refl _⟩ rfl (pEs ?_)
  refine R_if_neB (tgt := 13) C dX10_unword_8 rfl rfl (fun c1 => ?_) (fun c1 => ?_)
  · obtain ⟨w, hw, rfl, _⟩ := kwz_of c1
    have wc : cl (nI w) = w := nI_clamp (by omega)
    rw [aUnword, nUnword, c1, if_pos rfl, if_pos rfl, wc] at CR
    refine R_al0 (n := 14) C dX10_unword_13 rfl ?_
    refine M_getR (n := 17) C fl_X10_12 dX10_unword_14 rfl rfl rfl ?_
    refine R_dup (n := 18) C dX10_unword_17 rfl rfl ?_
    refine M_getI (n := 21) C fl_X10_128 dX10_unword_18 rfl rfl (wKn R.1) rfl ?_
    refine R_ic (n := 22) C dX10_unword_21 ci_1 rfl ?_
    refine R_il1 (n := 23) C dX10_unword_22 rfl ?_
    refine R_ishlN (n := 24) C dX10_unword_23 (by omega) (sh1 (by omega)) rfl ?_
    refine R_ic (n := 25) C dX10_unword_24 ci_m1 rfl ?_
    refine R_ixor (n := 26) C dX10_unword_25 rfl ?_
    refine R_iand (n := 27) C dX10_unword_26 rfl (R_eq (clz_ok _ knb w hw) ?_)
    refine M_putI (n := 30) C fl_X10_128 dX10_unword_27 rfl rfl rfl rfl rfl ?_
    refine R_al0 (n := 31) C dX10_unword_30 rfl ?_
    refine M_getR (n := 34) C fl_X10_12 dX10_unword_31 rfl rfl rfl ?_
    refine M_getI (n := 37) C fl_X10_128 dX10_unword_34 rfl rfl up2_same rfl ?_
    refine R_callS (n := 40) C (c_bitCount _ _ _ r (clz_lt _ knb w hw)) mw_J6_bitCount_0f7a4 ml_X10_131 sv_J6_bitCount_0f7a4 dX10_unword_37 rfl rfl (Nat.le_of_ble_eq_true rfl) ⟨Nat.le_of_ble_eq_true rfl, Nat.le_of_ble_eq_true rfl⟩ ⟨Nat.le_refl _, Nat.le_refl _⟩ rfl (pEs ?_)
    refine R_iret C CR (Nat.zero_le _) (Nat.zero_le _) dX10_unword_40 ?_
    refine ⟨rfl, rfl, R.wood ⟨up2_gne (by decide) R.1.1, up2_same, up2_gne (by decide) R.1.2.2.1, fun j k hj hk => ?_⟩ (fun a ha => up2_row (by omega)), FrC.rf.up (by decide)⟩
    rw [up2_row (by omega)]
    exact R.1.2.2.2 j k hj hk
  · rw [aUnword, nUnword, c1] at CR
    refine R_ic (n := 12) C dX10_unword_11 ci_m1 rfl ?_
    refine R_iret C CR (Nat.zero_le _) (Nat.zero_le _) dX10_unword_12 ?_
    exact ⟨rfl, rfl, R, FrC.rf⟩
theorem win_f {v : Int32} {a b : Nat} (ha : a < 2 ^ 31) (hb : b < 2 ^ 31) (h : win v (nI a) (nI b) = false) : v.toInt < a ∨ (b : Int) < v.toInt := by
  unfold win at h
  rw [Bool.and_eq_false_iff] at h
  rcases h with h | h
  · left
    have := of_decide_eq_false h
    have := Int32.lt_iff_toInt_lt.mp (Int32.not_le.mp this)
    rw [nI_toInt ha] at this
    exact this
  · right
    have := of_decide_eq_false h
    have := Int32.lt_iff_toInt_lt.mp (Int32.not_le.mp this)
    rw [nI_toInt hb] at this
    exact this
theorem win_neg {v : Int32} {a b : Nat} (ha : a < 2 ^ 31) (h : v < 0) : win v (nI a) (nI b) = false := by
  apply win_lo
  have h1 := Int32.lt_iff_toInt_lt.mp h
  rw [Int32.lt_iff_toInt_lt, nI_toInt ha]
  have : (0 : Int32).toInt = 0 := rfl
  omega
theorem bm32 {z : Int} (h1 : -2147483648 ≤ z) (h2 : z < 2147483648) : z.bmod (2 ^ 32) = z := by
  rw [Int.bmod_def]
  split <;> omega
theorem div10_neg {v : Int32} (h : v < 0) : v / nI 10 - nI 1 < 0 := by
  have h1 := Int32.lt_iff_toInt_lt.mp h
  have z : (0 : Int32).toInt = 0 := rfl
  rw [z] at h1
  have r := Int32.le_toInt v
  have e1 : (nI 10).toInt = 10 := by decide
  have e2 : (nI 1).toInt = 1 := by decide
  have e3 : v.toInt.tdiv 10 = -((-v.toInt) / 10) := by
    have e : v.toInt = -(-v.toInt) := by omega
    rw [e, Int.neg_tdiv, Int.tdiv_eq_ediv_of_nonneg (by omega), Int.neg_neg]
  rw [Int32.lt_iff_toInt_lt, z, Int32.toInt_sub, Int32.toInt_div, e1, e2, e3, bm32 (z := -((-v.toInt) / 10)) (by omega) (by omega), bm32 (z := -((-v.toInt) / 10) - 1) (by omega) (by omega)]
  omega
set_option maxRecDepth 20000 in
set_option maxHeartbeats 4000000 in
theorem c_toldOfHut (l : Launch) (D : va_G) (cA : Nat → ClassId) (r : Nat → Nat) {h : Hp} {σ : WS} (R : RW 1 σ h) (I : Inv σ) (hu wh : Int32) : Cn l D cA yX10_toldOfHut cX10_toldOfHut 3 (some .int) 2 0 0 [.ref (r 0), .int hu, .int wh] (LY r) h (pE (some (.int (if hasH σ hu then (if win wh (nI 0) (nI 4) then toH σ (cl hu) (cl wh) else -2) else -2))) (LY r) h) := by
  refine Cn.of (lv := [some (.ref (r 0)), some (.int hu), some (.int wh)]) (by decide +kernel) (Nat.le_of_ble_eq_true rfl) rfl (fun X hnm C CR => ?_)
  have n5 := I.n5
  refine R_al0 (n := 1) C dX10_toldOfHut_0 rfl ?_
  refine M_getR (n := 4) C fl_X10_12 dX10_toldOfHut_1 rfl rfl rfl ?_
  refine R_il1 (n := 5) C dX10_toldOfHut_4 rfl ?_
  refine M_callV (n := 8) C (c_hasHut _ _ _ r R I hu) mw_X9_hasHut ml_X10_88 iv_X9_hasHut dX10_toldOfHut_5 rfl rfl rfl rfl (Nat.le_of_ble_eq_true rfl) ⟨Nat.le_of_ble_eq_true rfl, Nat.le_of_ble_eq_true rfl⟩ ⟨Nat.le_refl _, Nat.le_refl _⟩ rfl (pEs ?_)
  refine R_if_neB (tgt := 14) C dX10_toldOfHut_8 rfl rfl (fun c1 => ?_) (fun c1 => ?_)
  · obtain ⟨k, hk, rfl, hk2⟩ := hasH_of I c1
    have c1' : hasH σ (nI k) = true := c1
    rw [c1', if_pos rfl, hk2] at CR
    refine R_il2 (n := 15) C dX10_toldOfHut_14 rfl ?_
    cases c2 : win wh (nI 0) (nI 4) with
    | false =>
      rw [c2] at CR
      refine R_tabOut (n := 98) C dX10_toldOfHut_15 (win_f (by decide) (by decide) c2) rfl ?_
      refine R_bp (n := 100) C dX10_toldOfHut_98 cb_m2 rfl ?_
      refine R_iret C CR (Nat.zero_le _) (Nat.zero_le _) dX10_toldOfHut_100 ?_
      exact ⟨rfl, rfl, rfl⟩
    | true =>
      obtain ⟨x, _, hx, rfl⟩ := win_of (by decide) (by decide) c2
      have xc : cl (nI x) = x := nI_clamp (by omega)
      rw [c2, if_pos rfl, xc, toH, if_pos hk] at CR
      obtain rfl | rfl | rfl | rfl | rfl : x = 0 ∨ x = 1 ∨ x = 2 ∨ x = 3 ∨ x = 4 := by omega
      · refine R_tabIn (n := 48) (off := 33) C dX10_toldOfHut_15 (by decide) (by decide) rfl rfl ?_
        refine R_al0 (n := 49) C dX10_toldOfHut_48 rfl ?_
        refine M_getR (n := 52) C fl_X10_12 dX10_toldOfHut_49 rfl rfl rfl ?_
        refine M_getR (n := 55) C fl_X10_168 dX10_toldOfHut_52 rfl rfl rfl ?_
        refine R_il1 (n := 56) C dX10_toldOfHut_55 rfl ?_
        refine M_iald (n := 57) C dX10_toldOfHut_56 rfl (by omega) (wLk R (by omega)) rfl ?_
        refine R_iret C CR (Nat.zero_le _) (Nat.zero_le _) dX10_toldOfHut_57 ?_
        exact ⟨rfl, rfl, rfl⟩
      · refine R_tabIn (n := 58) (off := 43) C dX10_toldOfHut_15 (by decide) (by decide) rfl rfl ?_
        refine R_al0 (n := 59) C dX10_toldOfHut_58 rfl ?_
        refine M_getR (n := 62) C fl_X10_12 dX10_toldOfHut_59 rfl rfl rfl ?_
        refine M_getR (n := 65) C fl_X10_169 dX10_toldOfHut_62 rfl rfl rfl ?_
        refine R_il1 (n := 66) C dX10_toldOfHut_65 rfl ?_
        refine M_iald (n := 67) C dX10_toldOfHut_66 rfl (by omega) (wLg R (by omega)) rfl ?_
        refine R_iret C CR (Nat.zero_le _) (Nat.zero_le _) dX10_toldOfHut_67 ?_
        exact ⟨rfl, rfl, rfl⟩
      · refine R_tabIn (n := 68) (off := 53) C dX10_toldOfHut_15 (by decide) (by decide) rfl rfl ?_
        refine R_al0 (n := 69) C dX10_toldOfHut_68 rfl ?_
        refine M_getR (n := 72) C fl_X10_12 dX10_toldOfHut_69 rfl rfl rfl ?_
        refine M_getR (n := 75) C fl_X10_310 dX10_toldOfHut_72 rfl rfl rfl ?_
        refine R_il1 (n := 76) C dX10_toldOfHut_75 rfl ?_
        refine M_iald (n := 77) C dX10_toldOfHut_76 rfl (by omega) (wMo R (by omega)) rfl ?_
        refine R_iret C CR (Nat.zero_le _) (Nat.zero_le _) dX10_toldOfHut_77 ?_
        exact ⟨rfl, rfl, rfl⟩
      · refine R_tabIn (n := 78) (off := 63) C dX10_toldOfHut_15 (by decide) (by decide) rfl rfl ?_
        refine R_al0 (n := 79) C dX10_toldOfHut_78 rfl ?_
        refine M_getR (n := 82) C fl_X10_12 dX10_toldOfHut_79 rfl rfl rfl ?_
        refine M_getR (n := 85) C fl_X10_313 dX10_toldOfHut_82 rfl rfl rfl ?_
        refine R_il1 (n := 86) C dX10_toldOfHut_85 rfl ?_
        refine M_iald (n := 87) C dX10_toldOfHut_86 rfl (by omega) (wKd R (by omega)) rfl ?_
        refine R_iret C CR (Nat.zero_le _) (Nat.zero_le _) dX10_toldOfHut_87 ?_
        exact ⟨rfl, rfl, rfl⟩
      · refine R_tabIn (n := 88) (off := 73) C dX10_toldOfHut_15 (by decide) (by decide) rfl rfl ?_
        refine R_al0 (n := 89) C dX10_toldOfHut_88 rfl ?_
        refine M_getR (n := 92) C fl_X10_12 dX10_toldOfHut_89 rfl rfl rfl ?_
        refine M_getR (n := 95) C fl_X10_316 dX10_toldOfHut_92 rfl rfl rfl ?_
        refine R_il1 (n := 96) C dX10_toldOfHut_95 rfl ?_
        refine M_iald (n := 97) C dX10_toldOfHut_96 rfl (by omega) (wCe R (by omega)) rfl ?_
        refine R_iret C CR (Nat.zero_le _) (Nat.zero_le _) dX10_toldOfHut_97 ?_
        exact ⟨rfl, rfl, rfl⟩
  · have c1' : hasH σ hu = false := c1
    rw [c1'] at CR
    refine R_bp (n := 13) C dX10_toldOfHut_11 cb_m2 rfl ?_
    refine R_iret C CR (Nat.zero_le _) (Nat.zero_le _) dX10_toldOfHut_13 ?_
    exact ⟨rfl, rfl, rfl⟩
set_option maxRecDepth 20000 in
set_option maxHeartbeats 4000000 in
theorem c_toldOfWord (l : Launch) (D : va_G) (cA : Nat → ClassId) (r : Nat → Nat) {h : Hp} {σ : WS} (R : RW 1 σ h) (I : Inv σ) {w k : Nat} (hw : w < 2 ^ 31) (hk : k < 2 ^ 31) : Cn l D cA yX10_toldOfWord cX10_toldOfWord 3 (some .int) 2 0 0 [.ref (r 0), .int (nI w), .int (nI k)] (LY r) h (pE (some (.int (if (decide (w < 6) && (sKn σ).testBit w) && decide (k < sN σ) then nI (sA σ 5 (5 * w + k)) else -2))) (LY r) h) := by
  refine Cn.of (lv := [some (.ref (r 0)), some (.int (nI w)), some (.int (nI k))]) (by decide +kernel) (Nat.le_of_ble_eq_true rfl) rfl (fun X hnm C CR => ?_)
  have n5 := I.n5
  have n1 := I.n1
  have e1 : kwz (sKn σ) (nI w) = (decide (w < 6) && (sKn σ).testBit w) := by
    unfold kwz
    rw [win_nI hw (by decide) (by decide), nI_clamp hw, decide_eq_true (Nat.zero_le w), Bool.true_and, show decide (w ≤ 5) = decide (w < 6) from decide_eq_decide.mpr (by omega)]
  have e2 : win (nI k) (nI 0) (nI (sN σ - 1)) = decide (k < sN σ) := by
    rw [win_nI hk (by decide) (by omega)]
    simp
    omega
  refine R_al0 (n := 1) C dX10_toldOfWord_0 rfl ?_
  refine M_getR (n := 4) C fl_X10_12 dX10_toldOfWord_1 rfl rfl rfl ?_
  refine R_il1 (n := 5) C dX10_toldOfWord_4 rfl ?_
  refine M_callV (n := 8) C (c_knows _ _ _ r R I _) mw_X9_knows ml_X10_136 iv_X9_knows dX10_toldOfWord_5 rfl rfl rfl rfl (Nat.le_of_ble_eq_true rfl) ⟨Nat.le_of_ble_eq_true rfl, Nat.le_of_ble_eq_true rfl⟩ ⟨Nat.le_refl _, Nat.le_refl _⟩ rfl (pEs ?_)
  rw [e1]
  refine R_if_eqB (tgt := 22) C dX10_toldOfWord_8 rfl rfl (fun c1 => ?_) (fun c1 => ?_)
  · rw [c1] at CR
    refine R_bp (n := 24) C dX10_toldOfWord_22 cb_m2 rfl ?_
    refine R_iret C CR (Nat.zero_le _) (Nat.zero_le _) dX10_toldOfWord_24 ?_
    exact ⟨rfl, rfl, rfl⟩
  · rw [c1, Bool.true_and] at CR
    have w6 : w < 6 := by simp at c1; exact c1.1
    refine R_al0 (n := 12) C dX10_toldOfWord_11 rfl ?_
    refine M_getR (n := 15) C fl_X10_12 dX10_toldOfWord_12 rfl rfl rfl ?_
    refine R_il2 (n := 16) C dX10_toldOfWord_15 rfl ?_
    refine M_callV (n := 19) C (c_hasHut _ _ _ r R I _) mw_X9_hasHut ml_X10_88 iv_X9_hasHut dX10_toldOfWord_16 rfl rfl rfl rfl (Nat.le_of_ble_eq_true rfl) ⟨Nat.le_of_ble_eq_true rfl, Nat.le_of_ble_eq_true rfl⟩ ⟨Nat.le_refl _, Nat.le_refl _⟩ rfl (pEs ?_)
    rw [e2]
    refine R_if_neB (tgt := 25) C dX10_toldOfWord_19 rfl rfl (fun c2 => ?_) (fun c2 => ?_)
    · rw [c2, if_pos rfl] at CR
      have k5 : k < sN σ := of_decide_eq_true c2
      refine R_al0 (n := 26) C dX10_toldOfWord_25 rfl ?_
      refine M_getR (n := 29) C fl_X10_12 dX10_toldOfWord_26 rfl rfl rfl ?_
      refine M_getR (n := 32) C fl_X10_121 dX10_toldOfWord_29 rfl rfl rfl ?_
      refine R_il1 (n := 33) C dX10_toldOfWord_32 rfl ?_
      refine R_ic (n := 34) C dX10_toldOfWord_33 ci_5 rfl ?_
      refine R_imulN (n := 35) C dX10_toldOfWord_34 rfl ?_
      refine R_il2 (n := 36) C dX10_toldOfWord_35 rfl ?_
      refine R_iaddN (n := 37) C dX10_toldOfWord_36 rfl ?_
      refine M_iald (n := 38) C dX10_toldOfWord_37 rfl (by omega) (wTu R (by omega)) rfl ?_
      refine R_iret C CR (Nat.zero_le _) (Nat.zero_le _) dX10_toldOfWord_38 ?_
      exact ⟨by rw [Nat.mul_comm], rfl, rfl⟩
    · rw [c2] at CR
      refine R_bp (n := 24) C dX10_toldOfWord_22 cb_m2 rfl ?_
      refine R_iret C CR (Nat.zero_le _) (Nat.zero_le _) dX10_toldOfWord_24 ?_
      exact ⟨rfl, rfl, rfl⟩
set_option maxRecDepth 20000 in
set_option maxHeartbeats 4000000 in
theorem p_told (l : Launch) (D : va_G) (cA : Nat → ClassId) (r : Nat → Nat) {h : Hp} {G : GS} (R : RCl G h) (I : InvG G) (v : Int32) : Cn l D cA yX10_told cX10_told 2 (some .int) 3 0 0 [.ref (r 0), .int v] (LY r) h (pG (some (.int (aTold G v))) (LY r) (fun h' => RCl G h' ∧ FrC h h')) := by
  refine Cn.of (lv := [some (.ref (r 0)), some (.int v)]) (by decide +kernel) (Nat.le_of_ble_eq_true rfl) rfl (fun X hnm C CR => ?_)
  have n5 := I.1.n5
  have n1 := I.1.n1
  refine R_il1 (n := 1) C dX10_told_0 rfl ?_
  cases c1 : win v (nI 0) (nI 4) with
  | true =>
    obtain ⟨x, _, hx, rfl⟩ := win_of (by decide) (by decide) c1
    have xc : cl (nI x) = x := nI_clamp (by omega)
    rw [aTold, c1, if_pos rfl, xc] at CR
    obtain rfl | rfl | rfl | rfl | rfl : x = 0 ∨ x = 1 ∨ x = 2 ∨ x = 3 ∨ x = 4 := by omega
    · refine R_tabIn (n := 36) (off := 35) C dX10_told_1 (by decide) (by decide) rfl rfl ?_
      refine R_al0 (n := 37) C dX10_told_36 rfl ?_
      refine M_getR (n := 40) C fl_X10_27 dX10_told_37 rfl rfl rfl ?_
      refine M_getI (n := 43) C fl_X10_301 dX10_told_40 rfl rfl R.2.1.1 rfl ?_
      refine R_iret C CR (Nat.zero_le _) (Nat.zero_le _) dX10_told_43 ?_
      exact ⟨rfl, rfl, R, FrC.rf⟩
    · refine R_tabIn (n := 44) (off := 43) C dX10_told_1 (by decide) (by decide) rfl rfl ?_
      refine R_al0 (n := 45) C dX10_told_44 rfl ?_
      refine M_getR (n := 48) C fl_X10_12 dX10_told_45 rfl rfl rfl ?_
      refine M_getI (n := 51) C fl_X10_80 dX10_told_48 rfl rfl (wN R.1) rfl ?_
      refine R_iret C CR (Nat.zero_le _) (Nat.zero_le _) dX10_told_51 ?_
      exact ⟨rfl, rfl, R, FrC.rf⟩
    · refine R_tabIn (n := 52) (off := 51) C dX10_told_1 (by decide) (by decide) rfl rfl ?_
      refine R_al0 (n := 53) C dX10_told_52 rfl ?_
      refine M_getR (n := 56) C fl_X10_12 dX10_told_53 rfl rfl rfl ?_
      refine M_getI (n := 59) C fl_X10_128 dX10_told_56 rfl rfl (wKn R.1) rfl ?_
      refine R_iret C CR (Nat.zero_le _) (Nat.zero_le _) dX10_told_59 ?_
      exact ⟨rfl, rfl, R, FrC.rf⟩
    · refine R_tabIn (n := 60) (off := 59) C dX10_told_1 (by decide) (by decide) rfl rfl ?_
      refine R_al0 (n := 61) C dX10_told_60 rfl ?_
      refine M_getR (n := 64) C fl_X10_12 dX10_told_61 rfl rfl rfl ?_
      refine M_getI (n := 67) C fl_X10_249 dX10_told_64 rfl rfl (wSg R.1) rfl ?_
      refine R_iret C CR (Nat.zero_le _) (Nat.zero_le _) dX10_told_67 ?_
      exact ⟨rfl, rfl, R, FrC.rf⟩
    · refine R_tabIn (n := 68) (off := 67) C dX10_told_1 (by decide) (by decide) rfl rfl ?_
      refine R_al0 (n := 69) C dX10_told_68 rfl ?_
      refine M_getR (n := 72) C fl_X10_12 dX10_told_69 rfl rfl rfl ?_
      refine M_callV (n := 75) C (c_number _ _ _ r R.1 I.1) mw_X9_number ml_X10_234 iv_X9_number dX10_told_72 rfl rfl rfl rfl (Nat.le_of_ble_eq_true rfl) ⟨Nat.le_of_ble_eq_true rfl, Nat.le_of_ble_eq_true rfl⟩ ⟨Nat.le_refl _, Nat.le_refl _⟩ rfl (pEs ?_)
      refine R_iret C CR (Nat.zero_le _) (Nat.zero_le _) dX10_told_75 ?_
      exact ⟨rfl, rfl, R, FrC.rf⟩
  | false =>
    have w1 := win_f (by decide) (by decide) c1
    refine R_tabOut (n := 76) C dX10_told_1 w1 rfl ?_
    rw [aTold, c1, if_neg (by decide)] at CR
    refine R_il1 (n := 77) C dX10_told_76 rfl ?_
    refine R_bp (n := 79) C dX10_told_77 cb_100 rfl ?_
    refine R_icmp_ge (tgt := 99) C dX10_told_79 rfl rfl (fun c2 => ?_) (fun c2 => ?_)
    · have v0 : ¬ v < 0 := fun q => by
        have q1 := Int32.le_iff_toInt_le.mp c2
        have q2 := Int32.lt_iff_toInt_lt.mp q
        have z : (0 : Int32).toInt = 0 := rfl
        rw [nI_toInt (by decide)] at q1
        omega
      obtain ⟨x, hx, rfl⟩ := nI_of v0
      have xc : cl (nI x) = x := nI_clamp hx
      have x100 : 100 ≤ x := (nI_leI (by decide) hx).mp c2
      rw [win_nI hx (by decide) (by decide), decide_eq_false (show ¬ x ≤ 59 by omega), Bool.and_false, if_neg (by decide), win_nI hx (by decide) (by decide), decide_eq_true x100, Bool.true_and, xc] at CR
      refine R_al0 (n := 100) C dX10_told_99 rfl ?_
      refine R_il1 (n := 101) C dX10_told_100 rfl ?_
      refine R_bp (n := 103) C dX10_told_101 cb_100 rfl ?_
      refine R_idivN (n := 104) C dX10_told_103 (by omega) (by omega) (by omega) rfl ?_
      refine R_ic (n := 105) C dX10_told_104 ci_1 rfl ?_
      refine R_isubN (n := 106) C dX10_told_105 (by omega) rfl ?_
      refine R_il1 (n := 107) C dX10_told_106 rfl ?_
      refine R_bp (n := 109) C dX10_told_107 cb_100 rfl ?_
      refine R_iremN (n := 110) C dX10_told_109 (by omega) (by omega) (by omega) rfl ?_
      refine M_callV (n := 113) C (c_toldOfWord _ _ _ r R.1 I.1 (by omega) (by omega)) mw_X10_toldOfWord ml_X10_307 iv_X10_toldOfWord dX10_told_110 rfl rfl rfl rfl (Nat.le_of_ble_eq_true rfl) ⟨Nat.le_of_ble_eq_true rfl, Nat.le_of_ble_eq_true rfl⟩ ⟨Nat.le_refl _, Nat.le_refl _⟩ rfl (pEs ?_)
      refine R_iret C CR (Nat.zero_le _) (Nat.zero_le _) dX10_told_113 ?_
      refine ⟨?_, rfl, R, FrC.rf⟩
      by_cases h7 : x ≤ 699
      · rw [decide_eq_true h7, if_pos rfl, decide_eq_true (show x / 100 - 1 < 6 by omega), Bool.true_and]
      · rw [decide_eq_false h7, decide_eq_false (show ¬ x / 100 - 1 < 6 by omega)]
        rfl
    · by_cases v0 : v < 0
      · rw [win_neg (by decide) v0, win_neg (by decide) v0] at CR
        have hh : hasH (gS G) (v / nI 10 - nI 1) = false := win_neg (by decide) (div10_neg v0)
        refine R_al0 (n := 83) C dX10_told_82 rfl ?_
        refine R_il1 (n := 84) C dX10_told_83 rfl ?_
        refine R_bp (n := 86) C dX10_told_84 cb_10 rfl ?_
        refine R_idiv (n := 87) C dX10_told_86 (by decide) rfl ?_
        refine R_ic (n := 88) C dX10_told_87 ci_1 rfl ?_
        refine R_isub (n := 89) C dX10_told_88 rfl ?_
        refine R_il1 (n := 90) C dX10_told_89 rfl ?_
        refine R_bp (n := 92) C dX10_told_90 cb_10 rfl ?_
        refine R_irem (n := 93) C dX10_told_92 (by decide) rfl ?_
        refine M_callV (n := 96) C (c_toldOfHut _ _ _ r R.1 I.1 _ _) mw_X10_toldOfHut ml_X10_304 iv_X10_toldOfHut dX10_told_93 rfl rfl rfl rfl (Nat.le_of_ble_eq_true rfl) ⟨Nat.le_of_ble_eq_true rfl, Nat.le_of_ble_eq_true rfl⟩ ⟨Nat.le_refl _, Nat.le_refl _⟩ rfl (pEs ?_)
        refine R_goto (n := 113) C dX10_told_96 rfl ?_
        refine R_iret C CR (Nat.zero_le _) (Nat.zero_le _) dX10_told_113 ?_
        exact ⟨by rw [hh]; rfl, rfl, R, FrC.rf⟩
      · obtain ⟨x, hx, rfl⟩ := nI_of v0
        have xc : cl (nI x) = x := nI_clamp hx
        have x100 : x < 100 := Nat.not_le.mp (fun q => c2 ((nI_leI (by decide) hx).mpr q))
        have x5 : 5 ≤ x := by
          rw [nI_toInt hx] at w1
          omega
        rw [win_nI hx (by decide) (by decide), win_nI hx (by decide) (by decide), decide_eq_false (show ¬ 100 ≤ x by omega), Bool.false_and, xc] at CR
        by_cases x10 : x < 10
        · rw [decide_eq_false (show ¬ 10 ≤ x by omega)] at CR
          have hh : hasH (gS G) (nI (x / 10) - nI 1) = false := by
            rw [show x / 10 = 0 by omega]
            exact win_neg (by decide) (by decide)
          refine R_al0 (n := 83) C dX10_told_82 rfl ?_
          refine R_il1 (n := 84) C dX10_told_83 rfl ?_
          refine R_bp (n := 86) C dX10_told_84 cb_10 rfl ?_
          refine R_idivN (n := 87) C dX10_told_86 (by omega) (by omega) (by omega) rfl ?_
          refine R_ic (n := 88) C dX10_told_87 ci_1 rfl ?_
          refine R_isub (n := 89) C dX10_told_88 rfl ?_
          refine R_il1 (n := 90) C dX10_told_89 rfl ?_
          refine R_bp (n := 92) C dX10_told_90 cb_10 rfl ?_
          refine R_iremN (n := 93) C dX10_told_92 (by omega) (by omega) (by omega) rfl ?_
          refine M_callV (n := 96) C (c_toldOfHut _ _ _ r R.1 I.1 _ _) mw_X10_toldOfHut ml_X10_304 iv_X10_toldOfHut dX10_told_93 rfl rfl rfl rfl (Nat.le_of_ble_eq_true rfl) ⟨Nat.le_of_ble_eq_true rfl, Nat.le_of_ble_eq_true rfl⟩ ⟨Nat.le_refl _, Nat.le_refl _⟩ rfl (pEs ?_)
          refine R_goto (n := 113) C dX10_told_96 rfl ?_
          refine R_iret C CR (Nat.zero_le _) (Nat.zero_le _) dX10_told_113 ?_
          exact ⟨by rw [hh]; rfl, rfl, R, FrC.rf⟩
        · rw [decide_eq_true (show 10 ≤ x by omega), Bool.true_and] at CR
          have k1 : cl (nI (x / 10 - 1)) = x / 10 - 1 := nI_clamp (by omega)
          have k2 : cl (nI (x % 10)) = x % 10 := nI_clamp (by omega)
          refine R_al0 (n := 83) C dX10_told_82 rfl ?_
          refine R_il1 (n := 84) C dX10_told_83 rfl ?_
          refine R_bp (n := 86) C dX10_told_84 cb_10 rfl ?_
          refine R_idivN (n := 87) C dX10_told_86 (by omega) (by omega) (by omega) rfl ?_
          refine R_ic (n := 88) C dX10_told_87 ci_1 rfl ?_
          refine R_isubN (n := 89) C dX10_told_88 (by omega) rfl ?_
          refine R_il1 (n := 90) C dX10_told_89 rfl ?_
          refine R_bp (n := 92) C dX10_told_90 cb_10 rfl ?_
          refine R_iremN (n := 93) C dX10_told_92 (by omega) (by omega) (by omega) rfl ?_
          refine M_callV (n := 96) C (c_toldOfHut _ _ _ r R.1 I.1 _ _) mw_X10_toldOfHut ml_X10_304 iv_X10_toldOfHut dX10_told_93 rfl rfl rfl rfl (Nat.le_of_ble_eq_true rfl) ⟨Nat.le_of_ble_eq_true rfl, Nat.le_of_ble_eq_true rfl⟩ ⟨Nat.le_refl _, Nat.le_refl _⟩ rfl (pEs ?_)
          rw [k1, k2]
          refine R_goto (n := 113) C dX10_told_96 rfl ?_
          refine R_iret C CR (Nat.zero_le _) (Nat.zero_le _) dX10_told_113 ?_
          refine ⟨?_, rfl, R, FrC.rf⟩
          have hh : hasH (gS G) (nI (x / 10 - 1)) = decide (x / 10 - 1 < sN (gS G)) := by
            unfold hasH
            rw [win_nI (by omega) (by decide) (by omega)]
            simp
            omega
          rw [hh, win_nI (by omega) (by decide) (by decide)]
          by_cases h5 : x / 10 - 1 < sN (gS G)
          · rw [decide_eq_true h5, if_pos rfl, decide_eq_true (show x ≤ 59 by omega), if_pos rfl]
            by_cases h4 : x % 10 ≤ 4
            · rw [decide_eq_true h4]; rfl
            · rw [decide_eq_false h4, Bool.and_false, if_neg (by decide), toH, if_pos h5, if_neg (by omega), if_neg (by omega), if_neg (by omega), if_neg (by omega), if_neg (by omega)]
          · rw [decide_eq_false h5, if_neg (by decide)]
            by_cases h59 : x ≤ 59
            · rw [decide_eq_true h59, if_pos rfl, toH, if_neg h5]
            · rw [decide_eq_false h59, if_neg (by decide), if_neg (by decide)]
def aNinety (G : GS) (s m w : Int32) : Int32 := if win s (nI 0) (nI 9999) && (win m (nI 1) (nI 99) && win w (nI 0) (nI 2)) then (if cl w = 0 then nI (dwz (gS G) (cl m) 1 (cl s) (ev0 (gS G))).2.2.1 else if cl w = 1 then nI (nmz (dwz (gS G) (cl m) 1 (cl s) (ev0 (gS G))).1 (sN (gS G))) else nI (dwz (gS G) (cl m) 1 (cl s) (ev0 (gS G))).2.2.2.1) else -2
theorem dwz_ok {σ : WS} (I : Inv σ) : ∀ {m d x : Nat} {e : EV}, EOk σ e → EOk σ (dwz σ m d x e)
  | 0, _, _, _, h => h
  | m + 1, d, x, e, h => by
    unfold dwz
    apply dwz_ok I
    have h1 : EOk σ (if (sKn σ).testBit ((75 * x + 74) % 65537 % 6) = true then hrz σ ((75 * x + 74) % 65537 % 6) (sN σ) e else e) := by
      split
      · exact hrz_ok h (Nat.le_refl _)
      · exact h
    have h2 : EOk σ (if (75 * x + 74) % 65537 / 6 % 10 = 0 then thz (sN σ) (if (sKn σ).testBit ((75 * x + 74) % 65537 % 6) = true then hrz σ ((75 * x + 74) % 65537 % 6) (sN σ) e else e) else (if (sKn σ).testBit ((75 * x + 74) % 65537 % 6) = true then hrz σ ((75 * x + 74) % 65537 % 6) (sN σ) e else e)) := by
      split
      · exact thz_ok h1 (Nat.le_refl _)
      · exact h1
    split
    · exact niz_ok I h2
    · exact h2
set_option maxRecDepth 20000 in
set_option maxHeartbeats 4000000 in
theorem p_ninety (l : Launch) (D : va_G) (cA : Nat → ClassId) (r : Nat → Nat) {h : Hp} {G : GS} (R : RCl G h) (I : InvG G) (s m w : Int32) : Cn l D cA yX10_ninety cX10_ninety 4 (some .int) 3 0 0 [.ref (r 0), .int s, .int m, .int w] (LY r) h (pG (some (.int (aNinety G s m w))) (LY r) (fun h' => RCl G h' ∧ FrC h h')) := by
  refine Cn.of (lv := [some (.ref (r 0)), some (.int s), some (.int m), some (.int w)]) (by decide +kernel) (Nat.le_of_ble_eq_true rfl) rfl (fun X hnm C CR => ?_)
  have n5 := I.1.n5
  have bad : (win s (nI 0) (nI 9999) && (win m (nI 1) (nI 99) && win w (nI 0) (nI 2))) = false → Rn X 0 0 30 [some (.ref (r 0)), some (.int s), some (.int m), some (.int w)] [] (LY r) h := by
    intro q
    rw [aNinety, q] at CR
    refine R_bp (n := 32) C dX10_ninety_30 cb_m2 rfl ?_
    refine R_iret C CR (Nat.zero_le _) (Nat.zero_le _) dX10_ninety_32 ?_
    exact ⟨rfl, rfl, R, FrC.rf⟩
  refine R_il1 (n := 1) C dX10_ninety_0 rfl ?_
  refine R_ic (n := 2) C dX10_ninety_1 ci_0 rfl ?_
  refine R_sp (n := 5) C dX10_ninety_2 cs_9999 rfl ?_
  refine R_callS (n := 8) C (c_isWithin _ _ _ r _ _ _) mw_X10_isWithin ml_X10_92 sv_X10_isWithin dX10_ninety_5 rfl rfl (Nat.le_of_ble_eq_true rfl) ⟨Nat.le_of_ble_eq_true rfl, Nat.le_of_ble_eq_true rfl⟩ ⟨Nat.le_refl _, Nat.le_refl _⟩ rfl (pEs ?_)
  refine R_if_eqB (tgt := 30) C dX10_ninety_8 rfl rfl (fun c1 => ?_) (fun c1 => ?_)
  · exact bad (by rw [c1]; rfl)
  · refine R_il2 (n := 12) C dX10_ninety_11 rfl ?_
    refine R_ic (n := 13) C dX10_ninety_12 ci_1 rfl ?_
    refine R_bp (n := 15) C dX10_ninety_13 cb_99 rfl ?_
    refine R_callS (n := 18) C (c_isWithin _ _ _ r _ _ _) mw_X10_isWithin ml_X10_92 sv_X10_isWithin dX10_ninety_15 rfl rfl (Nat.le_of_ble_eq_true rfl) ⟨Nat.le_of_ble_eq_true rfl, Nat.le_of_ble_eq_true rfl⟩ ⟨Nat.le_refl _, Nat.le_refl _⟩ rfl (pEs ?_)
    refine R_if_eqB (tgt := 30) C dX10_ninety_18 rfl rfl (fun c2 => ?_) (fun c2 => ?_)
    · exact bad (by rw [c2, Bool.false_and, Bool.and_false])
    · refine R_il3 (n := 22) C dX10_ninety_21 rfl ?_
      refine R_ic (n := 23) C dX10_ninety_22 ci_0 rfl ?_
      refine R_ic (n := 24) C dX10_ninety_23 ci_2 rfl ?_
      refine R_callS (n := 27) C (c_isWithin _ _ _ r _ _ _) mw_X10_isWithin ml_X10_92 sv_X10_isWithin dX10_ninety_24 rfl rfl (Nat.le_of_ble_eq_true rfl) ⟨Nat.le_of_ble_eq_true rfl, Nat.le_of_ble_eq_true rfl⟩ ⟨Nat.le_refl _, Nat.le_refl _⟩ rfl (pEs ?_)
      refine R_if_neB (tgt := 33) C dX10_ninety_27 rfl rfl (fun c3 => ?_) (fun c3 => ?_)
      · rw [aNinety, c1, c2, c3, Bool.and_self, Bool.and_self, if_pos rfl] at CR
        obtain ⟨x, _, hx, rfl⟩ := win_of (by decide) (by decide) c1
        obtain ⟨y, _, hy, rfl⟩ := win_of (by decide) (by decide) c2
        obtain ⟨z, _, hz, rfl⟩ := win_of (by decide) (by decide) c3
        have xc : cl (nI x) = x := nI_clamp (by omega)
        have yc : cl (nI y) = y := nI_clamp (by omega)
        have zc : cl (nI z) = z := nI_clamp (by omega)
        rw [xc, yc, zc] at CR
        refine R_al0 (n := 34) C dX10_ninety_33 rfl ?_
        refine M_getR (n := 37) C fl_X10_34 dX10_ninety_34 rfl rfl rfl ?_
        refine R_al0 (n := 38) C dX10_ninety_37 rfl ?_
        refine M_getR (n := 41) C fl_X10_12 dX10_ninety_38 rfl rfl rfl ?_
        refine R_il1 (n := 42) C dX10_ninety_41 rfl ?_
        refine R_il2 (n := 43) C dX10_ninety_42 rfl ?_
        refine M_callV (n := 46) C (c_playDraws _ _ _ r R.1 I.1 (by omega) (by omega)) mw_X2_playDraws ml_X10_287 iv_X2_playDraws dX10_ninety_43 rfl rfl rfl rfl (Nat.le_of_ble_eq_true rfl) ⟨Nat.le_of_ble_eq_true rfl, Nat.le_of_ble_eq_true rfl⟩ ⟨Nat.le_refl _, Nat.le_refl _⟩ rfl (pGv (fun h1 q1 => ?_))
        refine R_il3 (n := 47) C dX10_ninety_46 rfl ?_
        have W : RCl G h1 ∧ FrC h h1 := ⟨R.s q1.2.s, q1.2.s.c⟩
        have ok := dwz_ok I.1 (m := y) (d := 1) (x := x) (ev0_ok I.1)
        obtain rfl | rfl | rfl : z = 0 ∨ z = 1 ∨ z = 2 := by omega
        · refine R_look (n := 72) (off := 25) C dX10_ninety_47 rfl (by decide) rfl ?_
          refine R_al0 (n := 73) C dX10_ninety_72 rfl ?_
          refine M_getR (n := 76) C fl_X10_34 dX10_ninety_73 rfl rfl rfl ?_
          refine M_getI (n := 79) C fl_X10_149 dX10_ninety_76 rfl rfl q1.1.2.2.1 rfl ?_
          refine R_iret C CR (Nat.zero_le _) (Nat.zero_le _) dX10_ninety_79 ?_
          exact ⟨rfl, rfl, W⟩
        · refine R_look (n := 80) (off := 33) C dX10_ninety_47 rfl (by decide) rfl ?_
          refine R_al0 (n := 81) C dX10_ninety_80 rfl ?_
          refine M_getR (n := 84) C fl_X10_34 dX10_ninety_81 rfl rfl rfl ?_
          refine M_getR (n := 87) C fl_X10_158 dX10_ninety_84 rfl rfl rfl ?_
          refine R_al0 (n := 88) C dX10_ninety_87 rfl ?_
          refine M_getR (n := 91) C fl_X10_12 dX10_ninety_88 rfl rfl rfl ?_
          refine M_getI (n := 94) C fl_X10_80 dX10_ninety_91 rfl rfl (wN W.1.1) rfl ?_
          refine R_callS (n := 97) C (c_numberOf _ _ _ r rfl n5 (fun k hk => q1.1.1 k hk) (fun k hk => (ok k hk).1)) mw_X10_numberOf ml_X10_291 sv_X10_numberOf dX10_ninety_94 rfl rfl (Nat.le_of_ble_eq_true rfl) ⟨Nat.le_of_ble_eq_true rfl, Nat.le_of_ble_eq_true rfl⟩ ⟨Nat.le_refl _, Nat.le_refl _⟩ rfl (pEs ?_)
          refine R_iret C CR (Nat.zero_le _) (Nat.zero_le _) dX10_ninety_97 ?_
          exact ⟨rfl, rfl, W⟩
        · refine R_look (n := 98) (off := 51) C dX10_ninety_47 rfl (by decide) rfl ?_
          refine R_al0 (n := 99) C dX10_ninety_98 rfl ?_
          refine M_getR (n := 102) C fl_X10_34 dX10_ninety_99 rfl rfl rfl ?_
          refine M_getI (n := 105) C fl_X10_295 dX10_ninety_102 rfl rfl q1.1.2.2.2.1 rfl ?_
          refine R_iret C CR (Nat.zero_le _) (Nat.zero_le _) dX10_ninety_105 ?_
          exact ⟨rfl, rfl, W⟩
      · exact bad (by rw [c3, Bool.and_false, Bool.and_false])
