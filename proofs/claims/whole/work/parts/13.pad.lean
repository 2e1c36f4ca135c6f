set_option maxRecDepth 20000 in
set_option maxHeartbeats 4000000 in
theorem c_isDigit (l : Launch) (D : va_G) (cA : Nat → ClassId) (r : Nat → Nat) {L : Ly} {h : Hp} {s : Nat} (hs : s < 2 ^ 31) : Cn l D cA yX10_isDigit cX10_isDigit 1 (some .boolean) 1 0 0 [.int (nI s)] (L) h (pE (some (.int (bI (isDg s)))) L h) := by
  refine Cn.of (lv := [some (.int (nI s))]) (by decide +kernel) (Nat.le_of_ble_eq_true rfl) rfl (fun X hnm C CR => ?_)
  refine R_il0 (n := 1) C dX10_isDigit_0 rfl ?_
  refine R_bp (n := 3) C dX10_isDigit_1 cb_48 rfl ?_
  refine R_bp (n := 5) C dX10_isDigit_3 cb_57 rfl ?_
  refine R_callS (n := 8) C (c_isWithin _ _ _ r _ _ _) mw_X10_isWithin ml_X10_92 sv_X10_isWithin dX10_isDigit_5 rfl rfl (Nat.le_of_ble_eq_true rfl) ⟨Nat.le_of_ble_eq_true rfl, Nat.le_of_ble_eq_true rfl⟩ ⟨Nat.le_refl _, Nat.le_refl _⟩ rfl (pEs ?_)
  refine R_zretB C CR (Nat.zero_le _) (Nat.zero_le _) dX10_isDigit_8 ?_
  exact ⟨by rw [win_nI hs (by decide) (by decide)]; rfl, rfl, rfl⟩
set_option maxRecDepth 20000 in
set_option maxHeartbeats 4000000 in
theorem c_isLetter (l : Launch) (D : va_G) (cA : Nat → ClassId) (r : Nat → Nat) {L : Ly} {h : Hp} {s : Nat} (hs : s < 2 ^ 31) : Cn l D cA yX10_isLetter cX10_isLetter 1 (some .boolean) 1 0 0 [.int (nI s)] (L) h (pE (some (.int (bI (isLt s)))) L h) := by
  refine Cn.of (lv := [some (.int (nI s))]) (by decide +kernel) (Nat.le_of_ble_eq_true rfl) rfl (fun X hnm C CR => ?_)
  refine R_il0 (n := 1) C dX10_isLetter_0 rfl ?_
  refine R_bp (n := 3) C dX10_isLetter_1 cb_97 rfl ?_
  refine R_bp (n := 5) C dX10_isLetter_3 cb_102 rfl ?_
  refine R_callS (n := 8) C (c_isWithin _ _ _ r _ _ _) mw_X10_isWithin ml_X10_92 sv_X10_isWithin dX10_isLetter_5 rfl rfl (Nat.le_of_ble_eq_true rfl) ⟨Nat.le_of_ble_eq_true rfl, Nat.le_of_ble_eq_true rfl⟩ ⟨Nat.le_refl _, Nat.le_refl _⟩ rfl (pEs ?_)
  refine R_zretB C CR (Nat.zero_le _) (Nat.zero_le _) dX10_isLetter_8 ?_
  exact ⟨by rw [win_nI hs (by decide) (by decide)]; rfl, rfl, rfl⟩
set_option maxRecDepth 20000 in
set_option maxHeartbeats 4000000 in
theorem c_wayOf (l : Launch) (D : va_G) (cA : Nat → ClassId) (r : Nat → Nat) {L : Ly} {h : Hp} {s : Nat} (hs : s < 2 ^ 31) : Cn l D cA yX10_wayOf cX10_wayOf 1 (some .int) 0 0 0 [.int (nI s)] (L) h (pE (some (.int (wyO s))) L h) := by
  refine Cn.of (lv := [some (.int (nI s))]) (by decide +kernel) (Nat.le_of_ble_eq_true rfl) rfl (fun X hnm C CR => ?_)
  refine R_il0 (n := 1) C dX10_wayOf_0 rfl ?_
  by_cases h1 : s = 110
  · subst h1
    refine R_look (n := 44) (off := 43) C dX10_wayOf_1 rfl (by decide) rfl ?_
    refine R_ic (n := 45) C dX10_wayOf_44 ci_0 rfl ?_
    refine R_iret C CR (Nat.zero_le _) (Nat.zero_le _) dX10_wayOf_45 ?_
    exact ⟨rfl, rfl, rfl⟩
  by_cases h2 : s = 101
  · subst h2
    refine R_look (n := 46) (off := 45) C dX10_wayOf_1 rfl (by decide) rfl ?_
    refine R_ic (n := 47) C dX10_wayOf_46 ci_1 rfl ?_
    refine R_iret C CR (Nat.zero_le _) (Nat.zero_le _) dX10_wayOf_47 ?_
    exact ⟨rfl, rfl, rfl⟩
  by_cases h3 : s = 115
  · subst h3
    refine R_look (n := 48) (off := 47) C dX10_wayOf_1 rfl (by decide) rfl ?_
    refine R_ic (n := 49) C dX10_wayOf_48 ci_2 rfl ?_
    refine R_iret C CR (Nat.zero_le _) (Nat.zero_le _) dX10_wayOf_49 ?_
    exact ⟨rfl, rfl, rfl⟩
  by_cases h4 : s = 119
  · subst h4
    refine R_look (n := 50) (off := 49) C dX10_wayOf_1 rfl (by decide) rfl ?_
    refine R_ic (n := 51) C dX10_wayOf_50 ci_3 rfl ?_
    refine R_iret C CR (Nat.zero_le _) (Nat.zero_le _) dX10_wayOf_51 ?_
    exact ⟨rfl, rfl, rfl⟩
  refine R_look (n := 52) (off := 51) C dX10_wayOf_1 rfl ?_ rfl ?_
  · rw [nI_toInt hs]
    simp [Op.lookupswitch.offset]
    omega
  · refine R_ic (n := 53) C dX10_wayOf_52 ci_m1 rfl ?_
    refine R_iret C CR (Nat.zero_le _) (Nat.zero_le _) dX10_wayOf_53 ?_
    exact ⟨by simp [wyO, h1, h2, h3, h4], rfl, rfl⟩
set_option maxRecDepth 20000 in
set_option maxHeartbeats 4000000 in
theorem c_padClear (l : Launch) (D : va_G) (cA : Nat → ClassId) (r : Nat → Nat) {h : Hp} {p : PS} (R : RP p h) : Cn l D cA yX4_clear cX4_clear 2 (some .int) 0 0 0 [.ref (r 13)] (LY r) h (pE (some (.int (nI p.1))) (LY r) (up2 h 13 0 (nI 0))) := by
  refine Cn.of (lv := [some (.ref (r 13)), none]) (by decide +kernel) (Nat.le_of_ble_eq_true rfl) rfl (fun X hnm C CR => ?_)
  refine R_al0 (n := 1) C dX4_clear_0 rfl ?_
  refine M_getI (n := 4) C fl_X4_15 dX4_clear_1 rfl rfl R.1 rfl ?_
  refine R_is1 (n := 5) C dX4_clear_4 rfl (Nat.le_of_ble_eq_true rfl) rfl ?_
  refine R_al0 (n := 6) C dX4_clear_5 rfl ?_
  refine R_ic (n := 7) C dX4_clear_6 ci_0 rfl ?_
  refine M_putI (n := 10) C fl_X4_15 dX4_clear_7 rfl rfl rfl rfl rfl ?_
  refine R_il1 (n := 11) C dX4_clear_10 rfl ?_
  refine R_iret C CR (Nat.zero_le _) (Nat.zero_le _) dX4_clear_11 ?_
  exact pE_i _ _ _
set_option maxRecDepth 20000 in
set_option maxHeartbeats 4000000 in
theorem c_padAdd (l : Launch) (D : va_G) (cA : Nat → ClassId) (r : Nat → Nat) {h : Hp} {p : PS} (R : RP p h) (I : InvP p) (v : Int32) : Cn l D cA yX4_add cX4_add 2 (some .int) 0 0 0 [.ref (r 13), .int v] (LY r) h (pE (some (.int (if p.1 < 60 then nI (p.1 + 1) else -4))) (LY r) (if p.1 < 60 then up2 (up2 h 14 p.1 v) 13 0 (nI (p.1 + 1)) else h)) := by
  refine Cn.of (lv := [some (.ref (r 13)), some (.int v)]) (by decide +kernel) (Nat.le_of_ble_eq_true rfl) rfl (fun X hnm C CR => ?_)
  have i0 := I.1
  refine R_al0 (n := 1) C dX4_add_0 rfl ?_
  refine M_getI (n := 4) C fl_X4_15 dX4_add_1 rfl rfl R.1 rfl ?_
  refine R_bp (n := 6) C dX4_add_4 cb_60 rfl ?_
  refine R_icmp_ltN (tgt := 12) C dX4_add_6 rfl rfl (by omega) (by omega) (fun c1 => ?_) (fun c1 => ?_)
  · have e : up2 h 14 p.1 v 13 0 = nI p.1 := by rw [up2, va_up, if_neg (by decide)]; exact R.1
    have e2 : up2 (up2 h 14 p.1 v) 13 0 (nI (p.1 + 1)) 13 0 = nI (p.1 + 1) := by simp [up2, va_up, upd]
    refine R_al0 (n := 13) C dX4_add_12 rfl ?_
    refine M_getR (n := 16) C fl_X4_9 dX4_add_13 rfl rfl rfl ?_
    refine R_al0 (n := 17) C dX4_add_16 rfl ?_
    refine M_getI (n := 20) C fl_X4_15 dX4_add_17 rfl rfl R.1 rfl ?_
    refine R_il1 (n := 21) C dX4_add_20 rfl ?_
    refine M_iast (n := 22) C dX4_add_21 rfl (by omega) rfl ?_
    refine R_al0 (n := 23) C dX4_add_22 rfl ?_
    refine R_dup (n := 24) C dX4_add_23 rfl rfl ?_
    refine M_getI (n := 27) C fl_X4_15 dX4_add_24 rfl rfl e rfl ?_
    refine R_ic (n := 28) C dX4_add_27 ci_1 rfl ?_
    refine R_iaddN (n := 29) C dX4_add_28 rfl ?_
    refine M_putI (n := 32) C fl_X4_15 dX4_add_29 rfl rfl rfl rfl rfl ?_
    refine R_al0 (n := 33) C dX4_add_32 rfl ?_
    refine M_getI (n := 36) C fl_X4_15 dX4_add_33 rfl rfl e2 rfl ?_
    refine R_iret C CR (Nat.zero_le _) (Nat.zero_le _) dX4_add_36 ?_
    exact ⟨by rw [if_pos c1], rfl, by rw [if_pos c1]⟩
  · refine R_bp (n := 11) C dX4_add_9 cb_m4 rfl ?_
    refine R_iret C CR (Nat.zero_le _) (Nat.zero_le _) dX4_add_11 ?_
    exact ⟨by rw [if_neg (by omega)], rfl, by rw [if_neg (by omega)]⟩
set_option maxRecDepth 20000 in
set_option maxHeartbeats 4000000 in
theorem c_signAt (l : Launch) (D : va_G) (cA : Nat → ClassId) (r : Nat → Nat) {h : Hp} {p : PS} (R : RP p h) (I : InvP p) {k : Nat} (hk : k < p.1) : Cn l D cA yX4_signAt cX4_signAt 2 (some .int) 1 0 0 [.ref (r 13), .int (nI k)] (LY r) h (pE (some (.int (nI (p.2 k)))) (LY r) h) := by
  refine Cn.of (lv := [some (.ref (r 13)), some (.int (nI k))]) (by decide +kernel) (Nat.le_of_ble_eq_true rfl) rfl (fun X hnm C CR => ?_)
  have i0 := I.1
  refine R_il1 (n := 1) C dX4_signAt_0 rfl ?_
  refine R_ic (n := 2) C dX4_signAt_1 ci_0 rfl ?_
  refine R_al0 (n := 3) C dX4_signAt_2 rfl ?_
  refine M_getI (n := 6) C fl_X4_15 dX4_signAt_3 rfl rfl R.1 rfl ?_
  refine R_ic (n := 7) C dX4_signAt_6 ci_1 rfl ?_
  refine R_isubN (n := 8) C dX4_signAt_7 (by omega) rfl ?_
  refine R_callSN (n := 11) C (c_isWithin _ _ _ r _ _ _) mw_X10_isWithin mn_X4_19 sv_X10_isWithin dX4_signAt_8 rfl rfl (Nat.le_of_ble_eq_true rfl) ⟨Nat.le_of_ble_eq_true rfl, Nat.le_of_ble_eq_true rfl⟩ ⟨Nat.le_refl _, Nat.le_refl _⟩ rfl (pEs ?_)
  rw [win_nI (by omega) (by omega) (by omega)]
  refine R_if_eqB (tgt := 23) C dX4_signAt_11 rfl rfl (fun c1 => ?_) (fun c1 => ?_)
  · simp at c1
    omega
  · refine R_al0 (n := 15) C dX4_signAt_14 rfl ?_
    refine M_getR (n := 18) C fl_X4_9 dX4_signAt_15 rfl rfl rfl ?_
    refine R_il1 (n := 19) C dX4_signAt_18 rfl ?_
    refine M_iald (n := 20) C dX4_signAt_19 rfl (by omega) (R.2 k (by omega)) rfl ?_
    refine R_goto (n := 24) C dX4_signAt_20 rfl ?_
    refine R_iret C CR (Nat.zero_le _) (Nat.zero_le _) dX4_signAt_24 ?_
    exact pE_i _ _ _
set_option maxRecDepth 20000 in
set_option maxHeartbeats 4000000 in
theorem c_spellFault (l : Launch) (D : va_G) (cA : Nat → ClassId) (r : Nat → Nat) {h : Hp} {p : PS} (R : RP p h) (I : InvP p) {n : Nat} (hn : n ≤ 5) : Cn l D cA yX4_spellFault cX4_spellFault 3 (some .int) 1 0 0 [.ref (r 13), .int (nI n)] (LY r) h (pE (some (.int (spz n p.1 p.2))) (LY r) h) := by
  refine Cn.of (lv := [some (.ref (r 13)), some (.int (nI n)), none]) (by decide +kernel) (Nat.le_of_ble_eq_true rfl) rfl (fun X hnm C CR => ?_)
  have i0 := I.1
  have loop : ∀ (m i : Nat), p.1 < i + m → i ≤ p.1 → (∀ j, j < i → spB n p.2 j = false) → Rn X 0 0 2 [some (.ref (r 13)), some (.int (nI n)), some (.int (nI i))] [] (LY r) h := by
    intro m
    induction m with
    | zero => intro i h1 h2; omega
    | succ m ih =>
      intro i h1 h2 hP
      refine R_il2 (n := 3) C dX4_spellFault_2 rfl ?_
      refine R_al0 (n := 4) C dX4_spellFault_3 rfl ?_
      refine M_getI (n := 7) C fl_X4_15 dX4_spellFault_4 rfl rfl R.1 rfl ?_
      refine R_icmp_geN (tgt := 39) C dX4_spellFault_7 rfl rfl (by omega) (by omega) (fun c1 => ?_) (fun c1 => ?_)
      · have e : fz (spB n p.2) p.1 = p.1 := fz_none (fun j hj => hP j (by omega))
        refine R_al0 (n := 40) C dX4_spellFault_39 rfl ?_
        refine M_getI (n := 43) C fl_X4_15 dX4_spellFault_40 rfl rfl R.1 rfl ?_
        refine R_il1 (n := 44) C dX4_spellFault_43 rfl ?_
        refine R_icmp_geN (tgt := 54) C dX4_spellFault_44 rfl rfl (by omega) (by omega) (fun c2 => ?_) (fun c2 => ?_)
        · refine R_bp (n := 56) C dX4_spellFault_54 cb_m6 rfl ?_
          refine R_iret C CR (Nat.zero_le _) (Nat.zero_le _) dX4_spellFault_56 ?_
          exact ⟨by rw [spz, e, if_neg (by omega), if_neg (by omega)], rfl, rfl⟩
        · refine R_al0 (n := 48) C dX4_spellFault_47 rfl ?_
          refine M_getI (n := 51) C fl_X4_15 dX4_spellFault_48 rfl rfl R.1 rfl ?_
          refine R_goto (n := 56) C dX4_spellFault_51 rfl ?_
          refine R_iret C CR (Nat.zero_le _) (Nat.zero_le _) dX4_spellFault_56 ?_
          exact ⟨by rw [spz, e, if_neg (by omega), if_pos c2], rfl, rfl⟩
      · have hit : spB n p.2 i = true → spz n p.1 p.2 = nI i := fun hb => by
          rw [spz, fz_hit hP c1 hb, if_pos c1]
        have hsi := I.2 i (by omega)
        refine R_il2 (n := 11) C dX4_spellFault_10 rfl ?_
        refine R_il1 (n := 12) C dX4_spellFault_11 rfl ?_
        refine R_icmp_geN (tgt := 31) C dX4_spellFault_12 rfl rfl (by omega) (by omega) (fun c2 => ?_) (fun c2 => ?_)
        · refine R_il2 (n := 32) C dX4_spellFault_31 rfl ?_
          refine R_iret C CR (Nat.zero_le _) (Nat.zero_le _) dX4_spellFault_32 ?_
          exact ⟨by rw [hit (by simp [spB, c2])], rfl, rfl⟩
        · refine R_al0 (n := 16) C dX4_spellFault_15 rfl ?_
          refine M_getR (n := 19) C fl_X4_9 dX4_spellFault_16 rfl rfl rfl ?_
          refine R_il2 (n := 20) C dX4_spellFault_19 rfl ?_
          refine M_iald (n := 21) C dX4_spellFault_20 rfl (by omega) (R.2 i (by omega)) rfl ?_
          refine R_bp (n := 23) C dX4_spellFault_21 cb_48 rfl ?_
          refine R_bp (n := 25) C dX4_spellFault_23 cb_51 rfl ?_
          refine R_callSN (n := 28) C (c_isWithin _ _ _ r _ _ _) mw_X10_isWithin mn_X4_19 sv_X10_isWithin dX4_spellFault_25 rfl rfl (Nat.le_of_ble_eq_true rfl) ⟨Nat.le_of_ble_eq_true rfl, Nat.le_of_ble_eq_true rfl⟩ ⟨Nat.le_refl _, Nat.le_refl _⟩ rfl (pEs ?_)
          rw [win_nI (by omega) (by omega) (by omega)]
          refine R_if_neB (tgt := 33) C dX4_spellFault_28 rfl rfl (fun c3 => ?_) (fun c3 => ?_)
          · refine R_inc2 (n := 36) C dX4_spellFault_33 rfl (Nat.le_of_ble_eq_true rfl) (inc_1 _) rfl ?_
            refine R_goto (n := 2) C dX4_spellFault_36 rfl ?_
            exact ih (i + 1) (by omega) (by omega) (fun j hj => by
              by_cases e : j = i
              · subst e
                simp only [spB, c3, Bool.not_true, Bool.or_false, decide_eq_false_iff_not]
                omega
              · exact hP j (by omega))
          · refine R_il2 (n := 32) C dX4_spellFault_31 rfl ?_
            refine R_iret C CR (Nat.zero_le _) (Nat.zero_le _) dX4_spellFault_32 ?_
            exact ⟨by rw [hit (by simp only [spB, c3]; simp)], rfl, rfl⟩
  refine R_ic (n := 1) C dX4_spellFault_0 ci_0 rfl ?_
  refine R_is2 (n := 2) C dX4_spellFault_1 rfl (Nat.le_of_ble_eq_true rfl) rfl ?_
  exact loop (p.1 + 1) 0 (by omega) (by omega) (fun j hj => by omega)
set_option maxRecDepth 20000 in
set_option maxHeartbeats 4000000 in
theorem c_eveningFault (l : Launch) (D : va_G) (cA : Nat → ClassId) (r : Nat → Nat) {h : Hp} {p : PS} (R : RP p h) (I : InvP p) {n : Nat} (hn : n ≤ 5) : Cn l D cA yX4_eveningFault cX4_eveningFault 5 (some .int) 2 0 0 [.ref (r 13), .int (nI n)] (LY r) h (pE (some (.int (evz n p.1 p.2))) (LY r) h) := by
  refine Cn.of (lv := [some (.ref (r 13)), some (.int (nI n)), none, none, none]) (by decide +kernel) (Nat.le_of_ble_eq_true rfl) rfl (fun X hnm C CR => ?_)
  have i0 := I.1
  obtain ⟨E, hE⟩ : ∃ E, evS n p.2 p.1 0 none = E := ⟨_, rfl⟩
  have loop : ∀ (m i : Nat) (pd : Option Nat) (o : Option Value), i + m = p.1 → E = evS n p.2 m i pd → Rn X 0 0 4 [some (.ref (r 13)), some (.int (nI n)), some (.int (bI pd.isSome)), some (.int (nI i)), o] [] (LY r) h := by
    intro m
    induction m with
    | zero =>
      intro i pd o h1 hP
      refine R_il3 (n := 5) C dX4_eveningFault_4 rfl ?_
      refine R_al0 (n := 6) C dX4_eveningFault_5 rfl ?_
      refine M_getI (n := 9) C fl_X4_15 dX4_eveningFault_6 rfl rfl R.1 rfl ?_
      refine R_icmp_geN (tgt := 93) C dX4_eveningFault_9 rfl rfl (by omega) (by omega) (fun c1 => ?_) (fun c1 => ?_)
      · refine R_il2 (n := 94) C dX4_eveningFault_93 rfl ?_
        refine R_if_eqB (tgt := 104) C dX4_eveningFault_94 rfl rfl (fun c2 => ?_) (fun c2 => ?_)
        · refine R_bp (n := 106) C dX4_eveningFault_104 cb_m6 rfl ?_
          refine R_iret C CR (Nat.zero_le _) (Nat.zero_le _) dX4_eveningFault_106 ?_
          refine ⟨?_, rfl, rfl⟩
          cases pd with
          | none => rw [evz, hE, hP]; rfl
          | some k => cases c2
        · refine R_al0 (n := 98) C dX4_eveningFault_97 rfl ?_
          refine M_getI (n := 101) C fl_X4_15 dX4_eveningFault_98 rfl rfl R.1 rfl ?_
          refine R_goto (n := 106) C dX4_eveningFault_101 rfl ?_
          refine R_iret C CR (Nat.zero_le _) (Nat.zero_le _) dX4_eveningFault_106 ?_
          refine ⟨?_, rfl, rfl⟩
          cases pd with
          | none => cases c2
          | some k =>
            rw [evz, hE, hP]
            simp only [evS]
            rw [show i = p.1 by omega]
      · omega
    | succ m ih =>
      intro i pd o h1 hP
      have hsi := I.2 i (by omega)
      refine R_il3 (n := 5) C dX4_eveningFault_4 rfl ?_
      refine R_al0 (n := 6) C dX4_eveningFault_5 rfl ?_
      refine M_getI (n := 9) C fl_X4_15 dX4_eveningFault_6 rfl rfl R.1 rfl ?_
      refine R_icmp_geN (tgt := 93) C dX4_eveningFault_9 rfl rfl (by omega) (by omega) (fun c1 => ?_) (fun c1 => ?_)
      · omega
      · refine R_al0 (n := 13) C dX4_eveningFault_12 rfl ?_
        refine M_getR (n := 16) C fl_X4_9 dX4_eveningFault_13 rfl rfl rfl ?_
        refine R_il3 (n := 17) C dX4_eveningFault_16 rfl ?_
        refine M_iald (n := 18) C dX4_eveningFault_17 rfl (by omega) (R.2 i (by omega)) rfl ?_
        refine R_is4 (n := 20) C dX4_eveningFault_18 rfl (Nat.le_of_ble_eq_true rfl) rfl ?_
        refine R_il2 (n := 21) C dX4_eveningFault_20 rfl ?_
        refine R_if_eqB (tgt := 39) C dX4_eveningFault_21 rfl rfl (fun c2 => ?_) (fun c2 => ?_)
        · cases pd with
          | some k => cases c2
          | none =>
          unfold evS at hP
          refine R_il4 (n := 41) C dX4_eveningFault_39 rfl ?_
          refine R_callSN (n := 44) C (c_isDigit _ _ _ r (by omega)) mw_X10_isDigit mn_X4_27 sv_X10_isDigit dX4_eveningFault_41 rfl rfl (Nat.le_of_ble_eq_true rfl) ⟨Nat.le_of_ble_eq_true rfl, Nat.le_of_ble_eq_true rfl⟩ ⟨Nat.le_refl _, Nat.le_refl _⟩ rfl (pEs ?_)
          refine R_if_eqB (tgt := 63) C dX4_eveningFault_44 rfl rfl (fun c3 => ?_) (fun c3 => ?_)
          · rw [if_neg (by rw [c3]; decide)] at hP
            refine R_il4 (n := 65) C dX4_eveningFault_63 rfl ?_
            refine R_callSN (n := 68) C (c_isLetter _ _ _ r (by omega)) mw_X10_isLetter mn_X4_31 sv_X10_isLetter dX4_eveningFault_65 rfl rfl (Nat.le_of_ble_eq_true rfl) ⟨Nat.le_of_ble_eq_true rfl, Nat.le_of_ble_eq_true rfl⟩ ⟨Nat.le_refl _, Nat.le_refl _⟩ rfl (pEs ?_)
            refine R_if_neB (tgt := 87) C dX4_eveningFault_68 rfl rfl (fun c4 => ?_) (fun c4 => ?_)
            · rw [if_pos (by rw [c4]; rfl)] at hP
              refine R_inc3 (n := 90) C dX4_eveningFault_87 rfl (Nat.le_of_ble_eq_true rfl) (inc_1 _) rfl ?_
              refine R_goto (n := 4) C dX4_eveningFault_90 rfl ?_
              exact ih (i + 1) none _ (by omega) hP
            · refine R_il4 (n := 73) C dX4_eveningFault_71 rfl ?_
              refine R_bp (n := 75) C dX4_eveningFault_73 cb_42 rfl ?_
              refine R_icmp_eqN (tgt := 87) C dX4_eveningFault_75 rfl rfl (by omega) (by omega) (fun c5 => ?_) (fun c5 => ?_)
              · rw [if_pos (by rw [c5]; simp)] at hP
                refine R_inc3 (n := 90) C dX4_eveningFault_87 rfl (Nat.le_of_ble_eq_true rfl) (inc_1 _) rfl ?_
                refine R_goto (n := 4) C dX4_eveningFault_90 rfl ?_
                exact ih (i + 1) none _ (by omega) hP
              · refine R_il4 (n := 80) C dX4_eveningFault_78 rfl ?_
                refine R_bp (n := 82) C dX4_eveningFault_80 cb_46 rfl ?_
                refine R_icmp_eqN (tgt := 87) C dX4_eveningFault_82 rfl rfl (by omega) (by omega) (fun c6 => ?_) (fun c6 => ?_)
                · rw [if_pos (by rw [c6]; simp)] at hP
                  refine R_inc3 (n := 90) C dX4_eveningFault_87 rfl (Nat.le_of_ble_eq_true rfl) (inc_1 _) rfl ?_
                  refine R_goto (n := 4) C dX4_eveningFault_90 rfl ?_
                  exact ih (i + 1) none _ (by omega) hP
                · rw [if_neg (by rw [c4]; simp [c5, c6])] at hP
                  refine R_il3 (n := 86) C dX4_eveningFault_85 rfl ?_
                  refine R_iret C CR (Nat.zero_le _) (Nat.zero_le _) dX4_eveningFault_86 ?_
                  exact ⟨by rw [evz, hE, hP], rfl, rfl⟩
          · rw [if_pos c3] at hP
            have h48 : 48 ≤ p.2 i := by simp [isDg] at c3; omega
            refine R_il4 (n := 49) C dX4_eveningFault_47 rfl ?_
            refine R_bp (n := 51) C dX4_eveningFault_49 cb_48 rfl ?_
            refine R_isubN (n := 52) C dX4_eveningFault_51 (by omega) rfl ?_
            refine R_il1 (n := 53) C dX4_eveningFault_52 rfl ?_
            refine R_icmp_ltN (tgt := 58) C dX4_eveningFault_53 rfl rfl (by omega) (by omega) (fun c4 => ?_) (fun c4 => ?_)
            · rw [if_pos c4] at hP
              refine R_ic (n := 59) C dX4_eveningFault_58 ci_1 rfl ?_
              refine R_is2 (n := 60) C dX4_eveningFault_59 rfl (Nat.le_of_ble_eq_true rfl) rfl ?_
              refine R_goto (n := 87) C dX4_eveningFault_60 rfl ?_
              refine R_inc3 (n := 90) C dX4_eveningFault_87 rfl (Nat.le_of_ble_eq_true rfl) (inc_1 _) rfl ?_
              refine R_goto (n := 4) C dX4_eveningFault_90 rfl ?_
              exact ih (i + 1) (some (p.2 i - 48)) _ (by omega) hP
            · rw [if_neg (by omega)] at hP
              refine R_il3 (n := 57) C dX4_eveningFault_56 rfl ?_
              refine R_iret C CR (Nat.zero_le _) (Nat.zero_le _) dX4_eveningFault_57 ?_
              exact ⟨by rw [evz, hE, hP], rfl, rfl⟩
        · cases pd with
          | none => cases c2
          | some k =>
          unfold evS at hP
          refine R_il4 (n := 26) C dX4_eveningFault_24 rfl ?_
          refine R_callSN (n := 29) C (c_wayOf _ _ _ r (by omega)) mw_X10_wayOf mn_X4_23 sv_X10_wayOf dX4_eveningFault_26 rfl rfl (Nat.le_of_ble_eq_true rfl) ⟨Nat.le_of_ble_eq_true rfl, Nat.le_of_ble_eq_true rfl⟩ ⟨Nat.le_refl _, Nat.le_refl _⟩ rfl (pEs ?_)
          refine R_if_ge (tgt := 34) C dX4_eveningFault_29 rfl rfl (fun c3 => ?_) (fun c3 => ?_)
          · rw [if_pos (wyO_ge.mp c3)] at hP
            refine R_ic (n := 35) C dX4_eveningFault_34 ci_0 rfl ?_
            refine R_is2 (n := 36) C dX4_eveningFault_35 rfl (Nat.le_of_ble_eq_true rfl) rfl ?_
            refine R_goto (n := 87) C dX4_eveningFault_36 rfl ?_
            refine R_inc3 (n := 90) C dX4_eveningFault_87 rfl (Nat.le_of_ble_eq_true rfl) (inc_1 _) rfl ?_
            refine R_goto (n := 4) C dX4_eveningFault_90 rfl ?_
            exact ih (i + 1) none _ (by omega) hP
          · rw [if_neg (fun e => c3 (wyO_ge.mpr e))] at hP
            refine R_il3 (n := 33) C dX4_eveningFault_32 rfl ?_
            refine R_iret C CR (Nat.zero_le _) (Nat.zero_le _) dX4_eveningFault_33 ?_
            exact ⟨by rw [evz, hE, hP], rfl, rfl⟩
  refine R_ic (n := 1) C dX4_eveningFault_0 ci_0 rfl ?_
  refine R_is2 (n := 2) C dX4_eveningFault_1 rfl (Nat.le_of_ble_eq_true rfl) rfl ?_
  refine R_ic (n := 3) C dX4_eveningFault_2 ci_0 rfl ?_
  refine R_is3 (n := 4) C dX4_eveningFault_3 rfl (Nat.le_of_ble_eq_true rfl) rfl ?_
  exact loop p.1 0 none none (by omega) hE.symm
