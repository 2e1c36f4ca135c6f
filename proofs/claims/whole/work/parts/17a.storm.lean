def stz (c : Nat) : Nat → Nat × Nat
  | 0 => (1, 0)
  | m + 1 => ((stz c m).1 * (10 - c) + (stz c m).2 * c, (stz c m).2 * (10 - c) + (stz c m).1 * c)
theorem stz_sum {c : Nat} (hc : c ≤ 10) : ∀ m, (stz c m).1 + (stz c m).2 = 10 ^ m
  | 0 => rfl
  | m + 1 => by
    have h := stz_sum hc m
    show (stz c m).1 * (10 - c) + (stz c m).2 * c + ((stz c m).2 * (10 - c) + (stz c m).1 * c) = _
    have e : (10 - c) + c = 10 := by omega
    have : (stz c m).1 * (10 - c) + (stz c m).2 * c + ((stz c m).2 * (10 - c) + (stz c m).1 * c) = ((stz c m).1 + (stz c m).2) * ((10 - c) + c) := by
      rw [Nat.add_mul, Nat.mul_add, Nat.mul_add]
      omega
    rw [this, h, e, Nat.pow_succ]
def sup (q c m : Nat) : Nat := if q = 0 then (stz c m).1 else if q = 2 then (stz c m).2 else 0
theorem sup_le {q c m : Nat} (hc : c ≤ 10) : sup q c m ≤ 10 ^ m := by
  have := stz_sum hc m
  unfold sup
  split
  · omega
  · split <;> omega
theorem ten_15 {m : Nat} (hm : m ≤ 15) : 10 ^ m ≤ 1000000000000000 := Nat.pow_le_pow_right (n := 10) (by decide) hm
def aStorm (G : GS) (hu w c m pt : Int32) : Int64 := if hasH (gS G) hu then (if win w (nI 0) (nI 3) && (win c (nI 0) (nI 10) && (win m (nI 0) (nI 15) && win pt (nI 0) (nI 1))) then lN ((if cl pt = 0 then sup ((cl w + (4 - sA (gS G) 0 (cl hu))) % 4) (cl c) (cl m) else 10 ^ cl m) / Nat.gcd (sup ((cl w + (4 - sA (gS G) 0 (cl hu))) % 4) (cl c) (cl m)) (10 ^ cl m)) else (-1000000000000000002)) else (-1000000000000000001)
theorem i2l_n {a : Nat} (h : a < 2 ^ 31) : (nI a).toInt64 = lN a := nI_l h
set_option maxRecDepth 20000 in
set_option maxHeartbeats 4000000 in
theorem c_stormUpper (l : Launch) (D : va_G) (cA : Nat → ClassId) (r : Nat → Nat) {L : Ly} {h : Hp} {q c m : Nat} (hq : q < 4) (hc : c ≤ 10) (hm : m ≤ 15) : Cn l D cA yX10_stormUpper cX10_stormUpper 10 (some .long) 0 0 0 [.int (nI q), .int (nI c), .int (nI m)] (L) h (pE (some (.long (lN (sup q c m)))) L h) := by
  refine Cn.of (lv := [some (.int (nI q)), some (.int (nI c)), some (.int (nI m)), none, none, none, none, none, none, none]) (by decide +kernel) (Nat.le_of_ble_eq_true rfl) rfl (fun X hnm C CR => ?_)
  have loop : ∀ (t i : Nat) (o8 o9 : Option Value), m < i + t → i ≤ m → Rn X 0 0 8 [some (.int (nI q)), some (.int (nI c)), some (.int (nI m)), some (.long (lN (stz c i).1)), none, some (.long (lN (stz c i).2)), none, some (.int (nI i)), o8, o9] [] L h := by
    intro t
    induction t with
    | zero => intro i o8 o9 a1 a2; omega
    | succ t ih =>
      intro i o8 o9 a1 a2
      refine R_il7 (n := 10) C dX10_stormUpper_8 rfl ?_
      refine R_il2 (n := 11) C dX10_stormUpper_10 rfl ?_
      refine R_icmp_geN (tgt := 53) C dX10_stormUpper_11 rfl rfl (by omega) (by omega) (fun c1 => ?_) (fun c1 => ?_)
      · refine R_il0 (n := 54) C dX10_stormUpper_53 rfl ?_
        refine R_if_neN (tgt := 59) C dX10_stormUpper_54 rfl rfl (by omega) (fun c2 => ?_) (fun c2 => ?_)
        · refine R_il0 (n := 60) C dX10_stormUpper_59 rfl ?_
          refine R_ic (n := 61) C dX10_stormUpper_60 ci_2 rfl ?_
          refine R_icmp_neN (tgt := 69) C dX10_stormUpper_61 rfl rfl (by omega) (by omega) (fun c3 => ?_) (fun c3 => ?_)
          · refine R_lc (n := 70) C dX10_stormUpper_69 lc_0 rfl ?_
            refine R_lret C CR (Nat.zero_le _) (Nat.zero_le _) dX10_stormUpper_70 ?_
            exact ⟨by rw [sup, if_neg c2, if_neg c3], rfl, rfl⟩
          · refine R_ll5 (n := 66) C dX10_stormUpper_64 rfl ?_
            refine R_goto (n := 70) C dX10_stormUpper_66 rfl ?_
            refine R_lret C CR (Nat.zero_le _) (Nat.zero_le _) dX10_stormUpper_70 ?_
            exact ⟨by rw [sup, if_neg c2, if_pos c3, show m = i by omega], rfl, rfl⟩
        · refine R_ll3 (n := 58) C dX10_stormUpper_57 rfl ?_
          refine R_lret C CR (Nat.zero_le _) (Nat.zero_le _) dX10_stormUpper_58 ?_
          exact ⟨by rw [sup, if_pos c2, show m = i by omega], rfl, rfl⟩
      · refine R_ll3 (n := 15) C dX10_stormUpper_14 rfl ?_
        refine R_ls8 (n := 17) C dX10_stormUpper_15 rfl (Nat.le_of_ble_eq_true rfl) rfl ?_
        refine R_ll3 (n := 18) C dX10_stormUpper_17 rfl ?_
        refine R_bp (n := 20) C dX10_stormUpper_18 cb_10 rfl ?_
        refine R_il1 (n := 21) C dX10_stormUpper_20 rfl ?_
        refine R_isubN (n := 22) C dX10_stormUpper_21 (by omega) rfl ?_
        refine R_i2l (n := 23) C dX10_stormUpper_22 (i2l_n (by omega)) rfl ?_
        refine R_lmul (n := 24) C dX10_stormUpper_23 rfl (R_eql (lN_mul _ _) ?_)
        refine R_ll5 (n := 26) C dX10_stormUpper_24 rfl ?_
        refine R_il1 (n := 27) C dX10_stormUpper_26 rfl ?_
        refine R_i2l (n := 28) C dX10_stormUpper_27 (i2l_n (by omega)) rfl ?_
        refine R_lmul (n := 29) C dX10_stormUpper_28 rfl (R_eql (lN_mul _ _) ?_)
        refine R_ladd (n := 30) C dX10_stormUpper_29 rfl (R_eql (lN_add _ _) ?_)
        refine R_ls3 (n := 31) C dX10_stormUpper_30 rfl (Nat.le_of_ble_eq_true rfl) rfl ?_
        refine R_ll5 (n := 33) C dX10_stormUpper_31 rfl ?_
        refine R_bp (n := 35) C dX10_stormUpper_33 cb_10 rfl ?_
        refine R_il1 (n := 36) C dX10_stormUpper_35 rfl ?_
        refine R_isubN (n := 37) C dX10_stormUpper_36 (by omega) rfl ?_
        refine R_i2l (n := 38) C dX10_stormUpper_37 (i2l_n (by omega)) rfl ?_
        refine R_lmul (n := 39) C dX10_stormUpper_38 rfl (R_eql (lN_mul _ _) ?_)
        refine R_ll8 (n := 41) C dX10_stormUpper_39 rfl ?_
        refine R_il1 (n := 42) C dX10_stormUpper_41 rfl ?_
        refine R_i2l (n := 43) C dX10_stormUpper_42 (i2l_n (by omega)) rfl ?_
        refine R_lmul (n := 44) C dX10_stormUpper_43 rfl (R_eql (lN_mul _ _) ?_)
        refine R_ladd (n := 45) C dX10_stormUpper_44 rfl (R_eql (lN_add _ _) ?_)
        refine R_ls5 (n := 47) C dX10_stormUpper_45 rfl (Nat.le_of_ble_eq_true rfl) rfl ?_
        refine R_inc7 (n := 50) C dX10_stormUpper_47 rfl (Nat.le_of_ble_eq_true rfl) (inc_1 _) rfl ?_
        refine R_goto (n := 8) C dX10_stormUpper_50 rfl ?_
        exact ih (i + 1) _ _ (by omega) (by omega)
  refine R_lc (n := 1) C dX10_stormUpper_0 lc_1 rfl ?_
  refine R_ls3 (n := 2) C dX10_stormUpper_1 rfl (Nat.le_of_ble_eq_true rfl) rfl ?_
  refine R_lc (n := 3) C dX10_stormUpper_2 lc_0 rfl ?_
  refine R_ls5 (n := 5) C dX10_stormUpper_3 rfl (Nat.le_of_ble_eq_true rfl) rfl ?_
  refine R_ic (n := 6) C dX10_stormUpper_5 ci_0 rfl ?_
  refine R_is7 (n := 8) C dX10_stormUpper_6 rfl (Nat.le_of_ble_eq_true rfl) rfl ?_
  exact loop (m + 1) 0 none none (by omega) (by omega)
theorem lcmp_0 {a : Nat} (ha : a < 2 ^ 63) : lg_cmp (lN a) (lN 0) = 0 ↔ a = 0 := by
  have h1 : lg_cmp (lN a) (lN 0) = 0 ↔ lN a = lN 0 := by
    unfold lg_cmp
    by_cases g : lN a > lN 0
    · rw [if_pos g]
      constructor
      · intro q; exact absurd q (by decide)
      · intro q
        rw [q] at g
        have := Int64.lt_iff_toInt_lt.mp g
        omega
    · rw [if_neg g]
      by_cases e : lN a = lN 0
      · rw [if_pos e]; exact ⟨fun _ => e, fun _ => rfl⟩
      · rw [if_neg e]
        exact ⟨fun q => absurd q (by decide), fun q => absurd q e⟩
  rw [h1]
  exact pk_lEQ ha (by decide)
theorem lN_ne0 {a : Nat} (h0 : 0 < a) (ha : a < 2 ^ 63) : ¬ lN a = 0 := fun q => by
  have := (pk_lEQ ha (by decide : (0 : Nat) < 2 ^ 63)).mp q
  omega
theorem gcd_step {a b : Nat} : Nat.gcd b (a % b) = Nat.gcd a b := by
  rw [Nat.gcd_comm b (a % b), ← Nat.gcd_rec b a, Nat.gcd_comm]
theorem half_step {a b k : Nat} (hb : 0 < b) (hab : b < a) (h : a * b < 2 ^ (k + 1)) : b * (a % b) < 2 ^ k := by
  have h1 : a % b < b := Nat.mod_lt _ hb
  have h2 : a % b + b ≤ a := by
    have := Nat.div_add_mod a b
    have q : 1 ≤ a / b := (Nat.one_le_div_iff hb).mpr (by omega)
    have : b * 1 ≤ b * (a / b) := Nat.mul_le_mul_left b q
    omega
  have h3 : 2 * (b * (a % b)) ≤ a * b := by
    have e1 : (a % b + (a % b)) * b ≤ a * b := Nat.mul_le_mul_right b (by omega)
    rw [Nat.add_mul, Nat.mul_comm (a % b) b] at e1
    omega
  rw [Nat.pow_succ] at h
  omega
set_option maxRecDepth 20000 in
set_option maxHeartbeats 4000000 in
theorem c_commonDivisor (l : Launch) (D : va_G) (cA : Nat → ClassId) (r : Nat → Nat) {L : Ly} {h : Hp} {a b : Nat} (ha : a ≤ 1000000000000000) (hb : b ≤ 1000000000000000) : Cn l D cA yX10_commonDivisor cX10_commonDivisor 11 (some .long) 0 0 0 [.long (lN a), .long (lN b)] (L) h (pE (some (.long (lN (Nat.gcd a b)))) L h) := by
  refine Cn.of (lv := [some (.long (lN a)), none, some (.long (lN b)), none, none, none, none, none, none, none, none]) (by decide +kernel) (Nat.le_of_ble_eq_true rfl) rfl (fun X hnm C CR => ?_)
  have loop : ∀ (t i x y k : Nat) (o9 o10 : Option Value), 200 < i + t → i + k ≤ 103 → y < x → x < 2 ^ 62 → x * y < 2 ^ k → Nat.gcd x y = Nat.gcd a b → Rn X 0 0 9 [some (.long (lN a)), none, some (.long (lN b)), none, some (.long (lN x)), none, some (.long (lN y)), none, some (.int (nI i)), o9, o10] [] L h := by
    intro t
    induction t with
    | zero => intro i x y k o9 o10 a1 a2; omega
    | succ t ih =>
      intro i x y k o9 o10 a1 a2 a3 a4 a5 a6
      refine R_il8 (n := 11) C dX10_commonDivisor_9 rfl ?_
      refine R_sp (n := 14) C dX10_commonDivisor_11 cs_200 rfl ?_
      refine R_icmp_geN (tgt := 45) C dX10_commonDivisor_14 rfl rfl (by omega) (by omega) (fun c1 => ?_) (fun c1 => ?_)
      · omega
      · refine R_ll6 (n := 19) C dX10_commonDivisor_17 rfl ?_
        refine R_lc (n := 20) C dX10_commonDivisor_19 lc_0 rfl ?_
        refine R_lcmp (n := 21) C dX10_commonDivisor_20 rfl ?_
        refine R_if_eq (tgt := 45) C dX10_commonDivisor_21 rfl rfl (fun c2 => ?_) (fun c2 => ?_)
        · rw [lcmp_0 (by omega)] at c2
          refine R_ll4 (n := 47) C dX10_commonDivisor_45 rfl ?_
          refine R_lret C CR (Nat.zero_le _) (Nat.zero_le _) dX10_commonDivisor_47 ?_
          exact ⟨by rw [← a6, c2, Nat.gcd_zero_right], rfl, rfl⟩
        · rw [lcmp_0 (by omega)] at c2
          have y0 : 0 < y := by omega
          have k0 : ∃ k', k = k' + 1 := by
            cases k with
            | zero =>
              exfalso
              have : 1 * 1 ≤ x * y := Nat.mul_le_mul (by omega) (by omega)
              simp at a5
              omega
            | succ k' => exact ⟨k', rfl⟩
          obtain ⟨k', rfl⟩ := k0
          refine R_ll4 (n := 26) C dX10_commonDivisor_24 rfl ?_
          refine R_ll6 (n := 28) C dX10_commonDivisor_26 rfl ?_
          refine R_lrem (n := 29) C dX10_commonDivisor_28 (lN_ne0 y0 (by omega)) rfl (R_eql (pk_lRem (by omega) y0 (by omega)) ?_)
          refine R_ls9 (n := 31) C dX10_commonDivisor_29 rfl (Nat.le_of_ble_eq_true rfl) rfl ?_
          refine R_ll6 (n := 33) C dX10_commonDivisor_31 rfl ?_
          refine R_ls4 (n := 35) C dX10_commonDivisor_33 rfl (Nat.le_of_ble_eq_true rfl) rfl ?_
          refine R_ll9 (n := 37) C dX10_commonDivisor_35 rfl ?_
          refine R_ls6 (n := 39) C dX10_commonDivisor_37 rfl (Nat.le_of_ble_eq_true rfl) rfl ?_
          refine R_inc8 (n := 42) C dX10_commonDivisor_39 rfl (Nat.le_of_ble_eq_true rfl) (inc_1 _) rfl ?_
          refine R_goto (n := 9) C dX10_commonDivisor_42 rfl ?_
          exact ih (i + 1) y (x % y) k' _ _ (by omega) (by omega) (Nat.mod_lt _ y0) (by omega) (half_step y0 a3 a5) (by rw [gcd_step]; exact a6)
  have first : ∀ (o9 o10 : Option Value), Rn X 0 0 9 [some (.long (lN a)), none, some (.long (lN b)), none, some (.long (lN a)), none, some (.long (lN b)), none, some (.int (nI 0)), o9, o10] [] L h := by
    intro o9 o10
    refine R_il8 (n := 11) C dX10_commonDivisor_9 rfl ?_
    refine R_sp (n := 14) C dX10_commonDivisor_11 cs_200 rfl ?_
    refine R_icmp_geN (tgt := 45) C dX10_commonDivisor_14 rfl rfl (by omega) (by omega) (fun c1 => ?_) (fun c1 => ?_)
    · omega
    · refine R_ll6 (n := 19) C dX10_commonDivisor_17 rfl ?_
      refine R_lc (n := 20) C dX10_commonDivisor_19 lc_0 rfl ?_
      refine R_lcmp (n := 21) C dX10_commonDivisor_20 rfl ?_
      refine R_if_eq (tgt := 45) C dX10_commonDivisor_21 rfl rfl (fun c2 => ?_) (fun c2 => ?_)
      · rw [lcmp_0 (by omega)] at c2
        refine R_ll4 (n := 47) C dX10_commonDivisor_45 rfl ?_
        refine R_lret C CR (Nat.zero_le _) (Nat.zero_le _) dX10_commonDivisor_47 ?_
        exact ⟨by rw [c2, Nat.gcd_zero_right], rfl, rfl⟩
      · rw [lcmp_0 (by omega)] at c2
        have y0 : 0 < b := by omega
        refine R_ll4 (n := 26) C dX10_commonDivisor_24 rfl ?_
        refine R_ll6 (n := 28) C dX10_commonDivisor_26 rfl ?_
        refine R_lrem (n := 29) C dX10_commonDivisor_28 (lN_ne0 y0 (by omega)) rfl (R_eql (pk_lRem (by omega) y0 (by omega)) ?_)
        refine R_ls9 (n := 31) C dX10_commonDivisor_29 rfl (Nat.le_of_ble_eq_true rfl) rfl ?_
        refine R_ll6 (n := 33) C dX10_commonDivisor_31 rfl ?_
        refine R_ls4 (n := 35) C dX10_commonDivisor_33 rfl (Nat.le_of_ble_eq_true rfl) rfl ?_
        refine R_ll9 (n := 37) C dX10_commonDivisor_35 rfl ?_
        refine R_ls6 (n := 39) C dX10_commonDivisor_37 rfl (Nat.le_of_ble_eq_true rfl) rfl ?_
        refine R_inc8 (n := 42) C dX10_commonDivisor_39 rfl (Nat.le_of_ble_eq_true rfl) (inc_1 _) rfl ?_
        refine R_goto (n := 9) C dX10_commonDivisor_42 rfl ?_
        refine loop 200 1 b (a % b) 102 _ _ (by omega) (by omega) (Nat.mod_lt _ y0) (by omega) ?_ gcd_step
        have h1 : a % b < b := Nat.mod_lt _ y0
        have h2 : b * (a % b) ≤ 1000000000000000 * 1000000000000000 := Nat.mul_le_mul hb (by omega)
        have h3 : (1000000000000000 * 1000000000000000 : Nat) < 2 ^ 102 := by decide
        omega
  refine R_ll0 (n := 1) C dX10_commonDivisor_0 rfl ?_
  refine R_ls4 (n := 3) C dX10_commonDivisor_1 rfl (Nat.le_of_ble_eq_true rfl) rfl ?_
  refine R_ll2 (n := 4) C dX10_commonDivisor_3 rfl ?_
  refine R_ls6 (n := 6) C dX10_commonDivisor_4 rfl (Nat.le_of_ble_eq_true rfl) rfl ?_
  refine R_ic (n := 7) C dX10_commonDivisor_6 ci_0 rfl ?_
  refine R_is8 (n := 9) C dX10_commonDivisor_7 rfl (Nat.le_of_ble_eq_true rfl) rfl ?_
  exact first none none
theorem sub4 {a b : Nat} (ha : a < 4) (hb : b < 4) : (nI a - nI b) &&& nI 3 = nI ((a + (4 - b)) % 4) := nI_sub3 ha hb
set_option maxRecDepth 20000 in
set_option maxHeartbeats 4000000 in
theorem p_storm (l : Launch) (D : va_G) (cA : Nat → ClassId) (r : Nat → Nat) {h : Hp} {G : GS} (R : RCl G h) (I : InvG G) (hu w c m pt : Int32) : Cn l D cA yX10_storm cX10_storm 12 (some .long) 2 0 0 [.ref (r 0), .int hu, .int w, .int c, .int m, .int pt] (LY r) h (pG (some (.long (aStorm G hu w c m pt))) (LY r) (fun h' => RCl G h' ∧ FrC h h')) := by
  refine Cn.of (lv := [some (.ref (r 0)), some (.int hu), some (.int w), some (.int c), some (.int m), some (.int pt), none, none, none, none, none, none]) (by decide +kernel) (Nat.le_of_ble_eq_true rfl) rfl (fun X hnm C CR => ?_)
  have n5 := I.1.n5
  refine R_al0 (n := 1) C dX10_storm_0 rfl ?_
  refine M_getR (n := 4) C fl_X10_12 dX10_storm_1 rfl rfl rfl ?_
  refine R_il1 (n := 5) C dX10_storm_4 rfl ?_
  refine M_callV (n := 8) C (c_hasHut _ _ _ r R.1 I.1 hu) mw_X9_hasHut ml_X10_88 iv_X9_hasHut dX10_storm_5 rfl rfl rfl rfl (Nat.le_of_ble_eq_true rfl) ⟨Nat.le_of_ble_eq_true rfl, Nat.le_of_ble_eq_true rfl⟩ ⟨Nat.le_refl _, Nat.le_refl _⟩ rfl (pEs ?_)
  refine R_if_neB (tgt := 15) C dX10_storm_8 rfl rfl (fun c1 => ?_) (fun c1 => ?_)
  · obtain ⟨k, hk, rfl, hk2⟩ := hasH_of I.1 c1
    have c1' : hasH (gS G) (nI k) = true := c1
    rw [aStorm, c1', if_pos rfl, hk2] at CR
    have bad : (win w (nI 0) (nI 3) && (win c (nI 0) (nI 10) && (win m (nI 0) (nI 15) && win pt (nI 0) (nI 1)))) = false → Rn X 0 0 55 [some (.ref (r 0)), some (.int (nI k)), some (.int w), some (.int c), some (.int m), some (.int pt), none, none, none, none, none, none] [] (LY r) h := by
      intro q
      rw [q] at CR
      refine R_ldc2 (n := 58) C dX10_storm_55 kl_X10_270 rfl ?_
      refine R_lret C CR (Nat.zero_le _) (Nat.zero_le _) dX10_storm_58 ?_
      exact ⟨rfl, rfl, R, FrC.rf⟩
    refine R_il2 (n := 16) C dX10_storm_15 rfl ?_
    refine R_ic (n := 17) C dX10_storm_16 ci_0 rfl ?_
    refine R_ic (n := 18) C dX10_storm_17 ci_3 rfl ?_
    refine R_callS (n := 21) C (c_isWithin _ _ _ r _ _ _) mw_X10_isWithin ml_X10_92 sv_X10_isWithin dX10_storm_18 rfl rfl (Nat.le_of_ble_eq_true rfl) ⟨Nat.le_of_ble_eq_true rfl, Nat.le_of_ble_eq_true rfl⟩ ⟨Nat.le_refl _, Nat.le_refl _⟩ rfl (pEs ?_)
    refine R_if_eqB (tgt := 55) C dX10_storm_21 rfl rfl (fun c2 => ?_) (fun c2 => ?_)
    · exact bad (by rw [c2]; rfl)
    · refine R_il3 (n := 25) C dX10_storm_24 rfl ?_
      refine R_ic (n := 26) C dX10_storm_25 ci_0 rfl ?_
      refine R_bp (n := 28) C dX10_storm_26 cb_10 rfl ?_
      refine R_callS (n := 31) C (c_isWithin _ _ _ r _ _ _) mw_X10_isWithin ml_X10_92 sv_X10_isWithin dX10_storm_28 rfl rfl (Nat.le_of_ble_eq_true rfl) ⟨Nat.le_of_ble_eq_true rfl, Nat.le_of_ble_eq_true rfl⟩ ⟨Nat.le_refl _, Nat.le_refl _⟩ rfl (pEs ?_)
      refine R_if_eqB (tgt := 55) C dX10_storm_31 rfl rfl (fun c3 => ?_) (fun c3 => ?_)
      · exact bad (by rw [c3, Bool.false_and, Bool.and_false])
      · refine R_il4 (n := 36) C dX10_storm_34 rfl ?_
        refine R_ic (n := 37) C dX10_storm_36 ci_0 rfl ?_
        refine R_bp (n := 39) C dX10_storm_37 cb_15 rfl ?_
        refine R_callS (n := 42) C (c_isWithin _ _ _ r _ _ _) mw_X10_isWithin ml_X10_92 sv_X10_isWithin dX10_storm_39 rfl rfl (Nat.le_of_ble_eq_true rfl) ⟨Nat.le_of_ble_eq_true rfl, Nat.le_of_ble_eq_true rfl⟩ ⟨Nat.le_refl _, Nat.le_refl _⟩ rfl (pEs ?_)
        refine R_if_eqB (tgt := 55) C dX10_storm_42 rfl rfl (fun c4 => ?_) (fun c4 => ?_)
        · exact bad (by rw [c4, Bool.false_and, Bool.and_false, Bool.and_false])
        · refine R_il5 (n := 47) C dX10_storm_45 rfl ?_
          refine R_ic (n := 48) C dX10_storm_47 ci_0 rfl ?_
          refine R_ic (n := 49) C dX10_storm_48 ci_1 rfl ?_
          refine R_callS (n := 52) C (c_isWithin _ _ _ r _ _ _) mw_X10_isWithin ml_X10_92 sv_X10_isWithin dX10_storm_49 rfl rfl (Nat.le_of_ble_eq_true rfl) ⟨Nat.le_of_ble_eq_true rfl, Nat.le_of_ble_eq_true rfl⟩ ⟨Nat.le_refl _, Nat.le_refl _⟩ rfl (pEs ?_)
          refine R_if_neB (tgt := 59) C dX10_storm_52 rfl rfl (fun c5 => ?_) (fun c5 => ?_)
          · rw [c2, c3, c4, c5, Bool.and_self, Bool.and_self, Bool.and_self, if_pos rfl] at CR
            obtain ⟨x2, _, b2, rfl⟩ := win_of (by decide) (by decide) c2
            obtain ⟨x3, _, b3, rfl⟩ := win_of (by decide) (by decide) c3
            obtain ⟨x4, _, b4, rfl⟩ := win_of (by decide) (by decide) c4
            obtain ⟨x5, _, b5, rfl⟩ := win_of (by decide) (by decide) c5
            have e2 : cl (nI x2) = x2 := nI_clamp (by omega)
            have e3 : cl (nI x3) = x3 := nI_clamp (by omega)
            have e4 : cl (nI x4) = x4 := nI_clamp (by omega)
            have e5 : cl (nI x5) = x5 := nI_clamp (by omega)
            rw [e2, e3, e4, e5] at CR
            have lk := I.1.lk (k := k) (by omega)
            obtain ⟨U, hU⟩ : ∃ U, sup ((x2 + (4 - sA (gS G) 0 k)) % 4) x3 x4 = U := ⟨_, rfl⟩
            have Ub : U ≤ 10 ^ x4 := by rw [← hU]; exact sup_le b3
            have tb := ten_15 b4
            have tp : 0 < 10 ^ x4 := Nat.pow_pos (by decide)
            rw [hU] at CR
            refine R_il2 (n := 60) C dX10_storm_59 rfl ?_
            refine R_al0 (n := 61) C dX10_storm_60 rfl ?_
            refine M_getR (n := 64) C fl_X10_12 dX10_storm_61 rfl rfl rfl ?_
            refine M_getR (n := 67) C fl_X10_168 dX10_storm_64 rfl rfl rfl ?_
            refine R_il1 (n := 68) C dX10_storm_67 rfl ?_
            refine M_iald (n := 69) C dX10_storm_68 rfl (by omega) (wLk R.1 (by omega)) rfl ?_
            refine R_isub (n := 70) C dX10_storm_69 rfl ?_
            refine R_ic (n := 71) C dX10_storm_70 ci_3 rfl ?_
            refine R_iand (n := 72) C dX10_storm_71 rfl (R_eq (sub4 (by omega) lk) ?_)
            refine R_il3 (n := 73) C dX10_storm_72 rfl ?_
            refine R_il4 (n := 75) C dX10_storm_73 rfl ?_
            refine R_callS (n := 78) C (c_stormUpper _ _ _ r (Nat.mod_lt _ (by decide)) b3 b4) mw_X10_stormUpper ml_X10_272 sv_X10_stormUpper dX10_storm_75 rfl rfl (Nat.le_of_ble_eq_true rfl) ⟨Nat.le_of_ble_eq_true rfl, Nat.le_of_ble_eq_true rfl⟩ ⟨Nat.le_refl _, Nat.le_refl _⟩ rfl (pEs ?_)
            rw [hU]
            have loop : ∀ (t i : Nat), x4 < i + t → i ≤ x4 → Rn X 0 0 86 [some (.ref (r 0)), some (.int (nI k)), some (.int (nI x2)), some (.int (nI x3)), some (.int (nI x4)), some (.int (nI x5)), some (.long (lN U)), none, some (.long (lN (10 ^ i))), none, some (.int (nI i)), none] [] (LY r) h := by
              intro t
              induction t with
              | zero => intro i a1 a2; omega
              | succ t ih =>
                intro i a1 a2
                refine R_il10 (n := 88) C dX10_storm_86 rfl ?_
                refine R_il4 (n := 90) C dX10_storm_88 rfl ?_
                refine R_icmp_geN (tgt := 107) C dX10_storm_90 rfl rfl (by omega) (by omega) (fun d1 => ?_) (fun d1 => ?_)
                · obtain rfl : i = x4 := by omega
                  have g0 : 0 < Nat.gcd U (10 ^ i) := Nat.gcd_pos_of_pos_right _ tp
                  have gb : Nat.gcd U (10 ^ i) ≤ 10 ^ i := Nat.gcd_le_right _ tp
                  refine R_ll6 (n := 109) C dX10_storm_107 rfl ?_
                  refine R_ll8 (n := 111) C dX10_storm_109 rfl ?_
                  refine R_callS (n := 114) C (c_commonDivisor _ _ _ r (by omega) (by omega)) mw_X10_commonDivisor ml_X10_278 sv_X10_commonDivisor dX10_storm_111 rfl rfl (Nat.le_of_ble_eq_true rfl) ⟨Nat.le_of_ble_eq_true rfl, Nat.le_of_ble_eq_true rfl⟩ ⟨Nat.le_refl _, Nat.le_refl _⟩ rfl (pEs ?_)
                  refine R_ls10 (n := 116) C dX10_storm_114 rfl (Nat.le_of_ble_eq_true rfl) rfl ?_
                  refine R_il5 (n := 118) C dX10_storm_116 rfl ?_
                  refine R_if_neN (tgt := 126) C dX10_storm_118 rfl rfl (by omega) (fun d2 => ?_) (fun d2 => ?_)
                  · rw [if_neg d2] at CR
                    refine R_ll8 (n := 128) C dX10_storm_126 rfl ?_
                    refine R_lc (n := 129) C dX10_storm_128 lc_1 rfl ?_
                    refine R_ll10 (n := 131) C dX10_storm_129 rfl ?_
                    refine R_mmaxL (n := 134) C (by omega) (by omega) ml_X10_282 dX10_storm_131 (Nat.le_of_ble_eq_true rfl) (Nat.le_of_ble_eq_true rfl) ⟨Nat.le_refl _, Nat.le_refl _⟩ rfl ?_
                    refine R_eql (y := lN (Nat.gcd U (10 ^ i))) (by rw [Nat.max_eq_right (by omega)]) ?_
                    refine R_ldiv (n := 135) C dX10_storm_134 (lN_ne0 g0 (by omega)) rfl (R_eql (pk_lDiv (by omega) g0 (by omega)) ?_)
                    refine R_lret C CR (Nat.zero_le _) (Nat.zero_le _) dX10_storm_135 ?_
                    exact ⟨rfl, rfl, R, FrC.rf⟩
                  · rw [if_pos d2] at CR
                    refine R_ll6 (n := 123) C dX10_storm_121 rfl ?_
                    refine R_goto (n := 128) C dX10_storm_123 rfl ?_
                    refine R_lc (n := 129) C dX10_storm_128 lc_1 rfl ?_
                    refine R_ll10 (n := 131) C dX10_storm_129 rfl ?_
                    refine R_mmaxL (n := 134) C (by omega) (by omega) ml_X10_282 dX10_storm_131 (Nat.le_of_ble_eq_true rfl) (Nat.le_of_ble_eq_true rfl) ⟨Nat.le_refl _, Nat.le_refl _⟩ rfl ?_
                    refine R_eql (y := lN (Nat.gcd U (10 ^ i))) (by rw [Nat.max_eq_right (by omega)]) ?_
                    refine R_ldiv (n := 135) C dX10_storm_134 (lN_ne0 g0 (by omega)) rfl (R_eql (pk_lDiv (by omega) g0 (by omega)) ?_)
                    refine R_lret C CR (Nat.zero_le _) (Nat.zero_le _) dX10_storm_135 ?_
                    exact ⟨rfl, rfl, R, FrC.rf⟩
                · refine R_ll8 (n := 95) C dX10_storm_93 rfl ?_
                  refine R_ldc2 (n := 98) C dX10_storm_95 kl_X10_276 rfl ?_
                  refine R_eql (y := lN 10) (by decide +kernel) ?_
                  refine R_lmul (n := 99) C dX10_storm_98 rfl (R_eql (y := lN (10 ^ (i + 1))) (by rw [lN_mul, Nat.pow_succ]) ?_)
                  refine R_ls8 (n := 101) C dX10_storm_99 rfl (Nat.le_of_ble_eq_true rfl) rfl ?_
                  refine R_inc10 (n := 104) C dX10_storm_101 rfl (Nat.le_of_ble_eq_true rfl) (inc_1 _) rfl ?_
                  refine R_goto (n := 86) C dX10_storm_104 rfl ?_
                  exact ih (i + 1) (by omega) (by omega)
            refine R_ls6 (n := 80) C dX10_storm_78 rfl (Nat.le_of_ble_eq_true rfl) rfl ?_
            refine R_lc (n := 81) C dX10_storm_80 lc_1 rfl ?_
            refine R_ls8 (n := 83) C dX10_storm_81 rfl (Nat.le_of_ble_eq_true rfl) rfl ?_
            refine R_ic (n := 84) C dX10_storm_83 ci_0 rfl ?_
            refine R_is10 (n := 86) C dX10_storm_84 rfl (Nat.le_of_ble_eq_true rfl) rfl ?_
            exact loop (x4 + 1) 0 (by omega) (by omega)
          · exact bad (by rw [c5, Bool.and_false, Bool.and_false, Bool.and_false])
  · have c1' : hasH (gS G) hu = false := c1
    rw [aStorm, c1'] at CR
    refine R_ldc2 (n := 14) C dX10_storm_11 kl_X10_268 rfl ?_
    refine R_lret C CR (Nat.zero_le _) (Nat.zero_le _) dX10_storm_14 ?_
    exact ⟨rfl, rfl, R, FrC.rf⟩
