def mskz (s : Nat) : Nat → Nat
  | 0 => 0
  | k + 1 => if s.testBit k = true then mskz s k ||| 3 * 2 ^ (2 * k) else mskz s k
theorem msk_bit {s i : Nat} : ∀ {n : Nat}, (mskz s n).testBit i = (decide (i < 2 * n) && s.testBit (i / 2))
  | 0 => by simp [mskz]
  | n + 1 => by
    have t3 : (3 * 2 ^ (2 * n)).testBit i = (decide (2 * n ≤ i) && decide (i - 2 * n < 2)) := by
      rw [← Nat.shiftLeft_eq, Nat.testBit_shiftLeft, show (3 : Nat) = 2 ^ 2 - 1 from rfl, Nat.testBit_two_pow_sub_one]
    rw [mskz]
    by_cases c : s.testBit n = true
    · rw [if_pos c, Nat.testBit_or, msk_bit, t3]
      by_cases h : i < 2 * n
      · rw [decide_eq_true h, decide_eq_true (show i < 2 * (n + 1) by omega), decide_eq_false (show ¬ 2 * n ≤ i by omega)]
        simp
      · rw [decide_eq_false h]
        by_cases h2 : i < 2 * (n + 1)
        · rw [decide_eq_true h2, decide_eq_true (show 2 * n ≤ i by omega), decide_eq_true (show i - 2 * n < 2 by omega), show i / 2 = n by omega, c]
          rfl
        · rw [decide_eq_false h2, decide_eq_false (show ¬ i - 2 * n < 2 by omega)]
          simp
    · rw [if_neg c, msk_bit]
      by_cases h : i < 2 * n
      · rw [decide_eq_true h, decide_eq_true (show i < 2 * (n + 1) by omega)]
      · rw [decide_eq_false h]
        by_cases h2 : i < 2 * (n + 1)
        · rw [show i / 2 = n by omega]
          rw [Bool.not_eq_true] at c
          rw [c]
          simp
        · rw [decide_eq_false h2]
theorem wy_bits {a b k : Nat} : wy a k = wy b k ↔ a.testBit (2 * k) = b.testBit (2 * k) ∧ a.testBit (2 * k + 1) = b.testBit (2 * k + 1) := by
  rw [Nat.testBit_eq_decide_div_mod_eq, Nat.testBit_eq_decide_div_mod_eq, Nat.testBit_eq_decide_div_mod_eq, Nat.testBit_eq_decide_div_mod_eq, decide_eq_decide, decide_eq_decide, Nat.pow_succ, ← Nat.div_div_eq_div_mul, ← Nat.div_div_eq_div_mul, wy, wy]
  omega
def soS (n s a b : Nat) : Bool := alb (fun k => !s.testBit k || decide (wy a k = wy b k)) n
theorem msk_so {n s a b : Nat} (hn : n ≤ 5) (hs : s < 2 ^ n) : ((a ^^^ b) &&& mskz s 5 = 0) ↔ soS n s a b = true := by
  rw [soS, alb_iff]
  constructor
  · intro h k hk
    have key : ∀ i, ((a ^^^ b) &&& mskz s 5).testBit i = false := fun i => by rw [h]; exact Nat.zero_testBit i
    by_cases c : s.testBit k = true
    · have k1 := key (2 * k)
      have k2 := key (2 * k + 1)
      rw [Nat.testBit_and, Nat.testBit_xor, msk_bit, decide_eq_true (show 2 * k < 2 * 5 by omega), show 2 * k / 2 = k by omega, c] at k1
      rw [Nat.testBit_and, Nat.testBit_xor, msk_bit, decide_eq_true (show 2 * k + 1 < 2 * 5 by omega), show (2 * k + 1) / 2 = k by omega, c] at k2
      simp at k1 k2
      rw [decide_eq_true (wy_bits.mpr ⟨k1, k2⟩), Bool.or_true]
    · rw [Bool.not_eq_true] at c
      rw [c]
      rfl
  · intro h
    apply Nat.eq_of_testBit_eq
    intro i
    rw [Nat.zero_testBit, Nat.testBit_and, Nat.testBit_xor, msk_bit]
    by_cases c : s.testBit (i / 2) = true
    · have kn : i / 2 < n := by
        apply Nat.lt_of_not_le
        intro q
        rw [Nat.testBit_lt_two_pow (Nat.lt_of_lt_of_le hs (Nat.pow_le_pow_right (by decide) q))] at c
        cases c
      have h1 := h _ kn
      rw [c] at h1
      simp at h1
      obtain ⟨w1, w2⟩ := wy_bits.mp h1
      have e : i = 2 * (i / 2) ∨ i = 2 * (i / 2) + 1 := by omega
      have : a.testBit i = b.testBit i := by
        rcases e with e | e
        · rw [e]; exact w1
        · rw [e]; exact w2
      rw [this]
      simp
    · rw [Bool.not_eq_true] at c
      rw [c]
      simp
theorem mskz_lt {s : Nat} : mskz s 5 < 2 ^ 31 := by
  have : mskz s 5 < 2 ^ 10 := by
    apply Nat.lt_pow_two_of_testBit
    intro i hi
    rw [msk_bit, decide_eq_false (by omega)]
    rfl
  exact Nat.lt_trans this (by decide)
set_option maxRecDepth 20000 in
set_option maxHeartbeats 4000000 in
theorem c_maskOf (l : Launch) (D : va_G) (cA : Nat → ClassId) (r : Nat → Nat) {L : Ly} {h : Hp} {s : Nat} (hs : s < 2 ^ 31) : Cn l D cA yX10_maskOf cX10_maskOf 3 (some .int) 1 0 0 [.int (nI s)] (L) h (pE (some (.int (nI (mskz s 5)))) L h) := by
  refine Cn.of (lv := [some (.int (nI s)), none, none]) (by decide +kernel) (Nat.le_of_ble_eq_true rfl) rfl (fun X hnm C CR => ?_)
  have loop : ∀ (m i : Nat), 5 < i + m → i ≤ 5 → Rn X 0 0 4 [some (.int (nI s)), some (.int (nI (mskz s i))), some (.int (nI i))] [] L h := by
    intro m
    induction m with
    | zero => intro i a1 a2; omega
    | succ m ih =>
      intro i a1 a2
      refine R_il2 (n := 5) C dX10_maskOf_4 rfl ?_
      refine R_ic (n := 6) C dX10_maskOf_5 ci_5 rfl ?_
      refine R_icmp_geN (tgt := 31) C dX10_maskOf_6 rfl rfl (by omega) (by omega) (fun c1 => ?_) (fun c1 => ?_)
      · obtain rfl : i = 5 := by omega
        refine R_il1 (n := 32) C dX10_maskOf_31 rfl ?_
        refine R_iret C CR (Nat.zero_le _) (Nat.zero_le _) dX10_maskOf_32 ?_
        exact ⟨rfl, rfl, rfl⟩
      · refine R_il0 (n := 10) C dX10_maskOf_9 rfl ?_
        refine R_il2 (n := 11) C dX10_maskOf_10 rfl ?_
        refine R_callS (n := 14) C (c_isIn _ _ _ r hs (by omega)) mw_X10_isIn ml_X10_326 sv_X10_isIn dX10_maskOf_11 rfl rfl (Nat.le_of_ble_eq_true rfl) ⟨Nat.le_of_ble_eq_true rfl, Nat.le_of_ble_eq_true rfl⟩ ⟨Nat.le_refl _, Nat.le_refl _⟩ rfl (pEs ?_)
        refine R_if_eqB (tgt := 25) C dX10_maskOf_14 rfl rfl (fun c2 => ?_) (fun c2 => ?_)
        · have e : mskz s (i + 1) = mskz s i := by rw [mskz, if_neg (by rw [c2]; decide)]
          refine R_inc2 (n := 28) C dX10_maskOf_25 rfl (Nat.le_of_ble_eq_true rfl) (inc_1 _) rfl ?_
          refine R_goto (n := 4) C dX10_maskOf_28 rfl ?_
          rw [← e]
          exact ih (i + 1) (by omega) (by omega)
        · have e : mskz s (i + 1) = mskz s i ||| 3 * 2 ^ (2 * i) := by rw [mskz, if_pos c2]
          refine R_il1 (n := 18) C dX10_maskOf_17 rfl ?_
          refine R_ic (n := 19) C dX10_maskOf_18 ci_3 rfl ?_
          refine R_ic (n := 20) C dX10_maskOf_19 ci_2 rfl ?_
          refine R_il2 (n := 21) C dX10_maskOf_20 rfl ?_
          refine R_imulN (n := 22) C dX10_maskOf_21 rfl ?_
          refine R_ishlN (n := 23) C dX10_maskOf_22 (by omega) (shb (by decide) (by omega)) rfl ?_
          refine R_iorN (n := 24) C dX10_maskOf_23 rfl ?_
          refine R_is1 (n := 25) C dX10_maskOf_24 rfl (Nat.le_of_ble_eq_true rfl) rfl ?_
          refine R_inc2 (n := 28) C dX10_maskOf_25 rfl (Nat.le_of_ble_eq_true rfl) (inc_1 _) rfl ?_
          refine R_goto (n := 4) C dX10_maskOf_28 rfl ?_
          rw [← e]
          exact ih (i + 1) (by omega) (by omega)
  refine R_ic (n := 1) C dX10_maskOf_0 ci_0 rfl ?_
  refine R_is1 (n := 2) C dX10_maskOf_1 rfl (Nat.le_of_ble_eq_true rfl) rfl ?_
  refine R_ic (n := 3) C dX10_maskOf_2 ci_0 rfl ?_
  refine R_is2 (n := 4) C dX10_maskOf_3 rfl (Nat.le_of_ble_eq_true rfl) rfl ?_
  exact loop 6 0 (by omega) (by omega)
def fsz (n : Nat) (B : BS) (s b : Nat) : Option Nat := B.1.find? (fun x => soS n s x b)
set_option maxRecDepth 20000 in
set_option maxHeartbeats 4000000 in
theorem c_firstLooking (l : Launch) (D : va_G) (cA : Nat → ClassId) (r : Nat → Nat) {h : Hp} {σ : WS} (J : Inv σ) {B : BS} (I : BI σ B) (E : RB B h) {s b : Nat} (hs : s < 2 ^ sN σ) (hb : b < 1024) : Cn l D cA yX5_firstLooking cX5_firstLooking 5 (some .int) 2 0 0 [.ref (r 18), .int (nI s), .int (nI b)] (LY r) h (pE (some (.int (match fsz (sN σ) B s b with | none => -1 | some e => nI e))) (LY r) h) := by
  refine Cn.of (lv := [some (.ref (r 18)), some (.int (nI s)), some (.int (nI b)), none, none]) (by decide +kernel) (Nat.le_of_ble_eq_true rfl) rfl (fun X hnm C CR => ?_)
  have n5 := J.n5
  have s32 : s < 32 := Nat.lt_of_lt_of_le hs (p2_5 n5)
  obtain ⟨Z, hZ⟩ : ∃ Z, fsz (sN σ) B s b = Z := ⟨_, rfl⟩
  rw [hZ] at CR
  have len := I.len
  have ml := mskz_lt (s := s)
  have loop : ∀ (m i : Nat), B.1.length < i + m → i ≤ B.1.length → Z = (B.1.drop i).find? (fun x => soS (sN σ) s x b) → Rn X 0 0 8 [some (.ref (r 18)), some (.int (nI s)), some (.int (nI b)), some (.int (nI (mskz s 5))), some (.int (nI i))] [] (LY r) h := by
    intro m
    induction m with
    | zero => intro i a1 a2; omega
    | succ m ih =>
      intro i a1 a2 hz
      refine R_il4 (n := 10) C dX5_firstLooking_8 rfl ?_
      refine R_al0 (n := 11) C dX5_firstLooking_10 rfl ?_
      refine M_getI (n := 14) C fl_X5_44 dX5_firstLooking_11 rfl rfl E.1 rfl ?_
      refine R_icmp_geN (tgt := 45) C dX5_firstLooking_14 rfl rfl (by omega) (by omega) (fun c1 => ?_) (fun c1 => ?_)
      · rw [List.drop_eq_nil_of_le (by omega)] at hz
        refine R_ic (n := 46) C dX5_firstLooking_45 ci_m1 rfl ?_
        refine R_iret C CR (Nat.zero_le _) (Nat.zero_le _) dX5_firstLooking_46 ?_
        exact ⟨by rw [hz]; rfl, rfl, rfl⟩
      · have e : B.1[i]? = some B.1[i] := List.getElem?_eq_getElem c1
        obtain ⟨x, hx⟩ : ∃ x, B.1[i] = x := ⟨_, rfl⟩
        rw [List.drop_eq_getElem_cons c1, hx, List.find?_cons] at hz
        rw [hx] at e
        have e22 := E.2.1 i x e
        have x10 : x < 1024 := Nat.lt_of_lt_of_le (I.1 i x e).1 (p2_10 n5)
        have xb : (x ^^^ b) < 2 ^ 31 := Nat.lt_trans (Nat.xor_lt_two_pow (n := 10) x10 hb) (by decide)
        have xm : (x ^^^ b) &&& mskz s 5 < 2 ^ 31 := Nat.lt_of_le_of_lt Nat.and_le_left xb
        refine R_al0 (n := 18) C dX5_firstLooking_17 rfl ?_
        refine M_getR (n := 21) C fl_X5_18 dX5_firstLooking_18 rfl rfl rfl ?_
        refine R_il4 (n := 23) C dX5_firstLooking_21 rfl ?_
        refine M_iald (n := 24) C dX5_firstLooking_23 rfl (by omega) e22 rfl ?_
        refine R_il2 (n := 25) C dX5_firstLooking_24 rfl ?_
        refine R_ixorN (n := 26) C dX5_firstLooking_25 rfl ?_
        refine R_il3 (n := 27) C dX5_firstLooking_26 rfl ?_
        refine R_iandN (n := 28) C dX5_firstLooking_27 rfl ?_
        refine R_if_neN (tgt := 39) C dX5_firstLooking_28 rfl rfl (by omega) (fun c2 => ?_) (fun c2 => ?_)
        · rw [msk_so n5 hs, Bool.not_eq_true] at c2
          rw [c2] at hz
          refine R_inc4 (n := 42) C dX5_firstLooking_39 rfl (Nat.le_of_ble_eq_true rfl) (inc_1 _) rfl ?_
          refine R_goto (n := 8) C dX5_firstLooking_42 rfl ?_
          exact ih (i + 1) (by omega) (by omega) hz
        · rw [msk_so n5 hs] at c2
          rw [c2] at hz
          refine R_al0 (n := 32) C dX5_firstLooking_31 rfl ?_
          refine M_getR (n := 35) C fl_X5_18 dX5_firstLooking_32 rfl rfl rfl ?_
          refine R_il4 (n := 37) C dX5_firstLooking_35 rfl ?_
          refine M_iald (n := 38) C dX5_firstLooking_37 rfl (by omega) e22 rfl ?_
          refine R_iret C CR (Nat.zero_le _) (Nat.zero_le _) dX5_firstLooking_38 ?_
          exact ⟨by rw [hz], rfl, rfl⟩
  refine R_il1 (n := 1) C dX5_firstLooking_0 rfl ?_
  refine R_callSN (n := 4) C (c_maskOf _ _ _ r (by omega)) mw_X10_maskOf mn_X5_60 sv_X10_maskOf dX5_firstLooking_1 rfl rfl (Nat.le_of_ble_eq_true rfl) ⟨Nat.le_of_ble_eq_true rfl, Nat.le_of_ble_eq_true rfl⟩ ⟨Nat.le_refl _, Nat.le_refl _⟩ rfl (pEs ?_)
  refine R_is3 (n := 5) C dX5_firstLooking_4 rfl (Nat.le_of_ble_eq_true rfl) rfl ?_
  refine R_ic (n := 6) C dX5_firstLooking_5 ci_0 rfl ?_
  refine R_is4 (n := 8) C dX5_firstLooking_6 rfl (Nat.le_of_ble_eq_true rfl) rfl ?_
  exact loop (B.1.length + 1) 0 (by omega) (by omega) hZ.symm
theorem fsz_some {σ : WS} {B : BS} (I : BI σ B) {n s b e : Nat} (h : fsz n B s b = some e) : e < 2 ^ (2 * sN σ) ∧ 0 < B.2.1 e := by
  have := List.mem_of_find?_eq_some h
  obtain ⟨i, hi⟩ := List.getElem?_of_mem this
  exact I.1 i e hi
