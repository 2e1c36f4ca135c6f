theorem lowb : ∀ x : Nat, x ≠ 0 → ∃ q k, x = 2 ^ (q + 1) * k + 2 ^ q := by
  intro x
  induction x using Nat.strongRecOn with
  | _ x ih =>
    intro h
    by_cases o : x % 2 = 1
    · exact ⟨0, x / 2, by rw [Nat.pow_zero]; show x = 2 ^ 1 * (x / 2) + 1; omega⟩
    · obtain ⟨q, k, e⟩ := ih (x / 2) (by omega) (by omega)
      refine ⟨q + 1, k, ?_⟩
      have e1 : 2 ^ (q + 1 + 1) * k = 2 * (2 ^ (q + 1) * k) := by rw [Nat.pow_succ 2 (q + 1), Nat.mul_comm (2 ^ (q + 1)) 2, Nat.mul_assoc]
      have e2 : 2 ^ (q + 1) = 2 * 2 ^ q := by rw [Nat.pow_succ, Nat.mul_comm]
      rw [e1]
      omega
theorem lowb_t {q k i : Nat} : (2 ^ (q + 1) * k + 2 ^ q).testBit i = if i < q + 1 then decide (i = q) else k.testBit (i - (q + 1)) := by
  rw [Nat.testBit_two_pow_mul_add _ (Nat.pow_lt_pow_right (by decide) (Nat.lt_succ_self q))]
  split
  · rw [Nat.testBit_two_pow, decide_eq_decide]
    omega
  · rfl
theorem lowb_p {q k : Nat} : 2 ^ (q + 1) * k + 2 ^ q - 1 = 2 ^ (q + 1) * k + (2 ^ q - 1) := by
  have := Nat.two_pow_pos q
  omega
theorem lowb_pt {q k i : Nat} : (2 ^ (q + 1) * k + 2 ^ q - 1).testBit i = if i < q + 1 then decide (i < q) else k.testBit (i - (q + 1)) := by
  have h := Nat.two_pow_pos q
  have h2 : 2 ^ q - 1 < 2 ^ (q + 1) := by rw [Nat.pow_succ]; omega
  rw [lowb_p, Nat.testBit_two_pow_mul_add _ h2, Nat.testBit_two_pow_sub_one]
def M32 : Nat := 4294967295
theorem M32_t {i : Nat} : M32.testBit i = decide (i < 32) := by
  show (2 ^ 32 - 1).testBit i = _
  exact Nat.testBit_two_pow_sub_one 32 i
theorem M32_I : (-1 : Int32) = nI M32 := by decide +kernel
theorem low_and {q k : Nat} (h : 2 ^ (q + 1) * k + 2 ^ q < 2 ^ 32) : ((2 ^ (q + 1) * k + 2 ^ q) ^^^ M32) &&& (2 ^ (q + 1) * k + 2 ^ q - 1) = 2 ^ q - 1 := by
  have hq : q < 32 := by
    apply Nat.lt_of_not_le
    intro c
    have := Nat.pow_le_pow_right (n := 2) (by decide) c
    omega
  apply Nat.eq_of_testBit_eq
  intro i
  rw [Nat.testBit_and, Nat.testBit_xor, lowb_t, lowb_pt, M32_t, Nat.testBit_two_pow_sub_one]
  by_cases c : i < q + 1
  · rw [if_pos c, if_pos c, decide_eq_true (show i < 32 by omega)]
    by_cases e : i < q
    · rw [decide_eq_true e, decide_eq_false (show ¬ i = q by omega)]; rfl
    · rw [decide_eq_false e]; simp
  · rw [if_neg c, if_neg c, decide_eq_false (show ¬ i < q by omega)]
    by_cases e : i < 32
    · rw [decide_eq_true e]; simp
    · have t : (2 ^ (q + 1) * k + 2 ^ q).testBit i = false := Nat.testBit_lt_two_pow (Nat.lt_of_lt_of_le h (Nat.pow_le_pow_right (by decide) (by omega)))
      rw [lowb_t, if_neg c] at t
      rw [t]; simp
theorem low_rm {q k : Nat} {i : Nat} : ((2 ^ (q + 1) * k + 2 ^ q) &&& (2 ^ (q + 1) * k + 2 ^ q - 1)).testBit i = if i < q + 1 then false else (2 ^ (q + 1) * k + 2 ^ q).testBit i := by
  rw [Nat.testBit_and, lowb_t, lowb_pt]
  by_cases c : i < q + 1
  · rw [if_pos c, if_pos c, if_pos c]
    by_cases e : i = q
    · rw [decide_eq_false (show ¬ i < q by omega), Bool.and_false]
    · rw [decide_eq_false e, Bool.false_and]
  · rw [if_neg c, if_neg c, if_neg c, Bool.and_self]
def ntI (i0 : Int32) : Int32 := if 0 < i0 then ntE (ntD (ntC (ntB (ntA (i0, nI 1))))) else i0 &&& nI 32
theorem ntI_ok : ∀ q, q < 32 → ntI (nI (2 ^ q - 1)) = nI q := by decide +kernel
theorem ntz_low {q k : Nat} (h : 2 ^ (q + 1) * k + 2 ^ q < 2 ^ 32) (hq : q < 32) : ntz (nI (2 ^ (q + 1) * k + 2 ^ q)) = nI q := by
  have p := Nat.two_pow_pos q
  show ntI ((nI (2 ^ (q + 1) * k + 2 ^ q) ^^^ (-1)) &&& (nI (2 ^ (q + 1) * k + 2 ^ q) - nI 1)) = _
  rw [M32_I, nI_xor, pk_sub (show 1 ≤ 2 ^ (q + 1) * k + 2 ^ q by omega), nI_and, low_and h]
  exact ntI_ok q hq
theorem nI_z32 {a : Nat} (h : a < 2 ^ 32) : nI a = 0 ↔ a = 0 := by
  constructor
  · intro q
    have e : (nI a).toBitVec.toNat = 0 := by rw [q]; rfl
    have e2 : (nI a).toBitVec.toNat = a % 2 ^ 32 := BitVec.toNat_ofNat a 32
    rw [e2, Nat.mod_eq_of_lt h] at e
    exact e
  · intro q; rw [q]; rfl
theorem nI_sr1 {s m : Nat} (hm : m < 32) : (nI s >>> (nI m &&& 31)) &&& nI 1 = nI (s / 2 ^ m % 2) := by
  have e : (nI s >>> (nI m &&& 31)).toBitVec = (BitVec.ofNat 32 s).sshiftRight m := by
    rw [Int32.toBitVec_shiftRight]
    show (BitVec.ofNat 32 s).sshiftRight ((nI m &&& 31).toBitVec.smod 32).toNat = _
    rw [sh_l m hm]
  apply Int32.toBitVec_inj.mp
  rw [Int32.toBitVec_and, e]
  show _ &&& BitVec.ofNat 32 1 = BitVec.ofNat 32 (s / 2 ^ m % 2)
  apply BitVec.eq_of_getLsbD_eq
  intro i hi
  have t1 : (1 : Nat).testBit i = decide (i = 0) := by
    have := Nat.testBit_two_pow (n := 0) (m := i)
    rw [Nat.pow_zero] at this
    rw [this, decide_eq_decide]
    omega
  rw [BitVec.getLsbD_and, BitVec.getLsbD_sshiftRight, BitVec.getLsbD_ofNat, BitVec.getLsbD_ofNat, decide_eq_true hi, t1]
  by_cases c : i = 0
  · subst c
    rw [if_pos (by omega), BitVec.getLsbD_ofNat, decide_eq_true (show m + 0 < 32 by omega), Nat.add_zero, Nat.testBit_eq_decide_div_mod_eq, Nat.testBit_zero, Nat.mod_mod]
    simp
  · have : s / 2 ^ m % 2 / 2 ^ i = 0 := Nat.div_eq_of_lt (Nat.lt_of_lt_of_le (Nat.mod_lt _ (by decide)) (show 2 ≤ 2 ^ i from Nat.pow_le_pow_right (n := 2) (i := 1) (by decide) (by omega)))
    have rr : (BitVec.ofNat 32 (s / 2 ^ m % 2)).getLsbD i = false := by
      rw [BitVec.getLsbD_ofNat, Nat.testBit_eq_decide_div_mod_eq, this]
      simp
    rw [decide_eq_false c, rr]
    simp
set_option maxRecDepth 20000 in
set_option maxHeartbeats 4000000 in
theorem c_isIn32 (l : Launch) (D : va_G) (cA : Nat → ClassId) (r : Nat → Nat) {L : Ly} {h : Hp} {s m : Nat} (hm : m < 32) : Cn l D cA yX10_isIn cX10_isIn 2 (some .boolean) 0 0 0 [.int (nI s), .int (nI m)] (L) h (pE (some (.int (bI (s.testBit m)))) L h) := by
  refine Cn.of (lv := [some (.int (nI s)), some (.int (nI m))]) (by decide +kernel) (Nat.le_of_ble_eq_true rfl) rfl (fun X hnm C CR => ?_)
  refine R_il0 (n := 1) C dX10_isIn_0 rfl ?_
  refine R_il1 (n := 2) C dX10_isIn_1 rfl ?_
  refine R_ishr (n := 3) C dX10_isIn_2 rfl ?_
  refine R_ic (n := 4) C dX10_isIn_3 ci_1 rfl ?_
  refine R_iand (n := 5) C dX10_isIn_4 rfl ?_
  refine R_eq (y := nI (s / 2 ^ m % 2)) (nI_sr1 hm) ?_
  have h2 : s / 2 ^ m % 2 < 2 := Nat.mod_lt _ (by decide)
  refine R_if_eqN (tgt := 12) C dX10_isIn_5 rfl rfl (by omega) (fun c1 => ?_) (fun c1 => ?_)
  · refine R_ic (n := 13) C dX10_isIn_12 ci_0 rfl ?_
    refine R_zret0 C CR (Nat.zero_le _) (Nat.zero_le _) dX10_isIn_13 ?_
    exact ⟨by rw [tb_div, c1]; rfl, rfl, rfl⟩
  · refine R_ic (n := 9) C dX10_isIn_8 ci_1 rfl ?_
    refine R_goto (n := 13) C dX10_isIn_9 rfl ?_
    refine R_zret1 C CR (Nat.zero_le _) (Nat.zero_le _) dX10_isIn_13 ?_
    exact ⟨by rw [tb_div, show s / 2 ^ m % 2 = 1 by omega]; rfl, rfl, rfl⟩
def wdz (s d : Nat) : Nat → Nat
  | 0 => 0
  | q + 1 => if s.testBit q = true then wdz s d q ||| 2 ^ (q ||| d) else wdz s d q
theorem wdz_t {s d p : Nat} : ∀ {n : Nat}, (wdz s d n).testBit p = true ↔ ∃ q, q < n ∧ s.testBit q = true ∧ q ||| d = p
  | 0 => ⟨fun h => by simp [wdz] at h, fun ⟨q, h, _⟩ => absurd h (Nat.not_lt_zero _)⟩
  | n + 1 => by
    rw [wdz]
    by_cases c : s.testBit n = true
    · rw [if_pos c, Nat.testBit_or, Bool.or_eq_true, wdz_t, Nat.testBit_two_pow, decide_eq_true_eq]
      constructor
      · rintro (⟨q, h1, h2, h3⟩ | h)
        · exact ⟨q, by omega, h2, h3⟩
        · exact ⟨n, by omega, c, h⟩
      · rintro ⟨q, h1, h2, h3⟩
        by_cases e : q = n
        · exact Or.inr (by rw [← e]; exact h3)
        · exact Or.inl ⟨q, by omega, h2, h3⟩
    · rw [if_neg c, wdz_t]
      constructor
      · rintro ⟨q, h1, h2, h3⟩
        exact ⟨q, by omega, h2, h3⟩
      · rintro ⟨q, h1, h2, h3⟩
        exact ⟨q, by
          have : q ≠ n := fun e => c (by rw [← e]; exact h2)
          omega, h2, h3⟩
theorem wdz_lt {s d : Nat} (hd : d < 32) {n : Nat} (hn : n ≤ 32) : wdz s d n < 2 ^ 32 := by
  apply Nat.lt_pow_two_of_testBit
  intro i hi
  cases e : (wdz s d n).testBit i with
  | false => rfl
  | true =>
    obtain ⟨q, h1, _, h3⟩ := wdz_t.mp e
    have : q ||| d < 2 ^ 5 := Nat.or_lt_two_pow (by omega) (by omega)
    omega
theorem wdz_gap {s d c : Nat} : ∀ {n : Nat}, c ≤ n → (∀ j, c ≤ j → j < n → s.testBit j = false) → wdz s d n = wdz s d c
  | 0, h, _ => by rw [show c = 0 by omega]
  | n + 1, h, z => by
    by_cases e : c = n + 1
    · rw [e]
    · rw [wdz, if_neg (by rw [z n (by omega) (by omega)]; decide)]
      exact wdz_gap (by omega) (fun j h1 h2 => z j h1 (by omega))
set_option maxRecDepth 20000 in
set_option maxHeartbeats 4000000 in
theorem c_withDoors (l : Launch) (D : va_G) (cA : Nat → ClassId) (r : Nat → Nat) {L : Ly} {h : Hp} {s d : Nat} (hs : s < 2 ^ 32) (hd : d < 32) : Cn l D cA yX6_withDoors cX6_withDoors 5 (some .int) 1 0 0 [.int (nI s), .int (nI d)] (L) h (pE (some (.int (nI (wdz s d 32)))) L h) := by
  refine Cn.of (lv := [some (.int (nI s)), some (.int (nI d)), none, none, none]) (by decide +kernel) (Nat.le_of_ble_eq_true rfl) rfl (fun X hnm C CR => ?_)
  have loop : ∀ (m i c lf : Nat), 32 < i + m → i ≤ c → c ≤ 32 → lf < 2 ^ 32 → (∀ j, j < c → lf.testBit j = false) → (∀ j, c ≤ j → lf.testBit j = s.testBit j) → Rn X 0 0 7 [some (.int (nI s)), some (.int (nI d)), some (.int (nI (wdz s d c))), some (.int (nI lf)), some (.int (nI i))] [] L h := by
    intro m
    induction m with
    | zero => intro i c lf a1 a2 a3; omega
    | succ m ih =>
      intro i c lf a1 a2 a3 hl z1 z2
      have done : lf = 0 → wdz s d c = wdz s d 32 := fun e => (wdz_gap a3 (fun j h1 _ => by rw [← z2 j h1, e]; exact Nat.zero_testBit j)).symm
      refine R_il4 (n := 9) C dX6_withDoors_7 rfl ?_
      refine R_bp (n := 11) C dX6_withDoors_9 cb_32 rfl ?_
      refine R_icmp_geN (tgt := 41) C dX6_withDoors_11 rfl rfl (by omega) (by omega) (fun c1 => ?_) (fun c1 => ?_)
      · have l0 : lf = 0 := by
          apply Nat.eq_of_testBit_eq
          intro j
          rw [Nat.zero_testBit]
          by_cases e : j < c
          · exact z1 j e
          · exact Nat.testBit_lt_two_pow (Nat.lt_of_lt_of_le hl (Nat.pow_le_pow_right (by decide) (by omega)))
        refine R_il2 (n := 42) C dX6_withDoors_41 rfl ?_
        refine R_iret C CR (Nat.zero_le _) (Nat.zero_le _) dX6_withDoors_42 ?_
        exact ⟨by rw [done l0], rfl, rfl⟩
      · refine R_il3 (n := 15) C dX6_withDoors_14 rfl ?_
        refine R_if_eq (tgt := 41) C dX6_withDoors_15 rfl rfl (fun c2 => ?_) (fun c2 => ?_)
        · rw [nI_z32 hl] at c2
          refine R_il2 (n := 42) C dX6_withDoors_41 rfl ?_
          refine R_iret C CR (Nat.zero_le _) (Nat.zero_le _) dX6_withDoors_42 ?_
          exact ⟨by rw [done c2], rfl, rfl⟩
        · rw [nI_z32 hl] at c2
          obtain ⟨q, k, e⟩ := lowb lf c2
          have tq : lf.testBit q = true := by rw [e, lowb_t, if_pos (by omega)]; exact decide_eq_true rfl
          have q32 : q < 32 := by
            apply Nat.lt_of_not_le
            intro g
            rw [Nat.testBit_lt_two_pow (Nat.lt_of_lt_of_le hl (Nat.pow_le_pow_right (by decide) g))] at tq
            cases tq
          have qc : c ≤ q := by
            apply Nat.le_of_not_lt
            intro g
            rw [z1 q g] at tq
            cases tq
          have sq : s.testBit q = true := by rw [← z2 q qc]; exact tq
          have qd : q ||| d < 2 ^ 5 := Nat.or_lt_two_pow (by omega) (by omega)
          have nt : ntz (nI lf) = nI q := by
            rw [e] at hl
            rw [e]
            exact ntz_low hl q32
          have wn : wdz s d c ||| 2 ^ (q ||| d) = wdz s d (q + 1) := by
            rw [wdz, if_pos sq, wdz_gap qc (fun j h1 h2 => ?_)]
            rw [← z2 j h1, e, lowb_t, if_pos (by omega)]
            exact decide_eq_false (by omega)
          have sb : 1 * 2 ^ (q ||| d) < 2 ^ 32 := by
            have := Nat.pow_le_pow_right (n := 2) (by decide) (show q ||| d ≤ 31 by omega)
            omega
          refine R_il2 (n := 19) C dX6_withDoors_18 rfl ?_
          refine R_ic (n := 20) C dX6_withDoors_19 ci_1 rfl ?_
          refine R_il3 (n := 21) C dX6_withDoors_20 rfl ?_
          refine R_callS (n := 24) C (c_ntz _ _ _ r _) mw_J6_numberOfTrailingZeros_0f7a4 ml_X6_87 sv_J6_numberOfTrailingZeros_0f7a4 dX6_withDoors_21 rfl rfl (Nat.le_of_ble_eq_true rfl) ⟨Nat.le_of_ble_eq_true rfl, Nat.le_of_ble_eq_true rfl⟩ ⟨Nat.le_refl _, Nat.le_refl _⟩ rfl (pEs ?_)
          rw [nt]
          refine R_il1 (n := 25) C dX6_withDoors_24 rfl ?_
          refine R_iorN (n := 26) C dX6_withDoors_25 rfl ?_
          refine R_ishlN (n := 27) C dX6_withDoors_26 (by omega) sb rfl ?_
          refine R_iorN (n := 28) C dX6_withDoors_27 rfl ?_
          rw [Nat.one_mul, wn]
          refine R_is2 (n := 29) C dX6_withDoors_28 rfl (Nat.le_of_ble_eq_true rfl) rfl ?_
          refine R_il3 (n := 30) C dX6_withDoors_29 rfl ?_
          refine R_il3 (n := 31) C dX6_withDoors_30 rfl ?_
          refine R_ic (n := 32) C dX6_withDoors_31 ci_1 rfl ?_
          refine R_isubN (n := 33) C dX6_withDoors_32 (by omega) rfl ?_
          refine R_iandN (n := 34) C dX6_withDoors_33 rfl ?_
          refine R_is3 (n := 35) C dX6_withDoors_34 rfl (Nat.le_of_ble_eq_true rfl) rfl ?_
          refine R_inc4 (n := 38) C dX6_withDoors_35 rfl (Nat.le_of_ble_eq_true rfl) (inc_1 _) rfl ?_
          refine R_goto (n := 7) C dX6_withDoors_38 rfl ?_
          refine ih (i + 1) (q + 1) (lf &&& (lf - 1)) (by omega) (by omega) (by omega) (Nat.lt_of_le_of_lt Nat.and_le_left hl) (fun j hj => ?_) (fun j hj => ?_)
          · rw [e, low_rm, if_pos hj]
          · rw [← z2 j (by omega)]
            rw [e, low_rm, if_neg (by omega)]
  refine R_ic (n := 1) C dX6_withDoors_0 ci_0 rfl ?_
  refine R_is2 (n := 2) C dX6_withDoors_1 rfl (Nat.le_of_ble_eq_true rfl) rfl ?_
  refine R_il0 (n := 3) C dX6_withDoors_2 rfl ?_
  refine R_is3 (n := 4) C dX6_withDoors_3 rfl (Nat.le_of_ble_eq_true rfl) rfl ?_
  refine R_ic (n := 5) C dX6_withDoors_4 ci_0 rfl ?_
  refine R_is4 (n := 7) C dX6_withDoors_5 rfl (Nat.le_of_ble_eq_true rfl) rfl ?_
  exact loop 33 0 0 s (by omega) (by omega) (by omega) hs (fun j hj => absurd hj (Nat.not_lt_zero j)) (fun j _ => rfl)
