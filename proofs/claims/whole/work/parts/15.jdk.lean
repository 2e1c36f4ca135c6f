def pcz (k : Nat) : Nat := (k % 2) + (k / 2 % 2) + (k / 4 % 2) + (k / 8 % 2) + (k / 16 % 2) + (k / 32 % 2)
def sru (x k : Int32) : Int32 := (x.toUInt32 >>> (k.toUInt32 &&& Int32.toUInt32 31)).toInt32
def bcE (x : Int32) : Int32 :=
  let a := x - (sru x (nI 1) &&& nI 1431655765)
  let b := (a &&& nI 858993459) + (sru a (nI 2) &&& nI 858993459)
  let c := (b + sru b (nI 4)) &&& nI 252645135
  let d := c + sru c (nI 8)
  let e := d + sru d (nI 16)
  e &&& nI 63
theorem bcE_ok : ∀ k, k < 64 → bcE (nI k) = nI (pcz k) := by decide +kernel
set_option maxRecDepth 20000 in
set_option maxHeartbeats 4000000 in
theorem c_bitCount (l : Launch) (D : va_G) (cA : Nat → ClassId) (r : Nat → Nat) {L : Ly} {h : Hp} {k : Nat} (hk : k < 64) : Cn l D cA yJ6_bitCount_0f7a4 cJ6_bitCount_0f7a4 1 (some .int) 0 0 0 [.int (nI k)] (L) h (pE (some (.int (nI (pcz k)))) L h) := by
  refine Cn.of (lv := [some (.int (nI k))]) (by decide +kernel) (Nat.le_of_ble_eq_true rfl) rfl (fun X hnm C CR => ?_)
  refine R_il0 (n := 1) C dJ6_bitCount_0f7a4_0 rfl ?_
  refine R_il0 (n := 2) C dJ6_bitCount_0f7a4_1 rfl ?_
  refine R_ic (n := 3) C dJ6_bitCount_0f7a4_2 ci_1 rfl ?_
  refine R_iushr (n := 4) C dJ6_bitCount_0f7a4_3 rfl rfl ?_
  refine R_ldcw (n := 7) C dJ6_bitCount_0f7a4_4 kc_J6_265 rfl ?_
  refine R_eq (y := nI 1431655765) (by decide +kernel) ?_
  refine R_iand (n := 8) C dJ6_bitCount_0f7a4_7 rfl ?_
  refine R_isub (n := 9) C dJ6_bitCount_0f7a4_8 rfl ?_
  refine R_is0 (n := 10) C dJ6_bitCount_0f7a4_9 (Nat.le_of_ble_eq_true rfl) rfl ?_
  refine R_il0 (n := 11) C dJ6_bitCount_0f7a4_10 rfl ?_
  refine R_ldcw (n := 14) C dJ6_bitCount_0f7a4_11 kc_J6_266 rfl ?_
  refine R_eq (y := nI 858993459) (by decide +kernel) ?_
  refine R_iand (n := 15) C dJ6_bitCount_0f7a4_14 rfl ?_
  refine R_il0 (n := 16) C dJ6_bitCount_0f7a4_15 rfl ?_
  refine R_ic (n := 17) C dJ6_bitCount_0f7a4_16 ci_2 rfl ?_
  refine R_iushr (n := 18) C dJ6_bitCount_0f7a4_17 rfl rfl ?_
  refine R_ldcw (n := 21) C dJ6_bitCount_0f7a4_18 kc_J6_266 rfl ?_
  refine R_eq (y := nI 858993459) (by decide +kernel) ?_
  refine R_iand (n := 22) C dJ6_bitCount_0f7a4_21 rfl ?_
  refine R_iadd (n := 23) C dJ6_bitCount_0f7a4_22 rfl ?_
  refine R_is0 (n := 24) C dJ6_bitCount_0f7a4_23 (Nat.le_of_ble_eq_true rfl) rfl ?_
  refine R_il0 (n := 25) C dJ6_bitCount_0f7a4_24 rfl ?_
  refine R_il0 (n := 26) C dJ6_bitCount_0f7a4_25 rfl ?_
  refine R_ic (n := 27) C dJ6_bitCount_0f7a4_26 ci_4 rfl ?_
  refine R_iushr (n := 28) C dJ6_bitCount_0f7a4_27 rfl rfl ?_
  refine R_iadd (n := 29) C dJ6_bitCount_0f7a4_28 rfl ?_
  refine R_ldcw (n := 32) C dJ6_bitCount_0f7a4_29 kc_J6_267 rfl ?_
  refine R_eq (y := nI 252645135) (by decide +kernel) ?_
  refine R_iand (n := 33) C dJ6_bitCount_0f7a4_32 rfl ?_
  refine R_is0 (n := 34) C dJ6_bitCount_0f7a4_33 (Nat.le_of_ble_eq_true rfl) rfl ?_
  refine R_il0 (n := 35) C dJ6_bitCount_0f7a4_34 rfl ?_
  refine R_il0 (n := 36) C dJ6_bitCount_0f7a4_35 rfl ?_
  refine R_bp (n := 38) C dJ6_bitCount_0f7a4_36 cb_8 rfl ?_
  refine R_iushr (n := 39) C dJ6_bitCount_0f7a4_38 rfl rfl ?_
  refine R_iadd (n := 40) C dJ6_bitCount_0f7a4_39 rfl ?_
  refine R_is0 (n := 41) C dJ6_bitCount_0f7a4_40 (Nat.le_of_ble_eq_true rfl) rfl ?_
  refine R_il0 (n := 42) C dJ6_bitCount_0f7a4_41 rfl ?_
  refine R_il0 (n := 43) C dJ6_bitCount_0f7a4_42 rfl ?_
  refine R_bp (n := 45) C dJ6_bitCount_0f7a4_43 cb_16 rfl ?_
  refine R_iushr (n := 46) C dJ6_bitCount_0f7a4_45 rfl rfl ?_
  refine R_iadd (n := 47) C dJ6_bitCount_0f7a4_46 rfl ?_
  refine R_is0 (n := 48) C dJ6_bitCount_0f7a4_47 (Nat.le_of_ble_eq_true rfl) rfl ?_
  refine R_il0 (n := 49) C dJ6_bitCount_0f7a4_48 rfl ?_
  refine R_bp (n := 51) C dJ6_bitCount_0f7a4_49 cb_63 rfl ?_
  refine R_iand (n := 52) C dJ6_bitCount_0f7a4_51 rfl ?_
  refine R_iret C CR (Nat.zero_le _) (Nat.zero_le _) dJ6_bitCount_0f7a4_52 ?_
  exact ⟨congrArg (fun z => some (Value.int z)) (bcE_ok k hk), rfl, rfl⟩
def ntA (q : Int32 × Int32) : Int32 × Int32 := if q.1 ≤ nI 65536 then q else (sru q.1 (nI 16), q.2 + Int32.ofInt 16)
def ntB (q : Int32 × Int32) : Int32 × Int32 := if q.1 ≤ nI 256 then q else (sru q.1 (nI 8), q.2 + Int32.ofInt 8)
def ntC (q : Int32 × Int32) : Int32 × Int32 := if q.1 ≤ nI 16 then q else (sru q.1 (nI 4), q.2 + Int32.ofInt 4)
def ntD (q : Int32 × Int32) : Int32 × Int32 := if q.1 ≤ nI 4 then q else (sru q.1 (nI 2), q.2 + Int32.ofInt 2)
def ntE (q : Int32 × Int32) : Int32 := q.2 + sru q.1 (nI 1)
def ntz (x : Int32) : Int32 := if 0 < ((x ^^^ (-1)) &&& (x - nI 1)) then ntE (ntD (ntC (ntB (ntA (((x ^^^ (-1)) &&& (x - nI 1)), nI 1))))) else ((x ^^^ (-1)) &&& (x - nI 1)) &&& nI 32
set_option maxRecDepth 20000 in
set_option maxHeartbeats 4000000 in
theorem c_ntz (l : Launch) (D : va_G) (cA : Nat → ClassId) (r : Nat → Nat) {L : Ly} {h : Hp} (x : Int32) : Cn l D cA yJ6_numberOfTrailingZeros_0f7a4 cJ6_numberOfTrailingZeros_0f7a4 2 (some .int) 0 0 0 [.int x] (L) h (pE (some (.int (ntz x))) L h) := by
  refine Cn.of (lv := [some (.int x), none]) (by decide +kernel) (Nat.le_of_ble_eq_true rfl) rfl (fun X hnm C CR => ?_)
  refine R_il0 (n := 1) C dJ6_numberOfTrailingZeros_0f7a4_0 rfl ?_
  refine R_ic (n := 2) C dJ6_numberOfTrailingZeros_0f7a4_1 ci_m1 rfl ?_
  refine R_ixor (n := 3) C dJ6_numberOfTrailingZeros_0f7a4_2 rfl ?_
  refine R_il0 (n := 4) C dJ6_numberOfTrailingZeros_0f7a4_3 rfl ?_
  refine R_ic (n := 5) C dJ6_numberOfTrailingZeros_0f7a4_4 ci_1 rfl ?_
  refine R_isub (n := 6) C dJ6_numberOfTrailingZeros_0f7a4_5 rfl ?_
  refine R_iand (n := 7) C dJ6_numberOfTrailingZeros_0f7a4_6 rfl ?_
  refine R_is0 (n := 8) C dJ6_numberOfTrailingZeros_0f7a4_7 (Nat.le_of_ble_eq_true rfl) rfl ?_
  refine R_il0 (n := 9) C dJ6_numberOfTrailingZeros_0f7a4_8 rfl ?_
  obtain ⟨V, hV⟩ : ∃ V, ntz x = V := ⟨_, rfl⟩
  rw [hV] at CR
  unfold ntz at hV
  obtain ⟨i0, hi0⟩ : ∃ i0, (x ^^^ (-1)) &&& (x - nI 1) = i0 := ⟨_, rfl⟩
  rw [hi0] at hV ⊢
  have kE : ∀ i n : Int32, V = ntE (i, n) → Rn X 0 0 74 [some (.int i), some (.int n)] [] L h := by
    intro i n hv
    refine R_il1 (n := 75) C dJ6_numberOfTrailingZeros_0f7a4_74 rfl ?_
    refine R_il0 (n := 76) C dJ6_numberOfTrailingZeros_0f7a4_75 rfl ?_
    refine R_ic (n := 77) C dJ6_numberOfTrailingZeros_0f7a4_76 ci_1 rfl ?_
    refine R_iushr (n := 78) C dJ6_numberOfTrailingZeros_0f7a4_77 rfl rfl ?_
    refine R_iadd (n := 79) C dJ6_numberOfTrailingZeros_0f7a4_78 rfl ?_
    refine R_iret C CR (Nat.zero_le _) (Nat.zero_le _) dJ6_numberOfTrailingZeros_0f7a4_79 ?_
    exact ⟨by rw [hv]; rfl, rfl, rfl⟩
  have kD : ∀ i n : Int32, V = ntE (ntD (i, n)) → Rn X 0 0 62 [some (.int i), some (.int n)] [] L h := by
    intro i n hv
    unfold ntD at hv
    refine R_il0 (n := 63) C dJ6_numberOfTrailingZeros_0f7a4_62 rfl ?_
    refine R_ic (n := 64) C dJ6_numberOfTrailingZeros_0f7a4_63 ci_4 rfl ?_
    refine R_icmp_le (tgt := 74) C dJ6_numberOfTrailingZeros_0f7a4_64 rfl rfl (fun c => ?_) (fun c => ?_)
    · rw [if_pos c] at hv
      exact kE i n hv
    · rw [if_neg c] at hv
      refine R_inc1 (n := 70) C dJ6_numberOfTrailingZeros_0f7a4_67 rfl (Nat.le_of_ble_eq_true rfl) rfl rfl ?_
      refine R_il0 (n := 71) C dJ6_numberOfTrailingZeros_0f7a4_70 rfl ?_
      refine R_ic (n := 72) C dJ6_numberOfTrailingZeros_0f7a4_71 ci_2 rfl ?_
      refine R_iushr (n := 73) C dJ6_numberOfTrailingZeros_0f7a4_72 rfl rfl ?_
      refine R_is0 (n := 74) C dJ6_numberOfTrailingZeros_0f7a4_73 (Nat.le_of_ble_eq_true rfl) rfl ?_
      exact kE _ _ hv
  have kC : ∀ i n : Int32, V = ntE (ntD (ntC (i, n))) → Rn X 0 0 49 [some (.int i), some (.int n)] [] L h := by
    intro i n hv
    unfold ntC at hv
    refine R_il0 (n := 50) C dJ6_numberOfTrailingZeros_0f7a4_49 rfl ?_
    refine R_bp (n := 52) C dJ6_numberOfTrailingZeros_0f7a4_50 cb_16 rfl ?_
    refine R_icmp_le (tgt := 62) C dJ6_numberOfTrailingZeros_0f7a4_52 rfl rfl (fun c => ?_) (fun c => ?_)
    · rw [if_pos c] at hv
      exact kD i n hv
    · rw [if_neg c] at hv
      refine R_inc1 (n := 58) C dJ6_numberOfTrailingZeros_0f7a4_55 rfl (Nat.le_of_ble_eq_true rfl) rfl rfl ?_
      refine R_il0 (n := 59) C dJ6_numberOfTrailingZeros_0f7a4_58 rfl ?_
      refine R_ic (n := 60) C dJ6_numberOfTrailingZeros_0f7a4_59 ci_4 rfl ?_
      refine R_iushr (n := 61) C dJ6_numberOfTrailingZeros_0f7a4_60 rfl rfl ?_
      refine R_is0 (n := 62) C dJ6_numberOfTrailingZeros_0f7a4_61 (Nat.le_of_ble_eq_true rfl) rfl ?_
      exact kD _ _ hv
  have kB : ∀ i n : Int32, V = ntE (ntD (ntC (ntB (i, n)))) → Rn X 0 0 34 [some (.int i), some (.int n)] [] L h := by
    intro i n hv
    unfold ntB at hv
    refine R_il0 (n := 35) C dJ6_numberOfTrailingZeros_0f7a4_34 rfl ?_
    refine R_sp (n := 38) C dJ6_numberOfTrailingZeros_0f7a4_35 cs_256 rfl ?_
    refine R_icmp_le (tgt := 49) C dJ6_numberOfTrailingZeros_0f7a4_38 rfl rfl (fun c => ?_) (fun c => ?_)
    · rw [if_pos c] at hv
      exact kC i n hv
    · rw [if_neg c] at hv
      refine R_inc1 (n := 44) C dJ6_numberOfTrailingZeros_0f7a4_41 rfl (Nat.le_of_ble_eq_true rfl) rfl rfl ?_
      refine R_il0 (n := 45) C dJ6_numberOfTrailingZeros_0f7a4_44 rfl ?_
      refine R_bp (n := 47) C dJ6_numberOfTrailingZeros_0f7a4_45 cb_8 rfl ?_
      refine R_iushr (n := 48) C dJ6_numberOfTrailingZeros_0f7a4_47 rfl rfl ?_
      refine R_is0 (n := 49) C dJ6_numberOfTrailingZeros_0f7a4_48 (Nat.le_of_ble_eq_true rfl) rfl ?_
      exact kC _ _ hv
  refine R_if_gt (tgt := 17) C dJ6_numberOfTrailingZeros_0f7a4_9 rfl rfl (fun c => ?_) (fun c => ?_)
  · rw [if_pos c] at hV
    unfold ntA at hV
    refine R_ic (n := 18) C dJ6_numberOfTrailingZeros_0f7a4_17 ci_1 rfl ?_
    refine R_is1 (n := 19) C dJ6_numberOfTrailingZeros_0f7a4_18 rfl (Nat.le_of_ble_eq_true rfl) rfl ?_
    refine R_il0 (n := 20) C dJ6_numberOfTrailingZeros_0f7a4_19 rfl ?_
    refine R_ldcw (n := 23) C dJ6_numberOfTrailingZeros_0f7a4_20 kc_J6_264 rfl ?_
    refine R_eq (y := nI 65536) (by decide +kernel) ?_
    refine R_icmp_le (tgt := 34) C dJ6_numberOfTrailingZeros_0f7a4_23 rfl rfl (fun c2 => ?_) (fun c2 => ?_)
    · rw [if_pos c2] at hV
      exact kB _ _ hV.symm
    · rw [if_neg c2] at hV
      refine R_inc1 (n := 29) C dJ6_numberOfTrailingZeros_0f7a4_26 rfl (Nat.le_of_ble_eq_true rfl) rfl rfl ?_
      refine R_il0 (n := 30) C dJ6_numberOfTrailingZeros_0f7a4_29 rfl ?_
      refine R_bp (n := 32) C dJ6_numberOfTrailingZeros_0f7a4_30 cb_16 rfl ?_
      refine R_iushr (n := 33) C dJ6_numberOfTrailingZeros_0f7a4_32 rfl rfl ?_
      refine R_is0 (n := 34) C dJ6_numberOfTrailingZeros_0f7a4_33 (Nat.le_of_ble_eq_true rfl) rfl ?_
      exact kB _ _ hV.symm
  · rw [if_neg c] at hV
    refine R_il0 (n := 13) C dJ6_numberOfTrailingZeros_0f7a4_12 rfl ?_
    refine R_bp (n := 15) C dJ6_numberOfTrailingZeros_0f7a4_13 cb_32 rfl ?_
    refine R_iand (n := 16) C dJ6_numberOfTrailingZeros_0f7a4_15 rfl ?_
    refine R_iret C CR (Nat.zero_le _) (Nat.zero_le _) dJ6_numberOfTrailingZeros_0f7a4_16 ?_
    exact ⟨by rw [hV], rfl, rfl⟩
theorem lcm_lt {a b : Nat} (ha : a < 2 ^ 63) (hb : b < 2 ^ 63) : lg_cmp (lN a) (lN b) < 0 ↔ a < b := by
  have h1 := lg_cmp_ge (lN a) (lN b)
  rw [pk_lLE hb ha] at h1
  constructor
  · intro q
    rcases Nat.lt_or_ge a b with h | h
    · exact h
    · exact absurd (h1.mpr h) (Int32.not_le.mpr q)
  · intro q
    exact Int32.not_le.mp (fun z => by have := h1.mp z; omega)
theorem yMax : yJ9_max_7cf53 = Lib.Math.max.name := by decide +kernel
theorem cMax : cJ9_max_7cf53 = Lib.Math.max.code := by decide +kernel
theorem yMin : yJ9_min_7cf53 = Lib.Math.min.name := by decide +kernel
theorem cMin : cJ9_min_7cf53 = Lib.Math.min.code := by decide +kernel
theorem yMaxL : yJ9_max_f86c9 = Lib.MathLoose.max_long.x := by decide +kernel
theorem cMaxL : cJ9_max_f86c9 = Lib.MathLoose.max_long.code := by decide +kernel
section Jdk15
variable {X : RX} {cc : ByteArray} {own : String} {nL fr mc ms nc ns pc n : Nat} {lv : List (Option Value)} {st : List Value} {L : Ly} {h : Hp}
theorem R_mmax (C : Ok X cc own nL fr mc ms) {idx a b : Nat} (ha : a < 2 ^ 31) (hb : b < 2 ^ 31) (lk : Cond.methodLink own idx yJ9_max_7cf53 ∈ lwG) (d : decode cc pc = .ok (.invokestatic idx, 3)) (hst : (st.map fun v => v.category).sum ≤ 8) (hfr : 1 ≤ fr) (hcell : nc ≤ mc ∧ ns ≤ ms) (hn : pc + 3 = n) (K : Rn X nc ns n lv (.int (nI (max a b)) :: st) L h) : Rn X nc ns pc lv (.int (nI b) :: .int (nI a) :: st) L h := by
  subst hn
  intro H locs ls hP hD hS hl
  have e1 := sv_J9_max_7cf53
  have e2 := mw_J9_max_7cf53
  have r := C.2.2.2.2.2.2.2.2
  rw [yMax] at lk e1
  have e3 := e2.1
  rw [yMax, cMax] at e3
  refine va_mmax C.1 C.2.1 hl.1.symm C.2.2.2.1 (C.2.2.2.2.1 _ lk) (C.2.2.2.2.1 _ e1) (C.2.2.2.2.1 _ e2.2.1) (C.2.2.2.2.1 _ e3) (Nat.le_trans hfr r.1) (by have := r.2.2.2; omega) (Nat.le_trans hcell.1 r.2.1) (Nat.le_trans hcell.2 r.2.2.1) d ?_
  have e : (if nI a < nI b then nI b else nI a) = nI (max a b) := by
    by_cases q : a < b
    · rw [if_pos ((nI_ltI ha hb).mpr q), Nat.max_eq_right (by omega)]
    · rw [if_neg (fun z => q ((nI_ltI ha hb).mp z)), Nat.max_eq_left (by omega)]
  rw [e]
  exact K H locs ls hP hD hS hl
theorem R_mmin (C : Ok X cc own nL fr mc ms) {idx a b : Nat} (ha : a < 2 ^ 31) (hb : b < 2 ^ 31) (lk : Cond.methodLink own idx yJ9_min_7cf53 ∈ lwG) (d : decode cc pc = .ok (.invokestatic idx, 3)) (hst : (st.map fun v => v.category).sum ≤ 8) (hfr : 1 ≤ fr) (hcell : nc ≤ mc ∧ ns ≤ ms) (hn : pc + 3 = n) (K : Rn X nc ns n lv (.int (nI (min a b)) :: st) L h) : Rn X nc ns pc lv (.int (nI b) :: .int (nI a) :: st) L h := by
  subst hn
  intro H locs ls hP hD hS hl
  have e1 := sv_J9_min_7cf53
  have e2 := mw_J9_min_7cf53
  have r := C.2.2.2.2.2.2.2.2
  rw [yMin] at lk e1
  have e3 := e2.1
  rw [yMin, cMin] at e3
  refine va_mmin C.1 C.2.1 hl.1.symm C.2.2.2.1 (C.2.2.2.2.1 _ lk) (C.2.2.2.2.1 _ e1) (C.2.2.2.2.1 _ e2.2.1) (C.2.2.2.2.1 _ e3) (Nat.le_trans hfr r.1) (by have := r.2.2.2; omega) (Nat.le_trans hcell.1 r.2.1) (Nat.le_trans hcell.2 r.2.2.1) d ?_
  have e : (if nI b < nI a then nI b else nI a) = nI (min a b) := by
    by_cases q : b < a
    · rw [if_pos ((nI_ltI hb ha).mpr q), Nat.min_eq_right (by omega)]
    · rw [if_neg (fun z => q ((nI_ltI hb ha).mp z)), Nat.min_eq_left (by omega)]
  rw [e]
  exact K H locs ls hP hD hS hl
theorem R_mmaxL (C : Ok X cc own nL fr mc ms) {idx a b : Nat} (ha : a < 2 ^ 63) (hb : b < 2 ^ 63) (lk : Cond.methodLink own idx yJ9_max_f86c9 ∈ lwG) (d : decode cc pc = .ok (.invokestatic idx, 3)) (hst : (st.map fun v => v.category).sum ≤ 8) (hfr : 1 ≤ fr) (hcell : nc ≤ mc ∧ ns ≤ ms) (hn : pc + 3 = n) (K : Rn X nc ns n lv (.long (lN (max a b)) :: st) L h) : Rn X nc ns pc lv (.long (lN b) :: .long (lN a) :: st) L h := by
  subst hn
  intro H locs ls hP hD hS hl
  have e1 := sv_J9_max_f86c9
  have e2 := mw_J9_max_f86c9
  have r := C.2.2.2.2.2.2.2.2
  rw [yMaxL] at lk e1
  have e3 := e2.1
  rw [yMaxL, cMaxL] at e3
  refine va_mmax_long C.1 C.2.1 hl.1.symm C.2.2.2.1 (C.2.2.2.2.1 _ lk) (C.2.2.2.2.1 _ e1) (C.2.2.2.2.1 _ e2.2.1) (C.2.2.2.2.1 _ e3) (Nat.le_trans hfr r.1) (by have := r.2.2.2; omega) (Nat.le_trans hcell.1 r.2.1) (Nat.le_trans hcell.2 r.2.2.1) d ?_
  have e : (if lN b < lN a then lN a else lN b) = lN (max a b) := by
    by_cases q : b < a
    · rw [if_pos ((pk_lLT hb ha).mpr q), Nat.max_eq_left (by omega)]
    · rw [if_neg (fun z => q ((pk_lLT hb ha).mp z)), Nat.max_eq_right (by omega)]
  rw [e]
  exact K H locs ls hP hD hS hl
end Jdk15
set_option maxRecDepth 20000 in
set_option maxHeartbeats 4000000 in
theorem c_fill (l : Launch) (D : va_G) (cA : Nat → ClassId) (r : Nat → Nat) {L : Ly} {h : Hp} {a q n : Nat} (hL : L[a]? = some (q, .inr (.inl (0, n)))) (hn : n < 2 ^ 31) (v : Int32) : Cn l D cA yJ7_fill_53178 cJ7_fill_53178 4 none 0 0 0 [.ref q, .int v] (L) h (pG none L (fun h' => (∀ k, k < n → h' a k = v) ∧ ∀ b, b ≠ a → h' b = h b)) := by
  refine Cn.of (lv := [some (.ref q), some (.int v), none, none]) (by decide +kernel) (Nat.le_of_ble_eq_true rfl) rfl (fun X hnm C CR => ?_)
  have loop : ∀ (m i : Nat) (h1 : Hp), n < i + m → i ≤ n → (∀ k, k < i → h1 a k = v) → (∀ b, b ≠ a → h1 b = h b) → Rn X 0 0 5 [some (.ref q), some (.int v), some (.int (nI i)), some (.int (nI n))] [] L h1 := by
    intro m
    induction m with
    | zero => intro i h1 a1 a2; omega
    | succ m ih =>
      intro i h1 a1 a2 e1 e2
      refine R_il2 (n := 6) C dJ7_fill_53178_5 rfl ?_
      refine R_il3 (n := 7) C dJ7_fill_53178_6 rfl ?_
      refine R_icmp_geN (tgt := 20) C dJ7_fill_53178_7 rfl rfl (by omega) (by omega) (fun c => ?_) (fun c => ?_)
      · refine R_vret C CR (Nat.zero_le _) (Nat.zero_le _) dJ7_fill_53178_20 ?_
        exact ⟨rfl, rfl, fun k hk => e1 k (by omega), e2⟩
      · refine R_al0 (n := 11) C dJ7_fill_53178_10 rfl ?_
        refine R_il2 (n := 12) C dJ7_fill_53178_11 rfl ?_
        refine R_il1 (n := 13) C dJ7_fill_53178_12 rfl ?_
        refine G_iast (n := 14) C a dJ7_fill_53178_13 hL hn c rfl ?_
        refine R_inc2 (n := 17) C dJ7_fill_53178_14 rfl (Nat.le_of_ble_eq_true rfl) (inc_1 _) rfl ?_
        refine R_goto (n := 5) C dJ7_fill_53178_17 rfl ?_
        refine ih (i + 1) _ (by omega) (by omega) (fun k hk => ?_) (fun b hb => by rw [up2_row hb]; exact e2 b hb)
        rw [up2_at]
        split
        · rfl
        · exact e1 k (by omega)
  refine R_ic (n := 1) C dJ7_fill_53178_0 ci_0 rfl ?_
  refine R_is2 (n := 2) C dJ7_fill_53178_1 rfl (Nat.le_of_ble_eq_true rfl) rfl ?_
  refine R_al0 (n := 3) C dJ7_fill_53178_2 rfl ?_
  refine G_alen (n := 4) C a dJ7_fill_53178_3 hL rfl ?_
  refine R_is3 (n := 5) C dJ7_fill_53178_4 rfl (Nat.le_of_ble_eq_true rfl) rfl ?_
  exact loop (n + 1) 0 h (by omega) (by omega) (fun k hk => by omega) (fun _ _ => rfl)
theorem R_gen {X : RX} {nc ns pc : Nat} {lv : List (Option Value)} {st : List Value} {L : Ly} {h : Hp} (Q : Hp → Prop) (q : Q h) (K : ∀ h1, Q h1 → Rn X nc ns pc lv st L h1) : Rn X nc ns pc lv st L h := K h q
