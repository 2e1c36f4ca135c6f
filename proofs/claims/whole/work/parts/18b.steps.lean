def trg (σ : WS) (w l k : Nat) : Nat := tz σ k (wy l k) (qz σ w k (wy l k))
def trz (σ : WS) (w l : Nat) : Nat := nmz (trg σ w l) (sN σ)
def tqs (σ : WS) (w l : Nat) : Nat → Nat
  | 0 => 0
  | k + 1 => tqs σ w l k + qz σ w k (wy l k)
def tqz (σ : WS) (w l : Nat) : Nat := tqs σ w l (sN σ)
theorem trz_lt {σ : WS} {w l : Nat} : trz σ w l < 2 ^ (2 * sN σ) := nmz_lt (fun _ _ => tz_lt)
theorem trz_1024 {σ : WS} (I : Inv σ) {w l : Nat} : trz σ w l < 1024 := Nat.lt_of_lt_of_le trz_lt (p2_10 I.n5)
theorem tqs_le {σ : WS} (I : Inv σ) {w l : Nat} (hw : w < 6) : ∀ {k : Nat}, k ≤ 5 → tqs σ w l k ≤ 3 * k
  | 0, _ => Nat.le_refl _
  | k + 1, hk => by
    have h1 := tqs_le I (l := l) hw (k := k) (by omega)
    have h2 := qz_le I (l := wy l k) hw (k := k) (by omega)
    rw [tqs]
    omega
theorem tqz_le {σ : WS} (I : Inv σ) {w l : Nat} (hw : w < 6) : tqz σ w l ≤ 15 := Nat.le_trans (tqs_le I hw I.n5) (by have := I.n5; omega)
def sE (σ : WS) (w f : Nat) : Nat → Nat → Nat
  | 0, _ => 0
  | c + 1, x => sE σ w f c x + stE σ w (f + c) (x / 4 ^ c % 4)
theorem sE_mod {σ : WS} {w f d x : Nat} : ∀ {c : Nat}, c ≤ d → sE σ w f c (x % 4 ^ d) = sE σ w f c x
  | 0, _ => rfl
  | c + 1, h => by
    rw [sE, sE, sE_mod (by omega)]
    congr 2
    obtain ⟨e, rfl⟩ : ∃ e, d = c + 1 + e := ⟨d - (c + 1), by omega⟩
    rw [Nat.pow_add, Nat.pow_succ, Nat.mul_assoc, Nat.mod_mul_right_div_self, Nat.mod_mul_right_mod]
theorem stS_sE {σ : WS} {w f : Nat} : ∀ {c x : Nat}, x < 4 ^ c → stS σ w f c x = sE σ w f c x
  | 0, _, _ => rfl
  | c + 1, x, h => by
    rw [stS, sE, stS_sE (Nat.mod_lt _ (Nat.pow_pos (by decide))), sE_mod (Nat.le_refl _), Nat.mod_eq_of_lt (a := x / 4 ^ c)]
    rw [Nat.pow_succ] at h
    exact Nat.div_lt_of_lt_mul h
theorem p2_4 (k : Nat) : 2 ^ (2 * k) = 4 ^ k := Nat.pow_mul 2 2 k
theorem sE_tr {σ : WS} {w l : Nat} : ∀ n, sE σ w 0 n l = nmz (trg σ w l) n + 1024 * tqs σ w l n
  | 0 => rfl
  | n + 1 => by
    rw [sE, sE_tr n, tqs, nmz, Nat.zero_add, stE, trg, wy, p2_4]
    omega
theorem sE_add {σ : WS} {w c l : Nat} : ∀ {d : Nat}, sE σ w 0 (c + d) l = sE σ w 0 c l + sE σ w c d (l / 4 ^ c)
  | 0 => rfl
  | d + 1 => by
    rw [← Nat.add_assoc, sE, sE, sE_add, Nat.add_assoc, Nat.zero_add, Nat.div_div_eq_div_mul, ← Nat.pow_add]
theorem stp_eq {σ : WS} (I : Inv σ) {w l : Nat} (hl : l < 2 ^ (2 * sN σ)) : stS σ w 0 (ctz σ 0) (l % 64) + stS σ w 3 (ctz σ 3) (l / 64) = trz σ w l + 1024 * tqz σ w l := by
  have n1 := I.n1
  have n5 := I.n5
  rw [trz, tqz, ← sE_tr]
  obtain ⟨n, hn⟩ : ∃ n, sN σ = n := ⟨_, rfl⟩
  rw [hn] at hl n1 n5 ⊢
  rw [p2_4] at hl
  have hc : n = 1 ∨ n = 2 ∨ n = 3 ∨ n = 4 ∨ n = 5 := by omega
  have c0 : ctz σ 0 = min n 3 := by rw [ctz, hn]; simp
  have c3 : ctz σ 3 = n - 3 := by rw [ctz, hn]; simp; omega
  rw [c0, c3]
  by_cases h3 : n ≤ 3
  · have l64 : l < 64 := Nat.lt_of_lt_of_le hl (show 4 ^ n ≤ 4 ^ 3 from Nat.pow_le_pow_right (by decide) h3)
    rw [Nat.min_eq_left h3, show n - 3 = 0 by omega, Nat.mod_eq_of_lt l64, stS_sE hl]
    rfl
  · obtain ⟨d, rfl⟩ : ∃ d, n = 3 + d := ⟨n - 3, by omega⟩
    rw [Nat.min_eq_right (by omega), stS_sE (c := 3) (Nat.mod_lt _ (by decide)), show 64 = 4 ^ 3 from rfl, sE_mod (Nat.le_refl _), Nat.add_sub_cancel_left, sE_add]
    rw [Nat.pow_add] at hl
    rw [stS_sE (Nat.div_lt_of_lt_mul hl)]
def RS (σ : WS) (W : Nat) (h : Hp) : Prop := ∀ w, w < 6 → W.testBit w = true → (∀ x, x < 4 ^ ctz σ 0 → h 20 (w * 64 + x) = nI (stS σ w 0 (ctz σ 0) x)) ∧ ∀ x, x < 4 ^ ctz σ 3 → h 21 (w * 16 + x) = nI (stS σ w 3 (ctz σ 3) x)
theorem ctz_0 {σ : WS} : 4 ^ ctz σ 0 ≤ 64 := show _ ≤ 4 ^ 3 from Nat.pow_le_pow_right (by decide) (by simp [ctz]; omega)
theorem ctz_3 {σ : WS} : 4 ^ ctz σ 3 ≤ 16 := show _ ≤ 4 ^ 2 from Nat.pow_le_pow_right (by decide) (by simp [ctz]; omega)
def FrT (h h' : Hp) : Prop := ∀ a, a ≠ 20 → a ≠ 21 → h' a = h a
set_option maxRecDepth 20000 in
set_option maxHeartbeats 4000000 in
theorem c_tabulate (l : Launch) (D : va_G) (cA : Nat → ClassId) (r : Nat → Nat) {h : Hp} {σ : WS} (R : RW 1 σ h) (I : Inv σ) {W : Nat} (hW : W < 64) : Cn l D cA yX7_tabulate cX7_tabulate 4 none 2 0 0 [.ref (r 19), .ref (r 1), .int (nI W)] (LY r) h (pG none (LY r) (fun h' => RS σ W h' ∧ FrT h h')) := by
  refine Cn.of (lv := [some (.ref (r 19)), some (.ref (r 1)), some (.int (nI W)), none]) (by decide +kernel) (Nat.le_of_ble_eq_true rfl) rfl (fun X hnm C CR => ?_)
  have q0 := ctz_0 (σ := σ)
  have q3 := ctz_3 (σ := σ)
  have loop : ∀ (m i : Nat) (hh : Hp), 6 < i + m → i ≤ 6 → (∀ w, w < i → W.testBit w = true → (∀ x, x < 4 ^ ctz σ 0 → hh 20 (w * 64 + x) = nI (stS σ w 0 (ctz σ 0) x)) ∧ ∀ x, x < 4 ^ ctz σ 3 → hh 21 (w * 16 + x) = nI (stS σ w 3 (ctz σ 3) x)) → FrT h hh → Rn X 0 0 2 [some (.ref (r 19)), some (.ref (r 1)), some (.int (nI W)), some (.int (nI i))] [] (LY r) hh := by
    intro m
    induction m with
    | zero => intro i hh a1 a2; omega
    | succ m ih =>
      intro i hh a1 a2 A F
      have R1 : RW 1 σ hh := RWf (fun a h1 h2 => F a (by omega) (by omega)) R
      refine R_il3 (n := 3) C dX7_tabulate_2 rfl ?_
      refine R_bp (n := 5) C dX7_tabulate_3 cb_6 rfl ?_
      refine R_icmp_geN (tgt := 50) C dX7_tabulate_5 rfl rfl (by omega) (by omega) (fun c1 => ?_) (fun c1 => ?_)
      · obtain rfl : i = 6 := by omega
        refine R_vret C CR (Nat.zero_le _) (Nat.zero_le _) dX7_tabulate_50 ?_
        exact ⟨rfl, rfl, A, F⟩
      · refine R_il2 (n := 9) C dX7_tabulate_8 rfl ?_
        refine R_il3 (n := 10) C dX7_tabulate_9 rfl ?_
        refine R_callSN (n := 13) C (c_isIn _ _ _ r (by omega) (by omega)) mw_X10_isIn mn_X7_18 sv_X10_isIn dX7_tabulate_10 rfl rfl (Nat.le_of_ble_eq_true rfl) ⟨Nat.le_of_ble_eq_true rfl, Nat.le_of_ble_eq_true rfl⟩ ⟨Nat.le_refl _, Nat.le_refl _⟩ rfl (pEs ?_)
        refine R_if_eqB (tgt := 44) C dX7_tabulate_13 rfl rfl (fun c2 => ?_) (fun c2 => ?_)
        · refine R_inc3 (n := 47) C dX7_tabulate_44 rfl (Nat.le_of_ble_eq_true rfl) (inc_1 _) rfl ?_
          refine R_goto (n := 2) C dX7_tabulate_47 rfl ?_
          refine ih (i + 1) hh (by omega) (by omega) (fun w hw hb => ?_) F
          by_cases e : w = i
          · rw [e, c2] at hb; cases hb
          · exact A w (by omega) hb
        · refine R_al0 (n := 17) C dX7_tabulate_16 rfl ?_
          refine M_getR (n := 20) C fl_X7_9 dX7_tabulate_17 rfl rfl rfl ?_
          refine R_il3 (n := 21) C dX7_tabulate_20 rfl ?_
          refine R_bp (n := 23) C dX7_tabulate_21 cb_64 rfl ?_
          refine R_imulN (n := 24) C dX7_tabulate_23 rfl ?_
          refine R_al1 (n := 25) C dX7_tabulate_24 rfl ?_
          refine R_il3 (n := 26) C dX7_tabulate_25 rfl ?_
          refine R_ic (n := 27) C dX7_tabulate_26 ci_0 rfl ?_
          refine R_callS (n := 30) C (c_sfill _ _ _ r R1 I (t := 20) (len := 384) rfl (by decide) (by decide) c1 (Or.inl rfl) (show i * 64 + 64 ≤ 384 by omega)) mw_X7_fill ml_X7_22 sv_X7_fill dX7_tabulate_27 rfl rfl (Nat.le_of_ble_eq_true rfl) ⟨Nat.le_of_ble_eq_true rfl, Nat.le_of_ble_eq_true rfl⟩ ⟨Nat.le_refl _, Nat.le_refl _⟩ rfl (pGv (fun h1 q1 => ?_))
          have R2 : RW 1 σ h1 := RWf (fun a h1 h2 => q1.2.2 a (by omega)) R1
          refine R_al0 (n := 31) C dX7_tabulate_30 rfl ?_
          refine M_getR (n := 34) C fl_X7_15 dX7_tabulate_31 rfl rfl rfl ?_
          refine R_il3 (n := 35) C dX7_tabulate_34 rfl ?_
          refine R_bp (n := 37) C dX7_tabulate_35 cb_16 rfl ?_
          refine R_imulN (n := 38) C dX7_tabulate_37 rfl ?_
          refine R_al1 (n := 39) C dX7_tabulate_38 rfl ?_
          refine R_il3 (n := 40) C dX7_tabulate_39 rfl ?_
          refine R_ic (n := 41) C dX7_tabulate_40 ci_3 rfl ?_
          refine R_callS (n := 44) C (c_sfill _ _ _ r R2 I (t := 21) (len := 96) rfl (by decide) (by decide) c1 (Or.inr rfl) (show i * 16 + 16 ≤ 96 by omega)) mw_X7_fill ml_X7_22 sv_X7_fill dX7_tabulate_41 rfl rfl (Nat.le_of_ble_eq_true rfl) ⟨Nat.le_of_ble_eq_true rfl, Nat.le_of_ble_eq_true rfl⟩ ⟨Nat.le_refl _, Nat.le_refl _⟩ rfl (pGv (fun h2 q2 => ?_))
          refine R_inc3 (n := 47) C dX7_tabulate_44 rfl (Nat.le_of_ble_eq_true rfl) (inc_1 _) rfl ?_
          refine R_goto (n := 2) C dX7_tabulate_47 rfl ?_
          refine ih (i + 1) h2 (by omega) (by omega) (fun w hw hb => ?_) (fun a b1 b2 => by rw [q2.2.2 a b2, q1.2.2 a b1, F a b1 b2])
          rw [q2.2.2 20 (by decide)]
          by_cases e : w = i
          · rw [e]
            exact ⟨q1.1, q2.1⟩
          · refine ⟨fun x hx => ?_, fun x hx => ?_⟩
            · rw [q1.2.1 _ (by show _ ∨ _ + 64 ≤ _; omega)]
              exact (A w (by omega) hb).1 x hx
            · rw [q2.2.1 _ (by show _ ∨ _ + 16 ≤ _; omega), q1.2.2 21 (by decide)]
              exact (A w (by omega) hb).2 x hx
  refine R_ic (n := 1) C dX7_tabulate_0 ci_0 rfl ?_
  refine R_is3 (n := 2) C dX7_tabulate_1 rfl (Nat.le_of_ble_eq_true rfl) rfl ?_
  exact loop 7 0 h (by omega) (by omega) (fun w hw => absurd hw (Nat.not_lt_zero w)) (fun a _ _ => rfl)
theorem stp_b0 {σ : WS} (I : Inv σ) {l : Nat} (hl : l < 2 ^ (2 * sN σ)) : l % 64 < 4 ^ ctz σ 0 ∧ l / 64 < 4 ^ ctz σ 3 := by
  have n1 := I.n1
  have n5 := I.n5
  obtain ⟨n, hn⟩ : ∃ n, sN σ = n := ⟨_, rfl⟩
  have c0 : ctz σ 0 = min n 3 := by rw [ctz, hn]; simp
  have c3 : ctz σ 3 = n - 3 := by rw [ctz, hn]; simp; omega
  rw [hn] at hl n1 n5
  have hc : n = 1 ∨ n = 2 ∨ n = 3 ∨ n = 4 ∨ n = 5 := by omega
  rw [c0, c3]
  rcases hc with rfl | rfl | rfl | rfl | rfl <;> simp at hl ⊢ <;> omega
set_option maxRecDepth 20000 in
set_option maxHeartbeats 4000000 in
theorem c_step (l : Launch) (D : va_G) (cA : Nat → ClassId) (r : Nat → Nat) {h : Hp} {σ : WS} (I : Inv σ) {W : Nat} (S : RS σ W h) {w l9 : Nat} (hw : w < 6) (hb : W.testBit w = true) (hl : l9 < 2 ^ (2 * sN σ)) : Cn l D cA yX7_step cX7_step 3 (some .int) 0 0 0 [.ref (r 19), .int (nI w), .int (nI l9)] (LY r) h (pE (some (.int (nI (trz σ w l9 + 1024 * tqz σ w l9)))) (LY r) h) := by
  refine Cn.of (lv := [some (.ref (r 19)), some (.int (nI w)), some (.int (nI l9))]) (by decide +kernel) (Nat.le_of_ble_eq_true rfl) rfl (fun X hnm C CR => ?_)
  have q0 := ctz_0 (σ := σ)
  have q3 := ctz_3 (σ := σ)
  have b := stp_b0 I hl
  have b2 : l9 < 1024 := Nat.lt_of_lt_of_le hl (p2_10 I.n5)
  refine R_al0 (n := 1) C dX7_step_0 rfl ?_
  refine M_getR (n := 4) C fl_X7_9 dX7_step_1 rfl rfl rfl ?_
  refine R_il1 (n := 5) C dX7_step_4 rfl ?_
  refine R_bp (n := 7) C dX7_step_5 cb_64 rfl ?_
  refine R_imulN (n := 8) C dX7_step_7 rfl ?_
  refine R_il2 (n := 9) C dX7_step_8 rfl ?_
  refine R_bp (n := 11) C dX7_step_9 cb_64 rfl ?_
  refine R_iremN (n := 12) C dX7_step_11 (by omega) (by omega) (by omega) rfl ?_
  refine R_iaddN (n := 13) C dX7_step_12 rfl ?_
  refine M_iald (n := 14) C dX7_step_13 rfl (by omega) ((S w hw hb).1 _ b.1) rfl ?_
  refine R_al0 (n := 15) C dX7_step_14 rfl ?_
  refine M_getR (n := 18) C fl_X7_15 dX7_step_15 rfl rfl rfl ?_
  refine R_il1 (n := 19) C dX7_step_18 rfl ?_
  refine R_bp (n := 21) C dX7_step_19 cb_16 rfl ?_
  refine R_imulN (n := 22) C dX7_step_21 rfl ?_
  refine R_il2 (n := 23) C dX7_step_22 rfl ?_
  refine R_bp (n := 25) C dX7_step_23 cb_64 rfl ?_
  refine R_idivN (n := 26) C dX7_step_25 (by omega) (by omega) (by omega) rfl ?_
  refine R_iaddN (n := 27) C dX7_step_26 rfl ?_
  refine M_iald (n := 28) C dX7_step_27 rfl (by omega) ((S w hw hb).2 _ b.2) rfl ?_
  refine R_iaddN (n := 29) C dX7_step_28 rfl ?_
  refine R_iret C CR (Nat.zero_le _) (Nat.zero_le _) dX7_step_29 ?_
  exact ⟨by rw [stp_eq I hl], rfl, rfl⟩
theorem and1023 (x : Nat) : x &&& 1023 = x % 1024 := Nat.and_two_pow_sub_one_eq_mod x 10
set_option maxRecDepth 20000 in
set_option maxHeartbeats 4000000 in
theorem c_looksBehind (l : Launch) (D : va_G) (cA : Nat → ClassId) (r : Nat → Nat) {h : Hp} {σ : WS} (I : Inv σ) {W : Nat} (S : RS σ W h) {w l9 : Nat} (hw : w < 6) (hb : W.testBit w = true) (hl : l9 < 2 ^ (2 * sN σ)) : Cn l D cA yX7_looksBehind cX7_looksBehind 3 (some .int) 1 0 0 [.ref (r 19), .int (nI w), .int (nI l9)] (LY r) h (pE (some (.int (nI (trz σ w l9)))) (LY r) h) := by
  refine Cn.of (lv := [some (.ref (r 19)), some (.int (nI w)), some (.int (nI l9))]) (by decide +kernel) (Nat.le_of_ble_eq_true rfl) rfl (fun X hnm C CR => ?_)
  have t := trz_1024 I (w := w) (l := l9)
  refine R_al0 (n := 1) C dX7_looksBehind_0 rfl ?_
  refine R_il1 (n := 2) C dX7_looksBehind_1 rfl ?_
  refine R_il2 (n := 3) C dX7_looksBehind_2 rfl ?_
  refine M_callV (n := 6) C (c_step _ _ _ r I S hw hb hl) mw_X7_step ml_X7_26 iv_X7_step dX7_looksBehind_3 rfl rfl rfl rfl (Nat.le_of_ble_eq_true rfl) ⟨Nat.le_of_ble_eq_true rfl, Nat.le_of_ble_eq_true rfl⟩ ⟨Nat.le_refl _, Nat.le_refl _⟩ rfl (pEs ?_)
  refine R_sp (n := 9) C dX7_looksBehind_6 cs_1023 rfl ?_
  refine R_iandN (n := 10) C dX7_looksBehind_9 rfl ?_
  refine R_eq (y := nI (trz σ w l9)) (by rw [and1023]; congr 1; omega) ?_
  refine R_iret C CR (Nat.zero_le _) (Nat.zero_le _) dX7_looksBehind_10 ?_
  exact ⟨rfl, rfl, rfl⟩
set_option maxRecDepth 20000 in
set_option maxHeartbeats 4000000 in
theorem c_quartersOf (l : Launch) (D : va_G) (cA : Nat → ClassId) (r : Nat → Nat) {h : Hp} {σ : WS} (I : Inv σ) {W : Nat} (S : RS σ W h) {w l9 : Nat} (hw : w < 6) (hb : W.testBit w = true) (hl : l9 < 2 ^ (2 * sN σ)) : Cn l D cA yX7_quartersOf cX7_quartersOf 3 (some .int) 1 0 0 [.ref (r 19), .int (nI w), .int (nI l9)] (LY r) h (pE (some (.int (nI (tqz σ w l9)))) (LY r) h) := by
  refine Cn.of (lv := [some (.ref (r 19)), some (.int (nI w)), some (.int (nI l9))]) (by decide +kernel) (Nat.le_of_ble_eq_true rfl) rfl (fun X hnm C CR => ?_)
  have t := trz_1024 I (w := w) (l := l9)
  have t2 := tqz_le I hw (l := l9)
  refine R_al0 (n := 1) C dX7_quartersOf_0 rfl ?_
  refine R_il1 (n := 2) C dX7_quartersOf_1 rfl ?_
  refine R_il2 (n := 3) C dX7_quartersOf_2 rfl ?_
  refine M_callV (n := 6) C (c_step _ _ _ r I S hw hb hl) mw_X7_step ml_X7_26 iv_X7_step dX7_quartersOf_3 rfl rfl rfl rfl (Nat.le_of_ble_eq_true rfl) ⟨Nat.le_of_ble_eq_true rfl, Nat.le_of_ble_eq_true rfl⟩ ⟨Nat.le_refl _, Nat.le_refl _⟩ rfl (pEs ?_)
  refine R_sp (n := 9) C dX7_quartersOf_6 cs_1024 rfl ?_
  refine R_idivN (n := 10) C dX7_quartersOf_9 (by omega) (by omega) (by omega) rfl ?_
  refine R_eq (y := nI (tqz σ w l9)) (by congr 1; omega) ?_
  refine R_iret C CR (Nat.zero_le _) (Nat.zero_le _) dX7_quartersOf_10 ?_
  exact ⟨rfl, rfl, rfl⟩
