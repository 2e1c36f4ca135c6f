def wbz (c d : Nat) : Nat := if c = d then 4 else if c / 5 = d / 5 then (if c < d then 1 else 3) else if c % 5 = d % 5 then (if c < d then 2 else 0) else 4
def wbI (c d : Nat) : Int32 := if wbz c d = 4 then -1 else nI (wbz c d)
def frz (σ : WS) (a b w : Nat) : Bool := alb (fun k => decide (k = a) || (decide (k = b) || !(decide (wbz (sA σ 4 a) (sA σ 4 k) = w) && decide (wbz (sA σ 4 k) (sA σ 4 b) = w)))) (sN σ)
theorem wbz_lt (c d : Nat) : wbz c d ≤ 4 := by
  unfold wbz
  repeat' split
  all_goals decide
set_option maxRecDepth 20000 in
set_option maxHeartbeats 4000000 in
theorem c_wayBetween (l : Launch) (D : va_G) (cA : Nat → ClassId) (r : Nat → Nat) {L : Ly} {h : Hp} {c d : Nat} (hc : c < 25) (hd : d < 25) : Cn l D cA yX1_wayBetween cX1_wayBetween 2 (some .int) 0 0 0 [.int (nI c), .int (nI d)] (L) h (pE (some (.int (wbI c d))) L h) := by
  refine Cn.of (lv := [some (.int (nI c)), some (.int (nI d))]) (by decide +kernel) (Nat.le_of_ble_eq_true rfl) rfl (fun X hnm C CR => ?_)
  refine R_il0 (n := 1) C dX1_wayBetween_0 rfl ?_
  refine R_il1 (n := 2) C dX1_wayBetween_1 rfl ?_
  refine R_icmp_neN (tgt := 7) C dX1_wayBetween_2 rfl rfl (by omega) (by omega) (fun c1 => ?_) (fun c1 => ?_)
  · refine R_il0 (n := 8) C dX1_wayBetween_7 rfl ?_
    refine R_ic (n := 9) C dX1_wayBetween_8 ci_5 rfl ?_
    refine R_idivN (n := 10) C dX1_wayBetween_9 (by omega) (by omega) (by omega) rfl ?_
    refine R_il1 (n := 11) C dX1_wayBetween_10 rfl ?_
    refine R_ic (n := 12) C dX1_wayBetween_11 ci_5 rfl ?_
    refine R_idivN (n := 13) C dX1_wayBetween_12 (by omega) (by omega) (by omega) rfl ?_
    refine R_icmp_neN (tgt := 27) C dX1_wayBetween_13 rfl rfl (by omega) (by omega) (fun c2 => ?_) (fun c2 => ?_)
    · refine R_il0 (n := 28) C dX1_wayBetween_27 rfl ?_
      refine R_ic (n := 29) C dX1_wayBetween_28 ci_5 rfl ?_
      refine R_iremN (n := 30) C dX1_wayBetween_29 (by omega) (by omega) (by omega) rfl ?_
      refine R_il1 (n := 31) C dX1_wayBetween_30 rfl ?_
      refine R_ic (n := 32) C dX1_wayBetween_31 ci_5 rfl ?_
      refine R_iremN (n := 33) C dX1_wayBetween_32 (by omega) (by omega) (by omega) rfl ?_
      refine R_icmp_neN (tgt := 47) C dX1_wayBetween_33 rfl rfl (by omega) (by omega) (fun c3 => ?_) (fun c3 => ?_)
      · refine R_ic (n := 48) C dX1_wayBetween_47 ci_m1 rfl ?_
        refine R_iret C CR (Nat.zero_le _) (Nat.zero_le _) dX1_wayBetween_48 ?_
        exact ⟨by rw [wbI, wbz, if_neg c1, if_neg c2, if_neg c3]; rfl, rfl, rfl⟩
      · refine R_il1 (n := 37) C dX1_wayBetween_36 rfl ?_
        refine R_il0 (n := 38) C dX1_wayBetween_37 rfl ?_
        refine R_icmp_leN (tgt := 45) C dX1_wayBetween_38 rfl rfl (by omega) (by omega) (fun c4 => ?_) (fun c4 => ?_)
        · refine R_ic (n := 46) C dX1_wayBetween_45 ci_0 rfl ?_
          refine R_iret C CR (Nat.zero_le _) (Nat.zero_le _) dX1_wayBetween_46 ?_
          exact ⟨by rw [wbI, wbz, if_neg c1, if_neg c2, if_pos c3, if_neg (show ¬ c < d by omega)]; rfl, rfl, rfl⟩
        · refine R_ic (n := 42) C dX1_wayBetween_41 ci_2 rfl ?_
          refine R_goto (n := 46) C dX1_wayBetween_42 rfl ?_
          refine R_iret C CR (Nat.zero_le _) (Nat.zero_le _) dX1_wayBetween_46 ?_
          exact ⟨by rw [wbI, wbz, if_neg c1, if_neg c2, if_pos c3, if_pos (show c < d by omega)]; rfl, rfl, rfl⟩
    · refine R_il1 (n := 17) C dX1_wayBetween_16 rfl ?_
      refine R_il0 (n := 18) C dX1_wayBetween_17 rfl ?_
      refine R_icmp_leN (tgt := 25) C dX1_wayBetween_18 rfl rfl (by omega) (by omega) (fun c4 => ?_) (fun c4 => ?_)
      · refine R_ic (n := 26) C dX1_wayBetween_25 ci_3 rfl ?_
        refine R_iret C CR (Nat.zero_le _) (Nat.zero_le _) dX1_wayBetween_26 ?_
        exact ⟨by rw [wbI, wbz, if_neg c1, if_pos c2, if_neg (show ¬ c < d by omega)]; rfl, rfl, rfl⟩
      · refine R_ic (n := 22) C dX1_wayBetween_21 ci_1 rfl ?_
        refine R_goto (n := 26) C dX1_wayBetween_22 rfl ?_
        refine R_iret C CR (Nat.zero_le _) (Nat.zero_le _) dX1_wayBetween_26 ?_
        exact ⟨by rw [wbI, wbz, if_neg c1, if_pos c2, if_pos (show c < d by omega)]; rfl, rfl, rfl⟩
  · refine R_ic (n := 6) C dX1_wayBetween_5 ci_m1 rfl ?_
    refine R_iret C CR (Nat.zero_le _) (Nat.zero_le _) dX1_wayBetween_6 ?_
    exact ⟨by rw [wbI, wbz, if_pos c1]; rfl, rfl, rfl⟩
theorem wbI_eq {c d w : Nat} (hw : w < 4) : wbI c d = nI w ↔ wbz c d = w := by
  have := wbz_lt c d
  unfold wbI
  by_cases e : wbz c d = 4
  · rw [if_pos e]
    constructor
    · intro q
      have : ∀ w, w < 4 → (-1 : Int32) ≠ nI w := by decide +kernel
      exact absurd q (this w hw)
    · intro q; omega
  · rw [if_neg e]
    exact nI_eq (by omega) (by omega)
set_option maxRecDepth 20000 in
set_option maxHeartbeats 4000000 in
theorem c_isFree (l : Launch) (D : va_G) (cA : Nat → ClassId) (r : Nat → Nat) {h : Hp} {σ : WS} (R : RW 1 σ h) (I : Inv σ) {a b w : Nat} (ha : a < 5) (hb : b < 5) (hw : w < 4) : Cn l D cA yX1_isFree cX1_isFree 5 (some .boolean) 1 0 0 [.ref (r 1), .int (nI a), .int (nI b), .int (nI w)] (LY r) h (pE (some (.int (bI (frz σ a b w)))) (LY r) h) := by
  refine Cn.of (lv := [some (.ref (r 1)), some (.int (nI a)), some (.int (nI b)), some (.int (nI w)), none]) (by decide +kernel) (Nat.le_of_ble_eq_true rfl) rfl (fun X hnm C CR => ?_)
  have n5 := I.n5
  have loop : ∀ (m i : Nat), sN σ < i + m → i ≤ sN σ → (∀ k, k < i → (decide (k = a) || (decide (k = b) || !(decide (wbz (sA σ 4 a) (sA σ 4 k) = w) && decide (wbz (sA σ 4 k) (sA σ 4 b) = w)))) = true) → Rn X 0 0 3 [some (.ref (r 1)), some (.int (nI a)), some (.int (nI b)), some (.int (nI w)), some (.int (nI i))] [] (LY r) h := by
    intro m
    induction m with
    | zero => intro i a1 a2; omega
    | succ m ih =>
      intro i a1 a2 P
      refine R_il4 (n := 5) C dX1_isFree_3 rfl ?_
      refine R_al0 (n := 6) C dX1_isFree_5 rfl ?_
      refine M_getI (n := 9) C fl_X1_25 dX1_isFree_6 rfl rfl (wN R) rfl ?_
      refine R_icmp_geN (tgt := 72) C dX1_isFree_9 rfl rfl (by omega) (by omega) (fun c1 => ?_) (fun c1 => ?_)
      · refine R_ic (n := 73) C dX1_isFree_72 ci_1 rfl ?_
        refine R_zret1 C CR (Nat.zero_le _) (Nat.zero_le _) dX1_isFree_73 ?_
        exact ⟨by rw [frz, alb_t (fun k hk => P k (by omega))], rfl, rfl⟩
      · have nx : (decide (i = a) || (decide (i = b) || !(decide (wbz (sA σ 4 a) (sA σ 4 i) = w) && decide (wbz (sA σ 4 i) (sA σ 4 b) = w)))) = true → Rn X 0 0 66 [some (.ref (r 1)), some (.int (nI a)), some (.int (nI b)), some (.int (nI w)), some (.int (nI i))] [] (LY r) h := by
          intro q
          refine R_inc4 (n := 69) C dX1_isFree_66 rfl (Nat.le_of_ble_eq_true rfl) (inc_1 _) rfl ?_
          refine R_goto (n := 3) C dX1_isFree_69 rfl ?_
          exact ih (i + 1) (by omega) (by omega) (fun k hk => by
            by_cases e : k = i
            · rw [e]; exact q
            · exact P k (by omega))
        have ca := I.ce ha
        have cb := I.ce hb
        have ci := I.ce (k := i) (by omega)
        refine R_il4 (n := 14) C dX1_isFree_12 rfl ?_
        refine R_il1 (n := 15) C dX1_isFree_14 rfl ?_
        refine R_icmp_eqN (tgt := 66) C dX1_isFree_15 rfl rfl (by omega) (by omega) (fun c2 => ?_) (fun c2 => ?_)
        · exact nx (by rw [decide_eq_true c2]; rfl)
        · refine R_il4 (n := 20) C dX1_isFree_18 rfl ?_
          refine R_il2 (n := 21) C dX1_isFree_20 rfl ?_
          refine R_icmp_eqN (tgt := 66) C dX1_isFree_21 rfl rfl (by omega) (by omega) (fun c3 => ?_) (fun c3 => ?_)
          · exact nx (by rw [decide_eq_true c3, Bool.true_or, Bool.or_true])
          · refine R_al0 (n := 25) C dX1_isFree_24 rfl ?_
            refine M_getR (n := 28) C fl_X1_30 dX1_isFree_25 rfl rfl rfl ?_
            refine R_il1 (n := 29) C dX1_isFree_28 rfl ?_
            refine M_iald (n := 30) C dX1_isFree_29 rfl ha (wCe R ha) rfl ?_
            refine R_al0 (n := 31) C dX1_isFree_30 rfl ?_
            refine M_getR (n := 34) C fl_X1_30 dX1_isFree_31 rfl rfl rfl ?_
            refine R_il4 (n := 36) C dX1_isFree_34 rfl ?_
            refine M_iald (n := 37) C dX1_isFree_36 rfl (by omega) (wCe R (by omega)) rfl ?_
            refine R_callS (n := 40) C (c_wayBetween _ _ _ r ca ci) mw_X1_wayBetween ml_X1_33 sv_X1_wayBetween dX1_isFree_37 rfl rfl (Nat.le_of_ble_eq_true rfl) ⟨Nat.le_of_ble_eq_true rfl, Nat.le_of_ble_eq_true rfl⟩ ⟨Nat.le_refl _, Nat.le_refl _⟩ rfl (pEs ?_)
            refine R_il3 (n := 41) C dX1_isFree_40 rfl ?_
            refine R_icmp_ne (tgt := 66) C dX1_isFree_41 rfl rfl (fun c4 => ?_) (fun c4 => ?_)
            · rw [wbI_eq hw] at c4
              exact nx (by rw [decide_eq_false c4, Bool.false_and, Bool.not_false, Bool.or_true, Bool.or_true])
            · rw [wbI_eq hw] at c4
              refine R_al0 (n := 45) C dX1_isFree_44 rfl ?_
              refine M_getR (n := 48) C fl_X1_30 dX1_isFree_45 rfl rfl rfl ?_
              refine R_il4 (n := 50) C dX1_isFree_48 rfl ?_
              refine M_iald (n := 51) C dX1_isFree_50 rfl (by omega) (wCe R (by omega)) rfl ?_
              refine R_al0 (n := 52) C dX1_isFree_51 rfl ?_
              refine M_getR (n := 55) C fl_X1_30 dX1_isFree_52 rfl rfl rfl ?_
              refine R_il2 (n := 56) C dX1_isFree_55 rfl ?_
              refine M_iald (n := 57) C dX1_isFree_56 rfl hb (wCe R hb) rfl ?_
              refine R_callS (n := 60) C (c_wayBetween _ _ _ r ci cb) mw_X1_wayBetween ml_X1_33 sv_X1_wayBetween dX1_isFree_57 rfl rfl (Nat.le_of_ble_eq_true rfl) ⟨Nat.le_of_ble_eq_true rfl, Nat.le_of_ble_eq_true rfl⟩ ⟨Nat.le_refl _, Nat.le_refl _⟩ rfl (pEs ?_)
              refine R_il3 (n := 61) C dX1_isFree_60 rfl ?_
              refine R_icmp_ne (tgt := 66) C dX1_isFree_61 rfl rfl (fun c5 => ?_) (fun c5 => ?_)
              · rw [wbI_eq hw] at c5
                exact nx (by rw [decide_eq_false c5, Bool.and_false, Bool.not_false, Bool.or_true, Bool.or_true])
              · rw [wbI_eq hw] at c5
                refine R_ic (n := 65) C dX1_isFree_64 ci_0 rfl ?_
                refine R_zret0 C CR (Nat.zero_le _) (Nat.zero_le _) dX1_isFree_65 ?_
                exact ⟨by rw [frz, alb_f c1 (by rw [decide_eq_false c2, decide_eq_false c3, decide_eq_true c4, decide_eq_true c5]; rfl)], rfl, rfl⟩
  refine R_ic (n := 1) C dX1_isFree_0 ci_0 rfl ?_
  refine R_is4 (n := 3) C dX1_isFree_1 rfl (Nat.le_of_ble_eq_true rfl) rfl ?_
  exact loop (sN σ + 1) 0 (by omega) (by omega) (fun k hk => absurd hk (Nat.not_lt_zero k))
def lnE (σ : WS) (a b : Nat) : List (Nat × Nat × Nat) := if a < b ∧ wbz (sA σ 4 a) (sA σ 4 b) < 4 ∧ frz σ a b (wbz (sA σ 4 a) (sA σ 4 b)) = true then [(a, b, wbz (sA σ 4 a) (sA σ 4 b))] else []
def lnR (σ : WS) (a : Nat) : Nat → List (Nat × Nat × Nat)
  | 0 => []
  | b + 1 => lnR σ a b ++ lnE σ a b
def lnZ (σ : WS) : Nat → List (Nat × Nat × Nat)
  | 0 => []
  | a + 1 => lnZ σ a ++ lnR σ a (sN σ)
def RL_ (l : List (Nat × Nat × Nat)) (h : Hp) : Prop := h 47 0 = nI l.length ∧ ∀ i q, l[i]? = some q → h 48 i = nI q.1 ∧ h 49 i = nI q.2.1 ∧ h 50 i = nI q.2.2
theorem lnR_low {σ : WS} {a : Nat} : ∀ {b : Nat}, b ≤ a + 1 → lnR σ a b = []
  | 0, _ => rfl
  | b + 1, h => by
    rw [lnR, lnR_low (by omega), lnE, if_neg (by omega)]
    rfl
theorem lnR_len {σ : WS} {a : Nat} : ∀ b, (lnR σ a b).length ≤ b
  | 0 => Nat.le_refl _
  | b + 1 => by
    have := lnR_len (σ := σ) (a := a) b
    rw [lnR, List.length_append, lnE]
    split <;> simp <;> omega
theorem lnZ_len {σ : WS} : ∀ a, (lnZ σ a).length ≤ a * sN σ
  | 0 => Nat.zero_le _
  | a + 1 => by
    have h1 := lnZ_len (σ := σ) a
    have h2 := lnR_len (σ := σ) (a := a) (sN σ)
    rw [lnZ, List.length_append, Nat.succ_mul]
    omega
def lnOk (n : Nat) (l : List (Nat × Nat × Nat)) : Prop := ∀ q ∈ l, q.1 < n ∧ q.2.1 < n ∧ q.2.2 < 4
theorem lnR_ok {σ : WS} {a : Nat} (ha : a < sN σ) : ∀ b, b ≤ sN σ → lnOk (sN σ) (lnR σ a b)
  | 0, _ => fun q hq => absurd hq List.not_mem_nil
  | b + 1, hb => fun q hq => by
    rw [lnR] at hq
    rcases List.mem_append.mp hq with h | h
    · exact lnR_ok ha b (by omega) q h
    · unfold lnE at h
      split at h
      · rename_i c
        rw [List.mem_singleton.mp h]
        exact ⟨ha, by show b < sN σ; omega, c.2.1⟩
      · exact absurd h List.not_mem_nil
theorem lnZ_ok {σ : WS} : ∀ a, a ≤ sN σ → lnOk (sN σ) (lnZ σ a)
  | 0, _ => fun q hq => absurd hq List.not_mem_nil
  | a + 1, ha => fun q hq => by
    rw [lnZ] at hq
    rcases List.mem_append.mp hq with h | h
    · exact lnZ_ok a (by omega) q h
    · exact lnR_ok (by omega) _ (Nat.le_refl _) q h
theorem RL_push {l : List (Nat × Nat × Nat)} {h : Hp} {a b w : Nat} (E : RL_ l h) : RL_ (l ++ [(a, b, w)]) (up2 (up2 (up2 (up2 h 48 l.length (nI a)) 49 l.length (nI b)) 50 l.length (nI w)) 47 0 (nI (l.length + 1))) := by
  refine ⟨by rw [up2_same, List.length_append]; rfl, fun i q hq => ?_⟩
  by_cases e : i < l.length
  · rw [List.getElem?_append_left e] at hq
    have := E.2 i q hq
    rw [up2_row (by decide), up2_row (by decide), up2_row (by decide), up2_ne (by omega), up2_row (by decide), up2_row (by decide), up2_ne (by omega), up2_row (by decide), up2_row (by decide), up2_ne (by omega), up2_row (by decide), up2_row (by decide)]
    exact this
  · rw [List.getElem?_append_right (by omega)] at hq
    have h0 : i - l.length < 1 := (List.getElem?_eq_some_iff.mp hq).1
    have h1 : i = l.length := by omega
    subst h1
    rw [Nat.sub_self] at hq
    cases hq
    refine ⟨?_, ?_, ?_⟩
    · rw [up2_row (by decide), up2_row (by decide), up2_row (by decide), up2_same]
    · rw [up2_row (by decide), up2_row (by decide), up2_same]
    · rw [up2_row (by decide), up2_same]
set_option maxRecDepth 20000 in
set_option maxHeartbeats 4000000 in
theorem c_survey (l : Launch) (D : va_G) (cA : Nat → ClassId) (r : Nat → Nat) {h : Hp} {σ : WS} (R : RW 1 σ h) (I : Inv σ) : Cn l D cA yX1_survey cX1_survey 5 none 2 0 0 [.ref (r 47), .ref (r 1)] (LY r) h (pG none (LY r) (fun h' => RL_ (lnZ σ (sN σ)) h' ∧ FrS h h')) := by
  refine Cn.of (lv := [some (.ref (r 47)), some (.ref (r 1)), none, none, none]) (by decide +kernel) (Nat.le_of_ble_eq_true rfl) rfl (fun X hnm C CR => ?_)
  have n5 := I.n5
  have inner : ∀ (a : Nat), a < sN σ → (∀ (h2 : Hp) (o : Option Value), RL_ (lnZ σ (a + 1)) h2 → FrS h h2 → Rn X 0 0 107 [some (.ref (r 47)), some (.ref (r 1)), some (.int (nI a)), some (.int (nI (sN σ))), o] [] (LY r) h2) → ∀ (m b : Nat) (hh : Hp) (o : Option Value), sN σ < b + m → a < b → b ≤ sN σ → RL_ (lnZ σ a ++ lnR σ a b) hh → FrS h hh → Rn X 0 0 19 [some (.ref (r 47)), some (.ref (r 1)), some (.int (nI a)), some (.int (nI b)), o] [] (LY r) hh := by
    intro a ha out m
    induction m with
    | zero => intro b hh o a1 a2 a3; omega
    | succ m ih =>
      intro b hh o a1 a2 a3 E F
      have R1 := F.rw R
      refine R_il3 (n := 20) C dX1_survey_19 rfl ?_
      refine R_al1 (n := 21) C dX1_survey_20 rfl ?_
      refine M_getI (n := 24) C fl_X1_25 dX1_survey_21 rfl rfl (wN R1) rfl ?_
      refine R_icmp_geN (tgt := 107) C dX1_survey_24 rfl rfl (by omega) (by omega) (fun c1 => ?_) (fun c1 => ?_)
      · obtain rfl : b = sN σ := by omega
        exact out hh o E F
      · have ca := I.ce (k := a) (by omega)
        have cb := I.ce (k := b) (by omega)
        have nx : ∀ (h2 : Hp) (o : Option Value), RL_ (lnZ σ a ++ lnR σ a (b + 1)) h2 → FrS h h2 → Rn X 0 0 101 [some (.ref (r 47)), some (.ref (r 1)), some (.int (nI a)), some (.int (nI b)), o] [] (LY r) h2 := by
          intro h2 o E2 F2
          refine R_inc3 (n := 104) C dX1_survey_101 rfl (Nat.le_of_ble_eq_true rfl) (inc_1 _) rfl ?_
          refine R_goto (n := 19) C dX1_survey_104 rfl ?_
          exact ih (b + 1) h2 o (by omega) (by omega) (by omega) E2 F2
        obtain ⟨w, hw⟩ : ∃ w, wbz (sA σ 4 a) (sA σ 4 b) = w := ⟨_, rfl⟩
        refine R_al1 (n := 28) C dX1_survey_27 rfl ?_
        refine M_getR (n := 31) C fl_X1_30 dX1_survey_28 rfl rfl rfl ?_
        refine R_il2 (n := 32) C dX1_survey_31 rfl ?_
        refine M_iald (n := 33) C dX1_survey_32 rfl (by omega) (wCe R1 (by omega)) rfl ?_
        refine R_al1 (n := 34) C dX1_survey_33 rfl ?_
        refine M_getR (n := 37) C fl_X1_30 dX1_survey_34 rfl rfl rfl ?_
        refine R_il3 (n := 38) C dX1_survey_37 rfl ?_
        refine M_iald (n := 39) C dX1_survey_38 rfl (by omega) (wCe R1 (by omega)) rfl ?_
        refine R_callS (n := 42) C (c_wayBetween _ _ _ r ca cb) mw_X1_wayBetween ml_X1_33 sv_X1_wayBetween dX1_survey_39 rfl rfl (Nat.le_of_ble_eq_true rfl) ⟨Nat.le_of_ble_eq_true rfl, Nat.le_of_ble_eq_true rfl⟩ ⟨Nat.le_refl _, Nat.le_refl _⟩ rfl (pEs ?_)
        by_cases w4 : w = 4
        · rw [wbI, hw, if_pos w4]
          refine R_is4 (n := 44) C dX1_survey_42 rfl (Nat.le_of_ble_eq_true rfl) rfl ?_
          refine R_il4 (n := 46) C dX1_survey_44 rfl ?_
          refine R_if_lt (tgt := 101) C dX1_survey_46 rfl rfl (fun c2 => ?_) (fun c2 => ?_)
          · refine nx hh _ ?_ F
            rw [lnR, lnE, if_neg (by rw [hw]; omega), List.append_nil]
            exact E
          · exact absurd (by decide) c2
        · have wl : w < 4 := by have := wbz_lt (sA σ 4 a) (sA σ 4 b); omega
          rw [wbI, hw, if_neg w4]
          refine R_is4 (n := 44) C dX1_survey_42 rfl (Nat.le_of_ble_eq_true rfl) rfl ?_
          refine R_il4 (n := 46) C dX1_survey_44 rfl ?_
          refine R_if_ltN C dX1_survey_46 101 rfl rfl (by omega) ?_
          refine R_al1 (n := 50) C dX1_survey_49 rfl ?_
          refine R_il2 (n := 51) C dX1_survey_50 rfl ?_
          refine R_il3 (n := 52) C dX1_survey_51 rfl ?_
          refine R_il4 (n := 54) C dX1_survey_52 rfl ?_
          refine R_callS (n := 57) C (c_isFree _ _ _ r R1 I (by omega) (by omega) wl) mw_X1_isFree ml_X1_37 sv_X1_isFree dX1_survey_54 rfl rfl (Nat.le_of_ble_eq_true rfl) ⟨Nat.le_of_ble_eq_true rfl, Nat.le_of_ble_eq_true rfl⟩ ⟨Nat.le_refl _, Nat.le_refl _⟩ rfl (pEs ?_)
          refine R_if_eqB (tgt := 101) C dX1_survey_57 rfl rfl (fun c3 => ?_) (fun c3 => ?_)
          · refine nx hh _ ?_ F
            rw [lnR, lnE, if_neg (by rw [hw, c3]; simp), List.append_nil]
            exact E
          · have l25 : (lnZ σ a ++ lnR σ a b).length < 25 := by
              have h1 := lnZ_len (σ := σ) a
              have h2 : (lnR σ a b).length ≤ b := lnR_len b
              have h3 : a * sN σ ≤ 4 * 5 := Nat.mul_le_mul (by omega) n5
              rw [List.length_append]
              omega
            have e47 : hh 47 0 = nI (lnZ σ a ++ lnR σ a b).length := E.1
            refine R_al0 (n := 61) C dX1_survey_60 rfl ?_
            refine M_getR (n := 64) C fl_X1_9 dX1_survey_61 rfl rfl rfl ?_
            refine R_al0 (n := 65) C dX1_survey_64 rfl ?_
            refine M_getI (n := 68) C fl_X1_21 dX1_survey_65 rfl rfl e47 rfl ?_
            refine R_il2 (n := 69) C dX1_survey_68 rfl ?_
            refine M_iast (n := 70) C dX1_survey_69 rfl (by omega) rfl ?_
            refine R_al0 (n := 71) C dX1_survey_70 rfl ?_
            refine M_getR (n := 74) C fl_X1_15 dX1_survey_71 rfl rfl rfl ?_
            refine R_al0 (n := 75) C dX1_survey_74 rfl ?_
            refine M_getI (n := 78) C fl_X1_21 dX1_survey_75 rfl rfl (up2_get (by decide) e47) rfl ?_
            refine R_il3 (n := 79) C dX1_survey_78 rfl ?_
            refine M_iast (n := 80) C dX1_survey_79 rfl (by omega) rfl ?_
            refine R_al0 (n := 81) C dX1_survey_80 rfl ?_
            refine M_getR (n := 84) C fl_X1_18 dX1_survey_81 rfl rfl rfl ?_
            refine R_al0 (n := 85) C dX1_survey_84 rfl ?_
            refine M_getI (n := 88) C fl_X1_21 dX1_survey_85 rfl rfl (up2_get (by decide) (up2_get (by decide) e47)) rfl ?_
            refine R_il4 (n := 90) C dX1_survey_88 rfl ?_
            refine M_iast (n := 91) C dX1_survey_90 rfl (by omega) rfl ?_
            refine R_al0 (n := 92) C dX1_survey_91 rfl ?_
            refine R_dup (n := 93) C dX1_survey_92 rfl rfl ?_
            refine M_getI (n := 96) C fl_X1_21 dX1_survey_93 rfl rfl (up2_get (by decide) (up2_get (by decide) (up2_get (by decide) e47))) rfl ?_
            refine R_ic (n := 97) C dX1_survey_96 ci_1 rfl ?_
            refine R_iaddN (n := 98) C dX1_survey_97 rfl ?_
            refine M_putI (n := 101) C fl_X1_21 dX1_survey_98 rfl rfl rfl rfl rfl ?_
            refine nx _ _ ?_ ((((F.up (by decide) (by decide)).up (by decide) (by decide)).up (by decide) (by decide)).up (by decide) (by decide))
            rw [lnR, lnE, if_pos ⟨a2, by rw [hw]; exact wl, by rw [hw]; exact c3⟩, ← List.append_assoc, hw]
            exact RL_push E
  have outer : ∀ (m a : Nat) (hh : Hp) (o3 o4 : Option Value), sN σ < a + m → a ≤ sN σ → RL_ (lnZ σ a) hh → FrS h hh → Rn X 0 0 7 [some (.ref (r 47)), some (.ref (r 1)), some (.int (nI a)), o3, o4] [] (LY r) hh := by
    intro m
    induction m with
    | zero => intro a hh o3 o4 a1 a2; omega
    | succ m ih =>
      intro a hh o3 o4 a1 a2 E F
      have R1 := F.rw R
      refine R_il2 (n := 8) C dX1_survey_7 rfl ?_
      refine R_al1 (n := 9) C dX1_survey_8 rfl ?_
      refine M_getI (n := 12) C fl_X1_25 dX1_survey_9 rfl rfl (wN R1) rfl ?_
      refine R_icmp_geN (tgt := 113) C dX1_survey_12 rfl rfl (by omega) (by omega) (fun c1 => ?_) (fun c1 => ?_)
      · obtain rfl : a = sN σ := by omega
        refine R_vret C CR (Nat.zero_le _) (Nat.zero_le _) dX1_survey_113 ?_
        exact ⟨rfl, rfl, E, F⟩
      · refine R_il2 (n := 16) C dX1_survey_15 rfl ?_
        refine R_ic (n := 17) C dX1_survey_16 ci_1 rfl ?_
        refine R_iaddN (n := 18) C dX1_survey_17 rfl ?_
        refine R_is3 (n := 19) C dX1_survey_18 rfl (Nat.le_of_ble_eq_true rfl) rfl ?_
        refine inner a c1 (fun h2 o E2 F2 => ?_) (sN σ) (a + 1) hh _ (by omega) (by omega) (by omega) ?_ F
        · refine R_inc2 (n := 110) C dX1_survey_107 rfl (Nat.le_of_ble_eq_true rfl) (inc_1 _) rfl ?_
          refine R_goto (n := 7) C dX1_survey_110 rfl ?_
          exact ih (a + 1) h2 _ _ (by omega) (by omega) E2 F2
        · rw [lnR_low (by omega), List.append_nil]
          exact E
  refine R_al0 (n := 1) C dX1_survey_0 rfl ?_
  refine R_ic (n := 2) C dX1_survey_1 ci_0 rfl ?_
  refine M_putI (n := 5) C fl_X1_21 dX1_survey_2 rfl rfl rfl rfl rfl ?_
  refine R_ic (n := 6) C dX1_survey_5 ci_0 rfl ?_
  refine R_is2 (n := 7) C dX1_survey_6 rfl (Nat.le_of_ble_eq_true rfl) rfl ?_
  exact outer (sN σ + 1) 0 _ none none (by omega) (by omega) ⟨up2_same, fun i q hq => by simp [lnZ] at hq⟩ (FrS.rf.up (by decide) (by decide))
def prL (l9 : Nat) (l : List (Nat × Nat × Nat)) : Nat := (l.filter (fun q => decide (wy l9 q.1 = q.2.2) && decide (wy l9 q.2.1 = q.2.2 ^^^ 2))).length
theorem prL_s {l9 i : Nat} {l : List (Nat × Nat × Nat)} {q : Nat × Nat × Nat} (h : l[i]? = some q) : prL l9 (l.take (i + 1)) = prL l9 (l.take i) + (if (decide (wy l9 q.1 = q.2.2) && decide (wy l9 q.2.1 = q.2.2 ^^^ 2)) = true then 1 else 0) := by
  rw [List.take_add_one, h]
  unfold prL
  rw [List.filter_append, List.length_append]
  simp only [Option.toList_some, List.filter_cons, List.filter_nil]
  split <;> simp
set_option maxRecDepth 20000 in
set_option maxHeartbeats 4000000 in
theorem c_pairsIn (l : Launch) (D : va_G) (cA : Nat → ClassId) (r : Nat → Nat) {h : Hp} {n l9 : Nat} {ln : List (Nat × Nat × Nat)} (E : RL_ ln h) (hl : ln.length ≤ 25) (ok : lnOk n ln) (hn : n ≤ 5) (h9 : l9 < 1024) : Cn l D cA yX1_pairsIn cX1_pairsIn 4 (some .int) 1 0 0 [.ref (r 47), .int (nI l9)] (LY r) h (pE (some (.int (nI (prL l9 ln)))) (LY r) h) := by
  refine Cn.of (lv := [some (.ref (r 47)), some (.int (nI l9)), none, none]) (by decide +kernel) (Nat.le_of_ble_eq_true rfl) rfl (fun X hnm C CR => ?_)
  have loop : ∀ (m i : Nat), ln.length < i + m → i ≤ ln.length → Rn X 0 0 4 [some (.ref (r 47)), some (.int (nI l9)), some (.int (nI (prL l9 (ln.take i)))), some (.int (nI i))] [] (LY r) h := by
    intro m
    induction m with
    | zero => intro i a1 a2; omega
    | succ m ih =>
      intro i a1 a2
      refine R_il3 (n := 5) C dX1_pairsIn_4 rfl ?_
      refine R_al0 (n := 6) C dX1_pairsIn_5 rfl ?_
      refine M_getI (n := 9) C fl_X1_21 dX1_pairsIn_6 rfl rfl E.1 rfl ?_
      refine R_icmp_geN (tgt := 61) C dX1_pairsIn_9 rfl rfl (by omega) (by omega) (fun c1 => ?_) (fun c1 => ?_)
      · refine R_il2 (n := 62) C dX1_pairsIn_61 rfl ?_
        refine R_iret C CR (Nat.zero_le _) (Nat.zero_le _) dX1_pairsIn_62 ?_
        refine ⟨?_, rfl, rfl⟩
        rw [List.take_of_length_le (by omega)]
      · obtain ⟨q, hq⟩ : ∃ q, ln[i]? = some q := ⟨ln[i], List.getElem?_eq_getElem c1⟩
        obtain ⟨e1, e2, e3⟩ := E.2 i q hq
        obtain ⟨k1, k2, k3⟩ := ok q (List.mem_of_getElem? hq)
        have ps := prL_s (l9 := l9) hq
        have w1 := wy_lt l9 q.1
        have w2 := wy_lt l9 q.2.1
        have x4 : q.2.2 ^^^ 2 < 4 := Nat.xor_lt_two_pow (n := 2) k3 (by decide)
        refine R_il1 (n := 13) C dX1_pairsIn_12 rfl ?_
        refine R_al0 (n := 14) C dX1_pairsIn_13 rfl ?_
        refine M_getR (n := 17) C fl_X1_9 dX1_pairsIn_14 rfl rfl rfl ?_
        refine R_il3 (n := 18) C dX1_pairsIn_17 rfl ?_
        refine M_iald (n := 19) C dX1_pairsIn_18 rfl (by omega) e1 rfl ?_
        refine R_callSN (n := 22) C (c_lookIn _ _ _ r (by omega) (by omega)) mw_X10_lookIn mn_X1_41 sv_X10_lookIn dX1_pairsIn_19 rfl rfl (Nat.le_of_ble_eq_true rfl) ⟨Nat.le_of_ble_eq_true rfl, Nat.le_of_ble_eq_true rfl⟩ ⟨Nat.le_refl _, Nat.le_refl _⟩ rfl (pEs ?_)
        refine R_al0 (n := 23) C dX1_pairsIn_22 rfl ?_
        refine M_getR (n := 26) C fl_X1_18 dX1_pairsIn_23 rfl rfl rfl ?_
        refine R_il3 (n := 27) C dX1_pairsIn_26 rfl ?_
        refine M_iald (n := 28) C dX1_pairsIn_27 rfl (by omega) e3 rfl ?_
        refine R_icmp_neN (tgt := 55) C dX1_pairsIn_28 rfl rfl (by omega) (by omega) (fun c2 => ?_) (fun c2 => ?_)
        · rw [decide_eq_false c2, Bool.false_and, if_neg (by decide)] at ps
          replace ps := ps.trans (Nat.add_zero _)
          refine R_inc3 (n := 58) C dX1_pairsIn_55 rfl (Nat.le_of_ble_eq_true rfl) (inc_1 _) rfl ?_
          refine R_goto (n := 4) C dX1_pairsIn_58 rfl ?_
          rw [← ps]
          exact ih (i + 1) (by omega) (by omega)
        · refine R_il1 (n := 32) C dX1_pairsIn_31 rfl ?_
          refine R_al0 (n := 33) C dX1_pairsIn_32 rfl ?_
          refine M_getR (n := 36) C fl_X1_15 dX1_pairsIn_33 rfl rfl rfl ?_
          refine R_il3 (n := 37) C dX1_pairsIn_36 rfl ?_
          refine M_iald (n := 38) C dX1_pairsIn_37 rfl (by omega) e2 rfl ?_
          refine R_callSN (n := 41) C (c_lookIn _ _ _ r (by omega) (by omega)) mw_X10_lookIn mn_X1_41 sv_X10_lookIn dX1_pairsIn_38 rfl rfl (Nat.le_of_ble_eq_true rfl) ⟨Nat.le_of_ble_eq_true rfl, Nat.le_of_ble_eq_true rfl⟩ ⟨Nat.le_refl _, Nat.le_refl _⟩ rfl (pEs ?_)
          refine R_al0 (n := 42) C dX1_pairsIn_41 rfl ?_
          refine M_getR (n := 45) C fl_X1_18 dX1_pairsIn_42 rfl rfl rfl ?_
          refine R_il3 (n := 46) C dX1_pairsIn_45 rfl ?_
          refine M_iald (n := 47) C dX1_pairsIn_46 rfl (by omega) e3 rfl ?_
          refine R_ic (n := 48) C dX1_pairsIn_47 ci_2 rfl ?_
          refine R_ixorN (n := 49) C dX1_pairsIn_48 rfl ?_
          refine R_icmp_neN (tgt := 55) C dX1_pairsIn_49 rfl rfl (by omega) (by omega) (fun c3 => ?_) (fun c3 => ?_)
          · rw [decide_eq_false c3, Bool.and_false, if_neg (by decide)] at ps
            replace ps := ps.trans (Nat.add_zero _)
            refine R_inc3 (n := 58) C dX1_pairsIn_55 rfl (Nat.le_of_ble_eq_true rfl) (inc_1 _) rfl ?_
            refine R_goto (n := 4) C dX1_pairsIn_58 rfl ?_
            rw [← ps]
            exact ih (i + 1) (by omega) (by omega)
          · rw [decide_eq_true c2, decide_eq_true c3, Bool.and_self, if_pos rfl] at ps
            refine R_inc2 (n := 55) C dX1_pairsIn_52 rfl (Nat.le_of_ble_eq_true rfl) (inc_1 _) rfl ?_
            refine R_inc3 (n := 58) C dX1_pairsIn_55 rfl (Nat.le_of_ble_eq_true rfl) (inc_1 _) rfl ?_
            refine R_goto (n := 4) C dX1_pairsIn_58 rfl ?_
            rw [← ps]
            exact ih (i + 1) (by omega) (by omega)
  refine R_ic (n := 1) C dX1_pairsIn_0 ci_0 rfl ?_
  refine R_is2 (n := 2) C dX1_pairsIn_1 rfl (Nat.le_of_ble_eq_true rfl) rfl ?_
  refine R_ic (n := 3) C dX1_pairsIn_2 ci_0 rfl ?_
  refine R_is3 (n := 4) C dX1_pairsIn_3 rfl (Nat.le_of_ble_eq_true rfl) rfl ?_
  exact loop (ln.length + 1) 0 (by omega) (by omega)
def aPairs (G : GS) : Int32 := nI (prL (nuz (gS G)) (lnZ (gS G) (sN (gS G))))
theorem lnZ_25 {σ : WS} (I : Inv σ) : (lnZ σ (sN σ)).length ≤ 25 := Nat.le_trans (lnZ_len _) (Nat.mul_le_mul I.n5 I.n5)
set_option maxRecDepth 20000 in
set_option maxHeartbeats 4000000 in
theorem p_pairs (l : Launch) (D : va_G) (cA : Nat → ClassId) (r : Nat → Nat) {h : Hp} {G : GS} (R : RCl G h) (I : InvG G) : Cn l D cA yX10_pairs cX10_pairs 1 (some .int) 3 0 0 [.ref (r 0)] (LY r) h (pG (some (.int (aPairs G))) (LY r) (fun h' => RCl G h' ∧ FrC h h')) := by
  refine Cn.of (lv := [some (.ref (r 0))]) (by decide +kernel) (Nat.le_of_ble_eq_true rfl) rfl (fun X hnm C CR => ?_)
  refine R_al0 (n := 1) C dX10_pairs_0 rfl ?_
  refine M_getR (n := 4) C fl_X10_69 dX10_pairs_1 rfl rfl rfl ?_
  refine R_al0 (n := 5) C dX10_pairs_4 rfl ?_
  refine M_getR (n := 8) C fl_X10_12 dX10_pairs_5 rfl rfl rfl ?_
  refine M_callV (n := 11) C (c_survey _ _ _ r R.1 I.1) mw_X1_survey ml_X10_231 iv_X1_survey dX10_pairs_8 rfl rfl rfl rfl (Nat.le_of_ble_eq_true rfl) ⟨Nat.le_of_ble_eq_true rfl, Nat.le_of_ble_eq_true rfl⟩ ⟨Nat.le_refl _, Nat.le_refl _⟩ rfl (pGv (fun h1 q1 => ?_))
  have W : RCl G h1 ∧ FrC h h1 := ⟨R.s q1.2, q1.2.c⟩
  refine R_al0 (n := 12) C dX10_pairs_11 rfl ?_
  refine M_getR (n := 15) C fl_X10_69 dX10_pairs_12 rfl rfl rfl ?_
  refine R_al0 (n := 16) C dX10_pairs_15 rfl ?_
  refine M_getR (n := 19) C fl_X10_12 dX10_pairs_16 rfl rfl rfl ?_
  refine M_callV (n := 22) C (c_number _ _ _ r W.1.1 I.1) mw_X9_number ml_X10_234 iv_X9_number dX10_pairs_19 rfl rfl rfl rfl (Nat.le_of_ble_eq_true rfl) ⟨Nat.le_of_ble_eq_true rfl, Nat.le_of_ble_eq_true rfl⟩ ⟨Nat.le_refl _, Nat.le_refl _⟩ rfl (pEs ?_)
  refine M_callV (n := 25) C (c_pairsIn _ _ _ r q1.1 (lnZ_25 I.1) (lnZ_ok _ (Nat.le_refl _)) I.1.n5 (nuz_1024 I.1)) mw_X1_pairsIn ml_X10_237 iv_X1_pairsIn dX10_pairs_22 rfl rfl rfl rfl (Nat.le_of_ble_eq_true rfl) ⟨Nat.le_of_ble_eq_true rfl, Nat.le_of_ble_eq_true rfl⟩ ⟨Nat.le_refl _, Nat.le_refl _⟩ rfl (pEs ?_)
  refine R_iret C CR (Nat.zero_le _) (Nat.zero_le _) dX10_pairs_25 ?_
  exact ⟨rfl, rfl, W⟩
