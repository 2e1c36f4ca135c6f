def stp (σ : WS) (p : Nat × Nat) (w : Nat) : Nat × Nat := (trz σ w p.1, p.2 + tqz σ w p.1)
def rcq (σ : WS) (W x c : Nat) : Prop := ∃ ws : List Nat, (∀ w ∈ ws, w < 6 ∧ W.testBit w = true) ∧ ws.foldl (stp σ) (nuz σ, 0) = (x, c)
theorem rcq_0 {σ : WS} {W : Nat} : rcq σ W (nuz σ) 0 := ⟨[], fun w hw => absurd hw List.not_mem_nil, rfl⟩
theorem rcq_s {σ : WS} {W x c w : Nat} (h : rcq σ W x c) (hw : w < 6) (hb : W.testBit w = true) : rcq σ W (trz σ w x) (c + tqz σ w x) := by
  obtain ⟨ws, h1, h2⟩ := h
  refine ⟨ws ++ [w], fun v hv => ?_, ?_⟩
  · rcases List.mem_append.mp hv with q | q
    · exact h1 v q
    · rw [List.mem_singleton.mp q]; exact ⟨hw, hb⟩
  · rw [List.foldl_append, h2]
    rfl
theorem rcq_ind {σ : WS} {W : Nat} {Q : Nat → Nat → Prop} (h0 : Q (nuz σ) 0) (hs : ∀ x c w, Q x c → w < 6 → W.testBit w = true → Q (trz σ w x) (c + tqz σ w x)) {x c : Nat} (h : rcq σ W x c) : Q x c := by
  obtain ⟨ws, h1, h2⟩ := h
  have key : ∀ (l : List Nat) (p : Nat × Nat), Q p.1 p.2 → (∀ w ∈ l, w < 6 ∧ W.testBit w = true) → Q (l.foldl (stp σ) p).1 (l.foldl (stp σ) p).2 := by
    intro l
    induction l with
    | nil => intro p hp _; exact hp
    | cons w t ih =>
      intro p hp hl
      have hw := hl w List.mem_cons_self
      exact ih (stp σ p w) (hs p.1 p.2 w hp hw.1 hw.2) (fun v hv => hl v (List.mem_cons_of_mem _ hv))
  have := key ws (nuz σ, 0) h0 h1
  rw [h2] at this
  exact this
theorem rcq_lt {σ : WS} (J : Inv σ) {W x c : Nat} (h : rcq σ W x c) : x < 2 ^ (2 * sN σ) := rcq_ind (Q := fun x _ => x < 2 ^ (2 * sN σ)) (nuz_lt J) (fun _ _ _ _ _ _ => trz_lt) h
def tiA (σ : WS) (W s b : Nat) (v : Int32) : Prop := (∃ c x, v = nI c ∧ c < 2 ^ 31 ∧ rcq σ W x c ∧ soS (sN σ) s x b = true ∧ ∀ y d, rcq σ W y d → soS (sN σ) s y b = true → c ≤ d) ∨ (v = -6 ∧ ∀ y d, rcq σ W y d → soS (sN σ) s y b = false)
theorem tiA_un {σ : WS} {W s b : Nat} {v u : Int32} (h : tiA σ W s b v) (g : tiA σ W s b u) : v = u := by
  rcases h with ⟨c, x, rfl, _, h1, h2, h3⟩ | ⟨rfl, h1⟩
  · rcases g with ⟨d, y, rfl, _, g1, g2, g3⟩ | ⟨rfl, g1⟩
    · rw [Nat.le_antisymm (h3 y d g1 g2) (g3 x c h1 h2)]
    · rw [g1 x c h1] at h2; cases h2
  · rcases g with ⟨d, y, rfl, _, g1, g2, g3⟩ | ⟨rfl, g1⟩
    · rw [h1 y d g1] at g2; cases g2
    · rfl
noncomputable def tiV (σ : WS) (W s b : Nat) : Int32 := Classical.epsilon (tiA σ W s b)
theorem tiV_eq {σ : WS} {W s b : Nat} {v : Int32} (h : tiA σ W s b v) : tiV σ W s b = v := tiA_un (Classical.epsilon_spec ⟨v, h⟩) h
noncomputable def aTired (G : GS) (s b : Int32) : Int32 := if okA (gS G) s b then tiV (gS G) (sKn (gS G)) (cl s) (cl b) else -2
theorem tz_0 {σ : WS} {k l : Nat} (hl : l < 4) : tz σ k l 0 = l := by
  unfold tz
  split <;> omega
theorem tqs_0 {σ : WS} {w l : Nat} : ∀ {n : Nat}, tqs σ w l n = 0 → ∀ k, k < n → qz σ w k (wy l k) = 0
  | 0, _, k, hk => absurd hk (Nat.not_lt_zero _)
  | n + 1, h, k, hk => by
    rw [tqs] at h
    by_cases e : k = n
    · subst e; omega
    · exact tqs_0 (n := n) (by omega) k (by omega)
theorem nmz_wy {l : Nat} : ∀ {n : Nat}, nmz (wy l) n = l % 2 ^ (2 * n)
  | 0 => by rw [Nat.mul_zero, Nat.pow_zero, Nat.mod_one]; rfl
  | n + 1 => by
    rw [nmz, nmz_wy, wy, show 2 * (n + 1) = 2 * n + 2 by omega, Nat.pow_add, Nat.mod_mul, Nat.mul_comm (2 ^ (2 * n))]
theorem trz_0 {σ : WS} {w l : Nat} (hl : l < 2 ^ (2 * sN σ)) (h : tqz σ w l = 0) : trz σ w l = l := by
  have e : trz σ w l = nmz (wy l) (sN σ) := nmz_cong (fun k hk => by rw [trg, tqs_0 h k hk, tz_0 (wy_lt l k)])
  rw [e, nmz_wy, Nat.mod_eq_of_lt hl]
def chz (σ : WS) (W y : Nat) (D : Nat → Nat) : Nat → (Nat → Nat) × Nat
  | 0 => (D, 0)
  | k + 1 => if W.testBit k = true then (if (chz σ W y D k).1 (trz σ k y) = 0 ∨ (chz σ W y D k).1 y - 1 + tqz σ k y < (chz σ W y D k).1 (trz σ k y) - 1 then (updN (chz σ W y D k).1 (trz σ k y) ((chz σ W y D k).1 y - 1 + tqz σ k y + 1), max (chz σ W y D k).2 ((chz σ W y D k).1 y - 1 + tqz σ k y)) else chz σ W y D k) else chz σ W y D k
def CH (σ : WS) (W y k : Nat) (D D' : Nat → Nat) (m j : Nat) : Prop := (∀ x, 0 < D x → D x ≤ k + 1 → D' x = D x) ∧ (∀ x, 0 < D x → 0 < D' x ∧ D' x ≤ D x) ∧ (∀ x, D' x = D x ∨ ∃ w, w < 6 ∧ W.testBit w = true ∧ x = trz σ w y ∧ D' x = k + tqz σ w y + 1 ∧ 0 < tqz σ w y ∧ D' x ≤ m + 1) ∧ (∀ w, w < j → W.testBit w = true → 0 < D' (trz σ w y) ∧ D' (trz σ w y) ≤ k + 1 + tqz σ w y) ∧ m ≤ k + 15
theorem chz_ok {σ : WS} (J : Inv σ) {W y k : Nat} {D : Nat → Nat} (hy : y < 2 ^ (2 * sN σ)) (hd : D y = k + 1) : ∀ {j : Nat}, j ≤ 6 → CH σ W y k D (chz σ W y D j).1 (chz σ W y D j).2 j
  | 0, _ => ⟨fun _ _ _ => rfl, fun x hx => ⟨hx, Nat.le_refl _⟩, fun _ => Or.inl rfl, fun w hw => absurd hw (Nat.not_lt_zero _), Nat.zero_le _⟩
  | j + 1, hj => by
    have ih := chz_ok J (W := W) hy hd (j := j) (by omega)
    rw [chz]
    obtain ⟨Z, hZ⟩ : ∃ Z, chz σ W y D j = Z := ⟨_, rfl⟩
    rw [hZ] at ih ⊢
    obtain ⟨c1, c2, c3, c4, c5⟩ := ih
    have dy : Z.1 y = k + 1 := by rw [c1 y (by omega) (by omega), hd]
    have q15 := tqz_le J (w := j) (l := y) (by omega)
    by_cases b : W.testBit j = true
    · rw [if_pos b, dy]
      obtain ⟨t, ht⟩ : ∃ t, trz σ j y = t := ⟨_, rfl⟩
      rw [ht]
      by_cases c : Z.1 t = 0 ∨ k + 1 - 1 + tqz σ j y < Z.1 t - 1
      · rw [if_pos c]
        have q0 : 0 < tqz σ j y := by
          apply Nat.pos_of_ne_zero
          intro q
          have := trz_0 hy q
          rw [ht] at this
          rw [this, dy] at c
          omega
        refine ⟨fun x x1 x2 => ?_, fun x x1 => ?_, fun x => ?_, fun w w1 w2 => ?_, ?_⟩
        · show updN _ _ _ x = _
          have := c1 x x1 x2
          rw [updN]
          by_cases e : x = t
          · rw [e] at this x1 x2
            omega
          · rw [if_neg e]; exact this
        · show 0 < updN _ _ _ x ∧ updN _ _ _ x ≤ _
          have := c2 x x1
          rw [updN]
          by_cases e : x = t
          · rw [if_pos e]
            rw [e] at this
            rw [e]
            omega
          · rw [if_neg e]; exact this
        · show updN _ _ _ x = _ ∨ ∃ w, w < 6 ∧ W.testBit w = true ∧ x = trz σ w y ∧ updN _ _ _ x = _ ∧ 0 < tqz σ w y ∧ updN _ _ _ x ≤ _
          rw [updN]
          by_cases e : x = t
          · rw [if_pos e]
            exact Or.inr ⟨j, by omega, b, by rw [e, ht], by omega, q0, by omega⟩
          · rw [if_neg e]
            rcases c3 x with q | ⟨w, w1, w2, w3, w4, w5, w6⟩
            · exact Or.inl q
            · exact Or.inr ⟨w, w1, w2, w3, w4, w5, by omega⟩
        · show 0 < updN _ _ _ (trz σ w y) ∧ updN _ _ _ (trz σ w y) ≤ _
          rw [updN]
          by_cases e : trz σ w y = t
          · rw [if_pos e]
            by_cases e2 : w = j
            · rw [e2]; omega
            · have := c4 w (by omega) w2
              rw [e] at this
              omega
          · rw [if_neg e]
            have ne : w ≠ j := fun q => e (by rw [q, ht])
            exact c4 w (by omega) w2
        · show max _ _ ≤ _
          omega
      · rw [if_neg c]
        refine ⟨c1, c2, c3, fun w w1 w2 => ?_, c5⟩
        by_cases e2 : w = j
        · rw [e2, ht]; omega
        · exact c4 w (by omega) w2
    · rw [if_neg b]
      refine ⟨c1, c2, c3, fun w w1 w2 => ?_, c5⟩
      by_cases e2 : w = j
      · rw [e2] at w2; exact absurd w2 b
      · exact c4 w (by omega) w2
def TQ (σ : WS) (W s b k y mx : Nat) (D : Nat → Nat) : Prop := D (nuz σ) = 1 ∧ (∀ x c, D x = c + 1 → rcq σ W x c) ∧ (∀ x c, D x = c + 1 → 0 < c → ∃ z d, D z = d + 1 ∧ d ≤ k ∧ d < c ∧ c ≤ d + 15) ∧ (∀ x, 0 < D x → D x ≤ k ∨ (D x = k + 1 ∧ x < y) → (∀ w, w < 6 → W.testBit w = true → 0 < D (trz σ w x) ∧ D (trz σ w x) ≤ D x + tqz σ w x) ∧ soS (sN σ) s x b = false) ∧ (∀ x, D x ≤ mx + 1) ∧ mx ≤ 15360
theorem cnz_mono {p q : Nat → Bool} (h : ∀ k, p k = true → q k = true) : ∀ {n : Nat}, cnz p n ≤ cnz q n
  | 0 => Nat.le_refl _
  | n + 1 => by
    have ih := cnz_mono h (n := n)
    have := h n
    rw [cnz, cnz]
    split
    · rename_i c
      rw [if_pos (this c)]
      omega
    · omega
theorem cnz_more {p q : Nat → Bool} (h : ∀ k, p k = true → q k = true) {y : Nat} (py : p y = false) (qy : q y = true) : ∀ {n : Nat}, y < n → cnz p n + 1 ≤ cnz q n
  | 0, hn => absurd hn (Nat.not_lt_zero _)
  | n + 1, hn => by
    rw [cnz, cnz]
    by_cases e : y = n
    · subst e
      rw [py, qy, if_pos rfl, if_neg (by decide)]
      have := cnz_mono h (n := y)
      omega
    · have ih := cnz_more h py qy (n := n) (by omega)
      have := h n
      split
      · rename_i c
        rw [if_pos (this c)]
        omega
      · omega
theorem TQ.far {σ : WS} (J : Inv σ) {W s b k y mx : Nat} {D : Nat → Nat} (T : TQ σ W s b k y mx D) : ∀ c x, D x = c + 1 → c ≤ 15 * 1023 := by
  have l10 : ∀ x, 0 < D x → x < 1024 := fun x hx => by
    obtain ⟨c, hc⟩ : ∃ c, D x = c + 1 := ⟨D x - 1, by omega⟩
    exact Nat.lt_of_lt_of_le (rcq_lt J (T.2.1 x c hc)) (p2_10 J.n5)
  have key : ∀ N c x, c < N → D x = c + 1 → c ≤ 15 * cnz (fun z => decide (0 < D z ∧ D z ≤ c)) 1024 := by
    intro N
    induction N with
    | zero => intro c x h; omega
    | succ N ih =>
      intro c x h1 h2
      by_cases c0 : c = 0
      · omega
      · obtain ⟨z, d, z1, z2, z3, z4⟩ := T.2.2.1 x c h2 (by omega)
        have h3 := ih d z (by omega) z1
        have h4 := cnz_more (p := fun z => decide (0 < D z ∧ D z ≤ d)) (q := fun z => decide (0 < D z ∧ D z ≤ c)) (fun k hk => by simp at hk ⊢; omega) (y := z) (by simp; omega) (by simp; omega) (l10 z (by omega))
        omega
  intro c x h
  have h1 := key (c + 1) c x (by omega) h
  have h2 := cnz_lt (p := fun z => decide (0 < D z ∧ D z ≤ c)) (k := x) (by simp; omega) (l10 x (by omega))
  omega
theorem TQ.skip {σ : WS} {W s b k y mx : Nat} {D : Nat → Nat} (T : TQ σ W s b k y mx D) (h : D y ≠ k + 1) : TQ σ W s b k (y + 1) mx D :=
  ⟨T.1, T.2.1, T.2.2.1, fun x x1 x2 => T.2.2.2.1 x x1 (by
    rcases x2 with q | ⟨q1, q2⟩
    · exact Or.inl q
    · refine Or.inr ⟨q1, ?_⟩
      have : x ≠ y := fun e => h (by rw [← e]; exact q1)
      omega), T.2.2.2.2⟩
theorem TQ.next {σ : WS} (J : Inv σ) {W s b k mx : Nat} {D : Nat → Nat} (T : TQ σ W s b k (2 ^ (2 * sN σ)) mx D) : TQ σ W s b (k + 1) 0 mx D :=
  ⟨T.1, T.2.1, fun x c h1 h2 => by
    obtain ⟨z, d, z1, z2, z3⟩ := T.2.2.1 x c h1 h2
    exact ⟨z, d, z1, by omega, z3⟩, fun x x1 x2 => T.2.2.2.1 x x1 (by
    rcases x2 with q | ⟨q1, q2⟩
    · by_cases e : D x = k + 1
      · exact Or.inr ⟨e, rcq_lt J (T.2.1 x k e)⟩
      · exact Or.inl (by omega)
    · omega), T.2.2.2.2⟩
theorem TQ.relax {σ : WS} (J : Inv σ) {W s b k y mx : Nat} {D : Nat → Nat} (T : TQ σ W s b k y mx D) (hd : D y = k + 1) (so : soS (sN σ) s y b = false) : TQ σ W s b k (y + 1) (max mx (chz σ W y D 6).2) (chz σ W y D 6).1 := by
  have hy := rcq_lt J (T.2.1 y k hd)
  obtain ⟨c1, c2, c3, c4, c5⟩ := chz_ok J (W := W) hy hd (j := 6) (Nat.le_refl _)
  have fr := T.far J k y hd
  obtain ⟨D', hD⟩ : ∃ D', (chz σ W y D 6).1 = D' := ⟨_, rfl⟩
  obtain ⟨m, hm⟩ : ∃ m, (chz σ W y D 6).2 = m := ⟨_, rfl⟩
  rw [hD] at c1 c2 c3 c4
  rw [hm] at c3 c5
  rw [hD, hm]
  obtain ⟨t1, t2, t3, t4, t5, t6⟩ := T
  refine ⟨by rw [c1 _ (by omega) (by omega), t1], fun x c h => ?_, fun x c h h0 => ?_, fun x x1 x2 => ?_, fun x => ?_, by omega⟩
  · rcases c3 x with q | ⟨w, w1, w2, w3, w4, w5, w6⟩
    · exact t2 x c (by omega)
    · have := rcq_s (t2 y k hd) w1 w2
      rw [w3]
      rw [show c = k + tqz σ w y by omega]
      exact this
  · rcases c3 x with q | ⟨w, w1, w2, w3, w4, w5, w6⟩
    · obtain ⟨z, d, z1, z2, z3, z4⟩ := t3 x c (by omega) h0
      exact ⟨z, d, by rw [c1 z (by omega) (by omega), z1], z2, z3, z4⟩
    · have q15 := tqz_le J (w := w) (l := y) w1
      exact ⟨y, k, by rw [c1 y (by omega) (by omega), hd], Nat.le_refl _, by omega, by omega⟩
  · have dx : D' x = D x := by
      rcases c3 x with q | ⟨w, w1, w2, w3, w4, w5, w6⟩
      · exact q
      · omega
    by_cases e : x = y
    · subst e
      refine ⟨fun w w1 w2 => ?_, so⟩
      rw [dx, hd]
      exact c4 w w1 w2
    · obtain ⟨r1, r2⟩ := t4 x (by omega) (by omega)
      refine ⟨fun w w1 w2 => ?_, r2⟩
      have a := r1 w w1 w2
      have b := c2 _ a.1
      omega
  · rcases c3 x with q | ⟨w, w1, w2, w3, w4, w5, w6⟩
    · have := t5 x; omega
    · omega
theorem TQ.hit {σ : WS} {W s b k y mx : Nat} {D : Nat → Nat} (T : TQ σ W s b k y mx D) (hd : D y = k + 1) (so : soS (sN σ) s y b = true) : tiA σ W s b (nI k) := by
  obtain ⟨t1, t2, t3, t4, t5, t6⟩ := T
  have := t5 y
  refine Or.inl ⟨k, y, rfl, by omega, t2 y k hd, so, fun x d h hs => ?_⟩
  apply Nat.le_of_not_lt
  intro q
  have key := rcq_ind (W := W) (Q := fun x d => d < k → 0 < D x ∧ D x ≤ d + 1) (fun _ => by omega) (fun x c w h w1 w2 hc => by
    obtain ⟨h1, h2⟩ := h (by omega)
    have a := (t4 x h1 (by omega)).1 w w1 w2
    omega) h q
  have := (t4 x key.1 (by omega)).2
  rw [this] at hs
  cases hs
theorem TQ.fin {σ : WS} {W s b k y mx : Nat} {D : Nat → Nat} (T : TQ σ W s b k y mx D) (h : mx < k) : tiA σ W s b (-6) := by
  obtain ⟨t1, t2, t3, t4, t5, t6⟩ := T
  have pr : ∀ x, 0 < D x → D x ≤ k := fun x _ => by have := t5 x; omega
  refine Or.inr ⟨rfl, fun x d h => ?_⟩
  have key := rcq_ind (W := W) (Q := fun x _ => 0 < D x) (by omega) (fun x c w h w1 w2 => ((t4 x h (Or.inl (pr x h))).1 w w1 w2).1) h
  exact (t4 x key (Or.inl (pr x key))).2
