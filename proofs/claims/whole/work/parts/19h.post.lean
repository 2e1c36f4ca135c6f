def rsp (σ : WS) (s b : Nat) (p : Nat × Nat) (w : Nat) : Nat × Nat := (trz σ w p.1, p.2 ||| drz s (trz σ w p.1) b 5)
def rch (σ : WS) (W s b u x q : Nat) : Prop := ∃ ws : List Nat, ws.length = u ∧ (∀ w ∈ ws, w < 6 ∧ W.testBit w = true) ∧ ws.foldl (rsp σ s b) (nuz σ, drz s (nuz σ) b 5) = (x, q)
theorem rch_0 {σ : WS} {W s b x q : Nat} : rch σ W s b 0 x q ↔ x = nuz σ ∧ q = drz s (nuz σ) b 5 := by
  constructor
  · rintro ⟨ws, h1, _, h3⟩
    rw [List.length_eq_zero_iff.mp h1] at h3
    have h4 : (nuz σ, drz s (nuz σ) b 5) = (x, q) := h3
    rw [Prod.mk.injEq] at h4
    exact ⟨h4.1.symm, h4.2.symm⟩
  · rintro ⟨rfl, rfl⟩
    exact ⟨[], rfl, fun w hw => absurd hw List.not_mem_nil, rfl⟩
theorem rch_s {σ : WS} {W s b u x q : Nat} : rch σ W s b (u + 1) x q ↔ ∃ y p w, rch σ W s b u y p ∧ w < 6 ∧ W.testBit w = true ∧ x = trz σ w y ∧ q = p ||| drz s (trz σ w y) b 5 := by
  constructor
  · rintro ⟨ws, h1, h2, h3⟩
    have hne : ws ≠ [] := fun e => by rw [e] at h1; cases h1
    obtain ⟨vs, w, rfl⟩ : ∃ vs w, ws = vs ++ [w] := ⟨ws.dropLast, ws.getLast hne, (List.dropLast_concat_getLast hne).symm⟩
    rw [List.length_append] at h1
    rw [List.foldl_append] at h3
    have hw := h2 w (List.mem_append.mpr (Or.inr (List.mem_singleton.mpr rfl)))
    obtain ⟨y, p, hyp⟩ : ∃ y p, vs.foldl (rsp σ s b) (nuz σ, drz s (nuz σ) b 5) = (y, p) := ⟨_, _, rfl⟩
    rw [hyp] at h3
    have h4 : (trz σ w y, p ||| drz s (trz σ w y) b 5) = (x, q) := h3
    rw [Prod.mk.injEq] at h4
    have h1' : vs.length + 1 = u + 1 := h1
    exact ⟨y, p, w, ⟨vs, by omega, fun v hv => h2 v (List.mem_append.mpr (Or.inl hv)), hyp⟩, hw.1, hw.2, h4.1.symm, h4.2.symm⟩
  · rintro ⟨y, p, w, ⟨vs, h1, h2, h3⟩, w1, w2, rfl, rfl⟩
    refine ⟨vs ++ [w], by rw [List.length_append, h1]; rfl, fun v hv => ?_, by rw [List.foldl_append, h3]; rfl⟩
    rcases List.mem_append.mp hv with g | g
    · exact h2 v g
    · rw [List.mem_singleton.mp g]; exact ⟨w1, w2⟩
theorem rch_lt {σ : WS} (J : Inv σ) {W s b : Nat} : ∀ {u x q : Nat}, rch σ W s b u x q → x < 2 ^ (2 * sN σ) ∧ q < 32
  | 0, x, q, h => by
    obtain ⟨rfl, rfl⟩ := rch_0.mp h
    exact ⟨nuz_lt J, drz_lt⟩
  | u + 1, x, q, h => by
    obtain ⟨y, p, w, h1, _, _, rfl, rfl⟩ := rch_s.mp h
    exact ⟨trz_lt, Nat.or_lt_two_pow (n := 5) (rch_lt J h1).2 drz_lt⟩
def roA (σ : WS) (W s b : Nat) (v : Int32) : Prop := (∃ u x, v = nI (u + pcz s) ∧ rch σ W s b u x s ∧ ∀ t y, rch σ W s b t y s → u ≤ t) ∨ (v = -6 ∧ ∀ t y, ¬ rch σ W s b t y s)
theorem roA_un {σ : WS} {W s b : Nat} {v u : Int32} (h : roA σ W s b v) (g : roA σ W s b u) : v = u := by
  rcases h with ⟨c, x, rfl, h2, h3⟩ | ⟨rfl, h1⟩
  · rcases g with ⟨d, y, rfl, g2, g3⟩ | ⟨rfl, g1⟩
    · rw [Nat.le_antisymm (h3 d y g2) (g3 c x h2)]
    · exact absurd h2 (g1 c x)
  · rcases g with ⟨d, y, rfl, g2, g3⟩ | ⟨rfl, g1⟩
    · exact absurd g2 (h1 d y)
    · rfl
noncomputable def roV (σ : WS) (W s b : Nat) : Int32 := Classical.epsilon (roA σ W s b)
theorem roV_eq {σ : WS} {W s b : Nat} {v : Int32} (h : roA σ W s b v) : roV σ W s b = v := roA_un (Classical.epsilon_spec ⟨v, h⟩) h
theorem heW_t {σ : WS} {W x y q : Nat} {nw f : Nat → Nat} : ∀ {k : Nat}, (heW σ W nw x f k y).testBit q = true ↔ (f y).testBit q = true ∨ ∃ w, w < k ∧ W.testBit w = true ∧ trz σ w x = y ∧ (nw x).testBit q = true
  | 0 => ⟨fun h => Or.inl h, fun h => by
    rcases h with h | ⟨w, h, _⟩
    · exact h
    · exact absurd h (Nat.not_lt_zero _)⟩
  | k + 1 => by
    have ih := heW_t (σ := σ) (W := W) (x := x) (y := y) (q := q) (nw := nw) (f := f) (k := k)
    rw [heW]
    by_cases c : W.testBit k = true
    · rw [if_pos c, updN]
      by_cases e : y = trz σ k x
      · rw [if_pos e, Nat.testBit_or, Bool.or_eq_true, ← e, ih]
        constructor
        · rintro ((h | ⟨w, h1, h2⟩) | h)
          · exact Or.inl h
          · exact Or.inr ⟨w, by omega, h2⟩
          · exact Or.inr ⟨k, by omega, c, e.symm, h⟩
        · rintro (h | ⟨w, h1, h2, h3, h4⟩)
          · exact Or.inl (Or.inl h)
          · exact Or.inr h4
      · rw [if_neg e, ih]
        constructor
        · rintro (h | ⟨w, h1, h2⟩)
          · exact Or.inl h
          · exact Or.inr ⟨w, by omega, h2⟩
        · rintro (h | ⟨w, h1, h2, h3, h4⟩)
          · exact Or.inl h
          · exact Or.inr ⟨w, by
              have : w ≠ k := fun g => e (by rw [← g]; exact h3.symm)
              omega, h2, h3, h4⟩
    · rw [if_neg c, ih]
      constructor
      · rintro (h | ⟨w, h1, h2⟩)
        · exact Or.inl h
        · exact Or.inr ⟨w, by omega, h2⟩
      · rintro (h | ⟨w, h1, h2, h3⟩)
        · exact Or.inl h
        · exact Or.inr ⟨w, by
            have : w ≠ k := fun g => c (by rw [← g]; exact h2)
            omega, h2, h3⟩
theorem heX_t {σ : WS} {W y q : Nat} {nw : Nat → Nat} : ∀ {n : Nat}, (heX σ W nw n y).testBit q = true ↔ ∃ x w, x < n ∧ w < 6 ∧ W.testBit w = true ∧ trz σ w x = y ∧ (nw x).testBit q = true
  | 0 => by
    constructor
    · intro h
      have h' : (0 : Nat).testBit q = true := h
      rw [Nat.zero_testBit] at h'
      cases h'
    · rintro ⟨x, w, h, _⟩
      exact absurd h (Nat.not_lt_zero _)
  | n + 1 => by
    have ih := heX_t (σ := σ) (W := W) (y := y) (q := q) (nw := nw) (n := n)
    rw [heX]
    by_cases c : nw n = 0
    · rw [if_pos c, ih]
      constructor
      · rintro ⟨x, w, h1, h2⟩
        exact ⟨x, w, by omega, h2⟩
      · rintro ⟨x, w, h1, h2, h3, h4, h5⟩
        refine ⟨x, w, ?_, h2, h3, h4, h5⟩
        have : x ≠ n := fun g => by
          rw [g, c, Nat.zero_testBit] at h5
          cases h5
        omega
    · rw [if_neg c, heW_t, ih]
      constructor
      · rintro (⟨x, w, h1, h2⟩ | ⟨w, h1, h2⟩)
        · exact ⟨x, w, by omega, h2⟩
        · exact ⟨n, w, by omega, h1, h2⟩
      · rintro ⟨x, w, h1, h2⟩
        by_cases e : x = n
        · rw [e] at h2; exact Or.inr ⟨w, h2⟩
        · exact Or.inl ⟨x, w, by omega, h2⟩
theorem heX_lt {σ : WS} {W y n : Nat} {nw : Nat → Nat} (h : ∀ x, nw x < 2 ^ 32) : heX σ W nw n y < 2 ^ 32 := by
  apply Nat.lt_pow_two_of_testBit
  intro i hi
  cases e : (heX σ W nw n y).testBit i with
  | false => rfl
  | true =>
    obtain ⟨x, w, _, _, _, _, h5⟩ := heX_t.mp e
    rw [Nat.testBit_lt_two_pow (Nat.lt_of_lt_of_le (h x) (Nat.pow_le_pow_right (by decide) hi))] at h5
    cases h5
theorem knz_t {s b x q : Nat} {nx be : Nat → Nat} (h : nx x < 2 ^ 32) : (knz s b nx be x).testBit q = true ↔ (∃ p, (nx x).testBit p = true ∧ p ||| drz s x b 5 = q) ∧ (be x).testBit q = false ∧ q < 32 := by
  rw [knz, Nat.testBit_and, Nat.testBit_xor, M32_t, Bool.and_eq_true, wdz_t]
  have lt : ∀ p, (nx x).testBit p = true → p < 32 := fun p hp => by
    apply Nat.lt_of_not_le
    intro g
    rw [Nat.testBit_lt_two_pow (Nat.lt_of_lt_of_le h (Nat.pow_le_pow_right (by decide) g))] at hp
    cases hp
  constructor
  · rintro ⟨⟨p, h1, h2, h3⟩, h4⟩
    have q32 : q < 32 := by
      rw [← h3]
      exact Nat.or_lt_two_pow (n := 5) h1 drz_lt
    rw [decide_eq_true q32] at h4
    refine ⟨⟨p, h2, h3⟩, ?_, q32⟩
    cases e : (be x).testBit q with
    | false => rfl
    | true => rw [e] at h4; cases h4
  · rintro ⟨⟨p, h2, h3⟩, h4, q32⟩
    refine ⟨⟨p, lt p h2, h2, h3⟩, ?_⟩
    rw [h4, decide_eq_true q32]
    rfl
def pct (be : Nat → Nat) : Nat := cnz (fun i => (be (i / 32)).testBit (i % 32)) 32768
def PQ (σ : WS) (W s b t : Nat) (nw be : Nat → Nat) : Prop := (∀ x q, x < 2 ^ (2 * sN σ) → (nw x).testBit q = true → rch σ W s b t x q ∧ (be x).testBit q = true ∧ ∀ u, rch σ W s b u x q → t ≤ u) ∧ (∀ x q, x < 2 ^ (2 * sN σ) → (be x).testBit q = true → (nw x).testBit q = false → (∀ w, w < 6 → W.testBit w = true → (be (trz σ w x)).testBit (q ||| drz s (trz σ w x) b 5) = true) ∧ q ≠ s) ∧ (∀ u x q, u ≤ t → rch σ W s b u x q → (be x).testBit q = true)
theorem beU_t {be kn : Nat → Nat} {x q : Nat} : (beU be kn x).testBit q = true ↔ (be x).testBit q = true ∨ (kn x).testBit q = true := by
  rw [beU, Nat.testBit_or, Bool.or_eq_true]
theorem PQ.step {σ : WS} (J : Inv σ) {W s b t : Nat} {nw be : Nat → Nat} (P : PQ σ W s b t nw be) (hn : ∀ x, nw x < 2 ^ 32) (ns : ∀ x, x < 2 ^ (2 * sN σ) → (nw x).testBit s = false) : PQ σ W s b (t + 1) (knz s b (heX σ W nw (2 ^ (2 * sN σ))) be) (beU be (knz s b (heX σ W nw (2 ^ (2 * sN σ))) be)) := by
  obtain ⟨p1, p2, p3⟩ := P
  have hl : ∀ y, heX σ W nw (2 ^ (2 * sN σ)) y < 2 ^ 32 := fun y => heX_lt hn
  obtain ⟨N, hN⟩ : ∃ N, knz s b (heX σ W nw (2 ^ (2 * sN σ))) be = N := ⟨_, rfl⟩
  have kt : ∀ x q, (N x).testBit q = true ↔ (∃ p, (heX σ W nw (2 ^ (2 * sN σ)) x).testBit p = true ∧ p ||| drz s x b 5 = q) ∧ (be x).testBit q = false ∧ q < 32 := fun x q => by rw [← hN]; exact knz_t (hl x)
  rw [hN]
  have c6 : ∀ x q, x < 2 ^ (2 * sN σ) → (beU be N x).testBit q = true → (N x).testBit q = false → (∀ w, w < 6 → W.testBit w = true → (beU be N (trz σ w x)).testBit (q ||| drz s (trz σ w x) b 5) = true) ∧ q ≠ s := by
    intro x q hx h1 h2
    have hb : (be x).testBit q = true := by
      rcases beU_t.mp h1 with g | g
      · exact g
      · rw [h2] at g; cases g
    cases c : (nw x).testBit q with
    | false =>
      obtain ⟨r1, r2⟩ := p2 x q hx hb c
      exact ⟨fun w w1 w2 => beU_t.mpr (Or.inl (r1 w w1 w2)), r2⟩
    | true =>
      refine ⟨fun w w1 w2 => beU_t.mpr ?_, fun e => by rw [e, ns x hx] at c; cases c⟩
      cases g : (be (trz σ w x)).testBit (q ||| drz s (trz σ w x) b 5) with
      | true => exact Or.inl rfl
      | false =>
        have q32 := (rch_lt J (p1 x q hx c).1).2
        exact Or.inr ((kt _ _).mpr ⟨⟨q, heX_t.mpr ⟨x, w, hx, w1, w2, rfl, c⟩, rfl⟩, g, Nat.or_lt_two_pow (n := 5) q32 drz_lt⟩)
  refine ⟨fun x q hx h => ?_, c6, fun u x q hu h => ?_⟩
  · obtain ⟨⟨p, h1, h2⟩, h3, _⟩ := (kt x q).mp h
    obtain ⟨y, w, y1, w1, w2, rfl, h5⟩ := heX_t.mp h1
    refine ⟨rch_s.mpr ⟨y, p, w, (p1 y p y1 h5).1, w1, w2, rfl, h2.symm⟩, beU_t.mpr (Or.inr h), fun u hu => ?_⟩
    apply Nat.lt_of_not_le
    intro g
    rw [p3 u _ q g hu] at h3
    cases h3
  · by_cases e : u ≤ t
    · exact beU_t.mpr (Or.inl (p3 u x q e h))
    · obtain rfl : u = t + 1 := by omega
      obtain ⟨y, p, w, h1, w1, w2, rfl, rfl⟩ := rch_s.mp h
      have hb := p3 t y p (Nat.le_refl _) h1
      have hN0 : (N y).testBit p = false := by
        cases g : (N y).testBit p with
        | false => rfl
        | true =>
          have := ((kt y p).mp g).2.1
          rw [hb] at this
          cases this
      exact (c6 y p (rch_lt J h1).1 (beU_t.mpr (Or.inl hb)) hN0).1 w w1 w2
theorem PQ.init {σ : WS} (J : Inv σ) {W s b : Nat} : PQ σ W s b 0 (knz s b (fun x => if x = nuz σ then 1 else 0) (fun _ => 0)) (beU (fun _ => 0) (knz s b (fun x => if x = nuz σ then 1 else 0) (fun _ => 0))) := by
  have kt : ∀ x q, (knz s b (fun x => if x = nuz σ then 1 else 0) (fun _ => 0) x).testBit q = true ↔ x = nuz σ ∧ q = drz s (nuz σ) b 5 := by
    intro x q
    rw [knz_t (by show (if x = nuz σ then 1 else 0) < 2 ^ 32; split <;> decide)]
    constructor
    · rintro ⟨⟨p, h1, h2⟩, _, _⟩
      have h1' : (if x = nuz σ then 1 else 0 : Nat).testBit p = true := h1
      by_cases e : x = nuz σ
      · rw [if_pos e] at h1'
        have p0 : p = 0 := by
          have := Nat.testBit_two_pow (n := 0) (m := p)
          rw [Nat.pow_zero] at this
          rw [this] at h1'
          have := of_decide_eq_true h1'
          omega
        rw [p0, Nat.zero_or, e] at h2
        exact ⟨e, h2.symm⟩
      · rw [if_neg e, Nat.zero_testBit] at h1'
        cases h1'
    · rintro ⟨rfl, rfl⟩
      refine ⟨⟨0, ?_, Nat.zero_or _⟩, Nat.zero_testBit _, drz_lt⟩
      show (if nuz σ = nuz σ then 1 else 0 : Nat).testBit 0 = true
      rw [if_pos rfl]
      rfl
  refine ⟨fun x q hx h => ?_, fun x q hx h1 h2 => ?_, fun u x q hu h => ?_⟩
  · exact ⟨rch_0.mpr ((kt x q).mp h), beU_t.mpr (Or.inr h), fun u _ => Nat.zero_le u⟩
  · rcases beU_t.mp h1 with g | g
    · have g' : (0 : Nat).testBit q = true := g
      rw [Nat.zero_testBit] at g'
      cases g'
    · rw [h2] at g; cases g
  · obtain rfl : u = 0 := by omega
    exact beU_t.mpr (Or.inr ((kt x q).mpr (rch_0.mp h)))
theorem PQ.hit {σ : WS} {W s b t x : Nat} {nw be : Nat → Nat} (P : PQ σ W s b t nw be) (hx : x < 2 ^ (2 * sN σ)) (h : (nw x).testBit s = true) (J : Inv σ) : roA σ W s b (nI (t + pcz s)) := by
  refine Or.inl ⟨t, x, rfl, (P.1 x s hx h).1, fun u y g => ?_⟩
  apply Nat.le_of_not_lt
  intro c
  have hy := (rch_lt J g).1
  have hb := P.2.2 u y s (by omega) g
  cases e : (nw y).testBit s with
  | true => have := (P.1 y s hy e).2.2 u g; omega
  | false => exact (P.2.1 y s hy hb e).2 rfl
theorem PQ.fin {σ : WS} (J : Inv σ) {W s b t : Nat} {nw be : Nat → Nat} (P : PQ σ W s b t nw be) (z : ∀ x, x < 2 ^ (2 * sN σ) → nw x = 0) : roA σ W s b (-6) := by
  have nz : ∀ x q, x < 2 ^ (2 * sN σ) → (nw x).testBit q = false := fun x q hx => by rw [z x hx]; exact Nat.zero_testBit q
  have key : ∀ u x q, rch σ W s b u x q → (be x).testBit q = true := by
    intro u
    induction u with
    | zero => intro x q h; exact P.2.2 0 x q (Nat.zero_le _) h
    | succ u ih =>
      intro x q h
      obtain ⟨y, p, w, h1, w1, w2, rfl, rfl⟩ := rch_s.mp h
      have hy := (rch_lt J h1).1
      exact (P.2.1 y p hy (ih y p h1) (nz y p hy)).1 w w1 w2
  refine Or.inr ⟨rfl, fun u y g => ?_⟩
  have hy := (rch_lt J g).1
  exact (P.2.1 y s hy (key u y s g) (nz y s hy)).2 rfl
theorem pct_le {be : Nat → Nat} : pct be ≤ 32768 := cnz_le
theorem pct_more {be kn : Nat → Nat} {x : Nat} (hx : x < 1024) (hk : kn x < 2 ^ 32) (h0 : kn x ≠ 0) (hd : ∀ q, (kn x).testBit q = true → (be x).testBit q = false) : pct be + 1 ≤ pct (beU be kn) := by
  obtain ⟨q, k, e⟩ := lowb _ h0
  have tq : (kn x).testBit q = true := by rw [e, lowb_t, if_pos (by omega)]; exact decide_eq_true rfl
  have q32 : q < 32 := by
    apply Nat.lt_of_not_le
    intro g
    rw [Nat.testBit_lt_two_pow (Nat.lt_of_lt_of_le hk (Nat.pow_le_pow_right (by decide) g))] at tq
    cases tq
  have d1 : (32 * x + q) / 32 = x := by omega
  have d2 : (32 * x + q) % 32 = q := by omega
  exact cnz_more (fun i hi => beU_t.mpr (Or.inl hi)) (y := 32 * x + q) (by rw [d1, d2]; exact hd q tq) (by rw [d1, d2]; exact beU_t.mpr (Or.inr tq)) (by omega)
