def snz (σ : WS) (f : Nat → Nat) (c m n : Nat) : Bool := alb (fun i => (!decide (sA σ 7 i = c) || decide (f (sA σ 6 i) = sA σ 8 i)) && decide (sA σ 7 i ≤ m)) n
def tkr (σ : WS) (m : Nat) : List Nat → EV → Nat → Bool
  | [], e, c => snz σ e.1 c m (sSg σ)
  | x :: t, e, c => snz σ e.1 c m (sSg σ) && tkr σ m t (hpz σ x e) (c + 1)
theorem snz_iff {σ : WS} {f : Nat → Nat} {c m : Nat} : snz σ f c m (sSg σ) = true ↔ (∀ i, i < sSg σ → sA σ 7 i = c → f (sA σ 6 i) = sA σ 8 i) ∧ ∀ i, i < sSg σ → sA σ 7 i ≤ m := by
  unfold snz
  rw [alb_iff]
  constructor
  · intro h
    refine ⟨fun i hi e => ?_, fun i hi => ?_⟩
    · have := h i hi
      rw [decide_eq_true e, Bool.not_true, Bool.false_or, Bool.and_eq_true] at this
      exact of_decide_eq_true this.1
    · have := h i hi
      rw [Bool.and_eq_true] at this
      exact of_decide_eq_true this.2
  · rintro ⟨h1, h2⟩ i hi
    rw [Bool.and_eq_true]
    refine ⟨?_, decide_eq_true (h2 i hi)⟩
    by_cases e : sA σ 7 i = c
    · rw [decide_eq_true (h1 i hi e), Bool.or_true]
    · rw [decide_eq_false e]; rfl
theorem soz_iff {σ : WS} {k c l : Nat} : soz σ k c l = true ↔ ∀ i, i < sSg σ → sA σ 6 i = k → sA σ 7 i = c → sA σ 8 i = l := by
  unfold soz
  rw [alb_iff]
  constructor
  · intro h i hi e1 e2
    have := h i hi
    rw [decide_eq_true e1, decide_eq_true e2, Bool.true_and, Bool.true_and, Bool.not_not] at this
    exact of_decide_eq_true this
  · intro h i hi
    by_cases e1 : sA σ 6 i = k
    · by_cases e2 : sA σ 7 i = c
      · rw [decide_eq_true (h i hi e1 e2), Bool.not_true, Bool.and_false, Bool.and_false]; rfl
      · rw [decide_eq_false e2, Bool.false_and, Bool.and_false]; rfl
    · rw [decide_eq_false e1, Bool.false_and]; rfl
theorem laz_iff {σ : WS} {k c : Nat} : (!laz σ k c) = true ↔ ∀ i, i < sSg σ → sA σ 6 i = k → sA σ 7 i ≤ c := by
  unfold laz
  rw [Bool.not_not, alb_iff]
  constructor
  · intro h i hi e1
    have := h i hi
    rw [decide_eq_true e1, Bool.true_and] at this
    apply Nat.le_of_not_lt
    intro q
    rw [decide_eq_true q] at this
    cases this
  · intro h i hi
    by_cases e1 : sA σ 6 i = k
    · rw [decide_eq_false (show ¬ c < sA σ 7 i by have := h i hi e1; omega), Bool.and_false]; rfl
    · rw [decide_eq_false e1, Bool.false_and]; rfl
theorem thz_at {e : EV} : ∀ {n k : Nat}, (thz n e).1 k = (if k < n then (e.1 k + 2) % 4 else e.1 k) ∧ (thz n e).2 = e.2
  | 0, k => ⟨by rw [if_neg (Nat.not_lt_zero _)]; rfl, rfl⟩
  | n + 1, k => by
    have ih := thz_at (e := e) (n := n) (k := k)
    have ihn := thz_at (e := e) (n := n) (k := n)
    have hs : thz (n + 1) e = (updN (thz n e).1 n (((thz n e).1 n + 2) % 4), (thz n e).2) := rfl
    rw [hs]
    refine ⟨?_, ih.2⟩
    show updN (thz n e).1 n (((thz n e).1 n + 2) % 4) k = _
    unfold updN
    by_cases g : k = n
    · rw [if_pos g, if_pos (by omega), g, ihn.1, if_neg (Nat.lt_irrefl _)]
    · rw [if_neg g, ih.1]
      by_cases c : k < n
      · rw [if_pos c, if_pos (by omega)]
      · rw [if_neg c, if_neg (by omega)]
theorem hpz_at {σ : WS} {e : EV} {x k : Nat} (hk : k < sN σ) (hx : x < 6 → (sKn σ).testBit x = true) : ((hpz σ x e).1 k, (hpz σ x e).2.1 k) = st1 σ k x (e.1 k, e.2.1 k) := by
  unfold hpz st1
  by_cases c1 : x < 6
  · rw [if_pos c1, if_pos c1, hrz_at, if_pos hk, hq]
    by_cases c : qz σ x k (e.1 k) ≤ e.2.1 k
    · rw [if_pos c, if_pos ⟨hx c1, c⟩]
    · rw [if_neg c, if_neg (fun q => c q.2)]
  · rw [if_neg c1, if_neg c1]
    by_cases c2 : x = 6
    · rw [if_pos c2, if_pos c2, (thz_at (e := e) (n := sN σ) (k := k)).1, (thz_at (e := e) (n := sN σ) (k := k)).2, if_pos hk]
    · rw [if_neg c2, if_neg c2]
      by_cases c3 : x = 7
      · rw [if_pos c3, if_pos c3]; rfl
      · rw [if_neg c3, if_neg c3]
theorem tkr_iff {σ : WS} (J : Inv σ) {m : Nat} : ∀ {t : List Nat} {e : EV} {c : Nat}, c + t.length = m → (∀ x ∈ t, x < 6 → (sKn σ).testBit x = true) → (tkr σ m t e c = true ↔ ∀ k, k < sN σ → fitz σ k t (e.1 k, e.2.1 k) c = true)
  | [], e, c, hc, _ => by
    have hc' : c = m := hc
    unfold tkr
    rw [snz_iff]
    constructor
    · rintro ⟨h1, h2⟩ k hk
      rw [fitz, Bool.and_eq_true, soz_iff, laz_iff]
      refine ⟨fun i hi e1 e2 => ?_, fun i hi e1 => by have := h2 i hi; omega⟩
      have := h1 i hi e2
      rw [e1] at this
      exact this.symm
    · intro h
      refine ⟨fun i hi e2 => ?_, fun i hi => ?_⟩
      · have := h (sA σ 6 i) (J.sgt hi).1
        rw [fitz, Bool.and_eq_true, soz_iff] at this
        exact (this.1 i hi rfl e2).symm
      · have := h (sA σ 6 i) (J.sgt hi).1
        rw [fitz, Bool.and_eq_true, laz_iff] at this
        have := this.2 i hi rfl
        omega
  | x :: t, e, c, hc, hx => by
    have ih := tkr_iff J (m := m) (t := t) (e := hpz σ x e) (c := c + 1) (by rw [List.length_cons] at hc; omega) (fun y hy => hx y (List.mem_cons_of_mem _ hy))
    have hp : ∀ k, k < sN σ → ((hpz σ x e).1 k, (hpz σ x e).2.1 k) = st1 σ k x (e.1 k, e.2.1 k) := fun k hk => hpz_at hk (hx x List.mem_cons_self)
    have end' : ∀ (t : List Nat) (e : EV) (c : Nat), tkr σ m t e c = true → ∀ i, i < sSg σ → sA σ 7 i ≤ m := by
      intro t e c h
      cases t with
      | nil => exact (snz_iff.mp h).2
      | cons y t =>
        unfold tkr at h
        rw [Bool.and_eq_true] at h
        exact (snz_iff.mp h.1).2
    have hs : tkr σ m (x :: t) e c = (snz σ e.1 c m (sSg σ) && tkr σ m t (hpz σ x e) (c + 1)) := rfl
    rw [hs, Bool.and_eq_true]
    constructor
    · rintro ⟨h1, h2⟩ k hk
      have f := ih.mp h2 k hk
      rw [hp k hk] at f
      rw [fitz, Bool.and_eq_true, soz_iff]
      refine ⟨fun i hi e1 e2 => ?_, f⟩
      have := (snz_iff.mp h1).1 i hi e2
      rw [e1] at this
      exact this.symm
    · intro h
      have h2 : tkr σ m t (hpz σ x e) (c + 1) = true := ih.mpr (fun k hk => by
        have := h k hk
        rw [fitz, Bool.and_eq_true] at this
        rw [hp k hk]
        exact this.2)
      refine ⟨snz_iff.mpr ⟨fun i hi e2 => ?_, end' _ _ _ h2⟩, h2⟩
      have := h (sA σ 6 i) (J.sgt hi).1
      rw [fitz, Bool.and_eq_true, soz_iff] at this
      exact (this.1 i hi rfl e2).symm
def Awz (σ : WS) (ev : List Nat) (k w : Nat) : Bool := fitz σ k ev (w, sA σ 1 k) 0
def Plz (σ : WS) (ev : List Nat) (n y : Nat) : Bool := alb (fun k => Awz σ ev k (wy y k)) n
theorem wmz_t {σ : WS} {ev : List Nat} {k v : Nat} : ∀ {w : Nat}, (wmz σ ev k w).testBit v = (decide (v < w) && Awz σ ev k v)
  | 0 => by rw [wmz, Nat.zero_testBit, decide_eq_false (Nat.not_lt_zero _)]; rfl
  | w + 1 => by
    have ih := wmz_t (σ := σ) (ev := ev) (k := k) (v := v) (w := w)
    rw [wmz]
    by_cases e : v = w
    · subst e
      rw [decide_eq_false (Nat.lt_irrefl _), Bool.false_and] at ih
      rw [decide_eq_true (Nat.lt_succ_self _), Bool.true_and]
      by_cases g : fitz σ k ev (v, sA σ 1 k) 0 = true
      · rw [if_pos g, Nat.testBit_or, ih, Nat.testBit_two_pow_self, Awz, g]; rfl
      · rw [if_neg g, ih, Awz]
        exact (Bool.eq_false_iff.mpr g).symm
    · have d : decide (v < w + 1) = decide (v < w) := by
        apply decide_eq_decide.mpr
        omega
      rw [d, ← ih]
      split
      · rw [Nat.testBit_or, Nat.testBit_two_pow_of_ne (Ne.symm e), Bool.or_false]
      · rfl
theorem cnz_add {p : Nat → Bool} {a : Nat} : ∀ {b : Nat}, cnz p (a + b) = cnz p a + cnz (fun x => p (a + x)) b
  | 0 => rfl
  | b + 1 => by
    rw [← Nat.add_assoc, cnz, cnz_add (b := b), cnz]
    omega
theorem wy_hi {q n lo : Nat} (h : lo < 2 ^ (2 * n)) : (∀ k, k < n → wy (2 ^ (2 * n) * q + lo) k = wy lo k) ∧ wy (2 ^ (2 * n) * q + lo) n = q % 4 := by
  constructor
  · intro k hk
    unfold wy
    rw [show 2 * n = 2 * k + 2 + (2 * n - 2 * k - 2) by omega, Nat.pow_add, Nat.pow_add, Nat.mul_assoc, Nat.mul_assoc, Nat.mul_add_div (p2_pos _)]
    rw [show (2 : Nat) ^ 2 = 4 from rfl, Nat.mul_add_mod]
  · unfold wy
    rw [Nat.mul_add_div (p2_pos _), Nat.div_eq_of_lt h, Nat.add_zero]
theorem Plz_hi {σ : WS} {ev : List Nat} {n q lo : Nat} (hq : q < 4) (h : lo < 2 ^ (2 * n)) : Plz σ ev (n + 1) (2 ^ (2 * n) * q + lo) = (Plz σ ev n lo && Awz σ ev n q) := by
  have w := wy_hi (q := q) h
  unfold Plz
  rw [alb_s, w.2, Nat.mod_eq_of_lt hq, alb_cong (fun k hk => by rw [w.1 k hk])]
theorem pcz_16 : ∀ m, m < 16 → pcz m = (if m.testBit 0 then 1 else 0) + (if m.testBit 1 then 1 else 0) + (if m.testBit 2 then 1 else 0) + (if m.testBit 3 then 1 else 0) := by decide +kernel
theorem cnz_and {p : Nat → Bool} {b : Bool} : ∀ {n : Nat}, cnz (fun x => p x && b) n = if b then cnz p n else 0
  | 0 => by cases b <;> rfl
  | n + 1 => by
    rw [cnz, cnz_and (n := n), cnz]
    cases b with
    | true => simp
    | false => simp
theorem trM_cn {σ : WS} {ev : List Nat} : ∀ n, cnz (Plz σ ev n) (2 ^ (2 * n)) = trM σ ev n
  | 0 => rfl
  | n + 1 => by
    have ih := trM_cn (σ := σ) (ev := ev) n
    have w16 : wmz σ ev n 4 < 16 := wmz_lt 4
    have e : 2 ^ (2 * (n + 1)) = 2 ^ (2 * n) * 0 + 2 ^ (2 * n) + 2 ^ (2 * n) + 2 ^ (2 * n) + 2 ^ (2 * n) := by rw [show 2 * (n + 1) = 2 * n + 2 by omega, Nat.pow_add]; omega
    have blk : ∀ q, q < 4 → ∀ a, a = 2 ^ (2 * n) * q → cnz (fun x => Plz σ ev (n + 1) (a + x)) (2 ^ (2 * n)) = if Awz σ ev n q then trM σ ev n else 0 := by
      intro q hq a ha
      rw [cnz_cong (q := fun x => Plz σ ev n x && Awz σ ev n q) (fun x hx => by rw [ha]; exact Plz_hi hq hx), cnz_and, ih]
    have z0 : cnz (Plz σ ev (n + 1)) (2 ^ (2 * n) * 0 + 2 ^ (2 * n)) = if Awz σ ev n 0 then trM σ ev n else 0 := by
      rw [← blk 0 (by decide) 0 (by omega), Nat.mul_zero, Nat.zero_add]
      exact cnz_cong (fun x _ => by rw [Nat.zero_add])
    rw [e, cnz_add, cnz_add, cnz_add, z0, blk 1 (by decide) _ (by omega), blk 2 (by decide) _ (by omega), blk 3 (by decide) _ (by omega), trM, pcz_16 _ w16, wmz_t, wmz_t, wmz_t, wmz_t]
    cases Awz σ ev n 0 <;> cases Awz σ ev n 1 <;> cases Awz σ ev n 2 <;> cases Awz σ ev n 3 <;> simp <;> omega
theorem lwz_is : ∀ m, m < 16 → pcz m ≠ 0 → m.testBit (lwz m) = true ∧ lwz m < 4 ∧ ∀ v, v < 4 → m.testBit v = true → lwz m ≤ v := by decide +kernel
theorem trM_0 {σ : WS} {ev : List Nat} : ∀ {n : Nat}, trM σ ev n ≠ 0 → ∀ k, k < n → pcz (wmz σ ev k 4) ≠ 0
  | 0, _, k, hk => absurd hk (Nat.not_lt_zero _)
  | n + 1, h, k, hk => by
    rw [trM] at h
    by_cases e : k = n
    · subst e
      intro q
      rw [q, Nat.mul_zero] at h
      exact h rfl
    · exact trM_0 (n := n) (fun q => h (by rw [q, Nat.zero_mul])) k (by omega)
theorem trL_nm {σ : WS} {ev : List Nat} : ∀ n, trL σ ev n = nmz (fun k => lwz (wmz σ ev k 4)) n
  | 0 => rfl
  | n + 1 => by
    have lt := nmz_lt (f := fun k => lwz (wmz σ ev k 4)) (n := n) (fun k _ => lwz_lt _ (wmz_lt 4))
    rw [trL, trL_nm n, nmz, or_sum lt]
theorem Awz_lw {σ : WS} {ev : List Nat} {n : Nat} (h : trM σ ev n ≠ 0) {k : Nat} (hk : k < n) : Awz σ ev k (lwz (wmz σ ev k 4)) = true ∧ ∀ v, v < 4 → Awz σ ev k v = true → lwz (wmz σ ev k 4) ≤ v := by
  have l := lwz_is _ (wmz_lt (σ := σ) (ev := ev) (k := k) 4) (trM_0 h k hk)
  refine ⟨?_, fun v hv hA => ?_⟩
  · have := l.1
    rw [wmz_t, Bool.and_eq_true] at this
    exact this.2
  · exact l.2.2 v hv (by rw [wmz_t, decide_eq_true hv, hA]; rfl)
theorem nmz_mono {f g : Nat → Nat} : ∀ {n : Nat}, (∀ k, k < n → f k ≤ g k) → nmz f n ≤ nmz g n
  | 0, _ => Nat.le_refl _
  | n + 1, h => by
    have ih := nmz_mono (n := n) (fun k hk => h k (by omega))
    have : f n * 2 ^ (2 * n) ≤ g n * 2 ^ (2 * n) := Nat.mul_le_mul_right _ (h n (by omega))
    show nmz f n + f n * 2 ^ (2 * n) ≤ nmz g n + g n * 2 ^ (2 * n)
    omega
theorem Plz_iff {σ : WS} {ev : List Nat} {n y : Nat} : Plz σ ev n y = true ↔ ∀ k, k < n → Awz σ ev k (wy y k) = true := alb_iff
theorem trL_is {σ : WS} {ev : List Nat} {n : Nat} (h : trM σ ev n ≠ 0) : Plz σ ev n (trL σ ev n) = true ∧ ∀ y, y < 2 ^ (2 * n) → Plz σ ev n y = true → trL σ ev n ≤ y := by
  have l4 : ∀ k, lwz (wmz σ ev k 4) < 4 := fun k => lwz_lt _ (wmz_lt 4)
  rw [trL_nm]
  refine ⟨Plz_iff.mpr (fun k hk => ?_), fun y hy hP => ?_⟩
  · rw [wy_nm (fun j _ => l4 j) hk]
    exact (Awz_lw h hk).1
  · have e : y = nmz (wy y) n := by rw [nmz_wy, Nat.mod_eq_of_lt hy]
    rw [e]
    exact nmz_mono (fun k hk => (Awz_lw h hk).2 _ (wy_lt _ _) (Plz_iff.mp hP k hk))
def orP (P : Nat → Bool) (k : Nat) : Nat → Nat
  | 0 => 0
  | y + 1 => if P y then orP P k y ||| 2 ^ wy y k else orP P k y
theorem orP_t {P : Nat → Bool} {k v : Nat} : ∀ {n : Nat}, (orP P k n).testBit v = true ↔ ∃ y, y < n ∧ P y = true ∧ wy y k = v
  | 0 => by
    rw [orP, Nat.zero_testBit]
    constructor
    · intro h; cases h
    · rintro ⟨y, hy, _⟩; exact absurd hy (Nat.not_lt_zero _)
  | n + 1 => by
    have ih := orP_t (P := P) (k := k) (v := v) (n := n)
    rw [orP]
    by_cases c : P n = true
    · rw [if_pos c, Nat.testBit_or, Bool.or_eq_true, ih]
      constructor
      · rintro (⟨y, h1, h2, h3⟩ | h)
        · exact ⟨y, by omega, h2, h3⟩
        · refine ⟨n, by omega, c, ?_⟩
          apply Classical.byContradiction
          intro q
          rw [Nat.testBit_two_pow_of_ne q] at h
          cases h
      · rintro ⟨y, h1, h2, h3⟩
        by_cases e : y = n
        · refine Or.inr ?_
          rw [← h3, e]
          exact Nat.testBit_two_pow_self
        · exact Or.inl ⟨y, by omega, h2, h3⟩
    · rw [if_neg c, ih]
      constructor
      · rintro ⟨y, h1, h2, h3⟩; exact ⟨y, by omega, h2, h3⟩
      · rintro ⟨y, h1, h2, h3⟩
        refine ⟨y, ?_, h2, h3⟩
        have : y ≠ n := fun e => c (by rw [← e]; exact h2)
        omega
theorem orP_lt {P : Nat → Bool} {k : Nat} : ∀ n, orP P k n < 16
  | 0 => show (0 : Nat) < 16 by decide
  | n + 1 => by
    have h1 := orP_lt (P := P) (k := k) n
    have h2 : 2 ^ wy n k < 2 ^ 4 := Nat.pow_lt_pow_right (by decide) (wy_lt n k)
    rw [orP]
    split
    · exact Nat.or_lt_two_pow (n := 4) h1 h2
    · exact h1
theorem orP_is {σ : WS} {ev : List Nat} {n k : Nat} (hk : k < n) : orP (Plz σ ev n) k (2 ^ (2 * n)) = if trM σ ev n = 0 then 0 else wmz σ ev k 4 := by
  apply Nat.eq_of_testBit_eq
  intro v
  by_cases h : trM σ ev n = 0
  · rw [if_pos h, Nat.zero_testBit]
    cases e : (orP (Plz σ ev n) k (2 ^ (2 * n))).testBit v with
    | false => rfl
    | true =>
      obtain ⟨y, h1, h2, h3⟩ := orP_t.mp e
      have m := cnz_more (p := fun _ => false) (q := Plz σ ev n) (fun k hk => by cases hk) (y := y) rfl h2 h1
      rw [trM_cn, h] at m
      omega
  · rw [if_neg h, wmz_t]
    apply Bool.eq_iff_iff.mpr
    rw [orP_t, Bool.and_eq_true]
    constructor
    · rintro ⟨y, h1, h2, h3⟩
      rw [← h3]
      exact ⟨decide_eq_true (wy_lt _ _), Plz_iff.mp h2 k hk⟩
    · rintro ⟨h1, h2⟩
      have v4 := of_decide_eq_true h1
      have f4 : ∀ j, j < n → (if j = k then v else lwz (wmz σ ev j 4)) < 4 := fun j _ => by
        split
        · exact v4
        · exact lwz_lt _ (wmz_lt 4)
      refine ⟨nmz (fun j => if j = k then v else lwz (wmz σ ev j 4)) n, nmz_lt f4, Plz_iff.mpr (fun j hj => ?_), ?_⟩
      · rw [wy_nm f4 hj]
        by_cases e : j = k
        · rw [if_pos e, e]; exact h2
        · rw [if_neg e]; exact (Awz_lw h hj).1
      · rw [wy_nm f4 hk, if_pos rfl]
