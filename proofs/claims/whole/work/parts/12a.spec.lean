def scan (p : Nat → Bool) : Nat → Nat → Nat
  | 0, i => i
  | m + 1, i => if p i then i else scan p m (i + 1)
def fz (p : Nat → Bool) (n : Nat) : Nat := scan p n 0
theorem scan_skip {p : Nat → Bool} : ∀ {m i : Nat}, (∀ j, i ≤ j → j < i + m → p j = false) → scan p m i = i + m
  | 0, i, _ => rfl
  | m + 1, i, h => by
    have h0 : p i = false := h i (by omega) (by omega)
    show (if p i then i else scan p m (i + 1)) = _
    rw [h0]
    have := scan_skip (p := p) (m := m) (i := i + 1) (fun j h1 h2 => h j (by omega) (by omega))
    simp only [Bool.false_eq_true, if_false]
    omega
theorem scan_hit {p : Nat → Bool} : ∀ {m i k : Nat}, (∀ j, i ≤ j → j < k → p j = false) → i ≤ k → k < i + m → p k = true → scan p m i = k
  | 0, i, k, _, h1, h2, _ => by omega
  | m + 1, i, k, h, h1, h2, hk => by
    show (if p i then i else scan p m (i + 1)) = _
    by_cases e : i = k
    · subst e
      rw [hk]
      rfl
    · rw [h i (by omega) (by omega)]
      simp only [Bool.false_eq_true, if_false]
      exact scan_hit (fun j a b => h j (by omega) b) (by omega) (by omega) hk
theorem fz_none {p : Nat → Bool} {n : Nat} (h : ∀ j, j < n → p j = false) : fz p n = n := by
  have := scan_skip (p := p) (m := n) (i := 0) (fun j _ hj => h j (by omega))
  rw [fz, this, Nat.zero_add]
theorem fz_hit {p : Nat → Bool} {n k : Nat} (h : ∀ j, j < k → p j = false) (hk : k < n) (hp : p k = true) : fz p n = k := scan_hit (fun j _ hj => h j hj) (Nat.zero_le _) (by omega) hp
theorem fz_lt {p : Nat → Bool} {n : Nat} (h : fz p n < n) : p (fz p n) = true ∧ ∀ j, j < fz p n → p j = false := by
  have key : ∀ (m i : Nat), scan p m i < i + m → p (scan p m i) = true ∧ ∀ j, i ≤ j → j < scan p m i → p j = false := by
    intro m
    induction m with
    | zero => intro i h; simp [scan] at h
    | succ m ih =>
      intro i h
      unfold scan at h ⊢
      by_cases e : p i = true
      · rw [if_pos e]
        exact ⟨e, fun j h1 h2 => by omega⟩
      · rw [if_neg e] at h ⊢
        have := ih (i + 1) (by omega)
        refine ⟨this.1, fun j h1 h2 => ?_⟩
        by_cases ej : j = i
        · subst ej
          simpa using e
        · exact this.2 j (by omega) h2
  have := key n 0 (by rw [Nat.zero_add]; exact h)
  exact ⟨this.1, fun j hj => this.2 j (Nat.zero_le _) hj⟩
theorem fz_le {p : Nat → Bool} {n : Nat} : fz p n ≤ n := by
  have key : ∀ (m i : Nat), scan p m i ≤ i + m := by
    intro m
    induction m with
    | zero => intro i; exact Nat.le_refl _
    | succ m ih =>
      intro i
      unfold scan
      split
      · omega
      · have := ih (i + 1)
        omega
  have := key n 0
  unfold fz
  omega
def spB (n : Nat) (ps : Nat → Nat) (i : Nat) : Bool := decide (n ≤ i) || !(decide (48 ≤ ps i) && decide (ps i ≤ 51))
def spz (n cnt : Nat) (ps : Nat → Nat) : Int32 := if fz (spB n ps) cnt < cnt then nI (fz (spB n ps) cnt) else if cnt < n then nI cnt else -6
def isW (s : Nat) : Bool := decide (s = 110) || decide (s = 101) || decide (s = 115) || decide (s = 119)
def wyN (s : Nat) : Nat := if s = 110 then 0 else if s = 101 then 1 else if s = 115 then 2 else 3
def isDg (s : Nat) : Bool := decide (48 ≤ s) && decide (s ≤ 57)
def isLt (s : Nat) : Bool := decide (97 ≤ s) && decide (s ≤ 102)
def evS (n : Nat) (ps : Nat → Nat) : Nat → Nat → Option Nat → Option Nat
  | 0, _, none => none
  | 0, i, some _ => some i
  | m + 1, i, some _ => if isW (ps i) then evS n ps m (i + 1) none else some i
  | m + 1, i, none => if isDg (ps i) then (if ps i - 48 < n then evS n ps m (i + 1) (some (ps i - 48)) else some i) else if isLt (ps i) || (decide (ps i = 42) || decide (ps i = 46)) then evS n ps m (i + 1) none else some i
def evz (n cnt : Nat) (ps : Nat → Nat) : Int32 := match evS n ps cnt 0 none with
  | some i => nI i
  | none => -6
abbrev PS : Type := Nat × (Nat → Nat)
def RP (p : PS) (h : Hp) : Prop := h 13 0 = nI p.1 ∧ ∀ k, k < 60 → h 14 k = nI (p.2 k)
def RMP (p : PS) (h : Hp) : Prop := h 73 13 = nI p.1 ∧ ∀ k, k < 60 → h 83 k = nI (p.2 k)
def InvP (p : PS) : Prop := p.1 ≤ 60 ∧ ∀ k, k < 60 → p.2 k ≤ 126
theorem wyO_ge {s : Nat} : (0 ≤ wyO s) ↔ isW s = true := by
  unfold wyO isW
  by_cases h1 : s = 110
  · subst h1; decide
  · by_cases h2 : s = 101
    · subst h2; decide
    · by_cases h3 : s = 115
      · subst h3; decide
      · by_cases h4 : s = 119
        · subst h4; decide
        · simp only [h1, h2, h3, h4, if_false, decide_false, Bool.or_self, Bool.false_eq_true, iff_false]
          decide
theorem wyO_is {s : Nat} (h : isW s = true) : wyO s = nI (wyN s) := by
  unfold isW at h
  unfold wyO wyN
  by_cases h1 : s = 110
  · subst h1; decide
  · by_cases h2 : s = 101
    · subst h2; decide
    · by_cases h3 : s = 115
      · subst h3; decide
      · by_cases h4 : s = 119
        · subst h4; decide
        · simp [h1, h2, h3, h4] at h
