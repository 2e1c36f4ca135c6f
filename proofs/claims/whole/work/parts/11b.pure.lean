def win (v a b : Int32) : Bool := decide (a ≤ v) && decide (v ≤ b)
theorem win_lo {v a b : Int32} (c : v < a) : win v a b = false := by
  have : ¬ a ≤ v := Int32.not_le.mpr c
  simp [win, this]
theorem win_hi {v a b : Int32} (c : b < v) : win v a b = false := by
  have : ¬ v ≤ b := Int32.not_le.mpr c
  simp [win, this]
theorem win_ok {v a b : Int32} (c1 : ¬ v < a) (c2 : ¬ b < v) : win v a b = true := by
  simp [win, Int32.not_lt.mp c1, Int32.not_lt.mp c2]
theorem win_of {v : Int32} {a b : Nat} (ha : a < 2 ^ 31) (hb : b < 2 ^ 31) (h : win v (nI a) (nI b) = true) : ∃ k, a ≤ k ∧ k ≤ b ∧ v = nI k := by
  simp only [win, Bool.and_eq_true, decide_eq_true_eq] at h
  have h0 : ¬ v < 0 := fun q => by
    have h1 := Int32.le_iff_toInt_le.mp h.1
    have h2 := Int32.lt_iff_toInt_lt.mp q
    rw [nI_toInt ha] at h1
    have h3 : (0 : Int32).toInt = 0 := rfl
    omega
  obtain ⟨j, hj, rfl⟩ := nI_of h0
  exact ⟨j, (nI_leI ha hj).mp h.1, (nI_leI hj hb).mp h.2, rfl⟩
theorem win_nI {k a b : Nat} (hk : k < 2 ^ 31) (ha : a < 2 ^ 31) (hb : b < 2 ^ 31) : win (nI k) (nI a) (nI b) = (decide (a ≤ k) && decide (k ≤ b)) := by
  unfold win
  rw [decide_eq_decide.mpr (nI_leI ha hk), decide_eq_decide.mpr (nI_leI hk hb)]
def wy (l k : Nat) : Nat := l / 2 ^ (2 * k) % 4
theorem wy_lt (l k : Nat) : wy l k < 4 := Nat.mod_lt _ (by decide)
def nmz (f : Nat → Nat) : Nat → Nat
  | 0 => 0
  | n + 1 => nmz f n + f n * 2 ^ (2 * n)
theorem nmz_lt {f : Nat → Nat} : ∀ {n : Nat}, (∀ k, k < n → f k < 4) → nmz f n < 2 ^ (2 * n)
  | 0, _ => by simp [nmz]
  | n + 1, h => by
    have h1 := nmz_lt (n := n) (fun k hk => h k (by omega))
    have h2 := h n (by omega)
    have h3 : 2 ^ (2 * (n + 1)) = 4 * 2 ^ (2 * n) := by rw [show 2 * (n + 1) = 2 * n + 2 by omega, Nat.pow_add]; omega
    have h4 : f n * 2 ^ (2 * n) ≤ 3 * 2 ^ (2 * n) := Nat.mul_le_mul_right _ (by omega)
    show nmz f n + f n * 2 ^ (2 * n) < _
    omega
theorem nmz_cong {f g : Nat → Nat} : ∀ {n : Nat}, (∀ k, k < n → f k = g k) → nmz f n = nmz g n
  | 0, _ => rfl
  | n + 1, h => by
    show nmz f n + _ = nmz g n + _
    rw [nmz_cong (fun k hk => h k (by omega)), h n (by omega)]
theorem or_sum {a b s : Nat} (h : a < 2 ^ s) : a ||| b * 2 ^ s = a + b * 2 ^ s := by
  rw [Nat.or_comm, Nat.mul_comm b, ← Nat.two_pow_add_eq_or_of_lt h, Nat.add_comm]
theorem p2_le {k m : Nat} (h : k ≤ m) : 2 ^ k ≤ 2 ^ m := Nat.pow_le_pow_right (by decide) h
theorem p2_8 {k : Nat} (h : k ≤ 4) : 2 ^ (2 * k) ≤ 256 := p2_le (k := 2 * k) (m := 8) (by omega)
theorem p2_10 {k : Nat} (h : k ≤ 5) : 2 ^ (2 * k) ≤ 1024 := p2_le (k := 2 * k) (m := 10) (by omega)
theorem p2_5 {k : Nat} (h : k ≤ 5) : 2 ^ k ≤ 32 := p2_le (k := k) (m := 5) (by omega)
theorem p2_pos (k : Nat) : 0 < 2 ^ k := Nat.two_pow_pos k
theorem shb {a k : Nat} (ha : a < 4) (hk : k ≤ 4) : a * 2 ^ (2 * k) < 2 ^ 32 := by
  have h1 := p2_8 hk
  have h2 : a * 2 ^ (2 * k) ≤ 3 * 256 := Nat.mul_le_mul (by omega) h1
  omega
theorem sh1 {k : Nat} (hk : k ≤ 5) : 1 * 2 ^ k < 2 ^ 32 := by
  have h1 := p2_5 hk
  omega
theorem sh2 {k : Nat} (hk : k ≤ 5) : 1 * 2 ^ (2 * k) < 2 ^ 32 := by
  have h1 := p2_10 hk
  omega
theorem and3 (a : Nat) : a &&& 3 = a % 4 := Nat.and_two_pow_sub_one_eq_mod a 2
theorem and1 (a : Nat) : a &&& 1 = a % 2 := Nat.and_one_is_mod a
theorem and63 (a : Nat) : a &&& 63 = a % 64 := Nat.and_two_pow_sub_one_eq_mod a 6
theorem tb_div (s m : Nat) : s.testBit m = decide (s / 2 ^ m % 2 = 1) := Nat.testBit_eq_decide_div_mod_eq
theorem nI_sub3 {a b : Nat} (ha : a < 4) (hb : b < 4) : (nI a - nI b) &&& nI 3 = nI ((a + (4 - b)) % 4) := by
  have : ∀ a, a < 4 → ∀ b, b < 4 → (nI a - nI b) &&& nI 3 = nI ((a + (4 - b)) % 4) := by decide +kernel
  exact this a ha b hb
def exb (p : Nat → Bool) (n : Nat) : Bool := (List.range n).any p
theorem exb_t {p : Nat → Bool} {n k : Nat} (hk : k < n) (h : p k = true) : exb p n = true := List.any_eq_true.mpr ⟨k, List.mem_range.mpr hk, h⟩
theorem exb_f {p : Nat → Bool} {n : Nat} (h : ∀ k, k < n → p k = false) : exb p n = false := by
  cases e : exb p n with
  | false => rfl
  | true =>
    obtain ⟨k, hk, hp⟩ := List.any_eq_true.mp e
    rw [h k (List.mem_range.mp hk)] at hp
    cases hp
def alb (p : Nat → Bool) (n : Nat) : Bool := (List.range n).all p
theorem alb_f {p : Nat → Bool} {n k : Nat} (hk : k < n) (h : p k = false) : alb p n = false := by
  cases e : alb p n with
  | false => rfl
  | true =>
    have := List.all_eq_true.mp e k (List.mem_range.mpr hk)
    rw [h] at this
    cases this
theorem alb_t {p : Nat → Bool} {n : Nat} (h : ∀ k, k < n → p k = true) : alb p n = true := List.all_eq_true.mpr (fun k hk => h k (List.mem_range.mp hk))
theorem alb_iff {p : Nat → Bool} {n : Nat} : alb p n = true ↔ ∀ k, k < n → p k = true := by
  constructor
  · intro e k hk
    exact List.all_eq_true.mp e k (List.mem_range.mpr hk)
  · exact alb_t
theorem exb_iff {p : Nat → Bool} {n : Nat} : exb p n = true ↔ ∃ k, k < n ∧ p k = true := by
  constructor
  · intro e
    obtain ⟨k, hk, hp⟩ := List.any_eq_true.mp e
    exact ⟨k, List.mem_range.mp hk, hp⟩
  · rintro ⟨k, hk, h⟩
    exact exb_t hk h
def wyO (s : Nat) : Int32 := if s = 110 then nI 0 else if s = 101 then nI 1 else if s = 115 then nI 2 else if s = 119 then nI 3 else -1
def pG (v : Option Value) (L : Ly) (Q : Hp → Prop) : Option Value → Ly → Hp → Prop := fun v' L' h' => v' = v ∧ L' = L ∧ Q h'
section Pure11
variable {X : RX} {nc ns n mc1 ms1 : Nat} {lv : List (Option Value)} {rest : List Value} {L : Ly} {h : Hp} {Q : Hp → Prop}
theorem pEs {v : Value} (K : Rn X (nc + 0) (ns + 0) n lv (v :: rest) L h) : ∀ (v' : Option Value) (L' : Ly) (h' : Hp), pE (some v) L h v' L' h' → Rn X (nc + 0) (ns + 0) n lv (v'.toList ++ rest) L' h' := by
  intro v' L' h' hp
  obtain ⟨e1, e2, e3⟩ := hp
  rw [e1, e2, e3]
  exact K
theorem pEv (K : Rn X (nc + 0) (ns + 0) n lv rest L h) : ∀ (v' : Option Value) (L' : Ly) (h' : Hp), pE none L h v' L' h' → Rn X (nc + 0) (ns + 0) n lv (v'.toList ++ rest) L' h' := by
  intro v' L' h' hp
  obtain ⟨e1, e2, e3⟩ := hp
  rw [e1, e2, e3]
  exact K
theorem pGs {v : Value} (K : ∀ h', Q h' → Rn X (nc + 0) (ns + 0) n lv (v :: rest) L h') : ∀ (v' : Option Value) (L' : Ly) (h' : Hp), pG (some v) L Q v' L' h' → Rn X (nc + 0) (ns + 0) n lv (v'.toList ++ rest) L' h' := by
  intro v' L' h' hp
  obtain ⟨e1, e2, e3⟩ := hp
  rw [e1, e2]
  exact K h' e3
theorem pGv (K : ∀ h', Q h' → Rn X (nc + 0) (ns + 0) n lv rest L h') : ∀ (v' : Option Value) (L' : Ly) (h' : Hp), pG none L Q v' L' h' → Rn X (nc + 0) (ns + 0) n lv (v'.toList ++ rest) L' h' := by
  intro v' L' h' hp
  obtain ⟨e1, e2, e3⟩ := hp
  rw [e1, e2]
  exact K h' e3
end Pure11
