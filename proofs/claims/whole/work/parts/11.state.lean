abbrev WS : Type := Nat × Nat × Nat × (Nat → Nat → Nat)
def sN (σ : WS) : Nat := σ.1
def sKn (σ : WS) : Nat := σ.2.1
def sSg (σ : WS) : Nat := σ.2.2.1
def sA (σ : WS) : Nat → Nat → Nat := σ.2.2.2
def alen (j : Nat) : Nat := if j = 5 then 30 else if 6 ≤ j then 6 else 5
def RW (w : Nat) (σ : WS) (h : Hp) : Prop := h w 0 = nI (sN σ) ∧ h w 1 = nI (sKn σ) ∧ h w 2 = nI (sSg σ) ∧ ∀ j k, j < 9 → k < alen j → h (w + 1 + j) k = nI (sA σ j k)
def RM (σ : WS) (h : Hp) : Prop := h 73 0 = nI (sN σ) ∧ h 73 6 = nI (sKn σ) ∧ h 73 11 = nI (sSg σ) ∧ ∀ j k, j < 9 → k < alen j → h (74 + j) k = nI (sA σ j k)
def Inv (σ : WS) : Prop := (1 ≤ sN σ ∧ sN σ ≤ 5 ∧ sKn σ < 64 ∧ sSg σ ≤ 6) ∧ (∀ k, k < 5 → sA σ 0 k < 4 ∧ sA σ 1 k ≤ 30 ∧ sA σ 2 k ≤ 30 ∧ sA σ 3 k < 4 ∧ sA σ 4 k < 25) ∧ (∀ k, k < 30 → sA σ 5 k < 4) ∧
  (∀ k, k < sSg σ → sA σ 6 k < sN σ ∧ sA σ 7 k ≤ 30 ∧ sA σ 8 k < 4) ∧ (∀ k, sN σ ≤ k → k < 5 → sA σ 0 k = 0 ∧ sA σ 1 k = 9 ∧ sA σ 2 k = 9 ∧ sA σ 3 k = 0 ∧ sA σ 4 k = k)
section St11
variable {σ : WS} {h : Hp} {k : Nat}
theorem Inv.n1 (I : Inv σ) : 1 ≤ sN σ := I.1.1
theorem Inv.n5 (I : Inv σ) : sN σ ≤ 5 := I.1.2.1
theorem Inv.kn (I : Inv σ) : sKn σ < 64 := I.1.2.2.1
theorem Inv.sg (I : Inv σ) : sSg σ ≤ 6 := I.1.2.2.2
theorem Inv.lk (I : Inv σ) (hk : k < 5) : sA σ 0 k < 4 := (I.2.1 k hk).1
theorem Inv.lg (I : Inv σ) (hk : k < 5) : sA σ 1 k ≤ 30 := (I.2.1 k hk).2.1
theorem Inv.mo (I : Inv σ) (hk : k < 5) : sA σ 2 k ≤ 30 := (I.2.1 k hk).2.2.1
theorem Inv.kd (I : Inv σ) (hk : k < 5) : sA σ 3 k < 4 := (I.2.1 k hk).2.2.2.1
theorem Inv.ce (I : Inv σ) (hk : k < 5) : sA σ 4 k < 25 := (I.2.1 k hk).2.2.2.2
theorem Inv.tu (I : Inv σ) (hk : k < 30) : sA σ 5 k < 4 := I.2.2.1 k hk
theorem wN (R : RW 1 σ h) : h 1 0 = nI (sN σ) := R.1
theorem wKn (R : RW 1 σ h) : h 1 1 = nI (sKn σ) := R.2.1
theorem wSg (R : RW 1 σ h) : h 1 2 = nI (sSg σ) := R.2.2.1
theorem wLk (R : RW 1 σ h) (hk : k < 5) : h 2 k = nI (sA σ 0 k) := R.2.2.2 0 k (by decide) hk
theorem wLg (R : RW 1 σ h) (hk : k < 5) : h 3 k = nI (sA σ 1 k) := R.2.2.2 1 k (by decide) hk
theorem wMo (R : RW 1 σ h) (hk : k < 5) : h 4 k = nI (sA σ 2 k) := R.2.2.2 2 k (by decide) hk
theorem wKd (R : RW 1 σ h) (hk : k < 5) : h 5 k = nI (sA σ 3 k) := R.2.2.2 3 k (by decide) hk
theorem wCe (R : RW 1 σ h) (hk : k < 5) : h 6 k = nI (sA σ 4 k) := R.2.2.2 4 k (by decide) hk
theorem wTu (R : RW 1 σ h) (hk : k < 30) : h 7 k = nI (sA σ 5 k) := R.2.2.2 5 k (by decide) hk
theorem wSH (R : RW 1 σ h) (hk : k < 6) : h 8 k = nI (sA σ 6 k) := R.2.2.2 6 k (by decide) hk
theorem wSE (R : RW 1 σ h) (hk : k < 6) : h 9 k = nI (sA σ 7 k) := R.2.2.2 7 k (by decide) hk
theorem wSW (R : RW 1 σ h) (hk : k < 6) : h 10 k = nI (sA σ 8 k) := R.2.2.2 8 k (by decide) hk
theorem mN_ (R : RM σ h) : h 73 0 = nI (sN σ) := R.1
theorem mKn (R : RM σ h) : h 73 6 = nI (sKn σ) := R.2.1
theorem mSg (R : RM σ h) : h 73 11 = nI (sSg σ) := R.2.2.1
theorem mLk (R : RM σ h) (hk : k < 5) : h 74 k = nI (sA σ 0 k) := R.2.2.2 0 k (by decide) hk
theorem mLg (R : RM σ h) (hk : k < 5) : h 75 k = nI (sA σ 1 k) := R.2.2.2 1 k (by decide) hk
theorem mMo (R : RM σ h) (hk : k < 5) : h 76 k = nI (sA σ 2 k) := R.2.2.2 2 k (by decide) hk
theorem mKd (R : RM σ h) (hk : k < 5) : h 77 k = nI (sA σ 3 k) := R.2.2.2 3 k (by decide) hk
theorem mCe (R : RM σ h) (hk : k < 5) : h 78 k = nI (sA σ 4 k) := R.2.2.2 4 k (by decide) hk
theorem mTu (R : RM σ h) (hk : k < 30) : h 79 k = nI (sA σ 5 k) := R.2.2.2 5 k (by decide) hk
theorem mSH (R : RM σ h) (hk : k < 6) : h 80 k = nI (sA σ 6 k) := R.2.2.2 6 k (by decide) hk
theorem mSE (R : RM σ h) (hk : k < 6) : h 81 k = nI (sA σ 7 k) := R.2.2.2 7 k (by decide) hk
theorem mSW (R : RM σ h) (hk : k < 6) : h 82 k = nI (sA σ 8 k) := R.2.2.2 8 k (by decide) hk
end St11
def qz (σ : WS) (word hut look : Nat) : Nat := if sA σ 3 hut = 1 ∨ (sA σ 3 hut = 3 ∧ look % 2 = 0) then 0 else sA σ 5 (5 * word + hut)
def tz (σ : WS) (hut look by' : Nat) : Nat := if sA σ 3 hut = 2 then (look + (4 - by')) % 4 else (look + by') % 4
theorem qz_le {σ : WS} (I : Inv σ) {w k l : Nat} (hw : w < 6) (hk : k < 5) : qz σ w k l < 4 := by
  unfold qz
  split
  · decide
  · exact I.tu (by omega)
theorem tz_lt {σ : WS} {k l b : Nat} : tz σ k l b < 4 := by
  unfold tz
  split <;> omega
