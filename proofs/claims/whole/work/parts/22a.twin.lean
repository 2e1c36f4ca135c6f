def ikz (σ : WS) (t : Nat) : Nat := if t = 0 then sN σ else if t = 1 then sKn σ else if t = 2 then sSg σ else if t < 28 then sA σ ((t - 3) % 5) ((t - 3) / 5) else if t < 58 then sA σ 5 (t - 28) else sA σ (6 + (t - 58) % 3) ((t - 58) / 3)
def RMo (G : GS) (h : Hp) : Prop := RM (gS G) h ∧ RMP (gP G) h ∧ h 99 0 = bI (gK0 G) ∧ h 99 1 = bI (gK1 G) ∧ (gK0 G = true → ∀ t, t < 76 → h 98 t = nI (ikz (gS0 G) t)) ∧ (gK1 G = true → ∀ t, t < 76 → h 98 (100 + t) = nI (ikz (gS1 G) t))
def FrM (h h' : Hp) : Prop := ∀ a, a < 73 → h' a = h a
theorem FrM.rf {h : Hp} : FrM h h := fun _ _ => rfl
theorem FrM.tr {h1 h2 h3 : Hp} (F : FrM h1 h2) (G : FrM h2 h3) : FrM h1 h3 := fun a ha => (G a ha).trans (F a ha)
theorem FrM.up {h h' : Hp} {a k : Nat} {v : Int32} (F : FrM h h') (ha : 73 ≤ a) : FrM h (up2 h' a k v) := fun b hb => by rw [up2_row (by omega)]; exact F b hb
def FrA (A S : List Nat) (h h' : Hp) : Prop := (∀ a, a ≠ 73 → a ∉ A → h' a = h a) ∧ ∀ k, k ∉ S → h' 73 k = h 73 k
theorem FrA.rf {A S : List Nat} {h : Hp} : FrA A S h h := ⟨fun _ _ _ => rfl, fun _ _ => rfl⟩
theorem FrA.tr {A S : List Nat} {h1 h2 h3 : Hp} (F : FrA A S h1 h2) (G : FrA A S h2 h3) : FrA A S h1 h3 := ⟨fun a h1 h2 => (G.1 a h1 h2).trans (F.1 a h1 h2), fun k hk => (G.2 k hk).trans (F.2 k hk)⟩
theorem FrA.mono {A S A' S' : List Nat} {h h' : Hp} (F : FrA A S h h') (hA : ∀ a ∈ A, a ∈ A') (hS : ∀ k ∈ S, k ∈ S') : FrA A' S' h h' := ⟨fun a h1 h2 => F.1 a h1 (fun q => h2 (hA a q)), fun k hk => F.2 k (fun q => hk (hS k q))⟩
theorem FrA.up {A S : List Nat} {h h' : Hp} {a k : Nat} {v : Int32} (F : FrA A S h h') (h73 : a ≠ 73) (ha : a ∈ A) : FrA A S h (up2 h' a k v) := ⟨fun b h1 h2 => by rw [up2_row (fun e => h2 (by rw [e]; exact ha))]; exact F.1 b h1 h2, fun j hj => by rw [up2_row (Ne.symm h73)]; exact F.2 j hj⟩
theorem FrA.fld {A S : List Nat} {h h' : Hp} {k : Nat} {v : Int32} (F : FrA A S h h') (hk : k ∈ S) : FrA A S h (up2 h' 73 k v) := ⟨fun b h1 h2 => by rw [up2_row h1]; exact F.1 b h1 h2, fun j hj => by rw [up2_ne (fun e => hj (by rw [e]; exact hk))]; exact F.2 j hj⟩
theorem FrA.rm {A S : List Nat} {h h' : Hp} {σ : WS} (F : FrA A S h h') (R : RM σ h) (hA : ∀ a ∈ A, 82 < a) (hS : 0 ∉ S ∧ 6 ∉ S ∧ 11 ∉ S) : RM σ h' :=
  ⟨by rw [F.2 0 hS.1]; exact R.1, by rw [F.2 6 hS.2.1]; exact R.2.1, by rw [F.2 11 hS.2.2]; exact R.2.2.1, fun j k hj hk => by rw [F.1 (74 + j) (by omega) (fun q => by have := hA _ q; omega)]; exact R.2.2.2 j k hj hk⟩
theorem FrA.rp {A S : List Nat} {h h' : Hp} {p : PS} (F : FrA A S h h') (R : RMP p h) (hA : 83 ∉ A) (hS : 13 ∉ S) : RMP p h' :=
  ⟨by rw [F.2 13 hS]; exact R.1, fun k hk => by rw [F.1 83 (by decide) hA]; exact R.2 k hk⟩
abbrev TA : List Nat := [84, 85, 86, 87, 88, 89, 90, 91, 92, 93, 94, 95, 96, 97]
abbrev TS : List Nat := [15, 16, 17, 18, 21, 22, 24, 34, 35]
abbrev FrX : Hp → Hp → Prop := FrA TA TS
theorem FrA.m {A S : List Nat} {h h' : Hp} (F : FrA A S h h') (hA : ∀ a ∈ A, 73 ≤ a) : FrM h h' := fun a ha => F.1 a (by omega) (fun q => by have := hA a q; omega)
theorem FrQ.t {h h' : Hp} (F : FrQ h h') : FrX h h' := ⟨fun a h1 h2 => F.1 a h1 (by simp at h2; omega), fun k hk => F.2 k (by simp at hk; omega)⟩
theorem RMo.wood {G : GS} {h h' : Hp} {σ : WS} (R : RMo G h) (Rw : RM σ h') (F : ∀ a, a = 83 ∨ 98 ≤ a → h' a = h a) (F13 : h' 73 13 = h 73 13) : RMo (mkS G σ) h' :=
  ⟨Rw, ⟨by rw [F13]; exact R.2.1.1, fun k hk => by rw [F 83 (by omega)]; exact R.2.1.2 k hk⟩, by rw [F 99 (by omega)]; exact R.2.2.1, by rw [F 99 (by omega)]; exact R.2.2.2.1, fun k t ht => by rw [F 98 (by omega)]; exact R.2.2.2.2.1 k t ht, fun k t ht => by rw [F 98 (by omega)]; exact R.2.2.2.2.2 k t ht⟩
theorem RMo.same {G : GS} {h h' : Hp} (R : RMo G h) (Rw : RM (gS G) h') (F : ∀ a, a = 83 ∨ 98 ≤ a → h' a = h a) (F13 : h' 73 13 = h 73 13) : RMo G h' := R.wood Rw F F13
theorem RMo.t {G : GS} {h h' : Hp} (R : RMo G h) (F : FrX h h') : RMo G h' ∧ FrM h h' :=
  ⟨R.same (F.rm R.1 (by decide) (by decide)) (fun a ha => F.1 a (by omega) (by simp; omega)) (F.2 13 (by decide)), F.m (by decide)⟩
theorem RM.set {σ : WS} {h : Hp} (R : RM σ h) {j k v : Nat} : RM (setA σ j k v) (up2 h (74 + j) k (nI v)) := by
  refine ⟨up2_get (by omega) R.1, up2_get (by omega) R.2.1, up2_get (by omega) R.2.2.1, fun a b ha hb => ?_⟩
  by_cases e : a = j
  · subst e
    rw [up2_at]
    by_cases e2 : b = k
    · subst e2
      simp [setA, sA]
    · rw [if_neg e2]
      have := R.2.2.2 a b ha hb
      simpa [setA, sA, e2] using this
  · rw [up2_row (by omega)]
    have := R.2.2.2 a b ha hb
    simpa [setA, sA, e] using this
theorem RM.cong {σ τ : WS} {h : Hp} (R : RM σ h) (e0 : sN σ = sN τ) (e1 : sKn σ = sKn τ) (e2 : sSg σ = sSg τ) (e3 : ∀ j k, j < 9 → k < alen j → sA σ j k = sA τ j k) : RM τ h :=
  ⟨by rw [← e0]; exact R.1, by rw [← e1]; exact R.2.1, by rw [← e2]; exact R.2.2.1, fun j k hj hk => by rw [← e3 j k hj hk]; exact R.2.2.2 j k hj hk⟩
theorem RM.f {σ : WS} {h h' : Hp} (R : RM σ h) (f : ∀ a, 74 ≤ a → a ≤ 82 → h' a = h a) (f0 : h' 73 0 = h 73 0) (f6 : h' 73 6 = h 73 6) (f11 : h' 73 11 = h 73 11) : RM σ h' :=
  ⟨by rw [f0]; exact R.1, by rw [f6]; exact R.2.1, by rw [f11]; exact R.2.2.1, fun j k hj hk => by rw [f (74 + j) (by omega) (by omega)]; exact R.2.2.2 j k hj hk⟩
theorem setA_id {σ : WS} {j k : Nat} : setA σ j k (sA σ j k) = σ := by
  have : (fun a b => if a = j ∧ b = k then sA σ j k else sA σ a b) = sA σ := by
    funext a b
    split
    · rename_i e; rw [e.1, e.2]
    · rfl
  unfold setA
  rw [this]
  rfl
theorem RMP.f {p : PS} {h h' : Hp} (R : RMP p h) (f : h' 83 = h 83) (f0 : h' 73 13 = h 73 13) : RMP p h' := ⟨by rw [f0]; exact R.1, fun k hk => by rw [f]; exact R.2 k hk⟩
theorem RMo.pad {G : GS} {h h' : Hp} {p : PS} (R : RMo G h) (Rp : RMP p h') (F : ∀ a, a ≠ 73 → a ≠ 83 → h' a = h a) (F0 : ∀ k, k ≠ 13 → h' 73 k = h 73 k) : RMo (mkP G p) h' :=
  ⟨R.1.f (fun a h1 h2 => F a (by omega) (by omega)) (F0 0 (by decide)) (F0 6 (by decide)) (F0 11 (by decide)), Rp, by rw [F 99 (by decide) (by decide)]; exact R.2.2.1, by rw [F 99 (by decide) (by decide)]; exact R.2.2.2.1, fun k t ht => by rw [F 98 (by decide) (by decide)]; exact R.2.2.2.2.1 k t ht, fun k t ht => by rw [F 98 (by decide) (by decide)]; exact R.2.2.2.2.2 k t ht⟩
theorem pcz_step : ∀ x, x < 64 → x ≠ 0 → (x &&& (x - 1)) < 64 ∧ pcz x = pcz (x &&& (x - 1)) + 1 := by decide +kernel
theorem pcz_0 : ∀ x, x < 64 → pcz x = 0 → x = 0 := by decide +kernel
theorem pcz_6 : ∀ x, x < 64 → pcz x ≤ 6 := by decide +kernel
