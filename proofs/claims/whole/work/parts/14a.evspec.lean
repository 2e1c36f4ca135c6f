theorem up2_same {h : Hp} {a k : Nat} {v : Int32} : up2 h a k v a k = v := by simp [up2, va_up, upd]
theorem up2_row {h : Hp} {a k b : Nat} {v : Int32} (hb : b ≠ a) : up2 h a k v b = h b := by simp [up2, va_up, hb]
theorem up2_ne {h : Hp} {a k j : Nat} {v : Int32} (hj : j ≠ k) : up2 h a k v a j = h a j := by simp [up2, va_up, upd, hj]
theorem up2_at {h : Hp} {a k j : Nat} {v : Int32} : up2 h a k v a j = if j = k then v else h a j := by simp [up2, va_up, upd]
theorem up2_get {h : Hp} {a k b j : Nat} {v x : Int32} (hb : b ≠ a) (e : h b j = x) : up2 h a k v b j = x := by rw [up2_row hb]; exact e
theorem up2_gne {h : Hp} {a k j : Nat} {v x : Int32} (hj : j ≠ k) (e : h a j = x) : up2 h a k v a j = x := by rw [up2_ne hj]; exact e
theorem vup_same {h : Hp} {a : Nat} {f : Nat → Int32} : va_up h a f a = f := by simp [va_up]
theorem vup_row {h : Hp} {a b : Nat} {f : Nat → Int32} (hb : b ≠ a) : va_up h a f b = h b := by simp [va_up, hb]
theorem cpy0 {f g : Nat → Int32} {n k : Nat} (hk : k < n) : va_cpy f g 0 0 n k = f k := by simp [va_cpy, hk]
theorem RWf {w : Nat} {σ : WS} {h h' : Hp} (hf : ∀ a, w ≤ a → a ≤ w + 9 → h' a = h a) (R : RW w σ h) : RW w σ h' := by
  refine ⟨by rw [hf w (by omega) (by omega)]; exact R.1, by rw [hf w (by omega) (by omega)]; exact R.2.1, by rw [hf w (by omega) (by omega)]; exact R.2.2.1, fun j k hj hk => ?_⟩
  rw [hf (w + 1 + j) (by omega) (by omega)]
  exact R.2.2.2 j k hj hk
def updN (f : Nat → Nat) (k v : Nat) : Nat → Nat := fun j => if j = k then v else f j
abbrev EV : Type := (Nat → Nat) × (Nat → Nat) × Nat × Nat × Nat
def hr1 (σ : WS) (w k : Nat) (e : EV) : EV := if qz σ w k (e.1 k) ≤ e.2.1 k then (updN e.1 k (tz σ k (e.1 k) (qz σ w k (e.1 k))), updN e.2.1 k (e.2.1 k - qz σ w k (e.1 k)), e.2.2.1 + qz σ w k (e.1 k), e.2.2.2.1, e.2.2.2.2) else (e.1, e.2.1, e.2.2.1, e.2.2.2.1 + 1, e.2.2.2.2)
def hrz (σ : WS) (w : Nat) : Nat → EV → EV
  | 0, e => e
  | k + 1, e => hr1 σ w k (hrz σ w k e)
def thz : Nat → EV → EV
  | 0, e => e
  | k + 1, e => (updN (thz k e).1 k (((thz k e).1 k + 2) % 4), (thz k e).2)
def niz (σ : WS) (e : EV) : EV := (e.1, sA σ 2, e.2.2)
def EOk (σ : WS) (e : EV) : Prop := ∀ k, k < 5 → e.1 k < 4 ∧ e.2.1 k ≤ 30 ∧ (sN σ ≤ k → e.1 k = 0 ∧ e.2.1 k = 9)
theorem hr1_ok {σ : WS} {w k : Nat} {e : EV} (hk : k < sN σ) (h : EOk σ e) : EOk σ (hr1 σ w k e) := by
  intro j hj
  have := h j hj
  unfold hr1
  split
  · by_cases e : j = k
    · subst e
      simp only [updN, if_true]
      exact ⟨tz_lt, by omega, fun q => by omega⟩
    · simp only [updN, e, if_false]
      exact this
  · exact this
theorem hrz_ok {σ : WS} {w : Nat} {e : EV} (h : EOk σ e) : ∀ {k : Nat}, k ≤ sN σ → EOk σ (hrz σ w k e)
  | 0, _ => h
  | k + 1, hk => hr1_ok (by omega) (hrz_ok h (by omega))
theorem thz_ok {σ : WS} {e : EV} (h : EOk σ e) : ∀ {k : Nat}, k ≤ sN σ → EOk σ (thz k e)
  | 0, _ => h
  | k + 1, hk => by
    have h1 := thz_ok h (k := k) (by omega)
    intro j hj
    have := h1 j hj
    unfold thz
    by_cases e : j = k
    · subst e
      simp only [updN, if_true]
      exact ⟨by omega, this.2.1, fun q => by omega⟩
    · simp only [updN, e, if_false]
      exact this
theorem niz_ok {σ : WS} {e : EV} (I : Inv σ) (h : EOk σ e) : EOk σ (niz σ e) := fun j hj => ⟨(h j hj).1, I.mo hj, fun q => ⟨((h j hj).2.2 q).1, (I.2.2.2.2 j q hj).2.2.1⟩⟩
def sgE (s : Nat) : Nat := if s = 42 then 6 else if s = 46 then 7 else s - 97
def evL (ps : Nat → Nat) : Nat → Nat → Option Nat → List Nat
  | 0, _, _ => []
  | m + 1, i, some k => (10 * (k + 1) + wyN (ps i)) :: evL ps m (i + 1) none
  | m + 1, i, none => if isDg (ps i) then evL ps m (i + 1) (some (ps i - 48)) else sgE (ps i) :: evL ps m (i + 1) none
def whz (σ : WS) (e : EV) (x : Nat) : Nat := if x < 6 then (if (sKn σ).testBit x then 0 else 1) else if x ≤ 7 then 0 else (if e.1 (x / 10 - 1) = x % 10 then 0 else 2)
def hpz (σ : WS) (x : Nat) (e : EV) : EV := if x < 6 then hrz σ x (sN σ) e else if x = 6 then thz (sN σ) e else if x = 7 then niz σ e else (e.1, e.2.1, e.2.2.1, e.2.2.2.1, e.2.2.2.2 + 1)
def evr (σ : WS) : List Nat → EV → Nat → EV × Nat × Nat
  | [], e, c => (e, c, 0)
  | x :: t, e, c => if whz σ e x = 0 then evr σ t (hpz σ x e) (c + 1) else (e, c, whz σ e x)
theorem hpz_ok {σ : WS} {e : EV} {x : Nat} (I : Inv σ) (h : EOk σ e) : EOk σ (hpz σ x e) := by
  unfold hpz
  split
  · exact hrz_ok h (Nat.le_refl _)
  · split
    · exact thz_ok h (Nat.le_refl _)
    · split
      · exact niz_ok I h
      · exact h
def ev0 (σ : WS) : EV := (sA σ 0, sA σ 1, 0, 0, 0)
theorem ev0_ok {σ : WS} (I : Inv σ) : EOk σ (ev0 σ) := fun k hk => ⟨I.lk hk, I.lg hk, fun q => ⟨(I.2.2.2.2 k q hk).1, (I.2.2.2.2 k q hk).2.1⟩⟩
def RE (e : EV) (c y : Nat) (h : Hp) : Prop := (∀ k, k < 5 → h 16 k = nI (e.1 k)) ∧ (∀ k, k < 5 → h 17 k = nI (e.2.1 k)) ∧ h 15 0 = nI e.2.2.1 ∧ h 15 1 = nI e.2.2.2.1 ∧ h 15 2 = nI e.2.2.2.2 ∧ h 15 3 = nI c ∧ h 15 4 = nI y
def FrE (h h' : Hp) : Prop := ∀ a, a < 15 ∨ 17 < a → h' a = h a
theorem FrE.rw {h h' : Hp} {σ : WS} (F : FrE h h') (R : RW 1 σ h) : RW 1 σ h' := RWf (fun a _ h2 => F a (by omega)) R
theorem FrE.rp {h h' : Hp} {p : PS} (F : FrE h h') (R : RP p h) : RP p h' := ⟨by rw [F 13 (by omega)]; exact R.1, fun k hk => by rw [F 14 (by omega)]; exact R.2 k hk⟩
theorem FrE.tr {h1 h2 h3 : Hp} (F : FrE h1 h2) (G : FrE h2 h3) : FrE h1 h3 := fun a ha => (G a ha).trans (F a ha)
theorem FrE.rf {h : Hp} : FrE h h := fun _ _ => rfl
theorem FrE.up {h h' : Hp} {a k : Nat} {v : Int32} (F : FrE h h') (ha : 15 ≤ a) (hb : a ≤ 17) : FrE h (up2 h' a k v) := fun b hb2 => by rw [up2_row (by omega)]; exact F b hb2
theorem RE.why {e : EV} {c y y' : Nat} {h : Hp} (E : RE e c y h) : RE e c y' (up2 h 15 4 (nI y')) :=
  ⟨fun k hk => up2_get (by decide) (E.1 k hk), fun k hk => up2_get (by decide) (E.2.1 k hk), up2_gne (by decide) E.2.2.1, up2_gne (by decide) E.2.2.2.1, up2_gne (by decide) E.2.2.2.2.1, up2_gne (by decide) E.2.2.2.2.2.1, up2_same⟩
theorem RE.evs {e : EV} {c c' y : Nat} {h : Hp} (E : RE e c y h) : RE e c' y (up2 h 15 3 (nI c')) :=
  ⟨fun k hk => up2_get (by decide) (E.1 k hk), fun k hk => up2_get (by decide) (E.2.1 k hk), up2_gne (by decide) E.2.2.1, up2_gne (by decide) E.2.2.2.1, up2_gne (by decide) E.2.2.2.2.1, up2_same, up2_gne (by decide) E.2.2.2.2.2.2⟩
theorem RE.let {e : EV} {c y : Nat} {h : Hp} (E : RE e c y h) : RE (e.1, e.2.1, e.2.2.1, e.2.2.2.1, e.2.2.2.2 + 1) c y (up2 h 15 2 (nI (e.2.2.2.2 + 1))) :=
  ⟨fun k hk => up2_get (by decide) (E.1 k hk), fun k hk => up2_get (by decide) (E.2.1 k hk), up2_gne (by decide) E.2.2.1, up2_gne (by decide) E.2.2.2.1, up2_same, up2_gne (by decide) E.2.2.2.2.2.1, up2_gne (by decide) E.2.2.2.2.2.2⟩
def knE (e : EV) (k w : Nat) : EV := if e.1 k = w then (e.1, e.2.1, e.2.2.1, e.2.2.2.1, e.2.2.2.2 + 1) else e
theorem knE_hp {σ : WS} {e : EV} {k w : Nat} (hk : k < 5) (hw : w < 4) : whz σ e (10 * (k + 1) + w) = (if e.1 k = w then 0 else 2) ∧ (e.1 k = w → hpz σ (10 * (k + 1) + w) e = knE e k w) := by
  have h1 : (10 * (k + 1) + w) / 10 - 1 = k := by omega
  have h2 : (10 * (k + 1) + w) % 10 = w := by omega
  refine ⟨?_, fun h => ?_⟩
  · rw [whz, if_neg (by omega), if_neg (by omega), h1, h2]
  · rw [hpz, if_neg (by omega), if_neg (by omega), if_neg (by omega), knE, if_pos h]
theorem knE_ok {σ : WS} {e : EV} {k w : Nat} (h : EOk σ e) : EOk σ (knE e k w) := by
  unfold knE
  split <;> exact h
def dwz (σ : WS) : Nat → Nat → Nat → EV → EV
  | 0, _, _, e => e
  | m + 1, d, x, e =>
    let x' := (75 * x + 74) % 65537
    let e1 := if (sKn σ).testBit (x' % 6) then hrz σ (x' % 6) (sN σ) e else e
    let e2 := if x' / 6 % 10 = 0 then thz (sN σ) e1 else e1
    let e3 := if d % 5 = 0 then niz σ e2 else e2
    dwz σ m (d + 1) x' e3
