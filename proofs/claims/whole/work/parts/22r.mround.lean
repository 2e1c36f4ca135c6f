def nxS (σ : WS) (s b v y : Nat) : Nat := 32 * trz σ v (y / 32) + ((y % 32) ||| drz s (trz σ v (y / 32)) b 5)
def zqS (σ : WS) (s b : Nat) : Nat := 32 * nuz σ + drz s (nuz σ) b 5
theorem or32 {p s x b : Nat} (hp : p < 32) : (p ||| drz s x b 5) < 32 := Nat.or_lt_two_pow (n := 5) hp drz_lt
theorem nxS_ok {σ : WS} {s b v y : Nat} : nxS σ s b v y / 32 = trz σ v (y / 32) ∧ nxS σ s b v y % 32 = (y % 32) ||| drz s (trz σ v (y / 32)) b 5 := by
  have := or32 (p := y % 32) (s := s) (x := trz σ v (y / 32)) (b := b) (Nat.mod_lt _ (by decide))
  unfold nxS
  omega
theorem nxS_lt {σ : WS} (J : Inv σ) {s b v y : Nat} : nxS σ s b v y < 32768 := by
  have h1 := or32 (p := y % 32) (s := s) (x := trz σ v (y / 32)) (b := b) (Nat.mod_lt _ (by decide))
  have h2 := trz_1024 J (w := v) (l := y / 32)
  unfold nxS
  omega
theorem zqS_ok {σ : WS} {s b : Nat} : zqS σ s b / 32 = nuz σ ∧ zqS σ s b % 32 = drz s (nuz σ) b 5 := by
  have : drz s (nuz σ) b 5 < 32 := drz_lt
  unfold zqS
  omega
theorem zqS_lt {σ : WS} (J : Inv σ) {s b : Nat} : zqS σ s b < 32768 := by
  have h1 : drz s (nuz σ) b 5 < 32 := drz_lt
  have h2 := nuz_1024 J
  unfold zqS
  omega
def QS (σ : WS) (W s b i w : Nat) (Q : List Nat) (D : Nat → Nat) : Prop :=
  (∀ (j y : Nat), Q[j]? = some y → y < 32768 ∧ 0 < D y ∧ D y ≤ j + 1 ∧ rch σ W s b (D y - 1) (y / 32) (y % 32)) ∧
  Q.length = cnz (fun y => decide (0 < D y)) 32768 ∧
  (∀ y, 0 < D y → ∃ j : Nat, Q[j]? = some y) ∧
  (∀ (j k a c : Nat), j ≤ k → Q[j]? = some a → Q[k]? = some c → D a ≤ D c) ∧
  (∀ (x k c : Nat), Q[i]? = some x → Q[k]? = some c → D c ≤ D x + 1) ∧
  (∀ (j y v : Nat), Q[j]? = some y → (j < i ∨ (j = i ∧ v < w)) → v < 6 → W.testBit v = true → 0 < D (nxS σ s b v y) ∧ D (nxS σ s b v y) ≤ D y + 1) ∧
  (∀ (j y : Nat), j < i → Q[j]? = some y → y % 32 ≠ s) ∧
  D (zqS σ s b) = 1
section Qs22
variable {σ : WS} {W s b i w : Nat} {Q : List Nat} {D : Nat → Nat}
theorem QS.st (J : Inv σ) : QS σ W s b 0 0 [zqS σ s b] (fun y => if y = zqS σ s b then 1 else 0) := by
  have sl := zqS_lt J (s := s) (b := b)
  have one : ∀ (j y : Nat), [zqS σ s b][j]? = some y → j = 0 ∧ y = zqS σ s b := by
    intro j y h
    have h0 : j < 1 := (List.getElem?_eq_some_iff.mp h).1
    exact ⟨by omega, List.mem_singleton.mp (List.mem_of_getElem? h)⟩
  refine ⟨fun j y h => ?_, ?_, fun y h => ?_, fun j k a c _ h1 h2 => ?_, fun x k c h1 h2 => ?_, fun j y v h q => ?_, fun j y h => ?_, ?_⟩
  · obtain ⟨_, rfl⟩ := one j y h
    simp only [if_pos]
    exact ⟨sl, by decide, by omega, rch_0.mpr zqS_ok⟩
  · have := cnz_up (p := fun _ => false) (q := fun y => decide (0 < (if y = zqS σ s b then 1 else 0))) (k := zqS σ s b) rfl (by rw [if_pos rfl]; rfl) (fun j hj => by rw [if_neg hj]; rfl) sl
    rw [cnz_0 (p := fun _ => false) (fun _ _ => rfl)] at this
    rw [this]
    rfl
  · by_cases e : y = zqS σ s b
    · exact ⟨0, by rw [e]; rfl⟩
    · simp only [if_neg e] at h
      omega
  · rw [(one _ _ h1).2, (one _ _ h2).2]
    exact Nat.le_refl _
  · rw [(one _ _ h1).2, (one _ _ h2).2]
    omega
  · omega
  · exact absurd h (Nat.not_lt_zero _)
  · exact if_pos rfl
theorem QS.len (S : QS σ W s b i w Q D) : Q.length ≤ 32768 := by rw [S.2.1]; exact cnz_le
theorem QS.room (S : QS σ W s b i w Q D) {t : Nat} (ht : t < 32768) (h : D t = 0) : Q.length < 32768 := by rw [S.2.1]; exact cnz_lt (by rw [h]; rfl) ht
theorem QS.unk (S : QS σ W s b i w Q D) (h : W.testBit w = false) : QS σ W s b i (w + 1) Q D := by
  obtain ⟨q1, q2, q3, q4, q5, q6, q7, q8⟩ := S
  refine ⟨q1, q2, q3, q4, q5, fun j y v hj hq hv ht => ?_, q7, q8⟩
  by_cases e : v = w
  · rw [e, h] at ht; cases ht
  · exact q6 j y v hj (by omega) hv ht
theorem QS.keep (S : QS σ W s b i w Q D) {x : Nat} (hx : Q[i]? = some x) (h : D (nxS σ s b w x) ≠ 0) : QS σ W s b i (w + 1) Q D := by
  obtain ⟨q1, q2, q3, q4, q5, q6, q7, q8⟩ := S
  refine ⟨q1, q2, q3, q4, q5, fun j y v hj hq hv ht => ?_, q7, q8⟩
  by_cases e : j = i ∧ v = w
  · rw [e.1, hx] at hj
    rw [← Option.some.inj hj, e.2]
    obtain ⟨k, hk⟩ := q3 _ (Nat.pos_of_ne_zero h)
    exact ⟨Nat.pos_of_ne_zero h, q5 x k _ hx hk⟩
  · exact q6 j y v hj (by omega) hv ht
theorem QS.push (J : Inv σ) (S : QS σ W s b i w Q D) {x t : Nat} (hx : Q[i]? = some x) (hw : w < 6) (hb : W.testBit w = true) (ht : nxS σ s b w x = t) (h : D t = 0) : QS σ W s b i (w + 1) (Q ++ [t]) (updN D t (D x + 1)) := by
  have tl : t < 32768 := by rw [← ht]; exact nxS_lt J
  obtain ⟨q1, q2, q3, q4, q5, q6, q7, q8⟩ := S
  have x1 := q1 i x hx
  have il : i < Q.length := (List.getElem?_eq_some_iff.mp hx).1
  have old : ∀ y, D y ≠ 0 → updN D t (D x + 1) y = D y := fun y hy => by
    rw [updN, if_neg (fun e => by rw [e] at hy; exact hy h)]
  have new : updN D t (D x + 1) t = D x + 1 := by rw [updN, if_pos rfl]
  have at' : ∀ (j y : Nat), (Q ++ [t])[j]? = some y → Q[j]? = some y ∨ (j = Q.length ∧ y = t) := by
    intro j y hy
    by_cases e : j < Q.length
    · rw [List.getElem?_append_left e] at hy
      exact Or.inl hy
    · rw [List.getElem?_append_right (by omega)] at hy
      have h0 : j - Q.length < 1 := (List.getElem?_eq_some_iff.mp hy).1
      exact Or.inr ⟨by omega, List.mem_singleton.mp (List.mem_of_getElem? hy)⟩
  have lt' : ∀ (j y : Nat), Q[j]? = some y → j < Q.length := fun j y hy => (List.getElem?_eq_some_iff.mp hy).1
  have dn : ∀ (j y : Nat), Q[j]? = some y → updN D t (D x + 1) y = D y := fun j y hy => old y (by have := (q1 j y hy).2.1; omega)
  have up' : ∀ (j y : Nat), Q[j]? = some y → (Q ++ [t])[j]? = some y := fun j y hy => by rw [List.getElem?_append_left (lt' j y hy)]; exact hy
  refine ⟨fun j y hy => ?_, ?_, fun y hy => ?_, fun j k a c hjk ha hc => ?_, fun x' k c hx' hc => ?_, fun j y v hj hq hv hvb => ?_, fun j y hj hy => ?_, ?_⟩
  · rcases at' j y hy with g | ⟨g1, g2⟩
    · rw [dn j y g]
      exact q1 j y g
    · rw [g2, new]
      have r := x1.2.2.2
      refine ⟨tl, by omega, by omega, ?_⟩
      rw [Nat.add_sub_cancel]
      have e : D x = (D x - 1) + 1 := by omega
      rw [e]
      refine rch_s.mpr ⟨x / 32, x % 32, w, r, hw, hb, ?_, ?_⟩
      · rw [← ht]; exact nxS_ok.1
      · rw [← ht]; exact nxS_ok.2
  · rw [List.length_append, q2]
    exact (cnz_up (p := fun y => decide (0 < D y)) (q := fun y => decide (0 < updN D t (D x + 1) y)) (k := t) (by rw [h]; rfl) (by rw [new]; exact decide_eq_true (by omega)) (fun j hj => by rw [updN, if_neg hj]) tl).symm
  · by_cases e : y = t
    · exact ⟨Q.length, by rw [e, List.getElem?_append_right (Nat.le_refl _), Nat.sub_self]; rfl⟩
    · rw [updN, if_neg e] at hy
      obtain ⟨j, hj⟩ := q3 y hy
      exact ⟨j, up' j y hj⟩
  · rcases at' j a ha with g | ⟨g1, g2⟩
    · rcases at' k c hc with f | ⟨f1, f2⟩
      · rw [dn j a g, dn k c f]
        exact q4 j k a c hjk g f
      · rw [dn j a g, f2, new]
        exact q5 x j a hx g
    · rcases at' k c hc with f | ⟨f1, f2⟩
      · have := lt' k c f
        omega
      · rw [g2, f2]
        exact Nat.le_refl _
  · rcases at' i x' hx' with g | ⟨g1, g2⟩
    · rw [hx] at g
      rw [← Option.some.inj g, dn i x hx]
      rcases at' k c hc with f | ⟨f1, f2⟩
      · rw [dn k c f]
        exact q5 x k c hx f
      · rw [f2, new]
        exact Nat.le_refl _
    · omega
  · rcases at' j y hj with g | ⟨g1, g2⟩
    · rw [dn j y g]
      by_cases e : j = i ∧ v = w
      · rw [e.1, hx] at g
        rw [← Option.some.inj g, e.2, ht, new]
        exact ⟨by omega, by omega⟩
      · have := q6 j y v g (by omega) hv hvb
        rw [old _ (by omega)]
        exact this
    · omega
  · rcases at' j y hy with g | ⟨g1, g2⟩
    · exact q7 j y hj g
    · omega
  · rw [old _ (by rw [q8]; decide)]
    exact q8
theorem QS.next (S : QS σ W s b i 6 Q D) {x : Nat} (hx : Q[i]? = some x) (h : x % 32 ≠ s) : QS σ W s b (i + 1) 0 Q D := by
  obtain ⟨q1, q2, q3, q4, q5, q6, q7, q8⟩ := S
  refine ⟨q1, q2, q3, q4, fun x' k c hx' hc => ?_, fun j y v hj hq hv hvb => q6 j y v hj (by omega) hv hvb, fun j y hj hy => ?_, q8⟩
  · have := q5 x k c hx hc
    have := q4 i (i + 1) x x' (by omega) hx hx'
    omega
  · by_cases e : j = i
    · rw [e, hx] at hy
      rw [← Option.some.inj hy]
      exact h
    · exact q7 j y (by omega) hy
theorem QS.hit (S : QS σ W s b i 0 Q D) {x : Nat} (hx : Q[i]? = some x) (h : x % 32 = s) : roA σ W s b (nI (D x - 1 + pcz s)) := by
  obtain ⟨q1, q2, q3, q4, q5, q6, q7, q8⟩ := S
  have x1 := q1 i x hx
  have key : ∀ (t y p : Nat), rch σ W s b t y p → t < D x - 1 → ∃ (j : Nat), j < i ∧ ∃ z, Q[j]? = some z ∧ z / 32 = y ∧ z % 32 = p ∧ D z ≤ t + 1 := by
    have bef : ∀ (t z : Nat), 0 < D z → D z ≤ t + 1 → t < D x - 1 → ∃ j : Nat, j < i ∧ Q[j]? = some z := by
      intro t z z0 zt tu
      obtain ⟨j, hj⟩ := q3 z z0
      refine ⟨j, ?_, hj⟩
      apply Nat.lt_of_not_le
      intro g
      have := q4 i j x z g hx hj
      omega
    intro t
    induction t with
    | zero =>
      intro y p hr tu
      obtain ⟨rfl, rfl⟩ := rch_0.mp hr
      obtain ⟨j, j1, j2⟩ := bef 0 (zqS σ s b) (by rw [q8]; decide) (by rw [q8]; decide) tu
      exact ⟨j, j1, _, j2, zqS_ok.1, zqS_ok.2, by rw [q8]; exact Nat.le_refl _⟩
    | succ t ih =>
      intro y p hr tu
      obtain ⟨y', p', v, h1, v1, v2, rfl, rfl⟩ := rch_s.mp hr
      obtain ⟨j, j1, z, j2, j3, j4, j5⟩ := ih y' p' h1 (by omega)
      have n := q6 j z v j2 (Or.inl j1) v1 v2
      obtain ⟨k, k1, k2⟩ := bef (t + 1) (nxS σ s b v z) n.1 (by omega) tu
      refine ⟨k, k1, _, k2, ?_, ?_, by omega⟩
      · rw [nxS_ok.1, j3]
      · rw [nxS_ok.2, j3, j4]
  have r0 := x1.2.2.2
  rw [h] at r0
  refine Or.inl ⟨D x - 1, x / 32, rfl, r0, fun t y hr => ?_⟩
  apply Nat.le_of_not_lt
  intro g
  obtain ⟨j, j1, z, j2, j3, j4, j5⟩ := key t y s hr g
  exact q7 j z j1 j2 j4
theorem QS.fin (S : QS σ W s b i 0 Q D) (hi : Q.length ≤ i) : roA σ W s b (-6) := by
  obtain ⟨q1, q2, q3, q4, q5, q6, q7, q8⟩ := S
  have lt' : ∀ (j y : Nat), Q[j]? = some y → j < i := fun j y hy => by
    have := (List.getElem?_eq_some_iff.mp hy).1
    omega
  have key : ∀ (t y p : Nat), rch σ W s b t y p → ∃ (j : Nat) (z : Nat), Q[j]? = some z ∧ z / 32 = y ∧ z % 32 = p := by
    intro t
    induction t with
    | zero =>
      intro y p hr
      obtain ⟨rfl, rfl⟩ := rch_0.mp hr
      obtain ⟨j, hj⟩ := q3 (zqS σ s b) (by rw [q8]; decide)
      exact ⟨j, _, hj, zqS_ok.1, zqS_ok.2⟩
    | succ t ih =>
      intro y p hr
      obtain ⟨y', p', v, h1, v1, v2, rfl, rfl⟩ := rch_s.mp hr
      obtain ⟨j, z, j2, j3, j4⟩ := ih y' p' h1
      have n := q6 j z v j2 (Or.inl (lt' j z j2)) v1 v2
      obtain ⟨k, hk⟩ := q3 _ n.1
      refine ⟨k, _, hk, ?_, ?_⟩
      · rw [nxS_ok.1, j3]
      · rw [nxS_ok.2, j3, j4]
  refine Or.inr ⟨rfl, fun t y hr => ?_⟩
  obtain ⟨j, z, j2, j3, j4⟩ := key t y s hr
  exact q7 j z (lt' j z j2) j2 j4
end Qs22
