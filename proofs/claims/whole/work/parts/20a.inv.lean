theorem InvG.s {G : GS} (I : InvG G) {σ : WS} (h : Inv σ) : InvG (mkS G σ) := ⟨h, I.2⟩
theorem InvG.p {G : GS} (I : InvG G) {p : PS} (h : InvP p) : InvG (mkP G p) := ⟨I.1, h, I.2.2⟩
theorem nHuts_inv {G : GS} (I : InvG G) (v : Int32) : InvG (nHuts G v) := by
  unfold nHuts
  split
  · rename_i c
    obtain ⟨k, k1, k5, rfl⟩ := win_of (by decide) (by decide) c
    have e : cl (nI k) = k := nI_clamp (by omega)
    rw [e]
    exact I.s (pl_inv I.1 k1 k5)
  · exact I
theorem nHut_inv {G : GS} (I : InvG G) (hu wh v : Int32) : InvG (nHut G hu wh v) := by
  unfold nHut
  split
  · rename_i c
    unfold okHut at c
    rw [Bool.and_eq_true, Bool.and_eq_true, Bool.and_eq_true] at c
    obtain ⟨⟨c1, c2, c3⟩, c4⟩ := c
    obtain ⟨k, k1, rfl, kc⟩ := hasH_of I.1 c1
    obtain ⟨w, _, w3, rfl⟩ := win_of (by decide) (by decide) c2
    have wc : cl (nI w) = w := nI_clamp (by omega)
    rw [wc] at c3
    have mb : moz w ≤ 30 := by
      unfold moz
      split
      · omega
      · split <;> omega
    obtain ⟨x, _, x3, rfl⟩ := win_of (by decide) (by omega) c3
    have xc : cl (nI x) = x := nI_clamp (by omega)
    rw [kc, wc, xc]
    refine I.s ?_
    unfold alz
    have hw : w = 0 ∨ w = 1 ∨ w = 2 ∨ w = 3 := by omega
    rcases hw with rfl | rfl | rfl | rfl
    · have : x ≤ 3 := x3
      exact setA_inv I.1 k1 (Or.inl ⟨rfl, by omega⟩)
    · have : x ≤ 30 := x3
      exact setA_inv (setA_inv I.1 k1 (Or.inr (Or.inl ⟨rfl, this⟩))) k1 (Or.inr (Or.inr (Or.inl ⟨rfl, this⟩)))
    · have : x ≤ 3 := x3
      exact setA_inv I.1 k1 (Or.inr (Or.inr (Or.inr (Or.inl ⟨rfl, by omega⟩))))
    · have : x ≤ 24 := x3
      exact setA_inv I.1 k1 (Or.inr (Or.inr (Or.inr (Or.inr ⟨rfl, by omega⟩))))
  · exact I
theorem nSay_inv {G : GS} (I : InvG G) (v : Int32) : InvG (nSay G v) := by
  unfold nSay
  split
  · rename_i c
    rw [Bool.and_eq_true] at c
    obtain ⟨k, k1, k2, rfl⟩ := win_of (by decide) (by decide) c.1
    have e : cl (nI k) = k := nI_clamp (by omega)
    have c2 := of_decide_eq_true c.2
    rw [e]
    refine I.p ⟨by show (gP G).1 + 1 ≤ 60; omega, fun j hj => ?_⟩
    show updN (gP G).2 (gP G).1 k j ≤ 126
    rw [updN]
    split
    · exact k2
    · exact I.2.1.2 j hj
  · exact I
theorem nWipe_inv {G : GS} (I : InvG G) : InvG (nWipe G) := I.p ⟨Nat.zero_le _, I.2.1.2⟩
theorem nWord_inv {G : GS} (I : InvG G) (v : Int32) : InvG (nWord G v) := by
  unfold nWord
  split
  · rename_i c
    unfold okW at c
    rw [Bool.and_eq_true] at c
    obtain ⟨w, _, w5, rfl⟩ := win_of (by decide) (by decide) c.1
    have e : cl (nI w) = w := nI_clamp (by omega)
    obtain ⟨s1, s2⟩ := spz_eq I.2.1.1 (of_decide_eq_true c.2)
    rw [e]
    refine ⟨?_, ⟨Nat.zero_le _, I.2.1.2⟩, I.2.2⟩
    obtain ⟨i1, i2, i3, i4, i5⟩ := I.1
    refine ⟨⟨i1.1, i1.2.1, orz_lt _ i1.2.2.1 w (by omega), i1.2.2.2⟩, i2, fun k hk => ?_, i4, i5⟩
    show (if 5 = 5 ∧ 5 * w ≤ k ∧ k < 5 * w + sN (gS G) then (gP G).2 (k - 5 * w) - 48 else sA (gS G) 5 k) < 4
    split
    · rename_i q
      have := s2 (k - 5 * w) (by omega)
      omega
    · exact i3 k hk
  · exact I
theorem nUnword_inv {G : GS} (I : InvG G) (v : Int32) : InvG (nUnword G v) := by
  unfold nUnword
  split
  · rename_i c
    obtain ⟨k, k6, rfl, _⟩ := kwz_of c
    have e : cl (nI k) = k := nI_clamp (by omega)
    rw [e]
    obtain ⟨i1, i2⟩ := I.1
    exact I.s ⟨⟨i1.1, i1.2.1, clz_lt _ i1.2.2.1 k k6, i1.2.2.2⟩, i2⟩
  · exact I
theorem evr_ok {σ : WS} (J : Inv σ) : ∀ {l : List Nat} {e : EV} {c : Nat}, EOk σ e → EOk σ (evr σ l e c).1
  | [], _, _, h => h
  | x :: t, e, c, h => by
    rw [evr]
    split
    · exact evr_ok J (hpz_ok J h)
    · exact h
theorem dnz_0 {σ : WS} {e : EV} {k : Nat} (hk : k < 5) : sA (dnz σ e) 0 k = e.1 k := by
  show (if 0 = 0 ∧ k < 5 then e.1 k else if 0 = 1 ∧ k < 5 then e.2.1 k else sA σ 0 k) = _
  rw [if_pos ⟨rfl, hk⟩]
theorem dnz_1 {σ : WS} {e : EV} {k : Nat} (hk : k < 5) : sA (dnz σ e) 1 k = e.2.1 k := by
  show (if 1 = 0 ∧ k < 5 then e.1 k else if 1 = 1 ∧ k < 5 then e.2.1 k else sA σ 1 k) = _
  rw [if_neg (by omega), if_pos ⟨rfl, hk⟩]
theorem dnz_o {σ : WS} {e : EV} {j k : Nat} (hj : 2 ≤ j) : sA (dnz σ e) j k = sA σ j k := by
  show (if j = 0 ∧ k < 5 then e.1 k else if j = 1 ∧ k < 5 then e.2.1 k else sA σ j k) = _
  rw [if_neg (by omega), if_neg (by omega)]
theorem nDone_inv {G : GS} (I : InvG G) : InvG (nDone G) := by
  unfold nDone
  split
  · have O : EOk (gS G) (evG G).1 := evr_ok I.1 (ev0_ok I.1)
    refine ⟨?_, ⟨Nat.zero_le _, I.2.1.2⟩, I.2.2⟩
    obtain ⟨i1, i2, i3, i4, i5⟩ := I.1
    have D : ∀ k, k < 5 → sA (dnz (gS G) (evG G).1) 0 k = (evG G).1.1 k ∧ sA (dnz (gS G) (evG G).1) 1 k = (evG G).1.2.1 k := fun k hk => ⟨dnz_0 hk, dnz_1 hk⟩
    refine ⟨i1, fun k hk => ?_, i3, i4, fun k h1 hk => ?_⟩
    · have a := i2 k hk
      have o := O k hk
      show sA (dnz (gS G) (evG G).1) 0 k < 4 ∧ sA (dnz (gS G) (evG G).1) 1 k ≤ 30 ∧ sA (dnz (gS G) (evG G).1) 2 k ≤ 30 ∧ sA (dnz (gS G) (evG G).1) 3 k < 4 ∧ sA (dnz (gS G) (evG G).1) 4 k < 25
      rw [dnz_0 hk, dnz_1 hk, dnz_o (by decide), dnz_o (by decide), dnz_o (by decide)]
      exact ⟨o.1, o.2.1, a.2.2⟩
    · have a := i5 k h1 hk
      have o := (O k hk).2.2 h1
      show sA (dnz (gS G) (evG G).1) 0 k = 0 ∧ sA (dnz (gS G) (evG G).1) 1 k = 9 ∧ sA (dnz (gS G) (evG G).1) 2 k = 9 ∧ sA (dnz (gS G) (evG G).1) 3 k = 0 ∧ sA (dnz (gS G) (evG G).1) 4 k = k
      rw [dnz_0 hk, dnz_1 hk, dnz_o (by decide), dnz_o (by decide), dnz_o (by decide)]
      exact ⟨o.1, o.2, a.2.2⟩
  · exact I
theorem nForget_inv {G : GS} (I : InvG G) : InvG (nForget G) := by
  obtain ⟨i1, i2, i3, i4, i5⟩ := I.1
  exact I.s ⟨⟨i1.1, i1.2.1, i1.2.2.1, Nat.zero_le _⟩, i2, i3, fun k hk => absurd hk (Nat.not_lt_zero k), i5⟩
theorem nImage_inv {G : GS} (I : InvG G) (v : Int32) : InvG (nImage G v) := by
  unfold nImage
  split
  · split
    · exact ⟨I.1, I.2.1, fun _ => I.1, I.2.2.2⟩
    · exact ⟨I.1, I.2.1, I.2.2.1, fun _ => I.1⟩
  · exact I
theorem nRestore_inv {G : GS} (I : InvG G) (v : Int32) : InvG (nRestore G v) := by
  unfold nRestore
  split
  · rename_i c
    rw [Bool.and_eq_true] at c
    have c2 := c.2
    unfold kpt at c2
    split
    · rename_i q
      rw [if_pos q] at c2
      exact I.s (I.2.2.1 c2)
    · rename_i q
      rw [if_neg q] at c2
      exact I.s (I.2.2.2 c2)
  · exact I
theorem nSeen_inv {G : GS} (I : InvG G) (hu ev wy' : Int32) : InvG (nSeen G hu ev wy') := by
  unfold nSeen
  split
  · rename_i c
    rw [Bool.and_eq_true, Bool.and_eq_true, Bool.and_eq_true] at c
    obtain ⟨⟨c1, c2, c3⟩, c4⟩ := c
    have c5 := of_decide_eq_true c4
    obtain ⟨k, k1, rfl, kc⟩ := hasH_of I.1 c1
    obtain ⟨x, _, x30, rfl⟩ := win_of (by decide) (by decide) c2
    obtain ⟨y, _, y3, rfl⟩ := win_of (by decide) (by decide) c3
    have xc : cl (nI x) = x := nI_clamp (by omega)
    have yc : cl (nI y) = y := nI_clamp (by omega)
    rw [kc, xc, yc]
    refine I.s ?_
    obtain ⟨i1, i2, i3, i4, i5⟩ := I.1
    have ot : ∀ j i, j < 6 → sA (sez (gS G) k x y) j i = sA (gS G) j i := fun j i hj => by
      show (if j = 8 ∧ i = sSg (gS G) then y else (if j = 7 ∧ i = sSg (gS G) then x else (if j = 6 ∧ i = sSg (gS G) then k else sA (gS G) j i))) = _
      rw [if_neg (by omega), if_neg (by omega), if_neg (by omega)]
    refine ⟨⟨i1.1, i1.2.1, i1.2.2.1, by show sSg (gS G) + 1 ≤ 6; omega⟩, fun j hj => ?_, fun j hj => ?_, fun j hj => ?_, fun j h1 hj => ?_⟩
    · rw [ot 0 j (by decide), ot 1 j (by decide), ot 2 j (by decide), ot 3 j (by decide), ot 4 j (by decide)]
      exact i2 j hj
    · rw [ot 5 j (by decide)]
      exact i3 j hj
    · have hj' : j < sSg (gS G) + 1 := hj
      show (if 6 = 8 ∧ j = sSg (gS G) then y else (if 6 = 7 ∧ j = sSg (gS G) then x else (if 6 = 6 ∧ j = sSg (gS G) then k else sA (gS G) 6 j))) < sN (gS G) ∧ (if 7 = 8 ∧ j = sSg (gS G) then y else (if 7 = 7 ∧ j = sSg (gS G) then x else (if 7 = 6 ∧ j = sSg (gS G) then k else sA (gS G) 7 j))) ≤ 30 ∧ (if 8 = 8 ∧ j = sSg (gS G) then y else (if 8 = 7 ∧ j = sSg (gS G) then x else (if 8 = 6 ∧ j = sSg (gS G) then k else sA (gS G) 8 j))) < 4
      by_cases e : j = sSg (gS G)
      · simp only [e, and_true, if_true]
        refine ⟨?_, ?_, ?_⟩
        · rw [if_neg (by decide), if_neg (by decide)]; exact k1
        · rw [if_neg (by decide)]; exact x30
        · omega
      · simp only [e, and_false, if_false]
        exact i4 j (by omega)
    · rw [ot 0 j (by decide), ot 1 j (by decide), ot 2 j (by decide), ot 3 j (by decide), ot 4 j (by decide)]
      exact i5 j h1 hj
  · exact I
