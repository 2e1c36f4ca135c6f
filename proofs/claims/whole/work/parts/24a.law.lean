theorem RCl.m {G : GS} {h h' : Hp} (F : FrM h h') (R : RCl G h) : RCl G h' :=
  ⟨RWf (fun a _ h2 => F a (by omega)) R.1, ⟨by rw [F 13 (by omega)]; exact R.2.1.1, fun k hk => by rw [F 14 (by omega)]; exact R.2.1.2 k hk⟩, by rw [F 12 (by omega)]; exact R.2.2.1, by rw [F 12 (by omega)]; exact R.2.2.2.1, fun e => RWf (fun a _ h2 => F a (by omega)) (R.2.2.2.2.1 e), fun e => RWf (fun a _ h2 => F a (by omega)) (R.2.2.2.2.2 e)⟩
theorem RMo.c {G : GS} {h h' : Hp} (F : FrC h h') (R : RMo G h) : RMo G h' :=
  ⟨⟨by rw [F 73 (by omega)]; exact R.1.1, by rw [F 73 (by omega)]; exact R.1.2.1, by rw [F 73 (by omega)]; exact R.1.2.2.1, fun j k hj hk => by rw [F (74 + j) (by omega)]; exact R.1.2.2.2 j k hj hk⟩, ⟨by rw [F 73 (by omega)]; exact R.2.1.1, fun k hk => by rw [F 83 (by omega)]; exact R.2.1.2 k hk⟩, by rw [F 99 (by omega)]; exact R.2.2.1, by rw [F 99 (by omega)]; exact R.2.2.2.1, fun e t ht => by rw [F 98 (by omega)]; exact R.2.2.2.2.1 e t ht, fun e t ht => by rw [F 98 (by omega)]; exact R.2.2.2.2.2 e t ht⟩
def Gd (G : GS) (h : Hp) : Prop := RCl G h ∧ RMo G h ∧ InvG G
def Sc (X : RX) (b N : Nat) (sc : Nat → Int32) : Prop := va_X b N sc (xs X) (xs X).heap ∧ b < (xs X).heap.size ∧ ¬ xF X b ∧ N ≤ 448
theorem lcmp_self (a : Int64) : lg_cmp a a = 0 := by
  unfold lg_cmp
  simp
section Law24
variable {X : RX} {cc : ByteArray} {own : String} {nL fr mc ms nc ns pc n : Nat} {lv : List (Option Value)} {st : List Value} {L : Ly} {h : Hp}
theorem S_ald (C : Ok X cc own nL fr mc ms) {b N i : Nat} {sc : Nat → Int32} (S : Sc X b N sc) (hi : i < N) (d : decode cc pc = .ok (.iaload, 1)) (hn : pc + 1 = n) (K : Rn X nc ns n lv (.int (sc i) :: st) L h) : Rn X nc ns pc lv (.int (nI i) :: .ref b :: st) L h := by
  subst hn
  intro H locs ls hP hD hS hl
  have hN := S.2.2.2
  refine va_sld C.1 C.2.1 S.1 S.2.1 S.2.2.1 hS (vp_in_nI hi (by omega)) d ?_
  rw [nI_clamp (by omega)]
  exact K H locs ls hP hD hS hl
theorem S_alen (C : Ok X cc own nL fr mc ms) {b N : Nat} {sc : Nat → Int32} (S : Sc X b N sc) (d : decode cc pc = .ok (.arraylength, 1)) (hn : pc + 1 = n) (K : Rn X nc ns n lv (.int (nI N) :: st) L h) : Rn X nc ns pc lv (.ref b :: st) L h := by
  subst hn
  intro H locs ls hP hD hS hl
  exact va_slen C.1 C.2.1 S.1 S.2.1 S.2.2.1 hS d (K H locs ls hP hD hS hl)
end Law24
