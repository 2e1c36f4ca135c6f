abbrev Hp : Type := Nat → Nat → Int32
abbrev FdT : Type := Option (Option Nat)
abbrev ShT : Type := (Nat × List FdT) ⊕ ((Nat × Nat) ⊕ (Nat × List (Option Nat)))
abbrev Ly : Type := List (Nat × ShT)
def up2 (h : Hp) (a k : Nat) (v : Int32) : Hp := va_up h a (upd (h a) k v)
def fdV (f : Nat → Int32) (k : Nat) (x : FdT) : Value := match x with
  | none => .int (f k)
  | some r => va_rf r
def shE (cA : Nat → ClassId) (x : ShT) (f : Nat → Int32) : va_E := match x with
  | .inl o => .inr (o.1, o.2.mapIdx (fdV f))
  | .inr (.inl a) => .inl (cA a.1, a.2, .inl f)
  | .inr (.inr r) => .inl (cA r.1, r.2.length, .inr (.inr (.inr (.inr (fun j => r.2.getD j none)))))
def cel (cA : Nat → ClassId) (L : Ly) (h : Hp) : va_W := L.mapIdx (fun a x => (x.1, shE cA x.2 (h a)))
theorem cel_at {cA : Nat → ClassId} {L : Ly} {h : Hp} {a : Nat} {q : Nat} {x : ShT} (e : L[a]? = some (q, x)) : (cel cA L h)[a]? = some (q, shE cA x (h a)) := by
  unfold cel
  rw [List.getElem?_mapIdx, e]
  rfl
theorem cel_any {cA : Nat → ClassId} {L : Ly} {h : Hp} {a : Nat} : (cel cA L h)[a]? = (L[a]?).map (fun x => (x.1, shE cA x.2 (h a))) := by
  unfold cel
  rw [List.getElem?_mapIdx]
theorem cel_len {cA : Nat → ClassId} {L : Ly} {h : Hp} : (cel cA L h).length = L.length := by
  unfold cel
  rw [List.length_mapIdx]
theorem fd_set {fs : List FdT} {f : Nat → Int32} {k : Nat} {v : Int32} (e : fs[k]? = some none) : (fs.mapIdx (fdV f)).set k (.int v) = fs.mapIdx (fdV (upd f k v)) := by
  apply List.ext_getElem?
  intro j
  have hk : k < fs.length := (List.getElem?_eq_some_iff.mp e).1
  by_cases hj : j = k
  · subst hj
    rw [List.getElem?_set_self (by rw [List.length_mapIdx]; exact hk), List.getElem?_mapIdx, e]
    simp [fdV, upd]
  · rw [List.getElem?_set_ne (Ne.symm hj), List.getElem?_mapIdx, List.getElem?_mapIdx]
    cases h1 : fs[j]? with
    | none => rfl
    | some x =>
      cases x with
      | none => simp [fdV, upd, hj]
      | some r => simp [fdV]
theorem fd_setR {fs : List FdT} {f : Nat → Int32} {k : Nat} {r : Option Nat} (hk : k < fs.length) : (fs.mapIdx (fdV f)).set k (va_rf r) = (fs.set k (some r)).mapIdx (fdV f) := by
  apply List.ext_getElem?
  intro j
  by_cases hj : j = k
  · subst hj
    rw [List.getElem?_set_self (by rw [List.length_mapIdx]; exact hk), List.getElem?_mapIdx, List.getElem?_set_self hk]
    simp [fdV]
  · rw [List.getElem?_set_ne (Ne.symm hj), List.getElem?_mapIdx, List.getElem?_mapIdx, List.getElem?_set_ne (Ne.symm hj)]
theorem cel_set {cA : Nat → ClassId} {L : Ly} {h : Hp} {a q : Nat} {x : ShT} {g : Nat → Int32} {e : va_E} (hL : L[a]? = some (q, x)) (he : e = shE cA x g) : (cel cA L h).set a (q, e) = cel cA L (va_up h a g) := by
  subst he
  apply List.ext_getElem?
  intro j
  have hk : a < L.length := (List.getElem?_eq_some_iff.mp hL).1
  by_cases hj : j = a
  · subst hj
    rw [List.getElem?_set_self (by rw [cel_len]; exact hk), cel_at hL]
    simp [va_up]
  · rw [List.getElem?_set_ne (Ne.symm hj), cel_any, cel_any]
    cases h1 : L[j]? with
    | none => rfl
    | some y => simp [va_up, hj]
theorem cel_setL {cA : Nat → ClassId} {L : Ly} {h : Hp} {a q : Nat} {x y : ShT} {e : va_E} (hL : L[a]? = some (q, x)) (he : e = shE cA y (h a)) : (cel cA L h).set a (q, e) = cel cA (L.set a (q, y)) h := by
  subst he
  apply List.ext_getElem?
  intro j
  have hk : a < L.length := (List.getElem?_eq_some_iff.mp hL).1
  by_cases hj : j = a
  · subst hj
    rw [List.getElem?_set_self (by rw [cel_len]; exact hk), cel_at (List.getElem?_set_self hk)]
  · rw [List.getElem?_set_ne (Ne.symm hj), cel_any, cel_any, List.getElem?_set_ne (Ne.symm hj)]
theorem cel_push {cA : Nat → ClassId} {L : Ly} {h : Hp} {q : Nat} {x : ShT} {g : Nat → Int32} {e : va_E} (he : e = shE cA x g) : cel cA L h ++ [(q, e)] = cel cA (L ++ [(q, x)]) (va_up h L.length g) := by
  subst he
  apply List.ext_getElem?
  intro j
  rw [cel_any]
  rcases Nat.lt_trichotomy j L.length with hj | hj | hj
  · rw [List.getElem?_append_left (by rw [cel_len]; exact hj), List.getElem?_append_left hj, cel_any]
    have : j ≠ L.length := by omega
    simp [va_up, this]
  · subst hj
    rw [List.getElem?_append_right (by rw [cel_len]; exact Nat.le_refl _), List.getElem?_append_right (Nat.le_refl _), cel_len]
    simp [va_up]
  · rw [List.getElem?_eq_none (by rw [List.length_append, cel_len]; simp; omega), List.getElem?_eq_none (by rw [List.length_append]; simp; omega)]
    rfl
def lwG : List Cond := lw_tbl.filter goodWord
theorem mG {w : Cond} (i : Nat) (h : lw_tbl[i]? = some w) (g : goodWord w = true) : w ∈ lwG := List.mem_filter.mpr ⟨List.mem_of_getElem? h, g⟩
theorem lwG_good {w : Cond} (hw : w ∈ lwG) : goodWord w = true := (List.mem_filter.mp hw).2
theorem lwG_in {y : MethodName} {b : ByteArray} {n : Nat} {r : Option FieldType} (h : Cond.code y b n r ∈ lwG) {Ts : List Cond} (hT : ∀ w ∈ lwG, w ∈ Ts) : GoodIn Ts (Cond.code y b n r :: lwG) := by
  intro w hw
  have hm : w ∈ lwG := by
    rcases List.mem_cons.mp hw with e | e
    · rw [e]; exact h
    · exact e
  exact ⟨hT w hm, good_of_word (lwG_good hm)⟩
abbrev tysO (cA : Nat → ClassId) : List (ClassId × FieldType) := [(cA 0, .int), (cA 1, .boolean), (cA 2, .object "HenHuts$Wood"), (cA 3, .array .int)]
def isNest (w : Cond) : Bool := match w with
  | .methodLinkNest _ _ _ _ => true
  | _ => false
def lwN : List Cond := lw_tbl.filter isNest
theorem mN {w : Cond} (i : Nat) (h : lw_tbl[i]? = some w) (g : isNest w = true) : w ∈ lwN := List.mem_filter.mpr ⟨List.mem_of_getElem? h, g⟩
def AOA (U : State) : Prop := (Cond.arrayOver (.array .int)).before #[] U = true
def K9 (D : va_G) (cA : Nat → ClassId) (U : State) : Prop := va_K D vwCl (tysO cA) U ∧ (∀ w ∈ lwN, va_Nw w U) ∧ va_AO "HenHuts$Wood" U ∧ AOA U
theorem AOA.moved {u U : State} (hvm : u.vm.Alike U.vm) (h : AOA u) : AOA U := by
  unfold AOA Cond.before Cond.holds at h ⊢
  simp only [Cond.value, beq_iff_eq] at h ⊢
  cases hc : u.vm.findClass (FieldType.array FieldType.int).toString with
  | none => rw [hc] at h; cases h
  | some comp =>
    rw [hc] at h
    rw [hvm.findClass, hc]
    simp only [Option.bind_some] at h ⊢
    have hi : (U.vm.classes.findIdx? fun (x : Class) => match x.kind with | .array component _ => component == comp | _ => false) = (u.vm.classes.findIdx? fun (x : Class) => match x.kind with | .array component _ => component == comp | _ => false) := by
      have e1 := va_idx_bare U.vm comp
      have e2 := va_idx_bare u.vm comp
      have e3 : U.vm.bare = u.vm.bare := by first | exact hvm.bare_eq | exact hvm.bare_eq.symm
      rw [e3] at e1
      exact e1.symm.trans e2
    refine Eq.trans ?_ h
    refine Eq.trans (congrArg (fun o : Option Nat => (o.bind (fun c => (U.vm.classes[c]?).map fun (k : Class) => match k.kind with | .array _ ty => decide (ty = FieldType.array FieldType.int) && decide (U.vm.findClass ("[" ++ (FieldType.array FieldType.int).toString) = some c) | _ => false))) hi) ?_
    cases hf : (u.vm.classes.findIdx? fun (x : Class) => match x.kind with | .array component _ => component == comp | _ => false) with
    | none => rfl
    | some c =>
      simp only [Option.bind_some]
      cases hk : u.vm.classes[c]? with
      | none =>
        obtain ⟨hlt, -⟩ := Array.findIdx?_eq_some_iff_getElem.mp hf
        exact absurd (Array.getElem?_eq_none_iff.mp hk) (Nat.not_le.mpr hlt)
      | some k =>
        obtain ⟨k', hk', he⟩ := hvm.2.2 _ _ hk
        rw [hk', he, hvm.findClass]
        rfl
theorem K9.warm {D : va_G} {cA : Nat → ClassId} {s U : State} (hW : s.WarmedH U.vm) (h : K9 D cA s) : K9 D cA U := by
  refine ⟨va_K.moved hW.alike h.1, fun w hw => ?_, va_AO.moved hW.alike h.2.2.1, AOA.moved hW.alike h.2.2.2⟩
  have h1 := h.2.1 w hw
  have h2 := (List.mem_filter.mp hw).2
  cases w with
  | methodLinkNest a i x k => exact va_Nw.warmM hW h1
  | _ => cases h2
theorem K9.calling {D : va_G} {cA : Nat → ClassId} {U : State} {g : JFrame} {mk : MethodId} {a : Array Value} (h : K9 D cA U) : K9 D cA (U.calling g mk a) := by
  refine ⟨va_K.moved (u := U) (U := U.calling g mk a) (Vm.Alike.refl U.vm) h.1, fun w hw => ?_, va_AO.moved (u := U) (U := U.calling g mk a) (Vm.Alike.refl U.vm) h.2.2.1, AOA.moved (u := U) (U := U.calling g mk a) (Vm.Alike.refl U.vm) h.2.2.2⟩
  have h1 := h.2.1 w hw
  have h2 := (List.mem_filter.mp hw).2
  cases w with
  | methodLinkNest a i x k => exact va_Nw.same rfl (u := U) rfl h1
  | _ => cases h2
