abbrev RX : Type := Program × Launch × Env × Room × State × MethodId × Array Value × List Frame × Method × Code × va_G × (Nat → ClassId) × (Nat → Prop) × (State → Prop) × (Nat → Nat)
def xp (X : RX) : Program := X.1
def xl (X : RX) : Launch := X.2.1
def xe (X : RX) : Env := X.2.2.1
def xR (X : RX) : Room := X.2.2.2.1
def xs (X : RX) : State := X.2.2.2.2.1
def xm (X : RX) : MethodId := X.2.2.2.2.2.1
def xa (X : RX) : Array Value := X.2.2.2.2.2.2.1
def xb (X : RX) : List Frame := X.2.2.2.2.2.2.2.1
def xM (X : RX) : Method := X.2.2.2.2.2.2.2.2.1
def xc (X : RX) : Code := X.2.2.2.2.2.2.2.2.2.1
def xD (X : RX) : va_G := X.2.2.2.2.2.2.2.2.2.2.1
def xA (X : RX) : Nat → ClassId := X.2.2.2.2.2.2.2.2.2.2.2.1
def xF (X : RX) : Nat → Prop := X.2.2.2.2.2.2.2.2.2.2.2.2.1
def xZ (X : RX) : State → Prop := X.2.2.2.2.2.2.2.2.2.2.2.2.2.1
def xr (X : RX) : Nat → Nat := X.2.2.2.2.2.2.2.2.2.2.2.2.2.2
def lvH (ls : Array Slot) (n : Nat) (lv : List (Option Value)) : Prop := ls.size = n ∧ lv_wf ls ∧ ∀ (i : Nat) (v : Value), lv[i]? = some (some v) → ls[i]? = some (.val v)
def toL (lv : List (Option Value)) : List (Nat × Value) := (List.range lv.length).filterMap (fun i => ((lv[i]?).getD none).map (fun v => (i, v)))
theorem toL_mem {lv : List (Option Value)} {i : Nat} {v : Value} : (i, v) ∈ toL lv ↔ lv[i]? = some (some v) := by
  unfold toL
  rw [List.mem_filterMap]
  constructor
  · rintro ⟨j, hj, e⟩
    cases h1 : lv[j]? with
    | none => rw [h1] at e; cases e
    | some o =>
      rw [h1] at e
      cases o with
      | none => cases e
      | some w =>
        simp only [Option.getD_some, Option.map_some, Option.some.injEq, Prod.mk.injEq] at e
        obtain ⟨rfl, rfl⟩ := e
        exact h1
  · intro h1
    refine ⟨i, List.mem_range.mpr (List.getElem?_eq_some_iff.mp h1).1, ?_⟩
    rw [h1]
    rfl
theorem lvH.list {ls : Array Slot} {n : Nat} {lv : List (Option Value)} (h : lvH ls n lv) : lv_has ls n (toL lv) := ⟨h.1, h.2.1, fun q hq => h.2.2 q.1 q.2 (toL_mem.mp hq)⟩
theorem lvH.set1 {ls : Array Slot} {n i : Nat} {v : Value} {lv : List (Option Value)} (h : lv_has ls n ((i, v) :: (toL lv).filter (fun q => !(q.1 == i) && !(q.1 + 1 == i && q.2.category == 2)))) (hp : ∀ j, j + 1 = i → ∀ w, lv[j]? = some (some w) → ¬ w.category = 2) : lvH ls n (lv.set i (some v)) := by
  refine ⟨h.1, h.2.1, fun j w hj => ?_⟩
  by_cases e : j = i
  · subst e
    have hl : j < lv.length := by
      have := (List.getElem?_eq_some_iff.mp hj).1
      rwa [List.length_set] at this
    rw [List.getElem?_set_self hl] at hj
    cases hj
    exact h.2.2 (j, v) List.mem_cons_self
  · rw [List.getElem?_set_ne (Ne.symm e)] at hj
    refine h.2.2 (j, w) (List.mem_cons_of_mem _ (List.mem_filter.mpr ⟨toL_mem.mpr hj, ?_⟩))
    by_cases e2 : j + 1 = i
    · have := hp j e2 w hj
      simp [e, this]
    · simp [e, e2]
theorem lvH.set2 {ls : Array Slot} {n i : Nat} {v : Value} {lv : List (Option Value)} (h : lv_has ls n ((i, v) :: (toL lv).filter (fun q => !(q.1 == i) && (!(q.1 == i + 1) && !(q.1 + 1 == i && q.2.category == 2))))) (hp : ∀ j, j + 1 = i → ∀ w, lv[j]? = some (some w) → ¬ w.category = 2) : lvH ls n ((lv.set i (some v)).set (i + 1) none) := by
  refine ⟨h.1, h.2.1, fun j w hj => ?_⟩
  by_cases e1 : j = i + 1
  · subst e1
    by_cases hl : i + 1 < (lv.set i (some v)).length
    · rw [List.getElem?_set_self hl] at hj
      cases hj
    · rw [List.getElem?_eq_none (by rw [List.length_set]; omega)] at hj
      cases hj
  · rw [List.getElem?_set_ne (Ne.symm e1)] at hj
    by_cases e : j = i
    · subst e
      have hl : j < lv.length := by
        have := (List.getElem?_eq_some_iff.mp hj).1
        rwa [List.length_set] at this
      rw [List.getElem?_set_self hl] at hj
      cases hj
      exact h.2.2 (j, v) List.mem_cons_self
    · rw [List.getElem?_set_ne (Ne.symm e)] at hj
      refine h.2.2 (j, w) (List.mem_cons_of_mem _ (List.mem_filter.mpr ⟨toL_mem.mpr hj, ?_⟩))
      by_cases e2 : j + 1 = i
      · have := hp j e2 w hj
        simp [e, e1, this]
      · simp [e, e1, e2]
def Rn (X : RX) (nc ns pc : Nat) (lv : List (Option Value)) (st : List Value) (L : Ly) (h : Hp) : Prop :=
  ∀ (H : Heap) (locs : List Loc) (ls : Array Slot), va_P (xD X) vwCl (cel (xA X) L h) H → va_D (xF X) (cel (xA X) L h) → va_S (xF X) (xs X).heap H locs → lvH ls (xc X).maxLocals lv →
    W (xp X) (xl X) (xe X) (xR X) (xs X) (xm X) (xa X) (xb X) (xM X) (xc X) H locs nc ns (xZ X) (F0 (xm X) pc ls st)
def Ok (X : RX) (cc : ByteArray) (own : String) (nL fr mc ms : Nat) : Prop :=
  (xp X).tables.exec = Jvm.exec ∧ (xc X).code = cc ∧ (xc X).maxLocals = nL ∧ (xs X).vm.findClass own = some (xm X).cls ∧ (∀ w ∈ lwG, w.before (xa X) (xs X) = true) ∧ K9 (xD X) (xA X) (xs X) ∧
  (∀ q, (xs X).heap.size ≤ q → xF X q) ∧ (xM X).locks = false ∧ fr ≤ (xR X).frames ∧ mc ≤ (xR X).cells ∧ ms ≤ (xR X).slots ∧ 64 * fr ≤ (xR X).locals
def nlg (o : Option Value) : Bool := match o with
  | some v => !(v.category == 2)
  | none => true
theorem nlg_ok {lv : List (Option Value)} {i : Nat} {p : Option Value} (hp : nlg p = true) (h : ∀ j, j + 1 = i → lv[j]? = some p) : ∀ j, j + 1 = i → ∀ w, lv[j]? = some (some w) → ¬ w.category = 2 := by
  intro j hj w hw hc
  rw [h j hj] at hw
  cases hw
  simp [nlg, hc] at hp
section Rules
variable {X : RX} {cc : ByteArray} {own : String} {nL fr mc ms nc ns pc n : Nat} {lv : List (Option Value)} {st : List Value} {L : Ly} {h : Hp}
theorem R_ic (C : Ok X cc own nL fr mc ms) {c : Int} {v : Int32} (d : decode cc pc = .ok (.iconst c, 1)) (hv : Int32.ofInt c = v) (hn : pc + 1 = n) (K : Rn X nc ns n lv (.int v :: st) L h) : Rn X nc ns pc lv (st) L h := by
  subst hn
  intro H locs ls hP hD hS hl
  exact lv_iconst C.1 C.2.1 d hv (K H locs ls hP hD hS hl)
theorem R_bp (C : Ok X cc own nL fr mc ms) {c : Int} {v : Int32} (d : decode cc pc = .ok (.bipush c, 2)) (hv : (Int8.ofInt c).toInt32 = v) (hn : pc + 2 = n) (K : Rn X nc ns n lv (.int v :: st) L h) : Rn X nc ns pc lv (st) L h := by
  subst hn
  intro H locs ls hP hD hS hl
  exact lv_bipush C.1 C.2.1 d hv (K H locs ls hP hD hS hl)
theorem R_sp (C : Ok X cc own nL fr mc ms) {c : Int} {v : Int32} (d : decode cc pc = .ok (.sipush c, 3)) (hv : (Int16.ofInt c).toInt32 = v) (hn : pc + 3 = n) (K : Rn X nc ns n lv (.int v :: st) L h) : Rn X nc ns pc lv (st) L h := by
  subst hn
  intro H locs ls hP hD hS hl
  exact lv_sipush C.1 C.2.1 d hv (K H locs ls hP hD hS hl)
theorem R_lc (C : Ok X cc own nL fr mc ms) {c : Fin 2} {v : Int64} (d : decode cc pc = .ok (.lconst c, 1)) (hv : Int64.ofNat (c : Nat) = v) (hn : pc + 1 = n) (K : Rn X nc ns n lv (.long v :: st) L h) : Rn X nc ns pc lv (st) L h := by
  subst hn
  intro H locs ls hP hD hS hl
  exact lv_lconst C.1 C.2.1 d hv (K H locs ls hP hD hS hl)
theorem R_iadd (C : Ok X cc own nL fr mc ms) {x y : Int32} (d : decode cc pc = .ok (.iadd, 1)) (hn : pc + 1 = n) (K : Rn X nc ns n lv (.int (x + y) :: st) L h) : Rn X nc ns pc lv (.int y :: .int x :: st) L h := by
  subst hn
  intro H locs ls hP hD hS hl
  exact lv_iadd C.1 C.2.1 d (K H locs ls hP hD hS hl)
theorem R_isub (C : Ok X cc own nL fr mc ms) {x y : Int32} (d : decode cc pc = .ok (.isub, 1)) (hn : pc + 1 = n) (K : Rn X nc ns n lv (.int (x - y) :: st) L h) : Rn X nc ns pc lv (.int y :: .int x :: st) L h := by
  subst hn
  intro H locs ls hP hD hS hl
  exact lv_isub C.1 C.2.1 d (K H locs ls hP hD hS hl)
theorem R_imul (C : Ok X cc own nL fr mc ms) {x y : Int32} (d : decode cc pc = .ok (.imul, 1)) (hn : pc + 1 = n) (K : Rn X nc ns n lv (.int (x * y) :: st) L h) : Rn X nc ns pc lv (.int y :: .int x :: st) L h := by
  subst hn
  intro H locs ls hP hD hS hl
  exact lv_imul C.1 C.2.1 d (K H locs ls hP hD hS hl)
theorem R_iand (C : Ok X cc own nL fr mc ms) {x y : Int32} (d : decode cc pc = .ok (.iand, 1)) (hn : pc + 1 = n) (K : Rn X nc ns n lv (.int (x &&& y) :: st) L h) : Rn X nc ns pc lv (.int y :: .int x :: st) L h := by
  subst hn
  intro H locs ls hP hD hS hl
  exact lv_iand C.1 C.2.1 d (K H locs ls hP hD hS hl)
theorem R_ior (C : Ok X cc own nL fr mc ms) {x y : Int32} (d : decode cc pc = .ok (.ior, 1)) (hn : pc + 1 = n) (K : Rn X nc ns n lv (.int (x ||| y) :: st) L h) : Rn X nc ns pc lv (.int y :: .int x :: st) L h := by
  subst hn
  intro H locs ls hP hD hS hl
  exact lv_ior C.1 C.2.1 d (K H locs ls hP hD hS hl)
theorem R_ixor (C : Ok X cc own nL fr mc ms) {x y : Int32} (d : decode cc pc = .ok (.ixor, 1)) (hn : pc + 1 = n) (K : Rn X nc ns n lv (.int (x ^^^ y) :: st) L h) : Rn X nc ns pc lv (.int y :: .int x :: st) L h := by
  subst hn
  intro H locs ls hP hD hS hl
  exact lv_ixor C.1 C.2.1 d (K H locs ls hP hD hS hl)
theorem R_idiv (C : Ok X cc own nL fr mc ms) {x y : Int32} (d : decode cc pc = .ok (.idiv, 1)) (h0 : ¬ y = 0) (hn : pc + 1 = n) (K : Rn X nc ns n lv (.int (x / y) :: st) L h) : Rn X nc ns pc lv (.int y :: .int x :: st) L h := by
  subst hn
  intro H locs ls hP hD hS hl
  exact lv_idiv C.1 C.2.1 d h0 (K H locs ls hP hD hS hl)
theorem R_irem (C : Ok X cc own nL fr mc ms) {x y : Int32} (d : decode cc pc = .ok (.irem, 1)) (h0 : ¬ y = 0) (hn : pc + 1 = n) (K : Rn X nc ns n lv (.int (x - x / y * y) :: st) L h) : Rn X nc ns pc lv (.int y :: .int x :: st) L h := by
  subst hn
  intro H locs ls hP hD hS hl
  exact lv_irem C.1 C.2.1 d h0 (K H locs ls hP hD hS hl)
theorem R_ineg (C : Ok X cc own nL fr mc ms) {x : Int32} (d : decode cc pc = .ok (.ineg, 1)) (hn : pc + 1 = n) (K : Rn X nc ns n lv (.int (-x) :: st) L h) : Rn X nc ns pc lv (.int x :: st) L h := by
  subst hn
  intro H locs ls hP hD hS hl
  exact lv_ineg C.1 C.2.1 d (K H locs ls hP hD hS hl)
theorem R_ishl (C : Ok X cc own nL fr mc ms) {x y : Int32} (d : decode cc pc = .ok (.ishl, 1)) (hn : pc + 1 = n) (K : Rn X nc ns n lv (.int (x <<< (y &&& 31)) :: st) L h) : Rn X nc ns pc lv (.int y :: .int x :: st) L h := by
  subst hn
  intro H locs ls hP hD hS hl
  exact lv_ishl C.1 C.2.1 d (K H locs ls hP hD hS hl)
theorem R_ishr (C : Ok X cc own nL fr mc ms) {x y : Int32} (d : decode cc pc = .ok (.ishr, 1)) (hn : pc + 1 = n) (K : Rn X nc ns n lv (.int (x >>> (y &&& 31)) :: st) L h) : Rn X nc ns pc lv (.int y :: .int x :: st) L h := by
  subst hn
  intro H locs ls hP hD hS hl
  exact lv_ishr C.1 C.2.1 d (K H locs ls hP hD hS hl)
theorem R_iushr (C : Ok X cc own nL fr mc ms) {x y v : Int32} (d : decode cc pc = .ok (.iushr, 1)) (hv : (x.toUInt32 >>> (y.toUInt32 &&& Int32.toUInt32 31)).toInt32 = v) (hn : pc + 1 = n) (K : Rn X nc ns n lv (.int v :: st) L h) : Rn X nc ns pc lv (.int y :: .int x :: st) L h := by
  subst hn
  intro H locs ls hP hD hS hl
  exact lv_iushr C.1 C.2.1 d hv (K H locs ls hP hD hS hl)
theorem R_ladd (C : Ok X cc own nL fr mc ms) {x y : Int64} (d : decode cc pc = .ok (.ladd, 1)) (hn : pc + 1 = n) (K : Rn X nc ns n lv (.long (x + y) :: st) L h) : Rn X nc ns pc lv (.long y :: .long x :: st) L h := by
  subst hn
  intro H locs ls hP hD hS hl
  exact lv_ladd C.1 C.2.1 d (K H locs ls hP hD hS hl)
theorem R_lmul (C : Ok X cc own nL fr mc ms) {x y : Int64} (d : decode cc pc = .ok (.lmul, 1)) (hn : pc + 1 = n) (K : Rn X nc ns n lv (.long (x * y) :: st) L h) : Rn X nc ns pc lv (.long y :: .long x :: st) L h := by
  subst hn
  intro H locs ls hP hD hS hl
  exact lv_lmul C.1 C.2.1 d (K H locs ls hP hD hS hl)
theorem R_ldiv (C : Ok X cc own nL fr mc ms) {x y : Int64} (d : decode cc pc = .ok (.ldiv, 1)) (h0 : ¬ y = 0) (hn : pc + 1 = n) (K : Rn X nc ns n lv (.long (x / y) :: st) L h) : Rn X nc ns pc lv (.long y :: .long x :: st) L h := by
  subst hn
  intro H locs ls hP hD hS hl
  exact lv_ldiv C.1 C.2.1 d h0 (K H locs ls hP hD hS hl)
theorem R_lrem (C : Ok X cc own nL fr mc ms) {x y : Int64} (d : decode cc pc = .ok (.lrem, 1)) (h0 : ¬ y = 0) (hn : pc + 1 = n) (K : Rn X nc ns n lv (.long (x - x / y * y) :: st) L h) : Rn X nc ns pc lv (.long y :: .long x :: st) L h := by
  subst hn
  intro H locs ls hP hD hS hl
  exact lv_lrem C.1 C.2.1 d h0 (K H locs ls hP hD hS hl)
theorem R_lcmp (C : Ok X cc own nL fr mc ms) {x y : Int64} (d : decode cc pc = .ok (.lcmp, 1)) (hn : pc + 1 = n) (K : Rn X nc ns n lv (.int (lg_cmp x y) :: st) L h) : Rn X nc ns pc lv (.long y :: .long x :: st) L h := by
  subst hn
  intro H locs ls hP hD hS hl
  exact W.lcmp C.1 C.2.1 d (K H locs ls hP hD hS hl)
theorem R_i2l (C : Ok X cc own nL fr mc ms) {x : Int32} {v : Int64} (d : decode cc pc = .ok (.i2l, 1)) (hv : x.toInt64 = v) (hn : pc + 1 = n) (K : Rn X nc ns n lv (.long v :: st) L h) : Rn X nc ns pc lv (.int x :: st) L h := by
  subst hn
  intro H locs ls hP hD hS hl
  exact lv_i2l C.1 C.2.1 d hv (K H locs ls hP hD hS hl)
theorem R_l2i (C : Ok X cc own nL fr mc ms) {x : Int64} {v : Int32} (d : decode cc pc = .ok (.l2i, 1)) (hv : x.toInt32 = v) (hn : pc + 1 = n) (K : Rn X nc ns n lv (.int v :: st) L h) : Rn X nc ns pc lv (.long x :: st) L h := by
  subst hn
  intro H locs ls hP hD hS hl
  exact lv_l2i C.1 C.2.1 d hv (K H locs ls hP hD hS hl)
theorem R_dup (C : Ok X cc own nL fr mc ms) {v : Value} (d : decode cc pc = .ok (.dup, 1)) (hc : v.category = 1) (hn : pc + 1 = n) (K : Rn X nc ns n lv (v :: v :: st) L h) : Rn X nc ns pc lv (v :: st) L h := by
  subst hn
  intro H locs ls hP hD hS hl
  exact lv_dup C.1 C.2.1 d hc (K H locs ls hP hD hS hl)
theorem R_pop (C : Ok X cc own nL fr mc ms) {v : Value} (d : decode cc pc = .ok (.pop, 1)) (hc : v.category = 1) (hn : pc + 1 = n) (K : Rn X nc ns n lv (st) L h) : Rn X nc ns pc lv (v :: st) L h := by
  subst hn
  intro H locs ls hP hD hS hl
  exact lv_pop C.1 C.2.1 d hc (K H locs ls hP hD hS hl)
theorem R_dup2 (C : Ok X cc own nL fr mc ms) {v w : Value} (d : decode cc pc = .ok (.dup2, 1)) (hc : v.category = 1) (hw : w.category = 1) (hn : pc + 1 = n) (K : Rn X nc ns n lv (v :: w :: v :: w :: st) L h) : Rn X nc ns pc lv (v :: w :: st) L h := by
  subst hn
  intro H locs ls hP hD hS hl
  exact lv_dup2_11 C.1 C.2.1 d hc hw (K H locs ls hP hD hS hl)
theorem R_ldc (C : Ok X cc own nL fr mc ms) {i : Nat} {v : Int32} (d : decode cc pc = .ok (.ldc i, 2)) (hw : Cond.constant own i v ∈ lwG) (hn : pc + 2 = n) (K : Rn X nc ns n lv (.int v :: st) L h) : Rn X nc ns pc lv st L h := by
  subst hn
  intro H locs ls hP hD hS hl
  exact lv_ldc C.1 C.2.1 C.2.2.2.1 (C.2.2.2.2.1 _ hw) d (K H locs ls hP hD hS hl)
theorem R_ldcw (C : Ok X cc own nL fr mc ms) {i : Nat} {v : Int32} (d : decode cc pc = .ok (.ldc_w i, 3)) (hw : Cond.constant own i v ∈ lwG) (hn : pc + 3 = n) (K : Rn X nc ns n lv (.int v :: st) L h) : Rn X nc ns pc lv st L h := by
  subst hn
  intro H locs ls hP hD hS hl
  exact lv_ldcw C.1 C.2.1 C.2.2.2.1 (C.2.2.2.2.1 _ hw) d (K H locs ls hP hD hS hl)
theorem R_ldc2 (C : Ok X cc own nL fr mc ms) {i : Nat} {v : Int64} (d : decode cc pc = .ok (.ldc2_w i, 3)) (hw : Cond.constantLong own i v ∈ lwG) (hn : pc + 3 = n) (K : Rn X nc ns n lv (.long v :: st) L h) : Rn X nc ns pc lv st L h := by
  subst hn
  intro H locs ls hP hD hS hl
  exact lv_ldc2 C.1 C.2.1 C.2.2.2.1 (C.2.2.2.2.1 _ hw) d (K H locs ls hP hD hS hl)
theorem R_goto (C : Ok X cc own nL fr mc ms) {off : Int} (d : decode cc pc = .ok (.goto off, 3)) (ht : (pc : Int) + off = (n : Int)) (K : Rn X nc ns n lv st L h) : Rn X nc ns pc lv st L h := by
  intro H locs ls hP hD hS hl
  exact lv_goto C.1 C.2.1 d ht (K H locs ls hP hD hS hl)
theorem R_topi {x : Int32} (K : ∀ y : Int32, y = x → Rn X nc ns pc lv (.int y :: st) L h) : Rn X nc ns pc lv (.int x :: st) L h := K x rfl
theorem R_eq {x y : Int32} (e : x = y) (K : Rn X nc ns pc lv (.int y :: st) L h) : Rn X nc ns pc lv (.int x :: st) L h := e ▸ K
theorem R_eql {x y : Int64} (e : x = y) (K : Rn X nc ns pc lv (.long y :: st) L h) : Rn X nc ns pc lv (.long x :: st) L h := e ▸ K
theorem R_heq {h' : Hp} (e : h = h') (K : Rn X nc ns pc lv st L h') : Rn X nc ns pc lv st L h := e ▸ K
theorem R_weak {lv' : List (Option Value)} (e : ∀ (i : Nat) (v : Value), lv'[i]? = some (some v) → lv[i]? = some (some v)) (K : Rn X nc ns pc lv' st L h) : Rn X nc ns pc lv st L h := fun H locs ls hP hD hS hl => K H locs ls hP hD hS ⟨hl.1, hl.2.1, fun i v q => hl.2.2 i v (e i v q)⟩
theorem R_widen {nc' ns' : Nat} (h1 : nc ≤ nc') (h2 : ns ≤ ns') (K : Rn X nc' ns' pc lv st L h) : Rn X nc ns pc lv st L h := fun H locs ls hP hD hS hl => W.widen h1 h2 (K H locs ls hP hD hS hl)
theorem R_if_eq (C : Ok X cc own nL fr mc ms) {x : Int32} {off : Int} {tgt : Nat} (d : decode cc pc = .ok (.ifCond .eq off, 3)) (ht : (pc : Int) + off = (tgt : Int)) (hn : pc + 3 = n) (kt : x = 0 → Rn X nc ns tgt lv st L h) (kf : ¬ x = 0 → Rn X nc ns n lv st L h) : Rn X nc ns pc lv (.int x :: st) L h := by
  subst hn
  intro H locs ls hP hD hS hl
  exact lv_if_eq C.1 C.2.1 d ht (fun q => kt q H locs ls hP hD hS hl) (fun q => kf q H locs ls hP hD hS hl)
theorem R_if_ne (C : Ok X cc own nL fr mc ms) {x : Int32} {off : Int} {tgt : Nat} (d : decode cc pc = .ok (.ifCond .ne off, 3)) (ht : (pc : Int) + off = (tgt : Int)) (hn : pc + 3 = n) (kt : ¬ x = 0 → Rn X nc ns tgt lv st L h) (kf : x = 0 → Rn X nc ns n lv st L h) : Rn X nc ns pc lv (.int x :: st) L h := by
  subst hn
  intro H locs ls hP hD hS hl
  exact lv_if_ne C.1 C.2.1 d ht (fun q => kt q H locs ls hP hD hS hl) (fun q => kf q H locs ls hP hD hS hl)
theorem R_if_lt (C : Ok X cc own nL fr mc ms) {x : Int32} {off : Int} {tgt : Nat} (d : decode cc pc = .ok (.ifCond .lt off, 3)) (ht : (pc : Int) + off = (tgt : Int)) (hn : pc + 3 = n) (kt : x < 0 → Rn X nc ns tgt lv st L h) (kf : ¬ x < 0 → Rn X nc ns n lv st L h) : Rn X nc ns pc lv (.int x :: st) L h := by
  subst hn
  intro H locs ls hP hD hS hl
  exact lv_if_lt C.1 C.2.1 d ht (fun q => kt q H locs ls hP hD hS hl) (fun q => kf q H locs ls hP hD hS hl)
theorem R_if_ge (C : Ok X cc own nL fr mc ms) {x : Int32} {off : Int} {tgt : Nat} (d : decode cc pc = .ok (.ifCond .ge off, 3)) (ht : (pc : Int) + off = (tgt : Int)) (hn : pc + 3 = n) (kt : 0 ≤ x → Rn X nc ns tgt lv st L h) (kf : ¬ 0 ≤ x → Rn X nc ns n lv st L h) : Rn X nc ns pc lv (.int x :: st) L h := by
  subst hn
  intro H locs ls hP hD hS hl
  exact lv_if_ge C.1 C.2.1 d ht (fun q => kt q H locs ls hP hD hS hl) (fun q => kf q H locs ls hP hD hS hl)
theorem R_if_gt (C : Ok X cc own nL fr mc ms) {x : Int32} {off : Int} {tgt : Nat} (d : decode cc pc = .ok (.ifCond .gt off, 3)) (ht : (pc : Int) + off = (tgt : Int)) (hn : pc + 3 = n) (kt : 0 < x → Rn X nc ns tgt lv st L h) (kf : ¬ 0 < x → Rn X nc ns n lv st L h) : Rn X nc ns pc lv (.int x :: st) L h := by
  subst hn
  intro H locs ls hP hD hS hl
  exact lv_if_gt C.1 C.2.1 d ht (fun q => kt q H locs ls hP hD hS hl) (fun q => kf q H locs ls hP hD hS hl)
theorem R_if_le (C : Ok X cc own nL fr mc ms) {x : Int32} {off : Int} {tgt : Nat} (d : decode cc pc = .ok (.ifCond .le off, 3)) (ht : (pc : Int) + off = (tgt : Int)) (hn : pc + 3 = n) (kt : x ≤ 0 → Rn X nc ns tgt lv st L h) (kf : ¬ x ≤ 0 → Rn X nc ns n lv st L h) : Rn X nc ns pc lv (.int x :: st) L h := by
  subst hn
  intro H locs ls hP hD hS hl
  exact lv_if_le C.1 C.2.1 d ht (fun q => kt q H locs ls hP hD hS hl) (fun q => kf q H locs ls hP hD hS hl)
theorem R_icmp_eq (C : Ok X cc own nL fr mc ms) {x y : Int32} {off : Int} {tgt : Nat} (d : decode cc pc = .ok (.if_icmp .eq off, 3)) (ht : (pc : Int) + off = (tgt : Int)) (hn : pc + 3 = n) (kt : x = y → Rn X nc ns tgt lv st L h) (kf : ¬ x = y → Rn X nc ns n lv st L h) : Rn X nc ns pc lv (.int y :: .int x :: st) L h := by
  subst hn
  intro H locs ls hP hD hS hl
  exact lv_icmp_eq C.1 C.2.1 d ht (fun q => kt q H locs ls hP hD hS hl) (fun q => kf q H locs ls hP hD hS hl)
theorem R_icmp_ne (C : Ok X cc own nL fr mc ms) {x y : Int32} {off : Int} {tgt : Nat} (d : decode cc pc = .ok (.if_icmp .ne off, 3)) (ht : (pc : Int) + off = (tgt : Int)) (hn : pc + 3 = n) (kt : ¬ x = y → Rn X nc ns tgt lv st L h) (kf : x = y → Rn X nc ns n lv st L h) : Rn X nc ns pc lv (.int y :: .int x :: st) L h := by
  subst hn
  intro H locs ls hP hD hS hl
  exact lv_icmp_ne C.1 C.2.1 d ht (fun q => kt q H locs ls hP hD hS hl) (fun q => kf q H locs ls hP hD hS hl)
theorem R_icmp_lt (C : Ok X cc own nL fr mc ms) {x y : Int32} {off : Int} {tgt : Nat} (d : decode cc pc = .ok (.if_icmp .lt off, 3)) (ht : (pc : Int) + off = (tgt : Int)) (hn : pc + 3 = n) (kt : x < y → Rn X nc ns tgt lv st L h) (kf : ¬ x < y → Rn X nc ns n lv st L h) : Rn X nc ns pc lv (.int y :: .int x :: st) L h := by
  subst hn
  intro H locs ls hP hD hS hl
  exact lv_icmp_lt C.1 C.2.1 d ht (fun q => kt q H locs ls hP hD hS hl) (fun q => kf q H locs ls hP hD hS hl)
theorem R_icmp_ge (C : Ok X cc own nL fr mc ms) {x y : Int32} {off : Int} {tgt : Nat} (d : decode cc pc = .ok (.if_icmp .ge off, 3)) (ht : (pc : Int) + off = (tgt : Int)) (hn : pc + 3 = n) (kt : y ≤ x → Rn X nc ns tgt lv st L h) (kf : ¬ y ≤ x → Rn X nc ns n lv st L h) : Rn X nc ns pc lv (.int y :: .int x :: st) L h := by
  subst hn
  intro H locs ls hP hD hS hl
  exact lv_icmp_ge C.1 C.2.1 d ht (fun q => kt q H locs ls hP hD hS hl) (fun q => kf q H locs ls hP hD hS hl)
theorem R_icmp_gt (C : Ok X cc own nL fr mc ms) {x y : Int32} {off : Int} {tgt : Nat} (d : decode cc pc = .ok (.if_icmp .gt off, 3)) (ht : (pc : Int) + off = (tgt : Int)) (hn : pc + 3 = n) (kt : y < x → Rn X nc ns tgt lv st L h) (kf : ¬ y < x → Rn X nc ns n lv st L h) : Rn X nc ns pc lv (.int y :: .int x :: st) L h := by
  subst hn
  intro H locs ls hP hD hS hl
  exact lv_icmp_gt C.1 C.2.1 d ht (fun q => kt q H locs ls hP hD hS hl) (fun q => kf q H locs ls hP hD hS hl)
theorem R_icmp_le (C : Ok X cc own nL fr mc ms) {x y : Int32} {off : Int} {tgt : Nat} (d : decode cc pc = .ok (.if_icmp .le off, 3)) (ht : (pc : Int) + off = (tgt : Int)) (hn : pc + 3 = n) (kt : x ≤ y → Rn X nc ns tgt lv st L h) (kf : ¬ x ≤ y → Rn X nc ns n lv st L h) : Rn X nc ns pc lv (.int y :: .int x :: st) L h := by
  subst hn
  intro H locs ls hP hD hS hl
  exact lv_icmp_le C.1 C.2.1 d ht (fun q => kt q H locs ls hP hD hS hl) (fun q => kf q H locs ls hP hD hS hl)
theorem R_tabOut (C : Ok X cc own nL fr mc ms) {dflt lo hi : Int} {offs : Array Int} {len : Nat} {x : Int32} (d : decode cc pc = .ok (.tableswitch dflt lo hi offs, len)) (hx : x.toInt < lo ∨ hi < x.toInt) (ht : (pc : Int) + dflt = (n : Int)) (K : Rn X nc ns n lv st L h) : Rn X nc ns pc lv (.int x :: st) L h := by
  intro H locs ls hP hD hS hl
  exact lv_tableOut C.1 C.2.1 d hx ht (K H locs ls hP hD hS hl)
theorem R_tabIn (C : Ok X cc own nL fr mc ms) {dflt lo hi : Int} {offs : Array Int} {len : Nat} {x : Int32} {off : Int} (d : decode cc pc = .ok (.tableswitch dflt lo hi offs, len)) (h1 : ¬ x.toInt < lo) (h2 : ¬ hi < x.toInt) (ho : offs[(x.toInt - lo).toNat]? = some off) (ht : (pc : Int) + off = (n : Int)) (K : Rn X nc ns n lv st L h) : Rn X nc ns pc lv (.int x :: st) L h := by
  intro H locs ls hP hD hS hl
  exact lv_tableIn C.1 C.2.1 d h1 h2 ho ht (K H locs ls hP hD hS hl)
theorem R_look (C : Ok X cc own nL fr mc ms) {dflt : Int} {ps : Array (Int × Int)} {len : Nat} {x : Int32} {off : Int} (d : decode cc pc = .ok (.lookupswitch dflt ps, len)) (hp : (ps.toList.zip (ps.toList.drop 1)).all (fun (a, next) => a.1 < next.1) = true) (ho : Op.lookupswitch.offset ps.toList dflt x.toInt = off) (ht : (pc : Int) + off = (n : Int)) (K : Rn X nc ns n lv st L h) : Rn X nc ns pc lv (.int x :: st) L h := by
  intro H locs ls hP hD hS hl
  exact lv_lookup C.1 C.2.1 d hp ho ht (K H locs ls hP hD hS hl)
theorem R_il0 (C : Ok X cc own nL fr mc ms) {t : List (Option Value)} {x : Int32} (d : decode cc pc = .ok (.iload_n 0, 1)) (hn : pc + 1 = n) (K : Rn X nc ns n (some (.int x) :: t) (.int x :: st) L h) : Rn X nc ns pc (some (.int x) :: t) st L h := by
  subst hn
  intro H locs ls hP hD hS hl
  exact lv_iload_n C.1 C.2.1 d rfl (hl.2.2 0 _ rfl) (K H locs ls hP hD hS hl)
theorem R_is0 (C : Ok X cc own nL fr mc ms) {c : Option Value} {t : List (Option Value)} {x : Int32} (d : decode cc pc = .ok (.istore_n 0, 1)) (hi : 0 < nL) (hn : pc + 1 = n) (K : Rn X nc ns n (some (.int x) :: t) st L h) : Rn X nc ns pc (c :: t) (.int x :: st) L h := by
  subst hn
  intro H locs ls hP hD hS hl
  exact lv_istore_n C.1 C.2.1 d rfl hl.list (by rw [C.2.2.1]; exact hi) rfl (fun ls' hl' => K H locs ls' hP hD hS (lvH.set1 hl' (fun j hj => absurd hj (Nat.succ_ne_zero j))))
theorem R_al0 (C : Ok X cc own nL fr mc ms) {t : List (Option Value)} {x : Nat} (d : decode cc pc = .ok (.aload_n 0, 1)) (hn : pc + 1 = n) (K : Rn X nc ns n (some (.ref x) :: t) (.ref x :: st) L h) : Rn X nc ns pc (some (.ref x) :: t) st L h := by
  subst hn
  intro H locs ls hP hD hS hl
  exact lv_aload_n C.1 C.2.1 d rfl (hl.2.2 0 _ rfl) (K H locs ls hP hD hS hl)
theorem R_as0 (C : Ok X cc own nL fr mc ms) {c : Option Value} {t : List (Option Value)} {x : Nat} (d : decode cc pc = .ok (.astore_n 0, 1)) (hi : 0 < nL) (hn : pc + 1 = n) (K : Rn X nc ns n (some (.ref x) :: t) st L h) : Rn X nc ns pc (c :: t) (.ref x :: st) L h := by
  subst hn
  intro H locs ls hP hD hS hl
  exact lv_astore_n C.1 C.2.1 d rfl hl.list (by rw [C.2.2.1]; exact hi) rfl (fun ls' hl' => K H locs ls' hP hD hS (lvH.set1 hl' (fun j hj => absurd hj (Nat.succ_ne_zero j))))
theorem R_ll0 (C : Ok X cc own nL fr mc ms) {t : List (Option Value)} {x : Int64} (d : decode cc pc = .ok (.lload_n 0, 1)) (hn : pc + 1 = n) (K : Rn X nc ns n (some (.long x) :: t) (.long x :: st) L h) : Rn X nc ns pc (some (.long x) :: t) st L h := by
  subst hn
  intro H locs ls hP hD hS hl
  exact lv_lload_n C.1 C.2.1 d rfl (hl.2.2 0 _ rfl) (K H locs ls hP hD hS hl)
theorem R_ls0 (C : Ok X cc own nL fr mc ms) {c c2 : Option Value} {t : List (Option Value)} {x : Int64} (d : decode cc pc = .ok (.lstore_n 0, 1)) (hi : 0 + 1 < nL) (hn : pc + 1 = n) (K : Rn X nc ns n (some (.long x) :: none :: t) st L h) : Rn X nc ns pc (c :: c2 :: t) (.long x :: st) L h := by
  subst hn
  intro H locs ls hP hD hS hl
  exact lv_lstore_n C.1 C.2.1 d rfl hl.list (by rw [C.2.2.1]; exact hi) rfl (fun ls' hl' => K H locs ls' hP hD hS (lvH.set2 hl' (fun j hj => absurd hj (Nat.succ_ne_zero j))))
theorem R_inc0 (C : Ok X cc own nL fr mc ms) {t : List (Option Value)} {c : Int} {x v : Int32} (d : decode cc pc = .ok (.iinc 0 c, 3)) (hi : 0 < nL) (hv : x + Int32.ofInt c = v) (hn : pc + 3 = n) (K : Rn X nc ns n (some (.int v) :: t) st L h) : Rn X nc ns pc (some (.int x) :: t) st L h := by
  subst hn
  intro H locs ls hP hD hS hl
  obtain ⟨k, hk⟩ := List.getElem?_of_mem (toL_mem.mpr (show (some (.int x) :: t)[0]? = some (some (Value.int x)) from rfl))
  exact lv_iinc C.1 C.2.1 d hl.list hk hv (by rw [C.2.2.1]; exact hi) rfl (fun ls' hl' => K H locs ls' hP hD hS (lvH.set1 hl' (fun j hj => absurd hj (Nat.succ_ne_zero j))))
theorem R_forg0 {c : Option Value} {t : List (Option Value)} (K : Rn X nc ns pc (none :: t) st L h) : Rn X nc ns pc (c :: t) st L h := by
  refine R_weak (fun j v q => ?_) K
  rcases Nat.lt_trichotomy j 0 with e | e | e
  · match j, e, q with
    | j, e, q => exact absurd e (Nat.not_lt_zero j)
  · subst e; cases q
  · obtain ⟨k, rfl⟩ : ∃ k, j = 0 + 1 + k := ⟨j - 1, by omega⟩
    rw [show 0 + 1 + k = k + 1 by omega] at q ⊢
    exact q
theorem R_il1 (C : Ok X cc own nL fr mc ms) {o0 : Option Value} {t : List (Option Value)} {x : Int32} (d : decode cc pc = .ok (.iload_n 1, 1)) (hn : pc + 1 = n) (K : Rn X nc ns n (o0 :: some (.int x) :: t) (.int x :: st) L h) : Rn X nc ns pc (o0 :: some (.int x) :: t) st L h := by
  subst hn
  intro H locs ls hP hD hS hl
  exact lv_iload_n C.1 C.2.1 d rfl (hl.2.2 1 _ rfl) (K H locs ls hP hD hS hl)
theorem R_is1 (C : Ok X cc own nL fr mc ms) {o0 : Option Value} {c : Option Value} {t : List (Option Value)} {x : Int32} (d : decode cc pc = .ok (.istore_n 1, 1)) (hp : nlg o0 = true) (hi : 1 < nL) (hn : pc + 1 = n) (K : Rn X nc ns n (o0 :: some (.int x) :: t) st L h) : Rn X nc ns pc (o0 :: c :: t) (.int x :: st) L h := by
  subst hn
  intro H locs ls hP hD hS hl
  exact lv_istore_n C.1 C.2.1 d rfl hl.list (by rw [C.2.2.1]; exact hi) rfl (fun ls' hl' => K H locs ls' hP hD hS (lvH.set1 hl' (nlg_ok hp (fun j hj => by cases hj; rfl))))
theorem R_al1 (C : Ok X cc own nL fr mc ms) {o0 : Option Value} {t : List (Option Value)} {x : Nat} (d : decode cc pc = .ok (.aload_n 1, 1)) (hn : pc + 1 = n) (K : Rn X nc ns n (o0 :: some (.ref x) :: t) (.ref x :: st) L h) : Rn X nc ns pc (o0 :: some (.ref x) :: t) st L h := by
  subst hn
  intro H locs ls hP hD hS hl
  exact lv_aload_n C.1 C.2.1 d rfl (hl.2.2 1 _ rfl) (K H locs ls hP hD hS hl)
theorem R_as1 (C : Ok X cc own nL fr mc ms) {o0 : Option Value} {c : Option Value} {t : List (Option Value)} {x : Nat} (d : decode cc pc = .ok (.astore_n 1, 1)) (hp : nlg o0 = true) (hi : 1 < nL) (hn : pc + 1 = n) (K : Rn X nc ns n (o0 :: some (.ref x) :: t) st L h) : Rn X nc ns pc (o0 :: c :: t) (.ref x :: st) L h := by
  subst hn
  intro H locs ls hP hD hS hl
  exact lv_astore_n C.1 C.2.1 d rfl hl.list (by rw [C.2.2.1]; exact hi) rfl (fun ls' hl' => K H locs ls' hP hD hS (lvH.set1 hl' (nlg_ok hp (fun j hj => by cases hj; rfl))))
theorem R_ll1 (C : Ok X cc own nL fr mc ms) {o0 : Option Value} {t : List (Option Value)} {x : Int64} (d : decode cc pc = .ok (.lload_n 1, 1)) (hn : pc + 1 = n) (K : Rn X nc ns n (o0 :: some (.long x) :: t) (.long x :: st) L h) : Rn X nc ns pc (o0 :: some (.long x) :: t) st L h := by
  subst hn
  intro H locs ls hP hD hS hl
  exact lv_lload_n C.1 C.2.1 d rfl (hl.2.2 1 _ rfl) (K H locs ls hP hD hS hl)
theorem R_ls1 (C : Ok X cc own nL fr mc ms) {o0 : Option Value} {c c2 : Option Value} {t : List (Option Value)} {x : Int64} (d : decode cc pc = .ok (.lstore_n 1, 1)) (hp : nlg o0 = true) (hi : 1 + 1 < nL) (hn : pc + 1 = n) (K : Rn X nc ns n (o0 :: some (.long x) :: none :: t) st L h) : Rn X nc ns pc (o0 :: c :: c2 :: t) (.long x :: st) L h := by
  subst hn
  intro H locs ls hP hD hS hl
  exact lv_lstore_n C.1 C.2.1 d rfl hl.list (by rw [C.2.2.1]; exact hi) rfl (fun ls' hl' => K H locs ls' hP hD hS (lvH.set2 hl' (nlg_ok hp (fun j hj => by cases hj; rfl))))
theorem R_inc1 (C : Ok X cc own nL fr mc ms) {o0 : Option Value} {t : List (Option Value)} {c : Int} {x v : Int32} (d : decode cc pc = .ok (.iinc 1 c, 3)) (hp : nlg o0 = true) (hi : 1 < nL) (hv : x + Int32.ofInt c = v) (hn : pc + 3 = n) (K : Rn X nc ns n (o0 :: some (.int v) :: t) st L h) : Rn X nc ns pc (o0 :: some (.int x) :: t) st L h := by
  subst hn
  intro H locs ls hP hD hS hl
  obtain ⟨k, hk⟩ := List.getElem?_of_mem (toL_mem.mpr (show (o0 :: some (.int x) :: t)[1]? = some (some (Value.int x)) from rfl))
  exact lv_iinc C.1 C.2.1 d hl.list hk hv (by rw [C.2.2.1]; exact hi) rfl (fun ls' hl' => K H locs ls' hP hD hS (lvH.set1 hl' (nlg_ok hp (fun j hj => by cases hj; rfl))))
theorem R_forg1 {o0 : Option Value} {c : Option Value} {t : List (Option Value)} (K : Rn X nc ns pc (o0 :: none :: t) st L h) : Rn X nc ns pc (o0 :: c :: t) st L h := by
  refine R_weak (fun j v q => ?_) K
  rcases Nat.lt_trichotomy j 1 with e | e | e
  · match j, e, q with
    | 0, _, q => exact q
  · subst e; cases q
  · obtain ⟨k, rfl⟩ : ∃ k, j = 1 + 1 + k := ⟨j - 2, by omega⟩
    rw [show 1 + 1 + k = k + 2 by omega] at q ⊢
    exact q
theorem R_il2 (C : Ok X cc own nL fr mc ms) {o0 o1 : Option Value} {t : List (Option Value)} {x : Int32} (d : decode cc pc = .ok (.iload_n 2, 1)) (hn : pc + 1 = n) (K : Rn X nc ns n (o0 :: o1 :: some (.int x) :: t) (.int x :: st) L h) : Rn X nc ns pc (o0 :: o1 :: some (.int x) :: t) st L h := by
  subst hn
  intro H locs ls hP hD hS hl
  exact lv_iload_n C.1 C.2.1 d rfl (hl.2.2 2 _ rfl) (K H locs ls hP hD hS hl)
theorem R_is2 (C : Ok X cc own nL fr mc ms) {o0 o1 : Option Value} {c : Option Value} {t : List (Option Value)} {x : Int32} (d : decode cc pc = .ok (.istore_n 2, 1)) (hp : nlg o1 = true) (hi : 2 < nL) (hn : pc + 1 = n) (K : Rn X nc ns n (o0 :: o1 :: some (.int x) :: t) st L h) : Rn X nc ns pc (o0 :: o1 :: c :: t) (.int x :: st) L h := by
  subst hn
  intro H locs ls hP hD hS hl
  exact lv_istore_n C.1 C.2.1 d rfl hl.list (by rw [C.2.2.1]; exact hi) rfl (fun ls' hl' => K H locs ls' hP hD hS (lvH.set1 hl' (nlg_ok hp (fun j hj => by cases hj; rfl))))
theorem R_al2 (C : Ok X cc own nL fr mc ms) {o0 o1 : Option Value} {t : List (Option Value)} {x : Nat} (d : decode cc pc = .ok (.aload_n 2, 1)) (hn : pc + 1 = n) (K : Rn X nc ns n (o0 :: o1 :: some (.ref x) :: t) (.ref x :: st) L h) : Rn X nc ns pc (o0 :: o1 :: some (.ref x) :: t) st L h := by
  subst hn
  intro H locs ls hP hD hS hl
  exact lv_aload_n C.1 C.2.1 d rfl (hl.2.2 2 _ rfl) (K H locs ls hP hD hS hl)
theorem R_as2 (C : Ok X cc own nL fr mc ms) {o0 o1 : Option Value} {c : Option Value} {t : List (Option Value)} {x : Nat} (d : decode cc pc = .ok (.astore_n 2, 1)) (hp : nlg o1 = true) (hi : 2 < nL) (hn : pc + 1 = n) (K : Rn X nc ns n (o0 :: o1 :: some (.ref x) :: t) st L h) : Rn X nc ns pc (o0 :: o1 :: c :: t) (.ref x :: st) L h := by
  subst hn
  intro H locs ls hP hD hS hl
  exact lv_astore_n C.1 C.2.1 d rfl hl.list (by rw [C.2.2.1]; exact hi) rfl (fun ls' hl' => K H locs ls' hP hD hS (lvH.set1 hl' (nlg_ok hp (fun j hj => by cases hj; rfl))))
theorem R_ll2 (C : Ok X cc own nL fr mc ms) {o0 o1 : Option Value} {t : List (Option Value)} {x : Int64} (d : decode cc pc = .ok (.lload_n 2, 1)) (hn : pc + 1 = n) (K : Rn X nc ns n (o0 :: o1 :: some (.long x) :: t) (.long x :: st) L h) : Rn X nc ns pc (o0 :: o1 :: some (.long x) :: t) st L h := by
  subst hn
  intro H locs ls hP hD hS hl
  exact lv_lload_n C.1 C.2.1 d rfl (hl.2.2 2 _ rfl) (K H locs ls hP hD hS hl)
theorem R_ls2 (C : Ok X cc own nL fr mc ms) {o0 o1 : Option Value} {c c2 : Option Value} {t : List (Option Value)} {x : Int64} (d : decode cc pc = .ok (.lstore_n 2, 1)) (hp : nlg o1 = true) (hi : 2 + 1 < nL) (hn : pc + 1 = n) (K : Rn X nc ns n (o0 :: o1 :: some (.long x) :: none :: t) st L h) : Rn X nc ns pc (o0 :: o1 :: c :: c2 :: t) (.long x :: st) L h := by
  subst hn
  intro H locs ls hP hD hS hl
  exact lv_lstore_n C.1 C.2.1 d rfl hl.list (by rw [C.2.2.1]; exact hi) rfl (fun ls' hl' => K H locs ls' hP hD hS (lvH.set2 hl' (nlg_ok hp (fun j hj => by cases hj; rfl))))
theorem R_inc2 (C : Ok X cc own nL fr mc ms) {o0 o1 : Option Value} {t : List (Option Value)} {c : Int} {x v : Int32} (d : decode cc pc = .ok (.iinc 2 c, 3)) (hp : nlg o1 = true) (hi : 2 < nL) (hv : x + Int32.ofInt c = v) (hn : pc + 3 = n) (K : Rn X nc ns n (o0 :: o1 :: some (.int v) :: t) st L h) : Rn X nc ns pc (o0 :: o1 :: some (.int x) :: t) st L h := by
  subst hn
  intro H locs ls hP hD hS hl
  obtain ⟨k, hk⟩ := List.getElem?_of_mem (toL_mem.mpr (show (o0 :: o1 :: some (.int x) :: t)[2]? = some (some (Value.int x)) from rfl))
  exact lv_iinc C.1 C.2.1 d hl.list hk hv (by rw [C.2.2.1]; exact hi) rfl (fun ls' hl' => K H locs ls' hP hD hS (lvH.set1 hl' (nlg_ok hp (fun j hj => by cases hj; rfl))))
theorem R_forg2 {o0 o1 : Option Value} {c : Option Value} {t : List (Option Value)} (K : Rn X nc ns pc (o0 :: o1 :: none :: t) st L h) : Rn X nc ns pc (o0 :: o1 :: c :: t) st L h := by
  refine R_weak (fun j v q => ?_) K
  rcases Nat.lt_trichotomy j 2 with e | e | e
  · match j, e, q with
    | 0, _, q => exact q
    | 1, _, q => exact q
  · subst e; cases q
  · obtain ⟨k, rfl⟩ : ∃ k, j = 2 + 1 + k := ⟨j - 3, by omega⟩
    rw [show 2 + 1 + k = k + 3 by omega] at q ⊢
    exact q
theorem R_il3 (C : Ok X cc own nL fr mc ms) {o0 o1 o2 : Option Value} {t : List (Option Value)} {x : Int32} (d : decode cc pc = .ok (.iload_n 3, 1)) (hn : pc + 1 = n) (K : Rn X nc ns n (o0 :: o1 :: o2 :: some (.int x) :: t) (.int x :: st) L h) : Rn X nc ns pc (o0 :: o1 :: o2 :: some (.int x) :: t) st L h := by
  subst hn
  intro H locs ls hP hD hS hl
  exact lv_iload_n C.1 C.2.1 d rfl (hl.2.2 3 _ rfl) (K H locs ls hP hD hS hl)
theorem R_is3 (C : Ok X cc own nL fr mc ms) {o0 o1 o2 : Option Value} {c : Option Value} {t : List (Option Value)} {x : Int32} (d : decode cc pc = .ok (.istore_n 3, 1)) (hp : nlg o2 = true) (hi : 3 < nL) (hn : pc + 1 = n) (K : Rn X nc ns n (o0 :: o1 :: o2 :: some (.int x) :: t) st L h) : Rn X nc ns pc (o0 :: o1 :: o2 :: c :: t) (.int x :: st) L h := by
  subst hn
  intro H locs ls hP hD hS hl
  exact lv_istore_n C.1 C.2.1 d rfl hl.list (by rw [C.2.2.1]; exact hi) rfl (fun ls' hl' => K H locs ls' hP hD hS (lvH.set1 hl' (nlg_ok hp (fun j hj => by cases hj; rfl))))
theorem R_al3 (C : Ok X cc own nL fr mc ms) {o0 o1 o2 : Option Value} {t : List (Option Value)} {x : Nat} (d : decode cc pc = .ok (.aload_n 3, 1)) (hn : pc + 1 = n) (K : Rn X nc ns n (o0 :: o1 :: o2 :: some (.ref x) :: t) (.ref x :: st) L h) : Rn X nc ns pc (o0 :: o1 :: o2 :: some (.ref x) :: t) st L h := by
  subst hn
  intro H locs ls hP hD hS hl
  exact lv_aload_n C.1 C.2.1 d rfl (hl.2.2 3 _ rfl) (K H locs ls hP hD hS hl)
theorem R_as3 (C : Ok X cc own nL fr mc ms) {o0 o1 o2 : Option Value} {c : Option Value} {t : List (Option Value)} {x : Nat} (d : decode cc pc = .ok (.astore_n 3, 1)) (hp : nlg o2 = true) (hi : 3 < nL) (hn : pc + 1 = n) (K : Rn X nc ns n (o0 :: o1 :: o2 :: some (.ref x) :: t) st L h) : Rn X nc ns pc (o0 :: o1 :: o2 :: c :: t) (.ref x :: st) L h := by
  subst hn
  intro H locs ls hP hD hS hl
  exact lv_astore_n C.1 C.2.1 d rfl hl.list (by rw [C.2.2.1]; exact hi) rfl (fun ls' hl' => K H locs ls' hP hD hS (lvH.set1 hl' (nlg_ok hp (fun j hj => by cases hj; rfl))))
theorem R_ll3 (C : Ok X cc own nL fr mc ms) {o0 o1 o2 : Option Value} {t : List (Option Value)} {x : Int64} (d : decode cc pc = .ok (.lload_n 3, 1)) (hn : pc + 1 = n) (K : Rn X nc ns n (o0 :: o1 :: o2 :: some (.long x) :: t) (.long x :: st) L h) : Rn X nc ns pc (o0 :: o1 :: o2 :: some (.long x) :: t) st L h := by
  subst hn
  intro H locs ls hP hD hS hl
  exact lv_lload_n C.1 C.2.1 d rfl (hl.2.2 3 _ rfl) (K H locs ls hP hD hS hl)
theorem R_ls3 (C : Ok X cc own nL fr mc ms) {o0 o1 o2 : Option Value} {c c2 : Option Value} {t : List (Option Value)} {x : Int64} (d : decode cc pc = .ok (.lstore_n 3, 1)) (hp : nlg o2 = true) (hi : 3 + 1 < nL) (hn : pc + 1 = n) (K : Rn X nc ns n (o0 :: o1 :: o2 :: some (.long x) :: none :: t) st L h) : Rn X nc ns pc (o0 :: o1 :: o2 :: c :: c2 :: t) (.long x :: st) L h := by
  subst hn
  intro H locs ls hP hD hS hl
  exact lv_lstore_n C.1 C.2.1 d rfl hl.list (by rw [C.2.2.1]; exact hi) rfl (fun ls' hl' => K H locs ls' hP hD hS (lvH.set2 hl' (nlg_ok hp (fun j hj => by cases hj; rfl))))
theorem R_inc3 (C : Ok X cc own nL fr mc ms) {o0 o1 o2 : Option Value} {t : List (Option Value)} {c : Int} {x v : Int32} (d : decode cc pc = .ok (.iinc 3 c, 3)) (hp : nlg o2 = true) (hi : 3 < nL) (hv : x + Int32.ofInt c = v) (hn : pc + 3 = n) (K : Rn X nc ns n (o0 :: o1 :: o2 :: some (.int v) :: t) st L h) : Rn X nc ns pc (o0 :: o1 :: o2 :: some (.int x) :: t) st L h := by
  subst hn
  intro H locs ls hP hD hS hl
  obtain ⟨k, hk⟩ := List.getElem?_of_mem (toL_mem.mpr (show (o0 :: o1 :: o2 :: some (.int x) :: t)[3]? = some (some (Value.int x)) from rfl))
  exact lv_iinc C.1 C.2.1 d hl.list hk hv (by rw [C.2.2.1]; exact hi) rfl (fun ls' hl' => K H locs ls' hP hD hS (lvH.set1 hl' (nlg_ok hp (fun j hj => by cases hj; rfl))))
theorem R_forg3 {o0 o1 o2 : Option Value} {c : Option Value} {t : List (Option Value)} (K : Rn X nc ns pc (o0 :: o1 :: o2 :: none :: t) st L h) : Rn X nc ns pc (o0 :: o1 :: o2 :: c :: t) st L h := by
  refine R_weak (fun j v q => ?_) K
  rcases Nat.lt_trichotomy j 3 with e | e | e
  · match j, e, q with
    | 0, _, q => exact q
    | 1, _, q => exact q
    | 2, _, q => exact q
  · subst e; cases q
  · obtain ⟨k, rfl⟩ : ∃ k, j = 3 + 1 + k := ⟨j - 4, by omega⟩
    rw [show 3 + 1 + k = k + 4 by omega] at q ⊢
    exact q
theorem R_il4 (C : Ok X cc own nL fr mc ms) {o0 o1 o2 o3 : Option Value} {t : List (Option Value)} {x : Int32} (d : decode cc pc = .ok (.iload 4, 2)) (hn : pc + 2 = n) (K : Rn X nc ns n (o0 :: o1 :: o2 :: o3 :: some (.int x) :: t) (.int x :: st) L h) : Rn X nc ns pc (o0 :: o1 :: o2 :: o3 :: some (.int x) :: t) st L h := by
  subst hn
  intro H locs ls hP hD hS hl
  exact lv_iload C.1 C.2.1 d (hl.2.2 4 _ rfl) (K H locs ls hP hD hS hl)
theorem R_is4 (C : Ok X cc own nL fr mc ms) {o0 o1 o2 o3 : Option Value} {c : Option Value} {t : List (Option Value)} {x : Int32} (d : decode cc pc = .ok (.istore 4, 2)) (hp : nlg o3 = true) (hi : 4 < nL) (hn : pc + 2 = n) (K : Rn X nc ns n (o0 :: o1 :: o2 :: o3 :: some (.int x) :: t) st L h) : Rn X nc ns pc (o0 :: o1 :: o2 :: o3 :: c :: t) (.int x :: st) L h := by
  subst hn
  intro H locs ls hP hD hS hl
  exact lv_istore C.1 C.2.1 d hl.list (by rw [C.2.2.1]; exact hi) rfl (fun ls' hl' => K H locs ls' hP hD hS (lvH.set1 hl' (nlg_ok hp (fun j hj => by cases hj; rfl))))
theorem R_al4 (C : Ok X cc own nL fr mc ms) {o0 o1 o2 o3 : Option Value} {t : List (Option Value)} {x : Nat} (d : decode cc pc = .ok (.aload 4, 2)) (hn : pc + 2 = n) (K : Rn X nc ns n (o0 :: o1 :: o2 :: o3 :: some (.ref x) :: t) (.ref x :: st) L h) : Rn X nc ns pc (o0 :: o1 :: o2 :: o3 :: some (.ref x) :: t) st L h := by
  subst hn
  intro H locs ls hP hD hS hl
  exact lv_aload C.1 C.2.1 d (hl.2.2 4 _ rfl) (K H locs ls hP hD hS hl)
theorem R_as4 (C : Ok X cc own nL fr mc ms) {o0 o1 o2 o3 : Option Value} {c : Option Value} {t : List (Option Value)} {x : Nat} (d : decode cc pc = .ok (.astore 4, 2)) (hp : nlg o3 = true) (hi : 4 < nL) (hn : pc + 2 = n) (K : Rn X nc ns n (o0 :: o1 :: o2 :: o3 :: some (.ref x) :: t) st L h) : Rn X nc ns pc (o0 :: o1 :: o2 :: o3 :: c :: t) (.ref x :: st) L h := by
  subst hn
  intro H locs ls hP hD hS hl
  exact lv_astore C.1 C.2.1 d hl.list (by rw [C.2.2.1]; exact hi) rfl (fun ls' hl' => K H locs ls' hP hD hS (lvH.set1 hl' (nlg_ok hp (fun j hj => by cases hj; rfl))))
theorem R_ll4 (C : Ok X cc own nL fr mc ms) {o0 o1 o2 o3 : Option Value} {t : List (Option Value)} {x : Int64} (d : decode cc pc = .ok (.lload 4, 2)) (hn : pc + 2 = n) (K : Rn X nc ns n (o0 :: o1 :: o2 :: o3 :: some (.long x) :: t) (.long x :: st) L h) : Rn X nc ns pc (o0 :: o1 :: o2 :: o3 :: some (.long x) :: t) st L h := by
  subst hn
  intro H locs ls hP hD hS hl
  exact lv_lload C.1 C.2.1 d (hl.2.2 4 _ rfl) (K H locs ls hP hD hS hl)
theorem R_ls4 (C : Ok X cc own nL fr mc ms) {o0 o1 o2 o3 : Option Value} {c c2 : Option Value} {t : List (Option Value)} {x : Int64} (d : decode cc pc = .ok (.lstore 4, 2)) (hp : nlg o3 = true) (hi : 4 + 1 < nL) (hn : pc + 2 = n) (K : Rn X nc ns n (o0 :: o1 :: o2 :: o3 :: some (.long x) :: none :: t) st L h) : Rn X nc ns pc (o0 :: o1 :: o2 :: o3 :: c :: c2 :: t) (.long x :: st) L h := by
  subst hn
  intro H locs ls hP hD hS hl
  exact lv_lstore C.1 C.2.1 d hl.list (by rw [C.2.2.1]; exact hi) rfl (fun ls' hl' => K H locs ls' hP hD hS (lvH.set2 hl' (nlg_ok hp (fun j hj => by cases hj; rfl))))
theorem R_inc4 (C : Ok X cc own nL fr mc ms) {o0 o1 o2 o3 : Option Value} {t : List (Option Value)} {c : Int} {x v : Int32} (d : decode cc pc = .ok (.iinc 4 c, 3)) (hp : nlg o3 = true) (hi : 4 < nL) (hv : x + Int32.ofInt c = v) (hn : pc + 3 = n) (K : Rn X nc ns n (o0 :: o1 :: o2 :: o3 :: some (.int v) :: t) st L h) : Rn X nc ns pc (o0 :: o1 :: o2 :: o3 :: some (.int x) :: t) st L h := by
  subst hn
  intro H locs ls hP hD hS hl
  obtain ⟨k, hk⟩ := List.getElem?_of_mem (toL_mem.mpr (show (o0 :: o1 :: o2 :: o3 :: some (.int x) :: t)[4]? = some (some (Value.int x)) from rfl))
  exact lv_iinc C.1 C.2.1 d hl.list hk hv (by rw [C.2.2.1]; exact hi) rfl (fun ls' hl' => K H locs ls' hP hD hS (lvH.set1 hl' (nlg_ok hp (fun j hj => by cases hj; rfl))))
theorem R_forg4 {o0 o1 o2 o3 : Option Value} {c : Option Value} {t : List (Option Value)} (K : Rn X nc ns pc (o0 :: o1 :: o2 :: o3 :: none :: t) st L h) : Rn X nc ns pc (o0 :: o1 :: o2 :: o3 :: c :: t) st L h := by
  refine R_weak (fun j v q => ?_) K
  rcases Nat.lt_trichotomy j 4 with e | e | e
  · match j, e, q with
    | 0, _, q => exact q
    | 1, _, q => exact q
    | 2, _, q => exact q
    | 3, _, q => exact q
  · subst e; cases q
  · obtain ⟨k, rfl⟩ : ∃ k, j = 4 + 1 + k := ⟨j - 5, by omega⟩
    rw [show 4 + 1 + k = k + 5 by omega] at q ⊢
    exact q
theorem R_il5 (C : Ok X cc own nL fr mc ms) {o0 o1 o2 o3 o4 : Option Value} {t : List (Option Value)} {x : Int32} (d : decode cc pc = .ok (.iload 5, 2)) (hn : pc + 2 = n) (K : Rn X nc ns n (o0 :: o1 :: o2 :: o3 :: o4 :: some (.int x) :: t) (.int x :: st) L h) : Rn X nc ns pc (o0 :: o1 :: o2 :: o3 :: o4 :: some (.int x) :: t) st L h := by
  subst hn
  intro H locs ls hP hD hS hl
  exact lv_iload C.1 C.2.1 d (hl.2.2 5 _ rfl) (K H locs ls hP hD hS hl)
theorem R_is5 (C : Ok X cc own nL fr mc ms) {o0 o1 o2 o3 o4 : Option Value} {c : Option Value} {t : List (Option Value)} {x : Int32} (d : decode cc pc = .ok (.istore 5, 2)) (hp : nlg o4 = true) (hi : 5 < nL) (hn : pc + 2 = n) (K : Rn X nc ns n (o0 :: o1 :: o2 :: o3 :: o4 :: some (.int x) :: t) st L h) : Rn X nc ns pc (o0 :: o1 :: o2 :: o3 :: o4 :: c :: t) (.int x :: st) L h := by
  subst hn
  intro H locs ls hP hD hS hl
  exact lv_istore C.1 C.2.1 d hl.list (by rw [C.2.2.1]; exact hi) rfl (fun ls' hl' => K H locs ls' hP hD hS (lvH.set1 hl' (nlg_ok hp (fun j hj => by cases hj; rfl))))
theorem R_al5 (C : Ok X cc own nL fr mc ms) {o0 o1 o2 o3 o4 : Option Value} {t : List (Option Value)} {x : Nat} (d : decode cc pc = .ok (.aload 5, 2)) (hn : pc + 2 = n) (K : Rn X nc ns n (o0 :: o1 :: o2 :: o3 :: o4 :: some (.ref x) :: t) (.ref x :: st) L h) : Rn X nc ns pc (o0 :: o1 :: o2 :: o3 :: o4 :: some (.ref x) :: t) st L h := by
  subst hn
  intro H locs ls hP hD hS hl
  exact lv_aload C.1 C.2.1 d (hl.2.2 5 _ rfl) (K H locs ls hP hD hS hl)
theorem R_as5 (C : Ok X cc own nL fr mc ms) {o0 o1 o2 o3 o4 : Option Value} {c : Option Value} {t : List (Option Value)} {x : Nat} (d : decode cc pc = .ok (.astore 5, 2)) (hp : nlg o4 = true) (hi : 5 < nL) (hn : pc + 2 = n) (K : Rn X nc ns n (o0 :: o1 :: o2 :: o3 :: o4 :: some (.ref x) :: t) st L h) : Rn X nc ns pc (o0 :: o1 :: o2 :: o3 :: o4 :: c :: t) (.ref x :: st) L h := by
  subst hn
  intro H locs ls hP hD hS hl
  exact lv_astore C.1 C.2.1 d hl.list (by rw [C.2.2.1]; exact hi) rfl (fun ls' hl' => K H locs ls' hP hD hS (lvH.set1 hl' (nlg_ok hp (fun j hj => by cases hj; rfl))))
theorem R_ll5 (C : Ok X cc own nL fr mc ms) {o0 o1 o2 o3 o4 : Option Value} {t : List (Option Value)} {x : Int64} (d : decode cc pc = .ok (.lload 5, 2)) (hn : pc + 2 = n) (K : Rn X nc ns n (o0 :: o1 :: o2 :: o3 :: o4 :: some (.long x) :: t) (.long x :: st) L h) : Rn X nc ns pc (o0 :: o1 :: o2 :: o3 :: o4 :: some (.long x) :: t) st L h := by
  subst hn
  intro H locs ls hP hD hS hl
  exact lv_lload C.1 C.2.1 d (hl.2.2 5 _ rfl) (K H locs ls hP hD hS hl)
theorem R_ls5 (C : Ok X cc own nL fr mc ms) {o0 o1 o2 o3 o4 : Option Value} {c c2 : Option Value} {t : List (Option Value)} {x : Int64} (d : decode cc pc = .ok (.lstore 5, 2)) (hp : nlg o4 = true) (hi : 5 + 1 < nL) (hn : pc + 2 = n) (K : Rn X nc ns n (o0 :: o1 :: o2 :: o3 :: o4 :: some (.long x) :: none :: t) st L h) : Rn X nc ns pc (o0 :: o1 :: o2 :: o3 :: o4 :: c :: c2 :: t) (.long x :: st) L h := by
  subst hn
  intro H locs ls hP hD hS hl
  exact lv_lstore C.1 C.2.1 d hl.list (by rw [C.2.2.1]; exact hi) rfl (fun ls' hl' => K H locs ls' hP hD hS (lvH.set2 hl' (nlg_ok hp (fun j hj => by cases hj; rfl))))
theorem R_inc5 (C : Ok X cc own nL fr mc ms) {o0 o1 o2 o3 o4 : Option Value} {t : List (Option Value)} {c : Int} {x v : Int32} (d : decode cc pc = .ok (.iinc 5 c, 3)) (hp : nlg o4 = true) (hi : 5 < nL) (hv : x + Int32.ofInt c = v) (hn : pc + 3 = n) (K : Rn X nc ns n (o0 :: o1 :: o2 :: o3 :: o4 :: some (.int v) :: t) st L h) : Rn X nc ns pc (o0 :: o1 :: o2 :: o3 :: o4 :: some (.int x) :: t) st L h := by
  subst hn
  intro H locs ls hP hD hS hl
  obtain ⟨k, hk⟩ := List.getElem?_of_mem (toL_mem.mpr (show (o0 :: o1 :: o2 :: o3 :: o4 :: some (.int x) :: t)[5]? = some (some (Value.int x)) from rfl))
  exact lv_iinc C.1 C.2.1 d hl.list hk hv (by rw [C.2.2.1]; exact hi) rfl (fun ls' hl' => K H locs ls' hP hD hS (lvH.set1 hl' (nlg_ok hp (fun j hj => by cases hj; rfl))))
theorem R_forg5 {o0 o1 o2 o3 o4 : Option Value} {c : Option Value} {t : List (Option Value)} (K : Rn X nc ns pc (o0 :: o1 :: o2 :: o3 :: o4 :: none :: t) st L h) : Rn X nc ns pc (o0 :: o1 :: o2 :: o3 :: o4 :: c :: t) st L h := by
  refine R_weak (fun j v q => ?_) K
  rcases Nat.lt_trichotomy j 5 with e | e | e
  · match j, e, q with
    | 0, _, q => exact q
    | 1, _, q => exact q
    | 2, _, q => exact q
    | 3, _, q => exact q
    | 4, _, q => exact q
  · subst e; cases q
  · obtain ⟨k, rfl⟩ : ∃ k, j = 5 + 1 + k := ⟨j - 6, by omega⟩
    rw [show 5 + 1 + k = k + 6 by omega] at q ⊢
    exact q
theorem R_il6 (C : Ok X cc own nL fr mc ms) {o0 o1 o2 o3 o4 o5 : Option Value} {t : List (Option Value)} {x : Int32} (d : decode cc pc = .ok (.iload 6, 2)) (hn : pc + 2 = n) (K : Rn X nc ns n (o0 :: o1 :: o2 :: o3 :: o4 :: o5 :: some (.int x) :: t) (.int x :: st) L h) : Rn X nc ns pc (o0 :: o1 :: o2 :: o3 :: o4 :: o5 :: some (.int x) :: t) st L h := by
  subst hn
  intro H locs ls hP hD hS hl
  exact lv_iload C.1 C.2.1 d (hl.2.2 6 _ rfl) (K H locs ls hP hD hS hl)
theorem R_is6 (C : Ok X cc own nL fr mc ms) {o0 o1 o2 o3 o4 o5 : Option Value} {c : Option Value} {t : List (Option Value)} {x : Int32} (d : decode cc pc = .ok (.istore 6, 2)) (hp : nlg o5 = true) (hi : 6 < nL) (hn : pc + 2 = n) (K : Rn X nc ns n (o0 :: o1 :: o2 :: o3 :: o4 :: o5 :: some (.int x) :: t) st L h) : Rn X nc ns pc (o0 :: o1 :: o2 :: o3 :: o4 :: o5 :: c :: t) (.int x :: st) L h := by
  subst hn
  intro H locs ls hP hD hS hl
  exact lv_istore C.1 C.2.1 d hl.list (by rw [C.2.2.1]; exact hi) rfl (fun ls' hl' => K H locs ls' hP hD hS (lvH.set1 hl' (nlg_ok hp (fun j hj => by cases hj; rfl))))
theorem R_al6 (C : Ok X cc own nL fr mc ms) {o0 o1 o2 o3 o4 o5 : Option Value} {t : List (Option Value)} {x : Nat} (d : decode cc pc = .ok (.aload 6, 2)) (hn : pc + 2 = n) (K : Rn X nc ns n (o0 :: o1 :: o2 :: o3 :: o4 :: o5 :: some (.ref x) :: t) (.ref x :: st) L h) : Rn X nc ns pc (o0 :: o1 :: o2 :: o3 :: o4 :: o5 :: some (.ref x) :: t) st L h := by
  subst hn
  intro H locs ls hP hD hS hl
  exact lv_aload C.1 C.2.1 d (hl.2.2 6 _ rfl) (K H locs ls hP hD hS hl)
theorem R_as6 (C : Ok X cc own nL fr mc ms) {o0 o1 o2 o3 o4 o5 : Option Value} {c : Option Value} {t : List (Option Value)} {x : Nat} (d : decode cc pc = .ok (.astore 6, 2)) (hp : nlg o5 = true) (hi : 6 < nL) (hn : pc + 2 = n) (K : Rn X nc ns n (o0 :: o1 :: o2 :: o3 :: o4 :: o5 :: some (.ref x) :: t) st L h) : Rn X nc ns pc (o0 :: o1 :: o2 :: o3 :: o4 :: o5 :: c :: t) (.ref x :: st) L h := by
  subst hn
  intro H locs ls hP hD hS hl
  exact lv_astore C.1 C.2.1 d hl.list (by rw [C.2.2.1]; exact hi) rfl (fun ls' hl' => K H locs ls' hP hD hS (lvH.set1 hl' (nlg_ok hp (fun j hj => by cases hj; rfl))))
theorem R_ll6 (C : Ok X cc own nL fr mc ms) {o0 o1 o2 o3 o4 o5 : Option Value} {t : List (Option Value)} {x : Int64} (d : decode cc pc = .ok (.lload 6, 2)) (hn : pc + 2 = n) (K : Rn X nc ns n (o0 :: o1 :: o2 :: o3 :: o4 :: o5 :: some (.long x) :: t) (.long x :: st) L h) : Rn X nc ns pc (o0 :: o1 :: o2 :: o3 :: o4 :: o5 :: some (.long x) :: t) st L h := by
  subst hn
  intro H locs ls hP hD hS hl
  exact lv_lload C.1 C.2.1 d (hl.2.2 6 _ rfl) (K H locs ls hP hD hS hl)
theorem R_ls6 (C : Ok X cc own nL fr mc ms) {o0 o1 o2 o3 o4 o5 : Option Value} {c c2 : Option Value} {t : List (Option Value)} {x : Int64} (d : decode cc pc = .ok (.lstore 6, 2)) (hp : nlg o5 = true) (hi : 6 + 1 < nL) (hn : pc + 2 = n) (K : Rn X nc ns n (o0 :: o1 :: o2 :: o3 :: o4 :: o5 :: some (.long x) :: none :: t) st L h) : Rn X nc ns pc (o0 :: o1 :: o2 :: o3 :: o4 :: o5 :: c :: c2 :: t) (.long x :: st) L h := by
  subst hn
  intro H locs ls hP hD hS hl
  exact lv_lstore C.1 C.2.1 d hl.list (by rw [C.2.2.1]; exact hi) rfl (fun ls' hl' => K H locs ls' hP hD hS (lvH.set2 hl' (nlg_ok hp (fun j hj => by cases hj; rfl))))
theorem R_inc6 (C : Ok X cc own nL fr mc ms) {o0 o1 o2 o3 o4 o5 : Option Value} {t : List (Option Value)} {c : Int} {x v : Int32} (d : decode cc pc = .ok (.iinc 6 c, 3)) (hp : nlg o5 = true) (hi : 6 < nL) (hv : x + Int32.ofInt c = v) (hn : pc + 3 = n) (K : Rn X nc ns n (o0 :: o1 :: o2 :: o3 :: o4 :: o5 :: some (.int v) :: t) st L h) : Rn X nc ns pc (o0 :: o1 :: o2 :: o3 :: o4 :: o5 :: some (.int x) :: t) st L h := by
  subst hn
  intro H locs ls hP hD hS hl
  obtain ⟨k, hk⟩ := List.getElem?_of_mem (toL_mem.mpr (show (o0 :: o1 :: o2 :: o3 :: o4 :: o5 :: some (.int x) :: t)[6]? = some (some (Value.int x)) from rfl))
  exact lv_iinc C.1 C.2.1 d hl.list hk hv (by rw [C.2.2.1]; exact hi) rfl (fun ls' hl' => K H locs ls' hP hD hS (lvH.set1 hl' (nlg_ok hp (fun j hj => by cases hj; rfl))))
theorem R_forg6 {o0 o1 o2 o3 o4 o5 : Option Value} {c : Option Value} {t : List (Option Value)} (K : Rn X nc ns pc (o0 :: o1 :: o2 :: o3 :: o4 :: o5 :: none :: t) st L h) : Rn X nc ns pc (o0 :: o1 :: o2 :: o3 :: o4 :: o5 :: c :: t) st L h := by
  refine R_weak (fun j v q => ?_) K
  rcases Nat.lt_trichotomy j 6 with e | e | e
  · match j, e, q with
    | 0, _, q => exact q
    | 1, _, q => exact q
    | 2, _, q => exact q
    | 3, _, q => exact q
    | 4, _, q => exact q
    | 5, _, q => exact q
  · subst e; cases q
  · obtain ⟨k, rfl⟩ : ∃ k, j = 6 + 1 + k := ⟨j - 7, by omega⟩
    rw [show 6 + 1 + k = k + 7 by omega] at q ⊢
    exact q
theorem R_il7 (C : Ok X cc own nL fr mc ms) {o0 o1 o2 o3 o4 o5 o6 : Option Value} {t : List (Option Value)} {x : Int32} (d : decode cc pc = .ok (.iload 7, 2)) (hn : pc + 2 = n) (K : Rn X nc ns n (o0 :: o1 :: o2 :: o3 :: o4 :: o5 :: o6 :: some (.int x) :: t) (.int x :: st) L h) : Rn X nc ns pc (o0 :: o1 :: o2 :: o3 :: o4 :: o5 :: o6 :: some (.int x) :: t) st L h := by
  subst hn
  intro H locs ls hP hD hS hl
  exact lv_iload C.1 C.2.1 d (hl.2.2 7 _ rfl) (K H locs ls hP hD hS hl)
theorem R_is7 (C : Ok X cc own nL fr mc ms) {o0 o1 o2 o3 o4 o5 o6 : Option Value} {c : Option Value} {t : List (Option Value)} {x : Int32} (d : decode cc pc = .ok (.istore 7, 2)) (hp : nlg o6 = true) (hi : 7 < nL) (hn : pc + 2 = n) (K : Rn X nc ns n (o0 :: o1 :: o2 :: o3 :: o4 :: o5 :: o6 :: some (.int x) :: t) st L h) : Rn X nc ns pc (o0 :: o1 :: o2 :: o3 :: o4 :: o5 :: o6 :: c :: t) (.int x :: st) L h := by
  subst hn
  intro H locs ls hP hD hS hl
  exact lv_istore C.1 C.2.1 d hl.list (by rw [C.2.2.1]; exact hi) rfl (fun ls' hl' => K H locs ls' hP hD hS (lvH.set1 hl' (nlg_ok hp (fun j hj => by cases hj; rfl))))
theorem R_al7 (C : Ok X cc own nL fr mc ms) {o0 o1 o2 o3 o4 o5 o6 : Option Value} {t : List (Option Value)} {x : Nat} (d : decode cc pc = .ok (.aload 7, 2)) (hn : pc + 2 = n) (K : Rn X nc ns n (o0 :: o1 :: o2 :: o3 :: o4 :: o5 :: o6 :: some (.ref x) :: t) (.ref x :: st) L h) : Rn X nc ns pc (o0 :: o1 :: o2 :: o3 :: o4 :: o5 :: o6 :: some (.ref x) :: t) st L h := by
  subst hn
  intro H locs ls hP hD hS hl
  exact lv_aload C.1 C.2.1 d (hl.2.2 7 _ rfl) (K H locs ls hP hD hS hl)
theorem R_as7 (C : Ok X cc own nL fr mc ms) {o0 o1 o2 o3 o4 o5 o6 : Option Value} {c : Option Value} {t : List (Option Value)} {x : Nat} (d : decode cc pc = .ok (.astore 7, 2)) (hp : nlg o6 = true) (hi : 7 < nL) (hn : pc + 2 = n) (K : Rn X nc ns n (o0 :: o1 :: o2 :: o3 :: o4 :: o5 :: o6 :: some (.ref x) :: t) st L h) : Rn X nc ns pc (o0 :: o1 :: o2 :: o3 :: o4 :: o5 :: o6 :: c :: t) (.ref x :: st) L h := by
  subst hn
  intro H locs ls hP hD hS hl
  exact lv_astore C.1 C.2.1 d hl.list (by rw [C.2.2.1]; exact hi) rfl (fun ls' hl' => K H locs ls' hP hD hS (lvH.set1 hl' (nlg_ok hp (fun j hj => by cases hj; rfl))))
theorem R_ll7 (C : Ok X cc own nL fr mc ms) {o0 o1 o2 o3 o4 o5 o6 : Option Value} {t : List (Option Value)} {x : Int64} (d : decode cc pc = .ok (.lload 7, 2)) (hn : pc + 2 = n) (K : Rn X nc ns n (o0 :: o1 :: o2 :: o3 :: o4 :: o5 :: o6 :: some (.long x) :: t) (.long x :: st) L h) : Rn X nc ns pc (o0 :: o1 :: o2 :: o3 :: o4 :: o5 :: o6 :: some (.long x) :: t) st L h := by
  subst hn
  intro H locs ls hP hD hS hl
  exact lv_lload C.1 C.2.1 d (hl.2.2 7 _ rfl) (K H locs ls hP hD hS hl)
theorem R_ls7 (C : Ok X cc own nL fr mc ms) {o0 o1 o2 o3 o4 o5 o6 : Option Value} {c c2 : Option Value} {t : List (Option Value)} {x : Int64} (d : decode cc pc = .ok (.lstore 7, 2)) (hp : nlg o6 = true) (hi : 7 + 1 < nL) (hn : pc + 2 = n) (K : Rn X nc ns n (o0 :: o1 :: o2 :: o3 :: o4 :: o5 :: o6 :: some (.long x) :: none :: t) st L h) : Rn X nc ns pc (o0 :: o1 :: o2 :: o3 :: o4 :: o5 :: o6 :: c :: c2 :: t) (.long x :: st) L h := by
  subst hn
  intro H locs ls hP hD hS hl
  exact lv_lstore C.1 C.2.1 d hl.list (by rw [C.2.2.1]; exact hi) rfl (fun ls' hl' => K H locs ls' hP hD hS (lvH.set2 hl' (nlg_ok hp (fun j hj => by cases hj; rfl))))
theorem R_inc7 (C : Ok X cc own nL fr mc ms) {o0 o1 o2 o3 o4 o5 o6 : Option Value} {t : List (Option Value)} {c : Int} {x v : Int32} (d : decode cc pc = .ok (.iinc 7 c, 3)) (hp : nlg o6 = true) (hi : 7 < nL) (hv : x + Int32.ofInt c = v) (hn : pc + 3 = n) (K : Rn X nc ns n (o0 :: o1 :: o2 :: o3 :: o4 :: o5 :: o6 :: some (.int v) :: t) st L h) : Rn X nc ns pc (o0 :: o1 :: o2 :: o3 :: o4 :: o5 :: o6 :: some (.int x) :: t) st L h := by
  subst hn
  intro H locs ls hP hD hS hl
  obtain ⟨k, hk⟩ := List.getElem?_of_mem (toL_mem.mpr (show (o0 :: o1 :: o2 :: o3 :: o4 :: o5 :: o6 :: some (.int x) :: t)[7]? = some (some (Value.int x)) from rfl))
  exact lv_iinc C.1 C.2.1 d hl.list hk hv (by rw [C.2.2.1]; exact hi) rfl (fun ls' hl' => K H locs ls' hP hD hS (lvH.set1 hl' (nlg_ok hp (fun j hj => by cases hj; rfl))))
theorem R_forg7 {o0 o1 o2 o3 o4 o5 o6 : Option Value} {c : Option Value} {t : List (Option Value)} (K : Rn X nc ns pc (o0 :: o1 :: o2 :: o3 :: o4 :: o5 :: o6 :: none :: t) st L h) : Rn X nc ns pc (o0 :: o1 :: o2 :: o3 :: o4 :: o5 :: o6 :: c :: t) st L h := by
  refine R_weak (fun j v q => ?_) K
  rcases Nat.lt_trichotomy j 7 with e | e | e
  · match j, e, q with
    | 0, _, q => exact q
    | 1, _, q => exact q
    | 2, _, q => exact q
    | 3, _, q => exact q
    | 4, _, q => exact q
    | 5, _, q => exact q
    | 6, _, q => exact q
  · subst e; cases q
  · obtain ⟨k, rfl⟩ : ∃ k, j = 7 + 1 + k := ⟨j - 8, by omega⟩
    rw [show 7 + 1 + k = k + 8 by omega] at q ⊢
    exact q
theorem R_il8 (C : Ok X cc own nL fr mc ms) {o0 o1 o2 o3 o4 o5 o6 o7 : Option Value} {t : List (Option Value)} {x : Int32} (d : decode cc pc = .ok (.iload 8, 2)) (hn : pc + 2 = n) (K : Rn X nc ns n (o0 :: o1 :: o2 :: o3 :: o4 :: o5 :: o6 :: o7 :: some (.int x) :: t) (.int x :: st) L h) : Rn X nc ns pc (o0 :: o1 :: o2 :: o3 :: o4 :: o5 :: o6 :: o7 :: some (.int x) :: t) st L h := by
  subst hn
  intro H locs ls hP hD hS hl
  exact lv_iload C.1 C.2.1 d (hl.2.2 8 _ rfl) (K H locs ls hP hD hS hl)
theorem R_is8 (C : Ok X cc own nL fr mc ms) {o0 o1 o2 o3 o4 o5 o6 o7 : Option Value} {c : Option Value} {t : List (Option Value)} {x : Int32} (d : decode cc pc = .ok (.istore 8, 2)) (hp : nlg o7 = true) (hi : 8 < nL) (hn : pc + 2 = n) (K : Rn X nc ns n (o0 :: o1 :: o2 :: o3 :: o4 :: o5 :: o6 :: o7 :: some (.int x) :: t) st L h) : Rn X nc ns pc (o0 :: o1 :: o2 :: o3 :: o4 :: o5 :: o6 :: o7 :: c :: t) (.int x :: st) L h := by
  subst hn
  intro H locs ls hP hD hS hl
  exact lv_istore C.1 C.2.1 d hl.list (by rw [C.2.2.1]; exact hi) rfl (fun ls' hl' => K H locs ls' hP hD hS (lvH.set1 hl' (nlg_ok hp (fun j hj => by cases hj; rfl))))
theorem R_al8 (C : Ok X cc own nL fr mc ms) {o0 o1 o2 o3 o4 o5 o6 o7 : Option Value} {t : List (Option Value)} {x : Nat} (d : decode cc pc = .ok (.aload 8, 2)) (hn : pc + 2 = n) (K : Rn X nc ns n (o0 :: o1 :: o2 :: o3 :: o4 :: o5 :: o6 :: o7 :: some (.ref x) :: t) (.ref x :: st) L h) : Rn X nc ns pc (o0 :: o1 :: o2 :: o3 :: o4 :: o5 :: o6 :: o7 :: some (.ref x) :: t) st L h := by
  subst hn
  intro H locs ls hP hD hS hl
  exact lv_aload C.1 C.2.1 d (hl.2.2 8 _ rfl) (K H locs ls hP hD hS hl)
theorem R_as8 (C : Ok X cc own nL fr mc ms) {o0 o1 o2 o3 o4 o5 o6 o7 : Option Value} {c : Option Value} {t : List (Option Value)} {x : Nat} (d : decode cc pc = .ok (.astore 8, 2)) (hp : nlg o7 = true) (hi : 8 < nL) (hn : pc + 2 = n) (K : Rn X nc ns n (o0 :: o1 :: o2 :: o3 :: o4 :: o5 :: o6 :: o7 :: some (.ref x) :: t) st L h) : Rn X nc ns pc (o0 :: o1 :: o2 :: o3 :: o4 :: o5 :: o6 :: o7 :: c :: t) (.ref x :: st) L h := by
  subst hn
  intro H locs ls hP hD hS hl
  exact lv_astore C.1 C.2.1 d hl.list (by rw [C.2.2.1]; exact hi) rfl (fun ls' hl' => K H locs ls' hP hD hS (lvH.set1 hl' (nlg_ok hp (fun j hj => by cases hj; rfl))))
theorem R_ll8 (C : Ok X cc own nL fr mc ms) {o0 o1 o2 o3 o4 o5 o6 o7 : Option Value} {t : List (Option Value)} {x : Int64} (d : decode cc pc = .ok (.lload 8, 2)) (hn : pc + 2 = n) (K : Rn X nc ns n (o0 :: o1 :: o2 :: o3 :: o4 :: o5 :: o6 :: o7 :: some (.long x) :: t) (.long x :: st) L h) : Rn X nc ns pc (o0 :: o1 :: o2 :: o3 :: o4 :: o5 :: o6 :: o7 :: some (.long x) :: t) st L h := by
  subst hn
  intro H locs ls hP hD hS hl
  exact lv_lload C.1 C.2.1 d (hl.2.2 8 _ rfl) (K H locs ls hP hD hS hl)
theorem R_ls8 (C : Ok X cc own nL fr mc ms) {o0 o1 o2 o3 o4 o5 o6 o7 : Option Value} {c c2 : Option Value} {t : List (Option Value)} {x : Int64} (d : decode cc pc = .ok (.lstore 8, 2)) (hp : nlg o7 = true) (hi : 8 + 1 < nL) (hn : pc + 2 = n) (K : Rn X nc ns n (o0 :: o1 :: o2 :: o3 :: o4 :: o5 :: o6 :: o7 :: some (.long x) :: none :: t) st L h) : Rn X nc ns pc (o0 :: o1 :: o2 :: o3 :: o4 :: o5 :: o6 :: o7 :: c :: c2 :: t) (.long x :: st) L h := by
  subst hn
  intro H locs ls hP hD hS hl
  exact lv_lstore C.1 C.2.1 d hl.list (by rw [C.2.2.1]; exact hi) rfl (fun ls' hl' => K H locs ls' hP hD hS (lvH.set2 hl' (nlg_ok hp (fun j hj => by cases hj; rfl))))
theorem R_inc8 (C : Ok X cc own nL fr mc ms) {o0 o1 o2 o3 o4 o5 o6 o7 : Option Value} {t : List (Option Value)} {c : Int} {x v : Int32} (d : decode cc pc = .ok (.iinc 8 c, 3)) (hp : nlg o7 = true) (hi : 8 < nL) (hv : x + Int32.ofInt c = v) (hn : pc + 3 = n) (K : Rn X nc ns n (o0 :: o1 :: o2 :: o3 :: o4 :: o5 :: o6 :: o7 :: some (.int v) :: t) st L h) : Rn X nc ns pc (o0 :: o1 :: o2 :: o3 :: o4 :: o5 :: o6 :: o7 :: some (.int x) :: t) st L h := by
  subst hn
  intro H locs ls hP hD hS hl
  obtain ⟨k, hk⟩ := List.getElem?_of_mem (toL_mem.mpr (show (o0 :: o1 :: o2 :: o3 :: o4 :: o5 :: o6 :: o7 :: some (.int x) :: t)[8]? = some (some (Value.int x)) from rfl))
  exact lv_iinc C.1 C.2.1 d hl.list hk hv (by rw [C.2.2.1]; exact hi) rfl (fun ls' hl' => K H locs ls' hP hD hS (lvH.set1 hl' (nlg_ok hp (fun j hj => by cases hj; rfl))))
theorem R_forg8 {o0 o1 o2 o3 o4 o5 o6 o7 : Option Value} {c : Option Value} {t : List (Option Value)} (K : Rn X nc ns pc (o0 :: o1 :: o2 :: o3 :: o4 :: o5 :: o6 :: o7 :: none :: t) st L h) : Rn X nc ns pc (o0 :: o1 :: o2 :: o3 :: o4 :: o5 :: o6 :: o7 :: c :: t) st L h := by
  refine R_weak (fun j v q => ?_) K
  rcases Nat.lt_trichotomy j 8 with e | e | e
  · match j, e, q with
    | 0, _, q => exact q
    | 1, _, q => exact q
    | 2, _, q => exact q
    | 3, _, q => exact q
    | 4, _, q => exact q
    | 5, _, q => exact q
    | 6, _, q => exact q
    | 7, _, q => exact q
  · subst e; cases q
  · obtain ⟨k, rfl⟩ : ∃ k, j = 8 + 1 + k := ⟨j - 9, by omega⟩
    rw [show 8 + 1 + k = k + 9 by omega] at q ⊢
    exact q
theorem R_il9 (C : Ok X cc own nL fr mc ms) {o0 o1 o2 o3 o4 o5 o6 o7 o8 : Option Value} {t : List (Option Value)} {x : Int32} (d : decode cc pc = .ok (.iload 9, 2)) (hn : pc + 2 = n) (K : Rn X nc ns n (o0 :: o1 :: o2 :: o3 :: o4 :: o5 :: o6 :: o7 :: o8 :: some (.int x) :: t) (.int x :: st) L h) : Rn X nc ns pc (o0 :: o1 :: o2 :: o3 :: o4 :: o5 :: o6 :: o7 :: o8 :: some (.int x) :: t) st L h := by
  subst hn
  intro H locs ls hP hD hS hl
  exact lv_iload C.1 C.2.1 d (hl.2.2 9 _ rfl) (K H locs ls hP hD hS hl)
theorem R_is9 (C : Ok X cc own nL fr mc ms) {o0 o1 o2 o3 o4 o5 o6 o7 o8 : Option Value} {c : Option Value} {t : List (Option Value)} {x : Int32} (d : decode cc pc = .ok (.istore 9, 2)) (hp : nlg o8 = true) (hi : 9 < nL) (hn : pc + 2 = n) (K : Rn X nc ns n (o0 :: o1 :: o2 :: o3 :: o4 :: o5 :: o6 :: o7 :: o8 :: some (.int x) :: t) st L h) : Rn X nc ns pc (o0 :: o1 :: o2 :: o3 :: o4 :: o5 :: o6 :: o7 :: o8 :: c :: t) (.int x :: st) L h := by
  subst hn
  intro H locs ls hP hD hS hl
  exact lv_istore C.1 C.2.1 d hl.list (by rw [C.2.2.1]; exact hi) rfl (fun ls' hl' => K H locs ls' hP hD hS (lvH.set1 hl' (nlg_ok hp (fun j hj => by cases hj; rfl))))
theorem R_al9 (C : Ok X cc own nL fr mc ms) {o0 o1 o2 o3 o4 o5 o6 o7 o8 : Option Value} {t : List (Option Value)} {x : Nat} (d : decode cc pc = .ok (.aload 9, 2)) (hn : pc + 2 = n) (K : Rn X nc ns n (o0 :: o1 :: o2 :: o3 :: o4 :: o5 :: o6 :: o7 :: o8 :: some (.ref x) :: t) (.ref x :: st) L h) : Rn X nc ns pc (o0 :: o1 :: o2 :: o3 :: o4 :: o5 :: o6 :: o7 :: o8 :: some (.ref x) :: t) st L h := by
  subst hn
  intro H locs ls hP hD hS hl
  exact lv_aload C.1 C.2.1 d (hl.2.2 9 _ rfl) (K H locs ls hP hD hS hl)
theorem R_as9 (C : Ok X cc own nL fr mc ms) {o0 o1 o2 o3 o4 o5 o6 o7 o8 : Option Value} {c : Option Value} {t : List (Option Value)} {x : Nat} (d : decode cc pc = .ok (.astore 9, 2)) (hp : nlg o8 = true) (hi : 9 < nL) (hn : pc + 2 = n) (K : Rn X nc ns n (o0 :: o1 :: o2 :: o3 :: o4 :: o5 :: o6 :: o7 :: o8 :: some (.ref x) :: t) st L h) : Rn X nc ns pc (o0 :: o1 :: o2 :: o3 :: o4 :: o5 :: o6 :: o7 :: o8 :: c :: t) (.ref x :: st) L h := by
  subst hn
  intro H locs ls hP hD hS hl
  exact lv_astore C.1 C.2.1 d hl.list (by rw [C.2.2.1]; exact hi) rfl (fun ls' hl' => K H locs ls' hP hD hS (lvH.set1 hl' (nlg_ok hp (fun j hj => by cases hj; rfl))))
theorem R_ll9 (C : Ok X cc own nL fr mc ms) {o0 o1 o2 o3 o4 o5 o6 o7 o8 : Option Value} {t : List (Option Value)} {x : Int64} (d : decode cc pc = .ok (.lload 9, 2)) (hn : pc + 2 = n) (K : Rn X nc ns n (o0 :: o1 :: o2 :: o3 :: o4 :: o5 :: o6 :: o7 :: o8 :: some (.long x) :: t) (.long x :: st) L h) : Rn X nc ns pc (o0 :: o1 :: o2 :: o3 :: o4 :: o5 :: o6 :: o7 :: o8 :: some (.long x) :: t) st L h := by
  subst hn
  intro H locs ls hP hD hS hl
  exact lv_lload C.1 C.2.1 d (hl.2.2 9 _ rfl) (K H locs ls hP hD hS hl)
theorem R_ls9 (C : Ok X cc own nL fr mc ms) {o0 o1 o2 o3 o4 o5 o6 o7 o8 : Option Value} {c c2 : Option Value} {t : List (Option Value)} {x : Int64} (d : decode cc pc = .ok (.lstore 9, 2)) (hp : nlg o8 = true) (hi : 9 + 1 < nL) (hn : pc + 2 = n) (K : Rn X nc ns n (o0 :: o1 :: o2 :: o3 :: o4 :: o5 :: o6 :: o7 :: o8 :: some (.long x) :: none :: t) st L h) : Rn X nc ns pc (o0 :: o1 :: o2 :: o3 :: o4 :: o5 :: o6 :: o7 :: o8 :: c :: c2 :: t) (.long x :: st) L h := by
  subst hn
  intro H locs ls hP hD hS hl
  exact lv_lstore C.1 C.2.1 d hl.list (by rw [C.2.2.1]; exact hi) rfl (fun ls' hl' => K H locs ls' hP hD hS (lvH.set2 hl' (nlg_ok hp (fun j hj => by cases hj; rfl))))
theorem R_inc9 (C : Ok X cc own nL fr mc ms) {o0 o1 o2 o3 o4 o5 o6 o7 o8 : Option Value} {t : List (Option Value)} {c : Int} {x v : Int32} (d : decode cc pc = .ok (.iinc 9 c, 3)) (hp : nlg o8 = true) (hi : 9 < nL) (hv : x + Int32.ofInt c = v) (hn : pc + 3 = n) (K : Rn X nc ns n (o0 :: o1 :: o2 :: o3 :: o4 :: o5 :: o6 :: o7 :: o8 :: some (.int v) :: t) st L h) : Rn X nc ns pc (o0 :: o1 :: o2 :: o3 :: o4 :: o5 :: o6 :: o7 :: o8 :: some (.int x) :: t) st L h := by
  subst hn
  intro H locs ls hP hD hS hl
  obtain ⟨k, hk⟩ := List.getElem?_of_mem (toL_mem.mpr (show (o0 :: o1 :: o2 :: o3 :: o4 :: o5 :: o6 :: o7 :: o8 :: some (.int x) :: t)[9]? = some (some (Value.int x)) from rfl))
  exact lv_iinc C.1 C.2.1 d hl.list hk hv (by rw [C.2.2.1]; exact hi) rfl (fun ls' hl' => K H locs ls' hP hD hS (lvH.set1 hl' (nlg_ok hp (fun j hj => by cases hj; rfl))))
theorem R_forg9 {o0 o1 o2 o3 o4 o5 o6 o7 o8 : Option Value} {c : Option Value} {t : List (Option Value)} (K : Rn X nc ns pc (o0 :: o1 :: o2 :: o3 :: o4 :: o5 :: o6 :: o7 :: o8 :: none :: t) st L h) : Rn X nc ns pc (o0 :: o1 :: o2 :: o3 :: o4 :: o5 :: o6 :: o7 :: o8 :: c :: t) st L h := by
  refine R_weak (fun j v q => ?_) K
  rcases Nat.lt_trichotomy j 9 with e | e | e
  · match j, e, q with
    | 0, _, q => exact q
    | 1, _, q => exact q
    | 2, _, q => exact q
    | 3, _, q => exact q
    | 4, _, q => exact q
    | 5, _, q => exact q
    | 6, _, q => exact q
    | 7, _, q => exact q
    | 8, _, q => exact q
  · subst e; cases q
  · obtain ⟨k, rfl⟩ : ∃ k, j = 9 + 1 + k := ⟨j - 10, by omega⟩
    rw [show 9 + 1 + k = k + 10 by omega] at q ⊢
    exact q
theorem R_il10 (C : Ok X cc own nL fr mc ms) {o0 o1 o2 o3 o4 o5 o6 o7 o8 o9 : Option Value} {t : List (Option Value)} {x : Int32} (d : decode cc pc = .ok (.iload 10, 2)) (hn : pc + 2 = n) (K : Rn X nc ns n (o0 :: o1 :: o2 :: o3 :: o4 :: o5 :: o6 :: o7 :: o8 :: o9 :: some (.int x) :: t) (.int x :: st) L h) : Rn X nc ns pc (o0 :: o1 :: o2 :: o3 :: o4 :: o5 :: o6 :: o7 :: o8 :: o9 :: some (.int x) :: t) st L h := by
  subst hn
  intro H locs ls hP hD hS hl
  exact lv_iload C.1 C.2.1 d (hl.2.2 10 _ rfl) (K H locs ls hP hD hS hl)
theorem R_is10 (C : Ok X cc own nL fr mc ms) {o0 o1 o2 o3 o4 o5 o6 o7 o8 o9 : Option Value} {c : Option Value} {t : List (Option Value)} {x : Int32} (d : decode cc pc = .ok (.istore 10, 2)) (hp : nlg o9 = true) (hi : 10 < nL) (hn : pc + 2 = n) (K : Rn X nc ns n (o0 :: o1 :: o2 :: o3 :: o4 :: o5 :: o6 :: o7 :: o8 :: o9 :: some (.int x) :: t) st L h) : Rn X nc ns pc (o0 :: o1 :: o2 :: o3 :: o4 :: o5 :: o6 :: o7 :: o8 :: o9 :: c :: t) (.int x :: st) L h := by
  subst hn
  intro H locs ls hP hD hS hl
  exact lv_istore C.1 C.2.1 d hl.list (by rw [C.2.2.1]; exact hi) rfl (fun ls' hl' => K H locs ls' hP hD hS (lvH.set1 hl' (nlg_ok hp (fun j hj => by cases hj; rfl))))
theorem R_al10 (C : Ok X cc own nL fr mc ms) {o0 o1 o2 o3 o4 o5 o6 o7 o8 o9 : Option Value} {t : List (Option Value)} {x : Nat} (d : decode cc pc = .ok (.aload 10, 2)) (hn : pc + 2 = n) (K : Rn X nc ns n (o0 :: o1 :: o2 :: o3 :: o4 :: o5 :: o6 :: o7 :: o8 :: o9 :: some (.ref x) :: t) (.ref x :: st) L h) : Rn X nc ns pc (o0 :: o1 :: o2 :: o3 :: o4 :: o5 :: o6 :: o7 :: o8 :: o9 :: some (.ref x) :: t) st L h := by
  subst hn
  intro H locs ls hP hD hS hl
  exact lv_aload C.1 C.2.1 d (hl.2.2 10 _ rfl) (K H locs ls hP hD hS hl)
theorem R_as10 (C : Ok X cc own nL fr mc ms) {o0 o1 o2 o3 o4 o5 o6 o7 o8 o9 : Option Value} {c : Option Value} {t : List (Option Value)} {x : Nat} (d : decode cc pc = .ok (.astore 10, 2)) (hp : nlg o9 = true) (hi : 10 < nL) (hn : pc + 2 = n) (K : Rn X nc ns n (o0 :: o1 :: o2 :: o3 :: o4 :: o5 :: o6 :: o7 :: o8 :: o9 :: some (.ref x) :: t) st L h) : Rn X nc ns pc (o0 :: o1 :: o2 :: o3 :: o4 :: o5 :: o6 :: o7 :: o8 :: o9 :: c :: t) (.ref x :: st) L h := by
  subst hn
  intro H locs ls hP hD hS hl
  exact lv_astore C.1 C.2.1 d hl.list (by rw [C.2.2.1]; exact hi) rfl (fun ls' hl' => K H locs ls' hP hD hS (lvH.set1 hl' (nlg_ok hp (fun j hj => by cases hj; rfl))))
theorem R_ll10 (C : Ok X cc own nL fr mc ms) {o0 o1 o2 o3 o4 o5 o6 o7 o8 o9 : Option Value} {t : List (Option Value)} {x : Int64} (d : decode cc pc = .ok (.lload 10, 2)) (hn : pc + 2 = n) (K : Rn X nc ns n (o0 :: o1 :: o2 :: o3 :: o4 :: o5 :: o6 :: o7 :: o8 :: o9 :: some (.long x) :: t) (.long x :: st) L h) : Rn X nc ns pc (o0 :: o1 :: o2 :: o3 :: o4 :: o5 :: o6 :: o7 :: o8 :: o9 :: some (.long x) :: t) st L h := by
  subst hn
  intro H locs ls hP hD hS hl
  exact lv_lload C.1 C.2.1 d (hl.2.2 10 _ rfl) (K H locs ls hP hD hS hl)
theorem R_ls10 (C : Ok X cc own nL fr mc ms) {o0 o1 o2 o3 o4 o5 o6 o7 o8 o9 : Option Value} {c c2 : Option Value} {t : List (Option Value)} {x : Int64} (d : decode cc pc = .ok (.lstore 10, 2)) (hp : nlg o9 = true) (hi : 10 + 1 < nL) (hn : pc + 2 = n) (K : Rn X nc ns n (o0 :: o1 :: o2 :: o3 :: o4 :: o5 :: o6 :: o7 :: o8 :: o9 :: some (.long x) :: none :: t) st L h) : Rn X nc ns pc (o0 :: o1 :: o2 :: o3 :: o4 :: o5 :: o6 :: o7 :: o8 :: o9 :: c :: c2 :: t) (.long x :: st) L h := by
  subst hn
  intro H locs ls hP hD hS hl
  exact lv_lstore C.1 C.2.1 d hl.list (by rw [C.2.2.1]; exact hi) rfl (fun ls' hl' => K H locs ls' hP hD hS (lvH.set2 hl' (nlg_ok hp (fun j hj => by cases hj; rfl))))
theorem R_inc10 (C : Ok X cc own nL fr mc ms) {o0 o1 o2 o3 o4 o5 o6 o7 o8 o9 : Option Value} {t : List (Option Value)} {c : Int} {x v : Int32} (d : decode cc pc = .ok (.iinc 10 c, 3)) (hp : nlg o9 = true) (hi : 10 < nL) (hv : x + Int32.ofInt c = v) (hn : pc + 3 = n) (K : Rn X nc ns n (o0 :: o1 :: o2 :: o3 :: o4 :: o5 :: o6 :: o7 :: o8 :: o9 :: some (.int v) :: t) st L h) : Rn X nc ns pc (o0 :: o1 :: o2 :: o3 :: o4 :: o5 :: o6 :: o7 :: o8 :: o9 :: some (.int x) :: t) st L h := by
  subst hn
  intro H locs ls hP hD hS hl
  obtain ⟨k, hk⟩ := List.getElem?_of_mem (toL_mem.mpr (show (o0 :: o1 :: o2 :: o3 :: o4 :: o5 :: o6 :: o7 :: o8 :: o9 :: some (.int x) :: t)[10]? = some (some (Value.int x)) from rfl))
  exact lv_iinc C.1 C.2.1 d hl.list hk hv (by rw [C.2.2.1]; exact hi) rfl (fun ls' hl' => K H locs ls' hP hD hS (lvH.set1 hl' (nlg_ok hp (fun j hj => by cases hj; rfl))))
theorem R_forg10 {o0 o1 o2 o3 o4 o5 o6 o7 o8 o9 : Option Value} {c : Option Value} {t : List (Option Value)} (K : Rn X nc ns pc (o0 :: o1 :: o2 :: o3 :: o4 :: o5 :: o6 :: o7 :: o8 :: o9 :: none :: t) st L h) : Rn X nc ns pc (o0 :: o1 :: o2 :: o3 :: o4 :: o5 :: o6 :: o7 :: o8 :: o9 :: c :: t) st L h := by
  refine R_weak (fun j v q => ?_) K
  rcases Nat.lt_trichotomy j 10 with e | e | e
  · match j, e, q with
    | 0, _, q => exact q
    | 1, _, q => exact q
    | 2, _, q => exact q
    | 3, _, q => exact q
    | 4, _, q => exact q
    | 5, _, q => exact q
    | 6, _, q => exact q
    | 7, _, q => exact q
    | 8, _, q => exact q
    | 9, _, q => exact q
  · subst e; cases q
  · obtain ⟨k, rfl⟩ : ∃ k, j = 10 + 1 + k := ⟨j - 11, by omega⟩
    rw [show 10 + 1 + k = k + 11 by omega] at q ⊢
    exact q
theorem R_il11 (C : Ok X cc own nL fr mc ms) {o0 o1 o2 o3 o4 o5 o6 o7 o8 o9 o10 : Option Value} {t : List (Option Value)} {x : Int32} (d : decode cc pc = .ok (.iload 11, 2)) (hn : pc + 2 = n) (K : Rn X nc ns n (o0 :: o1 :: o2 :: o3 :: o4 :: o5 :: o6 :: o7 :: o8 :: o9 :: o10 :: some (.int x) :: t) (.int x :: st) L h) : Rn X nc ns pc (o0 :: o1 :: o2 :: o3 :: o4 :: o5 :: o6 :: o7 :: o8 :: o9 :: o10 :: some (.int x) :: t) st L h := by
  subst hn
  intro H locs ls hP hD hS hl
  exact lv_iload C.1 C.2.1 d (hl.2.2 11 _ rfl) (K H locs ls hP hD hS hl)
theorem R_is11 (C : Ok X cc own nL fr mc ms) {o0 o1 o2 o3 o4 o5 o6 o7 o8 o9 o10 : Option Value} {c : Option Value} {t : List (Option Value)} {x : Int32} (d : decode cc pc = .ok (.istore 11, 2)) (hp : nlg o10 = true) (hi : 11 < nL) (hn : pc + 2 = n) (K : Rn X nc ns n (o0 :: o1 :: o2 :: o3 :: o4 :: o5 :: o6 :: o7 :: o8 :: o9 :: o10 :: some (.int x) :: t) st L h) : Rn X nc ns pc (o0 :: o1 :: o2 :: o3 :: o4 :: o5 :: o6 :: o7 :: o8 :: o9 :: o10 :: c :: t) (.int x :: st) L h := by
  subst hn
  intro H locs ls hP hD hS hl
  exact lv_istore C.1 C.2.1 d hl.list (by rw [C.2.2.1]; exact hi) rfl (fun ls' hl' => K H locs ls' hP hD hS (lvH.set1 hl' (nlg_ok hp (fun j hj => by cases hj; rfl))))
theorem R_al11 (C : Ok X cc own nL fr mc ms) {o0 o1 o2 o3 o4 o5 o6 o7 o8 o9 o10 : Option Value} {t : List (Option Value)} {x : Nat} (d : decode cc pc = .ok (.aload 11, 2)) (hn : pc + 2 = n) (K : Rn X nc ns n (o0 :: o1 :: o2 :: o3 :: o4 :: o5 :: o6 :: o7 :: o8 :: o9 :: o10 :: some (.ref x) :: t) (.ref x :: st) L h) : Rn X nc ns pc (o0 :: o1 :: o2 :: o3 :: o4 :: o5 :: o6 :: o7 :: o8 :: o9 :: o10 :: some (.ref x) :: t) st L h := by
  subst hn
  intro H locs ls hP hD hS hl
  exact lv_aload C.1 C.2.1 d (hl.2.2 11 _ rfl) (K H locs ls hP hD hS hl)
theorem R_as11 (C : Ok X cc own nL fr mc ms) {o0 o1 o2 o3 o4 o5 o6 o7 o8 o9 o10 : Option Value} {c : Option Value} {t : List (Option Value)} {x : Nat} (d : decode cc pc = .ok (.astore 11, 2)) (hp : nlg o10 = true) (hi : 11 < nL) (hn : pc + 2 = n) (K : Rn X nc ns n (o0 :: o1 :: o2 :: o3 :: o4 :: o5 :: o6 :: o7 :: o8 :: o9 :: o10 :: some (.ref x) :: t) st L h) : Rn X nc ns pc (o0 :: o1 :: o2 :: o3 :: o4 :: o5 :: o6 :: o7 :: o8 :: o9 :: o10 :: c :: t) (.ref x :: st) L h := by
  subst hn
  intro H locs ls hP hD hS hl
  exact lv_astore C.1 C.2.1 d hl.list (by rw [C.2.2.1]; exact hi) rfl (fun ls' hl' => K H locs ls' hP hD hS (lvH.set1 hl' (nlg_ok hp (fun j hj => by cases hj; rfl))))
theorem R_ll11 (C : Ok X cc own nL fr mc ms) {o0 o1 o2 o3 o4 o5 o6 o7 o8 o9 o10 : Option Value} {t : List (Option Value)} {x : Int64} (d : decode cc pc = .ok (.lload 11, 2)) (hn : pc + 2 = n) (K : Rn X nc ns n (o0 :: o1 :: o2 :: o3 :: o4 :: o5 :: o6 :: o7 :: o8 :: o9 :: o10 :: some (.long x) :: t) (.long x :: st) L h) : Rn X nc ns pc (o0 :: o1 :: o2 :: o3 :: o4 :: o5 :: o6 :: o7 :: o8 :: o9 :: o10 :: some (.long x) :: t) st L h := by
  subst hn
  intro H locs ls hP hD hS hl
  exact lv_lload C.1 C.2.1 d (hl.2.2 11 _ rfl) (K H locs ls hP hD hS hl)
theorem R_ls11 (C : Ok X cc own nL fr mc ms) {o0 o1 o2 o3 o4 o5 o6 o7 o8 o9 o10 : Option Value} {c c2 : Option Value} {t : List (Option Value)} {x : Int64} (d : decode cc pc = .ok (.lstore 11, 2)) (hp : nlg o10 = true) (hi : 11 + 1 < nL) (hn : pc + 2 = n) (K : Rn X nc ns n (o0 :: o1 :: o2 :: o3 :: o4 :: o5 :: o6 :: o7 :: o8 :: o9 :: o10 :: some (.long x) :: none :: t) st L h) : Rn X nc ns pc (o0 :: o1 :: o2 :: o3 :: o4 :: o5 :: o6 :: o7 :: o8 :: o9 :: o10 :: c :: c2 :: t) (.long x :: st) L h := by
  subst hn
  intro H locs ls hP hD hS hl
  exact lv_lstore C.1 C.2.1 d hl.list (by rw [C.2.2.1]; exact hi) rfl (fun ls' hl' => K H locs ls' hP hD hS (lvH.set2 hl' (nlg_ok hp (fun j hj => by cases hj; rfl))))
theorem R_inc11 (C : Ok X cc own nL fr mc ms) {o0 o1 o2 o3 o4 o5 o6 o7 o8 o9 o10 : Option Value} {t : List (Option Value)} {c : Int} {x v : Int32} (d : decode cc pc = .ok (.iinc 11 c, 3)) (hp : nlg o10 = true) (hi : 11 < nL) (hv : x + Int32.ofInt c = v) (hn : pc + 3 = n) (K : Rn X nc ns n (o0 :: o1 :: o2 :: o3 :: o4 :: o5 :: o6 :: o7 :: o8 :: o9 :: o10 :: some (.int v) :: t) st L h) : Rn X nc ns pc (o0 :: o1 :: o2 :: o3 :: o4 :: o5 :: o6 :: o7 :: o8 :: o9 :: o10 :: some (.int x) :: t) st L h := by
  subst hn
  intro H locs ls hP hD hS hl
  obtain ⟨k, hk⟩ := List.getElem?_of_mem (toL_mem.mpr (show (o0 :: o1 :: o2 :: o3 :: o4 :: o5 :: o6 :: o7 :: o8 :: o9 :: o10 :: some (.int x) :: t)[11]? = some (some (Value.int x)) from rfl))
  exact lv_iinc C.1 C.2.1 d hl.list hk hv (by rw [C.2.2.1]; exact hi) rfl (fun ls' hl' => K H locs ls' hP hD hS (lvH.set1 hl' (nlg_ok hp (fun j hj => by cases hj; rfl))))
theorem R_forg11 {o0 o1 o2 o3 o4 o5 o6 o7 o8 o9 o10 : Option Value} {c : Option Value} {t : List (Option Value)} (K : Rn X nc ns pc (o0 :: o1 :: o2 :: o3 :: o4 :: o5 :: o6 :: o7 :: o8 :: o9 :: o10 :: none :: t) st L h) : Rn X nc ns pc (o0 :: o1 :: o2 :: o3 :: o4 :: o5 :: o6 :: o7 :: o8 :: o9 :: o10 :: c :: t) st L h := by
  refine R_weak (fun j v q => ?_) K
  rcases Nat.lt_trichotomy j 11 with e | e | e
  · match j, e, q with
    | 0, _, q => exact q
    | 1, _, q => exact q
    | 2, _, q => exact q
    | 3, _, q => exact q
    | 4, _, q => exact q
    | 5, _, q => exact q
    | 6, _, q => exact q
    | 7, _, q => exact q
    | 8, _, q => exact q
    | 9, _, q => exact q
    | 10, _, q => exact q
  · subst e; cases q
  · obtain ⟨k, rfl⟩ : ∃ k, j = 11 + 1 + k := ⟨j - 12, by omega⟩
    rw [show 11 + 1 + k = k + 12 by omega] at q ⊢
    exact q
theorem R_il12 (C : Ok X cc own nL fr mc ms) {o0 o1 o2 o3 o4 o5 o6 o7 o8 o9 o10 o11 : Option Value} {t : List (Option Value)} {x : Int32} (d : decode cc pc = .ok (.iload 12, 2)) (hn : pc + 2 = n) (K : Rn X nc ns n (o0 :: o1 :: o2 :: o3 :: o4 :: o5 :: o6 :: o7 :: o8 :: o9 :: o10 :: o11 :: some (.int x) :: t) (.int x :: st) L h) : Rn X nc ns pc (o0 :: o1 :: o2 :: o3 :: o4 :: o5 :: o6 :: o7 :: o8 :: o9 :: o10 :: o11 :: some (.int x) :: t) st L h := by
  subst hn
  intro H locs ls hP hD hS hl
  exact lv_iload C.1 C.2.1 d (hl.2.2 12 _ rfl) (K H locs ls hP hD hS hl)
theorem R_is12 (C : Ok X cc own nL fr mc ms) {o0 o1 o2 o3 o4 o5 o6 o7 o8 o9 o10 o11 : Option Value} {c : Option Value} {t : List (Option Value)} {x : Int32} (d : decode cc pc = .ok (.istore 12, 2)) (hp : nlg o11 = true) (hi : 12 < nL) (hn : pc + 2 = n) (K : Rn X nc ns n (o0 :: o1 :: o2 :: o3 :: o4 :: o5 :: o6 :: o7 :: o8 :: o9 :: o10 :: o11 :: some (.int x) :: t) st L h) : Rn X nc ns pc (o0 :: o1 :: o2 :: o3 :: o4 :: o5 :: o6 :: o7 :: o8 :: o9 :: o10 :: o11 :: c :: t) (.int x :: st) L h := by
  subst hn
  intro H locs ls hP hD hS hl
  exact lv_istore C.1 C.2.1 d hl.list (by rw [C.2.2.1]; exact hi) rfl (fun ls' hl' => K H locs ls' hP hD hS (lvH.set1 hl' (nlg_ok hp (fun j hj => by cases hj; rfl))))
theorem R_al12 (C : Ok X cc own nL fr mc ms) {o0 o1 o2 o3 o4 o5 o6 o7 o8 o9 o10 o11 : Option Value} {t : List (Option Value)} {x : Nat} (d : decode cc pc = .ok (.aload 12, 2)) (hn : pc + 2 = n) (K : Rn X nc ns n (o0 :: o1 :: o2 :: o3 :: o4 :: o5 :: o6 :: o7 :: o8 :: o9 :: o10 :: o11 :: some (.ref x) :: t) (.ref x :: st) L h) : Rn X nc ns pc (o0 :: o1 :: o2 :: o3 :: o4 :: o5 :: o6 :: o7 :: o8 :: o9 :: o10 :: o11 :: some (.ref x) :: t) st L h := by
  subst hn
  intro H locs ls hP hD hS hl
  exact lv_aload C.1 C.2.1 d (hl.2.2 12 _ rfl) (K H locs ls hP hD hS hl)
theorem R_as12 (C : Ok X cc own nL fr mc ms) {o0 o1 o2 o3 o4 o5 o6 o7 o8 o9 o10 o11 : Option Value} {c : Option Value} {t : List (Option Value)} {x : Nat} (d : decode cc pc = .ok (.astore 12, 2)) (hp : nlg o11 = true) (hi : 12 < nL) (hn : pc + 2 = n) (K : Rn X nc ns n (o0 :: o1 :: o2 :: o3 :: o4 :: o5 :: o6 :: o7 :: o8 :: o9 :: o10 :: o11 :: some (.ref x) :: t) st L h) : Rn X nc ns pc (o0 :: o1 :: o2 :: o3 :: o4 :: o5 :: o6 :: o7 :: o8 :: o9 :: o10 :: o11 :: c :: t) (.ref x :: st) L h := by
  subst hn
  intro H locs ls hP hD hS hl
  exact lv_astore C.1 C.2.1 d hl.list (by rw [C.2.2.1]; exact hi) rfl (fun ls' hl' => K H locs ls' hP hD hS (lvH.set1 hl' (nlg_ok hp (fun j hj => by cases hj; rfl))))
theorem R_ll12 (C : Ok X cc own nL fr mc ms) {o0 o1 o2 o3 o4 o5 o6 o7 o8 o9 o10 o11 : Option Value} {t : List (Option Value)} {x : Int64} (d : decode cc pc = .ok (.lload 12, 2)) (hn : pc + 2 = n) (K : Rn X nc ns n (o0 :: o1 :: o2 :: o3 :: o4 :: o5 :: o6 :: o7 :: o8 :: o9 :: o10 :: o11 :: some (.long x) :: t) (.long x :: st) L h) : Rn X nc ns pc (o0 :: o1 :: o2 :: o3 :: o4 :: o5 :: o6 :: o7 :: o8 :: o9 :: o10 :: o11 :: some (.long x) :: t) st L h := by
  subst hn
  intro H locs ls hP hD hS hl
  exact lv_lload C.1 C.2.1 d (hl.2.2 12 _ rfl) (K H locs ls hP hD hS hl)
theorem R_ls12 (C : Ok X cc own nL fr mc ms) {o0 o1 o2 o3 o4 o5 o6 o7 o8 o9 o10 o11 : Option Value} {c c2 : Option Value} {t : List (Option Value)} {x : Int64} (d : decode cc pc = .ok (.lstore 12, 2)) (hp : nlg o11 = true) (hi : 12 + 1 < nL) (hn : pc + 2 = n) (K : Rn X nc ns n (o0 :: o1 :: o2 :: o3 :: o4 :: o5 :: o6 :: o7 :: o8 :: o9 :: o10 :: o11 :: some (.long x) :: none :: t) st L h) : Rn X nc ns pc (o0 :: o1 :: o2 :: o3 :: o4 :: o5 :: o6 :: o7 :: o8 :: o9 :: o10 :: o11 :: c :: c2 :: t) (.long x :: st) L h := by
  subst hn
  intro H locs ls hP hD hS hl
  exact lv_lstore C.1 C.2.1 d hl.list (by rw [C.2.2.1]; exact hi) rfl (fun ls' hl' => K H locs ls' hP hD hS (lvH.set2 hl' (nlg_ok hp (fun j hj => by cases hj; rfl))))
theorem R_inc12 (C : Ok X cc own nL fr mc ms) {o0 o1 o2 o3 o4 o5 o6 o7 o8 o9 o10 o11 : Option Value} {t : List (Option Value)} {c : Int} {x v : Int32} (d : decode cc pc = .ok (.iinc 12 c, 3)) (hp : nlg o11 = true) (hi : 12 < nL) (hv : x + Int32.ofInt c = v) (hn : pc + 3 = n) (K : Rn X nc ns n (o0 :: o1 :: o2 :: o3 :: o4 :: o5 :: o6 :: o7 :: o8 :: o9 :: o10 :: o11 :: some (.int v) :: t) st L h) : Rn X nc ns pc (o0 :: o1 :: o2 :: o3 :: o4 :: o5 :: o6 :: o7 :: o8 :: o9 :: o10 :: o11 :: some (.int x) :: t) st L h := by
  subst hn
  intro H locs ls hP hD hS hl
  obtain ⟨k, hk⟩ := List.getElem?_of_mem (toL_mem.mpr (show (o0 :: o1 :: o2 :: o3 :: o4 :: o5 :: o6 :: o7 :: o8 :: o9 :: o10 :: o11 :: some (.int x) :: t)[12]? = some (some (Value.int x)) from rfl))
  exact lv_iinc C.1 C.2.1 d hl.list hk hv (by rw [C.2.2.1]; exact hi) rfl (fun ls' hl' => K H locs ls' hP hD hS (lvH.set1 hl' (nlg_ok hp (fun j hj => by cases hj; rfl))))
theorem R_forg12 {o0 o1 o2 o3 o4 o5 o6 o7 o8 o9 o10 o11 : Option Value} {c : Option Value} {t : List (Option Value)} (K : Rn X nc ns pc (o0 :: o1 :: o2 :: o3 :: o4 :: o5 :: o6 :: o7 :: o8 :: o9 :: o10 :: o11 :: none :: t) st L h) : Rn X nc ns pc (o0 :: o1 :: o2 :: o3 :: o4 :: o5 :: o6 :: o7 :: o8 :: o9 :: o10 :: o11 :: c :: t) st L h := by
  refine R_weak (fun j v q => ?_) K
  rcases Nat.lt_trichotomy j 12 with e | e | e
  · match j, e, q with
    | 0, _, q => exact q
    | 1, _, q => exact q
    | 2, _, q => exact q
    | 3, _, q => exact q
    | 4, _, q => exact q
    | 5, _, q => exact q
    | 6, _, q => exact q
    | 7, _, q => exact q
    | 8, _, q => exact q
    | 9, _, q => exact q
    | 10, _, q => exact q
    | 11, _, q => exact q
  · subst e; cases q
  · obtain ⟨k, rfl⟩ : ∃ k, j = 12 + 1 + k := ⟨j - 13, by omega⟩
    rw [show 12 + 1 + k = k + 13 by omega] at q ⊢
    exact q
theorem R_il13 (C : Ok X cc own nL fr mc ms) {o0 o1 o2 o3 o4 o5 o6 o7 o8 o9 o10 o11 o12 : Option Value} {t : List (Option Value)} {x : Int32} (d : decode cc pc = .ok (.iload 13, 2)) (hn : pc + 2 = n) (K : Rn X nc ns n (o0 :: o1 :: o2 :: o3 :: o4 :: o5 :: o6 :: o7 :: o8 :: o9 :: o10 :: o11 :: o12 :: some (.int x) :: t) (.int x :: st) L h) : Rn X nc ns pc (o0 :: o1 :: o2 :: o3 :: o4 :: o5 :: o6 :: o7 :: o8 :: o9 :: o10 :: o11 :: o12 :: some (.int x) :: t) st L h := by
  subst hn
  intro H locs ls hP hD hS hl
  exact lv_iload C.1 C.2.1 d (hl.2.2 13 _ rfl) (K H locs ls hP hD hS hl)
theorem R_is13 (C : Ok X cc own nL fr mc ms) {o0 o1 o2 o3 o4 o5 o6 o7 o8 o9 o10 o11 o12 : Option Value} {c : Option Value} {t : List (Option Value)} {x : Int32} (d : decode cc pc = .ok (.istore 13, 2)) (hp : nlg o12 = true) (hi : 13 < nL) (hn : pc + 2 = n) (K : Rn X nc ns n (o0 :: o1 :: o2 :: o3 :: o4 :: o5 :: o6 :: o7 :: o8 :: o9 :: o10 :: o11 :: o12 :: some (.int x) :: t) st L h) : Rn X nc ns pc (o0 :: o1 :: o2 :: o3 :: o4 :: o5 :: o6 :: o7 :: o8 :: o9 :: o10 :: o11 :: o12 :: c :: t) (.int x :: st) L h := by
  subst hn
  intro H locs ls hP hD hS hl
  exact lv_istore C.1 C.2.1 d hl.list (by rw [C.2.2.1]; exact hi) rfl (fun ls' hl' => K H locs ls' hP hD hS (lvH.set1 hl' (nlg_ok hp (fun j hj => by cases hj; rfl))))
theorem R_al13 (C : Ok X cc own nL fr mc ms) {o0 o1 o2 o3 o4 o5 o6 o7 o8 o9 o10 o11 o12 : Option Value} {t : List (Option Value)} {x : Nat} (d : decode cc pc = .ok (.aload 13, 2)) (hn : pc + 2 = n) (K : Rn X nc ns n (o0 :: o1 :: o2 :: o3 :: o4 :: o5 :: o6 :: o7 :: o8 :: o9 :: o10 :: o11 :: o12 :: some (.ref x) :: t) (.ref x :: st) L h) : Rn X nc ns pc (o0 :: o1 :: o2 :: o3 :: o4 :: o5 :: o6 :: o7 :: o8 :: o9 :: o10 :: o11 :: o12 :: some (.ref x) :: t) st L h := by
  subst hn
  intro H locs ls hP hD hS hl
  exact lv_aload C.1 C.2.1 d (hl.2.2 13 _ rfl) (K H locs ls hP hD hS hl)
theorem R_as13 (C : Ok X cc own nL fr mc ms) {o0 o1 o2 o3 o4 o5 o6 o7 o8 o9 o10 o11 o12 : Option Value} {c : Option Value} {t : List (Option Value)} {x : Nat} (d : decode cc pc = .ok (.astore 13, 2)) (hp : nlg o12 = true) (hi : 13 < nL) (hn : pc + 2 = n) (K : Rn X nc ns n (o0 :: o1 :: o2 :: o3 :: o4 :: o5 :: o6 :: o7 :: o8 :: o9 :: o10 :: o11 :: o12 :: some (.ref x) :: t) st L h) : Rn X nc ns pc (o0 :: o1 :: o2 :: o3 :: o4 :: o5 :: o6 :: o7 :: o8 :: o9 :: o10 :: o11 :: o12 :: c :: t) (.ref x :: st) L h := by
  subst hn
  intro H locs ls hP hD hS hl
  exact lv_astore C.1 C.2.1 d hl.list (by rw [C.2.2.1]; exact hi) rfl (fun ls' hl' => K H locs ls' hP hD hS (lvH.set1 hl' (nlg_ok hp (fun j hj => by cases hj; rfl))))
theorem R_ll13 (C : Ok X cc own nL fr mc ms) {o0 o1 o2 o3 o4 o5 o6 o7 o8 o9 o10 o11 o12 : Option Value} {t : List (Option Value)} {x : Int64} (d : decode cc pc = .ok (.lload 13, 2)) (hn : pc + 2 = n) (K : Rn X nc ns n (o0 :: o1 :: o2 :: o3 :: o4 :: o5 :: o6 :: o7 :: o8 :: o9 :: o10 :: o11 :: o12 :: some (.long x) :: t) (.long x :: st) L h) : Rn X nc ns pc (o0 :: o1 :: o2 :: o3 :: o4 :: o5 :: o6 :: o7 :: o8 :: o9 :: o10 :: o11 :: o12 :: some (.long x) :: t) st L h := by
  subst hn
  intro H locs ls hP hD hS hl
  exact lv_lload C.1 C.2.1 d (hl.2.2 13 _ rfl) (K H locs ls hP hD hS hl)
theorem R_inc13 (C : Ok X cc own nL fr mc ms) {o0 o1 o2 o3 o4 o5 o6 o7 o8 o9 o10 o11 o12 : Option Value} {t : List (Option Value)} {c : Int} {x v : Int32} (d : decode cc pc = .ok (.iinc 13 c, 3)) (hp : nlg o12 = true) (hi : 13 < nL) (hv : x + Int32.ofInt c = v) (hn : pc + 3 = n) (K : Rn X nc ns n (o0 :: o1 :: o2 :: o3 :: o4 :: o5 :: o6 :: o7 :: o8 :: o9 :: o10 :: o11 :: o12 :: some (.int v) :: t) st L h) : Rn X nc ns pc (o0 :: o1 :: o2 :: o3 :: o4 :: o5 :: o6 :: o7 :: o8 :: o9 :: o10 :: o11 :: o12 :: some (.int x) :: t) st L h := by
  subst hn
  intro H locs ls hP hD hS hl
  obtain ⟨k, hk⟩ := List.getElem?_of_mem (toL_mem.mpr (show (o0 :: o1 :: o2 :: o3 :: o4 :: o5 :: o6 :: o7 :: o8 :: o9 :: o10 :: o11 :: o12 :: some (.int x) :: t)[13]? = some (some (Value.int x)) from rfl))
  exact lv_iinc C.1 C.2.1 d hl.list hk hv (by rw [C.2.2.1]; exact hi) rfl (fun ls' hl' => K H locs ls' hP hD hS (lvH.set1 hl' (nlg_ok hp (fun j hj => by cases hj; rfl))))
theorem R_forg13 {o0 o1 o2 o3 o4 o5 o6 o7 o8 o9 o10 o11 o12 : Option Value} {c : Option Value} {t : List (Option Value)} (K : Rn X nc ns pc (o0 :: o1 :: o2 :: o3 :: o4 :: o5 :: o6 :: o7 :: o8 :: o9 :: o10 :: o11 :: o12 :: none :: t) st L h) : Rn X nc ns pc (o0 :: o1 :: o2 :: o3 :: o4 :: o5 :: o6 :: o7 :: o8 :: o9 :: o10 :: o11 :: o12 :: c :: t) st L h := by
  refine R_weak (fun j v q => ?_) K
  rcases Nat.lt_trichotomy j 13 with e | e | e
  · match j, e, q with
    | 0, _, q => exact q
    | 1, _, q => exact q
    | 2, _, q => exact q
    | 3, _, q => exact q
    | 4, _, q => exact q
    | 5, _, q => exact q
    | 6, _, q => exact q
    | 7, _, q => exact q
    | 8, _, q => exact q
    | 9, _, q => exact q
    | 10, _, q => exact q
    | 11, _, q => exact q
    | 12, _, q => exact q
  · subst e; cases q
  · obtain ⟨k, rfl⟩ : ∃ k, j = 13 + 1 + k := ⟨j - 14, by omega⟩
    rw [show 13 + 1 + k = k + 14 by omega] at q ⊢
    exact q
end Rules
