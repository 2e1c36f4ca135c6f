def cnP (D : va_G) (cA : Nat → ClassId) (args : List Value) (L : Ly) (h : Hp) (sz : Nat) : Array Value → State → Prop := va_Pc args (fun U => U.heap.size = sz ∧ va_P D vwCl (cel cA L h) U.heap ∧ K9 D cA U ∧ va_D (fun _ => True) (cel cA L h))
def cnQ (D : va_G) (cA : Nat → ClassId) (L : Ly) (h : Hp) (sz : Nat) (post : Option Value → Ly → Hp → Prop) : Array Value → State → Outcome → State → Prop := fun _ st oc t =>
  (∃ (r : Option Value) (L' : Ly) (h' : Hp), oc = .returned r ∧ post r L' h' ∧ va_P D vwCl (cel cA L' h') t.heap ∧ va_D (va_A (cel cA L h) sz) (cel cA L' h')) ∧ va_F (va_A (cel cA L h) sz) st t
abbrev rmO (fr mc ms : Nat) : Room := { frames := fr, cells := mc, slots := ms, locals := 64 * fr }
def Cn (l : Launch) (D : va_G) (cA : Nat → ClassId) (y : MethodName) (cc : ByteArray) (mL : Nat) (ret : Option FieldType) (fr mc ms : Nat) (args : List Value) (L : Ly) (h : Hp) (post : Option Value → Ly → Hp → Prop) : Prop :=
  ∀ sz : Nat, Met l y (.code y cc mL ret :: lwG) (rmO fr mc ms) (cnP D cA args L h sz) (cnQ D cA L h sz post) mc ms (va_A (cel cA L h) sz)
def lvA : List Value → List (Option Value)
  | [] => []
  | v :: t => if v.category = 2 then some v :: none :: lvA t else some v :: lvA t
def lvE (args : List Value) (n : Nat) : List (Option Value) := lvA args ++ List.replicate (n - (lvA args).length) none
theorem lvA_mem : ∀ (args : List Value) (i0 i : Nat) (v : Value), (lvA args)[i]? = some (some v) → (i0 + i, v) ∈ lv_args i0 args
  | [], i0, i, v, h => by simp [lvA] at h
  | w :: t, i0, i, v, h => by
    unfold lvA at h
    unfold lv_args
    by_cases hc : w.category = 2
    · rw [if_pos hc] at h
      rw [if_pos hc]
      match i, h with
      | 0, h =>
        simp at h
        subst h
        exact List.mem_cons_self
      | 1, h => simp at h
      | i + 2, h =>
        have := lvA_mem t (i0 + 2) i v (by simpa using h)
        rw [show i0 + 2 + i = i0 + (i + 2) by omega] at this
        exact List.mem_cons_of_mem _ this
    · rw [if_neg hc] at h
      rw [if_neg hc]
      match i, h with
      | 0, h =>
        simp at h
        subst h
        exact List.mem_cons_self
      | i + 1, h =>
        have := lvA_mem t (i0 + 1) i v (by simpa using h)
        rw [show i0 + 1 + i = i0 + (i + 1) by omega] at this
        exact List.mem_cons_of_mem _ this
theorem lvE_mem {args : List Value} {n i : Nat} {v : Value} (h : (lvE args n)[i]? = some (some v)) : (i, v) ∈ lv_args 0 args := by
  unfold lvE at h
  by_cases hl : i < (lvA args).length
  · rw [List.getElem?_append_left hl] at h
    have := lvA_mem args 0 i v h
    rwa [Nat.zero_add] at this
  · rw [List.getElem?_append_right (by omega), List.getElem?_replicate] at h
    split at h <;> simp at h
def OkR (X : RX) (ret : Option FieldType) (mc ms : Nat) (post : Option Value → Ly → Hp → Prop) : Prop :=
  ∃ (L0 : Ly) (h0 : Hp) (sz : Nat), xZ X = MQ (xb X) (cnQ (xD X) (xA X) L0 h0 sz post) (xa X) (xs X) mc ms (va_A (cel (xA X) L0 h0) sz) ∧ xF X = va_A (cel (xA X) L0 h0) sz ∧ (xM X).sig.returnType = ret
theorem Cn.of {l : Launch} {D : va_G} {cA : Nat → ClassId} {y : MethodName} {cc : ByteArray} {mL : Nat} {ret : Option FieldType} {fr mc ms : Nat} {args : List Value} {L : Ly} {h : Hp} {post : Option Value → Ly → Hp → Prop} {lv : List (Option Value)}
    (hy : plainName y.cls = true) (hlen : (lg_sl args).length ≤ mL) (hlv : lvE args mL = lv)
    (body : ∀ X : RX, (xM X).name = y.name → Ok X cc y.cls mL fr mc ms → OkR X ret mc ms post → Rn X 0 0 0 lv [] L h) : Cn l D cA y cc mL ret fr mc ms args L h post := by
  intro sz
  refine Met.ofW (cc := cc) (maxL := mL) (ret := ret) hy rfl ?_
  intro p e s m args2 below meth c s₁ B hml hv
  obtain ⟨rfl, hsz, hP, hK, hD0⟩ := hv
  subst hsz
  have hD := hD0.self (sz := s.heap.size)
  have hts := atoms_spec (ws := .code y cc mL ret :: lwG) B.pre
  have hl := lv_entry args (n := mL) hlen
  have b := body (p, l, e, rmO fr mc ms, s, m, args.toArray, below, meth, c, D, cA, va_A (cel cA L h) s.heap.size, MQ below (cnQ D cA L h s.heap.size post) args.toArray s mc ms (va_A (cel cA L h) s.heap.size), fun n => n)
    (name_of_methodNamed B.named B.method).1
    ⟨B.exec, B.bytes, hml, findClass_of_methodNamed B.named, fun w hw => hts w (List.mem_cons_of_mem _ hw), hK, fun q hq => Or.inr hq, B.notSynchronized, Nat.le_refl _, Nat.le_refl _, Nat.le_refl _, Nat.le_refl _⟩
    ⟨L, h, s.heap.size, rfl, rfl, B.returns⟩
  rw [lg_entry_eq]
  refine b s.heap [] _ hP hD va_S.rf ⟨?_, hl.2.1, fun i v hi => ?_⟩
  · exact hl.1.trans hml.symm
  · rw [← hlv] at hi
    exact hl.2.2 (i, v) (lvE_mem hi)
section Calls6
variable {X : RX} {cc : ByteArray} {own : String} {nL fr mc ms nc ns pc n : Nat} {lv : List (Option Value)} {st : List Value} {L : Ly} {h : Hp}
theorem R_iret (C : Ok X cc own nL fr mc ms) {mc' ms' : Nat} {post : Option Value → Ly → Hp → Prop} {v : Int32} (CR : OkR X (some .int) mc' ms' post) (h1 : nc ≤ mc') (h2 : ns ≤ ms') (d : decode cc pc = .ok (.ireturn, 1)) (hp : post (some (.int v)) L h) : Rn X nc ns pc lv [.int v] L h := by
  intro H locs ls hP hD hS hl
  obtain ⟨L0, h0, sz, hZ, hF, hr⟩ := CR
  rw [hZ]
  rw [hF] at hD hS
  refine W.widen h1 h2 ?_
  exact W.iret C.1 C.2.1 hr (fun t ht hW => ⟨⟨_, L, h, rfl, hp, by rw [ht]; exact hP, hD⟩, hS.F ht⟩) hS.2.2 d C.2.2.2.2.2.2.2.1
theorem R_zret (C : Ok X cc own nL fr mc ms) {mc' ms' : Nat} {post : Option Value → Ly → Hp → Prop} {v : Int32} (CR : OkR X (some .boolean) mc' ms' post) (hv : v = 0 ∨ v = 1) (h1 : nc ≤ mc') (h2 : ns ≤ ms') (d : decode cc pc = .ok (.ireturn, 1)) (hp : post (some (.int v)) L h) : Rn X nc ns pc lv [.int v] L h := by
  intro H locs ls hP hD hS hl
  obtain ⟨L0, h0, sz, hZ, hF, hr⟩ := CR
  rw [hZ]
  rw [hF] at hD hS
  refine W.widen h1 h2 ?_
  exact W.zret C.1 C.2.1 hr (by rcases hv with rfl | rfl <;> rfl) (fun t ht hW => ⟨⟨_, L, h, rfl, hp, by rw [ht]; exact hP, hD⟩, hS.F ht⟩) hS.2.2 d C.2.2.2.2.2.2.2.1
theorem R_vret (C : Ok X cc own nL fr mc ms) {mc' ms' : Nat} {post : Option Value → Ly → Hp → Prop} (CR : OkR X none mc' ms' post) (h1 : nc ≤ mc') (h2 : ns ≤ ms') (d : decode cc pc = .ok (.return_, 1)) (hp : post none L h) : Rn X nc ns pc lv [] L h := by
  intro H locs ls hP hD hS hl
  obtain ⟨L0, h0, sz, hZ, hF, hr⟩ := CR
  rw [hZ]
  rw [hF] at hD hS
  refine W.widen h1 h2 ?_
  exact W.vret C.1 C.2.1 hr (fun t ht hW => ⟨⟨_, L, h, rfl, hp, by rw [ht]; exact hP, hD⟩, hS.F ht⟩) hS.2.2 d C.2.2.2.2.2.2.2.1
theorem R_lret (C : Ok X cc own nL fr mc ms) {mc' ms' : Nat} {post : Option Value → Ly → Hp → Prop} {v : Int64} (CR : OkR X (some .long) mc' ms' post) (h1 : nc ≤ mc') (h2 : ns ≤ ms') (d : decode cc pc = .ok (.lreturn, 1)) (hp : post (some (.long v)) L h) : Rn X nc ns pc lv [.long v] L h := by
  intro H locs ls hP hD hS hl
  obtain ⟨L0, h0, sz, hZ, hF, hr⟩ := CR
  rw [hZ]
  rw [hF] at hD hS
  refine W.widen h1 h2 ?_
  exact W.lret C.1 C.2.1 hr (fun t ht hW => ⟨⟨_, L, h, rfl, hp, by rw [ht]; exact hP, hD⟩, hS.F ht⟩) hS.2.2 d C.2.2.2.2.2.2.2.1
theorem R_aret (C : Ok X cc own nL fr mc ms) {mc' ms' : Nat} {post : Option Value → Ly → Hp → Prop} {q : Nat} (CR : OkR X (some (.array .int)) mc' ms' post) (h1 : nc ≤ mc') (h2 : ns ≤ ms') (d : decode cc pc = .ok (.areturn, 1)) (hp : post (some (.ref q)) L h) : Rn X nc ns pc lv [.ref q] L h := by
  intro H locs ls hP hD hS hl
  obtain ⟨L0, h0, sz, hZ, hF, hr⟩ := CR
  rw [hZ]
  rw [hF] at hD hS
  refine W.widen h1 h2 ?_
  exact W.aret C.1 C.2.1 hr (Or.inr ⟨_, rfl⟩) (Or.inr ⟨_, rfl⟩) (fun t ht hW => ⟨⟨_, L, h, rfl, hp, by rw [ht]; exact hP, hD⟩, hS.F ht⟩) hS.2.2 d C.2.2.2.2.2.2.2.1
theorem R_run (C : Ok X cc own nL fr mc ms) {mc1 ms1 : Nat} {st0 rest : List Value} {post : Option Value → Ly → Hp → Prop} {a : Array Value}
    (hr : ∀ (H : Heap) (locs : List Loc) (ls : Array Slot), va_P (xD X) vwCl (cel (xA X) L h) H → va_D (xF X) (cel (xA X) L h) → lvH ls (xc X).maxLocals lv → va_Run (xp X) (xl X) (xe X) (xR X) (xs X) (xm X) (xa X) (xb X) (xM X) (xc X) H locs nc ns mc1 ms1 (F0 (xm X) pc ls st0) rest (cnQ (xD X) (xA X) L h H.size post a) (va_A (cel (xA X) L h) H.size))
    (hn : pc + 3 = n) (K : ∀ (r : Option Value) (L' : Ly) (h' : Hp), post r L' h' → Rn X (nc + mc1) (ns + ms1) n lv (r.toList ++ rest) L' h') : Rn X nc ns pc lv st0 L h := by
  subst hn
  intro H locs ls hP hD hS hl T hT Xs
  obtain ⟨v, st₀, t, T', L1, h0, X', hL1, e1, e2, ⟨⟨r, L', h', hv, hp, hP', hD'⟩, hz, hk⟩, stp⟩ := hr H locs ls hP hD hl T hT Xs
  cases hv
  rw [h0] at hz hk
  have hF : ∀ q, va_A (cel (xA X) L h) H.size q → xF X q := fun q hq => by
    rcases hq with ⟨k, e, hk⟩ | hq
    · exact hD.2 k (q, e) hk
    · exact C.2.2.2.2.2.2.1 q (Nat.le_trans hS.1 hq)
  obtain ⟨t2, a1, b1⟩ := K v L' h' hp T'.heap (locs ++ L1) ls (by rw [e1]; exact hP') (hD'.weaken (fun _ _ _ hh => hF _ hh))
    ⟨Nat.le_trans hS.1 (by rw [e1]; exact hz), fun q h1 h2 => by rw [e1, hk q (Nat.lt_of_lt_of_le h1 hS.1) (fun z => h2 (hF q z))]; exact hS.2.1 q h1 h2, fun q hq => by
      rcases List.mem_append.mp hq with h | h
      · exact hS.2.2 q h
      · exact hF _ (hL1 q h)⟩ hl T' rfl X'
  exact ⟨t2, stp t2 a1, b1⟩
def MW (y : MethodName) (b : ByteArray) (mL : Nat) (ret : Option FieldType) (np : Nat) : Prop := Cond.code y b mL ret ∈ lwG ∧ Cond.initialized y.cls ∈ lwG ∧ y.cls ≠ "java/lang/invoke/MethodHandle" ∧ y.cls ≠ "java/lang/invoke/VarHandle" ∧ (parseMethodDescriptor y.desc).map (fun d => d.parameters.length) = some np
theorem cnP_blind {D : va_G} {cA : Nat → ClassId} {args : List Value} {h : Hp} {sz : Nat} : FrameBlind (cnP D cA args L h sz) := by
  intro a U g mk q
  obtain ⟨q0, q1, qP, qK, qD⟩ := q
  exact ⟨q0, q1, qP, qK.calling, qD⟩
theorem callB_O (C : Ok X cc own nL fr mc ms) {y : MethodName} {b : ByteArray} {mL np idx fr1 mc1 ms1 : Nat} {ret : Option FieldType} (mw : MW y b mL ret np) (lk : Cond.methodLink own idx y ∈ lwG) (hroom : fr1 + 1 ≤ fr ∧ mL + 19 ≤ 64) : CallB (xR X) (xs X) (xa X) own idx y b mL ret (.code y b mL ret :: lwG) (rmO fr1 mc1 ms1) mc1 ms1 np :=
  callB_of np C.2.2.2.2.1 (lwG_in mw.1 (fun _ hw => hw)) rfl rfl rfl (C.2.2.2.2.1 _ mw.2.1) (C.2.2.2.2.1 _ lk) mw.2.2 ⟨Nat.le_trans hroom.1 C.2.2.2.2.2.2.2.2.1, by have h1 := C.2.2.2.2.2.2.2.2.2.2.2; have h2 := hroom.1; have h3 := hroom.2; show 8 + (mL + 11) + 64 * fr1 ≤ _; omega⟩
theorem callN_O (C : Ok X cc own nL fr mc ms) {y : MethodName} {b : ByteArray} {mL np idx fr1 mc1 ms1 : Nat} {ret : Option FieldType} {host : String} (mw : MW y b mL ret np) (lk : Cond.methodLinkNest own idx y host ∈ lwN) (hroom : fr1 + 1 ≤ fr ∧ mL + 19 ≤ 64) : va_CN (xR X) (xs X) (xa X) own idx y host b mL ret (.code y b mL ret :: lwG) (rmO fr1 mc1 ms1) mc1 ms1 np :=
  va_cnB np C.2.2.2.2.1 (lwG_in mw.1 (fun _ hw => hw)) rfl rfl rfl (C.2.2.2.2.2.1.2.1 _ lk) (C.2.2.2.2.1 _ mw.2.1) mw.2.2 ⟨Nat.le_trans hroom.1 C.2.2.2.2.2.2.2.2.1, by have h1 := C.2.2.2.2.2.2.2.2.2.2.2; have h2 := hroom.1; have h3 := hroom.2; show 8 + (mL + 11) + 64 * fr1 ≤ _; omega⟩
theorem cnP_pre {H : Heap} {args : List Value} {D : va_G} {cA : Nat → ClassId} {A : Nat → Prop} {s : State} (hK : K9 D cA s) (hP : va_P D vwCl (cel cA L h) H) (hD : va_D A (cel cA L h)) : ∀ U : State, U.heap = H → s.WarmedH U.vm → cnP D cA args L h H.size args.toArray U := fun U hU hW => ⟨rfl, by rw [hU], by rw [hU]; exact hP, hK.warm hW, hD.weaken (fun _ _ _ _ => trivial)⟩
theorem R_callV (C : Ok X cc own nL fr mc ms) {y : MethodName} {b : ByteArray} {mL np idx fr1 mc1 ms1 q ci : Nat} {ret : Option FieldType} {As st0 rest : List Value} {fs : List FdT} {post : Option Value → Ly → Hp → Prop} (a : Nat) (hM : Cn (xl X) (xD X) (xA X) y b mL ret fr1 mc1 ms1 (.ref q :: As) L h post) (mw : MW y b mL ret np) (lk : Cond.methodLink own idx y ∈ lwG) (vi : Cond.instanceMethod y ∈ lwG ∧ Cond.selects y.cls y y ∈ lwG) (d : decode cc pc = .ok (.invokevirtual idx, 3))
    (hL : L[a]? = some (q, .inl (ci, fs))) (hc : (vwCl[ci]?).map (fun z => z.1) = some y.cls) (hAs : As.length = np) (hst : st0 = As.reverse ++ .ref q :: rest) (hw8 : (rest.map fun v => v.category).sum ≤ 8) (hroom : fr1 + 1 ≤ fr ∧ mL + 19 ≤ 64) (hcell : nc + mc1 ≤ mc ∧ ns + ms1 ≤ ms) (hn : pc + 3 = n)
    (K : ∀ (r : Option Value) (L' : Ly) (h' : Hp), post r L' h' → Rn X (nc + mc1) (ns + ms1) n lv (r.toList ++ rest) L' h') : Rn X nc ns pc lv st0 L h := by
  refine R_run (a := (Value.ref q :: As).toArray) C (fun H locs ls hP hD hl => ?_) hn K
  obtain ⟨r, hr, hrc⟩ := Option.map_eq_some_iff.mp hc
  refine va_runV (C := y.cls) (b := q) (As := As) (rest := rest) (nL := (xc X).maxLocals) ⟨C.1, C.2.1, rfl, C.2.2.2.1, C.2.2.2.2.1⟩ (hM H.size) ⟨callB_O C mw lk hroom, C.2.2.2.2.1 _ vi.1, C.2.2.2.2.1 _ vi.2⟩ ⟨cnP_blind, ?_, cnP_pre C.2.2.2.2.2.1 hP hD⟩ rfl hAs hl.1 hst (lv_room hw8) d ⟨Nat.le_trans hcell.1 C.2.2.2.2.2.2.2.2.2.1, Nat.le_trans hcell.2 C.2.2.2.2.2.2.2.2.2.2.1⟩
  rw [← hrc]
  exact va_recv C.2.2.2.2.2.1.1 hP hr (cel_at hL)
theorem R_callS (C : Ok X cc own nL fr mc ms) {y : MethodName} {b : ByteArray} {mL np idx fr1 mc1 ms1 : Nat} {ret : Option FieldType} {As st0 rest : List Value} {post : Option Value → Ly → Hp → Prop} (hM : Cn (xl X) (xD X) (xA X) y b mL ret fr1 mc1 ms1 As L h post) (mw : MW y b mL ret np) (lk : Cond.methodLink own idx y ∈ lwG) (vi : Cond.static y ∈ lwG) (d : decode cc pc = .ok (.invokestatic idx, 3))
    (hAs : As.length = np) (hst : st0 = As.reverse ++ rest) (hw8 : (rest.map fun v => v.category).sum ≤ 8) (hroom : fr1 + 1 ≤ fr ∧ mL + 19 ≤ 64) (hcell : nc + mc1 ≤ mc ∧ ns + ms1 ≤ ms) (hn : pc + 3 = n)
    (K : ∀ (r : Option Value) (L' : Ly) (h' : Hp), post r L' h' → Rn X (nc + mc1) (ns + ms1) n lv (r.toList ++ rest) L' h') : Rn X nc ns pc lv st0 L h := by
  refine R_run (a := As.toArray) C (fun H locs ls hP hD hl => ?_) hn K
  exact va_runS (As := As) (rest := rest) (nL := (xc X).maxLocals) ⟨C.1, C.2.1, rfl, C.2.2.2.1, C.2.2.2.2.1⟩ (hM H.size) ⟨callB_O C mw lk hroom, C.2.2.2.2.1 _ vi⟩ ⟨cnP_blind, cnP_pre C.2.2.2.2.2.1 hP hD⟩ rfl hAs hl.1 hst (lv_room hw8) d ⟨Nat.le_trans hcell.1 C.2.2.2.2.2.2.2.2.2.1, Nat.le_trans hcell.2 C.2.2.2.2.2.2.2.2.2.2.1⟩
theorem R_callSN (C : Ok X cc own nL fr mc ms) {y : MethodName} {b : ByteArray} {mL np idx fr1 mc1 ms1 : Nat} {ret : Option FieldType} {As st0 rest : List Value} {host : String} {post : Option Value → Ly → Hp → Prop} (hM : Cn (xl X) (xD X) (xA X) y b mL ret fr1 mc1 ms1 As L h post) (mw : MW y b mL ret np) (lk : Cond.methodLinkNest own idx y host ∈ lwN) (vi : Cond.static y ∈ lwG) (d : decode cc pc = .ok (.invokestatic idx, 3))
    (hAs : As.length = np) (hst : st0 = As.reverse ++ rest) (hw8 : (rest.map fun v => v.category).sum ≤ 8) (hroom : fr1 + 1 ≤ fr ∧ mL + 19 ≤ 64) (hcell : nc + mc1 ≤ mc ∧ ns + ms1 ≤ ms) (hn : pc + 3 = n)
    (K : ∀ (r : Option Value) (L' : Ly) (h' : Hp), post r L' h' → Rn X (nc + mc1) (ns + ms1) n lv (r.toList ++ rest) L' h') : Rn X nc ns pc lv st0 L h := by
  refine R_run (a := As.toArray) C (fun H locs ls hP hD hl => ?_) hn K
  exact va_runSN (As := As) (rest := rest) (nL := (xc X).maxLocals) ⟨C.1, C.2.1, rfl, C.2.2.2.1, C.2.2.2.2.1⟩ (hM H.size) ⟨callN_O C mw lk hroom, C.2.2.2.2.1 _ vi, trivial⟩ ⟨cnP_blind, cnP_pre C.2.2.2.2.2.1 hP hD⟩ rfl hAs hl.1 hst (lv_room hw8) d ⟨Nat.le_trans hcell.1 C.2.2.2.2.2.2.2.2.2.1, Nat.le_trans hcell.2 C.2.2.2.2.2.2.2.2.2.2.1⟩
theorem R_callI (C : Ok X cc own nL fr mc ms) {y : MethodName} {b : ByteArray} {mL np idx fr1 mc1 ms1 q : Nat} {As st0 rest : List Value} {post : Option Value → Ly → Hp → Prop} (hM : Cn (xl X) (xD X) (xA X) y b mL none fr1 mc1 ms1 (.ref q :: As) L h post) (mw : MW y b mL none np) (hy : y.name = "<init>") (lk : Cond.methodLink own idx y ∈ lwG) (vi : Cond.instanceMethod y ∈ lwG) (d : decode cc pc = .ok (.invokespecial idx, 3))
    (hAs : As.length = np) (hst : st0 = As.reverse ++ .ref q :: rest) (hw8 : (rest.map fun v => v.category).sum ≤ 8) (hroom : fr1 + 1 ≤ fr ∧ mL + 19 ≤ 64) (hcell : nc + mc1 ≤ mc ∧ ns + ms1 ≤ ms) (hn : pc + 3 = n)
    (K : ∀ (r : Option Value) (L' : Ly) (h' : Hp), post r L' h' → Rn X (nc + mc1) (ns + ms1) n lv (r.toList ++ rest) L' h') : Rn X nc ns pc lv st0 L h := by
  refine R_run (a := (Value.ref q :: As).toArray) C (fun H locs ls hP hD hl => ?_) hn K
  exact va_runI (b := q) (As := As) (rest := rest) (nL := (xc X).maxLocals) ⟨C.1, C.2.1, rfl, C.2.2.2.1, C.2.2.2.2.1⟩ (hM H.size) ⟨callB_O C mw lk hroom, hy, C.2.2.2.2.1 _ vi⟩ ⟨cnP_blind, cnP_pre C.2.2.2.2.2.1 hP hD⟩ rfl hAs hl.1 hst (lv_room hw8) d ⟨Nat.le_trans hcell.1 C.2.2.2.2.2.2.2.2.2.1, Nat.le_trans hcell.2 C.2.2.2.2.2.2.2.2.2.2.1⟩
theorem R_callIN (C : Ok X cc own nL fr mc ms) {y : MethodName} {b : ByteArray} {mL np idx fr1 mc1 ms1 q : Nat} {As st0 rest : List Value} {host : String} {post : Option Value → Ly → Hp → Prop} (hM : Cn (xl X) (xD X) (xA X) y b mL none fr1 mc1 ms1 (.ref q :: As) L h post) (mw : MW y b mL none np) (hy : y.name = "<init>") (lk : Cond.methodLinkNest own idx y host ∈ lwN) (vi : Cond.instanceMethod y ∈ lwG) (d : decode cc pc = .ok (.invokespecial idx, 3))
    (hAs : As.length = np) (hst : st0 = As.reverse ++ .ref q :: rest) (hw8 : (rest.map fun v => v.category).sum ≤ 8) (hroom : fr1 + 1 ≤ fr ∧ mL + 19 ≤ 64) (hcell : nc + mc1 ≤ mc ∧ ns + ms1 ≤ ms) (hn : pc + 3 = n)
    (K : ∀ (r : Option Value) (L' : Ly) (h' : Hp), post r L' h' → Rn X (nc + mc1) (ns + ms1) n lv (r.toList ++ rest) L' h') : Rn X nc ns pc lv st0 L h := by
  refine R_run (a := (Value.ref q :: As).toArray) C (fun H locs ls hP hD hl => ?_) hn K
  exact va_runIN (b := q) (As := As) (rest := rest) (nL := (xc X).maxLocals) ⟨C.1, C.2.1, rfl, C.2.2.2.1, C.2.2.2.2.1⟩ (hM H.size) ⟨callN_O C mw lk hroom, hy, C.2.2.2.2.1 _ vi⟩ ⟨cnP_blind, cnP_pre C.2.2.2.2.2.1 hP hD⟩ rfl hAs hl.1 hst (lv_room hw8) d ⟨Nat.le_trans hcell.1 C.2.2.2.2.2.2.2.2.2.1, Nat.le_trans hcell.2 C.2.2.2.2.2.2.2.2.2.2.1⟩
end Calls6
