theorem up_z {h : Hp} {a : Nat} (hz : h a = fun _ => 0) : va_up h a (fun _ => 0) = h := by
  funext b
  by_cases hb : b = a
  · subst hb
    simp [va_up, hz]
  · simp [va_up, hb]
def Zr (h : Hp) (n : Nat) : Prop := ∀ a, n ≤ a → h a = fun _ => 0
theorem Zr.le {h : Hp} {n m : Nat} (z : Zr h n) (e : n ≤ m) : Zr h m := fun a ha => z a (Nat.le_trans e ha)
def okTy (t : FieldType) : Bool := match t with
  | .int => true
  | .boolean => true
  | .object _ => true
  | .array _ => true
  | _ => false
def dfT (t : FieldType) : FdT := match t with
  | .int => none
  | .boolean => none
  | _ => some none
theorem dfT_ok {t : FieldType} (h : okTy t = true) (k : Nat) : defaultValue t = fdV (fun _ => 0) k (dfT t) := by
  cases t <;> first | rfl | (cases h; done)
theorem app_at {L M : Ly} {i : Nat} {x : Nat × ShT} (e : M[i]? = some x) : (L ++ M)[L.length + i]? = some x := by
  rw [List.getElem?_append_right (by omega), Nat.add_sub_cancel_left]
  exact e
theorem app_set {L M M' : Ly} {i : Nat} {x : Nat × ShT} (e : M.set i x = M') : (L ++ M).set (L.length + i) x = L ++ M' := by
  subst e
  rw [List.set_append_right _ _ (by omega), Nat.add_sub_cancel_left]
def pL (Lf : (Nat → Nat) → Ly) (P : Hp → Prop) : Option Value → Ly → Hp → Prop := fun v L' h' => v = none ∧ (∃ ρ : Nat → Nat, L' = Lf ρ) ∧ P h'
section New23
variable {X : RX} {cc : ByteArray} {own : String} {nL fr mc ms nc ns pc n : Nat} {lv : List (Option Value)} {st : List Value} {L : Ly} {h : Hp}
theorem Rn.lay {L' : Ly} (e : L = L') (K : Rn X nc ns pc lv st L' h) : Rn X nc ns pc lv st L h := by
  subst e
  exact K
theorem Rn.cnt {nc' ns' : Nat} (e : nc = nc') (f : ns = ns') (K : Rn X nc' ns' pc lv st L h) : Rn X nc ns pc lv st L h := by
  subst e
  subst f
  exact K
theorem pLe {rest : List Value} {Lf : (Nat → Nat) → Ly} {P : Hp → Prop} (K : ∀ (ρ : Nat → Nat) (h' : Hp), P h' → Rn X nc ns pc lv rest (Lf ρ) h') : ∀ (r : Option Value) (L' : Ly) (h' : Hp), pL Lf P r L' h' → Rn X nc ns pc lv (r.toList ++ rest) L' h' := by
  intro r L' h' ⟨e1, ⟨ρ, e2⟩, p⟩
  subst e1
  subst e2
  exact K ρ h' p
theorem pLs {rest : List Value} {Lf : (Nat → Nat) → Ly} (K : ∀ (ρ : Nat → Nat), Rn X nc ns pc lv rest (Lf ρ) h) : ∀ (r : Option Value) (L' : Ly) (h' : Hp), pL Lf (fun h' => h' = h) r L' h' → Rn X nc ns pc lv (r.toList ++ rest) L' h' :=
  pLe (fun ρ h' e => by subst e; exact K ρ)
theorem N_oi (C : Ok X cc own nL fr mc ms) {idx q : Nat} (lk : Cond.methodLink own idx objectInit ∈ lwG) (d : decode cc pc = .ok (.invokespecial idx, 3)) (hfr : 1 ≤ fr) (hst : (st.map fun v => v.category).sum ≤ 8) (hn : pc + 3 = n) (K : Rn X nc ns n lv st L h) : Rn X nc ns pc lv (.ref q :: st) L h := by
  subst hn
  intro H locs ls hP hD hS hl
  refine W.objInit C.1 C.2.1 C.2.2.2.1 (C.2.2.2.2.1 _ lk) (C.2.2.2.2.1 _ oi_inst) (C.2.2.2.2.1 _ oi_code) rfl hl.1 rfl d (Nat.le_trans hfr C.2.2.2.2.2.2.2.2.1) ?_ ?_
  · have h1 := C.2.2.2.2.2.2.2.2.2.2.2
    have h2 : 2 * (F0 (xm X) pc ls (.ref q :: st)).monitorRoom = 0 := rfl
    rw [h2]
    omega
  · exact K H locs ls hP hD hS hl
theorem N_new (C : Ok X cc own nL fr mc ms) {idx ci : Nat} {r : vw_C} {M : Ly} {M' : Nat → Ly} {fs : List FdT} (hr : vwCl[ci]? = some r) (lk : Cond.classLink own idx r.1 ∈ lwG) (hi : Cond.instantiable r.1 r.2.2 ∈ lwG ∧ Cond.initialized r.1 ∈ lwG) (hok : (List.range r.2.2).all (fun j => okTy (tyXX ci j)) = true) (hfs : (List.range r.2.2).map (fun j => dfT (tyXX ci j)) = fs) (hM : ∀ q, M ++ [(q, .inl (ci, fs))] = M' q) {k : Nat} (hz : Zr h (L.length + k)) (hk : k ≤ M.length) (hc : nc + 1 ≤ mc) (hs : ns + r.2.2 ≤ ms) (d : decode cc pc = .ok (.new idx, 3)) (hn : pc + 3 = n) (K : ∀ q, Rn X (nc + 1) (ns + r.2.2) n lv (.ref q :: st) (L ++ M' q) h) : Rn X nc ns pc lv st (L ++ M) h := by
  subst hn
  subst hfs
  intro H locs ls hP hD hS hl
  have hcl := clOk ci r hr
  refine va_new (ci := ci) (fs := ((List.range r.2.2).map (fun j => dfT (tyXX ci j))).mapIdx (fdV (fun _ => 0))) (C := r.1) (T := r.2.1) (N := r.2.2) C.1 C.2.1 C.2.2.2.2.1 hcl.words (tyXX ci) hcl.2.1 C.2.2.2.1 (C.2.2.2.2.1 _ lk) (C.2.2.2.2.1 _ hi.1) (C.2.2.2.2.1 _ hi.2) C.2.2.2.2.2.1.1 hP hD hS C.2.2.2.2.2.2.1 hr (fun j hj => ?_) (Nat.le_trans hc C.2.2.2.2.2.2.2.2.2.1) (Nat.le_trans hs C.2.2.2.2.2.2.2.2.2.2.1) d (fun q H1 hP1 hD1 hS1 => ?_)
  · have ho : okTy (tyXX ci j) = true := List.all_eq_true.mp hok j (List.mem_range.mpr hj)
    unfold vp_V
    rw [List.getD_eq_getElem?_getD, List.getElem?_mapIdx, List.getElem?_map, List.getElem?_range hj]
    exact dfT_ok ho j
  · have e : cel (xA X) (L ++ M) h ++ [(q, .inr (ci, ((List.range r.2.2).map (fun j => dfT (tyXX ci j))).mapIdx (fdV (fun _ => 0))))] = cel (xA X) (L ++ M' q) h := by
      refine (cel_push (x := .inl (ci, (List.range r.2.2).map (fun j => dfT (tyXX ci j)))) (g := fun _ => 0) rfl).trans ?_
      rw [up_z (hz _ (by rw [List.length_append]; omega)), List.append_assoc, hM q]
    rw [e] at hP1 hD1
    exact K q H1 locs ls hP1 hD1 hS1 hl
theorem N_newi (C : Ok X cc own nL fr mc ms) {N : Nat} {M : Ly} {M' : Nat → Ly} (hM : ∀ q, M ++ [(q, .inr (.inl (0, N)))] = M' q) {k : Nat} (hz : Zr h (L.length + k)) (hk : k ≤ M.length) (hb : N ≤ 134217728) (hc : nc + 1 ≤ mc) (hs : ns + N ≤ ms) (d : decode cc pc = .ok (.newarray .int, 2)) (hn : pc + 2 = n) (K : ∀ q, Rn X (nc + 1) (ns + N) n lv (.ref q :: st) (L ++ M' q) h) : Rn X nc ns pc lv (.int (nI N) :: st) (L ++ M) h := by
  subst hn
  intro H locs ls hP hD hS hl
  refine va_newa (atype := .int) (ty := .int) (a0 := (N, .inl (fun _ => 0))) C.1 C.2.1 (C.2.2.2.2.1 _ ac_int) rfl C.2.2.2.2.2.1.1 hP hD hS C.2.2.2.2.2.2.1 (fun cA => rfl) (nI_pos (by omega)) (nI_clamp (by omega)) (by show N * 4 ≤ _; omega) (Nat.le_trans hc C.2.2.2.2.2.2.2.2.2.1) (Nat.le_trans hs C.2.2.2.2.2.2.2.2.2.2.1) d (fun q cA H1 hK1 hP1 hD1 hS1 => ?_)
  have e1 : (xs X).vm.findClass ("[" ++ FieldType.int.toString) = some cA := (hK1.2 4 (cA, .int) rfl).2
  have e2 : (xs X).vm.findClass ("[" ++ FieldType.int.toString) = some (xA X 0) := (C.2.2.2.2.2.1.1.2 0 (xA X 0, .int) rfl).2
  obtain rfl : cA = xA X 0 := Option.some.inj (e1.symm.trans e2)
  have e : cel (xA X) (L ++ M) h ++ [(q, .inl (xA X 0, N, .inl (fun _ => 0)))] = cel (xA X) (L ++ M' q) h := by
    refine (cel_push (x := .inr (.inl (0, N))) (g := fun _ => 0) rfl).trans ?_
    rw [up_z (hz _ (by rw [List.length_append]; omega)), List.append_assoc, hM q]
  rw [e] at hP1 hD1
  exact K q H1 locs ls hP1 hD1 hS1 hl
theorem N_newz (C : Ok X cc own nL fr mc ms) {N : Nat} {M : Ly} {M' : Nat → Ly} (hM : ∀ q, M ++ [(q, .inr (.inl (1, N)))] = M' q) {k : Nat} (hz : Zr h (L.length + k)) (hk : k ≤ M.length) (hb : N ≤ 134217728) (hc : nc + 1 ≤ mc) (hs : ns + N ≤ ms) (d : decode cc pc = .ok (.newarray .boolean, 2)) (hn : pc + 2 = n) (K : ∀ q, Rn X (nc + 1) (ns + N) n lv (.ref q :: st) (L ++ M' q) h) : Rn X nc ns pc lv (.int (nI N) :: st) (L ++ M) h := by
  subst hn
  intro H locs ls hP hD hS hl
  refine va_newa (atype := .boolean) (ty := .boolean) (a0 := (N, .inl (fun _ => 0))) C.1 C.2.1 (C.2.2.2.2.1 _ ac_boolean) rfl C.2.2.2.2.2.1.1 hP hD hS C.2.2.2.2.2.2.1 (fun cA => rfl) (nI_pos (by omega)) (nI_clamp (by omega)) (by show N * 1 ≤ _; omega) (Nat.le_trans hc C.2.2.2.2.2.2.2.2.2.1) (Nat.le_trans hs C.2.2.2.2.2.2.2.2.2.2.1) d (fun q cA H1 hK1 hP1 hD1 hS1 => ?_)
  have e1 : (xs X).vm.findClass ("[" ++ FieldType.boolean.toString) = some cA := (hK1.2 4 (cA, .boolean) rfl).2
  have e2 : (xs X).vm.findClass ("[" ++ FieldType.boolean.toString) = some (xA X 1) := (C.2.2.2.2.2.1.1.2 1 (xA X 1, .boolean) rfl).2
  obtain rfl : cA = xA X 1 := Option.some.inj (e1.symm.trans e2)
  have e : cel (xA X) (L ++ M) h ++ [(q, .inl (xA X 1, N, .inl (fun _ => 0)))] = cel (xA X) (L ++ M' q) h := by
    refine (cel_push (x := .inr (.inl (1, N))) (g := fun _ => 0) rfl).trans ?_
    rw [up_z (hz _ (by rw [List.length_append]; omega)), List.append_assoc, hM q]
  rw [e] at hP1 hD1
  exact K q H1 locs ls hP1 hD1 hS1 hl
theorem N_newq (C : Ok X cc own nL fr mc ms) {idx : Nat} {M : Ly} {M' : Nat → Ly} (lk : Cond.classLink own idx "HenHuts$Wood" ∈ lwG) (hM : ∀ q, M ++ [(q, .inr (.inr (2, [none, none])))] = M' q) {k : Nat} (hz : Zr h (L.length + k)) (hk : k ≤ M.length) (hc : nc + 1 ≤ mc) (hs : ns + 2 ≤ ms) (d : decode cc pc = .ok (.anewarray idx, 3)) (hn : pc + 3 = n) (K : ∀ q, Rn X (nc + 1) (ns + 2) n lv (.ref q :: st) (L ++ M' q) h) : Rn X nc ns pc lv (.int (nI 2) :: st) (L ++ M) h := by
  subst hn
  intro H locs ls hP hD hS hl
  refine va_newq (N' := 2) C.1 C.2.1 C.2.2.2.1 (C.2.2.2.2.1 _ lk) C.2.2.2.2.2.1.2.2.1 C.2.2.2.2.2.1.1 hP hD hS C.2.2.2.2.2.2.1 (nI_pos (by omega)) (nI_clamp (by omega)) (by omega) (Nat.le_trans hc C.2.2.2.2.2.2.2.2.2.1) (Nat.le_trans hs C.2.2.2.2.2.2.2.2.2.2.1) d (fun q cA H1 hK1 hP1 hD1 hS1 => ?_)
  obtain ⟨-, -, -, -, -, e1⟩ := (hK1.2 4 (cA, .object "HenHuts$Wood") rfl).2
  obtain ⟨-, -, -, -, -, e2⟩ := (C.2.2.2.2.2.1.1.2 2 (xA X 2, .object "HenHuts$Wood") rfl).2
  obtain rfl : cA = xA X 2 := Option.some.inj (e1.symm.trans e2)
  have e : cel (xA X) (L ++ M) h ++ [(q, .inl (xA X 2, 2, .inr (.inr (.inr (.inr (fun _ => none))))))] = cel (xA X) (L ++ M' q) h := by
    refine (cel_push (x := .inr (.inr (2, [none, none]))) (g := fun _ => 0) ?_).trans (by rw [up_z (hz _ (by rw [List.length_append]; omega)), List.append_assoc, hM q])
    unfold shE
    simp only [List.length_cons, List.length_nil]
    congr 7
    funext j
    match j with
    | 0 => rfl
    | 1 => rfl
    | j + 2 => rfl
  rw [e] at hP1 hD1
  exact K q H1 locs ls hP1 hD1 hS1 hl
theorem N_putF (C : Ok X cc own nL fr mc ms) (hin : (xM X).name = "<init>") {q idx ci k r0 : Nat} {fs : List FdT} {r : vw_C} {M M' : Ly} (i : Nat) (fl : FL own idx ci k) (hr : vwCl[ci]? = some r) (hfin : (r.2.1 k).2.2.2 = true) (hdecl : (r.2.1 k).1 = own) {ty : FieldType} (hty : tyXX ci k = ty) (hnr : narrow ty (.ref r0) = .ref r0) (hfit : fits ty (.ref r0) = true) (d : decode cc pc = .ok (.putfield idx, 3)) (hL : M[i]? = some (q, .inl (ci, fs))) (hf : k < fs.length) (hn : pc + 3 = n) (hM : M.set i (q, .inl (ci, fs.set k (some (some r0)))) = M') (K : Rn X nc ns n lv st (L ++ M') h) : Rn X nc ns pc lv (.ref r0 :: .ref q :: st) (L ++ M) h :=
  G_putF C hin (L.length + i) fl hr hfin hdecl hty hnr hfit d (app_at hL) hf hn (app_set hM) K
theorem N_getR (C : Ok X cc own nL fr mc ms) {q idx ci k r0 : Nat} {fs : List FdT} {M : Ly} (i : Nat) (fl : FL own idx ci k) (d : decode cc pc = .ok (.getfield idx, 3)) (hL : M[i]? = some (q, .inl (ci, fs))) (hf : fs[k]? = some (some (some r0))) (hn : pc + 3 = n) (K : Rn X nc ns n lv (.ref r0 :: st) (L ++ M) h) : Rn X nc ns pc lv (.ref q :: st) (L ++ M) h :=
  G_getR C (L.length + i) fl d (app_at hL) hf hn K
theorem N_aast (C : Ok X cc own nL fr mc ms) {q k r0 : Nat} {rs : List (Option Nat)} {fs : List FdT} {M M' : Ly} (i j : Nat) (d : decode cc pc = .ok (.aastore, 1)) (hL : M[i]? = some (q, .inr (.inr (2, rs)))) (hV : M[j]? = some (r0, .inl (9, fs))) (h31 : rs.length < 2 ^ 31) (hk : k < rs.length) (hn : pc + 1 = n) (hM : M.set i (q, .inr (.inr (2, rs.set k (some r0)))) = M') (K : Rn X nc ns n lv st (L ++ M') h) : Rn X nc ns pc lv (.ref r0 :: .int (nI k) :: .ref q :: st) (L ++ M) h :=
  G_aast C (L.length + i) (L.length + j) d (app_at hL) (app_at hV) h31 hk hn (app_set hM) K
theorem N_call (C : Ok X cc own nL fr mc ms) {y : MethodName} {b : ByteArray} {mL idx fr1 mc1 ms1 q : Nat} {rest : List Value} {M A B : Ly} {post : Option Value → Ly → Hp → Prop} (hM : Cn (xl X) (xD X) (xA X) y b mL none fr1 mc1 ms1 [.ref q] ((L ++ A) ++ B) h post) (mw : MW y b mL none 0) (lk : Cond.methodLink own idx y ∈ lwG) (vi : Cond.instanceMethod y ∈ lwG) (hy : y.name = "<init>") (d : decode cc pc = .ok (.invokespecial idx, 3))
    (hAB : A ++ B = M) (hw8 : (rest.map fun v => v.category).sum ≤ 8) (hroom : fr1 + 1 ≤ fr ∧ mL + 19 ≤ 64) (hcell : nc + mc1 ≤ mc ∧ ns + ms1 ≤ ms) (hn : pc + 3 = n)
    (K : ∀ (r : Option Value) (L' : Ly) (h' : Hp), post r L' h' → Rn X (nc + mc1) (ns + ms1) n lv (r.toList ++ rest) L' h') : Rn X nc ns pc lv (.ref q :: rest) (L ++ M) h := by
  refine Rn.lay (L' := (L ++ A) ++ B) (by rw [List.append_assoc, hAB]) ?_
  refine R_run (a := [Value.ref q].toArray) C (fun H locs ls hP hD hl => ?_) hn K
  exact va_runI (b := q) (As := []) (rest := rest) (nL := (xc X).maxLocals) ⟨C.1, C.2.1, rfl, C.2.2.2.1, C.2.2.2.2.1⟩ (hM H.size) ⟨callB_O C mw lk hroom, hy, C.2.2.2.2.1 _ vi⟩ ⟨cnP_blind, cnP_pre C.2.2.2.2.2.1 hP hD⟩ rfl rfl hl.1 rfl (lv_room hw8) d ⟨Nat.le_trans hcell.1 C.2.2.2.2.2.2.2.2.2.1, Nat.le_trans hcell.2 C.2.2.2.2.2.2.2.2.2.2.1⟩
theorem N_callN (C : Ok X cc own nL fr mc ms) {y : MethodName} {b : ByteArray} {mL idx fr1 mc1 ms1 q : Nat} {rest : List Value} {M A B : Ly} {host : String} {post : Option Value → Ly → Hp → Prop} (hM : Cn (xl X) (xD X) (xA X) y b mL none fr1 mc1 ms1 [.ref q] ((L ++ A) ++ B) h post) (mw : MW y b mL none 0) (lk : Cond.methodLinkNest own idx y host ∈ lwN) (vi : Cond.instanceMethod y ∈ lwG) (hy : y.name = "<init>") (d : decode cc pc = .ok (.invokespecial idx, 3))
    (hAB : A ++ B = M) (hw8 : (rest.map fun v => v.category).sum ≤ 8) (hroom : fr1 + 1 ≤ fr ∧ mL + 19 ≤ 64) (hcell : nc + mc1 ≤ mc ∧ ns + ms1 ≤ ms) (hn : pc + 3 = n)
    (K : ∀ (r : Option Value) (L' : Ly) (h' : Hp), post r L' h' → Rn X (nc + mc1) (ns + ms1) n lv (r.toList ++ rest) L' h') : Rn X nc ns pc lv (.ref q :: rest) (L ++ M) h := by
  refine Rn.lay (L' := (L ++ A) ++ B) (by rw [List.append_assoc, hAB]) ?_
  refine R_run (a := [Value.ref q].toArray) C (fun H locs ls hP hD hl => ?_) hn K
  exact va_runIN (b := q) (As := []) (rest := rest) (nL := (xc X).maxLocals) ⟨C.1, C.2.1, rfl, C.2.2.2.1, C.2.2.2.2.1⟩ (hM H.size) ⟨callN_O C mw lk hroom, hy, C.2.2.2.2.1 _ vi⟩ ⟨cnP_blind, cnP_pre C.2.2.2.2.2.1 hP hD⟩ rfl rfl hl.1 rfl (lv_room hw8) d ⟨Nat.le_trans hcell.1 C.2.2.2.2.2.2.2.2.2.1, Nat.le_trans hcell.2 C.2.2.2.2.2.2.2.2.2.2.1⟩
end New23
