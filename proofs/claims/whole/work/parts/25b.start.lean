theorem instOk : ∀ (ci : Nat) (q : vw_C), vwCl[ci]? = some q → Cond.instantiable q.1 q.2.2 ∈ lwG
  | 0, q, hq => by cases hq; exact in_X0.1
  | 1, q, hq => by cases hq; exact in_X1.1
  | 2, q, hq => by cases hq; exact in_X2.1
  | 3, q, hq => by cases hq; exact in_X3.1
  | 4, q, hq => by cases hq; exact in_X4.1
  | 5, q, hq => by cases hq; exact in_X5.1
  | 6, q, hq => by cases hq; exact in_X6.1
  | 7, q, hq => by cases hq; exact in_X7.1
  | 8, q, hq => by cases hq; exact in_X8.1
  | 9, q, hq => by cases hq; exact in_X9.1
  | 10, q, hq => by cases hq; exact in_X10.1
  | 11, q, hq => by cases hq; exact in_X11.1
  | n + 12, q, hq => by simp [vwCl] at hq
theorem ov_wood : Cond.arrayOver (.object "HenHuts$Wood") ∈ lw_tbl := List.mem_of_getElem? (i := 171) (by decide +kernel)
theorem ov_row : Cond.arrayOver (.array .int) ∈ lw_tbl := List.mem_of_getElem? (i := 272) (by decide +kernel)
theorem knownD {s : State} {args : Array Value} (hts : ∀ w ∈ lw_tbl, w.before args s = true) : ∃ D : va_G, ∀ (c : Nat) (q : vw_C), vwCl[c]? = some q → u_Kn s q.1 q.2.1 q.2.2 (D.1 c) (D.2 c) := by
  have hu : ∀ c : Nat, ∃ z : ClassId × (Nat → Nat), ∀ q : vw_C, vwCl[c]? = some q → u_Kn s q.1 q.2.1 q.2.2 z.1 z.2 := by
    intro c
    cases hq : vwCl[c]? with
    | none => exact ⟨(0, fun _ => 0), fun q e => by cases e⟩
    | some q =>
      have hg : ∀ w ∈ lwG, w.before args s = true := fun w hw => hts w (List.mem_filter.mp hw).1
      obtain ⟨cC, iS, hk⟩ := u_known (T := q.2.1) (N := q.2.2) hg (clOk c q hq).words (hg _ (instOk c q hq))
      exact ⟨(cC, iS), fun q' e => by cases e; exact hk⟩
  obtain ⟨f, hf⟩ := Classical.axiomOfChoice hu
  exact ⟨(fun c => (f c).1, fun c => (f c).2), fun c q hq => hf c q hq⟩
theorem arrC {s : State} {args : Array Value} {ty : FieldType} (h : (Cond.arrayClass ty).before args s = true) : ∃ cA : ClassId, ArrOfT s cA ty ∧ s.vm.findClass ("[" ++ ty.toString) = some cA := by
  obtain ⟨c, k, comp, h1, h2, h3⟩ := Cond.arrayClass_spec h
  exact ⟨c, fun n z => ⟨fun k h => (by cases h), k, h2, comp, h3⟩, h1⟩
theorem known9 {s : State} {args : Array Value} (hts : ∀ w ∈ lw_tbl, w.before args s = true) : ∃ (D : va_G) (cA : Nat → ClassId), K9 D cA s := by
  obtain ⟨D, hD⟩ := knownD hts
  have hg : ∀ w ∈ lwG, w.before args s = true := fun w hw => hts w (List.mem_filter.mp hw).1
  obtain ⟨c0, a0, b0⟩ := arrC (hg _ ac_int)
  obtain ⟨c1, a1, b1⟩ := arrC (hg _ ac_boolean)
  have hw := hts _ ov_wood
  have hr := hts _ ov_row
  obtain ⟨m2, c2, k2, e1, -, e2, e3, e4⟩ := Cond.arrayOver_spec hw
  obtain ⟨m3, c3, k3, g1, g2, g3, g4⟩ := Cond.arrayOver_specA hr
  refine ⟨D, fun i => match i with | 0 => c0 | 1 => c1 | 2 => c2 | _ => c3, ⟨hD, fun k q hq => ?_⟩, fun w hw => ?_, hw, hr⟩
  · match k, hq with
    | 0, hq => cases hq; exact ⟨a0, b0⟩
    | 1, hq => cases hq; exact ⟨a1, b1⟩
    | 2, hq => cases hq; exact ⟨fun n z => ⟨fun k h => (by cases h), k2, e2, m2, e3⟩, k2, m2, e2, e3, e1, e4⟩
    | 3, hq => cases hq; exact ⟨fun n z => ⟨fun k h => (by cases h), k3, g2, m3, g3⟩, g4⟩
    | k + 4, hq => cases hq
  · have h1 := List.mem_filter.mp hw
    have h2 := hts w h1.1
    cases w with
    | methodLinkNest a i x k => exact va_Nw.of rfl h2
    | _ => cases h1.2
abbrev F11 : List FdT := [none, some none, some none, some none, some none, some none, none, some none, some none, some none, some none, none, some none, none, some none, none, none, none, none, some none, some none, none, none, some none, none, some none, some none, some none, some none, some none, some none, some none, some none, some none, none, none, some none, some none, some none, none, none]
theorem Rn.loc {X : RX} {nc ns pc : Nat} {lv lv' : List (Option Value)} {st : List Value} {L : Ly} {h : Hp} (e : lv = lv') (K : Rn X nc ns pc lv' st L h) : Rn X nc ns pc lv st L h := by
  subst e
  exact K
theorem pMe {X : RX} {nc ns pc : Nat} {lv : List (Option Value)} {rest : List Value} {ρ0 : Nat → Nat} {q : Nat} {P : Hp → Prop} (K : ∀ (ρ' : Nat → Nat) (h' : Hp), ρ' 0 = q → P h' → Rn X nc ns pc lv rest (LY (mrg ρ0 ρ')) h') : ∀ (r : Option Value) (L' : Ly) (h' : Hp), pM ρ0 q P r L' h' → Rn X nc ns pc lv (r.toList ++ rest) L' h' := by
  intro r L' h' hh
  have e1 : r = none := hh.1
  rw [e1]
  exact hh.2.1.elim (fun ρ' e => Rn.lay e.2 (K ρ' h' e.1 hh.2.2))
def σz : WS := (0, 0, 0, fun _ _ => 0)
def G0 : GS := (plz σz 3, (0, fun _ => 0), false, σz, false, σz)
theorem G0_inv : InvG G0 := by
  refine ⟨⟨⟨by decide, by decide, by decide, by decide⟩, fun k hk => ?_, fun k hk => ?_, fun k hk => ?_, fun k h1 h2 => ?_⟩, ⟨by decide, fun k hk => by show 0 ≤ 126; omega⟩, fun e => Bool.noConfusion (show false = true from e), fun e => Bool.noConfusion (show false = true from e)⟩
  · show 0 < 4 ∧ 9 ≤ 30 ∧ 9 ≤ 30 ∧ 0 < 4 ∧ k < 25
    omega
  · show 0 < 4
    omega
  · exact absurd hk (Nat.not_lt_zero _)
  · show 0 = 0 ∧ 9 = 9 ∧ 9 = 9 ∧ 0 = 0 ∧ k = k
    exact ⟨rfl, rfl, rfl, rfl, rfl⟩
theorem start_cl {h h1 h2 h3 : Hp} (hz : ∀ a, h a = fun _ => 0) (p1 : plQ 1 3 h h1) (p2 : plQ 53 3 h1 h2) (p3 : plQ 63 3 h2 h3) : RCl G0 h3 ∧ (∀ a, 69 ≤ a → h3 a = fun _ => 0) := by
  have k1 : ∀ a, a < 53 → h3 a = h1 a := fun a ha => (p3.2.2 a (Or.inl (by omega))).trans (p2.2.2 a (Or.inl ha))
  have k0 : ∀ a, 6 < a → a < 53 → h3 a = fun _ => 0 := fun a h6 ha => (k1 a ha).trans ((p1.2.2 a (Or.inr (by omega))).trans (hz a))
  refine ⟨⟨⟨?_, ?_, ?_, fun j k hj hk => ?_⟩, ⟨?_, fun k hk => ?_⟩, ?_, ?_, fun e => Bool.noConfusion (show false = true from e), fun e => Bool.noConfusion (show false = true from e)⟩, fun a ha => ?_⟩
  · rw [k1 1 (by omega)]; exact p1.1.1
  · rw [k1 1 (by omega)]; exact p1.1.2.1
  · rw [k1 1 (by omega)]; exact p1.1.2.2
  · match j, hj with
    | 0, _ => rw [k1 _ (by omega)]; exact (p1.2.1 k hk).1
    | 1, _ => rw [k1 _ (by omega)]; exact (p1.2.1 k hk).2.1
    | 2, _ => rw [k1 _ (by omega)]; exact (p1.2.1 k hk).2.2.1
    | 3, _ => rw [k1 _ (by omega)]; exact (p1.2.1 k hk).2.2.2.1
    | 4, _ => rw [k1 _ (by omega)]; exact (p1.2.1 k hk).2.2.2.2
    | 5, _ => rw [k0 _ (by omega) (by omega)]; rfl
    | 6, _ => rw [k0 _ (by omega) (by omega)]; rfl
    | 7, _ => rw [k0 _ (by omega) (by omega)]; rfl
    | 8, _ => rw [k0 _ (by omega) (by omega)]; rfl
  · rw [k0 13 (by omega) (by omega)]; rfl
  · rw [k0 14 (by omega) (by omega)]; rfl
  · rw [k0 12 (by omega) (by omega)]; rfl
  · rw [k0 12 (by omega) (by omega)]; rfl
  · exact (p3.2.2 a (Or.inr (by omega))).trans ((p2.2.2 a (Or.inr (by omega))).trans ((p1.2.2 a (Or.inr (by omega))).trans (hz a)))
theorem start_rm {h : Hp} (hz : ∀ a, 69 ≤ a → h a = fun _ => 0) : RM σz h :=
  ⟨by rw [hz 73 (by omega)]; rfl, by rw [hz 73 (by omega)]; rfl, by rw [hz 73 (by omega)]; rfl, fun j k hj hk => by rw [hz (74 + j) (by omega)]; rfl⟩
theorem start_gd {h h' : Hp} (hz : ∀ a, 69 ≤ a → h a = fun _ => 0) (hc : RCl G0 h) (q1 : RM (plz σz 3) h' ∧ (∀ a, a < 73 ∨ 78 < a → h' a = h a) ∧ h' 73 13 = h 73 13) : Gd G0 h' := by
  have z : ∀ a, 78 < a → h' a = fun _ => 0 := fun a ha => (q1.2.1 a (Or.inr ha)).trans (hz a (by omega))
  refine ⟨RCl.m (fun a ha => q1.2.1 a (Or.inl ha)) hc, ⟨q1.1, ⟨?_, fun k hk => ?_⟩, ?_, ?_, fun e => Bool.noConfusion (show false = true from e), fun e => Bool.noConfusion (show false = true from e)⟩, G0_inv⟩
  · rw [q1.2.2, hz 73 (by omega)]; rfl
  · rw [z 83 (by omega)]; rfl
  · rw [z 99 (by omega)]; rfl
  · rw [z 99 (by omega)]; rfl
def lwX (p : Program) (l : Launch) (e : Env) (s : State) (m : MethodId) (b : Nat) (below : List Frame) (meth : Method) (c : Code) (D : va_G) (cA : Nat → ClassId) : RX := (p, l, e, room_1, s, m, #[Value.ref b], below, meth, c, D, cA, fun q => s.heap.size ≤ q, lw_Z below #[Value.ref b] s, fun n => n)
theorem w_end {p : Program} {l : Launch} {e : Env} {s : State} {m : MethodId} {b : Nat} {below : List Frame} {meth : Method} {c : Code} {D : va_G} {cA : Nat → ClassId} (C : Ok (lwX p l e s m b below meth c D cA) cL_law RL 4 1000 600000 7302250) (hr : meth.sig.returnType = ret) {lv : List (Option Value)} {L : Ly} (h : Hp) : Rn (lwX p l e s m b below meth c D cA) 100 78294 1138 lv [] L h := by
  refine R_ic (n := 1139) (v := 1) C dL_law_1138 (by decide +kernel) rfl ?_
  intro H locs ls hP hD hS hl
  refine va_forget (fun q hq => hS.2.2 q hq) ?_
  refine W.widen (k := 600000) (n := 7302250) (by decide) (by decide) ?_
  exact lw_ret C.1 C.2.1 hr C.2.2.2.2.2.2.2.1 dL_law_1139
set_option maxRecDepth 20000 in
set_option maxHeartbeats 4000000 in
theorem w_make {X : RX} {b N : Nat} {sc : Nat → Int32} (C : Ok X cL_law RL 4 1000 600000 7302250) (S : Sc X b N sc) (E : ∀ (lv : List (Option Value)) (r : Nat → Nat) (h : Hp), Rn X 100 78294 1138 lv [] (LY r) h) {h : Hp} (hz : ∀ a, h a = fun _ => 0) : Rn X 0 0 0 [some (.ref b), none, none, none] [] ([] ++ []) h := by
  have hz0 : Zr h (([] : Ly).length + 0) := fun a _ => hz a
  refine N_new (n := 3) (ci := 10) (r := (RX10, TX10, 11)) (M' := fun q => [(q, .inl (10, [some none, some none, some none, some none, some none, some none, some none, some none, some none, some none, some none]))]) (fs := [some none, some none, some none, some none, some none, some none, some none, some none, some none, some none, some none]) C rfl cl_L_7 in_X10 rfl rfl (fun _ => rfl) hz0 (Nat.le_of_ble_eq_true rfl) (Nat.le_of_ble_eq_true rfl) (Nat.le_of_ble_eq_true rfl) dL_law_0 rfl (fun q => ?_)
  refine R_dup (n := 4) C dL_law_3 rfl rfl ?_
  refine N_call (n := 7) (A := []) (B := [(q, .inl (10, [some none, some none, some none, some none, some none, some none, some none, some none, some none, some none, some none]))]) C (k_X10 _ _ _ (fun a _ => hz a)) mw_X10_init ml_L_9 nv_X10_init rfl dL_law_4 rfl (Nat.le_of_ble_eq_true rfl) ⟨(Nat.le_of_ble_eq_true rfl), (Nat.le_of_ble_eq_true rfl)⟩ ⟨(Nat.le_of_ble_eq_true rfl), (Nat.le_of_ble_eq_true rfl)⟩ rfl (pLe (fun ρ h3 pp => ?_))
  obtain ⟨h1, h2, p1, p2, p3⟩ := pp
  have sc1 := start_cl hz p1 p2 p3
  refine Rn.lay (L' := MC (cq q ρ) ++ []) (List.append_nil _).symm ?_
  have hz3 : Zr h3 ((MC (cq q ρ)).length + 0) := fun a ha => sc1.2 a (by have e : (MC (cq q ρ)).length = 73 := rfl; omega)
  refine R_as1 (n := 8) C dL_law_7 rfl (Nat.le_of_ble_eq_true rfl) rfl ?_
  refine N_new (n := 11) (ci := 11) (r := (RX11, TX11, 41)) (M' := fun q8 => [(q8, .inl (11, F11))]) (fs := F11) C rfl cl_L_10 in_X11 rfl rfl (fun _ => rfl) hz3 (Nat.le_of_ble_eq_true rfl) (Nat.le_of_ble_eq_true rfl) (Nat.le_of_ble_eq_true rfl) dL_law_8 rfl (fun q8 => ?_)
  refine R_dup (n := 12) C dL_law_11 rfl rfl ?_
  refine N_call (n := 15) (A := []) (B := [(q8, .inl (11, F11))]) C (k_X11 _ _ _ (L := MC (cq q ρ) ++ []) (ρ0 := cq q ρ) (hz3.le (by rw [List.append_nil]; omega)) (List.append_nil _) (start_rm sc1.2)) mw_X11_init ml_L_12 nv_X11_init rfl dL_law_12 rfl (Nat.le_of_ble_eq_true rfl) ⟨(Nat.le_of_ble_eq_true rfl), (Nat.le_of_ble_eq_true rfl)⟩ ⟨(Nat.le_of_ble_eq_true rfl), (Nat.le_of_ble_eq_true rfl)⟩ rfl (pMe (fun ρ' h4 e8 q4 => ?_))
  have gd := start_gd sc1.2 sc1.1 q4
  refine R_as2 (n := 16) C dL_law_15 rfl (Nat.le_of_ble_eq_true rfl) rfl ?_
  refine R_ic (n := 17) C dL_law_16 ci_0 rfl ?_
  refine R_is3 (n := 18) C dL_law_17 rfl (Nat.le_of_ble_eq_true rfl) rfl ?_
  refine Rn.cnt (nc' := 100) (ns' := 78294) rfl rfl ?_
  refine Rn.loc (lv' := [some (.ref b), some (.ref (mrg (cq q ρ) ρ' 0)), some (.ref (mrg (cq q ρ) ρ' 73)), some (.int (nI 0))]) (by rw [show mrg (cq q ρ) ρ' 73 = q8 from e8]; rfl) ?_
  by_cases h7 : N < 7
  · exact w_less C S h7 (fun i h => E _ _ h) h4
  · exact w_loop C S (by omega) (fun i h => E _ _ h) N 0 (by omega) (by omega) G0 h4 gd
theorem whole_start {p : Program} {e : Env} {s : State} {m : MethodId} {below : List Frame} {meth : Method} {c : Code} (l : Launch) {b L : Nat} {xs : Nat → Int32} (hL : L ≤ 448) (C0 : lw_At p s m meth c b L xs) : W p l e room_1 s m #[Value.ref b] below meth c s.heap [] 0 0 (lw_Z below #[Value.ref b] s) (entryFrame m ([Value.ref b] : List Value).toArray 4) := by
  obtain ⟨hx, hb, hr, hml, hown, hts, hX, hbl, hlk, -⟩ := C0
  obtain ⟨D, cA, hK⟩ := known9 hts
  have C : Ok (lwX p l e s m b below meth c D cA) cL_law RL 4 1000 600000 7302250 := ⟨hx, hb, hml, hown, fun w hw => hts w (List.mem_filter.mp hw).1, hK, fun q hq => hq, hlk, Nat.le_of_ble_eq_true rfl, Nat.le_of_ble_eq_true rfl, Nat.le_of_ble_eq_true rfl, Nat.le_of_ble_eq_true rfl⟩
  have S : Sc (lwX p l e s m b below meth c D cA) b L xs := ⟨hX, hbl, Nat.not_le.mpr hbl, hL⟩
  have hl := lv_entry ([Value.ref b] : List Value) (n := 4) (Nat.le_of_ble_eq_true rfl)
  have K := w_make C S (fun lv r h => w_end C hr h) (h := fun _ _ => 0) (fun a => rfl)
  rw [lg_entry_eq]
  refine K s.heap [] _ (fun k q hq => by cases hq) ⟨fun i j x y hi => (by cases hi), fun k q hq => by cases hq⟩ va_S.rf ⟨hl.1.trans hml.symm, hl.2.1, fun i v hi => ?_⟩
  exact hl.2.2 (i, v) (lvE_mem (args := [Value.ref b]) (n := 4) hi)
