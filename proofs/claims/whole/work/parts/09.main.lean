def LYS : List ShT := [
  .inl (10, [some (some 1), some (some 11), some (some 12), some (some 13), some (some 15), some (some 18), some (some 25), some (some 40), some (some 44), some (some 47), some (some 51)]),
  .inl (9, [none, none, none, some (some 2), some (some 3), some (some 4), some (some 5), some (some 6), some (some 7), some (some 8), some (some 9), some (some 10)]),
  .inr (.inl (0, 5)),
  .inr (.inl (0, 5)),
  .inr (.inl (0, 5)),
  .inr (.inl (0, 5)),
  .inr (.inl (0, 5)),
  .inr (.inl (0, 30)),
  .inr (.inl (0, 6)),
  .inr (.inl (0, 6)),
  .inr (.inl (0, 6)),
  .inr (.inr (2, [some 53, some 63])),
  .inr (.inl (1, 2)),
  .inl (4, [none, some (some 14)]),
  .inr (.inl (0, 60)),
  .inl (2, [none, none, none, none, none, some (some 16), some (some 17)]),
  .inr (.inl (0, 5)),
  .inr (.inl (0, 5)),
  .inl (5, [none, some (some 19), some (some 22), some (some 23), some (some 24)]),
  .inl (7, [some (some 20), some (some 21)]),
  .inr (.inl (0, 384)),
  .inr (.inl (0, 96)),
  .inr (.inl (0, 1024)),
  .inr (.inl (0, 1024)),
  .inr (.inl (0, 1024)),
  .inl (3, [none, none, some (some 26), some (some 33)]),
  .inr (.inr (3, [some 27, some 28, some 29, some 30, some 31, some 32])),
  .inr (.inl (0, 5)),
  .inr (.inl (0, 5)),
  .inr (.inl (0, 5)),
  .inr (.inl (0, 5)),
  .inr (.inl (0, 5)),
  .inr (.inl (0, 5)),
  .inr (.inr (3, [some 34, some 35, some 36, some 37, some 38, some 39])),
  .inr (.inl (0, 5)),
  .inr (.inl (0, 5)),
  .inr (.inl (0, 5)),
  .inr (.inl (0, 5)),
  .inr (.inl (0, 5)),
  .inr (.inl (0, 5)),
  .inl (6, [none, none, some (some 41), some (some 42), some (some 43)]),
  .inr (.inl (0, 1024)),
  .inr (.inl (0, 1024)),
  .inr (.inl (0, 1024)),
  .inl (0, [some (some 45), some (some 46)]),
  .inr (.inl (0, 8)),
  .inr (.inl (0, 8)),
  .inl (1, [none, some (some 48), some (some 49), some (some 50)]),
  .inr (.inl (0, 25)),
  .inr (.inl (0, 25)),
  .inr (.inl (0, 25)),
  .inl (8, [none, none, some (some 52)]),
  .inr (.inl (0, 5)),
  .inl (9, [none, none, none, some (some 54), some (some 55), some (some 56), some (some 57), some (some 58), some (some 59), some (some 60), some (some 61), some (some 62)]),
  .inr (.inl (0, 5)),
  .inr (.inl (0, 5)),
  .inr (.inl (0, 5)),
  .inr (.inl (0, 5)),
  .inr (.inl (0, 5)),
  .inr (.inl (0, 30)),
  .inr (.inl (0, 6)),
  .inr (.inl (0, 6)),
  .inr (.inl (0, 6)),
  .inl (9, [none, none, none, some (some 64), some (some 65), some (some 66), some (some 67), some (some 68), some (some 69), some (some 70), some (some 71), some (some 72)]),
  .inr (.inl (0, 5)),
  .inr (.inl (0, 5)),
  .inr (.inl (0, 5)),
  .inr (.inl (0, 5)),
  .inr (.inl (0, 5)),
  .inr (.inl (0, 30)),
  .inr (.inl (0, 6)),
  .inr (.inl (0, 6)),
  .inr (.inl (0, 6)),
  .inl (11, [none, some (some 74), some (some 75), some (some 76), some (some 77), some (some 78), none, some (some 79), some (some 80), some (some 81), some (some 82), none, some (some 83), none, some (some 84), none, none, none, none, some (some 85), some (some 86), none, none, some (some 87), none, some (some 88), some (some 89), some (some 90), some (some 91), some (some 92), some (some 93), some (some 94), some (some 95), some (some 96), none, none, some (some 97), some (some 98), some (some 99), none, none]),
  .inr (.inl (0, 5)),
  .inr (.inl (0, 5)),
  .inr (.inl (0, 5)),
  .inr (.inl (0, 5)),
  .inr (.inl (0, 5)),
  .inr (.inl (0, 30)),
  .inr (.inl (0, 6)),
  .inr (.inl (0, 6)),
  .inr (.inl (0, 6)),
  .inr (.inl (0, 60)),
  .inr (.inl (0, 60)),
  .inr (.inl (0, 5)),
  .inr (.inl (0, 5)),
  .inr (.inl (0, 1024)),
  .inr (.inl (0, 1024)),
  .inr (.inl (0, 1024)),
  .inr (.inl (0, 1024)),
  .inr (.inl (0, 1024)),
  .inr (.inl (0, 32768)),
  .inr (.inl (0, 32768)),
  .inr (.inl (0, 5)),
  .inr (.inl (0, 8)),
  .inr (.inl (0, 8)),
  .inr (.inl (0, 5)),
  .inr (.inl (0, 200)),
  .inr (.inl (1, 2))]
def shR (r : Nat → Nat) (x : ShT) : ShT := match x with
  | .inl o => .inl (o.1, o.2.map (fun f => f.map (fun z => z.map r)))
  | .inr (.inl a) => .inr (.inl a)
  | .inr (.inr a) => .inr (.inr (a.1, a.2.map (fun z => z.map r)))
def LY (r : Nat → Nat) : Ly := LYS.mapIdx (fun i x => (r i, shR r x))
theorem LY_at {r : Nat → Nat} {a : Nat} {x : ShT} (e : LYS[a]? = some x) : (LY r)[a]? = some (r a, shR r x) := by
  unfold LY
  rw [List.getElem?_mapIdx, e]
  rfl
def smallSh (x : ShT) : Bool := match x with
  | .inr (.inl a) => decide (a.2 < 100000)
  | .inr (.inr a) => decide (a.2.length < 100000)
  | _ => true
theorem LYS_small : LYS.all smallSh = true := by decide +kernel
theorem LY_len {a t len : Nat} (e : LYS[a]? = some (.inr (.inl (t, len)))) : len < 2 ^ 31 := by
  have h := List.all_eq_true.mp LYS_small _ (List.mem_of_getElem? e)
  simp [smallSh] at h
  omega
theorem LY_lenR {a t : Nat} {rs : List (Option Nat)} (e : LYS[a]? = some (.inr (.inr (t, rs)))) : rs.length < 2 ^ 31 := by
  have h := List.all_eq_true.mp LYS_small _ (List.mem_of_getElem? e)
  simp [smallSh] at h
  omega
def pE (v : Option Value) (L : Ly) (h : Hp) : Option Value → Ly → Hp → Prop := fun v' L' h' => v' = v ∧ L' = L ∧ h' = h
theorem pE_i (v : Option Value) (L : Ly) (h : Hp) : pE v L h v L h := ⟨rfl, rfl, rfl⟩
section Main9
variable {X : RX} {cc : ByteArray} {own : String} {nL fr mc ms nc ns pc n : Nat} {lv : List (Option Value)} {st : List Value} {r : Nat → Nat} {h : Hp}
theorem M_getI (C : Ok X cc own nL fr mc ms) {a idx ci k : Nat} {fs : List FdT} {v : Int32} (fl : FL own idx ci k) (d : decode cc pc = .ok (.getfield idx, 3)) (hs : LYS[a]? = some (.inl (ci, fs))) (hf : fs[k]? = some none) (hv : h a k = v) (hn : pc + 3 = n) (K : Rn X nc ns n lv (.int v :: st) (LY r) h) : Rn X nc ns pc lv (.ref (r a) :: st) (LY r) h :=
  G_getI C a fl d (LY_at hs) (by rw [List.getElem?_map, hf]; rfl) hv hn K
theorem M_getR (C : Ok X cc own nL fr mc ms) {a idx ci k b : Nat} {fs : List FdT} (fl : FL own idx ci k) (d : decode cc pc = .ok (.getfield idx, 3)) (hs : LYS[a]? = some (.inl (ci, fs))) (hf : fs[k]? = some (some (some b))) (hn : pc + 3 = n) (K : Rn X nc ns n lv (.ref (r b) :: st) (LY r) h) : Rn X nc ns pc lv (.ref (r a) :: st) (LY r) h :=
  G_getR C a fl d (LY_at hs) (by rw [List.getElem?_map, hf]; rfl) hn K
theorem M_putI (C : Ok X cc own nL fr mc ms) {a idx ci k : Nat} {fs : List FdT} {v : Int32} (fl : FL own idx ci k) (d : decode cc pc = .ok (.putfield idx, 3)) (hs : LYS[a]? = some (.inl (ci, fs))) (hf : fs[k]? = some none) (hfin : isFin ci k = false) (hty : tyXX ci k = .int) (hn : pc + 3 = n) (K : Rn X nc ns n lv st (LY r) (up2 h a k v)) : Rn X nc ns pc lv (.int v :: .ref (r a) :: st) (LY r) h :=
  G_putI C a fl hfin hty d (LY_at hs) (by rw [List.getElem?_map, hf]; rfl) hn K
theorem M_putZ (C : Ok X cc own nL fr mc ms) {a idx ci k : Nat} {fs : List FdT} {v : Int32} (fl : FL own idx ci k) (d : decode cc pc = .ok (.putfield idx, 3)) (hs : LYS[a]? = some (.inl (ci, fs))) (hf : fs[k]? = some none) (hfin : isFin ci k = false) (hty : tyXX ci k = .boolean) (hv : v = 0 ∨ v = 1) (hn : pc + 3 = n) (K : Rn X nc ns n lv st (LY r) (up2 h a k v)) : Rn X nc ns pc lv (.int v :: .ref (r a) :: st) (LY r) h :=
  G_putZ C a fl hfin hty hv d (LY_at hs) (by rw [List.getElem?_map, hf]; rfl) hn K
theorem M_iald (C : Ok X cc own nL fr mc ms) {a k len : Nat} {v : Int32} (d : decode cc pc = .ok (.iaload, 1)) (hs : LYS[a]? = some (.inr (.inl (0, len)))) (hk : k < len) (hv : h a k = v) (hn : pc + 1 = n) (K : Rn X nc ns n lv (.int v :: st) (LY r) h) : Rn X nc ns pc lv (.int (nI k) :: .ref (r a) :: st) (LY r) h :=
  G_iald C a d (LY_at hs) (LY_len hs) hk hv hn K
theorem M_iast (C : Ok X cc own nL fr mc ms) {a k len : Nat} {v : Int32} (d : decode cc pc = .ok (.iastore, 1)) (hs : LYS[a]? = some (.inr (.inl (0, len)))) (hk : k < len) (hn : pc + 1 = n) (K : Rn X nc ns n lv st (LY r) (up2 h a k v)) : Rn X nc ns pc lv (.int v :: .int (nI k) :: .ref (r a) :: st) (LY r) h :=
  G_iast C a d (LY_at hs) (LY_len hs) hk hn K
theorem M_zald (C : Ok X cc own nL fr mc ms) {a k len : Nat} {v : Int32} (d : decode cc pc = .ok (.baload, 1)) (hs : LYS[a]? = some (.inr (.inl (1, len)))) (hk : k < len) (hv : h a k = v) (hn : pc + 1 = n) (K : Rn X nc ns n lv (.int v :: st) (LY r) h) : Rn X nc ns pc lv (.int (nI k) :: .ref (r a) :: st) (LY r) h :=
  G_zald C a d (LY_at hs) (LY_len hs) hk hv hn K
theorem M_zast (C : Ok X cc own nL fr mc ms) {a k len : Nat} {v : Int32} (hv : v = 0 ∨ v = 1) (d : decode cc pc = .ok (.bastore, 1)) (hs : LYS[a]? = some (.inr (.inl (1, len)))) (hk : k < len) (hn : pc + 1 = n) (K : Rn X nc ns n lv st (LY r) (up2 h a k v)) : Rn X nc ns pc lv (.int v :: .int (nI k) :: .ref (r a) :: st) (LY r) h :=
  G_zast C a hv d (LY_at hs) (LY_len hs) hk hn K
theorem M_aald (C : Ok X cc own nL fr mc ms) {a k b : Nat} {rs : List (Option Nat)} (d : decode cc pc = .ok (.aaload, 1)) (hs : LYS[a]? = some (.inr (.inr (2, rs)))) (hk : rs[k]? = some (some b)) (hn : pc + 1 = n) (K : Rn X nc ns n lv (.ref (r b) :: st) (LY r) h) : Rn X nc ns pc lv (.int (nI k) :: .ref (r a) :: st) (LY r) h :=
  G_aald C a d (LY_at hs) (by have := LY_lenR hs; simpa using this) (by rw [List.getElem?_map, hk]; rfl) hn K
theorem M_aaldA (C : Ok X cc own nL fr mc ms) {a k b : Nat} {rs : List (Option Nat)} (d : decode cc pc = .ok (.aaload, 1)) (hs : LYS[a]? = some (.inr (.inr (3, rs)))) (hk : rs[k]? = some (some b)) (hn : pc + 1 = n) (K : Rn X nc ns n lv (.ref (r b) :: st) (LY r) h) : Rn X nc ns pc lv (.int (nI k) :: .ref (r a) :: st) (LY r) h :=
  G_aaldA C a d (LY_at hs) (by have := LY_lenR hs; simpa using this) (by rw [List.getElem?_map, hk]; rfl) hn K
theorem M_alen (C : Ok X cc own nL fr mc ms) {a len : Nat} (d : decode cc pc = .ok (.arraylength, 1)) (hs : LYS[a]? = some (.inr (.inl (0, len)))) (hn : pc + 1 = n) (K : Rn X nc ns n lv (.int (nI len) :: st) (LY r) h) : Rn X nc ns pc lv (.ref (r a) :: st) (LY r) h :=
  G_alen C a d (LY_at hs) hn K
theorem M_copy (C : Ok X cc own nL fr mc ms) {idx a0 a1 n0 n1 sp dp m : Nat} (cl : cpL idx own) (d : decode cc pc = .ok (.invokestatic idx, 3)) (h0 : LYS[a0]? = some (.inr (.inl (0, n0)))) (h1 : LYS[a1]? = some (.inr (.inl (0, n1)))) (hb0 : sp + m ≤ n0) (hb1 : dp + m ≤ n1) (hst : (st.map fun v => v.category).sum ≤ 8) (hfr : 1 ≤ fr) (hn : pc + 3 = n) (K : Rn X nc ns n lv st (LY r) (va_up h a1 (va_cpy (h a0) (h a1) sp dp m))) : Rn X nc ns pc lv (.int (nI m) :: .int (nI dp) :: .ref (r a1) :: .int (nI sp) :: .ref (r a0) :: st) (LY r) h :=
  G_copy C a0 a1 cl d (LY_at h0) (LY_at h1) hb0 hb1 (LY_len h0) (LY_len h1) hst hfr hn K
theorem M_callV (C : Ok X cc own nL fr mc ms) {y : MethodName} {b : ByteArray} {mL np idx fr1 a ci : Nat} {ret : Option FieldType} {As st0 rest : List Value} {fs : List FdT} {post : Option Value → Ly → Hp → Prop} (hM : Cn (xl X) (xD X) (xA X) y b mL ret fr1 0 0 (.ref (r a) :: As) (LY r) h post) (mw : MW y b mL ret np) (lk : Cond.methodLink own idx y ∈ lwG) (vi : Cond.instanceMethod y ∈ lwG ∧ Cond.selects y.cls y y ∈ lwG) (d : decode cc pc = .ok (.invokevirtual idx, 3))
    (hs : LYS[a]? = some (.inl (ci, fs))) (hc : (vwCl[ci]?).map (fun z => z.1) = some y.cls) (hAs : As.length = np) (hst : st0 = As.reverse ++ .ref (r a) :: rest) (hw8 : (rest.map fun v => v.category).sum ≤ 8) (hroom : fr1 + 1 ≤ fr ∧ mL + 19 ≤ 64) (hcell : nc ≤ mc ∧ ns ≤ ms) (hn : pc + 3 = n)
    (K : ∀ (v : Option Value) (L' : Ly) (h' : Hp), post v L' h' → Rn X nc ns n lv (v.toList ++ rest) L' h') : Rn X nc ns pc lv st0 (LY r) h :=
  R_callV C a hM mw lk vi d (LY_at hs) hc hAs hst hw8 hroom hcell hn K
end Main9
theorem ci_m1 : Int32.ofInt (-1) = (-1) := by decide +kernel
theorem ci_0 : Int32.ofInt 0 = nI 0 := by decide +kernel
theorem ci_1 : Int32.ofInt 1 = nI 1 := by decide +kernel
theorem ci_2 : Int32.ofInt 2 = nI 2 := by decide +kernel
theorem ci_3 : Int32.ofInt 3 = nI 3 := by decide +kernel
theorem ci_4 : Int32.ofInt 4 = nI 4 := by decide +kernel
theorem ci_5 : Int32.ofInt 5 = nI 5 := by decide +kernel
theorem cb_m6 : (Int8.ofInt (-6)).toInt32 = (-6) := by decide +kernel
theorem cb_m5 : (Int8.ofInt (-5)).toInt32 = (-5) := by decide +kernel
theorem cb_m4 : (Int8.ofInt (-4)).toInt32 = (-4) := by decide +kernel
theorem cb_m3 : (Int8.ofInt (-3)).toInt32 = (-3) := by decide +kernel
theorem cb_m2 : (Int8.ofInt (-2)).toInt32 = (-2) := by decide +kernel
theorem cb_6 : (Int8.ofInt 6).toInt32 = nI 6 := by decide +kernel
theorem cb_7 : (Int8.ofInt 7).toInt32 = nI 7 := by decide +kernel
theorem cb_8 : (Int8.ofInt 8).toInt32 = nI 8 := by decide +kernel
theorem cb_9 : (Int8.ofInt 9).toInt32 = nI 9 := by decide +kernel
theorem cb_10 : (Int8.ofInt 10).toInt32 = nI 10 := by decide +kernel
theorem cb_15 : (Int8.ofInt 15).toInt32 = nI 15 := by decide +kernel
theorem cb_16 : (Int8.ofInt 16).toInt32 = nI 16 := by decide +kernel
theorem cb_24 : (Int8.ofInt 24).toInt32 = nI 24 := by decide +kernel
theorem cb_25 : (Int8.ofInt 25).toInt32 = nI 25 := by decide +kernel
theorem cb_30 : (Int8.ofInt 30).toInt32 = nI 30 := by decide +kernel
theorem cb_32 : (Int8.ofInt 32).toInt32 = nI 32 := by decide +kernel
theorem cb_33 : (Int8.ofInt 33).toInt32 = nI 33 := by decide +kernel
theorem cb_42 : (Int8.ofInt 42).toInt32 = nI 42 := by decide +kernel
theorem cb_46 : (Int8.ofInt 46).toInt32 = nI 46 := by decide +kernel
theorem cb_48 : (Int8.ofInt 48).toInt32 = nI 48 := by decide +kernel
theorem cb_51 : (Int8.ofInt 51).toInt32 = nI 51 := by decide +kernel
theorem cb_57 : (Int8.ofInt 57).toInt32 = nI 57 := by decide +kernel
theorem cb_60 : (Int8.ofInt 60).toInt32 = nI 60 := by decide +kernel
theorem cb_63 : (Int8.ofInt 63).toInt32 = nI 63 := by decide +kernel
theorem cb_64 : (Int8.ofInt 64).toInt32 = nI 64 := by decide +kernel
theorem cb_74 : (Int8.ofInt 74).toInt32 = nI 74 := by decide +kernel
theorem cb_75 : (Int8.ofInt 75).toInt32 = nI 75 := by decide +kernel
theorem cb_96 : (Int8.ofInt 96).toInt32 = nI 96 := by decide +kernel
theorem cb_97 : (Int8.ofInt 97).toInt32 = nI 97 := by decide +kernel
theorem cb_99 : (Int8.ofInt 99).toInt32 = nI 99 := by decide +kernel
theorem cb_100 : (Int8.ofInt 100).toInt32 = nI 100 := by decide +kernel
theorem cb_101 : (Int8.ofInt 101).toInt32 = nI 101 := by decide +kernel
theorem cb_102 : (Int8.ofInt 102).toInt32 = nI 102 := by decide +kernel
theorem cb_110 : (Int8.ofInt 110).toInt32 = nI 110 := by decide +kernel
theorem cb_115 : (Int8.ofInt 115).toInt32 = nI 115 := by decide +kernel
theorem cb_119 : (Int8.ofInt 119).toInt32 = nI 119 := by decide +kernel
theorem cb_126 : (Int8.ofInt 126).toInt32 = nI 126 := by decide +kernel
theorem cs_200 : (Int16.ofInt 200).toInt32 = nI 200 := by decide +kernel
theorem cs_256 : (Int16.ofInt 256).toInt32 = nI 256 := by decide +kernel
theorem cs_384 : (Int16.ofInt 384).toInt32 = nI 384 := by decide +kernel
theorem cs_1023 : (Int16.ofInt 1023).toInt32 = nI 1023 := by decide +kernel
theorem cs_1024 : (Int16.ofInt 1024).toInt32 = nI 1024 := by decide +kernel
theorem cs_9999 : (Int16.ofInt 9999).toInt32 = nI 9999 := by decide +kernel
theorem cs_15360 : (Int16.ofInt 15360).toInt32 = nI 15360 := by decide +kernel
