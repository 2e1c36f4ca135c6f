def tyXX (ci : Nat) : Nat → FieldType := match ci with
  | 0 => tyX0
  | 1 => tyX1
  | 2 => tyX2
  | 3 => tyX3
  | 4 => tyX4
  | 5 => tyX5
  | 6 => tyX6
  | 7 => tyX7
  | 8 => tyX8
  | 9 => tyX9
  | 10 => tyX10
  | _ => tyX11
def inTabs (q : vw_C) : Prop := ∀ w ∈ u_ws q.1 q.2.1 q.2.2, w ∈ lw_tbl ∧ goodWord w = true
theorem inT0 : inTabs (RX0, TX0, 2) := by unfold inTabs; decide +kernel
theorem inT1 : inTabs (RX1, TX1, 4) := by unfold inTabs; decide +kernel
theorem inT2 : inTabs (RX2, TX2, 7) := by unfold inTabs; decide +kernel
theorem inT3 : inTabs (RX3, TX3, 4) := by unfold inTabs; decide +kernel
theorem inT4 : inTabs (RX4, TX4, 2) := by unfold inTabs; decide +kernel
theorem inT5 : inTabs (RX5, TX5, 5) := by unfold inTabs; decide +kernel
theorem inT6 : inTabs (RX6, TX6, 5) := by unfold inTabs; decide +kernel
theorem inT7 : inTabs (RX7, TX7, 2) := by unfold inTabs; decide +kernel
theorem inT8 : inTabs (RX8, TX8, 3) := by unfold inTabs; decide +kernel
theorem inT9 : inTabs (RX9, TX9, 12) := by unfold inTabs; decide +kernel
theorem inT10 : inTabs (RX10, TX10, 11) := by unfold inTabs; decide +kernel
theorem inT11 : inTabs (RX11, TX11, 41) := by unfold inTabs; decide +kernel
def ClOk (ci : Nat) (q : vw_C) : Prop := inTabs q ∧ (∀ k, k < q.2.2 → parseFieldDescriptor (q.2.1 k).2.2.1 = some (tyXX ci k)) ∧ (∀ a, a < q.2.2 → ∀ b, b < q.2.2 → a ≠ b → (q.2.1 a).2.1 ≠ (q.2.1 b).2.1)
theorem clOk : ∀ (ci : Nat) (q : vw_C), vwCl[ci]? = some q → ClOk ci q
  | 0, q, hq => by cases hq; exact ⟨inT0, tyX0_ok, nmX0⟩
  | 1, q, hq => by cases hq; exact ⟨inT1, tyX1_ok, nmX1⟩
  | 2, q, hq => by cases hq; exact ⟨inT2, tyX2_ok, nmX2⟩
  | 3, q, hq => by cases hq; exact ⟨inT3, tyX3_ok, nmX3⟩
  | 4, q, hq => by cases hq; exact ⟨inT4, tyX4_ok, nmX4⟩
  | 5, q, hq => by cases hq; exact ⟨inT5, tyX5_ok, nmX5⟩
  | 6, q, hq => by cases hq; exact ⟨inT6, tyX6_ok, nmX6⟩
  | 7, q, hq => by cases hq; exact ⟨inT7, tyX7_ok, nmX7⟩
  | 8, q, hq => by cases hq; exact ⟨inT8, tyX8_ok, nmX8⟩
  | 9, q, hq => by cases hq; exact ⟨inT9, tyX9_ok, nmX9⟩
  | 10, q, hq => by cases hq; exact ⟨inT10, tyX10_ok, nmX10⟩
  | 11, q, hq => by cases hq; exact ⟨inT11, tyX11_ok, nmX11⟩
  | n + 12, q, hq => by simp [vwCl] at hq
theorem ClOk.words {ci : Nat} {q : vw_C} (h : ClOk ci q) : ∀ w ∈ u_ws q.1 q.2.1 q.2.2, w ∈ lwG := fun w hw => List.mem_filter.mpr (h.1 w hw)
def FL (own : String) (idx ci k : Nat) : Prop := ∃ q : vw_C, vwCl[ci]? = some q ∧ k < q.2.2 ∧ Cond.fieldLink own idx (q.2.1 k).1 (q.2.1 k).2.1 (q.2.1 k).2.2.1 ∈ lwG
theorem FL.mk {own : String} {idx ci k : Nat} {q : vw_C} (i : Nat) (hq : vwCl[ci]? = some q) (hk : k < q.2.2) (h : lw_tbl[i]? = some (Cond.fieldLink own idx (q.2.1 k).1 (q.2.1 k).2.1 (q.2.1 k).2.2.1)) : FL own idx ci k := ⟨q, hq, hk, mG i h rfl⟩
def isFin (ci k : Nat) : Bool := match vwCl[ci]? with
  | some q => (q.2.1 k).2.2.2
  | none => false
section Heap5
variable {X : RX} {cc : ByteArray} {own : String} {nL fr mc ms nc ns pc n : Nat} {lv : List (Option Value)} {st : List Value} {L : Ly} {h : Hp}
theorem G_getI (C : Ok X cc own nL fr mc ms) {q idx ci k : Nat} {fs : List FdT} {v : Int32} (a : Nat) (fl : FL own idx ci k) (d : decode cc pc = .ok (.getfield idx, 3)) (hL : L[a]? = some (q, .inl (ci, fs))) (hf : fs[k]? = some none) (hv : h a k = v) (hn : pc + 3 = n) (K : Rn X nc ns n lv (.int v :: st) L h) : Rn X nc ns pc lv (.ref q :: st) L h := by
  subst hn
  subst hv
  intro H locs ls hP hD hS hl
  obtain ⟨r, hr, hk, hlk⟩ := fl
  have hc := clOk ci r hr
  exact va_get (D := xD X) (C := r.1) (T := r.2.1) (N := r.2.2) C.1 C.2.1 C.2.2.2.2.1 hc.words C.2.2.2.1 C.2.2.2.2.2.1.1 hP a (cel_at hL) hr k hk (C.2.2.2.2.1 _ hlk) (fun _ h9 => h9) (by rw [List.getElem?_mapIdx, hf]; rfl) d (K H locs ls hP hD hS hl)
theorem G_getR (C : Ok X cc own nL fr mc ms) {q idx ci k r0 : Nat} {fs : List FdT} (a : Nat) (fl : FL own idx ci k) (d : decode cc pc = .ok (.getfield idx, 3)) (hL : L[a]? = some (q, .inl (ci, fs))) (hf : fs[k]? = some (some (some r0))) (hn : pc + 3 = n) (K : Rn X nc ns n lv (.ref r0 :: st) L h) : Rn X nc ns pc lv (.ref q :: st) L h := by
  subst hn
  intro H locs ls hP hD hS hl
  obtain ⟨r, hr, hk, hlk⟩ := fl
  have hc := clOk ci r hr
  exact va_get (D := xD X) (v := .ref r0) (C := r.1) (T := r.2.1) (N := r.2.2) C.1 C.2.1 C.2.2.2.2.1 hc.words C.2.2.2.1 C.2.2.2.2.2.1.1 hP a (cel_at hL) hr k hk (C.2.2.2.2.1 _ hlk) (fun _ h9 => h9) (by rw [List.getElem?_mapIdx, hf]; rfl) d (K H locs ls hP hD hS hl)
theorem G_putW (C : Ok X cc own nL fr mc ms) {q idx ci k : Nat} {fs : List FdT} {v : Int32} (a : Nat) (fl : FL own idx ci k) (hfin : isFin ci k = false) {ty : FieldType} (hty : tyXX ci k = ty) (hnr : narrow ty (.int v) = .int v) (hfit : fits ty (.int v) = true) (d : decode cc pc = .ok (.putfield idx, 3)) (hL : L[a]? = some (q, .inl (ci, fs))) (hf : fs[k]? = some none) (hn : pc + 3 = n) (K : Rn X nc ns n lv st L (up2 h a k v)) : Rn X nc ns pc lv (.int v :: .ref q :: st) L h := by
  subst hn
  intro H locs ls hP hD hS hl
  obtain ⟨r, hr, hk, hlk⟩ := fl
  have hc := clOk ci r hr
  have hfin' : (r.2.1 k).2.2.2 = false := by unfold isFin at hfin; rw [hr] at hfin; exact hfin
  have hlen : k < (fs.mapIdx (fdV (h a))).length := by rw [List.length_mapIdx]; exact (List.getElem?_eq_some_iff.mp hf).1
  refine va_put (D := xD X) (C := r.1) (T := r.2.1) (N := r.2.2) (ty := ty) C.1 C.2.1 C.2.2.2.2.1 hc.words (tyXX ci) hc.2.1 hc.2.2 C.2.2.2.1 C.2.2.2.2.2.1.1 hP hD hS a (cel_at hL) hr k hk (C.2.2.2.2.1 _ hlk) (fun _ h9 => h9) hfin' (by rw [← hty]; exact hc.2.1 k hk) hnr hfit hlen d (fun H1 locs1 hP1 hD1 hS1 => ?_)
  have e : (cel (xA X) L h).set a (q, .inr (ci, (fs.mapIdx (fdV (h a))).set k (.int v))) = cel (xA X) L (up2 h a k v) := cel_set hL (by rw [fd_set hf]; rfl)
  rw [e] at hP1 hD1
  exact K H1 locs1 ls hP1 hD1 hS1 hl
theorem G_putI (C : Ok X cc own nL fr mc ms) {q idx ci k : Nat} {fs : List FdT} {v : Int32} (a : Nat) (fl : FL own idx ci k) (hfin : isFin ci k = false) (hty : tyXX ci k = .int) (d : decode cc pc = .ok (.putfield idx, 3)) (hL : L[a]? = some (q, .inl (ci, fs))) (hf : fs[k]? = some none) (hn : pc + 3 = n) (K : Rn X nc ns n lv st L (up2 h a k v)) : Rn X nc ns pc lv (.int v :: .ref q :: st) L h :=
  G_putW C a fl hfin hty rfl rfl d hL hf hn K
theorem G_putZ (C : Ok X cc own nL fr mc ms) {q idx ci k : Nat} {fs : List FdT} {v : Int32} (a : Nat) (fl : FL own idx ci k) (hfin : isFin ci k = false) (hty : tyXX ci k = .boolean) (hv : v = 0 ∨ v = 1) (d : decode cc pc = .ok (.putfield idx, 3)) (hL : L[a]? = some (q, .inl (ci, fs))) (hf : fs[k]? = some none) (hn : pc + 3 = n) (K : Rn X nc ns n lv st L (up2 h a k v)) : Rn X nc ns pc lv (.int v :: .ref q :: st) L h :=
  G_putW C a fl hfin hty (by rcases hv with rfl | rfl <;> rfl) (by rcases hv with rfl | rfl <;> rfl) d hL hf hn K
theorem G_putF (C : Ok X cc own nL fr mc ms) (hin : (xM X).name = "<init>") {q idx ci k r0 : Nat} {fs : List FdT} {r : vw_C} (a : Nat) (fl : FL own idx ci k) (hr : vwCl[ci]? = some r) (hfin : (r.2.1 k).2.2.2 = true) (hdecl : (r.2.1 k).1 = own) {ty : FieldType} (hty : tyXX ci k = ty) (hnr : narrow ty (.ref r0) = .ref r0) (hfit : fits ty (.ref r0) = true) (d : decode cc pc = .ok (.putfield idx, 3)) (hL : L[a]? = some (q, .inl (ci, fs))) (hf : k < fs.length) (hn : pc + 3 = n) {L' : Ly} (hL' : L.set a (q, .inl (ci, fs.set k (some (some r0)))) = L') (K : Rn X nc ns n lv st L' h) : Rn X nc ns pc lv (.ref r0 :: .ref q :: st) L h := by
  subst hn
  subst hL'
  intro H locs ls hP hD hS hl
  obtain ⟨r2, hr2, hk, hlk⟩ := fl
  obtain rfl : r2 = r := Option.some.inj (hr2.symm.trans hr)
  have hc := clOk ci r2 hr
  have hlen : k < (fs.mapIdx (fdV (h a))).length := by rw [List.length_mapIdx]; exact hf
  refine va_putF (D := xD X) (C := r2.1) (T := r2.2.1) (N := r2.2.2) (ty := ty) C.1 C.2.1 C.2.2.2.2.1 hc.words (tyXX ci) hc.2.1 hc.2.2 C.2.2.2.1 C.2.2.2.2.2.1.1 hP hD hS a (cel_at hL) hr k hk (C.2.2.2.2.1 _ hlk) (fun _ h9 => h9) hfin hin hdecl (by rw [← hty]; exact hc.2.1 k hk) hnr hfit hlen d (fun H1 locs1 hP1 hD1 hS1 => ?_)
  have e : (cel (xA X) L h).set a (q, .inr (ci, (fs.mapIdx (fdV (h a))).set k (.ref r0))) = cel (xA X) (L.set a (q, .inl (ci, fs.set k (some (some r0))))) h := cel_setL hL (by rw [show (Value.ref r0) = va_rf (some r0) from rfl, fd_setR hf]; rfl)
  rw [e] at hP1 hD1
  exact K H1 locs1 ls hP1 hD1 hS1 hl
theorem G_iald (C : Ok X cc own nL fr mc ms) {q k len : Nat} {v : Int32} (a : Nat) (d : decode cc pc = .ok (.iaload, 1)) (hL : L[a]? = some (q, .inr (.inl (0, len)))) (h31 : len < 2 ^ 31) (hk : k < len) (hv : h a k = v) (hn : pc + 1 = n) (K : Rn X nc ns n lv (.int v :: st) L h) : Rn X nc ns pc lv (.int (nI k) :: .ref q :: st) L h := by
  subst hn
  subst hv
  intro H locs ls hP hD hS hl
  refine va_iald C.1 C.2.1 C.2.2.2.2.2.1.1 hP a 0 (cel_at hL) rfl (vp_in_nI hk h31) d ?_
  rw [nI_clamp (by omega)]
  exact K H locs ls hP hD hS hl
theorem G_iast (C : Ok X cc own nL fr mc ms) {q k len : Nat} {v : Int32} (a : Nat) (d : decode cc pc = .ok (.iastore, 1)) (hL : L[a]? = some (q, .inr (.inl (0, len)))) (h31 : len < 2 ^ 31) (hk : k < len) (hn : pc + 1 = n) (K : Rn X nc ns n lv st L (up2 h a k v)) : Rn X nc ns pc lv (.int v :: .int (nI k) :: .ref q :: st) L h := by
  subst hn
  intro H locs ls hP hD hS hl
  refine va_iast C.1 C.2.1 C.2.2.2.2.2.1.1 hP hD hS a 0 (cel_at hL) rfl (vp_in_nI hk h31) d (fun H1 locs1 hP1 hD1 hS1 => ?_)
  rw [nI_clamp (by omega)] at hP1 hD1
  have e : (cel (xA X) L h).set a (q, .inl (xA X 0, len, .inl (upd (h a) k v))) = cel (xA X) L (up2 h a k v) := cel_set hL rfl
  rw [e] at hP1 hD1
  exact K H1 locs1 ls hP1 hD1 hS1 hl
theorem G_zald (C : Ok X cc own nL fr mc ms) {q k len : Nat} {v : Int32} (a : Nat) (d : decode cc pc = .ok (.baload, 1)) (hL : L[a]? = some (q, .inr (.inl (1, len)))) (h31 : len < 2 ^ 31) (hk : k < len) (hv : h a k = v) (hn : pc + 1 = n) (K : Rn X nc ns n lv (.int v :: st) L h) : Rn X nc ns pc lv (.int (nI k) :: .ref q :: st) L h := by
  subst hn
  subst hv
  intro H locs ls hP hD hS hl
  refine va_zald C.1 C.2.1 C.2.2.2.2.2.1.1 hP a 1 (cel_at hL) rfl (vp_in_nI hk h31) d ?_
  rw [nI_clamp (by omega)]
  exact K H locs ls hP hD hS hl
theorem G_zast (C : Ok X cc own nL fr mc ms) {q k len : Nat} {v : Int32} (a : Nat) (hv : v = 0 ∨ v = 1) (d : decode cc pc = .ok (.bastore, 1)) (hL : L[a]? = some (q, .inr (.inl (1, len)))) (h31 : len < 2 ^ 31) (hk : k < len) (hn : pc + 1 = n) (K : Rn X nc ns n lv st L (up2 h a k v)) : Rn X nc ns pc lv (.int v :: .int (nI k) :: .ref q :: st) L h := by
  subst hn
  intro H locs ls hP hD hS hl
  refine va_zast C.1 C.2.1 C.2.2.2.2.2.1.1 hP hD hS a 1 (cel_at hL) rfl (vp_in_nI hk h31) d (fun H1 locs1 hP1 hD1 hS1 => ?_)
  rw [nI_clamp (by omega), show vp_nar .boolean v = v from by rcases hv with rfl | rfl <;> rfl] at hP1 hD1
  have e : (cel (xA X) L h).set a (q, .inl (xA X 1, len, .inl (upd (h a) k v))) = cel (xA X) L (up2 h a k v) := cel_set hL rfl
  rw [e] at hP1 hD1
  exact K H1 locs1 ls hP1 hD1 hS1 hl
theorem G_aald (C : Ok X cc own nL fr mc ms) {q k r0 : Nat} {rs : List (Option Nat)} (a : Nat) (d : decode cc pc = .ok (.aaload, 1)) (hL : L[a]? = some (q, .inr (.inr (2, rs)))) (h31 : rs.length < 2 ^ 31) (hk : rs[k]? = some (some r0)) (hn : pc + 1 = n) (K : Rn X nc ns n lv (.ref r0 :: st) L h) : Rn X nc ns pc lv (.int (nI k) :: .ref q :: st) L h := by
  subst hn
  intro H locs ls hP hD hS hl
  have hk' := (List.getElem?_eq_some_iff.mp hk).1
  refine va_aldq C.1 C.2.1 C.2.2.2.2.2.1.1 hP a 2 (cel_at hL) rfl (vp_in_nI hk' h31) d ?_
  rw [nI_clamp (by omega), List.getD_eq_getElem?_getD, hk]
  exact K H locs ls hP hD hS hl
theorem G_aaldA (C : Ok X cc own nL fr mc ms) {q k r0 : Nat} {rs : List (Option Nat)} (a : Nat) (d : decode cc pc = .ok (.aaload, 1)) (hL : L[a]? = some (q, .inr (.inr (3, rs)))) (h31 : rs.length < 2 ^ 31) (hk : rs[k]? = some (some r0)) (hn : pc + 1 = n) (K : Rn X nc ns n lv (.ref r0 :: st) L h) : Rn X nc ns pc lv (.int (nI k) :: .ref q :: st) L h := by
  subst hn
  intro H locs ls hP hD hS hl
  have hk' := (List.getElem?_eq_some_iff.mp hk).1
  have hlt : (nI k).toNatClampNeg < rs.length := by rw [nI_clamp (by omega)]; exact hk'
  have hin := vp_in_nI hk' h31
  refine W.aald (v := va_rf (rs.getD (nI k).toNatClampNeg none)) (ty := .array .int) C.1 C.2.1 (hP a _ (cel_at hL)) ((C.2.2.2.2.2.1.1.2 3 _ rfl).1 rs.length (fun j => va_rf (rs.getD j none))) rfl (fun q => by cases q) (by show ¬ (nI k < 0 ∨ (arrV _ _ _).slots.size ≤ _); rw [arrV_size]; exact hin) (by show (arrV _ _ _).slots[_]? = _; rw [arrV_read _ _ hlt]) rfl rfl d ?_
  rw [nI_clamp (by omega), List.getD_eq_getElem?_getD, hk]
  exact K H locs ls hP hD hS hl
theorem G_aast (C : Ok X cc own nL fr mc ms) {q k r0 : Nat} {rs : List (Option Nat)} {fs : List FdT} (a b : Nat) (d : decode cc pc = .ok (.aastore, 1)) (hL : L[a]? = some (q, .inr (.inr (2, rs)))) (hV : L[b]? = some (r0, .inl (9, fs))) (h31 : rs.length < 2 ^ 31) (hk : k < rs.length) (hn : pc + 1 = n) {L' : Ly} (hL' : L.set a (q, .inr (.inr (2, rs.set k (some r0)))) = L') (K : Rn X nc ns n lv st L' h) : Rn X nc ns pc lv (.ref r0 :: .int (nI k) :: .ref q :: st) L h := by
  subst hn
  subst hL'
  intro H locs ls hP hD hS hl
  refine va_astq C.1 C.2.1 C.2.2.2.2.2.1.1 hP hD hS a 2 b 9 (cel_at hL) (r := (RX9, TX9, 12)) rfl (cel_at hV) rfl (vp_in_nI hk h31) d (fun H1 locs1 hP1 hD1 hS1 => ?_)
  rw [nI_clamp (by omega)] at hP1 hD1
  have e : (cel (xA X) L h).set a (q, .inl (xA X 2, rs.length, .inr (.inr (.inr (.inr (va_up (fun j => rs.getD j none) k (some r0))))))) = cel (xA X) (L.set a (q, .inr (.inr (2, rs.set k (some r0))))) h := by
    refine cel_setL hL ?_
    unfold shE
    simp only [List.length_set]
    congr 7
    funext j
    by_cases hj : j = k
    · subst hj
      simp [va_up, List.getD_eq_getElem?_getD, List.getElem?_set_self hk]
    · simp [va_up, hj, List.getD_eq_getElem?_getD, List.getElem?_set_ne (Ne.symm hj)]
  rw [e] at hP1 hD1
  exact K H1 locs1 ls hP1 hD1 hS1 hl
theorem G_alen (C : Ok X cc own nL fr mc ms) {q len : Nat} (a : Nat) (d : decode cc pc = .ok (.arraylength, 1)) (hL : L[a]? = some (q, .inr (.inl (0, len)))) (hn : pc + 1 = n) (K : Rn X nc ns n lv (.int (nI len) :: st) L h) : Rn X nc ns pc lv (.ref q :: st) L h := by
  subst hn
  intro H locs ls hP hD hS hl
  exact va_alen C.1 C.2.1 C.2.2.2.2.2.1.1 hP a 0 (cel_at hL) (ty := .int) rfl rfl d (K H locs ls hP hD hS hl)
def cpL (idx : Nat) (own : String) : Prop := Cond.methodLink own idx arraycopyName ∈ lwG ∧ Cond.native arraycopyName ∈ lwG ∧ Cond.static arraycopyName ∈ lwG ∧ Cond.initialized "java/lang/System" ∈ lwG
theorem G_copy (C : Ok X cc own nL fr mc ms) {idx q0 q1 n0 n1 sp dp m : Nat} (a0 a1 : Nat) (cl : cpL idx own) (d : decode cc pc = .ok (.invokestatic idx, 3)) (h0 : L[a0]? = some (q0, .inr (.inl (0, n0)))) (h1 : L[a1]? = some (q1, .inr (.inl (0, n1)))) (hb0 : sp + m ≤ n0) (hb1 : dp + m ≤ n1) (h31 : n0 < 2 ^ 31) (h32 : n1 < 2 ^ 31) (hst : (st.map fun v => v.category).sum ≤ 8) (hfr : 1 ≤ fr) (hn : pc + 3 = n) (K : Rn X nc ns n lv st L (va_up h a1 (va_cpy (h a0) (h a1) sp dp m))) : Rn X nc ns pc lv (.int (nI m) :: .int (nI dp) :: .ref q1 :: .int (nI sp) :: .ref q0 :: st) L h := by
  subst hn
  intro H locs ls hP hD hS hl
  obtain ⟨c1, c2, c3, c4⟩ := cl
  have hw : nativeFrameWords "java/lang/System" "arraycopy" 5 + 11 ≤ 56 := by decide +kernel
  refine va_copyi C.1 C.2.1 hl.1.symm C.2.2.2.1 (C.2.2.2.2.1 _ c1) (C.2.2.2.2.1 _ c2) (C.2.2.2.2.1 _ c3) (C.2.2.2.2.1 _ c4) C.2.2.2.2.2.1.1 hP hD hS a0 a1 0 0 (cel_at h0) (cel_at h1) rfl rfl rfl (nI_pos (by omega)) (nI_pos (by omega)) (nI_pos (by omega)) (by rw [nI_clamp (by omega), nI_clamp (by omega)]; exact hb0) (by rw [nI_clamp (by omega), nI_clamp (by omega)]; exact hb1) (fun _ _ => rfl) (Nat.le_trans hfr C.2.2.2.2.2.2.2.2.1) (by have := C.2.2.2.2.2.2.2.2.2.2.2; omega) d (fun H1 locs1 hP1 hD1 hS1 => ?_)
  rw [nI_clamp (by omega), nI_clamp (by omega), nI_clamp (by omega)] at hP1 hD1
  have e : (cel (xA X) L h).set a1 (q1, .inl (xA X 0, n1, .inl (va_cpy (h a0) (h a1) sp dp m))) = cel (xA X) L (va_up h a1 (va_cpy (h a0) (h a1) sp dp m)) := cel_set h1 rfl
  rw [e] at hP1 hD1
  exact K H1 locs1 ls hP1 hD1 hS1 hl
end Heap5
