theorem cel_app {cA : Nat → ClassId} {L B : Ly} {h : Hp} : cel cA (L ++ B) h = cel cA L h ++ B.mapIdx (fun i x => (x.1, shE cA x.2 (h (L.length + i)))) := by
  unfold cel
  rw [List.mapIdx_append]
  congr 1
  refine congrArg (fun f => List.mapIdx f B) ?_
  funext i x
  rw [Nat.add_comm]
theorem vaD_fresh {A : Nat → Prop} {ws rows : va_W} {N : Nat} (hD : va_D A ws) (hlt : ∀ (k : Nat) (x : Nat × va_E), ws[k]? = some x → x.1 < N) (hr : ∀ (k : Nat) (x : Nat × va_E), rows[k]? = some x → x.1 = N + k) (hA : ∀ q, N ≤ q → A q) : va_D A (ws ++ rows) := by
  refine ⟨fun i j x y hi hj hxy => ?_, fun k x hx => ?_⟩
  · by_cases h1 : i < ws.length <;> by_cases h2 : j < ws.length
    · rw [List.getElem?_append_left h1] at hi
      rw [List.getElem?_append_left h2] at hj
      exact hD.1 i j x y hi hj hxy
    · rw [List.getElem?_append_left h1] at hi
      rw [List.getElem?_append_right (by omega)] at hj
      have e1 := hlt _ _ hi
      have e2 := hr _ _ hj
      omega
    · rw [List.getElem?_append_right (by omega)] at hi
      rw [List.getElem?_append_left h2] at hj
      have e1 := hlt _ _ hj
      have e2 := hr _ _ hi
      omega
    · rw [List.getElem?_append_right (by omega)] at hi hj
      have e1 := hr _ _ hi
      have e2 := hr _ _ hj
      omega
  · by_cases h1 : k < ws.length
    · rw [List.getElem?_append_left h1] at hx
      exact hD.2 k x hx
    · rw [List.getElem?_append_right (by omega)] at hx
      have e1 := hr _ _ hx
      exact hA _ (by omega)
theorem out6 (c : ClassId) (h0 : Nat) : Jvm.Free.Multi.outerC c 6 h0 6 = arrV c 6 (fun j => va_rf (([some (h0 + 1 + 0), some (h0 + 1 + 1), some (h0 + 1 + 2), some (h0 + 1 + 3), some (h0 + 1 + 4), some (h0 + 1 + 5)] : List (Option Nat)).getD j none)) := by
  have g : ∀ i : Nat, Jvm.Free.Multi.outerC c 6 h0 i = arrV c 6 (fun j => va_rf (if j < i then some (h0 + 1 + j) else none)) := by
    intro i
    induction i with
    | zero =>
      show ({ cls := c, slots := Array.replicate 6 .null, vm := .none } : Cell) = _
      rw [arrV_new]
      refine congrArg (arrV c 6) (funext fun j => ?_)
      simp [va_rf]
    | succ i ih =>
      show (Jvm.Free.Multi.outerC c 6 h0 i).setSlot i (.ref (h0 + 1 + i)) = _
      rw [ih, arrV_store]
      refine congrArg (arrV c 6) (funext fun j => ?_)
      by_cases e : j = i
      · subst e
        simp [updV, va_rf]
      · by_cases h : j < i
        · simp [updV, e, h, Nat.lt_succ_of_lt h]
        · simp [updV, e, h, show ¬ j < i + 1 by omega]
  rw [g 6]
  refine congrArg (arrV c 6) (funext fun j => congrArg va_rf ?_)
  match j with
  | 0 => rfl
  | 1 => rfl
  | 2 => rfl
  | 3 => rfl
  | 4 => rfl
  | 5 => rfl
  | j + 6 =>
    rw [if_neg (by omega)]
    rfl
section Multi23
variable {X : RX} {cc : ByteArray} {own : String} {nL fr mc ms nc ns pc n : Nat} {lv : List (Option Value)} {st : List Value} {L : Ly} {h : Hp}
theorem N_mna (C : Ok X cc own nL fr mc ms) {idx : Nat} {M : Ly} {M' : Nat → (Nat → Nat) → Ly} (lk : Cond.classLink own idx "[[I" ∈ lwG) (hM : ∀ (q : Nat) (ρ : Nat → Nat), M ++ [(q, .inr (.inr (3, [some (ρ 0), some (ρ 1), some (ρ 2), some (ρ 3), some (ρ 4), some (ρ 5)]))), (ρ 0, .inr (.inl (0, 5))), (ρ 1, .inr (.inl (0, 5))), (ρ 2, .inr (.inl (0, 5))), (ρ 3, .inr (.inl (0, 5))), (ρ 4, .inr (.inl (0, 5))), (ρ 5, .inr (.inl (0, 5)))] = M' q ρ) {k : Nat} (hz : Zr h (L.length + k)) (hk : k ≤ M.length) (hc : nc + 7 ≤ mc) (hs : ns + 36 ≤ ms) (d : decode cc pc = .ok (.multianewarray idx 2, 4)) (hn : pc + 4 = n) (K : ∀ (q : Nat) (ρ : Nat → Nat), Rn X (nc + 7) (ns + 36) n lv (.ref q :: st) (L ++ M' q ρ) h) : Rn X nc ns pc lv (.int (nI 5) :: .int (nI 6) :: st) (L ++ M) h := by
  subst hn
  intro H locs ls hP hD hS hl T hT Xs
  have e6 : (nI 6).toNatClampNeg = 6 := nI_clamp (by omega)
  have e5 : (nI 5).toNatClampNeg = 5 := nI_clamp (by omega)
  have es : "[" ++ (FieldType.array FieldType.int).toString = "[[I" := by decide +kernel
  have ei : (FieldType.array FieldType.int).toString = "[" ++ FieldType.int.toString := by decide +kernel
  obtain ⟨vm₁, cB, comp, -, fA, fC, hO, -, X', step⟩ := Xs.multianewarray2F (ty := .int) C.1 C.2.2.2.1 (by rw [es]; exact C.2.2.2.2.1 _ lk) C.2.2.2.2.2.1.2.2.2 (C.2.2.2.2.1 _ ac_int) (g := F0 (xm X) pc ls (.int (nI 5) :: .int (nI 6) :: st)) rfl (by rw [C.2.1]; exact d) rfl (nI_pos (by omega)) (nI_pos (by omega)) (by rw [e6]; omega) (by rw [e5]; show 5 * 4 ≤ _; omega) (by rw [e5]; omega) rfl rfl (by rw [e6]; have := C.2.2.2.2.2.2.2.2.2.1; omega) (by rw [e6, e5]; have := C.2.2.2.2.2.2.2.2.2.2.1; omega)
  rw [e6, e5] at X' step
  have g1 : (xs X).vm.findClass ("[" ++ (FieldType.array FieldType.int).toString) = some (xA X 3) := (C.2.2.2.2.2.1.1.2 3 (xA X 3, .array .int) rfl).2
  have g2 : (xs X).vm.findClass ("[" ++ FieldType.int.toString) = some (xA X 0) := (C.2.2.2.2.2.1.1.2 0 (xA X 0, .int) rfl).2
  obtain rfl : cB = xA X 3 := Option.some.inj (fA.symm.trans g1)
  obtain rfl : comp = xA X 0 := Option.some.inj (fC.symm.trans (by rw [ei]; exact g2))
  generalize hF : Jvm.Free.Multi.fill (T.setVm vm₁) (xA X 3) (xA X 0) 6 5 (defaultValue .int) 6 = F at X' step
  have hTh : (T.setVm vm₁).heap = H := hT
  obtain ⟨f1, f2, -, -⟩ := Jvm.Free.Multi.fill_facts (T.setVm vm₁) (xA X 3) (xA X 0) 6 5 (defaultValue .int) 6
  rw [hF, hTh] at f1 f2
  rw [out6] at f2
  have hold : ∀ x : Nat, x < H.size → F.heap[x]? = H[x]? := fun x hx => by
    have := Jvm.Free.Multi.fill_old (T.setVm vm₁) (xA X 3) (xA X 0) 6 5 (defaultValue .int) (a := x) (by rw [hTh]; exact hx) 6
    rw [hF, hTh] at this
    exact this
  have hrow : ∀ j : Nat, j < 6 → F.heap[H.size + 1 + j]? = some (vp_cell (xA X 0) (5, .inl (fun _ => 0))) := fun j hj => by
    have := Jvm.Free.Multi.fill_inner (T.setVm vm₁) (xA X 3) (xA X 0) 6 5 (defaultValue .int) 6 j hj
    rw [hF, hTh] at this
    rw [this, vp_cell_i, ← arrV_new]
    rfl
  have ec : cel (xA X) (L ++ M' H.size (fun i => H.size + 1 + i)) h = cel (xA X) (L ++ M) h ++ [(H.size, .inl (xA X 3, 6, .inr (.inr (.inr (.inr (fun j => ([some (H.size + 1 + 0), some (H.size + 1 + 1), some (H.size + 1 + 2), some (H.size + 1 + 3), some (H.size + 1 + 4), some (H.size + 1 + 5)] : List (Option Nat)).getD j none)))))), (H.size + 1 + 0, .inl (xA X 0, 5, .inl (fun _ => 0))), (H.size + 1 + 1, .inl (xA X 0, 5, .inl (fun _ => 0))), (H.size + 1 + 2, .inl (xA X 0, 5, .inl (fun _ => 0))), (H.size + 1 + 3, .inl (xA X 0, 5, .inl (fun _ => 0))), (H.size + 1 + 4, .inl (xA X 0, 5, .inl (fun _ => 0))), (H.size + 1 + 5, .inl (xA X 0, 5, .inl (fun _ => 0)))] := by
    have hzz : ∀ i, h ((L ++ M).length + i) = fun _ => 0 := fun i => hz _ (by rw [List.length_append]; omega)
    rw [← hM, ← List.append_assoc, cel_app]
    simp only [List.mapIdx_cons, List.mapIdx_nil, hzz]
    rfl
  have hlt : ∀ (k : Nat) (x : Nat × va_E), (cel (xA X) (L ++ M) h)[k]? = some x → x.1 < H.size := fun k x hx => (hP k x hx).lt
  have hP1 : va_P (xD X) vwCl (cel (xA X) (L ++ M' H.size (fun i => H.size + 1 + i)) h) F.heap := by
    rw [ec]
    refine (hP.kept (fun k x hx => hold x.1 (hlt k x hx))).app (fun k x hx => ?_)
    match k, hx with
    | 0, hx => cases hx; exact f2
    | 1, hx => cases hx; exact hrow 0 (by omega)
    | 2, hx => cases hx; exact hrow 1 (by omega)
    | 3, hx => cases hx; exact hrow 2 (by omega)
    | 4, hx => cases hx; exact hrow 3 (by omega)
    | 5, hx => cases hx; exact hrow 4 (by omega)
    | 6, hx => cases hx; exact hrow 5 (by omega)
    | k + 7, hx => cases hx
  have hD1 : va_D (xF X) (cel (xA X) (L ++ M' H.size (fun i => H.size + 1 + i)) h) := by
    rw [ec]
    refine vaD_fresh hD hlt (fun k x hx => ?_) (fun q hq => C.2.2.2.2.2.2.1 q (Nat.le_trans hS.1 hq))
    match k, hx with
    | 0, hx => cases hx; rfl
    | 1, hx => cases hx; rfl
    | 2, hx => cases hx; rfl
    | 3, hx => cases hx; rfl
    | 4, hx => cases hx; rfl
    | 5, hx => cases hx; rfl
    | 6, hx => cases hx; rfl
    | k + 7, hx => cases hx
  have hS1 : va_S (xF X) (xs X).heap F.heap locs := ⟨Nat.le_trans hS.1 (by rw [f1]; omega), fun x h1 h2 => (hold x (Nat.lt_of_lt_of_le h1 hS.1)).trans (hS.2.1 x h1 h2), hS.2.2⟩
  rw [show nc + 1 + 6 = nc + 7 by omega, show ns + 6 + 6 * 5 = ns + 36 by omega] at X'
  obtain ⟨t, a1, b1⟩ := K H.size (fun i => H.size + 1 + i) F.heap locs ls hP1 hD1 hS1 hl F rfl X'
  refine ⟨t, step t ?_, b1⟩
  have e : T.heap.size = H.size := by rw [hT]
  rw [e]
  exact a1
end Multi23
