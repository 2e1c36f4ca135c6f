abbrev BS : Type := List Nat × (Nat → Nat) × (Nat → Nat)
def bre (σ : WS) (x w : Nat) (B : BS) : BS := if B.2.1 (trz σ w x) = 0 then (B.1 ++ [trz σ w x], updN B.2.1 (trz σ w x) (B.2.1 x + 1), updN B.2.2 (trz σ w x) (8 * x + w)) else B
def bwd (σ : WS) (W x : Nat) : Nat → BS → BS
  | 0, B => B
  | k + 1, B => if W.testBit k = true then bre σ x k (bwd σ W x k B) else bwd σ W x k B
def brn (σ : WS) (W : Nat) : Nat → Nat → BS → BS
  | 0, _, B => B
  | m + 1, i, B => match B.1[i]? with
    | none => B
    | some x => brn σ W m (i + 1) (bwd σ W x 6 B)
def bf0 (σ : WS) : BS := ([nuz σ], fun x => if x = nuz σ then 1 else 0, fun _ => 0)
def bfz (σ : WS) (W : Nat) : BS := brn σ W 1024 0 (bf0 σ)
theorem cnz_lt {p : Nat → Bool} {k : Nat} (hp : p k = false) : ∀ {n : Nat}, k < n → cnz p n < n
  | 0, h => absurd h (Nat.not_lt_zero _)
  | n + 1, h => by
    have h0 := cnz_le (p := p) (n := n)
    rw [cnz]
    by_cases e : k = n
    · subst e
      rw [hp, if_neg (by decide)]
      omega
    · have := cnz_lt hp (n := n) (by omega)
      split <;> omega
theorem cnz_cong {p q : Nat → Bool} : ∀ {n : Nat}, (∀ k, k < n → p k = q k) → cnz p n = cnz q n
  | 0, _ => rfl
  | n + 1, h => by rw [cnz, cnz, cnz_cong (fun k hk => h k (by omega)), h n (by omega)]
theorem cnz_up {p q : Nat → Bool} {k : Nat} (hp : p k = false) (hq : q k = true) (ho : ∀ j, j ≠ k → q j = p j) : ∀ {n : Nat}, k < n → cnz q n = cnz p n + 1
  | 0, h => absurd h (Nat.not_lt_zero _)
  | n + 1, h => by
    rw [cnz, cnz]
    by_cases e : k = n
    · subst e
      rw [hp, hq, cnz_cong (fun j hj => ho j (by omega))]
      rfl
    · rw [cnz_up hp hq ho (n := n) (by omega), ho n (by omega)]
      omega
theorem cnz_0 {p : Nat → Bool} : ∀ {n : Nat}, (∀ k, k < n → p k = false) → cnz p n = 0
  | 0, _ => rfl
  | n + 1, h => by rw [cnz, cnz_0 (fun k hk => h k (by omega)), h n (by omega)]; rfl
def BI (σ : WS) (B : BS) : Prop := (∀ (i x : Nat), B.1[i]? = some x → x < 2 ^ (2 * sN σ) ∧ 0 < B.2.1 x) ∧ B.1.length = cnz (fun x => decide (0 < B.2.1 x)) 1024 ∧ (∀ x, 0 < B.2.1 x → x < 2 ^ (2 * sN σ) ∧ ∃ i : Nat, B.1[i]? = some x) ∧ (∀ x, B.2.1 x ≤ B.1.length) ∧ ∀ x, 2 ≤ B.2.1 x → ∃ y w, w < 6 ∧ y < 2 ^ (2 * sN σ) ∧ B.2.2 x = 8 * y + w ∧ B.2.1 y + 1 = B.2.1 x ∧ 0 < B.2.1 y
theorem BI.len {σ : WS} {B : BS} (I : BI σ B) : B.1.length ≤ 1024 := by rw [I.2.1]; exact cnz_le
theorem BI.room {σ : WS} {B : BS} (I : BI σ B) {x : Nat} (hx : x < 1024) (h : B.2.1 x = 0) : B.1.length < 1024 := by rw [I.2.1]; exact cnz_lt (by rw [h]; rfl) hx
theorem bre_ok {σ : WS} (J : Inv σ) {B : BS} (I : BI σ B) {x w : Nat} (hx : 0 < B.2.1 x) (hw : w < 6) : BI σ (bre σ x w B) := by
  unfold bre
  split
  · rename_i h0
    obtain ⟨t, ht⟩ : ∃ t, trz σ w x = t := ⟨_, rfl⟩
    have tl : t < 2 ^ (2 * sN σ) := by rw [← ht]; exact trz_lt
    have t10 : t < 1024 := by rw [← ht]; exact trz_1024 J
    rw [ht] at h0 ⊢
    obtain ⟨b1, b2, b3, b4, b5⟩ := I
    have nx : x ≠ t := fun e => by rw [e] at hx; omega
    refine ⟨fun i y hy => ?_, ?_, fun y hy => ?_, fun y => ?_, fun y hy => ?_⟩
    · show y < _ ∧ 0 < updN B.2.1 t (B.2.1 x + 1) y
      by_cases e : i < B.1.length
      · rw [List.getElem?_append_left e] at hy
        refine ⟨(b1 i y hy).1, ?_⟩
        unfold updN
        split
        · omega
        · exact (b1 i y hy).2
      · rw [List.getElem?_append_right (by omega)] at hy
        have := List.mem_of_getElem? hy
        rw [List.mem_singleton.mp this]
        refine ⟨tl, ?_⟩
        rw [updN, if_pos rfl]
        omega
    · rw [List.length_append, b2]
      refine (cnz_up (k := t) (by rw [h0]; rfl) ?_ (fun j hj => ?_) t10).symm
      · show decide (0 < updN B.2.1 t (B.2.1 x + 1) t) = true
        rw [updN, if_pos rfl]
        exact decide_eq_true (by omega)
      · show decide (0 < updN B.2.1 t (B.2.1 x + 1) j) = _
        rw [updN, if_neg hj]
    · by_cases e : y = t
      · rw [e]
        exact ⟨tl, B.1.length, by rw [List.getElem?_append_right (Nat.le_refl _), Nat.sub_self]; rfl⟩
      · have hy' : 0 < updN B.2.1 t (B.2.1 x + 1) y := hy
        rw [updN, if_neg e] at hy'
        obtain ⟨c1, i, c2⟩ := b3 y hy'
        refine ⟨c1, i, ?_⟩
        rw [List.getElem?_append_left (List.getElem?_eq_some_iff.mp c2).1]
        exact c2
    · show updN B.2.1 t (B.2.1 x + 1) y ≤ (B.1 ++ [t]).length
      have := b4 x
      have := b4 y
      rw [List.length_append, updN]
      show _ ≤ B.1.length + 1
      split <;> omega
    · have hy' : 2 ≤ updN B.2.1 t (B.2.1 x + 1) y := hy
      show ∃ z v, v < 6 ∧ z < _ ∧ updN B.2.2 t (8 * x + w) y = 8 * z + v ∧ updN B.2.1 t (B.2.1 x + 1) z + 1 = updN B.2.1 t (B.2.1 x + 1) y ∧ 0 < updN B.2.1 t (B.2.1 x + 1) z
      by_cases e : y = t
      · refine ⟨x, w, hw, (b3 x hx).1, ?_, ?_, ?_⟩
        · rw [updN, if_pos e]
        · rw [updN, if_neg nx, updN, if_pos e]
        · rw [updN, if_neg nx]; exact hx
      · rw [updN, if_neg e] at hy'
        obtain ⟨z, v, c1, c2, c3, c4, c5⟩ := b5 y hy'
        have nz : z ≠ t := fun e => by rw [e] at c5; omega
        refine ⟨z, v, c1, c2, ?_, ?_, ?_⟩
        · rw [updN, if_neg e]; exact c3
        · rw [updN, if_neg nz, updN, if_neg e]; exact c4
        · rw [updN, if_neg nz]; exact c5
  · exact I
theorem bre_mono {σ : WS} {B : BS} {x w y : Nat} (hy : 0 < B.2.1 y) : (bre σ x w B).2.1 y = B.2.1 y := by
  unfold bre
  split
  · rename_i h0
    show updN _ _ _ y = _
    rw [updN, if_neg (fun e => by rw [← e] at h0; omega)]
  · rfl
theorem bwd_mono {σ : WS} {B : BS} {W x y : Nat} (hy : 0 < B.2.1 y) : ∀ k, (bwd σ W x k B).2.1 y = B.2.1 y
  | 0 => rfl
  | k + 1 => by
    have ih := bwd_mono (σ := σ) (W := W) (x := x) hy k
    rw [bwd]
    split
    · rw [bre_mono (by rw [ih]; exact hy), ih]
    · exact ih
theorem bwd_ok {σ : WS} (J : Inv σ) {B : BS} (I : BI σ B) {W x : Nat} (hx : 0 < B.2.1 x) : ∀ {k : Nat}, k ≤ 6 → BI σ (bwd σ W x k B)
  | 0, _ => I
  | k + 1, hk => by
    have ih := bwd_ok J I (W := W) hx (k := k) (by omega)
    rw [bwd]
    split
    · exact bre_ok J ih (by rw [bwd_mono hx]; exact hx) (by omega)
    · exact ih
theorem bf0_ok {σ : WS} (J : Inv σ) : BI σ (bf0 σ) := by
  have n := nuz_lt J
  have n10 := nuz_1024 J
  refine ⟨fun i x hx => ?_, ?_, fun x hx => ?_, fun x => ?_, fun x hx => ?_⟩
  · have := List.mem_of_getElem? hx
    rw [List.mem_singleton.mp this]
    refine ⟨n, ?_⟩
    show 0 < (if nuz σ = nuz σ then 1 else 0)
    rw [if_pos rfl]
    exact Nat.one_pos
  · have e : cnz (fun _ => false) 1024 = 0 := cnz_0 (fun _ _ => rfl)
    rw [cnz_up (p := fun _ => false) (k := nuz σ) rfl ?_ (fun j hj => ?_) n10, e]
    · rfl
    · refine decide_eq_true ?_
      show 0 < if nuz σ = nuz σ then 1 else 0
      rw [if_pos rfl]
      exact Nat.one_pos
    · refine decide_eq_false ?_
      show ¬ 0 < if j = nuz σ then 1 else 0
      rw [if_neg hj]
      exact Nat.lt_irrefl 0
  · have hx' : 0 < (if x = nuz σ then 1 else 0) := hx
    by_cases e : x = nuz σ
    · rw [e]; exact ⟨n, 0, rfl⟩
    · rw [if_neg e] at hx'; omega
  · show (if x = nuz σ then 1 else 0) ≤ 1
    split <;> omega
  · have hx' : 2 ≤ (if x = nuz σ then 1 else 0) := hx
    split at hx' <;> omega
theorem brn_ok {σ : WS} (J : Inv σ) {W : Nat} : ∀ {m i : Nat} {B : BS}, BI σ B → BI σ (brn σ W m i B)
  | 0, _, _, I => I
  | m + 1, i, B, I => by
    rw [brn]
    split
    · exact I
    · rename_i x hx
      exact brn_ok J (bwd_ok J I (I.1 i x hx).2 (Nat.le_refl _))
theorem bfz_ok {σ : WS} (J : Inv σ) {W : Nat} : BI σ (bfz σ W) := brn_ok J (bf0_ok J)
def RB (B : BS) (h : Hp) : Prop := h 18 0 = nI B.1.length ∧ (∀ (i x : Nat), B.1[i]? = some x → h 22 i = nI x) ∧ (∀ x, x < 1024 → h 23 x = pvI (B.2.1 x)) ∧ ∀ x, 2 ≤ B.2.1 x → h 24 x = nI (B.2.2 x)
def FrB (h h' : Hp) : Prop := ∀ a, a ≠ 18 → a ≠ 22 → a ≠ 23 → a ≠ 24 → h' a = h a
theorem pvI_pos {j : Nat} (h : 0 < j) : pvI j = nI (j - 1) := if_neg (by omega)
set_option maxRecDepth 20000 in
set_option maxHeartbeats 4000000 in
theorem c_reach (l : Launch) (D : va_G) (cA : Nat → ClassId) (r : Nat → Nat) {h : Hp} {σ : WS} (J : Inv σ) {W : Nat} (S : RS σ W h) {B : BS} (I : BI σ B) (E : RB B h) {x w : Nat} (hx : 0 < B.2.1 x) (hw : w < 6) (hb : W.testBit w = true) : Cn l D cA yX5_reach cX5_reach 4 none 2 0 0 [.ref (r 18), .int (nI x), .int (nI w)] (LY r) h (pG none (LY r) (fun h' => RB (bre σ x w B) h' ∧ FrB h h')) := by
  refine Cn.of (lv := [some (.ref (r 18)), some (.int (nI x)), some (.int (nI w)), none]) (by decide +kernel) (Nat.le_of_ble_eq_true rfl) rfl (fun X hnm C CR => ?_)
  have xl := (I.2.2.1 x hx).1
  have x10 : x < 1024 := Nat.lt_of_lt_of_le xl (p2_10 J.n5)
  obtain ⟨t, ht⟩ : ∃ t, trz σ w x = t := ⟨_, rfl⟩
  have t10 : t < 1024 := by rw [← ht]; exact trz_1024 J
  have len := I.len
  refine R_al0 (n := 1) C dX5_reach_0 rfl ?_
  refine M_getR (n := 4) C fl_X5_12 dX5_reach_1 rfl rfl rfl ?_
  refine R_il2 (n := 5) C dX5_reach_4 rfl ?_
  refine R_il1 (n := 6) C dX5_reach_5 rfl ?_
  refine M_callV (n := 9) C (c_looksBehind _ _ _ r J S hw hb xl) mw_X7_looksBehind ml_X5_56 iv_X7_looksBehind dX5_reach_6 rfl rfl rfl rfl (Nat.le_of_ble_eq_true rfl) ⟨Nat.le_of_ble_eq_true rfl, Nat.le_of_ble_eq_true rfl⟩ ⟨Nat.le_refl _, Nat.le_refl _⟩ rfl (pEs ?_)
  rw [ht]
  unfold bre at CR
  rw [ht] at CR
  by_cases c0 : B.2.1 t = 0
  · have room := I.room t10 c0
    rw [if_pos c0] at CR
    have e23 : h 23 t = -1 := by rw [E.2.2.1 t t10, c0]; rfl
    refine R_is3 (n := 10) C dX5_reach_9 rfl (Nat.le_of_ble_eq_true rfl) rfl ?_
    refine R_al0 (n := 11) C dX5_reach_10 rfl ?_
    refine M_getR (n := 14) C fl_X5_22 dX5_reach_11 rfl rfl rfl ?_
    refine R_il3 (n := 15) C dX5_reach_14 rfl ?_
    refine M_iald (n := 16) C dX5_reach_15 rfl t10 e23 rfl ?_
    refine R_if_ge (tgt := 75) C dX5_reach_16 rfl rfl (fun c1 => ?_) (fun c1 => ?_)
    · exact absurd c1 (by decide)
    · refine R_al0 (n := 20) C dX5_reach_19 rfl ?_
      refine M_getI (n := 23) C fl_X5_44 dX5_reach_20 rfl rfl E.1 rfl ?_
      refine R_sp (n := 26) C dX5_reach_23 cs_1024 rfl ?_
      refine R_icmp_geN (tgt := 75) C dX5_reach_26 rfl rfl (by omega) (by omega) (fun c2 => ?_) (fun c2 => ?_)
      · omega
      · have nx : x ≠ t := fun e => by rw [e] at hx; omega
        have ex : h 23 x = nI (B.2.1 x - 1) := by rw [E.2.2.1 x x10, pvI_pos hx]
        refine R_al0 (n := 30) C dX5_reach_29 rfl ?_
        refine M_getR (n := 33) C fl_X5_22 dX5_reach_30 rfl rfl rfl ?_
        refine R_il3 (n := 34) C dX5_reach_33 rfl ?_
        refine R_al0 (n := 35) C dX5_reach_34 rfl ?_
        refine M_getR (n := 38) C fl_X5_22 dX5_reach_35 rfl rfl rfl ?_
        refine R_il1 (n := 39) C dX5_reach_38 rfl ?_
        refine M_iald (n := 40) C dX5_reach_39 rfl x10 ex rfl ?_
        refine R_ic (n := 41) C dX5_reach_40 ci_1 rfl ?_
        refine R_iaddN (n := 42) C dX5_reach_41 rfl ?_
        refine M_iast (n := 43) C dX5_reach_42 rfl t10 rfl ?_
        refine R_al0 (n := 44) C dX5_reach_43 rfl ?_
        refine M_getR (n := 47) C fl_X5_25 dX5_reach_44 rfl rfl rfl ?_
        refine R_il3 (n := 48) C dX5_reach_47 rfl ?_
        refine R_bp (n := 50) C dX5_reach_48 cb_8 rfl ?_
        refine R_il1 (n := 51) C dX5_reach_50 rfl ?_
        refine R_imulN (n := 52) C dX5_reach_51 rfl ?_
        refine R_il2 (n := 53) C dX5_reach_52 rfl ?_
        refine R_iaddN (n := 54) C dX5_reach_53 rfl ?_
        refine M_iast (n := 55) C dX5_reach_54 rfl t10 rfl ?_
        refine R_al0 (n := 56) C dX5_reach_55 rfl ?_
        refine M_getR (n := 59) C fl_X5_18 dX5_reach_56 rfl rfl rfl ?_
        refine R_al0 (n := 60) C dX5_reach_59 rfl ?_
        refine M_getI (n := 63) C fl_X5_44 dX5_reach_60 rfl rfl (up2_get (by decide) (up2_get (by decide) E.1)) rfl ?_
        refine R_il3 (n := 64) C dX5_reach_63 rfl ?_
        refine M_iast (n := 65) C dX5_reach_64 rfl room rfl ?_
        refine R_al0 (n := 66) C dX5_reach_65 rfl ?_
        refine R_dup (n := 67) C dX5_reach_66 rfl rfl ?_
        refine M_getI (n := 70) C fl_X5_44 dX5_reach_67 rfl rfl (up2_get (by decide) (up2_get (by decide) (up2_get (by decide) E.1))) rfl ?_
        refine R_ic (n := 71) C dX5_reach_70 ci_1 rfl ?_
        refine R_iaddN (n := 72) C dX5_reach_71 rfl ?_
        refine M_putI (n := 75) C fl_X5_44 dX5_reach_72 rfl rfl rfl rfl rfl ?_
        refine R_vret C CR (Nat.zero_le _) (Nat.zero_le _) dX5_reach_75 ?_
        refine ⟨rfl, rfl, ⟨?_, fun i y hy => ?_, fun y hy => ?_, fun y hy => ?_⟩, fun a a1 a2 a3 a4 => by rw [up2_row a1, up2_row a2, up2_row a4, up2_row a3]⟩
        · rw [up2_same, List.length_append]; rfl
        · rw [up2_row (by decide)]
          by_cases e : i < B.1.length
          · rw [List.getElem?_append_left e] at hy
            rw [up2_ne (by omega), up2_row (by decide), up2_row (by decide)]
            exact E.2.1 i y hy
          · rw [List.getElem?_append_right (by omega)] at hy
            have h0 : i - B.1.length < 1 := (List.getElem?_eq_some_iff.mp hy).1
            have h1 : i = B.1.length := by omega
            rw [List.mem_singleton.mp (List.mem_of_getElem? hy), h1, up2_same]
        · show _ = pvI (updN B.2.1 t (B.2.1 x + 1) y)
          rw [up2_row (by decide), up2_row (by decide), up2_row (by decide), up2_at, updN]
          by_cases e : y = t
          · rw [if_pos e, if_pos e, pvI_s, Nat.sub_add_cancel hx]
          · rw [if_neg e, if_neg e]
            exact E.2.2.1 y hy
        · have hy' : 2 ≤ updN B.2.1 t (B.2.1 x + 1) y := hy
          show _ = nI (updN B.2.2 t (8 * x + w) y)
          rw [up2_row (by decide), up2_row (by decide), up2_at, updN]
          by_cases e : y = t
          · rw [if_pos e, if_pos e]
          · rw [updN, if_neg e] at hy'
            rw [if_neg e, if_neg e, up2_row (by decide)]
            exact E.2.2.2 y hy'
  · rw [if_neg c0] at CR
    have e23 : h 23 t = nI (B.2.1 t - 1) := by rw [E.2.2.1 t t10, pvI_pos (by omega)]
    have b4 := I.2.2.2.1 t
    refine R_is3 (n := 10) C dX5_reach_9 rfl (Nat.le_of_ble_eq_true rfl) rfl ?_
    refine R_al0 (n := 11) C dX5_reach_10 rfl ?_
    refine M_getR (n := 14) C fl_X5_22 dX5_reach_11 rfl rfl rfl ?_
    refine R_il3 (n := 15) C dX5_reach_14 rfl ?_
    refine M_iald (n := 16) C dX5_reach_15 rfl t10 e23 rfl ?_
    refine R_if_geN (tgt := 75) C dX5_reach_16 rfl rfl (by omega) ?_
    refine R_vret C CR (Nat.zero_le _) (Nat.zero_le _) dX5_reach_75 ?_
    exact ⟨rfl, rfl, E, fun a _ _ _ _ => rfl⟩
