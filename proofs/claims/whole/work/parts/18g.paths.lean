theorem bwd_has {σ : WS} {W x : Nat} {B : BS} : ∀ {k w : Nat}, w < k → W.testBit w = true → 0 < (bwd σ W x k B).2.1 (trz σ w x)
  | 0, w, h, _ => absurd h (Nat.not_lt_zero _)
  | k + 1, w, h, hb => by
    rw [bwd_s]
    by_cases e : w = k
    · subst e
      rw [if_pos hb]
      unfold bre
      split
      · show 0 < updN _ _ _ _
        rw [updN, if_pos rfl]
        omega
      · omega
    · have ih := bwd_has (σ := σ) (x := x) (B := B) (k := k) (w := w) (by omega) hb
      split
      · rw [bre_mono ih]; exact ih
      · exact ih
def bcl (σ : WS) (W : Nat) (B : BS) (x : Nat) : Prop := ∀ w, w < 6 → W.testBit w = true → 0 < B.2.1 (trz σ w x)
theorem brn_cl {σ : WS} (J : Inv σ) {W : Nat} : ∀ {m i : Nat} {B : BS}, i + m = 1024 → BI σ B → (∀ (j x : Nat), j < i → B.1[j]? = some x → bcl σ W B x) → ∀ (j x : Nat), (brn σ W m i B).1[j]? = some x → bcl σ W (brn σ W m i B) x
  | 0, i, B, a1, I, P => fun j x hj => P j x (by
      have := I.len
      have := (List.getElem?_eq_some_iff.mp hj).1
      have e : (brn σ W 0 i B).1.length = B.1.length := rfl
      omega) hj
  | m + 1, i, B, a1, I, P => by
    rw [brn]
    cases e : B.1[i]? with
    | none =>
      intro j x hj
      have h1 : j < B.1.length := (List.getElem?_eq_some_iff.mp hj).1
      have h2 := List.getElem?_eq_none_iff.mp e
      exact P j x (by omega) hj
    | some y =>
      have y0 := (I.1 i y e).2
      refine brn_cl J (by omega) (bwd_ok J I y0 (Nat.le_refl _)) (fun j x hj hx w hw hb => ?_)
      have il : i < B.1.length := (List.getElem?_eq_some_iff.mp e).1
      have jl : j < B.1.length := by omega
      have e1 : B.1[j]? = some B.1[j] := List.getElem?_eq_getElem jl
      have e2 := bwd_at (σ := σ) (W := W) (x := y) e1 6
      rw [e2] at hx
      have e3 : B.1[j] = x := Option.some.inj hx
      by_cases c : j = i
      · subst c
        rw [e1] at e
        have e4 : B.1[j] = y := Option.some.inj e
        rw [← e3, e4]
        exact bwd_has hw hb
      · have := P j x (by omega) (by rw [e1, e3]) w hw hb
        rw [bwd_mono this]
        exact this
theorem bfz_cl {σ : WS} (J : Inv σ) {W x w : Nat} (hx : 0 < (bfz σ W).2.1 x) (hw : w < 6) (hb : W.testBit w = true) : 0 < (bfz σ W).2.1 (trz σ w x) := by
  obtain ⟨_, j, hj⟩ := (bfz_ok J (W := W)).2.2.1 x hx
  exact brn_cl J (by decide) (bf0_ok J) (fun j x hj => absurd hj (Nat.not_lt_zero _)) j x hj w hw hb
theorem brn_mono {σ : WS} {W y : Nat} : ∀ {m i : Nat} {B : BS}, 0 < B.2.1 y → (brn σ W m i B).2.1 y = B.2.1 y
  | 0, _, _, _ => rfl
  | m + 1, i, B, h => by
    rw [brn]
    split
    · rfl
    · rw [brn_mono (by rw [bwd_mono h]; exact h), bwd_mono h]
theorem bfz_st {σ : WS} {W : Nat} : (bfz σ W).2.1 (nuz σ) = 1 := by
  have e : (bf0 σ).2.1 (nuz σ) = 1 := if_pos rfl
  rw [bfz, brn_mono (by rw [e]; exact Nat.one_pos), e]
theorem brn_in {σ : WS} {W : Nat} {Q : Nat → Prop} (hQ : ∀ x w, Q x → w < 6 → W.testBit w = true → Q (trz σ w x)) : ∀ {m i : Nat} {B : BS}, (∀ (j x : Nat), B.1[j]? = some x → Q x) → ∀ (j x : Nat), (brn σ W m i B).1[j]? = some x → Q x
  | 0, _, _, P => P
  | m + 1, i, B, P => by
    rw [brn]
    cases e : B.1[i]? with
    | none => exact P
    | some y =>
      have qy := P i y e
      refine brn_in hQ ?_
      have key : ∀ k, k ≤ 6 → ∀ (j x : Nat), (bwd σ W y k B).1[j]? = some x → Q x := by
        intro k
        induction k with
        | zero => intro _; exact P
        | succ k ih =>
          intro hk j x hj
          rw [bwd_s] at hj
          split at hj
          · rename_i hb
            unfold bre at hj
            split at hj
            · have hj' : ((bwd σ W y k B).1 ++ [trz σ k y])[j]? = some x := hj
              rcases List.mem_append.mp (List.mem_of_getElem? hj') with h | h
              · obtain ⟨j2, h2⟩ := List.getElem?_of_mem h
                exact ih (by omega) j2 x h2
              · rw [List.mem_singleton.mp h]
                exact hQ y k qy (by omega) hb
            · exact ih (by omega) j x hj
          · exact ih (by omega) j x hj
      exact key 6 (Nat.le_refl _)
theorem bfz_sub {σ : WS} (J : Inv σ) {W V : Nat} (hs : ∀ w, w < 6 → W.testBit w = true → V.testBit w = true) {j x : Nat} (h : (bfz σ W).1[j]? = some x) : 0 < (bfz σ V).2.1 x := by
  refine brn_in (W := W) (Q := fun x => 0 < (bfz σ V).2.1 x) (fun x w q hw hb => bfz_cl J q hw (hs w hw hb)) (fun j x hj => ?_) j x h
  rw [List.mem_singleton.mp (List.mem_of_getElem? hj)]
  show 0 < (bfz σ V).2.1 (nuz σ)
  rw [bfz_st]
  exact Nat.one_pos
theorem fwz_sub {σ : WS} (J : Inv σ) {W V s b : Nat} (hs : ∀ w, w < 6 → W.testBit w = true → V.testBit w = true) {a : Nat} (h : fwz σ W s b = some a) : ∃ c, fwz σ V s b = some c := by
  unfold fwz at h ⊢
  rw [Option.map_eq_some_iff] at h
  obtain ⟨e, he, _⟩ := h
  obtain ⟨j, hj⟩ := List.getElem?_of_mem (List.mem_of_find?_eq_some he)
  have so : soS (sN σ) s e b = true := by simpa using List.find?_some he
  obtain ⟨_, i, hi⟩ := (bfz_ok J (W := V)).2.2.1 e (bfz_sub J hs hj)
  cases hf : fsz (sN σ) (bfz σ V) s b with
  | some c => exact ⟨_, rfl⟩
  | none =>
    have := List.find?_eq_none.mp hf e (List.mem_of_getElem? hi)
    exact absurd so this
theorem clz_bit : ∀ kn, kn < 64 → ∀ w, w < 6 → ∀ v, v < 6 → (clz kn w).testBit v = true → kn.testBit v = true := by decide +kernel
def fwI (o : Option Nat) : Int32 := match o with | none => -6 | some a => nI a
theorem fwz_le {σ : WS} (J : Inv σ) {W s b a : Nat} (h : fwz σ W s b = some a) : a ≤ 1024 := by
  unfold fwz at h
  rw [Option.map_eq_some_iff] at h
  obtain ⟨e, he, rfl⟩ := h
  have := (bfz_ok J (W := W)).2.2.2.1 e
  have := (bfz_ok J (W := W)).len
  omega
set_option maxRecDepth 20000 in
set_option maxHeartbeats 4000000 in
theorem c_fewestWords (l : Launch) (D : va_G) (cA : Nat → ClassId) (r : Nat → Nat) {h : Hp} {σ : WS} (R : RW 1 σ h) (J : Inv σ) {W s b : Nat} (hW : W < 64) (hs : s < 2 ^ sN σ) (hb : b < 2 ^ (2 * sN σ)) : Cn l D cA yX10_fewestWords cX10_fewestWords 5 (some .int) 4 0 0 [.ref (r 0), .int (nI W), .int (nI s), .int (nI b)] (LY r) h (pG (some (.int (fwI (fwz σ W s b)))) (LY r) (FrP h)) := by
  refine Cn.of (lv := [some (.ref (r 0)), some (.int (nI W)), some (.int (nI s)), some (.int (nI b)), none]) (by decide +kernel) (Nat.le_of_ble_eq_true rfl) rfl (fun X hnm C CR => ?_)
  have p10 := p2_10 J.n5
  have IB := bfz_ok J (W := W)
  refine R_al0 (n := 1) C dX10_fewestWords_0 rfl ?_
  refine M_getR (n := 4) C fl_X10_41 dX10_fewestWords_1 rfl rfl rfl ?_
  refine R_al0 (n := 5) C dX10_fewestWords_4 rfl ?_
  refine M_getR (n := 8) C fl_X10_12 dX10_fewestWords_5 rfl rfl rfl ?_
  refine R_il1 (n := 9) C dX10_fewestWords_8 rfl ?_
  refine M_callV (n := 12) C (c_explore _ _ _ r R J hW) mw_X5_explore ml_X10_172 iv_X5_explore dX10_fewestWords_9 rfl rfl rfl rfl (Nat.le_of_ble_eq_true rfl) ⟨Nat.le_of_ble_eq_true rfl, Nat.le_of_ble_eq_true rfl⟩ ⟨Nat.le_refl _, Nat.le_refl _⟩ rfl (pGv (fun h1 q1 => ?_))
  refine R_al0 (n := 13) C dX10_fewestWords_12 rfl ?_
  refine M_getR (n := 16) C fl_X10_41 dX10_fewestWords_13 rfl rfl rfl ?_
  refine R_il2 (n := 17) C dX10_fewestWords_16 rfl ?_
  refine R_il3 (n := 18) C dX10_fewestWords_17 rfl ?_
  refine M_callV (n := 21) C (c_firstLooking _ _ _ r J IB q1.1 hs (by omega)) mw_X5_firstLooking ml_X10_188 iv_X5_firstLooking dX10_fewestWords_18 rfl rfl rfl rfl (Nat.le_of_ble_eq_true rfl) ⟨Nat.le_of_ble_eq_true rfl, Nat.le_of_ble_eq_true rfl⟩ ⟨Nat.le_refl _, Nat.le_refl _⟩ rfl (pEs ?_)
  unfold fwz at CR
  cases hf : fsz (sN σ) (bfz σ W) s b with
  | none =>
    rw [hf] at CR
    show Rn X _ _ _ _ [.int (-1)] _ _
    refine R_is4 (n := 23) C dX10_fewestWords_21 rfl (Nat.le_of_ble_eq_true rfl) rfl ?_
    refine R_il4 (n := 25) C dX10_fewestWords_23 rfl ?_
    refine R_if_ge (tgt := 33) C dX10_fewestWords_25 rfl rfl (fun c2 => ?_) (fun c2 => ?_)
    · exact absurd c2 (by decide)
    · refine R_bp (n := 30) C dX10_fewestWords_28 cb_m6 rfl ?_
      refine R_goto (n := 43) C dX10_fewestWords_30 rfl ?_
      refine R_iret C CR (Nat.zero_le _) (Nat.zero_le _) dX10_fewestWords_43 ?_
      exact ⟨rfl, rfl, q1.2⟩
  | some e =>
    rw [hf] at CR
    obtain ⟨e1, e2⟩ := fsz_some IB hf
    have e10 : e < 1024 := by omega
    have ee : h1 23 e = nI ((bfz σ W).2.1 e - 1) := by rw [q1.1.2.2.1 e e10, pvI_pos e2]
    show Rn X _ _ _ _ [.int (nI e)] _ _
    refine R_is4 (n := 23) C dX10_fewestWords_21 rfl (Nat.le_of_ble_eq_true rfl) rfl ?_
    refine R_il4 (n := 25) C dX10_fewestWords_23 rfl ?_
    refine R_if_geN (tgt := 33) C dX10_fewestWords_25 rfl rfl (by omega) ?_
    refine R_al0 (n := 34) C dX10_fewestWords_33 rfl ?_
    refine M_getR (n := 37) C fl_X10_41 dX10_fewestWords_34 rfl rfl rfl ?_
    refine M_getR (n := 40) C fl_X10_182 dX10_fewestWords_37 rfl rfl rfl ?_
    refine R_il4 (n := 42) C dX10_fewestWords_40 rfl ?_
    refine M_iald (n := 43) C dX10_fewestWords_42 rfl e10 ee rfl ?_
    refine R_iret C CR (Nat.zero_le _) (Nat.zero_le _) dX10_fewestWords_43 ?_
    exact ⟨rfl, rfl, q1.2⟩
theorem nI_m6 {a : Nat} (h : a < 2 ^ 31) : nI a ≠ -6 := fun q => by
  have h1 := congrArg Int32.toInt q
  rw [nI_toInt h] at h1
  have h2 : (-6 : Int32).toInt = -6 := by decide
  omega
set_option maxRecDepth 20000 in
set_option maxHeartbeats 4000000 in
theorem p_without (l : Launch) (D : va_G) (cA : Nat → ClassId) (r : Nat → Nat) {h : Hp} {G : GS} (R : RCl G h) (I : InvG G) (w s b : Int32) : Cn l D cA yX10_without cX10_without 5 (some .int) 5 0 0 [.ref (r 0), .int w, .int s, .int b] (LY r) h (pG (some (.int (aWithout G w s b))) (LY r) (fun h' => RCl G h' ∧ FrC h h')) := by
  refine Cn.of (lv := [some (.ref (r 0)), some (.int w), some (.int s), some (.int b), none]) (by decide +kernel) (Nat.le_of_ble_eq_true rfl) rfl (fun X hnm C CR => ?_)
  refine R_al0 (n := 1) C dX10_without_0 rfl ?_
  refine M_getR (n := 4) C fl_X10_12 dX10_without_1 rfl rfl rfl ?_
  refine R_il1 (n := 5) C dX10_without_4 rfl ?_
  refine M_callV (n := 8) C (c_knows _ _ _ r R.1 I.1 _) mw_X9_knows ml_X10_136 iv_X9_knows dX10_without_5 rfl rfl rfl rfl (Nat.le_of_ble_eq_true rfl) ⟨Nat.le_of_ble_eq_true rfl, Nat.le_of_ble_eq_true rfl⟩ ⟨Nat.le_refl _, Nat.le_refl _⟩ rfl (pEs ?_)
  refine R_if_neB (tgt := 13) C dX10_without_8 rfl rfl (fun c1 => ?_) (fun c1 => ?_)
  · obtain ⟨v, v6, rfl, vb⟩ := kwz_of c1
    have vc : cl (nI v) = v := nI_clamp (by omega)
    rw [aWithout, if_pos c1, vc] at CR
    refine R_al0 (n := 14) C dX10_without_13 rfl ?_
    refine R_il2 (n := 15) C dX10_without_14 rfl ?_
    refine R_il3 (n := 16) C dX10_without_15 rfl ?_
    refine M_callV (n := 19) C (c_isAim _ _ _ r R.1 I.1 _ _) mw_X10_isAim ml_X10_185 iv_X10_isAim dX10_without_16 rfl rfl rfl rfl (Nat.le_of_ble_eq_true rfl) ⟨Nat.le_of_ble_eq_true rfl, Nat.le_of_ble_eq_true rfl⟩ ⟨Nat.le_refl _, Nat.le_refl _⟩ rfl (pEs ?_)
    refine R_if_neB (tgt := 25) C dX10_without_19 rfl rfl (fun c2 => ?_) (fun c2 => ?_)
    · obtain ⟨x, y, x1, y1, rfl, rfl, xc, yc⟩ := okA_of I.1 c2
      rw [if_pos c2, xc, yc] at CR
      have cll := clz_lt _ I.1.kn v v6
      refine R_al0 (n := 26) C dX10_without_25 rfl ?_
      refine R_al0 (n := 27) C dX10_without_26 rfl ?_
      refine M_getR (n := 30) C fl_X10_12 dX10_without_27 rfl rfl rfl ?_
      refine M_getI (n := 33) C fl_X10_128 dX10_without_30 rfl rfl (wKn R.1) rfl ?_
      refine R_ic (n := 34) C dX10_without_33 ci_1 rfl ?_
      refine R_il1 (n := 35) C dX10_without_34 rfl ?_
      refine R_ishlN (n := 36) C dX10_without_35 (by omega) (sh1 (by omega)) rfl ?_
      refine R_ic (n := 37) C dX10_without_36 ci_m1 rfl ?_
      refine R_ixor (n := 38) C dX10_without_37 rfl ?_
      refine R_iand (n := 39) C dX10_without_38 rfl ?_
      rw [clz_ok _ I.1.kn v v6]
      refine R_il2 (n := 40) C dX10_without_39 rfl ?_
      refine R_il3 (n := 41) C dX10_without_40 rfl ?_
      refine M_callV (n := 44) C (c_fewestWords _ _ _ r R.1 I.1 cll x1 y1) mw_X10_fewestWords ml_X10_202 iv_X10_fewestWords dX10_without_41 rfl rfl rfl rfl (Nat.le_of_ble_eq_true rfl) ⟨Nat.le_of_ble_eq_true rfl, Nat.le_of_ble_eq_true rfl⟩ ⟨Nat.le_refl _, Nat.le_refl _⟩ rfl (pGs (fun h1 q1 => ?_))
      have R1 : RCl G h1 := R.s q1.s
      cases hf : fwz (gS G) (clz (sKn (gS G)) v) x y with
      | none =>
        rw [hf] at CR
        show Rn X _ _ _ _ [.int (-6)] _ _
        refine R_is4 (n := 46) C dX10_without_44 rfl (Nat.le_of_ble_eq_true rfl) rfl ?_
        refine R_il4 (n := 48) C dX10_without_46 rfl ?_
        refine R_bp (n := 50) C dX10_without_48 cb_m6 rfl ?_
        refine R_icmp_ne (tgt := 58) C dX10_without_50 rfl rfl (fun c3 => ?_) (fun c3 => ?_)
        · exact absurd rfl c3
        · refine R_bp (n := 55) C dX10_without_53 cb_m6 rfl ?_
          refine R_goto (n := 74) C dX10_without_55 rfl ?_
          refine R_iret C CR (Nat.zero_le _) (Nat.zero_le _) dX10_without_74 ?_
          exact ⟨rfl, rfl, R1, q1.s.c⟩
      | some a =>
        obtain ⟨c, hc⟩ := fwz_sub I.1 (V := sKn (gS G)) (fun u hu hb => clz_bit _ I.1.kn v v6 u hu hb) hf
        have al := fwz_le I.1 hf
        have cl := fwz_le I.1 hc
        rw [hf, hc] at CR
        show Rn X _ _ _ _ [.int (nI a)] _ _
        refine R_is4 (n := 46) C dX10_without_44 rfl (Nat.le_of_ble_eq_true rfl) rfl ?_
        refine R_il4 (n := 48) C dX10_without_46 rfl ?_
        refine R_bp (n := 50) C dX10_without_48 cb_m6 rfl ?_
        refine R_icmp_ne (tgt := 58) C dX10_without_50 rfl rfl (fun c3 => ?_) (fun c3 => ?_)
        · refine R_il4 (n := 60) C dX10_without_58 rfl ?_
          refine R_al0 (n := 61) C dX10_without_60 rfl ?_
          refine R_al0 (n := 62) C dX10_without_61 rfl ?_
          refine M_getR (n := 65) C fl_X10_12 dX10_without_62 rfl rfl rfl ?_
          refine M_getI (n := 68) C fl_X10_128 dX10_without_65 rfl rfl (wKn R1.1) rfl ?_
          refine R_il2 (n := 69) C dX10_without_68 rfl ?_
          refine R_il3 (n := 70) C dX10_without_69 rfl ?_
          refine M_callV (n := 73) C (c_fewestWords _ _ _ r R1.1 I.1 I.1.kn x1 y1) mw_X10_fewestWords ml_X10_202 iv_X10_fewestWords dX10_without_70 rfl rfl rfl rfl (Nat.le_of_ble_eq_true rfl) ⟨Nat.le_of_ble_eq_true rfl, Nat.le_of_ble_eq_true rfl⟩ ⟨Nat.le_refl _, Nat.le_refl _⟩ rfl (pGs (fun h2 q2 => ?_))
          rw [hc]
          show Rn X _ _ _ _ [.int (nI c), .int (nI a)] _ _
          refine R_isub (n := 74) C dX10_without_73 rfl ?_
          refine R_iret C CR (Nat.zero_le _) (Nat.zero_le _) dX10_without_74 ?_
          exact ⟨rfl, rfl, R1.s q2.s, q1.s.c.tr q2.s.c⟩
        · exact absurd c3 (nI_m6 (by omega))
    · rw [if_neg (by rw [c2]; decide)] at CR
      refine R_bp (n := 24) C dX10_without_22 cb_m2 rfl ?_
      refine R_iret C CR (Nat.zero_le _) (Nat.zero_le _) dX10_without_24 ?_
      exact ⟨rfl, rfl, R, FrC.rf⟩
  · refine R_ic (n := 12) C dX10_without_11 ci_m1 rfl ?_
    refine R_iret C CR (Nat.zero_le _) (Nat.zero_le _) dX10_without_12 ?_
    refine ⟨?_, rfl, R, FrC.rf⟩
    rw [aWithout, if_neg (by rw [c1]; decide)]
