def FrP (h h' : Hp) : Prop := ∀ a, a < 18 ∨ 24 < a → h' a = h a
theorem FrP.s {h h' : Hp} (F : FrP h h') : FrS h h' := fun a ha => F a (by omega)
theorem FrP.tr {h1 h2 h3 : Hp} (F : FrP h1 h2) (G : FrP h2 h3) : FrP h1 h3 := fun a ha => (G a ha).trans (F a ha)
theorem bwd_s {σ : WS} {W x k : Nat} {B : BS} : bwd σ W x (k + 1) B = if W.testBit k = true then bre σ x k (bwd σ W x k B) else bwd σ W x k B := rfl
theorem bre_at {σ : WS} {B : BS} {x w i y : Nat} (h : B.1[i]? = some y) : (bre σ x w B).1[i]? = some y := by
  unfold bre
  split
  · show (B.1 ++ _)[i]? = _
    rw [List.getElem?_append_left (List.getElem?_eq_some_iff.mp h).1]
    exact h
  · exact h
theorem bwd_at {σ : WS} {B : BS} {W x i y : Nat} (h : B.1[i]? = some y) : ∀ k, (bwd σ W x k B).1[i]? = some y
  | 0 => h
  | k + 1 => by
    rw [bwd_s]
    split
    · exact bre_at (bwd_at h k)
    · exact bwd_at h k
theorem FrB.rs {h h' : Hp} {σ : WS} {W : Nat} (F : FrB h h') (S : RS σ W h) : RS σ W h' := fun w hw hb => by
  rw [F 20 (by decide) (by decide) (by decide) (by decide), F 21 (by decide) (by decide) (by decide) (by decide)]
  exact S w hw hb
set_option maxRecDepth 20000 in
set_option maxHeartbeats 4000000 in
theorem c_explore (l : Launch) (D : va_G) (cA : Nat → ClassId) (r : Nat → Nat) {h : Hp} {σ : WS} (R : RW 1 σ h) (J : Inv σ) {W : Nat} (hW : W < 64) : Cn l D cA yX5_explore cX5_explore 5 none 3 0 0 [.ref (r 18), .ref (r 1), .int (nI W)] (LY r) h (pG none (LY r) (fun h' => RB (bfz σ W) h' ∧ FrP h h')) := by
  refine Cn.of (lv := [some (.ref (r 18)), some (.ref (r 1)), some (.int (nI W)), none, none]) (by decide +kernel) (Nat.le_of_ble_eq_true rfl) rfl (fun X hnm C CR => ?_)
  have nu := nuz_1024 J
  obtain ⟨Z, hZ⟩ : ∃ Z, bfz σ W = Z := ⟨_, rfl⟩
  rw [hZ] at CR
  have inner : ∀ (g : Hp) (S : RS σ W g) (i x : Nat) (B0 : BS), i < 1024 → BI σ B0 → B0.1[i]? = some x → FrP h g → (∀ (h2 : Hp) (o : Option Value), RB (bwd σ W x 6 B0) h2 → FrB g h2 → Rn X 0 0 98 [some (.ref (r 18)), some (.ref (r 1)), some (.int (nI W)), some (.int (nI i)), o] [] (LY r) h2) → ∀ (m w : Nat) (hh : Hp), 6 < w + m → w ≤ 6 → RB (bwd σ W x w B0) hh → FrB g hh → Rn X 0 0 64 [some (.ref (r 18)), some (.ref (r 1)), some (.int (nI W)), some (.int (nI i)), some (.int (nI w))] [] (LY r) hh := by
    intro g S i x B0 hi I0 hx Fg out m
    induction m with
    | zero => intro w hh a1 a2; omega
    | succ m ih =>
      intro w hh a1 a2 E F
      refine R_il4 (n := 66) C dX5_explore_64 rfl ?_
      refine R_bp (n := 68) C dX5_explore_66 cb_6 rfl ?_
      refine R_icmp_geN (tgt := 98) C dX5_explore_68 rfl rfl (by omega) (by omega) (fun c1 => ?_) (fun c1 => ?_)
      · obtain rfl : w = 6 := by omega
        exact out hh _ E F
      · refine R_il2 (n := 72) C dX5_explore_71 rfl ?_
        refine R_il4 (n := 74) C dX5_explore_72 rfl ?_
        refine R_callSN (n := 77) C (c_isIn _ _ _ r (by omega) (by omega)) mw_X10_isIn mn_X5_48 sv_X10_isIn dX5_explore_74 rfl rfl (Nat.le_of_ble_eq_true rfl) ⟨Nat.le_of_ble_eq_true rfl, Nat.le_of_ble_eq_true rfl⟩ ⟨Nat.le_refl _, Nat.le_refl _⟩ rfl (pEs ?_)
        refine R_if_eqB (tgt := 92) C dX5_explore_77 rfl rfl (fun c2 => ?_) (fun c2 => ?_)
        · refine R_inc4 (n := 95) C dX5_explore_92 rfl (Nat.le_of_ble_eq_true rfl) (inc_1 _) rfl ?_
          refine R_goto (n := 64) C dX5_explore_95 rfl ?_
          refine ih (w + 1) hh (by omega) (by omega) ?_ F
          rw [bwd_s, if_neg (by rw [c2]; decide)]
          exact E
        · have x0 := (I0.1 i x hx).2
          have I1 := bwd_ok J I0 (W := W) x0 (k := w) (by omega)
          have x1 : 0 < (bwd σ W x w B0).2.1 x := by rw [bwd_mono x0]; exact x0
          have hx1 : (bwd σ W x w B0).1[i]? = some x := bwd_at hx w
          have e22 := E.2.1 i x hx1
          refine R_al0 (n := 81) C dX5_explore_80 rfl ?_
          refine R_al0 (n := 82) C dX5_explore_81 rfl ?_
          refine M_getR (n := 85) C fl_X5_18 dX5_explore_82 rfl rfl rfl ?_
          refine R_il3 (n := 86) C dX5_explore_85 rfl ?_
          refine M_iald (n := 87) C dX5_explore_86 rfl hi e22 rfl ?_
          refine R_il4 (n := 89) C dX5_explore_87 rfl ?_
          refine M_callV (n := 92) C (c_reach _ _ _ r J (F.rs S) I1 E x1 c1 c2) mw_X5_reach ml_X5_52 iv_X5_reach dX5_explore_89 rfl rfl rfl rfl (Nat.le_of_ble_eq_true rfl) ⟨Nat.le_of_ble_eq_true rfl, Nat.le_of_ble_eq_true rfl⟩ ⟨Nat.le_refl _, Nat.le_refl _⟩ rfl (pGv (fun h2 q2 => ?_))
          refine R_inc4 (n := 95) C dX5_explore_92 rfl (Nat.le_of_ble_eq_true rfl) (inc_1 _) rfl ?_
          refine R_goto (n := 64) C dX5_explore_95 rfl ?_
          refine ih (w + 1) h2 (by omega) (by omega) ?_ (fun a a1 a2 a3 a4 => by rw [q2.2 a a1 a2 a3 a4, F a a1 a2 a3 a4])
          rw [bwd_s, if_pos c2]
          exact q2.1
  have outer : ∀ (g : Hp) (S : RS σ W g) (Fg : FrP h g) (m i : Nat) (B : BS) (hh : Hp) (o : Option Value), i + m = 1024 → BI σ B → Z = brn σ W m i B → RB B hh → FrB g hh → Rn X 0 0 46 [some (.ref (r 18)), some (.ref (r 1)), some (.int (nI W)), some (.int (nI i)), o] [] (LY r) hh := by
    intro g S Fg m
    induction m with
    | zero =>
      intro i B hh o a1 I hz E F
      have len := I.len
      refine R_il3 (n := 47) C dX5_explore_46 rfl ?_
      refine R_al0 (n := 48) C dX5_explore_47 rfl ?_
      refine M_getI (n := 51) C fl_X5_44 dX5_explore_48 rfl rfl E.1 rfl ?_
      refine R_icmp_geN (tgt := 104) C dX5_explore_51 rfl rfl (by omega) (by omega) (fun c1 => ?_) (fun c1 => ?_)
      · refine R_vret C CR (Nat.zero_le _) (Nat.zero_le _) dX5_explore_104 ?_
        exact ⟨rfl, rfl, by rw [hz]; exact E, Fg.tr (fun a ha => F a (by omega) (by omega) (by omega) (by omega))⟩
      · omega
    | succ m ih =>
      intro i B hh o a1 I hz E F
      have len := I.len
      refine R_il3 (n := 47) C dX5_explore_46 rfl ?_
      refine R_al0 (n := 48) C dX5_explore_47 rfl ?_
      refine M_getI (n := 51) C fl_X5_44 dX5_explore_48 rfl rfl E.1 rfl ?_
      refine R_icmp_geN (tgt := 104) C dX5_explore_51 rfl rfl (by omega) (by omega) (fun c1 => ?_) (fun c1 => ?_)
      · refine R_vret C CR (Nat.zero_le _) (Nat.zero_le _) dX5_explore_104 ?_
        have e : B.1[i]? = none := List.getElem?_eq_none (by omega)
        rw [brn, e] at hz
        exact ⟨rfl, rfl, by rw [hz]; exact E, Fg.tr (fun a ha => F a (by omega) (by omega) (by omega) (by omega))⟩
      · have e : B.1[i]? = some B.1[i] := List.getElem?_eq_getElem c1
        rw [brn, e] at hz
        refine R_il3 (n := 55) C dX5_explore_54 rfl ?_
        refine R_sp (n := 58) C dX5_explore_55 cs_1024 rfl ?_
        refine R_icmp_geN (tgt := 104) C dX5_explore_58 rfl rfl (by omega) (by omega) (fun c2 => ?_) (fun c2 => ?_)
        · omega
        · have x0 := (I.1 i _ e).2
          refine R_ic (n := 62) C dX5_explore_61 ci_0 rfl ?_
          refine R_is4 (n := 64) C dX5_explore_62 rfl (Nat.le_of_ble_eq_true rfl) rfl ?_
          refine inner hh (F.rs S) i _ B (by omega) I e (Fg.tr (fun a ha => F a (by omega) (by omega) (by omega) (by omega))) (fun h2 o2 E2 F2 => ?_) 7 0 hh (by omega) (by omega) E (fun a _ _ _ _ => rfl)
          refine R_inc3 (n := 101) C dX5_explore_98 rfl (Nat.le_of_ble_eq_true rfl) (inc_1 _) rfl ?_
          refine R_goto (n := 46) C dX5_explore_101 rfl ?_
          exact ih (i + 1) _ h2 _ (by omega) (bwd_ok J I x0 (Nat.le_refl _)) hz E2 (fun a a1 a2 a3 a4 => by rw [F2 a a1 a2 a3 a4, F a a1 a2 a3 a4])
  refine R_al0 (n := 1) C dX5_explore_0 rfl ?_
  refine M_getR (n := 4) C fl_X5_12 dX5_explore_1 rfl rfl rfl ?_
  refine R_al1 (n := 5) C dX5_explore_4 rfl ?_
  refine R_il2 (n := 6) C dX5_explore_5 rfl ?_
  refine M_callV (n := 9) C (c_tabulate _ _ _ r R J hW) mw_X7_tabulate ml_X5_28 iv_X7_tabulate dX5_explore_6 rfl rfl rfl rfl (Nat.le_of_ble_eq_true rfl) ⟨Nat.le_of_ble_eq_true rfl, Nat.le_of_ble_eq_true rfl⟩ ⟨Nat.le_refl _, Nat.le_refl _⟩ rfl (pGv (fun h1 q1 => ?_))
  have R1 : RW 1 σ h1 := RWf (fun a h1 h2 => q1.2 a (by omega) (by omega)) R
  refine R_al0 (n := 10) C dX5_explore_9 rfl ?_
  refine M_getR (n := 13) C fl_X5_22 dX5_explore_10 rfl rfl rfl ?_
  refine R_ic (n := 14) C dX5_explore_13 ci_m1 rfl ?_
  refine R_callS (n := 17) C (c_fill _ _ _ r (LY_at (a := 23) rfl) (by decide) _) mw_J7_fill_53178 ml_X5_32 sv_J7_fill_53178 dX5_explore_14 rfl rfl (Nat.le_of_ble_eq_true rfl) ⟨Nat.le_of_ble_eq_true rfl, Nat.le_of_ble_eq_true rfl⟩ ⟨Nat.le_refl _, Nat.le_refl _⟩ rfl (pGv (fun h2 q2 => ?_))
  have R2 : RW 1 σ h2 := RWf (fun a h1 h2 => q2.2 a (by omega)) R1
  refine R_al0 (n := 18) C dX5_explore_17 rfl ?_
  refine M_getR (n := 21) C fl_X5_18 dX5_explore_18 rfl rfl rfl ?_
  refine R_ic (n := 22) C dX5_explore_21 ci_0 rfl ?_
  refine R_al1 (n := 23) C dX5_explore_22 rfl ?_
  refine M_callV (n := 26) C (c_number _ _ _ r R2 J) mw_X9_number ml_X5_38 iv_X9_number dX5_explore_23 rfl rfl rfl rfl (Nat.le_of_ble_eq_true rfl) ⟨Nat.le_of_ble_eq_true rfl, Nat.le_of_ble_eq_true rfl⟩ ⟨Nat.le_refl _, Nat.le_refl _⟩ rfl (pEs ?_)
  refine M_iast (n := 27) C dX5_explore_26 rfl (by omega) rfl ?_
  refine R_al0 (n := 28) C dX5_explore_27 rfl ?_
  refine M_getR (n := 31) C fl_X5_22 dX5_explore_28 rfl rfl rfl ?_
  refine R_al0 (n := 32) C dX5_explore_31 rfl ?_
  refine M_getR (n := 35) C fl_X5_18 dX5_explore_32 rfl rfl rfl ?_
  refine R_ic (n := 36) C dX5_explore_35 ci_0 rfl ?_
  refine M_iald (n := 37) C dX5_explore_36 rfl (by omega) up2_same rfl ?_
  refine R_ic (n := 38) C dX5_explore_37 ci_0 rfl ?_
  refine M_iast (n := 39) C dX5_explore_38 rfl nu rfl ?_
  refine R_al0 (n := 40) C dX5_explore_39 rfl ?_
  refine R_ic (n := 41) C dX5_explore_40 ci_1 rfl ?_
  refine M_putI (n := 44) C fl_X5_44 dX5_explore_41 rfl rfl rfl rfl rfl ?_
  refine R_ic (n := 45) C dX5_explore_44 ci_0 rfl ?_
  refine R_is3 (n := 46) C dX5_explore_45 rfl (Nat.le_of_ble_eq_true rfl) rfl ?_
  have Fr : FrB h2 (up2 (up2 (up2 h2 22 0 (nI (nuz σ))) 23 (nuz σ) (nI 0)) 18 0 (nI 1)) := fun a a1 a2 a3 a4 => by rw [up2_row a1, up2_row a3, up2_row a2]
  have S2 : RS σ W h2 := fun w hw hb => by
    rw [q2.2 20 (by decide), q2.2 21 (by decide)]
    exact q1.1 w hw hb
  refine outer h2 S2 (fun a ha => by rw [q2.2 a (by omega), q1.2 a (by omega) (by omega)]) 1024 0 (bf0 σ) _ none rfl (bf0_ok J) hZ.symm ⟨up2_same, fun i x hx => ?_, fun x hx => ?_, fun x hx => ?_⟩ Fr
  · have h0 : i < 1 := (List.getElem?_eq_some_iff.mp hx).1
    have h1 : i = 0 := by omega
    rw [List.mem_singleton.mp (List.mem_of_getElem? hx), h1, up2_row (by decide), up2_row (by decide), up2_same]
  · show _ = pvI (if x = nuz σ then 1 else 0)
    rw [up2_row (by decide), up2_at]
    by_cases e : x = nuz σ
    · rw [if_pos e, if_pos e]; rfl
    · rw [if_neg e, if_neg e, up2_row (by decide)]
      exact q2.1 x hx
  · have hx' : 2 ≤ (if x = nuz σ then 1 else 0) := hx
    split at hx' <;> omega
