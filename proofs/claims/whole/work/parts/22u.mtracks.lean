set_option maxRecDepth 20000 in
set_option maxHeartbeats 4000000 in
theorem c_mIsSeenSo (l : Launch) (D : va_G) (cA : Nat → ClassId) (r : Nat → Nat) {h : Hp} {σ : WS} {e : EV} (R : RM (dnz σ e) h) (I : Inv σ) (O : EOk σ e) {c m : Nat} (hc : c < 100) (hm : m < 100) (h15 : h 73 15 = nI m) : Cn l D cA yX11_isSeenSo cX11_isSeenSo 4 (some .boolean) 0 0 0 [.ref (r 73), .int (nI c)] (LY r) h (pE (some (.int (bI (snz σ e.1 c m (sSg σ))))) (LY r) h) := by
  refine Cn.of (lv := [some (.ref (r 73)), some (.int (nI c)), none, none]) (by decide +kernel) (Nat.le_of_ble_eq_true rfl) rfl (fun X hnm C CR => ?_)
  have g6 := I.sg
  have n5 := I.n5
  have loop : ∀ (t i : Nat), sSg σ < i + t → i ≤ sSg σ → Rn X 0 0 4 [some (.ref (r 73)), some (.int (nI c)), some (.int (bI (snz σ e.1 c m i))), some (.int (nI i))] [] (LY r) h := by
    intro t
    induction t with
    | zero => intro i a1 a2; omega
    | succ t ih =>
      intro i a1 a2
      have ih1 := ih (i + 1)
      rw [show snz σ e.1 c m (i + 1) = (snz σ e.1 c m i && ((!decide (sA σ 7 i = c) || decide (e.1 (sA σ 6 i) = sA σ 8 i)) && decide (sA σ 7 i ≤ m))) from alb_s] at ih1
      obtain ⟨A, hA⟩ : ∃ A, snz σ e.1 c m i = A := ⟨_, rfl⟩
      rw [hA] at ih1
      rw [hA]
      refine R_il3 (n := 5) C dX11_isSeenSo_4 rfl ?_
      refine R_al0 (n := 6) C dX11_isSeenSo_5 rfl ?_
      refine M_getI (n := 9) C fl_X11_101 dX11_isSeenSo_6 rfl rfl (show _ = nI (sSg σ) from R.2.2.1) rfl ?_
      refine R_icmp_geN (tgt := 81) C dX11_isSeenSo_9 rfl rfl (by omega) (by omega) (fun c1 => ?_) (fun c1 => ?_)
      · refine R_il2 (n := 82) C dX11_isSeenSo_81 rfl ?_
        refine R_zretB C CR (Nat.zero_le _) (Nat.zero_le _) dX11_isSeenSo_82 ?_
        exact ⟨by rw [show sSg σ = i by omega, hA], rfl, rfl⟩
      · obtain ⟨s1, s2, s3⟩ := I.sgt c1
        have e6 : h 80 i = nI (sA σ 6 i) := by rw [mSH R (by omega), dnz_o (by decide)]
        have e7 : h 81 i = nI (sA σ 7 i) := by rw [mSE R (by omega), dnz_o (by decide)]
        have e8 : h 82 i = nI (sA σ 8 i) := by rw [mSW R (by omega), dnz_o (by decide)]
        have el : h 74 (sA σ 6 i) = nI (e.1 (sA σ 6 i)) := by rw [mLk R (by omega), dnz_0 (by omega)]
        have l4 := (O (sA σ 6 i) (by omega)).1
        have at51 : ∀ B : Bool, (A && (!decide (sA σ 7 i = c) || decide (e.1 (sA σ 6 i) = sA σ 8 i))) = B → Rn X 0 0 51 [some (.ref (r 73)), some (.int (nI c)), some (.int (bI A)), some (.int (nI i))] [.int (bI B)] (LY r) h := by
          intro B hB
          rw [← Bool.and_assoc, hB] at ih1
          have no : (B && decide (sA σ 7 i ≤ m)) = false → Rn X 0 0 73 [some (.ref (r 73)), some (.int (nI c)), some (.int (bI B)), some (.int (nI i))] [] (LY r) h := by
            intro z
            rw [z] at ih1
            refine R_ic (n := 74) C dX11_isSeenSo_73 ci_0 rfl ?_
            refine R_eq (y := bI false) rfl ?_
            refine R_is2 (n := 75) C dX11_isSeenSo_74 rfl (Nat.le_of_ble_eq_true rfl) rfl ?_
            refine R_inc3 (n := 78) C dX11_isSeenSo_75 rfl (Nat.le_of_ble_eq_true rfl) (inc_1 _) rfl ?_
            refine R_goto (n := 4) C dX11_isSeenSo_78 rfl ?_
            exact ih1 (by omega) (by omega)
          refine R_is2 (n := 52) C dX11_isSeenSo_51 rfl (Nat.le_of_ble_eq_true rfl) rfl ?_
          refine R_il2 (n := 53) C dX11_isSeenSo_52 rfl ?_
          refine R_if_eqB (tgt := 73) C dX11_isSeenSo_53 rfl rfl (fun d1 => ?_) (fun d1 => ?_)
          · exact no (by rw [d1]; rfl)
          · refine R_al0 (n := 57) C dX11_isSeenSo_56 rfl ?_
            refine M_getR (n := 60) C fl_X11_31 dX11_isSeenSo_57 rfl rfl rfl ?_
            refine R_il3 (n := 61) C dX11_isSeenSo_60 rfl ?_
            refine M_iald (n := 62) C dX11_isSeenSo_61 rfl (by omega) e7 rfl ?_
            refine R_al0 (n := 63) C dX11_isSeenSo_62 rfl ?_
            refine M_getI (n := 66) C fl_X11_135 dX11_isSeenSo_63 rfl rfl h15 rfl ?_
            refine R_icmp_gtN (tgt := 73) C dX11_isSeenSo_66 rfl rfl (by omega) (by omega) (fun d2 => ?_) (fun d2 => ?_)
            · exact no (by rw [decide_eq_false (by omega), Bool.and_false])
            · rw [d1, decide_eq_true d2] at ih1
              refine R_ic (n := 70) C dX11_isSeenSo_69 ci_1 rfl ?_
              refine R_goto (n := 74) C dX11_isSeenSo_70 rfl ?_
              refine R_eq (y := bI true) rfl ?_
              refine R_is2 (n := 75) C dX11_isSeenSo_74 rfl (Nat.le_of_ble_eq_true rfl) rfl ?_
              refine R_inc3 (n := 78) C dX11_isSeenSo_75 rfl (Nat.le_of_ble_eq_true rfl) (inc_1 _) rfl ?_
              refine R_goto (n := 4) C dX11_isSeenSo_78 rfl ?_
              exact ih1 (by omega) (by omega)
        have no50 : (A && (!decide (sA σ 7 i = c) || decide (e.1 (sA σ 6 i) = sA σ 8 i))) = false → Rn X 0 0 50 [some (.ref (r 73)), some (.int (nI c)), some (.int (bI A)), some (.int (nI i))] [] (LY r) h := by
          intro z
          refine R_ic (n := 51) C dX11_isSeenSo_50 ci_0 rfl ?_
          exact at51 false z
        have yes46 : (A && (!decide (sA σ 7 i = c) || decide (e.1 (sA σ 6 i) = sA σ 8 i))) = true → Rn X 0 0 46 [some (.ref (r 73)), some (.int (nI c)), some (.int (bI A)), some (.int (nI i))] [] (LY r) h := by
          intro z
          refine R_ic (n := 47) C dX11_isSeenSo_46 ci_1 rfl ?_
          refine R_goto (n := 51) C dX11_isSeenSo_47 rfl ?_
          exact at51 true z
        refine R_il2 (n := 13) C dX11_isSeenSo_12 rfl ?_
        refine R_if_eqB (tgt := 50) C dX11_isSeenSo_13 rfl rfl (fun d1 => ?_) (fun d1 => ?_)
        · exact no50 (by rw [d1]; rfl)
        · refine R_al0 (n := 17) C dX11_isSeenSo_16 rfl ?_
          refine M_getR (n := 20) C fl_X11_31 dX11_isSeenSo_17 rfl rfl rfl ?_
          refine R_il3 (n := 21) C dX11_isSeenSo_20 rfl ?_
          refine M_iald (n := 22) C dX11_isSeenSo_21 rfl (by omega) e7 rfl ?_
          refine R_il1 (n := 23) C dX11_isSeenSo_22 rfl ?_
          refine R_icmp_neN (tgt := 46) C dX11_isSeenSo_23 rfl rfl (by omega) (by omega) (fun d2 => ?_) (fun d2 => ?_)
          · exact yes46 (by rw [d1, decide_eq_false d2]; rfl)
          · refine R_al0 (n := 27) C dX11_isSeenSo_26 rfl ?_
            refine M_getR (n := 30) C fl_X11_7 dX11_isSeenSo_27 rfl rfl rfl ?_
            refine R_al0 (n := 31) C dX11_isSeenSo_30 rfl ?_
            refine M_getR (n := 34) C fl_X11_28 dX11_isSeenSo_31 rfl rfl rfl ?_
            refine R_il3 (n := 35) C dX11_isSeenSo_34 rfl ?_
            refine M_iald (n := 36) C dX11_isSeenSo_35 rfl (by omega) e6 rfl ?_
            refine M_iald (n := 37) C dX11_isSeenSo_36 rfl (by omega) el rfl ?_
            refine R_al0 (n := 38) C dX11_isSeenSo_37 rfl ?_
            refine M_getR (n := 41) C fl_X11_34 dX11_isSeenSo_38 rfl rfl rfl ?_
            refine R_il3 (n := 42) C dX11_isSeenSo_41 rfl ?_
            refine M_iald (n := 43) C dX11_isSeenSo_42 rfl (by omega) e8 rfl ?_
            refine R_icmp_neN (tgt := 50) C dX11_isSeenSo_43 rfl rfl (by omega) (by omega) (fun d3 => ?_) (fun d3 => ?_)
            · exact no50 (by rw [decide_eq_true d2, decide_eq_false d3, d1]; rfl)
            · exact yes46 (by rw [d1, decide_eq_true d3, Bool.or_true]; rfl)
  refine R_ic (n := 1) C dX11_isSeenSo_0 ci_1 rfl ?_
  refine R_is2 (n := 2) C dX11_isSeenSo_1 rfl (Nat.le_of_ble_eq_true rfl) rfl ?_
  refine R_ic (n := 3) C dX11_isSeenSo_2 ci_0 rfl ?_
  refine R_is3 (n := 4) C dX11_isSeenSo_3 rfl (Nat.le_of_ble_eq_true rfl) rfl ?_
  exact loop (sSg σ + 1) 0 (by omega) (by omega)
def tS (σ : WS) (y : Nat) : EV := (fun k => if k < sN σ then wy y k else 0, fun k => if k < sN σ then sA σ 1 k else 9, 0, 0, 0)
theorem tS_ok {σ : WS} (I : Inv σ) {y : Nat} : EOk σ (tS σ y) := by
  intro k hk
  show (if k < sN σ then wy y k else 0) < 4 ∧ (if k < sN σ then sA σ 1 k else 9) ≤ 30 ∧ (sN σ ≤ k → (if k < sN σ then wy y k else 0) = 0 ∧ (if k < sN σ then sA σ 1 k else 9) = 9)
  by_cases c : k < sN σ
  · rw [if_pos c, if_pos c]
    exact ⟨wy_lt _ _, I.lg hk, fun q => by omega⟩
  · rw [if_neg c, if_neg c]
    exact ⟨by decide, by decide, fun _ => ⟨rfl, rfl⟩⟩
set_option maxRecDepth 20000 in
set_option maxHeartbeats 4000000 in
theorem c_mIsTrack (l : Launch) (D : va_G) (cA : Nat → ClassId) (r : Nat → Nat) {h : Hp} {σ : WS} {e : EV} (R : RM (dnz σ e) h) (I : Inv σ) (O : EOk σ e) {ev : List Nat} (A : EvM ev h) (ok : ∀ x ∈ ev, okX (sN σ) x) (len : ev.length ≤ 60) {y : Nat} (hy : y < 1024) (hL : ∀ k, k < 5 → h 86 k = nI (sA σ 1 k)) : Cn l D cA yX11_isTrack cX11_isTrack 4 (some .boolean) 3 0 0 [.ref (r 73), .int (nI y)] (LY r) h (pG (some (.int (bI (tkr σ ev.length ev (tS σ y) 0)))) (LY r) (fun h' => (∃ e', RM (dnz σ e') h' ∧ EOk σ e') ∧ FrA VA VS h h')) := by
  refine Cn.of (lv := [some (.ref (r 73)), some (.int (nI y)), none, none]) (by decide +kernel) (Nat.le_of_ble_eq_true rfl) rfl (fun X hnm C CR => ?_)
  have n5 := I.n5
  obtain ⟨Z, hZ⟩ : ∃ Z, tkr σ ev.length ev (tS σ y) 0 = Z := ⟨_, rfl⟩
  rw [hZ] at CR
  have run : ∀ (t i : Nat) (e : EV) (g : Hp) (b : Bool) (ot : Int32 × Int32 × Int32), i + t = ev.length → REM ot σ e g → EOk σ e → FrA VA VS h g → b = snz σ e.1 i ev.length (sSg σ) → Z = tkr σ ev.length (ev.drop i) e i → Rn X 0 0 47 [some (.ref (r 73)), some (.int (nI y)), some (.int (bI b)), some (.int (nI i))] [] (LY r) g := by
    intro t
    induction t with
    | zero =>
      intro i e g b ot a1 E O1 F hb hz
      have A1 := A.fr F (by decide) (by decide)
      rw [List.drop_eq_nil_of_le (by omega), tkr] at hz
      refine R_il3 (n := 48) C dX11_isTrack_47 rfl ?_
      refine R_al0 (n := 49) C dX11_isTrack_48 rfl ?_
      refine M_getI (n := 52) C fl_X11_135 dX11_isTrack_49 rfl rfl A1.1 rfl ?_
      refine R_icmp_geN (tgt := 83) C dX11_isTrack_52 rfl rfl (by omega) (by omega) (fun c1 => ?_) (fun c1 => ?_)
      · refine R_il2 (n := 84) C dX11_isTrack_83 rfl ?_
        refine R_zretB C CR (Nat.zero_le _) (Nat.zero_le _) dX11_isTrack_84 ?_
        exact ⟨by rw [hz, hb], rfl, ⟨e, E.1, O1⟩, F⟩
      · omega
    | succ t ih =>
      intro i e g b ot a1 E O1 F hb hz
      have A1 := A.fr F (by decide) (by decide)
      have il : i < ev.length := by omega
      have ek : ev[i]? = some ev[i] := List.getElem?_eq_getElem il
      obtain ⟨x, hx⟩ : ∃ x, ev[i] = x := ⟨_, rfl⟩
      rw [List.drop_eq_getElem_cons il, hx, tkr, ← hb] at hz
      rw [hx] at ek
      have ox := ok x (List.mem_of_getElem? ek)
      have x64 := ox.lt n5
      refine R_il3 (n := 48) C dX11_isTrack_47 rfl ?_
      refine R_al0 (n := 49) C dX11_isTrack_48 rfl ?_
      refine M_getI (n := 52) C fl_X11_135 dX11_isTrack_49 rfl rfl A1.1 rfl ?_
      refine R_icmp_geN (tgt := 83) C dX11_isTrack_52 rfl rfl (by omega) (by omega) (fun c1 => ?_) (fun c1 => ?_)
      · omega
      · refine R_il2 (n := 56) C dX11_isTrack_55 rfl ?_
        refine R_if_eqB (tgt := 83) C dX11_isTrack_56 rfl rfl (fun c2 => ?_) (fun c2 => ?_)
        · rw [c2, Bool.false_and] at hz
          refine R_il2 (n := 84) C dX11_isTrack_83 rfl ?_
          refine R_zretB C CR (Nat.zero_le _) (Nat.zero_le _) dX11_isTrack_84 ?_
          exact ⟨by rw [hz, c2], rfl, ⟨e, E.1, O1⟩, F⟩
        · rw [c2, Bool.true_and] at hz
          refine R_al0 (n := 60) C dX11_isTrack_59 rfl ?_
          refine R_al0 (n := 61) C dX11_isTrack_60 rfl ?_
          refine M_getR (n := 64) C fl_X11_40 dX11_isTrack_61 rfl rfl rfl ?_
          refine R_il3 (n := 65) C dX11_isTrack_64 rfl ?_
          refine M_iald (n := 66) C dX11_isTrack_65 rfl (by omega) (A1.2 i x ek) rfl ?_
          refine M_callV (n := 69) C (c_mHappen _ _ _ r E I O1 x64) mw_X11_happen ml_X11_192 iv_X11_happen dX11_isTrack_66 rfl rfl rfl rfl (Nat.le_of_ble_eq_true rfl) ⟨Nat.le_of_ble_eq_true rfl, Nat.le_of_ble_eq_true rfl⟩ ⟨Nat.le_refl _, Nat.le_refl _⟩ rfl (pGv (fun g2 q2 => ?_))
          have O2 := hpz_ok (x := x) I O1
          have F2 := F.tr q2.2
          have A2 := A.fr F2 (by decide) (by decide)
          refine R_al0 (n := 70) C dX11_isTrack_69 rfl ?_
          refine R_il3 (n := 71) C dX11_isTrack_70 rfl ?_
          refine R_ic (n := 72) C dX11_isTrack_71 ci_1 rfl ?_
          refine R_iaddN (n := 73) C dX11_isTrack_72 rfl ?_
          refine M_callV (n := 76) C (c_mIsSeenSo _ _ _ r q2.1.1 I O2 (by omega) (by omega) A2.1) mw_X11_isSeenSo ml_X11_285 iv_X11_isSeenSo dX11_isTrack_73 rfl rfl rfl rfl (Nat.le_of_ble_eq_true rfl) ⟨Nat.le_of_ble_eq_true rfl, Nat.le_of_ble_eq_true rfl⟩ ⟨Nat.le_refl _, Nat.le_refl _⟩ rfl (pEs ?_)
          refine R_is2 (n := 77) C dX11_isTrack_76 rfl (Nat.le_of_ble_eq_true rfl) rfl ?_
          refine R_inc3 (n := 80) C dX11_isTrack_77 rfl (Nat.le_of_ble_eq_true rfl) (inc_1 _) rfl ?_
          refine R_goto (n := 47) C dX11_isTrack_80 rfl ?_
          exact ih (i + 1) _ g2 _ ot (by omega) q2.1 O2 F2 rfl hz
  have setl : ∀ (t i : Nat) (e1 : EV) (g : Hp), sN σ < i + t → i ≤ sN σ → (∀ k, e1.1 k = if k < i then wy y k else e.1 k) → (∀ k, e1.2.1 k = if k < i then sA σ 1 k else e.2.1 k) → RM (dnz σ e1) g → FrA VA VS h g → Rn X 0 0 2 [some (.ref (r 73)), some (.int (nI y)), some (.int (nI i)), none] [] (LY r) g := by
    intro t
    induction t with
    | zero => intro i e1 g a1 a2; omega
    | succ t ih =>
      intro i e1 g a1 a2 p1 p2 R1 F
      refine R_il2 (n := 3) C dX11_isTrack_2 rfl ?_
      refine R_al0 (n := 4) C dX11_isTrack_3 rfl ?_
      refine M_getI (n := 7) C fl_X11_94 dX11_isTrack_4 rfl rfl (show _ = nI (sN σ) from R1.1) rfl ?_
      refine R_icmp_geN (tgt := 39) C dX11_isTrack_7 rfl rfl (by omega) (by omega) (fun c1 => ?_) (fun c1 => ?_)
      · obtain rfl : i = sN σ := by omega
        have A1 := A.fr F (by decide) (by decide)
        have R2 : RM (dnz σ (tS σ y)) g := R1.cong rfl rfl rfl (fun j k hj hk => by
          by_cases e0 : j = 0
          · subst e0
            have hk5 : k < 5 := hk
            rw [dnz_0 hk, dnz_0 hk, p1 k]
            show _ = if k < sN σ then wy y k else 0
            split
            · rfl
            · exact ((O k hk5).2.2 (by omega)).1
          · by_cases e1 : j = 1
            · subst e1
              have hk5 : k < 5 := hk
              rw [dnz_1 hk, dnz_1 hk, p2 k]
              show _ = if k < sN σ then sA σ 1 k else 9
              split
              · rfl
              · exact ((O k hk5).2.2 (by omega)).2
            · rw [dnz_o (by omega), dnz_o (by omega)])
        have E2 : REM (g 73 16, g 73 18, g 73 17) σ (tS σ y) g := ⟨R2, (Int32.add_zero _).symm, (Int32.add_zero _).symm, (Int32.add_zero _).symm⟩
        refine R_al0 (n := 40) C dX11_isTrack_39 rfl ?_
        refine R_ic (n := 41) C dX11_isTrack_40 ci_0 rfl ?_
        refine M_callV (n := 44) C (c_mIsSeenSo _ _ _ r R2 I (tS_ok I) (by omega) (by omega) A1.1) mw_X11_isSeenSo ml_X11_285 iv_X11_isSeenSo dX11_isTrack_41 rfl rfl rfl rfl (Nat.le_of_ble_eq_true rfl) ⟨Nat.le_of_ble_eq_true rfl, Nat.le_of_ble_eq_true rfl⟩ ⟨Nat.le_refl _, Nat.le_refl _⟩ rfl (pEs ?_)
        refine R_is2 (n := 45) C dX11_isTrack_44 rfl (Nat.le_of_ble_eq_true rfl) rfl ?_
        refine R_ic (n := 46) C dX11_isTrack_45 ci_0 rfl ?_
        refine R_is3 (n := 47) C dX11_isTrack_46 rfl (Nat.le_of_ble_eq_true rfl) rfl ?_
        exact run ev.length 0 (tS σ y) g _ _ (by omega) E2 (tS_ok I) F rfl hZ.symm
      · have i5 : i < 5 := by omega
        have e86 : (up2 g 74 i (nI (wy y i))) 86 i = nI (sA σ 1 i) := by
          rw [up2_row (by decide), F.1 86 (by decide) (by decide)]
          exact hL i i5
        refine R_al0 (n := 11) C dX11_isTrack_10 rfl ?_
        refine M_getR (n := 14) C fl_X11_7 dX11_isTrack_11 rfl rfl rfl ?_
        refine R_il2 (n := 15) C dX11_isTrack_14 rfl ?_
        refine R_il1 (n := 16) C dX11_isTrack_15 rfl ?_
        refine R_il2 (n := 17) C dX11_isTrack_16 rfl ?_
        refine R_callS (n := 20) C (c_mWayIn _ _ _ r (by omega) (by omega)) mw_X11_wayIn ml_X11_204 sv_X11_wayIn dX11_isTrack_17 rfl rfl (Nat.le_of_ble_eq_true rfl) ⟨Nat.le_of_ble_eq_true rfl, Nat.le_of_ble_eq_true rfl⟩ ⟨Nat.le_refl _, Nat.le_refl _⟩ rfl (pEs ?_)
        refine M_iast (n := 21) C dX11_isTrack_20 rfl i5 rfl ?_
        refine R_al0 (n := 22) C dX11_isTrack_21 rfl ?_
        refine M_getR (n := 25) C fl_X11_13 dX11_isTrack_22 rfl rfl rfl ?_
        refine R_il2 (n := 26) C dX11_isTrack_25 rfl ?_
        refine R_al0 (n := 27) C dX11_isTrack_26 rfl ?_
        refine M_getR (n := 30) C fl_X11_46 dX11_isTrack_27 rfl rfl rfl ?_
        refine R_il2 (n := 31) C dX11_isTrack_30 rfl ?_
        refine M_iald (n := 32) C dX11_isTrack_31 rfl i5 e86 rfl ?_
        refine M_iast (n := 33) C dX11_isTrack_32 rfl i5 rfl ?_
        refine R_inc2 (n := 36) C dX11_isTrack_33 rfl (Nat.le_of_ble_eq_true rfl) (inc_1 _) rfl ?_
        refine R_goto (n := 2) C dX11_isTrack_36 rfl ?_
        have K1 : RM (setA (dnz σ e1) 0 i (wy y i)) (up2 _ 74 i (nI (wy y i))) := RM.set R1 (j := 0) (k := i)
        have K2 : RM (setA (setA (dnz σ e1) 0 i (wy y i)) 1 i (sA σ 1 i)) (up2 _ 75 i (nI (sA σ 1 i))) := RM.set K1 (j := 1) (k := i)
        rw [dn_s0 i5 e1.2.2, dn_s1 i5 e1.2.2] at K2
        refine ih (i + 1) _ _ (by omega) (by omega) (fun k => ?_) (fun k => ?_) K2 ((F.up (by decide) (by decide)).up (by decide) (by decide))
        · show updN e1.1 i (wy y i) k = _
          unfold updN
          by_cases g : k = i
          · rw [if_pos g, if_pos (by omega), g]
          · rw [if_neg g, p1 k]
            by_cases g2 : k < i
            · rw [if_pos g2, if_pos (by omega)]
            · rw [if_neg g2, if_neg (by omega)]
        · show updN e1.2.1 i (sA σ 1 i) k = _
          unfold updN
          by_cases g : k = i
          · rw [if_pos g, if_pos (by omega), g]
          · rw [if_neg g, p2 k]
            by_cases g2 : k < i
            · rw [if_pos g2, if_pos (by omega)]
            · rw [if_neg g2, if_neg (by omega)]
  refine R_ic (n := 1) C dX11_isTrack_0 ci_0 rfl ?_
  refine R_is2 (n := 2) C dX11_isTrack_1 rfl (Nat.le_of_ble_eq_true rfl) rfl ?_
  exact setl (sN σ + 1) 0 e h (by omega) (by omega) (fun k => by rw [if_neg (by omega)]) (fun k => by rw [if_neg (by omega)]) R FrA.rf
set_option maxRecDepth 20000 in
set_option maxHeartbeats 4000000 in
theorem c_mIsUnread (l : Launch) (D : va_G) (cA : Nat → ClassId) (r : Nat → Nat) {h : Hp} {G : GS} (R : RMo G h) (I : InvG G) : Cn l D cA yX11_isUnread cX11_isUnread 3 (some .boolean) 3 0 0 [.ref (r 73)] (LY r) h (pG (some (.int (bI (!okT G)))) (LY r) (fun h' => (okT G = true → EvM (evT G) h') ∧ FrA [84] [15] h h')) := by
  refine Cn.of (lv := [some (.ref (r 73)), none, none]) (by decide +kernel) (Nat.le_of_ble_eq_true rfl) rfl (fun X hnm C CR => ?_)
  have n5 := I.1.n5
  refine R_al0 (n := 1) C dX11_isUnread_0 rfl ?_
  refine M_callV (n := 4) C (c_mFaultOfEvening _ _ _ r R.1 I.1 R.2.1 I.2.1) mw_X11_faultOfEvening ml_X11_149 iv_X11_faultOfEvening dX11_isUnread_1 rfl rfl rfl rfl (Nat.le_of_ble_eq_true rfl) ⟨Nat.le_of_ble_eq_true rfl, Nat.le_of_ble_eq_true rfl⟩ ⟨Nat.le_refl _, Nat.le_refl _⟩ rfl (pGs (fun h1 q1 => ?_))
  rcases ev_alt (n := sN (gS G)) (ps := (gP G).2) I.2.1.1 with ⟨V, ez⟩ | ⟨V, q, q31, ez⟩
  · have okx := evr_ok60 I V
    have ok : okE G = true := decide_eq_true V
    have A1 : EvM (evT G) h1 := q1.1 V
    have R1 := q1.2.rm R.1 (by decide) (by decide)
    have el : ∀ x ∈ evT G, okX (sN (gS G)) x := okx.1
    have ll : (evT G).length ≤ 60 := okx.2
    have oT : okT G = (evT G).all (fun x => !decide (x < 6) || (sKn (gS G)).testBit x) := by rw [okT, ok, Bool.true_and]; rfl
    obtain ⟨Z, hZ⟩ : ∃ Z, okT G = Z := ⟨_, rfl⟩
    rw [hZ] at CR oT
    have fin : ∀ (b : Bool) (o2 : Option Value), Z = !b → Rn X 0 0 63 [some (.ref (r 73)), some (.int (bI b)), o2] [] (LY r) h1 := by
      intro b o2 hb
      refine R_il1 (n := 64) C dX11_isUnread_63 rfl ?_
      refine R_zretB C CR (Nat.zero_le _) (Nat.zero_le _) dX11_isUnread_64 ?_
      exact ⟨by rw [hb, Bool.not_not], rfl, fun _ => A1, q1.2⟩
    have loop : ∀ (t i : Nat) (b : Bool), (evT G).length < i + t → i ≤ (evT G).length → (b = true → Z = false) → (b = false → Z = ((evT G).drop i).all (fun x => !decide (x < 6) || (sKn (gS G)).testBit x)) → Rn X 0 0 15 [some (.ref (r 73)), some (.int (bI b)), some (.int (nI i))] [] (LY r) h1 := by
      intro t
      induction t with
      | zero => intro i b a1 a2; omega
      | succ t ih =>
        intro i b a1 a2 z1 z2
        refine R_il2 (n := 16) C dX11_isUnread_15 rfl ?_
        refine R_al0 (n := 17) C dX11_isUnread_16 rfl ?_
        refine M_getI (n := 20) C fl_X11_135 dX11_isUnread_17 rfl rfl A1.1 rfl ?_
        refine R_icmp_geN (tgt := 63) C dX11_isUnread_20 rfl rfl (by omega) (by omega) (fun c1 => ?_) (fun c1 => ?_)
        · refine fin b _ ?_
          cases hb : b with
          | true => exact z1 hb
          | false =>
            have := z2 hb
            rw [List.drop_eq_nil_of_le (by omega)] at this
            exact this
        · have ek : (evT G)[i]? = some (evT G)[i] := List.getElem?_eq_getElem c1
          obtain ⟨x, hx⟩ : ∃ x, (evT G)[i] = x := ⟨_, rfl⟩
          rw [hx] at ek
          have x64 := (el x (List.mem_of_getElem? ek)).lt n5
          have e84 := A1.2 i x ek
          refine R_il1 (n := 24) C dX11_isUnread_23 rfl ?_
          refine R_if_neB (tgt := 63) C dX11_isUnread_24 rfl rfl (fun c2 => ?_) (fun c2 => ?_)
          · exact fin b _ (by rw [z1 c2, c2]; rfl)
          · have zz := z2 c2
            rw [List.drop_eq_getElem_cons c1, hx, List.all_cons] at zz
            have no : (!decide (x < 6) || (sKn (gS G)).testBit x) = true → Rn X 0 0 55 [some (.ref (r 73)), some (.int (bI b)), some (.int (nI i))] [] (LY r) h1 := by
              intro z
              rw [z, Bool.true_and] at zz
              refine R_ic (n := 56) C dX11_isUnread_55 ci_0 rfl ?_
              refine R_eq (y := bI false) rfl ?_
              refine R_is1 (n := 57) C dX11_isUnread_56 rfl (Nat.le_of_ble_eq_true rfl) rfl ?_
              refine R_inc2 (n := 60) C dX11_isUnread_57 rfl (Nat.le_of_ble_eq_true rfl) (inc_1 _) rfl ?_
              refine R_goto (n := 15) C dX11_isUnread_60 rfl ?_
              exact ih (i + 1) false (by omega) (by omega) (fun q => by cases q) (fun _ => zz)
            refine R_al0 (n := 28) C dX11_isUnread_27 rfl ?_
            refine M_getR (n := 31) C fl_X11_40 dX11_isUnread_28 rfl rfl rfl ?_
            refine R_il2 (n := 32) C dX11_isUnread_31 rfl ?_
            refine M_iald (n := 33) C dX11_isUnread_32 rfl (by omega) e84 rfl ?_
            refine R_bp (n := 35) C dX11_isUnread_33 cb_6 rfl ?_
            refine R_icmp_geN (tgt := 55) C dX11_isUnread_35 rfl rfl (by omega) (by omega) (fun c3 => ?_) (fun c3 => ?_)
            · exact no (by rw [decide_eq_false (by omega)]; rfl)
            · refine R_al0 (n := 39) C dX11_isUnread_38 rfl ?_
              refine R_al0 (n := 40) C dX11_isUnread_39 rfl ?_
              refine M_getR (n := 43) C fl_X11_40 dX11_isUnread_40 rfl rfl rfl ?_
              refine R_il2 (n := 44) C dX11_isUnread_43 rfl ?_
              refine M_iald (n := 45) C dX11_isUnread_44 rfl (by omega) e84 rfl ?_
              refine M_callV (n := 48) C (c_mIsKnown _ _ _ r R1 I.1 _) mw_X11_isKnown ml_X11_155 iv_X11_isKnown dX11_isUnread_45 rfl rfl rfl rfl (Nat.le_of_ble_eq_true rfl) ⟨Nat.le_of_ble_eq_true rfl, Nat.le_of_ble_eq_true rfl⟩ ⟨Nat.le_refl _, Nat.le_refl _⟩ rfl (pEs ?_)
              rw [kwz_n c3]
              refine R_if_neB (tgt := 55) C dX11_isUnread_48 rfl rfl (fun c4 => ?_) (fun c4 => ?_)
              · exact no (by rw [c4, Bool.or_true])
              · rw [c4, decide_eq_true c3] at zz
                refine R_ic (n := 52) C dX11_isUnread_51 ci_1 rfl ?_
                refine R_goto (n := 56) C dX11_isUnread_52 rfl ?_
                refine R_eq (y := bI true) rfl ?_
                refine R_is1 (n := 57) C dX11_isUnread_56 rfl (Nat.le_of_ble_eq_true rfl) rfl ?_
                refine R_inc2 (n := 60) C dX11_isUnread_57 rfl (Nat.le_of_ble_eq_true rfl) (inc_1 _) rfl ?_
                refine R_goto (n := 15) C dX11_isUnread_60 rfl ?_
                exact ih (i + 1) true (by omega) (by omega) (fun _ => zz) (fun q => by cases q)
    rw [ez]
    refine R_if_lt (tgt := 11) C dX11_isUnread_4 rfl rfl (fun c2 => ?_) (fun c2 => ?_)
    · refine R_ic (n := 12) C dX11_isUnread_11 ci_0 rfl ?_
      refine R_eq (y := bI false) rfl ?_
      refine R_is1 (n := 13) C dX11_isUnread_12 rfl (Nat.le_of_ble_eq_true rfl) rfl ?_
      refine R_ic (n := 14) C dX11_isUnread_13 ci_0 rfl ?_
      refine R_is2 (n := 15) C dX11_isUnread_14 rfl (Nat.le_of_ble_eq_true rfl) rfl ?_
      exact loop ((evT G).length + 1) 0 false (by omega) (by omega) (fun q => by cases q) (fun _ => oT)
    · exact absurd (by decide) c2
  · have ok : okE G = false := decide_eq_false V
    have oT : okT G = false := by rw [okT, ok]; rfl
    rw [oT] at CR
    rw [ez]
    refine R_if_ltN C dX11_isUnread_4 11 rfl rfl (by omega) ?_
    refine R_ic (n := 8) C dX11_isUnread_7 ci_1 rfl ?_
    refine R_goto (n := 12) C dX11_isUnread_8 rfl ?_
    refine R_eq (y := bI true) rfl ?_
    refine R_is1 (n := 13) C dX11_isUnread_12 rfl (Nat.le_of_ble_eq_true rfl) rfl ?_
    refine R_ic (n := 14) C dX11_isUnread_13 ci_0 rfl ?_
    refine R_is2 (n := 15) C dX11_isUnread_14 rfl (Nat.le_of_ble_eq_true rfl) rfl ?_
    refine R_il2 (n := 16) C dX11_isUnread_15 rfl ?_
    refine R_al0 (n := 17) C dX11_isUnread_16 rfl ?_
    refine M_getI (n := 20) C fl_X11_135 dX11_isUnread_17 rfl rfl rfl rfl ?_
    have fin : Rn X 0 0 63 [some (.ref (r 73)), some (.int (bI true)), some (.int (nI 0))] [] (LY r) h1 := by
      refine R_il1 (n := 64) C dX11_isUnread_63 rfl ?_
      refine R_zretB C CR (Nat.zero_le _) (Nat.zero_le _) dX11_isUnread_64 ?_
      exact ⟨rfl, rfl, fun q => (by cases q), q1.2⟩
    refine R_icmp_ge (tgt := 63) C dX11_isUnread_20 rfl rfl (fun c3 => ?_) (fun c3 => ?_)
    · exact fin
    · refine R_il1 (n := 24) C dX11_isUnread_23 rfl ?_
      refine R_if_neB (tgt := 63) C dX11_isUnread_24 rfl rfl (fun c4 => ?_) (fun c4 => ?_)
      · exact fin
      · cases c4
