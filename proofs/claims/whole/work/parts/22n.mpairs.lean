theorem wbM_eq {c d e : Nat} : wbM c d = wbM c e ↔ wbz c d = wbz c e := by
  have h1 := wbz_lt c d
  have h2 := wbz_lt c e
  have k : ∀ w, w < 4 → (-6 : Int32) ≠ nI w := by decide +kernel
  unfold wbM
  by_cases g1 : wbz c d = 4
  · by_cases g2 : wbz c e = 4
    · rw [if_pos g1, if_pos g2, g1, g2]
      exact ⟨fun _ => rfl, fun _ => rfl⟩
    · rw [if_pos g1, if_neg g2]
      exact ⟨fun q => absurd q (k _ (by omega)), fun q => by omega⟩
  · by_cases g2 : wbz c e = 4
    · rw [if_neg g1, if_pos g2]
      exact ⟨fun q => absurd q.symm (k _ (by omega)), fun q => by omega⟩
    · rw [if_neg g1, if_neg g2]
      exact nI_eq (by omega) (by omega)
set_option maxRecDepth 20000 in
set_option maxHeartbeats 4000000 in
theorem c_mIsClear (l : Launch) (D : va_G) (cA : Nat → ClassId) (r : Nat → Nat) {h : Hp} {σ : WS} (R : RM σ h) (I : Inv σ) {a b : Nat} (ha : a < 5) (hb : b < 5) : Cn l D cA yX11_isClear cX11_isClear 6 (some .boolean) 1 0 0 [.ref (r 73), .int (nI a), .int (nI b)] (LY r) h (pE (some (.int (bI (clrz σ a b (sN σ))))) (LY r) h) := by
  refine Cn.of (lv := [some (.ref (r 73)), some (.int (nI a)), some (.int (nI b)), none, none, none]) (by decide +kernel) (Nat.le_of_ble_eq_true rfl) rfl (fun X hnm C CR => ?_)
  have n5 := I.n5
  have ca := I.ce ha
  have cb := I.ce hb
  have loop : ∀ (m i : Nat) (o : Option Value), sN σ < i + m → i ≤ sN σ → Rn X 0 0 5 [some (.ref (r 73)), some (.int (nI a)), some (.int (nI b)), some (.int (bI (clrz σ a b i))), some (.int (nI i)), o] [] (LY r) h := by
    intro m
    induction m with
    | zero => intro i o a1 a2; omega
    | succ m ih =>
      intro i o a1 a2
      have ih1 := ih (i + 1)
      rw [show clrz σ a b (i + 1) = (clrz σ a b i && (decide (i = a) || (decide (i = b) || !btz σ a b i))) from alb_s] at ih1
      obtain ⟨t, ht⟩ : ∃ t, clrz σ a b i = t := ⟨_, rfl⟩
      rw [ht] at ih1
      rw [ht]
      refine R_il4 (n := 7) C dX11_isClear_5 rfl ?_
      refine R_al0 (n := 8) C dX11_isClear_7 rfl ?_
      refine M_getI (n := 11) C fl_X11_94 dX11_isClear_8 rfl rfl (mN_ R) rfl ?_
      refine R_icmp_geN (tgt := 122) C dX11_isClear_11 rfl rfl (by omega) (by omega) (fun c1 => ?_) (fun c1 => ?_)
      · refine R_il3 (n := 123) C dX11_isClear_122 rfl ?_
        refine R_zretB C CR (Nat.zero_le _) (Nat.zero_le _) dX11_isClear_123 ?_
        exact ⟨by rw [show sN σ = i by omega, ht], rfl, rfl⟩
      · have ci := I.ce (k := i) (by omega)
        have d1 := dsz_lt _ ca _ ci
        have d2 := dsz_lt _ ca _ cb
        have at87 : ∀ q : Bool, btz σ a b i = q → Rn X 0 0 87 [some (.ref (r 73)), some (.int (nI a)), some (.int (nI b)), some (.int (bI t)), some (.int (nI i)), o] [.int (bI q)] (LY r) h := by
          intro q hq
          rw [hq] at ih1
          have no : (t && (decide (i = a) || (decide (i = b) || !q))) = false → Rn X 0 0 114 [some (.ref (r 73)), some (.int (nI a)), some (.int (nI b)), some (.int (bI t)), some (.int (nI i)), some (.int (bI q))] [] (LY r) h := by
            intro z
            rw [z] at ih1
            refine R_ic (n := 115) C dX11_isClear_114 ci_0 rfl ?_
            refine R_eq (y := bI false) rfl ?_
            refine R_is3 (n := 116) C dX11_isClear_115 rfl (Nat.le_of_ble_eq_true rfl) rfl ?_
            refine R_inc4 (n := 119) C dX11_isClear_116 rfl (Nat.le_of_ble_eq_true rfl) (inc_1 _) rfl ?_
            refine R_goto (n := 5) C dX11_isClear_119 rfl ?_
            exact ih1 _ (by omega) (by omega)
          have yes : (t && (decide (i = a) || (decide (i = b) || !q))) = true → Rn X 0 0 110 [some (.ref (r 73)), some (.int (nI a)), some (.int (nI b)), some (.int (bI t)), some (.int (nI i)), some (.int (bI q))] [] (LY r) h := by
            intro z
            rw [z] at ih1
            refine R_ic (n := 111) C dX11_isClear_110 ci_1 rfl ?_
            refine R_goto (n := 115) C dX11_isClear_111 rfl ?_
            refine R_eq (y := bI true) rfl ?_
            refine R_is3 (n := 116) C dX11_isClear_115 rfl (Nat.le_of_ble_eq_true rfl) rfl ?_
            refine R_inc4 (n := 119) C dX11_isClear_116 rfl (Nat.le_of_ble_eq_true rfl) (inc_1 _) rfl ?_
            refine R_goto (n := 5) C dX11_isClear_119 rfl ?_
            exact ih1 _ (by omega) (by omega)
          refine R_is5 (n := 89) C dX11_isClear_87 rfl (Nat.le_of_ble_eq_true rfl) rfl ?_
          refine R_il3 (n := 90) C dX11_isClear_89 rfl ?_
          refine R_if_eqB (tgt := 114) C dX11_isClear_90 rfl rfl (fun e1 => ?_) (fun e1 => ?_)
          · exact no (by rw [e1]; rfl)
          · refine R_il4 (n := 95) C dX11_isClear_93 rfl ?_
            refine R_il1 (n := 96) C dX11_isClear_95 rfl ?_
            refine R_icmp_eqN (tgt := 110) C dX11_isClear_96 rfl rfl (by omega) (by omega) (fun e2 => ?_) (fun e2 => ?_)
            · exact yes (by rw [e1, decide_eq_true e2]; rfl)
            · refine R_il4 (n := 101) C dX11_isClear_99 rfl ?_
              refine R_il2 (n := 102) C dX11_isClear_101 rfl ?_
              refine R_icmp_eqN (tgt := 110) C dX11_isClear_102 rfl rfl (by omega) (by omega) (fun e3 => ?_) (fun e3 => ?_)
              · exact yes (by rw [e1, decide_eq_false e2, decide_eq_true e3]; rfl)
              · refine R_il5 (n := 107) C dX11_isClear_105 rfl ?_
                refine R_if_neB (tgt := 114) C dX11_isClear_107 rfl rfl (fun e4 => ?_) (fun e4 => ?_)
                · exact no (by rw [e1, decide_eq_false e2, decide_eq_false e3, e4]; rfl)
                · exact yes (by rw [e1, decide_eq_false e2, decide_eq_false e3, e4]; rfl)
        have no86 : btz σ a b i = false → Rn X 0 0 86 [some (.ref (r 73)), some (.int (nI a)), some (.int (nI b)), some (.int (bI t)), some (.int (nI i)), o] [] (LY r) h := by
          intro z
          refine R_ic (n := 87) C dX11_isClear_86 ci_0 rfl ?_
          exact at87 false z
        refine R_al0 (n := 15) C dX11_isClear_14 rfl ?_
        refine M_getR (n := 18) C fl_X11_22 dX11_isClear_15 rfl rfl rfl ?_
        refine R_il1 (n := 19) C dX11_isClear_18 rfl ?_
        refine M_iald (n := 20) C dX11_isClear_19 rfl ha (mCe R ha) rfl ?_
        refine R_al0 (n := 21) C dX11_isClear_20 rfl ?_
        refine M_getR (n := 24) C fl_X11_22 dX11_isClear_21 rfl rfl rfl ?_
        refine R_il4 (n := 26) C dX11_isClear_24 rfl ?_
        refine M_iald (n := 27) C dX11_isClear_26 rfl (by omega) (mCe R (by omega)) rfl ?_
        refine R_callS (n := 30) C (c_mWayTo _ _ _ r ca ci) mw_X11_wayTo ml_X11_266 sv_X11_wayTo dX11_isClear_27 rfl rfl (Nat.le_of_ble_eq_true rfl) ⟨Nat.le_of_ble_eq_true rfl, Nat.le_of_ble_eq_true rfl⟩ ⟨Nat.le_refl _, Nat.le_refl _⟩ rfl (pEs ?_)
        refine R_al0 (n := 31) C dX11_isClear_30 rfl ?_
        refine M_getR (n := 34) C fl_X11_22 dX11_isClear_31 rfl rfl rfl ?_
        refine R_il1 (n := 35) C dX11_isClear_34 rfl ?_
        refine M_iald (n := 36) C dX11_isClear_35 rfl ha (mCe R ha) rfl ?_
        refine R_al0 (n := 37) C dX11_isClear_36 rfl ?_
        refine M_getR (n := 40) C fl_X11_22 dX11_isClear_37 rfl rfl rfl ?_
        refine R_il2 (n := 41) C dX11_isClear_40 rfl ?_
        refine M_iald (n := 42) C dX11_isClear_41 rfl hb (mCe R hb) rfl ?_
        refine R_callS (n := 45) C (c_mWayTo _ _ _ r ca cb) mw_X11_wayTo ml_X11_266 sv_X11_wayTo dX11_isClear_42 rfl rfl (Nat.le_of_ble_eq_true rfl) ⟨Nat.le_of_ble_eq_true rfl, Nat.le_of_ble_eq_true rfl⟩ ⟨Nat.le_refl _, Nat.le_refl _⟩ rfl (pEs ?_)
        refine R_icmp_ne (tgt := 86) C dX11_isClear_45 rfl rfl (fun c2 => ?_) (fun c2 => ?_)
        · rw [wbM_eq] at c2
          exact no86 (by rw [btz, decide_eq_false c2]; rfl)
        · rw [wbM_eq] at c2
          refine R_al0 (n := 49) C dX11_isClear_48 rfl ?_
          refine M_getR (n := 52) C fl_X11_22 dX11_isClear_49 rfl rfl rfl ?_
          refine R_il1 (n := 53) C dX11_isClear_52 rfl ?_
          refine M_iald (n := 54) C dX11_isClear_53 rfl ha (mCe R ha) rfl ?_
          refine R_al0 (n := 55) C dX11_isClear_54 rfl ?_
          refine M_getR (n := 58) C fl_X11_22 dX11_isClear_55 rfl rfl rfl ?_
          refine R_il4 (n := 60) C dX11_isClear_58 rfl ?_
          refine M_iald (n := 61) C dX11_isClear_60 rfl (by omega) (mCe R (by omega)) rfl ?_
          refine R_callS (n := 64) C (c_mDistance _ _ _ r ca ci) mw_X11_distance ml_X11_269 sv_X11_distance dX11_isClear_61 rfl rfl (Nat.le_of_ble_eq_true rfl) ⟨Nat.le_of_ble_eq_true rfl, Nat.le_of_ble_eq_true rfl⟩ ⟨Nat.le_refl _, Nat.le_refl _⟩ rfl (pEs ?_)
          refine R_al0 (n := 65) C dX11_isClear_64 rfl ?_
          refine M_getR (n := 68) C fl_X11_22 dX11_isClear_65 rfl rfl rfl ?_
          refine R_il1 (n := 69) C dX11_isClear_68 rfl ?_
          refine M_iald (n := 70) C dX11_isClear_69 rfl ha (mCe R ha) rfl ?_
          refine R_al0 (n := 71) C dX11_isClear_70 rfl ?_
          refine M_getR (n := 74) C fl_X11_22 dX11_isClear_71 rfl rfl rfl ?_
          refine R_il2 (n := 75) C dX11_isClear_74 rfl ?_
          refine M_iald (n := 76) C dX11_isClear_75 rfl hb (mCe R hb) rfl ?_
          refine R_callS (n := 79) C (c_mDistance _ _ _ r ca cb) mw_X11_distance ml_X11_269 sv_X11_distance dX11_isClear_76 rfl rfl (Nat.le_of_ble_eq_true rfl) ⟨Nat.le_of_ble_eq_true rfl, Nat.le_of_ble_eq_true rfl⟩ ⟨Nat.le_refl _, Nat.le_refl _⟩ rfl (pEs ?_)
          refine R_icmp_geN (tgt := 86) C dX11_isClear_79 rfl rfl (by omega) (by omega) (fun c3 => ?_) (fun c3 => ?_)
          · exact no86 (by rw [btz, decide_eq_false (show ¬ dsz (sA σ 4 a) (sA σ 4 i) < dsz (sA σ 4 a) (sA σ 4 b) by omega), Bool.and_false])
          · refine R_ic (n := 83) C dX11_isClear_82 ci_1 rfl ?_
            refine R_goto (n := 87) C dX11_isClear_83 rfl ?_
            exact at87 true (by rw [btz, decide_eq_true c2, decide_eq_true c3]; rfl)
  refine R_ic (n := 1) C dX11_isClear_0 ci_1 rfl ?_
  refine R_is3 (n := 2) C dX11_isClear_1 rfl (Nat.le_of_ble_eq_true rfl) rfl ?_
  refine R_ic (n := 3) C dX11_isClear_2 ci_0 rfl ?_
  refine R_is4 (n := 5) C dX11_isClear_3 rfl (Nat.le_of_ble_eq_true rfl) rfl ?_
  exact loop (sN σ + 1) 0 none (by omega) (by omega)
def mfc (σ : WS) (l a b : Nat) : Bool := (decide (wbz (sA σ 4 a) (sA σ 4 b) < 4) && (decide (wy l a = wbz (sA σ 4 a) (sA σ 4 b)) && decide (wy l b = (wbz (sA σ 4 a) (sA σ 4 b) + 2) % 4))) && clrz σ a b (sN σ)
theorem mfc_eq {σ : WS} (I : Inv σ) {l a b : Nat} (ha : a < 5) (hb : b < 5) : mfc σ l a b = fcb σ l b a := by
  have op := wb_op _ (I.ce ha) _ (I.ce hb)
  unfold mfc fcb
  by_cases h4 : wbz (sA σ 4 a) (sA σ 4 b) < 4
  · obtain ⟨o1, o2⟩ := op
    obtain ⟨o3, o4, o5⟩ := o2 h4
    rw [if_pos h4] at o1
    rw [clr_fr I ha hb h4, decide_eq_true h4, o4, o1, decide_eq_true o3, o5]
    cases frz σ b a (wbz (sA σ 4 a) (sA σ 4 b) ^^^ 2) <;> cases decide (wy l a = wbz (sA σ 4 a) (sA σ 4 b)) <;> cases decide (wy l b = wbz (sA σ 4 a) (sA σ 4 b) ^^^ 2) <;> rfl
  · rw [if_neg h4] at op
    rw [decide_eq_false h4, op.1]
    rfl
def prM (σ : WS) (l n : Nat) : Nat := sm (fun a => sm (fun b => n1 (mfc σ l a b)) a) n
theorem prM_eq {σ : WS} (I : Inv σ) {l : Nat} : prM σ l (sN σ) = prL l (lnZ σ (sN σ)) := by
  have n5 := I.n5
  rw [prL_Z, sm_swap _ _ n5]
  exact sm_cong (fun a ha => sm_cong (fun b hb => by rw [mfc_eq I (by omega) (by omega)]))
theorem n1_le (b : Bool) : n1 b ≤ 1 := by cases b <;> decide
theorem sm_n1 {f : Nat → Bool} : ∀ n, sm (fun b => n1 (f b)) n ≤ n
  | 0 => Nat.le_refl _
  | n + 1 => by
    have h1 := sm_n1 (f := f) n
    have h2 := n1_le (f n)
    show sm (fun b => n1 (f b)) n + n1 (f n) ≤ n + 1
    omega
set_option maxRecDepth 20000 in
set_option maxHeartbeats 4000000 in
theorem c_mPairsIn (l : Launch) (D : va_G) (cA : Nat → ClassId) (r : Nat → Nat) {h : Hp} {σ : WS} (R : RM σ h) (I : Inv σ) {l9 : Nat} (hl : l9 < 1024) : Cn l D cA yX11_pairsIn cX11_pairsIn 7 (some .int) 2 0 0 [.ref (r 73), .int (nI l9)] (LY r) h (pE (some (.int (nI (prL l9 (lnZ σ (sN σ)))))) (LY r) h) := by
  refine Cn.of (lv := [some (.ref (r 73)), some (.int (nI l9)), none, none, none, none, none]) (by decide +kernel) (Nat.le_of_ble_eq_true rfl) rfl (fun X hnm C CR => ?_)
  have n5 := I.n5
  rw [← prM_eq I] at CR
  have inner : ∀ (a : Nat), a < sN σ → (∀ (o5 o6 : Option Value), Rn X 0 0 105 [some (.ref (r 73)), some (.int (nI l9)), some (.int (nI (prM σ l9 (a + 1)))), some (.int (nI a)), some (.int (nI a)), o5, o6] [] (LY r) h) → ∀ (m b : Nat) (o5 o6 : Option Value), a < b + m → b ≤ a → Rn X 0 0 15 [some (.ref (r 73)), some (.int (nI l9)), some (.int (nI (prM σ l9 a + sm (fun b => n1 (mfc σ l9 a b)) b))), some (.int (nI a)), some (.int (nI b)), o5, o6] [] (LY r) h := by
    intro a ha out m
    have a5 : a < 5 := by omega
    have ca := I.ce a5
    induction m with
    | zero => intro b o5 o6 a1 a2; omega
    | succ m ih =>
      intro b o5 o6 a1 a2
      refine R_il4 (n := 17) C dX11_pairsIn_15 rfl ?_
      refine R_il3 (n := 18) C dX11_pairsIn_17 rfl ?_
      refine R_icmp_geN (tgt := 105) C dX11_pairsIn_18 rfl rfl (by omega) (by omega) (fun c1 => ?_) (fun c1 => ?_)
      · obtain rfl : b = a := by omega
        exact out o5 o6
      · have b5 : b < 5 := by omega
        have cb := I.ce b5
        have ih1 := ih (b + 1)
        rw [show prM σ l9 a + sm (fun b => n1 (mfc σ l9 a b)) (b + 1) = prM σ l9 a + sm (fun b => n1 (mfc σ l9 a b)) b + n1 (mfc σ l9 a b) by rw [sm, Nat.add_assoc]] at ih1
        obtain ⟨S, hS⟩ : ∃ S, prM σ l9 a + sm (fun b => n1 (mfc σ l9 a b)) b = S := ⟨_, rfl⟩
        rw [hS] at ih1
        rw [hS]
        have w1 := wy_lt l9 a
        have w2 := wy_lt l9 b
        obtain ⟨w, hw⟩ : ∃ w, wbz (sA σ 4 a) (sA σ 4 b) = w := ⟨_, rfl⟩
        have wl := wbz_lt (sA σ 4 a) (sA σ 4 b)
        rw [hw] at wl
        have at97 : ∀ (v : Int32) (o5 o6 : Option Value) (q : Bool), mfc σ l9 a b = q → v = nI (n1 q) → Rn X 0 0 97 [some (.ref (r 73)), some (.int (nI l9)), some (.int (nI S)), some (.int (nI a)), some (.int (nI b)), o5, o6] [.int v, .int (nI S)] (LY r) h := by
          intro v o5 o6 q hq hv
          rw [hq] at ih1
          rw [hv]
          refine R_iaddN (n := 98) C dX11_pairsIn_97 rfl ?_
          refine R_is2 (n := 99) C dX11_pairsIn_98 rfl (Nat.le_of_ble_eq_true rfl) rfl ?_
          refine R_inc4 (n := 102) C dX11_pairsIn_99 rfl (Nat.le_of_ble_eq_true rfl) (inc_1 _) rfl ?_
          refine R_goto (n := 15) C dX11_pairsIn_102 rfl ?_
          exact ih1 _ _ (by omega) (by omega)
        have at74 : ∀ (v : Int32) (fc : Bool), (decide (w < 4) && (decide (wy l9 a = w) && decide (wy l9 b = (w + 2) % 4))) = fc → Rn X 0 0 74 [some (.ref (r 73)), some (.int (nI l9)), some (.int (nI S)), some (.int (nI a)), some (.int (nI b)), some (.int v), o6] [.int (bI fc)] (LY r) h := by
          intro v fc hf
          refine R_is6 (n := 76) C dX11_pairsIn_74 rfl (Nat.le_of_ble_eq_true rfl) rfl ?_
          refine R_il2 (n := 77) C dX11_pairsIn_76 rfl ?_
          refine R_il6 (n := 79) C dX11_pairsIn_77 rfl ?_
          refine R_if_eqB (tgt := 96) C dX11_pairsIn_79 rfl rfl (fun e1 => ?_) (fun e1 => ?_)
          · refine R_ic (n := 97) C dX11_pairsIn_96 ci_0 rfl ?_
            exact at97 _ _ _ false (by rw [mfc, hw, hf, e1]; rfl) rfl
          · refine R_al0 (n := 83) C dX11_pairsIn_82 rfl ?_
            refine R_il3 (n := 84) C dX11_pairsIn_83 rfl ?_
            refine R_il4 (n := 86) C dX11_pairsIn_84 rfl ?_
            refine M_callV (n := 89) C (c_mIsClear _ _ _ r R I a5 b5) mw_X11_isClear ml_X11_272 iv_X11_isClear dX11_pairsIn_86 rfl rfl rfl rfl (Nat.le_of_ble_eq_true rfl) ⟨Nat.le_of_ble_eq_true rfl, Nat.le_of_ble_eq_true rfl⟩ ⟨Nat.le_refl _, Nat.le_refl _⟩ rfl (pEs ?_)
            refine R_if_eqB (tgt := 96) C dX11_pairsIn_89 rfl rfl (fun e2 => ?_) (fun e2 => ?_)
            · refine R_ic (n := 97) C dX11_pairsIn_96 ci_0 rfl ?_
              exact at97 _ _ _ false (by rw [mfc, e2, Bool.and_false]) rfl
            · refine R_ic (n := 93) C dX11_pairsIn_92 ci_1 rfl ?_
              refine R_goto (n := 97) C dX11_pairsIn_93 rfl ?_
              exact at97 _ _ _ true (by rw [mfc, hw, hf, e1, e2]; rfl) rfl
        have no73 : ∀ v : Int32, (decide (w < 4) && (decide (wy l9 a = w) && decide (wy l9 b = (w + 2) % 4))) = false → Rn X 0 0 73 [some (.ref (r 73)), some (.int (nI l9)), some (.int (nI S)), some (.int (nI a)), some (.int (nI b)), some (.int v), o6] [] (LY r) h := by
          intro v z
          refine R_ic (n := 74) C dX11_pairsIn_73 ci_0 rfl ?_
          exact at74 v false z
        refine R_al0 (n := 22) C dX11_pairsIn_21 rfl ?_
        refine M_getR (n := 25) C fl_X11_22 dX11_pairsIn_22 rfl rfl rfl ?_
        refine R_il3 (n := 26) C dX11_pairsIn_25 rfl ?_
        refine M_iald (n := 27) C dX11_pairsIn_26 rfl a5 (mCe R a5) rfl ?_
        refine R_al0 (n := 28) C dX11_pairsIn_27 rfl ?_
        refine M_getR (n := 31) C fl_X11_22 dX11_pairsIn_28 rfl rfl rfl ?_
        refine R_il4 (n := 33) C dX11_pairsIn_31 rfl ?_
        refine M_iald (n := 34) C dX11_pairsIn_33 rfl b5 (mCe R b5) rfl ?_
        refine R_callS (n := 37) C (c_mWayTo _ _ _ r ca cb) mw_X11_wayTo ml_X11_266 sv_X11_wayTo dX11_pairsIn_34 rfl rfl (Nat.le_of_ble_eq_true rfl) ⟨Nat.le_of_ble_eq_true rfl, Nat.le_of_ble_eq_true rfl⟩ ⟨Nat.le_refl _, Nat.le_refl _⟩ rfl (pEs ?_)
        by_cases w4 : w = 4
        · rw [wbM, hw, if_pos w4]
          refine R_is5 (n := 39) C dX11_pairsIn_37 rfl (Nat.le_of_ble_eq_true rfl) rfl ?_
          refine R_il5 (n := 41) C dX11_pairsIn_39 rfl ?_
          refine R_if_lt (tgt := 73) C dX11_pairsIn_41 rfl rfl (fun c2 => ?_) (fun c2 => ?_)
          · exact no73 _ (by rw [decide_eq_false (by omega)]; rfl)
          · exact absurd (by decide) c2
        · rw [wbM, hw, if_neg w4]
          refine R_is5 (n := 39) C dX11_pairsIn_37 rfl (Nat.le_of_ble_eq_true rfl) rfl ?_
          refine R_il5 (n := 41) C dX11_pairsIn_39 rfl ?_
          refine R_if_ltN C dX11_pairsIn_41 73 rfl rfl (by omega) ?_
          refine R_il1 (n := 45) C dX11_pairsIn_44 rfl ?_
          refine R_il3 (n := 46) C dX11_pairsIn_45 rfl ?_
          refine R_callS (n := 49) C (c_mWayIn _ _ _ r (by omega) (by omega)) mw_X11_wayIn ml_X11_204 sv_X11_wayIn dX11_pairsIn_46 rfl rfl (Nat.le_of_ble_eq_true rfl) ⟨Nat.le_of_ble_eq_true rfl, Nat.le_of_ble_eq_true rfl⟩ ⟨Nat.le_refl _, Nat.le_refl _⟩ rfl (pEs ?_)
          refine R_il5 (n := 51) C dX11_pairsIn_49 rfl ?_
          refine R_icmp_neN (tgt := 73) C dX11_pairsIn_51 rfl rfl (by omega) (by omega) (fun c3 => ?_) (fun c3 => ?_)
          · exact no73 _ (by rw [decide_eq_false c3, Bool.false_and, Bool.and_false])
          · refine R_il1 (n := 55) C dX11_pairsIn_54 rfl ?_
            refine R_il4 (n := 57) C dX11_pairsIn_55 rfl ?_
            refine R_callS (n := 60) C (c_mWayIn _ _ _ r (by omega) (by omega)) mw_X11_wayIn ml_X11_204 sv_X11_wayIn dX11_pairsIn_57 rfl rfl (Nat.le_of_ble_eq_true rfl) ⟨Nat.le_of_ble_eq_true rfl, Nat.le_of_ble_eq_true rfl⟩ ⟨Nat.le_refl _, Nat.le_refl _⟩ rfl (pEs ?_)
            refine R_il5 (n := 62) C dX11_pairsIn_60 rfl ?_
            refine R_ic (n := 63) C dX11_pairsIn_62 ci_2 rfl ?_
            refine R_iaddN (n := 64) C dX11_pairsIn_63 rfl ?_
            refine R_ic (n := 65) C dX11_pairsIn_64 ci_4 rfl ?_
            refine R_iremN (n := 66) C dX11_pairsIn_65 (by omega) (by omega) (by omega) rfl ?_
            refine R_icmp_neN (tgt := 73) C dX11_pairsIn_66 rfl rfl (by omega) (by omega) (fun c4 => ?_) (fun c4 => ?_)
            · exact no73 _ (by rw [decide_eq_false c4, Bool.and_false, Bool.and_false])
            · refine R_ic (n := 70) C dX11_pairsIn_69 ci_1 rfl ?_
              refine R_goto (n := 74) C dX11_pairsIn_70 rfl ?_
              exact at74 _ true (by rw [decide_eq_true (show w < 4 by omega), decide_eq_true c3, decide_eq_true c4]; rfl)
  have outer : ∀ (m a : Nat) (o4 o5 o6 : Option Value), sN σ < a + m → a ≤ sN σ → Rn X 0 0 4 [some (.ref (r 73)), some (.int (nI l9)), some (.int (nI (prM σ l9 a))), some (.int (nI a)), o4, o5, o6] [] (LY r) h := by
    intro m
    induction m with
    | zero => intro a o4 o5 o6 a1 a2; omega
    | succ m ih =>
      intro a o4 o5 o6 a1 a2
      refine R_il3 (n := 5) C dX11_pairsIn_4 rfl ?_
      refine R_al0 (n := 6) C dX11_pairsIn_5 rfl ?_
      refine M_getI (n := 9) C fl_X11_94 dX11_pairsIn_6 rfl rfl (mN_ R) rfl ?_
      refine R_icmp_geN (tgt := 111) C dX11_pairsIn_9 rfl rfl (by omega) (by omega) (fun c1 => ?_) (fun c1 => ?_)
      · refine R_il2 (n := 112) C dX11_pairsIn_111 rfl ?_
        refine R_iret C CR (Nat.zero_le _) (Nat.zero_le _) dX11_pairsIn_112 ?_
        exact ⟨by rw [show sN σ = a by omega], rfl, rfl⟩
      · refine R_ic (n := 13) C dX11_pairsIn_12 ci_0 rfl ?_
        refine R_is4 (n := 15) C dX11_pairsIn_13 rfl (Nat.le_of_ble_eq_true rfl) rfl ?_
        refine inner a c1 (fun p5 p6 => ?_) (a + 1) 0 o5 o6 (by omega) (by omega)
        refine R_inc3 (n := 108) C dX11_pairsIn_105 rfl (Nat.le_of_ble_eq_true rfl) (inc_1 _) rfl ?_
        refine R_goto (n := 4) C dX11_pairsIn_108 rfl ?_
        exact ih (a + 1) _ _ _ (by omega) (by omega)
  refine R_ic (n := 1) C dX11_pairsIn_0 ci_0 rfl ?_
  refine R_is2 (n := 2) C dX11_pairsIn_1 rfl (Nat.le_of_ble_eq_true rfl) rfl ?_
  refine R_ic (n := 3) C dX11_pairsIn_2 ci_0 rfl ?_
  refine R_is3 (n := 4) C dX11_pairsIn_3 rfl (Nat.le_of_ble_eq_true rfl) rfl ?_
  exact outer (sN σ + 1) 0 none none none (by omega) (by omega)
set_option maxRecDepth 20000 in
set_option maxHeartbeats 4000000 in
theorem m_pairs (l : Launch) (D : va_G) (cA : Nat → ClassId) (r : Nat → Nat) {h : Hp} {G : GS} (R : RMo G h) (I : InvG G) : Cn l D cA yX11_pairs cX11_pairs 1 (some .int) 3 0 0 [.ref (r 73)] (LY r) h (pG (some (.int (aPairs G))) (LY r) (fun h' => RMo G h' ∧ FrM h h')) := by
  refine Cn.of (lv := [some (.ref (r 73))]) (by decide +kernel) (Nat.le_of_ble_eq_true rfl) rfl (fun X hnm C CR => ?_)
  refine R_al0 (n := 1) C dX11_pairs_0 rfl ?_
  refine R_al0 (n := 2) C dX11_pairs_1 rfl ?_
  refine M_callV (n := 5) C (c_mLookNow _ _ _ r R.1 I.1) mw_X11_lookNow ml_X11_211 iv_X11_lookNow dX11_pairs_2 rfl rfl rfl rfl (Nat.le_of_ble_eq_true rfl) ⟨Nat.le_of_ble_eq_true rfl, Nat.le_of_ble_eq_true rfl⟩ ⟨Nat.le_refl _, Nat.le_refl _⟩ rfl (pEs ?_)
  refine M_callV (n := 8) C (c_mPairsIn _ _ _ r R.1 I.1 (nuz_1024 I.1)) mw_X11_pairsIn ml_X11_275 iv_X11_pairsIn dX11_pairs_5 rfl rfl rfl rfl (Nat.le_of_ble_eq_true rfl) ⟨Nat.le_of_ble_eq_true rfl, Nat.le_of_ble_eq_true rfl⟩ ⟨Nat.le_refl _, Nat.le_refl _⟩ rfl (pEs ?_)
  refine R_iret C CR (Nat.zero_le _) (Nat.zero_le _) dX11_pairs_8 ?_
  exact ⟨rfl, rfl, R, FrM.rf⟩
set_option maxRecDepth 20000 in
set_option maxHeartbeats 4000000 in
theorem m_danced (l : Launch) (D : va_G) (cA : Nat → ClassId) (r : Nat → Nat) {h : Hp} {G : GS} (R : RMo G h) (I : InvG G) (v : Int32) : Cn l D cA yX11_danced cX11_danced 3 (some .int) 3 0 0 [.ref (r 73), .int v] (LY r) h (pG (some (.int (aDanced G v))) (LY r) (fun h' => RMo G h' ∧ FrM h h')) := by
  refine Cn.of (lv := [some (.ref (r 73)), some (.int v), none]) (by decide +kernel) (Nat.le_of_ble_eq_true rfl) rfl (fun X hnm C CR => ?_)
  have p10 := p2_10 I.1.n5
  refine R_il1 (n := 1) C dX11_danced_0 rfl ?_
  refine R_i2l (n := 2) C dX11_danced_1 rfl rfl ?_
  refine R_lc (n := 3) C dX11_danced_2 lc_1 rfl ?_
  refine R_ldc2 (n := 6) C dX11_danced_3 kl_X11_278 rfl ?_
  refine R_eql (y := lN 2) (by decide +kernel) ?_
  refine R_callS (n := 9) C (c_mIn _ _ _ r _ _ _) mw_X11_in ml_X11_104 sv_X11_in dX11_danced_6 rfl rfl (Nat.le_of_ble_eq_true rfl) ⟨Nat.le_of_ble_eq_true rfl, Nat.le_of_ble_eq_true rfl⟩ ⟨Nat.le_refl _, Nat.le_refl _⟩ rfl (pEs ?_)
  rw [winL_n (by decide) (by decide)]
  refine R_if_neB (tgt := 15) C dX11_danced_9 rfl rfl (fun c1 => ?_) (fun c1 => ?_)
  · obtain ⟨x, x1, x2, rfl⟩ := win_of (by decide) (by decide) c1
    have xc : cl (nI x) = x := nI_clamp (by omega)
    rw [aDanced, if_pos c1, xc] at CR
    have IB : BI (gS G) (bfG G) := bfz_ok I.1
    have l25 := lnZ_25 I.1
    obtain ⟨Z, hZ⟩ : ∃ Z, (bfG G).1.find? (fun y => decide (x ≤ prL y (lnZ (gS G) (sN (gS G))))) = Z := ⟨_, rfl⟩
    rw [ffz, hZ] at CR
    refine R_al0 (n := 16) C dX11_danced_15 rfl ?_
    refine R_al0 (n := 17) C dX11_danced_16 rfl ?_
    refine M_getI (n := 20) C fl_X11_98 dX11_danced_17 rfl rfl (mKn R.1) rfl ?_
    refine M_callV (n := 23) C (c_spread _ _ _ r R.1 I.1 I.1.kn) mw_X11_spread ml_X11_217 iv_X11_spread dX11_danced_20 rfl rfl rfl rfl (Nat.le_of_ble_eq_true rfl) ⟨Nat.le_of_ble_eq_true rfl, Nat.le_of_ble_eq_true rfl⟩ ⟨Nat.le_refl _, Nat.le_refl _⟩ rfl (pGv (fun h2 q2 => ?_))
    have W := R.t q2.2.t
    have E2 : RMB (bfG G) h2 := q2.1
    have R2 := q2.2.rm R.1
    have len := IB.len
    have loop : ∀ (m i : Nat), (bfG G).1.length < i + m → i ≤ (bfG G).1.length → Z = ((bfG G).1.drop i).find? (fun y => decide (x ≤ prL y (lnZ (gS G) (sN (gS G))))) → Rn X 0 0 25 [some (.ref (r 73)), some (.int (nI x)), some (.int (nI i))] [] (LY r) h2 := by
      intro m
      induction m with
      | zero => intro i a1 a2; omega
      | succ m ih =>
        intro i a1 a2 hz
        refine R_il2 (n := 26) C dX11_danced_25 rfl ?_
        refine R_al0 (n := 27) C dX11_danced_26 rfl ?_
        refine M_getI (n := 30) C fl_X11_208 dX11_danced_27 rfl rfl E2.1 rfl ?_
        refine R_icmp_geN (tgt := 65) C dX11_danced_30 rfl rfl (by omega) (by omega) (fun c2 => ?_) (fun c2 => ?_)
        · rw [List.drop_eq_nil_of_le (by omega)] at hz
          refine R_bp (n := 67) C dX11_danced_65 cb_m6 rfl ?_
          refine R_iret C CR (Nat.zero_le _) (Nat.zero_le _) dX11_danced_67 ?_
          exact ⟨by rw [hz]; rfl, rfl, W⟩
        · have e : (bfG G).1[i]? = some (bfG G).1[i] := List.getElem?_eq_getElem c2
          obtain ⟨y, hy⟩ : ∃ y, (bfG G).1[i] = y := ⟨_, rfl⟩
          rw [List.drop_eq_getElem_cons c2, hy, List.find?_cons] at hz
          rw [hy] at e
          have e22 := E2.2.1 i y e
          obtain ⟨y1, y2⟩ := IB.1 i y e
          have y10 : y < 1024 := by omega
          have ee : h2 88 y = nI ((bfG G).2.1 y - 1) := by rw [E2.2.2.1 y y10, fvI_pos y2]
          have pl := prL_len (l9 := y) (ln := lnZ (gS G) (sN (gS G)))
          refine R_al0 (n := 34) C dX11_danced_33 rfl ?_
          refine R_al0 (n := 35) C dX11_danced_34 rfl ?_
          refine M_getR (n := 38) C fl_X11_49 dX11_danced_35 rfl rfl rfl ?_
          refine R_il2 (n := 39) C dX11_danced_38 rfl ?_
          refine M_iald (n := 40) C dX11_danced_39 rfl (by omega) e22 rfl ?_
          refine M_callV (n := 43) C (c_mPairsIn _ _ _ r R2 I.1 y10) mw_X11_pairsIn ml_X11_275 iv_X11_pairsIn dX11_danced_40 rfl rfl rfl rfl (Nat.le_of_ble_eq_true rfl) ⟨Nat.le_of_ble_eq_true rfl, Nat.le_of_ble_eq_true rfl⟩ ⟨Nat.le_refl _, Nat.le_refl _⟩ rfl (pEs ?_)
          refine R_il1 (n := 44) C dX11_danced_43 rfl ?_
          refine R_icmp_ltN (tgt := 59) C dX11_danced_44 rfl rfl (by omega) (by omega) (fun c3 => ?_) (fun c3 => ?_)
          · rw [decide_eq_false (by omega)] at hz
            refine R_inc2 (n := 62) C dX11_danced_59 rfl (Nat.le_of_ble_eq_true rfl) (inc_1 _) rfl ?_
            refine R_goto (n := 25) C dX11_danced_62 rfl ?_
            exact ih (i + 1) (by omega) (by omega) hz
          · rw [decide_eq_true (by omega)] at hz
            refine R_al0 (n := 48) C dX11_danced_47 rfl ?_
            refine M_getR (n := 51) C fl_X11_52 dX11_danced_48 rfl rfl rfl ?_
            refine R_al0 (n := 52) C dX11_danced_51 rfl ?_
            refine M_getR (n := 55) C fl_X11_49 dX11_danced_52 rfl rfl rfl ?_
            refine R_il2 (n := 56) C dX11_danced_55 rfl ?_
            refine M_iald (n := 57) C dX11_danced_56 rfl (by omega) e22 rfl ?_
            refine M_iald (n := 58) C dX11_danced_57 rfl y10 ee rfl ?_
            refine R_iret C CR (Nat.zero_le _) (Nat.zero_le _) dX11_danced_58 ?_
            exact ⟨by rw [hz]; rfl, rfl, W⟩
    refine R_ic (n := 24) C dX11_danced_23 ci_0 rfl ?_
    refine R_is2 (n := 25) C dX11_danced_24 rfl (Nat.le_of_ble_eq_true rfl) rfl ?_
    exact loop ((bfG G).1.length + 1) 0 (by omega) (by omega) hZ.symm
  · refine R_bp (n := 14) C dX11_danced_12 cb_m2 rfl ?_
    refine R_iret C CR (Nat.zero_le _) (Nat.zero_le _) dX11_danced_14 ?_
    refine ⟨?_, rfl, R, FrM.rf⟩
    rw [aDanced, if_neg (by rw [c1]; decide)]
