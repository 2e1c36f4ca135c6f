def fnd (σ : WS) (W s b n : Nat) : Bool := exb (fun x => abM σ W s b n x (ev0 σ)) (6 ^ n)
theorem fnd_s {σ : WS} (J : Inv σ) {W s b m : Nat} : fnd σ W s b (m + 1) = mtz σ W s b (m + 1) (st0 σ) := by
  apply Bool.eq_iff_iff.mpr
  rw [fnd, exb_iff]
  exact (mtz_ab J.n5 (ev0_ok J)).symm
theorem fnd_0 {σ : WS} {W s b : Nat} : fnd σ W s b 0 = soS (sN σ) s (nuz σ) b := by
  unfold fnd exb
  show ([0].any fun x => abM σ W s b 0 x (ev0 σ)) = _
  simp [abM]
  rfl
theorem abz_eq {σ : WS} (J : Inv σ) {s b : Nat} : abz σ s b = fwI ((List.range 6).find? (fnd σ (sKn σ) s b)) := by
  have fc : (List.range 6).find? (fnd σ (sKn σ) s b) = match fnd σ (sKn σ) s b 0 with
    | true => some 0
    | false => [1, 2, 3, 4, 5].find? (fnd σ (sKn σ) s b) := List.find?_cons
  rw [fc, fnd_0]
  unfold abz
  cases e : soS (sN σ) s (nuz σ) b with
  | true => rfl
  | false =>
    rw [if_neg (by decide)]
    have : ∀ m ∈ [1, 2, 3, 4, 5], mtz σ (sKn σ) s b m (st0 σ) = fnd σ (sKn σ) s b m := by
      intro m hm
      obtain ⟨k, rfl⟩ : ∃ k, m = k + 1 := ⟨m - 1, by simp at hm; omega⟩
      exact (fnd_s J).symm
    simp only [List.find?_cons, List.find?_nil]
    rw [this 1 (by decide), this 2 (by decide), this 3 (by decide), this 4 (by decide), this 5 (by decide)]
theorem Bk.mo {G : GS} {h g : Hp} (B : Bk h g) (R : RMo G h) : RMo G g ∧ FrM h g := R.back (B.1.mono (by decide) (by decide)) B.2
set_option maxRecDepth 20000 in
set_option maxHeartbeats 4000000 in
theorem m_able (l : Launch) (D : va_G) (cA : Nat → ClassId) (r : Nat → Nat) {h : Hp} {G : GS} (R : RMo G h) (I : InvG G) (sv bv : Int32) : Cn l D cA yX11_able cX11_able 6 (some .int) 3 0 0 [.ref (r 73), .int sv, .int bv] (LY r) h (pG (some (.int (aAble G sv bv))) (LY r) (fun h' => RMo G h' ∧ FrM h h')) := by
  refine Cn.of (lv := [some (.ref (r 73)), some (.int sv), some (.int bv), none, none, none]) (by decide +kernel) (Nat.le_of_ble_eq_true rfl) rfl (fun X hnm C CR => ?_)
  have p10 := p2_10 I.1.n5
  have p5 := p2_5 I.1.n5
  have out : okA (gS G) sv bv = false → Rn X 0 0 16 [some (.ref (r 73)), some (.int sv), some (.int bv), none, none, none] [] (LY r) h := by
    intro c
    rw [aAble, if_neg (by rw [c]; decide)] at CR
    refine R_bp (n := 18) C dX11_able_16 cb_m2 rfl ?_
    refine R_iret C CR (Nat.zero_le _) (Nat.zero_le _) dX11_able_18 ?_
    exact ⟨rfl, rfl, R, FrM.rf⟩
  refine R_al0 (n := 1) C dX11_able_0 rfl ?_
  refine R_il1 (n := 2) C dX11_able_1 rfl ?_
  refine M_callV (n := 5) C (c_mIsSet _ _ _ r R.1 I.1 _) mw_X11_isSet ml_X11_230 iv_X11_isSet dX11_able_2 rfl rfl rfl rfl (Nat.le_of_ble_eq_true rfl) ⟨Nat.le_of_ble_eq_true rfl, Nat.le_of_ble_eq_true rfl⟩ ⟨Nat.le_refl _, Nat.le_refl _⟩ rfl (pEs ?_)
  refine R_if_eqB (tgt := 16) C dX11_able_5 rfl rfl (fun c1 => ?_) (fun c1 => ?_)
  · exact out (by rw [okA, c1, Bool.false_and])
  · refine R_al0 (n := 9) C dX11_able_8 rfl ?_
    refine R_il2 (n := 10) C dX11_able_9 rfl ?_
    refine M_callV (n := 13) C (c_mIsNumber _ _ _ r R.1 I.1 _) mw_X11_isNumber ml_X11_223 iv_X11_isNumber dX11_able_10 rfl rfl rfl rfl (Nat.le_of_ble_eq_true rfl) ⟨Nat.le_of_ble_eq_true rfl, Nat.le_of_ble_eq_true rfl⟩ ⟨Nat.le_refl _, Nat.le_refl _⟩ rfl (pEs ?_)
    refine R_if_neB (tgt := 19) C dX11_able_13 rfl rfl (fun c2 => ?_) (fun c2 => ?_)
    · have c3 : okA (gS G) sv bv = true := by rw [okA, c1, c2]; rfl
      clear out c1 c2
      obtain ⟨s, b, s1, b1, rfl, rfl, sc, bc⟩ := okA_of I.1 c3
      rw [aAble, if_pos c3, sc, bc, abz_eq I.1] at CR
      obtain ⟨Z, hZ⟩ : ∃ Z, (List.range 6).find? (fnd (gS G) (sKn (gS G)) s b) = Z := ⟨_, rfl⟩
      rw [hZ] at CR
      have pw : ∀ n, n ≤ 5 → 6 ^ n ≤ 7776 := fun n hn => Nat.pow_le_pow_right (n := 6) (by decide) hn
      have outer : ∀ (m n : Nat) (g : Hp) (o5 : Option Value), 6 = n + m → Z = ((List.range 6).drop n).find? (fnd (gS G) (sKn (gS G)) s b) → Bk h g → Rn X 0 0 24 [some (.ref (r 73)), some (.int (nI s)), some (.int (nI b)), some (.int (nI (6 ^ n))), some (.int (nI n)), o5] [] (LY r) g := by
        intro m
        induction m with
        | zero =>
          intro n g o5 a1 hz B
          obtain rfl : n = 6 := by omega
          refine R_il4 (n := 26) C dX11_able_24 rfl ?_
          refine R_ic (n := 27) C dX11_able_26 ci_5 rfl ?_
          refine R_icmp_gtN (tgt := 72) C dX11_able_27 rfl rfl (by omega) (by omega) (fun d1 => ?_) (fun d1 => ?_)
          · refine R_bp (n := 74) C dX11_able_72 cb_m6 rfl ?_
            refine R_iret C CR (Nat.zero_le _) (Nat.zero_le _) dX11_able_74 ?_
            exact ⟨by rw [hz]; rfl, rfl, B.mo R⟩
          · omega
        | succ m ih =>
          intro n g o5 a1 hz B
          have n5 : n ≤ 5 := by omega
          have p6 := pw n n5
          rw [List.drop_eq_getElem_cons (by simp; omega), List.getElem_range, List.find?_cons] at hz
          refine R_il4 (n := 26) C dX11_able_24 rfl ?_
          refine R_ic (n := 27) C dX11_able_26 ci_5 rfl ?_
          refine R_icmp_gtN (tgt := 72) C dX11_able_27 rfl rfl (by omega) (by omega) (fun d1 => ?_) (fun d1 => ?_)
          · omega
          · have inner : ∀ (t x : Nat) (g : Hp), 6 ^ n < x + t → x ≤ 6 ^ n → (∀ y, y < x → abM (gS G) (sKn (gS G)) s b n y (ev0 (gS G)) = false) → Bk h g → Rn X 0 0 33 [some (.ref (r 73)), some (.int (nI s)), some (.int (nI b)), some (.int (nI (6 ^ n))), some (.int (nI n)), some (.int (nI x))] [] (LY r) g := by
              intro t
              induction t with
              | zero => intro x g a1 a2; omega
              | succ t iht =>
                intro x g b1' b2' P B
                refine R_il5 (n := 35) C dX11_able_33 rfl ?_
                refine R_il3 (n := 36) C dX11_able_35 rfl ?_
                refine R_icmp_geN (tgt := 61) C dX11_able_36 rfl rfl (by omega) (by omega) (fun e1 => ?_) (fun e1 => ?_)
                · have f0 : fnd (gS G) (sKn (gS G)) s b n = false := by
                    rw [fnd]
                    exact exb_f (fun y hy => P y (by omega))
                  rw [f0] at hz
                  refine R_il3 (n := 62) C dX11_able_61 rfl ?_
                  refine R_bp (n := 64) C dX11_able_62 cb_6 rfl ?_
                  refine R_imulN (n := 65) C dX11_able_64 rfl ?_
                  refine R_is3 (n := 66) C dX11_able_65 rfl (Nat.le_of_ble_eq_true rfl) rfl ?_
                  refine R_inc4 (n := 69) C dX11_able_66 rfl (Nat.le_of_ble_eq_true rfl) (inc_1 _) rfl ?_
                  refine R_goto (n := 24) C dX11_able_69 rfl ?_
                  rw [← Nat.pow_succ]
                  exact ih (n + 1) g _ (by omega) hz B
                · refine R_al0 (n := 40) C dX11_able_39 rfl ?_
                  refine R_il5 (n := 42) C dX11_able_40 rfl ?_
                  refine R_il4 (n := 44) C dX11_able_42 rfl ?_
                  refine R_il1 (n := 45) C dX11_able_44 rfl ?_
                  refine R_il2 (n := 46) C dX11_able_45 rfl ?_
                  refine M_callV (n := 49) C (c_mIsAbleBy _ _ _ r (B.rm R.1) I.1 (by omega) (by omega) (by omega) (by omega)) mw_X11_isAbleBy ml_X11_240 iv_X11_isAbleBy dX11_able_46 rfl rfl rfl rfl (Nat.le_of_ble_eq_true rfl) ⟨Nat.le_of_ble_eq_true rfl, Nat.le_of_ble_eq_true rfl⟩ ⟨Nat.le_refl _, Nat.le_refl _⟩ rfl (pGs (fun g2 q2 => ?_))
                  refine R_if_eqB (tgt := 55) C dX11_able_49 rfl rfl (fun e2 => ?_) (fun e2 => ?_)
                  · refine R_inc5 (n := 58) C dX11_able_55 rfl (Nat.le_of_ble_eq_true rfl) (inc_1 _) rfl ?_
                    refine R_goto (n := 33) C dX11_able_58 rfl ?_
                    refine iht (x + 1) g2 (by omega) (by omega) (fun y hy => ?_) (B.tr q2)
                    by_cases e : y = x
                    · rw [e]; exact e2
                    · exact P y (by omega)
                  · have f1 : fnd (gS G) (sKn (gS G)) s b n = true := by
                      rw [fnd]
                      exact exb_t e1 e2
                    rw [f1] at hz
                    refine R_il4 (n := 54) C dX11_able_52 rfl ?_
                    refine R_iret C CR (Nat.zero_le _) (Nat.zero_le _) dX11_able_54 ?_
                    exact ⟨by rw [hz]; rfl, rfl, (B.tr q2).mo R⟩
            refine R_ic (n := 31) C dX11_able_30 ci_0 rfl ?_
            refine R_is5 (n := 33) C dX11_able_31 rfl (Nat.le_of_ble_eq_true rfl) rfl ?_
            exact inner (6 ^ n + 1) 0 g (by omega) (Nat.zero_le _) (fun y hy => absurd hy (Nat.not_lt_zero y)) B
      refine R_ic (n := 20) C dX11_able_19 ci_1 rfl ?_
      refine R_is3 (n := 21) C dX11_able_20 rfl (Nat.le_of_ble_eq_true rfl) rfl ?_
      refine R_ic (n := 22) C dX11_able_21 ci_0 rfl ?_
      refine R_is4 (n := 24) C dX11_able_22 rfl (Nat.le_of_ble_eq_true rfl) rfl ?_
      exact outer 6 0 h none (by omega) hZ.symm Bk.rf
    · exact out (by rw [okA, c2, Bool.and_false])
