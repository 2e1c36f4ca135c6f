theorem hrz_at {σ : WS} {w : Nat} {e : EV} : ∀ {n k : Nat}, ((hrz σ w n e).1 k, (hrz σ w n e).2.1 k) = if k < n then hq σ w k (e.1 k, e.2.1 k) else (e.1 k, e.2.1 k)
  | 0, k => by rw [if_neg (Nat.not_lt_zero _)]; rfl
  | n + 1, k => by
    have ih := hrz_at (σ := σ) (w := w) (e := e) (n := n) (k := k)
    have hs : hrz σ w (n + 1) e = hr1 σ w n (hrz σ w n e) := rfl
    rw [hs]
    obtain ⟨e', he⟩ : ∃ e', hrz σ w n e = e' := ⟨_, rfl⟩
    rw [he] at ih ⊢
    by_cases g : k = n
    · subst g
      rw [if_neg (Nat.lt_irrefl _)] at ih
      have i1 : e'.1 k = e.1 k := (Prod.mk.inj ih).1
      have i2 : e'.2.1 k = e.2.1 k := (Prod.mk.inj ih).2
      rw [if_pos (Nat.lt_succ_self _), hr1, hq, i1, i2]
      by_cases c : qz σ w k (e.1 k) ≤ e.2.1 k
      · rw [if_pos c, if_pos c]
        simp [updN]
      · rw [if_neg c, if_neg c]
        show (e'.1 k, e'.2.1 k) = _
        rw [i1, i2]
    · have : (if k < n + 1 then hq σ w k (e.1 k, e.2.1 k) else (e.1 k, e.2.1 k)) = (if k < n then hq σ w k (e.1 k, e.2.1 k) else (e.1 k, e.2.1 k)) := by
        by_cases c : k < n
        · rw [if_pos c, if_pos (by omega)]
        · rw [if_neg c, if_neg (by omega)]
      rw [this, ← ih, hr1]
      split
      · simp [updN, g]
      · rfl
def stQ (e : EV) : Nat → Nat × Nat := fun k => (e.1 k, e.2.1 k)
theorem alb_cong {p q : Nat → Bool} {n : Nat} (h : ∀ k, k < n → p k = q k) : alb p n = alb q n := by
  apply Bool.eq_iff_iff.mpr
  rw [alb_iff, alb_iff]
  exact ⟨fun g k hk => by rw [← h k hk]; exact g k hk, fun g k hk => by rw [h k hk]; exact g k hk⟩
theorem lkz_cong {σ : WS} {s b w : Nat} {la : Bool} {f g : Nat → Nat × Nat} (h : ∀ k, k < sN σ → f k = g k) : lkz σ s b la w f = lkz σ s b la w g := by
  have h' : ∀ k, k < sN σ → hrS σ w f k = hrS σ w g k := fun k hk => by
    show hq σ w k (f k) = hq σ w k (g k)
    rw [h k hk]
  exact congrArg (fun z => !la || z) (alb_cong (fun k hk => by rw [h' k hk]))
theorem mtz_cong {σ : WS} {W s b : Nat} : ∀ {m : Nat} {f g : Nat → Nat × Nat}, (∀ k, k < sN σ → f k = g k) → mtz σ W s b m f = mtz σ W s b m g
  | 0, _, _, _ => rfl
  | m + 1, f, g, h => by
    have h' : ∀ w k, k < sN σ → hrS σ w f k = hrS σ w g k := fun w k hk => by
      show hq σ w k (f k) = hq σ w k (g k)
      rw [h k hk]
    exact congrArg (fun z => !z) (alb_cong (fun w _ => by rw [lkz_cong h, mtz_cong (m := m) (h' w)]))
theorem wy_nm {f : Nat → Nat} : ∀ {n k : Nat}, (∀ j, j < n → f j < 4) → k < n → wy (nmz f n) k = f k
  | 0, k, _, h => absurd h (Nat.not_lt_zero _)
  | n + 1, k, h4, hk => by
    have lt := nmz_lt (f := f) (n := n) (fun j hj => h4 j (by omega))
    unfold wy nmz
    by_cases e : k = n
    · subst e
      rw [Nat.add_comm, Nat.mul_comm, Nat.mul_add_div (p2_pos _), Nat.div_eq_of_lt lt, Nat.add_zero]
      exact Nat.mod_eq_of_lt (h4 k (by omega))
    · have ih := wy_nm (f := f) (n := n) (k := k) (fun j hj => h4 j (by omega)) (by omega)
      unfold wy at ih
      rw [show 2 * n = 2 * k + 2 + (2 * n - 2 * k - 2) by omega, Nat.pow_add, Nat.pow_add]
      have : nmz f n + f n * (2 ^ (2 * k) * 2 ^ 2 * 2 ^ (2 * n - 2 * k - 2)) = nmz f n + 2 ^ (2 * k) * (4 * (f n * 2 ^ (2 * n - 2 * k - 2))) := by
        congr 1
        rw [Nat.mul_assoc (2 ^ (2 * k)), Nat.mul_left_comm (f n), Nat.mul_left_comm (f n)]
      rw [this, Nat.add_mul_div_left _ _ (p2_pos _), Nat.add_mul_mod_self_left]
      exact ih
def abM (σ : WS) (W s b : Nat) : Nat → Nat → EV → Bool
  | 0, _, e => soS (sN σ) s (nmz e.1 (sN σ)) b
  | m + 1, x, e => W.testBit (x % 6) && abM σ W s b m (x / 6) (hrz σ (x % 6) (sN σ) e)
theorem so_E {σ : WS} {s b : Nat} {e : EV} (O : EOk σ e) (n5 : sN σ ≤ 5) : soS (sN σ) s (nmz e.1 (sN σ)) b = alb (fun k => !s.testBit k || decide (e.1 k = wy b k)) (sN σ) := by
  unfold soS
  exact alb_cong (fun k hk => by rw [wy_nm (fun j hj => (O j (by omega)).1) hk])
theorem mtz_iff {σ : WS} {W s b m : Nat} {f : Nat → Nat × Nat} : mtz σ W s b (m + 1) f = true ↔ ∃ w, w < 6 ∧ W.testBit w = true ∧ lkz σ s b (decide (m = 0)) w f = true ∧ mtz σ W s b m (hrS σ w f) = true := by
  show (!alb (fun w => !(W.testBit w && (lkz σ s b (decide (m = 0)) w f && mtz σ W s b m (hrS σ w f)))) 6) = true ↔ _
  rw [Bool.not_eq_true', ← Bool.not_eq_true, alb_iff]
  constructor
  · intro h
    apply Classical.byContradiction
    intro q
    apply h
    intro w hw
    cases g1 : W.testBit w with
    | false => rfl
    | true =>
      cases g2 : lkz σ s b (decide (m = 0)) w f with
      | false => rfl
      | true =>
        cases g3 : mtz σ W s b m (hrS σ w f) with
        | false => rfl
        | true => exact absurd ⟨w, hw, g1, g2, g3⟩ q
  · rintro ⟨w, hw, g1, g2, g3⟩ h
    have := h w hw
    rw [g1, g2, g3] at this
    cases this
theorem mtz_ab {σ : WS} {W s b : Nat} (n5 : sN σ ≤ 5) : ∀ {m : Nat} {e : EV}, EOk σ e → (mtz σ W s b (m + 1) (stQ e) = true ↔ ∃ x, x < 6 ^ (m + 1) ∧ abM σ W s b (m + 1) x e = true)
  | 0, e, O => by
    rw [mtz_iff]
    have key : ∀ w, lkz σ s b (decide (0 = 0)) w (stQ e) = soS (sN σ) s (nmz (hrz σ w (sN σ) e).1 (sN σ)) b := by
      intro w
      rw [so_E (hrz_ok O (Nat.le_refl _)) n5, lkz, decide_eq_true rfl, Bool.not_true, Bool.false_or]
      refine alb_cong (fun k hk => ?_)
      have := hrz_at (σ := σ) (w := w) (e := e) (n := sN σ) (k := k)
      rw [if_pos hk] at this
      show (!s.testBit k || decide ((hq σ w k (e.1 k, e.2.1 k)).1 = wy b k)) = _
      rw [← this]
    constructor
    · rintro ⟨w, hw, g1, g2, _⟩
      refine ⟨w, by omega, ?_⟩
      rw [abM, abM, Nat.mod_eq_of_lt hw, g1, ← key w, g2]
      rfl
    · rintro ⟨x, hx, g⟩
      have hx6 : x < 6 := by omega
      rw [abM, abM, Nat.mod_eq_of_lt hx6, ← key x, Bool.and_eq_true] at g
      exact ⟨x, hx6, g.1, g.2, rfl⟩
  | m + 1, e, O => by
    rw [mtz_iff]
    have cg : ∀ w, mtz σ W s b (m + 1) (hrS σ w (stQ e)) = mtz σ W s b (m + 1) (stQ (hrz σ w (sN σ) e)) := by
      intro w
      refine mtz_cong (fun k hk => ?_)
      have := hrz_at (σ := σ) (w := w) (e := e) (n := sN σ) (k := k)
      rw [if_pos hk] at this
      show hq σ w k (e.1 k, e.2.1 k) = _
      rw [← this]
      rfl
    have lk : ∀ w, lkz σ s b (decide (m + 1 = 0)) w (stQ e) = true := by
      intro w
      rw [lkz, decide_eq_false (by omega)]
      rfl
    have ih := fun w => mtz_ab n5 (m := m) (W := W) (s := s) (b := b) (hrz_ok (w := w) O (Nat.le_refl (sN σ)))
    constructor
    · rintro ⟨w, hw, g1, _, g3⟩
      rw [cg w, ih w] at g3
      obtain ⟨x, hx, gx⟩ := g3
      refine ⟨6 * x + w, ?_, ?_⟩
      · rw [Nat.pow_succ] at hx ⊢
        rw [Nat.pow_succ]
        omega
      · rw [abM, show (6 * x + w) % 6 = w by omega, show (6 * x + w) / 6 = x by omega, g1, gx]
        rfl
    · rintro ⟨x, hx, g⟩
      rw [abM, Bool.and_eq_true] at g
      refine ⟨x % 6, Nat.mod_lt _ (by decide), g.1, lk _, ?_⟩
      rw [cg, ih]
      refine ⟨x / 6, ?_, g.2⟩
      rw [Nat.pow_succ] at hx
      exact Nat.div_lt_of_lt_mul (by rw [Nat.mul_comm]; exact hx)
abbrev BA : List Nat := 74 :: 75 :: 85 :: 86 :: []
def Bk (h g : Hp) : Prop := FrA BA VS h g ∧ ∀ k, k < 5 → g 74 k = h 74 k ∧ g 75 k = h 75 k
theorem Bk.rf {h : Hp} : Bk h h := ⟨FrA.rf, fun _ _ => ⟨rfl, rfl⟩⟩
theorem Bk.tr {h1 h2 h3 : Hp} (F : Bk h1 h2) (G : Bk h2 h3) : Bk h1 h3 := ⟨F.1.tr G.1, fun k hk => ⟨(G.2 k hk).1.trans (F.2 k hk).1, (G.2 k hk).2.trans (F.2 k hk).2⟩⟩
theorem Bk.rm {h g : Hp} {σ : WS} (B : Bk h g) (R : RM σ h) : RM σ g := by
  refine ⟨by rw [B.1.2 0 (by decide)]; exact R.1, by rw [B.1.2 6 (by decide)]; exact R.2.1, by rw [B.1.2 11 (by decide)]; exact R.2.2.1, fun j k hj hk => ?_⟩
  by_cases e0 : j = 0
  · subst e0
    rw [show 74 + 0 = 74 from rfl, (B.2 k hk).1]
    exact R.2.2.2 0 k hj hk
  · by_cases e1 : j = 1
    · subst e1
      rw [show 74 + 1 = 75 from rfl, (B.2 k hk).2]
      exact R.2.2.2 1 k hj hk
    · rw [B.1.1 (74 + j) (by omega) (by simp; omega)]
      exact R.2.2.2 j k hj hk
set_option maxRecDepth 20000 in
set_option maxHeartbeats 4000000 in
theorem c_mIsAbleBy (l : Launch) (D : va_G) (cA : Nat → ClassId) (r : Nat → Nat) {h : Hp} {σ : WS} (R : RM σ h) (I : Inv σ) {x n s b : Nat} (hx : x < 2 ^ 31) (hn : n < 10) (hs : s < 32) (hb : b < 1024) : Cn l D cA yX11_isAbleBy cX11_isAbleBy 8 (some .boolean) 2 0 0 [.ref (r 73), .int (nI x), .int (nI n), .int (nI s), .int (nI b)] (LY r) h (pG (some (.int (bI (abM σ (sKn σ) s b n x (ev0 σ))))) (LY r) (Bk h)) := by
  refine Cn.of (lv := [some (.ref (r 73)), some (.int (nI x)), some (.int (nI n)), some (.int (nI s)), some (.int (nI b)), none, none, none]) (by decide +kernel) (Nat.le_of_ble_eq_true rfl) rfl (fun X hnm C CR => ?_)
  have n5 := I.n5
  obtain ⟨Z, hZ⟩ : ∃ Z, abM σ (sKn σ) s b n x (ev0 σ) = Z := ⟨_, rfl⟩
  rw [hZ] at CR
  refine R_al0 (n := 1) C dX11_isAbleBy_0 rfl ?_
  refine M_callV (n := 4) C (c_mKeepNow _ _ _ r) mw_X11_keepNow ml_X11_195 iv_X11_keepNow dX11_isAbleBy_1 rfl rfl rfl rfl (Nat.le_of_ble_eq_true rfl) ⟨Nat.le_of_ble_eq_true rfl, Nat.le_of_ble_eq_true rfl⟩ ⟨Nat.le_refl _, Nat.le_refl _⟩ rfl (pGv (fun h1 q1 => ?_))
  have R1 := q1.2.rm R (by decide) (by decide)
  obtain ⟨ot, hot⟩ : ∃ ot : Int32 × Int32 × Int32, ot = (h1 73 16, h1 73 18, h1 73 17) := ⟨_, rfl⟩
  have fin : ∀ (g : Hp) (q : Bool) (lf : Nat) (kb : Bool) (o7 : Option Value), Z = q → FrA BA VS h g → (∀ k, k < 5 → g 85 k = h 74 k ∧ g 86 k = h 75 k) → Rn X 0 0 94 [some (.ref (r 73)), some (.int (nI x)), some (.int (nI n)), some (.int (nI s)), some (.int (nI b)), some (.int (nI lf)), some (.int (bI kb)), o7] [.int (bI q)] (LY r) g := by
    intro g q lf kb o7 hq F B
    refine R_is7 (n := 96) C dX11_isAbleBy_94 rfl (Nat.le_of_ble_eq_true rfl) rfl ?_
    refine R_al0 (n := 97) C dX11_isAbleBy_96 rfl ?_
    refine M_callV (n := 100) C (c_mPutBack _ _ _ r) mw_X11_putBack ml_X11_201 iv_X11_putBack dX11_isAbleBy_97 rfl rfl rfl rfl (Nat.le_of_ble_eq_true rfl) ⟨Nat.le_of_ble_eq_true rfl, Nat.le_of_ble_eq_true rfl⟩ ⟨Nat.le_refl _, Nat.le_refl _⟩ rfl (pGv (fun h4 q4 => ?_))
    refine R_il7 (n := 102) C dX11_isAbleBy_100 rfl ?_
    refine R_zretB C CR (Nat.zero_le _) (Nat.zero_le _) dX11_isAbleBy_102 ?_
    exact ⟨by rw [hq], rfl, F.tr (q4.2.mono (by decide) (by decide)), fun k hk => by rw [(q4.1 k hk).1, (q4.1 k hk).2]; exact B k hk⟩
  have loop : ∀ (m i : Nat) (lf : Nat) (kb : Bool) (e : EV) (g : Hp), i + m = n → lf < 2 ^ 31 → (kb = true → Z = abM σ (sKn σ) s b m lf e) → (kb = false → Z = false) → REM ot σ e g → EOk σ e → FrA BA VS h g → (∀ k, k < 5 → g 85 k = h 74 k ∧ g 86 k = h 75 k) → Rn X 0 0 13 [some (.ref (r 73)), some (.int (nI x)), some (.int (nI n)), some (.int (nI s)), some (.int (nI b)), some (.int (nI lf)), some (.int (bI kb)), some (.int (nI i))] [] (LY r) g := by
    intro m
    induction m with
    | zero =>
      intro i lf kb e g a1 a2 z1 z2 E O F B
      refine R_il7 (n := 15) C dX11_isAbleBy_13 rfl ?_
      refine R_il2 (n := 16) C dX11_isAbleBy_15 rfl ?_
      refine R_icmp_geN (tgt := 70) C dX11_isAbleBy_16 rfl rfl (by omega) (by omega) (fun c1 => ?_) (fun c1 => ?_)
      · have nu : nmz e.1 (sN σ) < 1024 := Nat.lt_of_lt_of_le (nmz_lt (fun k hk => (O k (by omega)).1)) (p2_10 n5)
        have no : Z = false → Rn X 0 0 93 [some (.ref (r 73)), some (.int (nI x)), some (.int (nI n)), some (.int (nI s)), some (.int (nI b)), some (.int (nI lf)), some (.int (bI kb)), some (.int (nI i))] [] (LY r) g := by
          intro z
          refine R_ic (n := 94) C dX11_isAbleBy_93 ci_0 rfl ?_
          exact fin g false lf kb _ z F B
        refine R_il6 (n := 72) C dX11_isAbleBy_70 rfl ?_
        refine R_if_eqB (tgt := 93) C dX11_isAbleBy_72 rfl rfl (fun c2 => ?_) (fun c2 => ?_)
        · exact no (z2 c2)
        · have zz := z1 c2
          refine R_al0 (n := 76) C dX11_isAbleBy_75 rfl ?_
          refine R_al0 (n := 77) C dX11_isAbleBy_76 rfl ?_
          refine M_callV (n := 80) C (c_mLookNow _ _ _ r E.1 (dnz_inv I O)) mw_X11_lookNow ml_X11_211 iv_X11_lookNow dX11_isAbleBy_77 rfl rfl rfl rfl (Nat.le_of_ble_eq_true rfl) ⟨Nat.le_of_ble_eq_true rfl, Nat.le_of_ble_eq_true rfl⟩ ⟨Nat.le_refl _, Nat.le_refl _⟩ rfl (pEs ?_)
          rw [nuz_dn n5]
          refine R_il3 (n := 81) C dX11_isAbleBy_80 rfl ?_
          refine R_il4 (n := 83) C dX11_isAbleBy_81 rfl ?_
          refine M_callV (n := 86) C (c_mIsSo _ _ _ r E.1 (dnz_inv I O) nu hs hb) mw_X11_isSo ml_X11_226 iv_X11_isSo dX11_isAbleBy_83 rfl rfl rfl rfl (Nat.le_of_ble_eq_true rfl) ⟨Nat.le_of_ble_eq_true rfl, Nat.le_of_ble_eq_true rfl⟩ ⟨Nat.le_refl _, Nat.le_refl _⟩ rfl (pEs ?_)
          rw [show soS (sN (dnz σ e)) s (nmz e.1 (sN σ)) b = abM σ (sKn σ) s b 0 lf e from rfl, ← zz]
          refine R_if_eqB (tgt := 93) C dX11_isAbleBy_86 rfl rfl (fun c3 => ?_) (fun c3 => ?_)
          · exact no c3
          · refine R_ic (n := 90) C dX11_isAbleBy_89 ci_1 rfl ?_
            refine R_goto (n := 94) C dX11_isAbleBy_90 rfl ?_
            exact fin g true lf kb _ c3 F B
      · omega
    | succ m ih =>
      intro i lf kb e g a1 a2 z1 z2 E O F B
      have w6 : lf % 6 < 6 := Nat.mod_lt _ (by decide)
      have nx : ∀ (kb2 : Bool) (e2 : EV) (g2 : Hp), (kb2 = true → Z = abM σ (sKn σ) s b m (lf / 6) e2) → (kb2 = false → Z = false) → REM ot σ e2 g2 → EOk σ e2 → FrA BA VS h g2 → (∀ k, k < 5 → g2 85 k = h 74 k ∧ g2 86 k = h 75 k) → Rn X 0 0 57 [some (.ref (r 73)), some (.int (nI x)), some (.int (nI n)), some (.int (nI s)), some (.int (nI b)), some (.int (nI lf)), some (.int (bI kb2)), some (.int (nI i))] [] (LY r) g2 := by
        intro kb2 e2 g2 y1 y2 E2 O2 F2 B2
        refine R_il5 (n := 59) C dX11_isAbleBy_57 rfl ?_
        refine R_bp (n := 61) C dX11_isAbleBy_59 cb_6 rfl ?_
        refine R_idivN (n := 62) C dX11_isAbleBy_61 (by omega) (by omega) (by omega) rfl ?_
        refine R_is5 (n := 64) C dX11_isAbleBy_62 rfl (Nat.le_of_ble_eq_true rfl) rfl ?_
        refine R_inc7 (n := 67) C dX11_isAbleBy_64 rfl (Nat.le_of_ble_eq_true rfl) (inc_1 _) rfl ?_
        refine R_goto (n := 13) C dX11_isAbleBy_67 rfl ?_
        exact ih (i + 1) (lf / 6) kb2 e2 g2 (by omega) (by omega) y1 y2 E2 O2 F2 B2
      have no : Z = false → Rn X 0 0 40 [some (.ref (r 73)), some (.int (nI x)), some (.int (nI n)), some (.int (nI s)), some (.int (nI b)), some (.int (nI lf)), some (.int (bI kb)), some (.int (nI i))] [] (LY r) g := by
        intro z
        refine R_ic (n := 41) C dX11_isAbleBy_40 ci_0 rfl ?_
        refine R_eq (y := bI false) rfl ?_
        refine R_is6 (n := 43) C dX11_isAbleBy_41 rfl (Nat.le_of_ble_eq_true rfl) rfl ?_
        refine R_il6 (n := 45) C dX11_isAbleBy_43 rfl ?_
        refine R_if_eqB (tgt := 57) C dX11_isAbleBy_45 rfl rfl (fun d1 => ?_) (fun d1 => ?_)
        · exact nx false e g (fun q => by cases q) (fun _ => z) E O F B
        · cases d1
      refine R_il7 (n := 15) C dX11_isAbleBy_13 rfl ?_
      refine R_il2 (n := 16) C dX11_isAbleBy_15 rfl ?_
      refine R_icmp_geN (tgt := 70) C dX11_isAbleBy_16 rfl rfl (by omega) (by omega) (fun c1 => ?_) (fun c1 => ?_)
      · omega
      · refine R_il6 (n := 21) C dX11_isAbleBy_19 rfl ?_
        refine R_if_eqB (tgt := 40) C dX11_isAbleBy_21 rfl rfl (fun c2 => ?_) (fun c2 => ?_)
        · exact no (z2 c2)
        · have zz := z1 c2
          rw [abM] at zz
          refine R_al0 (n := 25) C dX11_isAbleBy_24 rfl ?_
          refine R_il5 (n := 27) C dX11_isAbleBy_25 rfl ?_
          refine R_bp (n := 29) C dX11_isAbleBy_27 cb_6 rfl ?_
          refine R_iremN (n := 30) C dX11_isAbleBy_29 (by omega) (by omega) (by omega) rfl ?_
          refine M_callV (n := 33) C (c_mIsKnown _ _ _ r E.1 (dnz_inv I O) _) mw_X11_isKnown ml_X11_155 iv_X11_isKnown dX11_isAbleBy_30 rfl rfl rfl rfl (Nat.le_of_ble_eq_true rfl) ⟨Nat.le_of_ble_eq_true rfl, Nat.le_of_ble_eq_true rfl⟩ ⟨Nat.le_refl _, Nat.le_refl _⟩ rfl (pEs ?_)
          rw [show sKn (dnz σ e) = sKn σ from rfl, kwz_n w6]
          refine R_if_eqB (tgt := 40) C dX11_isAbleBy_33 rfl rfl (fun c3 => ?_) (fun c3 => ?_)
          · exact no (by rw [zz, c3, Bool.false_and])
          · rw [c3, Bool.true_and] at zz
            refine R_ic (n := 37) C dX11_isAbleBy_36 ci_1 rfl ?_
            refine R_goto (n := 41) C dX11_isAbleBy_37 rfl ?_
            refine R_eq (y := bI true) rfl ?_
            refine R_is6 (n := 43) C dX11_isAbleBy_41 rfl (Nat.le_of_ble_eq_true rfl) rfl ?_
            refine R_il6 (n := 45) C dX11_isAbleBy_43 rfl ?_
            refine R_if_eqB (tgt := 57) C dX11_isAbleBy_45 rfl rfl (fun d1 => ?_) (fun d1 => ?_)
            · cases d1
            · refine R_al0 (n := 49) C dX11_isAbleBy_48 rfl ?_
              refine R_il5 (n := 51) C dX11_isAbleBy_49 rfl ?_
              refine R_bp (n := 53) C dX11_isAbleBy_51 cb_6 rfl ?_
              refine R_iremN (n := 54) C dX11_isAbleBy_53 (by omega) (by omega) (by omega) rfl ?_
              refine M_callV (n := 57) C (c_mSayWord _ _ _ r E I O w6) mw_X11_sayWord ml_X11_171 iv_X11_sayWord dX11_isAbleBy_54 rfl rfl rfl rfl (Nat.le_of_ble_eq_true rfl) ⟨Nat.le_of_ble_eq_true rfl, Nat.le_of_ble_eq_true rfl⟩ ⟨Nat.le_refl _, Nat.le_refl _⟩ rfl (pGv (fun g2 q2 => ?_))
              exact nx true _ g2 (fun _ => zz) (fun q => by cases q) q2.1 (hrz_ok O (Nat.le_refl _)) (F.tr (q2.2.mono (by decide) (by decide))) (fun k hk => by rw [q2.2.1 85 (by decide) (by decide), q2.2.1 86 (by decide) (by decide)]; exact B k hk)
  refine R_il1 (n := 5) C dX11_isAbleBy_4 rfl ?_
  refine R_is5 (n := 7) C dX11_isAbleBy_5 rfl (Nat.le_of_ble_eq_true rfl) rfl ?_
  refine R_ic (n := 8) C dX11_isAbleBy_7 ci_1 rfl ?_
  refine R_is6 (n := 10) C dX11_isAbleBy_8 rfl (Nat.le_of_ble_eq_true rfl) rfl ?_
  refine R_ic (n := 11) C dX11_isAbleBy_10 ci_0 rfl ?_
  refine R_is7 (n := 13) C dX11_isAbleBy_11 rfl (Nat.le_of_ble_eq_true rfl) rfl ?_
  exact loop n 0 x true (ev0 σ) h1 (by omega) hx (fun _ => hZ.symm) (fun q => by cases q) (REM.start R1 (by rw [hot]) (by rw [hot]) (by rw [hot])) (ev0_ok I) (q1.2.mono (by decide) (by decide)) q1.1
