abbrev TW : Type := (Nat → Nat → Nat) × (Nat → Nat → Nat)
def tnx (σ : WS) (k w x : Nat) : Nat := tz σ k w (qz σ x k w)
def twn (σ : WS) (k ws : Nat) (W : Nat → Nat → Nat) (w s : Nat) (x : Nat) : Bool := ws.testBit x && decide (W (tnx σ k w x) (1 - s) = s)
def tls (σ : WS) (k ws : Nat) (W : Nat → Nat → Nat) (w s : Nat) (x : Nat) : Bool := !ws.testBit x || decide (W (tnx σ k w x) (1 - s) = 1 - s)
def tst (σ : WS) (k w0 w1 n : Nat) (T : TW) : TW :=
  (fun w s => if T.1 w s = 2 then (if exb (twn σ k (if s = 0 then w0 else w1) T.1 w s) 6 then s else if alb (tls σ k (if s = 0 then w0 else w1) T.1 w s) 6 then 1 - s else 2) else T.1 w s,
   fun w s => if T.1 w s = 2 then (if exb (twn σ k (if s = 0 then w0 else w1) T.1 w s) 6 || alb (tls σ k (if s = 0 then w0 else w1) T.1 w s) 6 then n else T.2 w s) else T.2 w s)
def tw0 (a b : Nat) : TW := (fun w _ => if w = a then 0 else if w = b then 1 else 2, fun _ _ => 0)
def twz (σ : WS) (k w0 w1 a b : Nat) : Nat → TW
  | 0 => tw0 a b
  | n + 1 => tst σ k w0 w1 (n + 1) (twz σ k w0 w1 a b n)
theorem twz_ok {σ : WS} {k w0 w1 a b : Nat} : ∀ (n w s : Nat), s < 2 → (twz σ k w0 w1 a b n).1 w s ≤ 2 ∧ (twz σ k w0 w1 a b n).2 w s ≤ n ∧ ((twz σ k w0 w1 a b n).1 w s = 2 → (twz σ k w0 w1 a b n).2 w s = 0)
  | 0, w, s, _ => by
    refine ⟨?_, Nat.le_refl _, fun _ => rfl⟩
    show (if w = a then 0 else if w = b then 1 else 2) ≤ 2
    split
    · decide
    · split <;> decide
  | n + 1, w, s, hs => by
    have h := twz_ok (σ := σ) (k := k) (w0 := w0) (w1 := w1) (a := a) (b := b) n w s hs
    unfold twz
    generalize twz σ k w0 w1 a b n = T at h ⊢
    unfold tst
    simp only
    by_cases e : T.1 w s = 2
    · rw [if_pos e, if_pos e]
      have h0 := h.2.2 e
      cases e1 : exb (twn σ k (if s = 0 then w0 else w1) T.1 w s) 6 with
      | true =>
        simp only [if_true, Bool.true_or]
        exact ⟨by omega, by omega, fun q => by omega⟩
      | false =>
        cases e2 : alb (tls σ k (if s = 0 then w0 else w1) T.1 w s) 6 with
        | true =>
          simp only [Bool.false_eq_true, if_false, if_true, Bool.or_true]
          exact ⟨by omega, by omega, fun q => by omega⟩
        | false =>
          simp only [Bool.false_eq_true, if_false, Bool.or_self]
          exact ⟨by omega, by omega, fun _ => h0⟩
    · rw [if_neg e, if_neg e]
      exact ⟨h.1, by omega, fun q => absurd q e⟩
def b2n (b : Bool) : Nat := if b then 1 else 0
theorem exb_s {p : Nat → Bool} {n : Nat} : exb p (n + 1) = (exb p n || p n) := by
  unfold exb
  rw [List.range_succ, List.any_append]
  simp
theorem alb_s {p : Nat → Bool} {n : Nat} : alb p (n + 1) = (alb p n && p n) := by
  unfold alb
  rw [List.range_succ, List.all_append]
  simp
theorem b2n_or (a b : Bool) : b2n a ||| b2n b = b2n (a || b) := by cases a <;> cases b <;> rfl
theorem b2n_and (a b : Bool) : b2n a &&& b2n b = b2n (a && b) := by cases a <;> cases b <;> rfl
theorem b2n_0 {b : Bool} : b2n b = 0 ↔ b = false := by cases b <;> decide
theorem b2n_lt (b : Bool) : b2n b < 2 := by cases b <;> decide
theorem tnx_lt {σ : WS} {k w x : Nat} : tnx σ k w x < 4 := tz_lt
def Mix (T : TW) (n : Nat) (Wm Bm : Nat → Nat → Nat) : Prop := ∀ w s, s < 2 → (Wm w s = T.1 w s ∧ Bm w s = T.2 w s) ∨ (T.1 w s = 2 ∧ Wm w s ≤ 2 ∧ Bm w s = n)
theorem Mix.un {T : TW} {n : Nat} {Wm Bm : Nat → Nat → Nat} (M : Mix T n Wm Bm) (hT : ∀ w s, s < 2 → T.1 w s ≤ 2 ∧ T.2 w s < n) {w s : Nat} (hs : s < 2) : (Wm w s = 2 ∨ n ≤ Bm w s → T.1 w s = 2) ∧ (¬ Wm w s = 2 → Bm w s < n → Wm w s = T.1 w s) := by
  have h1 := hT w s hs
  rcases M w s hs with ⟨e1, e2⟩ | ⟨e1, e2, e3⟩
  · exact ⟨fun q => by omega, fun _ _ => e1⟩
  · exact ⟨fun _ => e1, fun _ q => by omega⟩
def RT (Wm Bm : Nat → Nat → Nat) (h : Hp) : Prop := ∀ q, q < 8 → h 45 q = nI (Wm (q % 4) (q / 4)) ∧ h 46 q = nI (Bm (q % 4) (q / 4))
def up3 (f : Nat → Nat → Nat) (w s v : Nat) : Nat → Nat → Nat := fun a b => if a = w ∧ b = s then v else f a b
set_option maxRecDepth 20000 in
set_option maxHeartbeats 4000000 in
theorem c_settlePlace (l : Launch) (D : va_G) (cA : Nat → ClassId) (r : Nat → Nat) {h : Hp} {σ : WS} (R : RW 1 σ h) (I : Inv σ) {k ws n w s : Nat} {T : TW} {Wm Bm : Nat → Nat → Nat} (hk : k < 5) (hws : ws < 64) (hn : n ≤ 8) (hw : w < 4) (hs : s < 2) (hT : ∀ w s, s < 2 → T.1 w s ≤ 2 ∧ T.2 w s < n) (M : Mix T n Wm Bm) (E : RT Wm Bm h) : Cn l D cA yX0_settlePlace cX0_settlePlace 13 none 1 0 0 [.ref (r 44), .ref (r 1), .int (nI k), .int (nI ws), .int (nI (w + 4 * s)), .int (nI n)] (LY r) h (pG none (LY r) (fun h' => RT (if exb (twn σ k ws T.1 w s) 6 || alb (tls σ k ws T.1 w s) 6 then up3 Wm w s (if exb (twn σ k ws T.1 w s) 6 then s else 1 - s) else Wm) (if exb (twn σ k ws T.1 w s) 6 || alb (tls σ k ws T.1 w s) 6 then up3 Bm w s n else Bm) h' ∧ FrS h h')) := by
  refine Cn.of (lv := [some (.ref (r 44)), some (.ref (r 1)), some (.int (nI k)), some (.int (nI ws)), some (.int (nI (w + 4 * s))), some (.int (nI n)), none, none, none, none, none, none, none]) (by decide +kernel) (Nat.le_of_ble_eq_true rfl) rfl (fun X hnm C CR => ?_)
  have ed : (w + 4 * s) / 4 = s := by omega
  have em : (w + 4 * s) % 4 = w := by omega
  have loop : ∀ (m i : Nat) (o11 o12 : Option Value), 6 < i + m → i ≤ 6 → Rn X 0 0 21 [some (.ref (r 44)), some (.ref (r 1)), some (.int (nI k)), some (.int (nI ws)), some (.int (nI (w + 4 * s))), some (.int (nI n)), some (.int (nI s)), some (.int (nI w)), some (.int (nI (b2n (exb (twn σ k ws T.1 w s) i)))), some (.int (nI (b2n (alb (tls σ k ws T.1 w s) i)))), some (.int (nI i)), o11, o12] [] (LY r) h := by
    intro m
    induction m with
    | zero => intro i o11 o12 a1 a2; omega
    | succ m ih =>
      intro i o11 o12 a1 a2
      have bw := b2n_lt (exb (twn σ k ws T.1 w s) i)
      have bl := b2n_lt (alb (tls σ k ws T.1 w s) i)
      refine R_il10 (n := 23) C dX0_settlePlace_21 rfl ?_
      refine R_bp (n := 25) C dX0_settlePlace_23 cb_6 rfl ?_
      refine R_icmp_geN (tgt := 154) C dX0_settlePlace_25 rfl rfl (by omega) (by omega) (fun c1 => ?_) (fun c1 => ?_)
      · obtain rfl : i = 6 := by omega
        have fin : ∀ v : Nat, (exb (twn σ k ws T.1 w s) 6 || alb (tls σ k ws T.1 w s) 6) = true → v = (if exb (twn σ k ws T.1 w s) 6 then s else 1 - s) → Rn X 0 0 184 [some (.ref (r 44)), some (.ref (r 1)), some (.int (nI k)), some (.int (nI ws)), some (.int (nI (w + 4 * s))), some (.int (nI n)), some (.int (nI s)), some (.int (nI w)), some (.int (nI (b2n (exb (twn σ k ws T.1 w s) 6)))), some (.int (nI (b2n (alb (tls σ k ws T.1 w s) 6)))), some (.int (nI 6)), o11, o12] [.int (nI v), .int (nI (w + 4 * s)), .ref (r 45)] (LY r) h := by
          intro v q1 q2
          rw [q1, if_pos rfl, if_pos rfl] at CR
          refine M_iast (n := 185) C dX0_settlePlace_184 rfl (by omega) rfl ?_
          refine R_al0 (n := 186) C dX0_settlePlace_185 rfl ?_
          refine M_getR (n := 189) C fl_X0_15 dX0_settlePlace_186 rfl rfl rfl ?_
          refine R_il4 (n := 191) C dX0_settlePlace_189 rfl ?_
          refine R_il5 (n := 193) C dX0_settlePlace_191 rfl ?_
          refine M_iast (n := 194) C dX0_settlePlace_193 rfl (by omega) rfl ?_
          refine R_vret C CR (Nat.zero_le _) (Nat.zero_le _) dX0_settlePlace_194 ?_
          refine ⟨rfl, rfl, fun q hq => ⟨?_, ?_⟩, (FrS.rf.up (by decide) (by decide)).up (by decide) (by decide)⟩
          · rw [up2_row (by decide), up2_at]
            simp only [up3]
            by_cases e : q = w + 4 * s
            · subst e
              rw [if_pos rfl, em, ed, if_pos ⟨rfl, rfl⟩, q2]
            · rw [if_neg e, if_neg (by omega)]
              exact (E q hq).1
          · rw [up2_at]
            simp only [up3]
            by_cases e : q = w + 4 * s
            · subst e
              rw [if_pos rfl, em, ed, if_pos ⟨rfl, rfl⟩]
            · rw [if_neg e, if_neg (by omega), up2_row (by decide)]
              exact (E q hq).2
        have go : (exb (twn σ k ws T.1 w s) 6 || alb (tls σ k ws T.1 w s) 6) = true → Rn X 0 0 164 [some (.ref (r 44)), some (.ref (r 1)), some (.int (nI k)), some (.int (nI ws)), some (.int (nI (w + 4 * s))), some (.int (nI n)), some (.int (nI s)), some (.int (nI w)), some (.int (nI (b2n (exb (twn σ k ws T.1 w s) 6)))), some (.int (nI (b2n (alb (tls σ k ws T.1 w s) 6)))), some (.int (nI 6)), o11, o12] [] (LY r) h := by
          intro q
          refine R_al0 (n := 165) C dX0_settlePlace_164 rfl ?_
          refine M_getR (n := 168) C fl_X0_9 dX0_settlePlace_165 rfl rfl rfl ?_
          refine R_il4 (n := 170) C dX0_settlePlace_168 rfl ?_
          refine R_il8 (n := 172) C dX0_settlePlace_170 rfl ?_
          refine R_if_eqN (tgt := 180) C dX0_settlePlace_172 rfl rfl (by omega) (fun c3 => ?_) (fun c3 => ?_)
          · rw [b2n_0] at c3
            refine R_ic (n := 181) C dX0_settlePlace_180 ci_1 rfl ?_
            refine R_il6 (n := 183) C dX0_settlePlace_181 rfl ?_
            refine R_isubN (n := 184) C dX0_settlePlace_183 (by omega) rfl ?_
            exact fin _ q (by rw [c3]; rfl)
          · refine R_il6 (n := 177) C dX0_settlePlace_175 rfl ?_
            refine R_goto (n := 184) C dX0_settlePlace_177 rfl ?_
            exact fin _ q (by
              have : exb (twn σ k ws T.1 w s) 6 = true := by
                cases e : exb (twn σ k ws T.1 w s) 6 with
                | true => rfl
                | false => exact absurd (b2n_0.mpr e) c3
              rw [this]; rfl)
        refine R_il8 (n := 156) C dX0_settlePlace_154 rfl ?_
        refine R_if_neN (tgt := 164) C dX0_settlePlace_156 rfl rfl (by omega) (fun c2 => ?_) (fun c2 => ?_)
        · refine go ?_
          have : exb (twn σ k ws T.1 w s) 6 = true := by
            cases e : exb (twn σ k ws T.1 w s) 6 with
            | true => rfl
            | false => exact absurd (b2n_0.mpr e) c2
          rw [this]; rfl
        · rw [b2n_0] at c2
          refine R_il9 (n := 161) C dX0_settlePlace_159 rfl ?_
          refine R_if_eqN (tgt := 194) C dX0_settlePlace_161 rfl rfl (by omega) (fun c3 => ?_) (fun c3 => ?_)
          · rw [b2n_0] at c3
            rw [c2, c3] at CR
            refine R_vret C CR (Nat.zero_le _) (Nat.zero_le _) dX0_settlePlace_194 ?_
            exact ⟨rfl, rfl, E, FrS.rf⟩
          · refine go ?_
            have : alb (tls σ k ws T.1 w s) 6 = true := by
              cases e : alb (tls σ k ws T.1 w s) 6 with
              | true => rfl
              | false => exact absurd (b2n_0.mpr e) c3
            rw [this, Bool.or_true]
      · have next : ∀ (wv lv : Nat) (o1 o2 : Option Value), wv = b2n (exb (twn σ k ws T.1 w s) (i + 1)) → lv = b2n (alb (tls σ k ws T.1 w s) (i + 1)) → Rn X 0 0 148 [some (.ref (r 44)), some (.ref (r 1)), some (.int (nI k)), some (.int (nI ws)), some (.int (nI (w + 4 * s))), some (.int (nI n)), some (.int (nI s)), some (.int (nI w)), some (.int (nI wv)), some (.int (nI lv)), some (.int (nI i)), o1, o2] [] (LY r) h := by
          intro wv lv o1 o2 e1 e2
          refine R_inc10 (n := 151) C dX0_settlePlace_148 rfl (Nat.le_of_ble_eq_true rfl) (inc_1 _) rfl ?_
          refine R_goto (n := 21) C dX0_settlePlace_151 rfl ?_
          rw [e1, e2]
          exact ih (i + 1) _ _ (by omega) (by omega)
        rw [exb_s, alb_s] at next
        refine R_il3 (n := 29) C dX0_settlePlace_28 rfl ?_
        refine R_il10 (n := 31) C dX0_settlePlace_29 rfl ?_
        refine R_callSN (n := 34) C (c_isIn _ _ _ r (by omega) (by omega)) mw_X10_isIn mn_X0_22 sv_X10_isIn dX0_settlePlace_31 rfl rfl (Nat.le_of_ble_eq_true rfl) ⟨Nat.le_of_ble_eq_true rfl, Nat.le_of_ble_eq_true rfl⟩ ⟨Nat.le_refl _, Nat.le_refl _⟩ rfl (pEs ?_)
        refine R_if_eqB (tgt := 148) C dX0_settlePlace_34 rfl rfl (fun c2 => ?_) (fun c2 => ?_)
        · refine next _ _ _ _ ?_ ?_
          · simp only [twn, c2, Bool.false_and, Bool.or_false]
          · simp only [tls, c2, Bool.not_false, Bool.true_or, Bool.and_true]
        · obtain ⟨t, ht⟩ : ∃ t, tnx σ k w i = t := ⟨_, rfl⟩
          have t4 : t < 4 := by rw [← ht]; exact tnx_lt
          have q4 := qz_le I (l := w) (show i < 6 by omega) hk
          refine R_al1 (n := 38) C dX0_settlePlace_37 rfl ?_
          refine R_il2 (n := 39) C dX0_settlePlace_38 rfl ?_
          refine R_il7 (n := 41) C dX0_settlePlace_39 rfl ?_
          refine R_al1 (n := 42) C dX0_settlePlace_41 rfl ?_
          refine R_il10 (n := 44) C dX0_settlePlace_42 rfl ?_
          refine R_il2 (n := 45) C dX0_settlePlace_44 rfl ?_
          refine R_il7 (n := 47) C dX0_settlePlace_45 rfl ?_
          refine M_callV (n := 50) C (c_quarters _ _ _ r R I (by omega) hk hw) mw_X9_quarters ml_X0_26 iv_X9_quarters dX0_settlePlace_47 rfl rfl rfl rfl (Nat.le_of_ble_eq_true rfl) ⟨Nat.le_of_ble_eq_true rfl, Nat.le_of_ble_eq_true rfl⟩ ⟨Nat.le_refl _, Nat.le_refl _⟩ rfl (pEs ?_)
          refine M_callV (n := 53) C (c_turned _ _ _ r R I hk hw q4) mw_X9_turned ml_X0_32 iv_X9_turned dX0_settlePlace_50 rfl rfl rfl rfl (Nat.le_of_ble_eq_true rfl) ⟨Nat.le_of_ble_eq_true rfl, Nat.le_of_ble_eq_true rfl⟩ ⟨Nat.le_refl _, Nat.le_refl _⟩ rfl (pEs ?_)
          refine R_eq (y := nI t) (by rw [← ht]; rfl) ?_
          refine R_ic (n := 54) C dX0_settlePlace_53 ci_4 rfl ?_
          refine R_ic (n := 55) C dX0_settlePlace_54 ci_1 rfl ?_
          refine R_il6 (n := 57) C dX0_settlePlace_55 rfl ?_
          refine R_isubN (n := 58) C dX0_settlePlace_57 (by omega) rfl ?_
          refine R_imulN (n := 59) C dX0_settlePlace_58 rfl ?_
          refine R_iaddN (n := 60) C dX0_settlePlace_59 rfl ?_
          refine R_is11 (n := 62) C dX0_settlePlace_60 rfl (Nat.le_of_ble_eq_true rfl) rfl ?_
          have q8 : t + 4 * (1 - s) < 8 := by omega
          have em2 : (t + 4 * (1 - s)) % 4 = t := by omega
          have ed2 : (t + 4 * (1 - s)) / 4 = 1 - s := by omega
          have E2 := E _ q8
          rw [em2, ed2] at E2
          have Mu := M.un hT (w := t) (s := 1 - s) (by omega)
          have Wb : Wm t (1 - s) ≤ 2 := by
            rcases M t (1 - s) (by omega) with ⟨e1, _⟩ | ⟨_, e2, _⟩
            · rw [e1]; exact (hT t (1 - s) (by omega)).1
            · exact e2
          have Bb : Bm t (1 - s) ≤ 8 := by
            rcases M t (1 - s) (by omega) with ⟨_, e2⟩ | ⟨_, _, e3⟩
            · rw [e2]; have := (hT t (1 - s) (by omega)).2; omega
            · omega
          have uns : T.1 t (1 - s) = 2 → Rn X 0 0 89 [some (.ref (r 44)), some (.ref (r 1)), some (.int (nI k)), some (.int (nI ws)), some (.int (nI (w + 4 * s))), some (.int (nI n)), some (.int (nI s)), some (.int (nI w)), some (.int (nI (b2n (exb (twn σ k ws T.1 w s) i)))), some (.int (nI (b2n (alb (tls σ k ws T.1 w s) i)))), some (.int (nI i)), some (.int (nI (t + 4 * (1 - s)))), o12] [] (LY r) h := by
            intro u
            refine R_ic (n := 90) C dX0_settlePlace_89 ci_0 rfl ?_
            refine R_is12 (n := 92) C dX0_settlePlace_90 rfl (Nat.le_of_ble_eq_true rfl) rfl ?_
            refine R_il8 (n := 94) C dX0_settlePlace_92 rfl ?_
            refine R_il12 (n := 96) C dX0_settlePlace_94 rfl ?_
            refine R_if_eqN (tgt := 115) C dX0_settlePlace_96 rfl rfl (by omega) (fun d1 => ?_) (fun d1 => ?_)
            · refine R_ic (n := 116) C dX0_settlePlace_115 ci_0 rfl ?_
              refine R_iorN (n := 117) C dX0_settlePlace_116 rfl ?_
              refine R_is8 (n := 119) C dX0_settlePlace_117 rfl (Nat.le_of_ble_eq_true rfl) rfl ?_
              refine R_il9 (n := 121) C dX0_settlePlace_119 rfl ?_
              refine R_il12 (n := 123) C dX0_settlePlace_121 rfl ?_
              refine R_if_eqN (tgt := 144) C dX0_settlePlace_123 rfl rfl (by omega) (fun d2 => ?_) (fun d2 => ?_)
              · refine R_ic (n := 145) C dX0_settlePlace_144 ci_0 rfl ?_
                refine R_iandN (n := 146) C dX0_settlePlace_145 rfl ?_
                refine R_is9 (n := 148) C dX0_settlePlace_146 rfl (Nat.le_of_ble_eq_true rfl) rfl ?_
                refine next _ _ _ _ ?_ ?_
                · rw [show twn σ k ws T.1 w s i = false by rw [twn, ht, u, decide_eq_false (by omega), Bool.and_false]]
                  show b2n _ ||| b2n false = _
                  rw [b2n_or]
                · rw [show tls σ k ws T.1 w s i = false by rw [tls, ht, u, c2, decide_eq_false (by omega)]; rfl]
                  show b2n _ &&& b2n false = _
                  rw [b2n_and]
              · omega
            · omega
          refine R_al0 (n := 63) C dX0_settlePlace_62 rfl ?_
          refine M_getR (n := 66) C fl_X0_9 dX0_settlePlace_63 rfl rfl rfl ?_
          refine R_il11 (n := 68) C dX0_settlePlace_66 rfl ?_
          refine M_iald (n := 69) C dX0_settlePlace_68 rfl q8 E2.1 rfl ?_
          refine R_ic (n := 70) C dX0_settlePlace_69 ci_2 rfl ?_
          refine R_icmp_eqN (tgt := 89) C dX0_settlePlace_70 rfl rfl (by omega) (by omega) (fun c3 => ?_) (fun c3 => ?_)
          · exact uns (Mu.1 (Or.inl c3))
          · refine R_al0 (n := 74) C dX0_settlePlace_73 rfl ?_
            refine M_getR (n := 77) C fl_X0_15 dX0_settlePlace_74 rfl rfl rfl ?_
            refine R_il11 (n := 79) C dX0_settlePlace_77 rfl ?_
            refine M_iald (n := 80) C dX0_settlePlace_79 rfl q8 E2.2 rfl ?_
            refine R_il5 (n := 82) C dX0_settlePlace_80 rfl ?_
            refine R_icmp_geN (tgt := 89) C dX0_settlePlace_82 rfl rfl (by omega) (by omega) (fun c4 => ?_) (fun c4 => ?_)
            · exact uns (Mu.1 (Or.inr c4))
            · have u := Mu.2 c3 c4
              rw [u] at E2 Wb c3
              refine R_ic (n := 86) C dX0_settlePlace_85 ci_1 rfl ?_
              refine R_goto (n := 90) C dX0_settlePlace_86 rfl ?_
              refine R_is12 (n := 92) C dX0_settlePlace_90 rfl (Nat.le_of_ble_eq_true rfl) rfl ?_
              refine R_il8 (n := 94) C dX0_settlePlace_92 rfl ?_
              refine R_il12 (n := 96) C dX0_settlePlace_94 rfl ?_
              refine R_if_eqN (tgt := 115) C dX0_settlePlace_96 rfl rfl (by omega) (fun d1 => ?_) (fun d1 => ?_)
              · omega
              · refine R_al0 (n := 100) C dX0_settlePlace_99 rfl ?_
                refine M_getR (n := 103) C fl_X0_9 dX0_settlePlace_100 rfl rfl rfl ?_
                refine R_il11 (n := 105) C dX0_settlePlace_103 rfl ?_
                refine M_iald (n := 106) C dX0_settlePlace_105 rfl q8 E2.1 rfl ?_
                refine R_il6 (n := 108) C dX0_settlePlace_106 rfl ?_
                refine R_icmp_neN (tgt := 115) C dX0_settlePlace_108 rfl rfl (by omega) (by omega) (fun d2 => ?_) (fun d2 => ?_)
                · have f1 : twn σ k ws T.1 w s i = false := by rw [twn, ht, decide_eq_false d2, Bool.and_false]
                  have f2 : tls σ k ws T.1 w s i = true := by rw [tls, ht, decide_eq_true (by omega), Bool.or_true]
                  refine R_ic (n := 116) C dX0_settlePlace_115 ci_0 rfl ?_
                  refine R_iorN (n := 117) C dX0_settlePlace_116 rfl ?_
                  refine R_is8 (n := 119) C dX0_settlePlace_117 rfl (Nat.le_of_ble_eq_true rfl) rfl ?_
                  refine R_il9 (n := 121) C dX0_settlePlace_119 rfl ?_
                  refine R_il12 (n := 123) C dX0_settlePlace_121 rfl ?_
                  refine R_if_eqN (tgt := 144) C dX0_settlePlace_123 rfl rfl (by omega) (fun d3 => ?_) (fun d3 => ?_)
                  · omega
                  · refine R_al0 (n := 127) C dX0_settlePlace_126 rfl ?_
                    refine M_getR (n := 130) C fl_X0_9 dX0_settlePlace_127 rfl rfl rfl ?_
                    refine R_il11 (n := 132) C dX0_settlePlace_130 rfl ?_
                    refine M_iald (n := 133) C dX0_settlePlace_132 rfl q8 E2.1 rfl ?_
                    refine R_ic (n := 134) C dX0_settlePlace_133 ci_1 rfl ?_
                    refine R_il6 (n := 136) C dX0_settlePlace_134 rfl ?_
                    refine R_isubN (n := 137) C dX0_settlePlace_136 (by omega) rfl ?_
                    refine R_icmp_neN (tgt := 144) C dX0_settlePlace_137 rfl rfl (by omega) (by omega) (fun d4 => ?_) (fun d4 => ?_)
                    · omega
                    · refine R_ic (n := 141) C dX0_settlePlace_140 ci_1 rfl ?_
                      refine R_goto (n := 145) C dX0_settlePlace_141 rfl ?_
                      refine R_iandN (n := 146) C dX0_settlePlace_145 rfl ?_
                      refine R_is9 (n := 148) C dX0_settlePlace_146 rfl (Nat.le_of_ble_eq_true rfl) rfl ?_
                      refine next _ _ _ _ ?_ ?_
                      · rw [f1]
                        show b2n _ ||| b2n false = _
                        rw [b2n_or]
                      · rw [f2]
                        show b2n _ &&& b2n true = _
                        rw [b2n_and]
                · have f1 : twn σ k ws T.1 w s i = true := by rw [twn, ht, decide_eq_true d2, c2]; rfl
                  have f2 : tls σ k ws T.1 w s i = false := by rw [tls, ht, decide_eq_false (by omega), c2]; rfl
                  refine R_ic (n := 112) C dX0_settlePlace_111 ci_1 rfl ?_
                  refine R_goto (n := 116) C dX0_settlePlace_112 rfl ?_
                  refine R_iorN (n := 117) C dX0_settlePlace_116 rfl ?_
                  refine R_is8 (n := 119) C dX0_settlePlace_117 rfl (Nat.le_of_ble_eq_true rfl) rfl ?_
                  refine R_il9 (n := 121) C dX0_settlePlace_119 rfl ?_
                  refine R_il12 (n := 123) C dX0_settlePlace_121 rfl ?_
                  refine R_if_eqN (tgt := 144) C dX0_settlePlace_123 rfl rfl (by omega) (fun d3 => ?_) (fun d3 => ?_)
                  · omega
                  · refine R_al0 (n := 127) C dX0_settlePlace_126 rfl ?_
                    refine M_getR (n := 130) C fl_X0_9 dX0_settlePlace_127 rfl rfl rfl ?_
                    refine R_il11 (n := 132) C dX0_settlePlace_130 rfl ?_
                    refine M_iald (n := 133) C dX0_settlePlace_132 rfl q8 E2.1 rfl ?_
                    refine R_ic (n := 134) C dX0_settlePlace_133 ci_1 rfl ?_
                    refine R_il6 (n := 136) C dX0_settlePlace_134 rfl ?_
                    refine R_isubN (n := 137) C dX0_settlePlace_136 (by omega) rfl ?_
                    refine R_icmp_neN (tgt := 144) C dX0_settlePlace_137 rfl rfl (by omega) (by omega) (fun d4 => ?_) (fun d4 => ?_)
                    · refine R_ic (n := 145) C dX0_settlePlace_144 ci_0 rfl ?_
                      refine R_iandN (n := 146) C dX0_settlePlace_145 rfl ?_
                      refine R_is9 (n := 148) C dX0_settlePlace_146 rfl (Nat.le_of_ble_eq_true rfl) rfl ?_
                      refine next _ _ _ _ ?_ ?_
                      · rw [f1]
                        show b2n _ ||| b2n true = _
                        rw [b2n_or]
                      · rw [f2]
                        show b2n _ &&& b2n false = _
                        rw [b2n_and]
                    · omega
  refine R_il4 (n := 2) C dX0_settlePlace_0 rfl ?_
  refine R_ic (n := 3) C dX0_settlePlace_2 ci_4 rfl ?_
  refine R_idivN (n := 4) C dX0_settlePlace_3 (by omega) (by omega) (by omega) rfl ?_
  refine R_eq (y := nI s) (by rw [ed]) ?_
  refine R_is6 (n := 6) C dX0_settlePlace_4 rfl (Nat.le_of_ble_eq_true rfl) rfl ?_
  refine R_il4 (n := 8) C dX0_settlePlace_6 rfl ?_
  refine R_ic (n := 9) C dX0_settlePlace_8 ci_3 rfl ?_
  refine R_iandN (n := 10) C dX0_settlePlace_9 rfl ?_
  refine R_eq (y := nI w) (by rw [and3, em]) ?_
  refine R_is7 (n := 12) C dX0_settlePlace_10 rfl (Nat.le_of_ble_eq_true rfl) rfl ?_
  refine R_ic (n := 13) C dX0_settlePlace_12 ci_0 rfl ?_
  refine R_is8 (n := 15) C dX0_settlePlace_13 rfl (Nat.le_of_ble_eq_true rfl) rfl ?_
  refine R_ic (n := 16) C dX0_settlePlace_15 ci_1 rfl ?_
  refine R_is9 (n := 18) C dX0_settlePlace_16 rfl (Nat.le_of_ble_eq_true rfl) rfl ?_
  refine R_ic (n := 19) C dX0_settlePlace_18 ci_0 rfl ?_
  refine R_is10 (n := 21) C dX0_settlePlace_19 rfl (Nat.le_of_ble_eq_true rfl) rfl ?_
  exact loop 7 0 none none (by omega) (by omega)
theorem Mix.start {T : TW} {n : Nat} : Mix T n T.1 T.2 := fun _ _ _ => Or.inl ⟨rfl, rfl⟩
theorem tst_at {σ : WS} {k w0 w1 n : Nat} {T : TW} {w s : Nat} : (tst σ k w0 w1 n T).1 w s = (if T.1 w s = 2 then (if exb (twn σ k (if s = 0 then w0 else w1) T.1 w s) 6 then s else if alb (tls σ k (if s = 0 then w0 else w1) T.1 w s) 6 then 1 - s else 2) else T.1 w s) ∧ (tst σ k w0 w1 n T).2 w s = (if T.1 w s = 2 then (if exb (twn σ k (if s = 0 then w0 else w1) T.1 w s) 6 || alb (tls σ k (if s = 0 then w0 else w1) T.1 w s) 6 then n else T.2 w s) else T.2 w s) := ⟨rfl, rfl⟩
set_option maxRecDepth 20000 in
set_option maxHeartbeats 4000000 in
theorem c_settle (l : Launch) (D : va_G) (cA : Nat → ClassId) (r : Nat → Nat) {h : Hp} {σ : WS} (R : RW 1 σ h) (I : Inv σ) {k a b w0 w1 : Nat} (hk : k < 5) (ha : a < 4) (hb : b < 4) (h0 : w0 < 64) (h1 : w1 < 64) : Cn l D cA yX0_settle cX0_settle 9 none 2 0 0 [.ref (r 44), .ref (r 1), .int (nI k), .int (nI a), .int (nI b), .int (nI w0), .int (nI w1)] (LY r) h (pG none (LY r) (fun h' => RT (twz σ k w0 w1 a b 8).1 (twz σ k w0 w1 a b 8).2 h' ∧ FrS h h')) := by
  refine Cn.of (lv := [some (.ref (r 44)), some (.ref (r 1)), some (.int (nI k)), some (.int (nI a)), some (.int (nI b)), some (.int (nI w0)), some (.int (nI w1)), none, none]) (by decide +kernel) (Nat.le_of_ble_eq_true rfl) rfl (fun X hnm C CR => ?_)
  have inner : ∀ (n : Nat), 1 ≤ n → n ≤ 8 → (∀ h2 : Hp, RT (twz σ k w0 w1 a b n).1 (twz σ k w0 w1 a b n).2 h2 → FrS h h2 → Rn X 0 0 119 [some (.ref (r 44)), some (.ref (r 1)), some (.int (nI k)), some (.int (nI a)), some (.int (nI b)), some (.int (nI w0)), some (.int (nI w1)), some (.int (nI n)), some (.int (nI 8))] [] (LY r) h2) → ∀ (m p : Nat) (hh : Hp) (Wm Bm : Nat → Nat → Nat), 8 < p + m → p ≤ 8 → RT Wm Bm hh → FrS h hh → (∀ q, q < 8 → (q < p → Wm (q % 4) (q / 4) = (twz σ k w0 w1 a b n).1 (q % 4) (q / 4) ∧ Bm (q % 4) (q / 4) = (twz σ k w0 w1 a b n).2 (q % 4) (q / 4)) ∧ (p ≤ q → Wm (q % 4) (q / 4) = (twz σ k w0 w1 a b (n - 1)).1 (q % 4) (q / 4) ∧ Bm (q % 4) (q / 4) = (twz σ k w0 w1 a b (n - 1)).2 (q % 4) (q / 4))) → Rn X 0 0 72 [some (.ref (r 44)), some (.ref (r 1)), some (.int (nI k)), some (.int (nI a)), some (.int (nI b)), some (.int (nI w0)), some (.int (nI w1)), some (.int (nI n)), some (.int (nI p))] [] (LY r) hh := by
    intro n n1 n8 out m
    obtain ⟨n', rfl⟩ : ∃ n', n = n' + 1 := ⟨n - 1, by omega⟩
    simp only [Nat.add_sub_cancel]
    obtain ⟨T, hT⟩ : ∃ T, twz σ k w0 w1 a b n' = T := ⟨_, rfl⟩
    have hT2 : twz σ k w0 w1 a b (n' + 1) = tst σ k w0 w1 (n' + 1) T := by rw [← hT]; rfl
    have Tok : ∀ w s, s < 2 → T.1 w s ≤ 2 ∧ T.2 w s < n' + 1 := fun w s hs => by
      have := twz_ok (σ := σ) (k := k) (w0 := w0) (w1 := w1) (a := a) (b := b) n' w s hs
      rw [hT] at this
      exact ⟨this.1, by omega⟩
    have Tun : ∀ w s, s < 2 → T.1 w s = 2 → T.2 w s = 0 := fun w s hs => by
      have := twz_ok (σ := σ) (k := k) (w0 := w0) (w1 := w1) (a := a) (b := b) n' w s hs
      rw [hT] at this
      exact this.2.2
    rw [hT2] at out
    rw [hT2, hT]
    induction m with
    | zero => intro p hh Wm Bm a1 a2; omega
    | succ m ih =>
      intro p hh Wm Bm a1 a2 E F P
      have R1 := F.rw R
      refine R_il8 (n := 74) C dX0_settle_72 rfl ?_
      refine R_bp (n := 76) C dX0_settle_74 cb_8 rfl ?_
      refine R_icmp_geN (tgt := 119) C dX0_settle_76 rfl rfl (by omega) (by omega) (fun c1 => ?_) (fun c1 => ?_)
      · obtain rfl : p = 8 := by omega
        exact out hh (fun q hq => by rw [← ((P q hq).1 hq).1, ← ((P q hq).1 hq).2]; exact E q hq) F
      · have Ep := E p c1
        have Pp := (P p c1).2 (Nat.le_refl _)
        have Wb := (Tok (p % 4) (p / 4) (by omega)).1
        rw [Pp.1] at Ep
        refine R_al0 (n := 80) C dX0_settle_79 rfl ?_
        refine M_getR (n := 83) C fl_X0_9 dX0_settle_80 rfl rfl rfl ?_
        refine R_il8 (n := 85) C dX0_settle_83 rfl ?_
        refine M_iald (n := 86) C dX0_settle_85 rfl c1 Ep.1 rfl ?_
        refine R_ic (n := 87) C dX0_settle_86 ci_2 rfl ?_
        refine R_icmp_neN (tgt := 113) C dX0_settle_87 rfl rfl (by omega) (by omega) (fun c2 => ?_) (fun c2 => ?_)
        · refine R_inc8 (n := 116) C dX0_settle_113 rfl (Nat.le_of_ble_eq_true rfl) (inc_1 _) rfl ?_
          refine R_goto (n := 72) C dX0_settle_116 rfl ?_
          refine ih (p + 1) hh Wm Bm (by omega) (by omega) E F (fun q hq => ⟨fun q1 => ?_, fun q1 => (P q hq).2 (by omega)⟩)
          by_cases e : q = p
          · subst e
            rw [Pp.1, Pp.2, tst_at.1, tst_at.2, if_neg c2, if_neg c2]
            exact ⟨rfl, rfl⟩
          · exact (P q hq).1 (by omega)
        ·
          have mix : Mix T (n' + 1) Wm Bm ∨ True := Or.inr trivial
          obtain ⟨w, hw⟩ : ∃ w, p % 4 = w := ⟨_, rfl⟩
          obtain ⟨s, hs⟩ : ∃ s, p / 4 = s := ⟨_, rfl⟩
          have hp : p = w + 4 * s := by omega
          obtain ⟨Wn, hWn⟩ : ∃ Wn : Nat → Nat → Nat, Wn = fun w s => if w < 4 ∧ s < 2 then Wm w s else T.1 w s := ⟨_, rfl⟩
          obtain ⟨Bn, hBn⟩ : ∃ Bn : Nat → Nat → Nat, Bn = fun w s => if w < 4 ∧ s < 2 then Bm w s else T.2 w s := ⟨_, rfl⟩
          have En : RT Wn Bn hh := fun q hq => by
            rw [hWn, hBn]
            simp only
            rw [if_pos ⟨by omega, by omega⟩, if_pos ⟨by omega, by omega⟩]
            exact E q hq
          have Mn : Mix T (n' + 1) Wn Bn := fun w9 s9 h9 => by
            rw [hWn, hBn]
            simp only
            by_cases w4 : w9 < 4
            · rw [if_pos ⟨w4, h9⟩, if_pos ⟨w4, h9⟩]
              have P9 := P (w9 + 4 * s9) (by omega)
              rw [show (w9 + 4 * s9) % 4 = w9 by omega, show (w9 + 4 * s9) / 4 = s9 by omega] at P9
              by_cases lt : w9 + 4 * s9 < p
              · obtain ⟨z1, z2⟩ := P9.1 lt
                rw [tst_at.1] at z1
                rw [tst_at.2] at z2
                by_cases e2 : T.1 w9 s9 = 2
                · rw [if_pos e2] at z1 z2
                  by_cases e3 : (exb (twn σ k (if s9 = 0 then w0 else w1) T.1 w9 s9) 6 || alb (tls σ k (if s9 = 0 then w0 else w1) T.1 w9 s9) 6) = true
                  · rw [if_pos e3] at z2
                    refine Or.inr ⟨e2, ?_, z2⟩
                    have zz : ∀ x y : Bool, (if x = true then s9 else if y = true then 1 - s9 else 2) ≤ 2 := by
                      intro x y
                      cases x <;> cases y <;> simp <;> omega
                    rw [z1]
                    exact zz _ _
                  · rw [if_neg e3] at z2
                    refine Or.inl ⟨?_, z2⟩
                    rw [Bool.or_eq_true, not_or] at e3
                    rw [z1, if_neg e3.1, if_neg e3.2, e2]
                · rw [if_neg e2] at z1 z2
                  exact Or.inl ⟨z1, z2⟩
              · exact Or.inl (P9.2 (by omega))
            · rw [if_neg (by omega), if_neg (by omega)]
              exact Or.inl ⟨rfl, rfl⟩
          have go : ∀ ws, ws < 64 → ws = (if s = 0 then w0 else w1) → Rn X 0 0 106 [some (.ref (r 44)), some (.ref (r 1)), some (.int (nI k)), some (.int (nI a)), some (.int (nI b)), some (.int (nI w0)), some (.int (nI w1)), some (.int (nI (n' + 1))), some (.int (nI p))] [.int (nI ws), .int (nI k), .ref (r 1), .ref (r 44)] (LY r) hh := by
            intro ws wb we
            refine R_il8 (n := 108) C dX0_settle_106 rfl ?_
            refine R_il7 (n := 110) C dX0_settle_108 rfl ?_
            rw [hp]
            refine M_callV (n := 113) C (c_settlePlace _ _ _ r R1 I hk wb n8 (by omega) (by omega) Tok Mn En) mw_X0_settlePlace ml_X0_18 iv_X0_settlePlace dX0_settle_110 rfl rfl rfl rfl (Nat.le_of_ble_eq_true rfl) ⟨Nat.le_of_ble_eq_true rfl, Nat.le_of_ble_eq_true rfl⟩ ⟨Nat.le_refl _, Nat.le_refl _⟩ rfl (pGv (fun h2 q2 => ?_))
            refine R_inc8 (n := 116) C dX0_settle_113 rfl (Nat.le_of_ble_eq_true rfl) (inc_1 _) rfl ?_
            refine R_goto (n := 72) C dX0_settle_116 rfl ?_
            refine ih (w + 4 * s + 1) h2 _ _ (by omega) (by omega) q2.1 (F.tr q2.2) (fun q hq => ⟨fun q1 => ?_, fun q1 => ?_⟩)
            · by_cases e : q = w + 4 * s
              · subst e
                rw [show (w + 4 * s) % 4 = w by omega, show (w + 4 * s) / 4 = s by omega, tst_at.1, tst_at.2]
                rw [hw, hs] at c2 Pp
                rw [if_pos c2, if_pos c2, ← we]
                cases e1 : exb (twn σ k ws T.1 w s) 6 with
                | true => simp [up3]
                | false =>
                  cases e2 : alb (tls σ k ws T.1 w s) 6 with
                  | true => simp [up3]
                  | false =>
                    simp only [Bool.or_self, Bool.false_eq_true, if_false]
                    rw [hWn, hBn]
                    simp only
                    rw [if_pos ⟨by omega, by omega⟩, if_pos ⟨by omega, by omega⟩, Pp.1, Pp.2, c2]
                    exact ⟨rfl, rfl⟩
              · have P9 := (P q hq).1 (by omega)
                rw [← P9.1, ← P9.2]
                have ne : ¬ (q % 4 = w ∧ q / 4 = s) := by omega
                split
                · simp only [up3, if_neg ne]
                  rw [hWn, hBn]
                  simp only
                  rw [if_pos ⟨by omega, by omega⟩, if_pos ⟨by omega, by omega⟩]
                  exact ⟨rfl, rfl⟩
                · rw [hWn, hBn]
                  simp only
                  rw [if_pos ⟨by omega, by omega⟩, if_pos ⟨by omega, by omega⟩]
                  exact ⟨rfl, rfl⟩
            · have P9 := (P q hq).2 (by omega)
              rw [← P9.1, ← P9.2]
              have ne : ¬ (q % 4 = w ∧ q / 4 = s) := by omega
              split
              · simp only [up3, if_neg ne]
                rw [hWn, hBn]
                simp only
                rw [if_pos ⟨by omega, by omega⟩, if_pos ⟨by omega, by omega⟩]
                exact ⟨rfl, rfl⟩
              · rw [hWn, hBn]
                simp only
                rw [if_pos ⟨by omega, by omega⟩, if_pos ⟨by omega, by omega⟩]
                exact ⟨rfl, rfl⟩
          refine R_al0 (n := 91) C dX0_settle_90 rfl ?_
          refine R_al1 (n := 92) C dX0_settle_91 rfl ?_
          refine R_il2 (n := 93) C dX0_settle_92 rfl ?_
          refine R_il8 (n := 95) C dX0_settle_93 rfl ?_
          refine R_ic (n := 96) C dX0_settle_95 ci_4 rfl ?_
          refine R_icmp_geN (tgt := 104) C dX0_settle_96 rfl rfl (by omega) (by omega) (fun c3 => ?_) (fun c3 => ?_)
          · refine R_il6 (n := 106) C dX0_settle_104 rfl ?_
            exact go w1 h1 (by rw [if_neg (by omega)])
          · refine R_il5 (n := 101) C dX0_settle_99 rfl ?_
            refine R_goto (n := 106) C dX0_settle_101 rfl ?_
            exact go w0 h0 (by rw [if_pos (by omega)])
  have rounds : ∀ (m n : Nat) (hh : Hp) (o : Option Value), 8 < n + m → n ≤ 8 → RT (twz σ k w0 w1 a b n).1 (twz σ k w0 w1 a b n).2 hh → FrS h hh → Rn X 0 0 62 [some (.ref (r 44)), some (.ref (r 1)), some (.int (nI k)), some (.int (nI a)), some (.int (nI b)), some (.int (nI w0)), some (.int (nI w1)), some (.int (nI (n + 1))), o] [] (LY r) hh := by
    intro m
    induction m with
    | zero => intro n hh o a1 a2; omega
    | succ m ih =>
      intro n hh o a1 a2 E F
      refine R_il7 (n := 64) C dX0_settle_62 rfl ?_
      refine R_bp (n := 66) C dX0_settle_64 cb_8 rfl ?_
      refine R_icmp_gtN (tgt := 125) C dX0_settle_66 rfl rfl (by omega) (by omega) (fun c1 => ?_) (fun c1 => ?_)
      · refine R_vret C CR (Nat.zero_le _) (Nat.zero_le _) dX0_settle_125 ?_
        exact ⟨rfl, rfl, by rw [show (8 : Nat) = n by omega]; exact E, F⟩
      · refine R_ic (n := 70) C dX0_settle_69 ci_0 rfl ?_
        refine R_is8 (n := 72) C dX0_settle_70 rfl (Nat.le_of_ble_eq_true rfl) rfl ?_
        refine inner (n + 1) (by omega) (by omega) (fun h2 E2 F2 => ?_) 9 0 hh _ _ (by omega) (by omega) E F (fun q hq => ⟨fun q1 => absurd q1 (Nat.not_lt_zero q), fun _ => ?_⟩)
        · refine R_inc7 (n := 122) C dX0_settle_119 rfl (Nat.le_of_ble_eq_true rfl) (inc_1 _) rfl ?_
          refine R_goto (n := 62) C dX0_settle_122 rfl ?_
          exact ih (n + 1) h2 _ (by omega) (by omega) E2 F2
        · rw [Nat.add_sub_cancel]
          exact ⟨rfl, rfl⟩
  have start : ∀ (m i : Nat) (hh : Hp) (o : Option Value), 8 < i + m → i ≤ 8 → (∀ q, q < i → hh 45 q = nI ((tw0 a b).1 (q % 4) (q / 4)) ∧ hh 46 q = nI ((tw0 a b).2 (q % 4) (q / 4))) → FrS h hh → Rn X 0 0 3 [some (.ref (r 44)), some (.ref (r 1)), some (.int (nI k)), some (.int (nI a)), some (.int (nI b)), some (.int (nI w0)), some (.int (nI w1)), some (.int (nI i)), o] [] (LY r) hh := by
    intro m
    induction m with
    | zero => intro i hh o a1 a2; omega
    | succ m ih =>
      intro i hh o a1 a2 E F
      refine R_il7 (n := 5) C dX0_settle_3 rfl ?_
      refine R_bp (n := 7) C dX0_settle_5 cb_8 rfl ?_
      refine R_icmp_geN (tgt := 59) C dX0_settle_7 rfl rfl (by omega) (by omega) (fun c1 => ?_) (fun c1 => ?_)
      · refine R_ic (n := 60) C dX0_settle_59 ci_1 rfl ?_
        refine R_is7 (n := 62) C dX0_settle_60 rfl (Nat.le_of_ble_eq_true rfl) rfl ?_
        exact rounds 9 0 hh o (by omega) (by omega) (fun q hq => E q (by omega)) F
      · have fin : ∀ v, v = (tw0 a b).1 (i % 4) (i / 4) → Rn X 0 0 44 [some (.ref (r 44)), some (.ref (r 1)), some (.int (nI k)), some (.int (nI a)), some (.int (nI b)), some (.int (nI w0)), some (.int (nI w1)), some (.int (nI i)), some (.int (nI (i % 4)))] [.int (nI v), .int (nI i), .ref (r 45)] (LY r) hh := by
          intro v hv
          refine M_iast (n := 45) C dX0_settle_44 rfl (by omega) rfl ?_
          refine R_al0 (n := 46) C dX0_settle_45 rfl ?_
          refine M_getR (n := 49) C fl_X0_15 dX0_settle_46 rfl rfl rfl ?_
          refine R_il7 (n := 51) C dX0_settle_49 rfl ?_
          refine R_ic (n := 52) C dX0_settle_51 ci_0 rfl ?_
          refine M_iast (n := 53) C dX0_settle_52 rfl (by omega) rfl ?_
          refine R_inc7 (n := 56) C dX0_settle_53 rfl (Nat.le_of_ble_eq_true rfl) (inc_1 _) rfl ?_
          refine R_goto (n := 3) C dX0_settle_56 rfl ?_
          refine ih (i + 1) _ _ (by omega) (by omega) (fun q hq => ⟨?_, ?_⟩) ((F.up (by decide) (by decide)).up (by decide) (by decide))
          · rw [up2_row (by decide), up2_at]
            split
            · rename_i e; rw [e, hv]
            · exact (E q (by omega)).1
          · rw [up2_at]
            split
            · rfl
            · rw [up2_row (by decide)]
              exact (E q (by omega)).2
        refine R_il7 (n := 12) C dX0_settle_10 rfl ?_
        refine R_ic (n := 13) C dX0_settle_12 ci_3 rfl ?_
        refine R_iandN (n := 14) C dX0_settle_13 rfl ?_
        refine R_eq (y := nI (i % 4)) (by rw [and3]) ?_
        refine R_is8 (n := 16) C dX0_settle_14 rfl (Nat.le_of_ble_eq_true rfl) rfl ?_
        refine R_al0 (n := 17) C dX0_settle_16 rfl ?_
        refine M_getR (n := 20) C fl_X0_9 dX0_settle_17 rfl rfl rfl ?_
        refine R_il7 (n := 22) C dX0_settle_20 rfl ?_
        refine R_il8 (n := 24) C dX0_settle_22 rfl ?_
        refine R_il3 (n := 25) C dX0_settle_24 rfl ?_
        refine R_icmp_neN (tgt := 32) C dX0_settle_25 rfl rfl (by omega) (by omega) (fun c2 => ?_) (fun c2 => ?_)
        · refine R_il8 (n := 34) C dX0_settle_32 rfl ?_
          refine R_il4 (n := 36) C dX0_settle_34 rfl ?_
          refine R_icmp_neN (tgt := 43) C dX0_settle_36 rfl rfl (by omega) (by omega) (fun c3 => ?_) (fun c3 => ?_)
          · refine R_ic (n := 44) C dX0_settle_43 ci_2 rfl ?_
            exact fin 2 (by simp [tw0, c2, c3])
          · refine R_ic (n := 40) C dX0_settle_39 ci_1 rfl ?_
            refine R_goto (n := 44) C dX0_settle_40 rfl ?_
            exact fin 1 (by simp only [tw0]; rw [if_neg c2, if_pos c3])
        · refine R_ic (n := 29) C dX0_settle_28 ci_0 rfl ?_
          refine R_goto (n := 44) C dX0_settle_29 rfl ?_
          exact fin 0 (by simp only [tw0]; rw [if_pos c2])
  refine R_ic (n := 1) C dX0_settle_0 ci_0 rfl ?_
  refine R_is7 (n := 3) C dX0_settle_1 rfl (Nat.le_of_ble_eq_true rfl) rfl ?_
  exact start 9 0 h none (by omega) (by omega) (fun q hq => absurd hq (Nat.not_lt_zero q)) FrS.rf
