def BFc (σ : WS) (W : Nat) (c : Nat → Nat) : Prop := c (nuz σ) = 0 ∧ (∀ x, c x ≤ 1000000) ∧ ∀ x, c x < 1000000 → x < 2 ^ (2 * sN σ) ∧ rcq σ W x (c x) ∧ c x + 15 ≤ 15 * cnz (fun z => decide (c z < 1000000)) 1024
theorem BFc.far {σ : WS} {W : Nat} {c : Nat → Nat} (B : BFc σ W c) {x : Nat} (h : c x < 1000000) : c x ≤ 15345 := by
  have := (B.2.2 x h).2.2
  have := cnz_le (p := fun z => decide (c z < 1000000)) (n := 1024)
  omega
theorem sm_upd {c : Nat → Nat} {t v : Nat} (hv : v < c t) : ∀ {n : Nat}, sm (updN c t v) n ≤ sm c n ∧ (t < n → sm (updN c t v) n < sm c n)
  | 0 => ⟨Nat.le_refl _, fun h => absurd h (Nat.not_lt_zero _)⟩
  | n + 1 => by
    have ih := sm_upd hv (n := n)
    show sm (updN c t v) n + updN c t v n ≤ sm c n + c n ∧ (t < n + 1 → sm (updN c t v) n + updN c t v n < sm c n + c n)
    by_cases e : n = t
    · have e1 : updN c t v n = v := by rw [updN, if_pos e]
      rw [e1]
      rw [← e] at hv
      exact ⟨by omega, fun _ => by omega⟩
    · have e1 : updN c t v n = c n := by rw [updN, if_neg e]
      rw [e1]
      exact ⟨by omega, fun h => by have := ih.2 (by omega); omega⟩
theorem BFc.st {σ : WS} (J : Inv σ) {W : Nat} : BFc σ W (fun x => if x = nuz σ then 0 else 1000000) := by
  refine ⟨if_pos rfl, fun x => ?_, fun x hx => ?_⟩
  · show (if x = nuz σ then 0 else 1000000) ≤ 1000000
    split
    · exact Nat.zero_le _
    · exact Nat.le_refl _
  · have e : x = nuz σ := by
      apply Classical.byContradiction
      intro q
      have hx' : (if x = nuz σ then 0 else 1000000) < 1000000 := hx
      rw [if_neg q] at hx'
      omega
    have m := cnz_more (p := fun _ => false) (q := fun z => decide ((if z = nuz σ then 0 else 1000000) < 1000000)) (fun k hk => by cases hk) (y := nuz σ) rfl (by rw [if_pos rfl]; rfl) (nuz_1024 J)
    subst e
    refine ⟨nuz_lt J, ?_, ?_⟩
    · show rcq σ W (nuz σ) (if nuz σ = nuz σ then 0 else 1000000)
      rw [if_pos rfl]
      exact rcq_0
    · show (if nuz σ = nuz σ then 0 else 1000000) + 15 ≤ 15 * cnz (fun z => decide ((if z = nuz σ then 0 else 1000000) < 1000000)) 1024
      rw [if_pos rfl]
      omega
theorem BFc.up {σ : WS} (J : Inv σ) {W : Nat} {c : Nat → Nat} (B : BFc σ W c) {k w t : Nat} (hk : c k < 1000000) (hw : w < 6) (hb : W.testBit w = true) (ht : trz σ w k = t) (hv : c k + tqz σ w k < c t) : BFc σ W (updN c t (c k + tqz σ w k)) ∧ sm (updN c t (c k + tqz σ w k)) 1024 < sm c 1024 := by
  have q15 := tqz_le J (w := w) (l := k) hw
  have t10 : t < 1024 := by rw [← ht]; exact trz_1024 J
  have ct := B.2.1 t
  have cm := cnz_mono (p := fun z => decide (c z < 1000000)) (q := fun z => decide (updN c t (c k + tqz σ w k) z < 1000000)) (fun z hz => by
    have hz' := of_decide_eq_true hz
    apply decide_eq_true
    unfold updN
    split
    · omega
    · exact hz') (n := 1024)
  obtain ⟨b1, b2, b3⟩ := B
  refine ⟨⟨?_, fun x => ?_, fun x hx => ?_⟩, (sm_upd hv).2 t10⟩
  · have : nuz σ ≠ t := fun e => by rw [e] at b1; omega
    rw [updN, if_neg this]
    exact b1
  · unfold updN
    split
    · omega
    · exact b2 x
  · by_cases e : x = t
    · subst e
      have ex : updN c x (c k + tqz σ w k) x = c k + tqz σ w k := by rw [updN, if_pos rfl]
      rw [ex]
      refine ⟨by rw [← ht]; exact trz_lt, by have := rcq_s (b3 k hk).2.1 hw hb; rw [ht] at this; exact this, ?_⟩
      by_cases g : c x < 1000000
      · have := (b3 x g).2.2
        omega
      · have m := cnz_more (p := fun z => decide (c z < 1000000)) (q := fun z => decide (updN c x (c k + tqz σ w k) z < 1000000)) (fun z hz => by
          have hz' := of_decide_eq_true hz
          apply decide_eq_true
          unfold updN
          split
          · omega
          · exact hz') (y := x) (decide_eq_false g) (decide_eq_true (by rw [ex]; omega)) t10
        have := (b3 k hk).2.2
        omega
    · have ex : updN c t (c k + tqz σ w k) x = c x := by rw [updN, if_neg e]
      rw [ex] at hx ⊢
      obtain ⟨g1, g2, g3⟩ := b3 x hx
      exact ⟨g1, g2, by omega⟩
def RLX (σ : WS) (W : Nat) (c : Nat → Nat) (k w : Nat) : Prop := ∀ k' w', (k' < k ∨ (k' = k ∧ w' < w)) → w' < 6 → W.testBit w' = true → c k' < 1000000 → c (trz σ w' k') ≤ c k' + tqz σ w' k'
theorem BFc.least {σ : WS} {W : Nat} {c : Nat → Nat} (J : Inv σ) (B : BFc σ W c) (L : RLX σ W c (2 ^ (2 * sN σ)) 0) {x d : Nat} (h : rcq σ W x d) : c x < 1000000 ∧ c x ≤ d := by
  refine rcq_ind (W := W) (Q := fun x d => c x < 1000000 ∧ c x ≤ d) ⟨by rw [B.1]; decide, by rw [B.1]; exact Nat.zero_le _⟩ (fun x d w q w1 w2 => ?_) h
  have xl := (B.2.2 x q.1).1
  have l := L x w (Or.inl xl) w1 w2 q.1
  have f := B.far q.1
  have q15 := tqz_le J (w := w) (l := x) w1
  exact ⟨by show _ < 1000000; omega, by omega⟩
def RC (c : Nat → Nat) (h : Hp) : Prop := ∀ x, x < 1024 → h 91 x = nI (c x)
def lsz (σ : WS) (s b : Nat) (c : Nat → Nat) : Nat → Nat
  | 0 => 1000000
  | i + 1 => if soS (sN σ) s i b = true ∧ c i < lsz σ s b c i then c i else lsz σ s b c i
theorem lsz_ok {σ : WS} {s b : Nat} {c : Nat → Nat} : ∀ i, lsz σ s b c i ≤ 1000000 ∧ (∀ x, x < i → soS (sN σ) s x b = true → lsz σ s b c i ≤ c x) ∧ (lsz σ s b c i < 1000000 → ∃ x, x < i ∧ soS (sN σ) s x b = true ∧ c x = lsz σ s b c i)
  | 0 => ⟨Nat.le_refl _, fun x hx => absurd hx (Nat.not_lt_zero _), fun h => absurd h (Nat.lt_irrefl _)⟩
  | i + 1 => by
    obtain ⟨h1, h2, h3⟩ := lsz_ok (σ := σ) (s := s) (b := b) (c := c) i
    unfold lsz
    by_cases g : soS (sN σ) s i b = true ∧ c i < lsz σ s b c i
    · rw [if_pos g]
      refine ⟨by omega, fun x hx hs => ?_, fun _ => ⟨i, by omega, g.1, rfl⟩⟩
      by_cases e : x = i
      · rw [e]; exact Nat.le_refl _
      · have := h2 x (by omega) hs
        omega
    · rw [if_neg g]
      refine ⟨h1, fun x hx hs => ?_, fun q => ?_⟩
      · by_cases e : x = i
        · subst e
          apply Nat.le_of_not_lt
          intro q
          exact g ⟨hs, q⟩
        · exact h2 x (by omega) hs
      · obtain ⟨x, x1, x2, x3⟩ := h3 q
        exact ⟨x, by omega, x2, x3⟩
theorem BFc.tiA {σ : WS} {W s b : Nat} {c : Nat → Nat} (J : Inv σ) (B : BFc σ W c) (L : RLX σ W c (2 ^ (2 * sN σ)) 0) : tiA σ W s b (if lsz σ s b c (2 ^ (2 * sN σ)) = 1000000 then -6 else nI (lsz σ s b c (2 ^ (2 * sN σ)))) := by
  obtain ⟨h1, h2, h3⟩ := lsz_ok (σ := σ) (s := s) (b := b) (c := c) (2 ^ (2 * sN σ))
  by_cases e : lsz σ s b c (2 ^ (2 * sN σ)) = 1000000
  · rw [if_pos e]
    refine Or.inr ⟨rfl, fun y d hy => ?_⟩
    cases g : soS (sN σ) s y b with
    | false => rfl
    | true =>
      have l := B.least J L hy
      have := h2 y (rcq_lt J hy) g
      omega
  · rw [if_neg e]
    obtain ⟨x, x1, x2, x3⟩ := h3 (by omega)
    refine Or.inl ⟨_, x, rfl, by show _ < 2147483648; omega, ?_, x2, fun y d hy g => ?_⟩
    · rw [← x3]
      exact (B.2.2 x (by omega)).2.1
    · have l := B.least J L hy
      have := h2 y (rcq_lt J hy) g
      omega
set_option maxRecDepth 20000 in
set_option maxHeartbeats 4000000 in
theorem m_tired (l : Launch) (D : va_G) (cA : Nat → ClassId) (r : Nat → Nat) {h : Hp} {G : GS} (R : RMo G h) (I : InvG G) (sv bv : Int32) : Cn l D cA yX11_tired cX11_tired 8 (some .int) 3 0 0 [.ref (r 73), .int sv, .int bv] (LY r) h (pG (some (.int (aTired G sv bv))) (LY r) (fun h' => RMo G h' ∧ FrM h h')) := by
  refine Cn.of (lv := [some (.ref (r 73)), some (.int sv), some (.int bv), none, none, none, none, none]) (by decide +kernel) (Nat.le_of_ble_eq_true rfl) rfl (fun X hnm C CR => ?_)
  have p10 := p2_10 I.1.n5
  have p5 := p2_5 I.1.n5
  have out : okA (gS G) sv bv = false → Rn X 0 0 16 [some (.ref (r 73)), some (.int sv), some (.int bv), none, none, none, none, none] [] (LY r) h := by
    intro c
    rw [aTired, if_neg (by rw [c]; decide)] at CR
    refine R_bp (n := 18) C dX11_tired_16 cb_m2 rfl ?_
    refine R_iret C CR (Nat.zero_le _) (Nat.zero_le _) dX11_tired_18 ?_
    exact ⟨rfl, rfl, R, FrM.rf⟩
  refine R_al0 (n := 1) C dX11_tired_0 rfl ?_
  refine R_il1 (n := 2) C dX11_tired_1 rfl ?_
  refine M_callV (n := 5) C (c_mIsSet _ _ _ r R.1 I.1 _) mw_X11_isSet ml_X11_230 iv_X11_isSet dX11_tired_2 rfl rfl rfl rfl (Nat.le_of_ble_eq_true rfl) ⟨Nat.le_of_ble_eq_true rfl, Nat.le_of_ble_eq_true rfl⟩ ⟨Nat.le_refl _, Nat.le_refl _⟩ rfl (pEs ?_)
  refine R_if_eqB (tgt := 16) C dX11_tired_5 rfl rfl (fun c1 => ?_) (fun c1 => ?_)
  · exact out (by rw [okA, c1, Bool.false_and])
  · refine R_al0 (n := 9) C dX11_tired_8 rfl ?_
    refine R_il2 (n := 10) C dX11_tired_9 rfl ?_
    refine M_callV (n := 13) C (c_mIsNumber _ _ _ r R.1 I.1 _) mw_X11_isNumber ml_X11_223 iv_X11_isNumber dX11_tired_10 rfl rfl rfl rfl (Nat.le_of_ble_eq_true rfl) ⟨Nat.le_of_ble_eq_true rfl, Nat.le_of_ble_eq_true rfl⟩ ⟨Nat.le_refl _, Nat.le_refl _⟩ rfl (pEs ?_)
    refine R_if_neB (tgt := 19) C dX11_tired_13 rfl rfl (fun c2 => ?_) (fun c2 => ?_)
    · have c3 : okA (gS G) sv bv = true := by rw [okA, c1, c2]; rfl
      clear out c1 c2
      obtain ⟨s, b, s1, b1, rfl, rfl, sc, bc⟩ := okA_of I.1 c3
      rw [aTired, if_pos c3, sc, bc] at CR
      obtain ⟨σ, hσ⟩ : ∃ σ, gS G = σ := ⟨_, rfl⟩
      have J : Inv σ := by rw [← hσ]; exact I.1
      have Rh := R.1
      rw [hσ] at CR Rh p10 p5 s1 b1
      obtain ⟨W, hW⟩ : ∃ W, sKn σ = W := ⟨_, rfl⟩
      rw [hW] at CR
      have nu := nuz_1024 J
      obtain ⟨N, hN⟩ : ∃ N, 2 ^ (2 * sN σ) = N := ⟨_, rfl⟩
      rw [hN] at p10 b1
      have fin : ∀ (c : Nat → Nat) (hh : Hp) (o4 o5 o6 o7 : Option Value), BFc σ W c → RLX σ W c N 0 → RC c hh → FrA [91] [] h hh → Rn X 0 0 187 [some (.ref (r 73)), some (.int (nI s)), some (.int (nI b)), some (.int (bI false)), o4, o5, o6, o7] [] (LY r) hh := by
        intro c hh o4 o5 o6 o7 B L E F
        have K := R.t (F.mono (by decide) (by decide))
        have R1 := F.rm Rh (by decide) (by decide)
        have ta := BFc.tiA (s := s) (b := b) J B (by rw [hN]; exact L)
        rw [hN] at ta
        rw [tiV_eq ta] at CR
        have loop : ∀ (m i : Nat) (q6 q7 : Option Value), N < i + m → i ≤ N → Rn X 0 0 194 [some (.ref (r 73)), some (.int (nI s)), some (.int (nI b)), some (.int (bI false)), some (.int (nI (lsz σ s b c i))), some (.int (nI i)), q6, q7] [] (LY r) hh := by
          intro m
          induction m with
          | zero => intro i q6 q7 a1 a2; omega
          | succ m ih =>
            intro i q6 q7 a1 a2
            have lo := (lsz_ok (σ := σ) (s := s) (b := b) (c := c) i).1
            have ih1 := ih (i + 1) q6 q7
            unfold lsz at ih1
            refine R_il5 (n := 196) C dX11_tired_194 rfl ?_
            refine R_al0 (n := 197) C dX11_tired_196 rfl ?_
            refine M_callV (n := 200) C (c_mAll _ _ _ r R1 J) mw_X11_all ml_X11_220 iv_X11_all dX11_tired_197 rfl rfl rfl rfl (Nat.le_of_ble_eq_true rfl) ⟨Nat.le_of_ble_eq_true rfl, Nat.le_of_ble_eq_true rfl⟩ ⟨Nat.le_refl _, Nat.le_refl _⟩ rfl (pEs ?_)
            rw [hN]
            refine R_icmp_geN (tgt := 246) C dX11_tired_200 rfl rfl (by omega) (by omega) (fun d1 => ?_) (fun d1 => ?_)
            · obtain rfl : i = N := by omega
              refine R_il4 (n := 248) C dX11_tired_246 rfl ?_
              refine R_ldc (n := 250) C dX11_tired_248 kc_X11_236 rfl ?_
              refine R_eq (y := nI 1000000) (by decide +kernel) ?_
              refine R_icmp_neN (tgt := 258) C dX11_tired_250 rfl rfl (by omega) (by omega) (fun d2 => ?_) (fun d2 => ?_)
              · rw [if_neg d2] at CR
                refine R_il4 (n := 260) C dX11_tired_258 rfl ?_
                refine R_iret C CR (Nat.zero_le _) (Nat.zero_le _) dX11_tired_260 ?_
                exact ⟨rfl, rfl, K⟩
              · rw [if_pos d2] at CR
                refine R_bp (n := 255) C dX11_tired_253 cb_m6 rfl ?_
                refine R_goto (n := 260) C dX11_tired_255 rfl ?_
                refine R_iret C CR (Nat.zero_le _) (Nat.zero_le _) dX11_tired_260 ?_
                exact ⟨rfl, rfl, K⟩
            · have ci := B.2.1 i
              have no : ¬ (soS (sN σ) s i b = true ∧ c i < lsz σ s b c i) → Rn X 0 0 236 [some (.ref (r 73)), some (.int (nI s)), some (.int (nI b)), some (.int (bI false)), some (.int (nI (lsz σ s b c i))), some (.int (nI i)), q6, q7] [] (LY r) hh := by
                intro z
                rw [if_neg z] at ih1
                refine R_il4 (n := 238) C dX11_tired_236 rfl ?_
                refine R_is4 (n := 240) C dX11_tired_238 rfl (Nat.le_of_ble_eq_true rfl) rfl ?_
                refine R_inc5 (n := 243) C dX11_tired_240 rfl (Nat.le_of_ble_eq_true rfl) (inc_1 _) rfl ?_
                refine R_goto (n := 194) C dX11_tired_243 rfl ?_
                exact ih1 (by omega) (by omega)
              refine R_al0 (n := 204) C dX11_tired_203 rfl ?_
              refine R_il5 (n := 206) C dX11_tired_204 rfl ?_
              refine R_il1 (n := 207) C dX11_tired_206 rfl ?_
              refine R_il2 (n := 208) C dX11_tired_207 rfl ?_
              refine M_callV (n := 211) C (c_mIsSo _ _ _ r R1 J (by omega) (by omega) (by omega)) mw_X11_isSo ml_X11_226 iv_X11_isSo dX11_tired_208 rfl rfl rfl rfl (Nat.le_of_ble_eq_true rfl) ⟨Nat.le_of_ble_eq_true rfl, Nat.le_of_ble_eq_true rfl⟩ ⟨Nat.le_refl _, Nat.le_refl _⟩ rfl (pEs ?_)
              refine R_if_eqB (tgt := 236) C dX11_tired_211 rfl rfl (fun d2 => ?_) (fun d2 => ?_)
              · exact no (by rw [d2]; rintro ⟨q, _⟩; cases q)
              · refine R_al0 (n := 215) C dX11_tired_214 rfl ?_
                refine M_getR (n := 218) C fl_X11_61 dX11_tired_215 rfl rfl rfl ?_
                refine R_il5 (n := 220) C dX11_tired_218 rfl ?_
                refine M_iald (n := 221) C dX11_tired_220 rfl (by omega) (E i (by omega)) rfl ?_
                refine R_il4 (n := 223) C dX11_tired_221 rfl ?_
                refine R_icmp_geN (tgt := 236) C dX11_tired_223 rfl rfl (by omega) (by omega) (fun d3 => ?_) (fun d3 => ?_)
                · exact no (by rintro ⟨_, q⟩; omega)
                · rw [if_pos ⟨d2, d3⟩] at ih1
                  refine R_al0 (n := 227) C dX11_tired_226 rfl ?_
                  refine M_getR (n := 230) C fl_X11_61 dX11_tired_227 rfl rfl rfl ?_
                  refine R_il5 (n := 232) C dX11_tired_230 rfl ?_
                  refine M_iald (n := 233) C dX11_tired_232 rfl (by omega) (E i (by omega)) rfl ?_
                  refine R_goto (n := 238) C dX11_tired_233 rfl ?_
                  refine R_is4 (n := 240) C dX11_tired_238 rfl (Nat.le_of_ble_eq_true rfl) rfl ?_
                  refine R_inc5 (n := 243) C dX11_tired_240 rfl (Nat.le_of_ble_eq_true rfl) (inc_1 _) rfl ?_
                  refine R_goto (n := 194) C dX11_tired_243 rfl ?_
                  exact ih1 (by omega) (by omega)
        refine R_ldc (n := 189) C dX11_tired_187 kc_X11_236 rfl ?_
        refine R_eq (y := nI 1000000) (by decide +kernel) ?_
        refine R_is4 (n := 191) C dX11_tired_189 rfl (Nat.le_of_ble_eq_true rfl) rfl ?_
        refine R_ic (n := 192) C dX11_tired_191 ci_0 rfl ?_
        refine R_is5 (n := 194) C dX11_tired_192 rfl (Nat.le_of_ble_eq_true rfl) rfl ?_
        exact loop (N + 1) 0 _ _ (by omega) (by omega)
      have pass : ∀ (M : Nat) (c : Nat → Nat) (hh : Hp) (o4 o5 o6 o7 : Option Value), sm c 1024 < M → BFc σ W c → RC c hh → FrA [91] [] h hh → Rn X 0 0 54 [some (.ref (r 73)), some (.int (nI s)), some (.int (nI b)), some (.int (bI true)), o4, o5, o6, o7] [] (LY r) hh := by
        intro M
        induction M with
        | zero => intro c hh o4 o5 o6 o7 a1; omega
        | succ M ihM =>
          intro c0 hh0 o4 o5 o6 o7 a1 B0 E0 F0
          have inner : ∀ (k : Nat), k < N → (∀ (c : Nat → Nat) (hh : Hp) (mr : Bool) (o5 o6 o7 : Option Value), BFc σ W c → RC c hh → FrA [91] [] h hh → (mr = false → sm c 1024 ≤ sm c0 1024 ∧ RLX σ W c (k + 1) 0) → (mr = true → sm c 1024 < sm c0 1024) → Rn X 0 0 178 [some (.ref (r 73)), some (.int (nI s)), some (.int (nI b)), some (.int (bI mr)), some (.int (nI k)), o5, o6, o7] [] (LY r) hh) → ∀ (m w : Nat) (c : Nat → Nat) (hh : Hp) (mr : Bool) (o6 o7 : Option Value), 6 < w + m → w ≤ 6 → BFc σ W c → RC c hh → FrA [91] [] h hh → (mr = false → sm c 1024 ≤ sm c0 1024 ∧ RLX σ W c k w) → (mr = true → sm c 1024 < sm c0 1024) → Rn X 0 0 75 [some (.ref (r 73)), some (.int (nI s)), some (.int (nI b)), some (.int (bI mr)), some (.int (nI k)), some (.int (nI w)), o6, o7] [] (LY r) hh := by
            intro k hk outk m
            induction m with
            | zero => intro w c hh mr o6 o7 a1 a2; omega
            | succ m ih =>
              intro w c hh mr o6 o7 b1' b2' B E F f1 f2
              have R1 := F.rm Rh (by decide) (by decide)
              have ck := B.2.1 k
              have k10 : k < 1024 := by omega
              refine R_il5 (n := 77) C dX11_tired_75 rfl ?_
              refine R_bp (n := 79) C dX11_tired_77 cb_6 rfl ?_
              refine R_icmp_geN (tgt := 178) C dX11_tired_79 rfl rfl (by omega) (by omega) (fun d1 => ?_) (fun d1 => ?_)
              · exact outk c hh mr _ _ _ B E F (fun z => ⟨(f1 z).1, fun k' w' q1 q2 => (f1 z).2 k' w' (by omega) q2⟩) f2
              · refine R_al0 (n := 83) C dX11_tired_82 rfl ?_
                refine M_getR (n := 86) C fl_X11_61 dX11_tired_83 rfl rfl rfl ?_
                refine R_il4 (n := 88) C dX11_tired_86 rfl ?_
                refine M_iald (n := 89) C dX11_tired_88 rfl k10 (E k k10) rfl ?_
                refine R_ldc (n := 91) C dX11_tired_89 kc_X11_236 rfl ?_
                refine R_eq (y := nI 1000000) (by decide +kernel) ?_
                refine R_icmp_geN (tgt := 178) C dX11_tired_91 rfl rfl (by omega) (by omega) (fun d2 => ?_) (fun d2 => ?_)
                · refine outk c hh mr _ _ _ B E F (fun z => ⟨(f1 z).1, fun k' w' q1 q2 q3 q4 => ?_⟩) f2
                  by_cases e : k' = k
                  · rw [e] at q4; omega
                  · exact (f1 z).2 k' w' (by omega) q2 q3 q4
                · have cf := B.far d2
                  refine R_al0 (n := 95) C dX11_tired_94 rfl ?_
                  refine R_il5 (n := 97) C dX11_tired_95 rfl ?_
                  refine M_callV (n := 100) C (c_mIsKnown _ _ _ r R1 J _) mw_X11_isKnown ml_X11_155 iv_X11_isKnown dX11_tired_97 rfl rfl rfl rfl (Nat.le_of_ble_eq_true rfl) ⟨Nat.le_of_ble_eq_true rfl, Nat.le_of_ble_eq_true rfl⟩ ⟨Nat.le_refl _, Nat.le_refl _⟩ rfl (pEs ?_)
                  rw [hW, kwz_n d1]
                  refine R_if_eqB (tgt := 114) C dX11_tired_100 rfl rfl (fun d3 => ?_) (fun d3 => ?_)
                  ·
                    refine R_il4 (n := 116) C dX11_tired_114 rfl ?_
                    refine R_is6 (n := 118) C dX11_tired_116 rfl (Nat.le_of_ble_eq_true rfl) rfl ?_
                    refine R_al0 (n := 119) C dX11_tired_118 rfl ?_
                    refine M_getR (n := 122) C fl_X11_61 dX11_tired_119 rfl rfl rfl ?_
                    refine R_il4 (n := 124) C dX11_tired_122 rfl ?_
                    refine M_iald (n := 125) C dX11_tired_124 rfl k10 (E k k10) rfl ?_
                    refine R_al0 (n := 126) C dX11_tired_125 rfl ?_
                    refine R_il5 (n := 128) C dX11_tired_126 rfl ?_
                    refine M_callV (n := 131) C (c_mIsKnown _ _ _ r R1 J _) mw_X11_isKnown ml_X11_155 iv_X11_isKnown dX11_tired_128 rfl rfl rfl rfl (Nat.le_of_ble_eq_true rfl) ⟨Nat.le_of_ble_eq_true rfl, Nat.le_of_ble_eq_true rfl⟩ ⟨Nat.le_refl _, Nat.le_refl _⟩ rfl (pEs ?_)
                    rw [hW, kwz_n d1, d3]
                    refine R_if_eqB (tgt := 145) C dX11_tired_131 rfl rfl (fun d4 => ?_) (fun d4 => ?_)
                    · refine R_ic (n := 146) C dX11_tired_145 ci_0 rfl ?_
                      refine R_iaddN (n := 147) C dX11_tired_146 rfl ?_
                      refine R_is7 (n := 149) C dX11_tired_147 rfl (Nat.le_of_ble_eq_true rfl) rfl ?_
                      refine R_il7 (n := 151) C dX11_tired_149 rfl ?_
                      refine R_al0 (n := 152) C dX11_tired_151 rfl ?_
                      refine M_getR (n := 155) C fl_X11_61 dX11_tired_152 rfl rfl rfl ?_
                      refine R_il6 (n := 157) C dX11_tired_155 rfl ?_
                      refine M_iald (n := 158) C dX11_tired_157 rfl k10 (E k k10) rfl ?_
                      refine R_icmp_geN (tgt := 172) C dX11_tired_158 rfl rfl (by omega) (by omega) (fun d5 => ?_) (fun d5 => ?_)
                      · refine R_inc5 (n := 175) C dX11_tired_172 rfl (Nat.le_of_ble_eq_true rfl) (inc_1 _) rfl ?_
                        refine R_goto (n := 75) C dX11_tired_175 rfl ?_
                        refine ih (w + 1) c hh mr _ _ (by omega) (by omega) B E F (fun z => ⟨(f1 z).1, fun k' w' q1 q2 q3 q4 => ?_⟩) f2
                        by_cases e : k' = k ∧ w' = w
                        · rw [e.2, d3] at q3; cases q3
                        · exact (f1 z).2 k' w' (by omega) q2 q3 q4
                      · omega
                    · cases d4
                  · obtain ⟨t, ht⟩ : ∃ t, trz σ w k = t := ⟨_, rfl⟩
                    have t10 : t < 1024 := by rw [← ht]; exact trz_1024 J
                    have q15 := tqz_le J (w := w) (l := k) d1
                    have ct := B.2.1 t
                    refine R_al0 (n := 104) C dX11_tired_103 rfl ?_
                    refine R_il4 (n := 106) C dX11_tired_104 rfl ?_
                    refine R_il5 (n := 108) C dX11_tired_106 rfl ?_
                    refine M_callV (n := 111) C (c_mSaidTo _ _ _ r R1 J k10 d1) mw_X11_saidTo ml_X11_214 iv_X11_saidTo dX11_tired_108 rfl rfl rfl rfl (Nat.le_of_ble_eq_true rfl) ⟨Nat.le_of_ble_eq_true rfl, Nat.le_of_ble_eq_true rfl⟩ ⟨Nat.le_refl _, Nat.le_refl _⟩ rfl (pEs ?_)
                    refine R_goto (n := 116) C dX11_tired_111 rfl ?_
                    rw [ht]
                    refine R_is6 (n := 118) C dX11_tired_116 rfl (Nat.le_of_ble_eq_true rfl) rfl ?_
                    refine R_al0 (n := 119) C dX11_tired_118 rfl ?_
                    refine M_getR (n := 122) C fl_X11_61 dX11_tired_119 rfl rfl rfl ?_
                    refine R_il4 (n := 124) C dX11_tired_122 rfl ?_
                    refine M_iald (n := 125) C dX11_tired_124 rfl k10 (E k k10) rfl ?_
                    refine R_al0 (n := 126) C dX11_tired_125 rfl ?_
                    refine R_il5 (n := 128) C dX11_tired_126 rfl ?_
                    refine M_callV (n := 131) C (c_mIsKnown _ _ _ r R1 J _) mw_X11_isKnown ml_X11_155 iv_X11_isKnown dX11_tired_128 rfl rfl rfl rfl (Nat.le_of_ble_eq_true rfl) ⟨Nat.le_of_ble_eq_true rfl, Nat.le_of_ble_eq_true rfl⟩ ⟨Nat.le_refl _, Nat.le_refl _⟩ rfl (pEs ?_)
                    rw [hW, kwz_n d1, d3]
                    refine R_if_eqB (tgt := 145) C dX11_tired_131 rfl rfl (fun d4 => ?_) (fun d4 => ?_)
                    · cases d4
                    · refine R_al0 (n := 135) C dX11_tired_134 rfl ?_
                      refine R_il4 (n := 137) C dX11_tired_135 rfl ?_
                      refine R_il5 (n := 139) C dX11_tired_137 rfl ?_
                      refine M_callV (n := 142) C (c_mQuartersOf _ _ _ r R1 J k10 d1) mw_X11_quartersOf ml_X11_237 iv_X11_quartersOf dX11_tired_139 rfl rfl rfl rfl (Nat.le_of_ble_eq_true rfl) ⟨Nat.le_of_ble_eq_true rfl, Nat.le_of_ble_eq_true rfl⟩ ⟨Nat.le_refl _, Nat.le_refl _⟩ rfl (pEs ?_)
                      refine R_goto (n := 146) C dX11_tired_142 rfl ?_
                      refine R_iaddN (n := 147) C dX11_tired_146 rfl ?_
                      refine R_is7 (n := 149) C dX11_tired_147 rfl (Nat.le_of_ble_eq_true rfl) rfl ?_
                      refine R_il7 (n := 151) C dX11_tired_149 rfl ?_
                      refine R_al0 (n := 152) C dX11_tired_151 rfl ?_
                      refine M_getR (n := 155) C fl_X11_61 dX11_tired_152 rfl rfl rfl ?_
                      refine R_il6 (n := 157) C dX11_tired_155 rfl ?_
                      refine M_iald (n := 158) C dX11_tired_157 rfl t10 (E t t10) rfl ?_
                      refine R_icmp_geN (tgt := 172) C dX11_tired_158 rfl rfl (by omega) (by omega) (fun d5 => ?_) (fun d5 => ?_)
                      · refine R_inc5 (n := 175) C dX11_tired_172 rfl (Nat.le_of_ble_eq_true rfl) (inc_1 _) rfl ?_
                        refine R_goto (n := 75) C dX11_tired_175 rfl ?_
                        refine ih (w + 1) c hh mr _ _ (by omega) (by omega) B E F (fun z => ⟨(f1 z).1, fun k' w' q1 q2 q3 q4 => ?_⟩) f2
                        by_cases e : k' = k ∧ w' = w
                        · rw [e.1, e.2, ht]; exact d5
                        · exact (f1 z).2 k' w' (by omega) q2 q3 q4
                      · obtain ⟨B', S'⟩ := B.up J d2 d1 d3 ht d5
                        refine R_al0 (n := 162) C dX11_tired_161 rfl ?_
                        refine M_getR (n := 165) C fl_X11_61 dX11_tired_162 rfl rfl rfl ?_
                        refine R_il6 (n := 167) C dX11_tired_165 rfl ?_
                        refine R_il7 (n := 169) C dX11_tired_167 rfl ?_
                        refine M_iast (n := 170) C dX11_tired_169 rfl t10 rfl ?_
                        refine R_ic (n := 171) C dX11_tired_170 ci_1 rfl ?_
                        refine R_eq (y := bI true) rfl ?_
                        refine R_is3 (n := 172) C dX11_tired_171 rfl (Nat.le_of_ble_eq_true rfl) rfl ?_
                        refine R_inc5 (n := 175) C dX11_tired_172 rfl (Nat.le_of_ble_eq_true rfl) (inc_1 _) rfl ?_
                        refine R_goto (n := 75) C dX11_tired_175 rfl ?_
                        refine ih (w + 1) _ _ true _ _ (by omega) (by omega) B' (fun x hx => ?_) (F.up (by decide) (by decide)) (fun z => by cases z) (fun _ => ?_)
                        · rw [up2_at, updN]
                          split
                          · rfl
                          · exact E x hx
                        · cases g : mr with
                          | false => have := (f1 g).1; omega
                          | true => have := f2 g; omega
          have outer : ∀ (m k : Nat) (c : Nat → Nat) (hh : Hp) (mr : Bool) (o5 o6 o7 : Option Value), N < k + m → k ≤ N → BFc σ W c → RC c hh → FrA [91] [] h hh → (mr = false → sm c 1024 ≤ sm c0 1024 ∧ RLX σ W c k 0) → (mr = true → sm c 1024 < sm c0 1024) → Rn X 0 0 63 [some (.ref (r 73)), some (.int (nI s)), some (.int (nI b)), some (.int (bI mr)), some (.int (nI k)), o5, o6, o7] [] (LY r) hh := by
            intro m
            induction m with
            | zero => intro k c hh mr o5 o6 o7 a1 a2; omega
            | succ m ih =>
              intro k c hh mr o5 o6 o7 b1' b2' B E F f1 f2
              have R1 := F.rm Rh (by decide) (by decide)
              refine R_il4 (n := 65) C dX11_tired_63 rfl ?_
              refine R_al0 (n := 66) C dX11_tired_65 rfl ?_
              refine M_callV (n := 69) C (c_mAll _ _ _ r R1 J) mw_X11_all ml_X11_220 iv_X11_all dX11_tired_66 rfl rfl rfl rfl (Nat.le_of_ble_eq_true rfl) ⟨Nat.le_of_ble_eq_true rfl, Nat.le_of_ble_eq_true rfl⟩ ⟨Nat.le_refl _, Nat.le_refl _⟩ rfl (pEs ?_)
              rw [hN]
              refine R_icmp_geN (tgt := 184) C dX11_tired_69 rfl rfl (by omega) (by omega) (fun d1 => ?_) (fun d1 => ?_)
              · obtain rfl : k = N := by omega
                refine R_goto (n := 54) C dX11_tired_184 rfl ?_
                cases g : mr with
                | true =>
                  exact ihM c hh _ _ _ _ (by have := f2 g; omega) B E F
                | false =>
                  refine R_il3 (n := 55) C dX11_tired_54 rfl ?_
                  refine R_if_eqB (tgt := 187) C dX11_tired_55 rfl rfl (fun d2 => ?_) (fun d2 => ?_)
                  · exact fin c hh _ _ _ _ B (f1 g).2 E F
                  · cases d2
              · refine R_ic (n := 73) C dX11_tired_72 ci_0 rfl ?_
                refine R_is5 (n := 75) C dX11_tired_73 rfl (Nat.le_of_ble_eq_true rfl) rfl ?_
                refine inner k d1 (fun c' hh' mr' p5 p6 p7 B' E' F' g1 g2 => ?_) 7 0 c hh mr _ _ (by omega) (by omega) B E F f1 f2
                refine R_inc4 (n := 181) C dX11_tired_178 rfl (Nat.le_of_ble_eq_true rfl) (inc_1 _) rfl ?_
                refine R_goto (n := 63) C dX11_tired_181 rfl ?_
                exact ih (k + 1) c' hh' mr' _ _ _ (by omega) (by omega) B' E' F' g1 g2
          refine R_il3 (n := 55) C dX11_tired_54 rfl ?_
          refine R_if_eqB (tgt := 187) C dX11_tired_55 rfl rfl (fun d0 => ?_) (fun d0 => ?_)
          · cases d0
          · refine R_ic (n := 59) C dX11_tired_58 ci_0 rfl ?_
            refine R_eq (y := bI false) rfl ?_
            refine R_is3 (n := 60) C dX11_tired_59 rfl (Nat.le_of_ble_eq_true rfl) rfl ?_
            refine R_ic (n := 61) C dX11_tired_60 ci_0 rfl ?_
            refine R_is4 (n := 63) C dX11_tired_61 rfl (Nat.le_of_ble_eq_true rfl) rfl ?_
            exact outer (N + 1) 0 c0 hh0 false _ _ _ (by omega) (by omega) B0 E0 F0 (fun _ => ⟨Nat.le_refl _, fun k' w' q => by omega⟩) (fun z => by cases z)
      have fill : ∀ (m i : Nat) (hh : Hp), 1024 < i + m → i ≤ 1024 → (∀ x, x < i → hh 91 x = nI 1000000) → FrA [91] [] h hh → Rn X 0 0 21 [some (.ref (r 73)), some (.int (nI s)), some (.int (nI b)), some (.int (nI i)), none, none, none, none] [] (LY r) hh := by
        intro m
        induction m with
        | zero => intro i hh a1 a2; omega
        | succ m ih =>
          intro i hh a1 a2 A F
          refine R_il3 (n := 22) C dX11_tired_21 rfl ?_
          refine R_sp (n := 25) C dX11_tired_22 cs_1024 rfl ?_
          refine R_icmp_geN (tgt := 42) C dX11_tired_25 rfl rfl (by omega) (by omega) (fun d1 => ?_) (fun d1 => ?_)
          · obtain rfl : i = 1024 := by omega
            have R1 := F.rm Rh (by decide) (by decide)
            refine R_al0 (n := 43) C dX11_tired_42 rfl ?_
            refine M_getR (n := 46) C fl_X11_61 dX11_tired_43 rfl rfl rfl ?_
            refine R_al0 (n := 47) C dX11_tired_46 rfl ?_
            refine M_callV (n := 50) C (c_mLookNow _ _ _ r R1 J) mw_X11_lookNow ml_X11_211 iv_X11_lookNow dX11_tired_47 rfl rfl rfl rfl (Nat.le_of_ble_eq_true rfl) ⟨Nat.le_of_ble_eq_true rfl, Nat.le_of_ble_eq_true rfl⟩ ⟨Nat.le_refl _, Nat.le_refl _⟩ rfl (pEs ?_)
            refine R_ic (n := 51) C dX11_tired_50 ci_0 rfl ?_
            refine M_iast (n := 52) C dX11_tired_51 rfl nu rfl ?_
            refine R_ic (n := 53) C dX11_tired_52 ci_1 rfl ?_
            refine R_eq (y := bI true) rfl ?_
            refine R_is3 (n := 54) C dX11_tired_53 rfl (Nat.le_of_ble_eq_true rfl) rfl ?_
            refine pass (sm (fun x => if x = nuz σ then 0 else 1000000) 1024 + 1) (fun x => if x = nuz σ then 0 else 1000000) _ _ _ _ _ (by omega) (BFc.st J) (fun x hx => ?_) (F.up (by decide) (by decide))
            rw [up2_at]
            show _ = nI (if x = nuz σ then 0 else 1000000)
            split
            · rfl
            · exact A x hx
          · refine R_al0 (n := 29) C dX11_tired_28 rfl ?_
            refine M_getR (n := 32) C fl_X11_61 dX11_tired_29 rfl rfl rfl ?_
            refine R_il3 (n := 33) C dX11_tired_32 rfl ?_
            refine R_ldc (n := 35) C dX11_tired_33 kc_X11_236 rfl ?_
            refine R_eq (y := nI 1000000) (by decide +kernel) ?_
            refine M_iast (n := 36) C dX11_tired_35 rfl d1 rfl ?_
            refine R_inc3 (n := 39) C dX11_tired_36 rfl (Nat.le_of_ble_eq_true rfl) (inc_1 _) rfl ?_
            refine R_goto (n := 21) C dX11_tired_39 rfl ?_
            refine ih (i + 1) _ (by omega) (by omega) (fun x hx => ?_) (F.up (by decide) (by decide))
            rw [up2_at]
            split
            · rfl
            · exact A x (by omega)
      refine R_ic (n := 20) C dX11_tired_19 ci_0 rfl ?_
      refine R_is3 (n := 21) C dX11_tired_20 rfl (Nat.le_of_ble_eq_true rfl) rfl ?_
      exact fill 1025 0 h (by omega) (by omega) (fun x hx => absurd hx (Nat.not_lt_zero x)) FrA.rf
    · exact out (by rw [okA, c2, Bool.and_false])
