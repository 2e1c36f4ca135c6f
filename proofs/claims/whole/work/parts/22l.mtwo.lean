set_option maxRecDepth 20000 in
set_option maxHeartbeats 4000000 in
theorem c_mBeginTwo (l : Launch) (D : va_G) (cA : Nat → ClassId) (r : Nat → Nat) {h : Hp} {a b : Nat} (ha : a < 4) (hb : b < 4) : Cn l D cA yX11_beginTwo cX11_beginTwo 5 none 0 0 0 [.ref (r 73), .int (nI a), .int (nI b)] (LY r) h (pG none (LY r) (fun h' => RTM (tw0 a b).1 (tw0 a b).2 h' ∧ FrA [95, 96] [] h h')) := by
  refine Cn.of (lv := [some (.ref (r 73)), some (.int (nI a)), some (.int (nI b)), none, none]) (by decide +kernel) (Nat.le_of_ble_eq_true rfl) rfl (fun X hnm C CR => ?_)
  have start : ∀ (m i : Nat) (hh : Hp) (o : Option Value), 8 < i + m → i ≤ 8 → (∀ q, q < i → hh 95 q = nI ((tw0 a b).1 (q / 2) (q % 2)) ∧ hh 96 q = nI ((tw0 a b).2 (q / 2) (q % 2))) → FrA [95, 96] [] h hh → Rn X 0 0 2 [some (.ref (r 73)), some (.int (nI a)), some (.int (nI b)), some (.int (nI i)), o] [] (LY r) hh := by
    intro m
    induction m with
    | zero => intro i hh o a1 a2; omega
    | succ m ih =>
      intro i hh o a1 a2 E F
      refine R_il3 (n := 3) C dX11_beginTwo_2 rfl ?_
      refine R_bp (n := 5) C dX11_beginTwo_3 cb_8 rfl ?_
      refine R_icmp_geN (tgt := 53) C dX11_beginTwo_5 rfl rfl (by omega) (by omega) (fun c1 => ?_) (fun c1 => ?_)
      · refine R_vret C CR (Nat.zero_le _) (Nat.zero_le _) dX11_beginTwo_53 ?_
        exact ⟨rfl, rfl, fun q hq => E q (by omega), F⟩
      · have fin : ∀ v, v = (tw0 a b).1 (i / 2) (i % 2) → Rn X 0 0 39 [some (.ref (r 73)), some (.int (nI a)), some (.int (nI b)), some (.int (nI i)), some (.int (nI (i / 2)))] [.int (nI v), .int (nI i), .ref (r 95)] (LY r) hh := by
          intro v hv
          refine M_iast (n := 40) C dX11_beginTwo_39 rfl c1 rfl ?_
          refine R_al0 (n := 41) C dX11_beginTwo_40 rfl ?_
          refine M_getR (n := 44) C fl_X11_77 dX11_beginTwo_41 rfl rfl rfl ?_
          refine R_il3 (n := 45) C dX11_beginTwo_44 rfl ?_
          refine R_ic (n := 46) C dX11_beginTwo_45 ci_0 rfl ?_
          refine M_iast (n := 47) C dX11_beginTwo_46 rfl c1 rfl ?_
          refine R_inc3 (n := 50) C dX11_beginTwo_47 rfl (Nat.le_of_ble_eq_true rfl) (inc_1 _) rfl ?_
          refine R_goto (n := 2) C dX11_beginTwo_50 rfl ?_
          refine ih (i + 1) _ _ (by omega) (by omega) (fun q hq => ⟨?_, ?_⟩) ((F.up (by decide) (by decide)).up (by decide) (by decide))
          · rw [up2_row (by decide), up2_at]
            split
            · rename_i e; rw [e, hv]
            · exact (E q (by omega)).1
          · rw [up2_at]
            split
            · rfl
            · rw [up2_row (by decide)]
              exact (E q (by omega)).2
        refine R_il3 (n := 9) C dX11_beginTwo_8 rfl ?_
        refine R_ic (n := 10) C dX11_beginTwo_9 ci_2 rfl ?_
        refine R_idivN (n := 11) C dX11_beginTwo_10 (by omega) (by omega) (by omega) rfl ?_
        refine R_is4 (n := 13) C dX11_beginTwo_11 rfl (Nat.le_of_ble_eq_true rfl) rfl ?_
        refine R_al0 (n := 14) C dX11_beginTwo_13 rfl ?_
        refine M_getR (n := 17) C fl_X11_74 dX11_beginTwo_14 rfl rfl rfl ?_
        refine R_il3 (n := 18) C dX11_beginTwo_17 rfl ?_
        refine R_il4 (n := 20) C dX11_beginTwo_18 rfl ?_
        refine R_il1 (n := 21) C dX11_beginTwo_20 rfl ?_
        refine R_icmp_neN (tgt := 28) C dX11_beginTwo_21 rfl rfl (by omega) (by omega) (fun c2 => ?_) (fun c2 => ?_)
        · refine R_il4 (n := 30) C dX11_beginTwo_28 rfl ?_
          refine R_il2 (n := 31) C dX11_beginTwo_30 rfl ?_
          refine R_icmp_neN (tgt := 38) C dX11_beginTwo_31 rfl rfl (by omega) (by omega) (fun c3 => ?_) (fun c3 => ?_)
          · refine R_ic (n := 39) C dX11_beginTwo_38 ci_2 rfl ?_
            exact fin 2 (by simp [tw0, c2, c3])
          · refine R_ic (n := 35) C dX11_beginTwo_34 ci_1 rfl ?_
            refine R_goto (n := 39) C dX11_beginTwo_35 rfl ?_
            exact fin 1 (by simp only [tw0]; rw [if_neg c2, if_pos c3])
        · refine R_ic (n := 25) C dX11_beginTwo_24 ci_0 rfl ?_
          refine R_goto (n := 39) C dX11_beginTwo_25 rfl ?_
          exact fin 0 (by simp only [tw0]; rw [if_pos c2])
  refine R_ic (n := 1) C dX11_beginTwo_0 ci_0 rfl ?_
  refine R_is3 (n := 2) C dX11_beginTwo_1 rfl (Nat.le_of_ble_eq_true rfl) rfl ?_
  exact start 9 0 h none (by omega) (by omega) (fun q hq => absurd hq (Nat.not_lt_zero q)) FrA.rf
theorem and_com : ∀ s, s < 64 → ∀ kn, kn < 64 → nI s &&& (nI kn ^^^ (-1)) = nI (s &&& (63 ^^^ kn)) := by decide +kernel
theorem kaz_n {kn s : Nat} (hk : kn < 64) (hs : s < 64) : kaz kn (nI s) = (decide (1 ≤ s) && decide (s &&& (63 ^^^ kn) = 0)) := by
  unfold kaz
  rw [and_com s hs kn hk]
  have z : s &&& (63 ^^^ kn) < 2 ^ 31 := Nat.lt_of_le_of_lt Nat.and_le_left (by omega)
  have e1 : decide (nI s = 0) = decide (s = 0) := decide_eq_decide.mpr (nI_eq (by omega) (by decide))
  have e2 : decide (nI (s &&& (63 ^^^ kn)) = 0) = decide (s &&& (63 ^^^ kn) = 0) := decide_eq_decide.mpr (nI_eq z (by decide))
  rw [e1, e2]
  by_cases g : s = 0
  · subst g; rfl
  · rw [decide_eq_false g, decide_eq_true (show 1 ≤ s by omega)]; rfl
theorem or_and_0 {a b m : Nat} : ((a ||| b) &&& m = 0) ↔ (a &&& m = 0 ∧ b &&& m = 0) := by
  rw [Nat.and_or_distrib_right]
  exact Nat.or_eq_zero_iff
set_option maxRecDepth 20000 in
set_option maxHeartbeats 4000000 in
theorem m_two (l : Launch) (D : va_G) (cA : Nat → ClassId) (r : Nat → Nat) {h : Hp} {G : GS} (R : RMo G h) (J : InvG G) (hu av bv u0 u1 wh : Int32) : Cn l D cA yX11_two cX11_two 11 (some .int) 3 0 0 [.ref (r 73), .int hu, .int av, .int bv, .int u0, .int u1, .int wh] (LY r) h (pG (some (.int (aTwo G hu av bv u0 u1 wh))) (LY r) (fun h' => RMo G h' ∧ FrM h h')) := by
  refine Cn.of (lv := [some (.ref (r 73)), some (.int hu), some (.int av), some (.int bv), some (.int u0), some (.int u1), some (.int wh), none, none, none, none]) (by decide +kernel) (Nat.le_of_ble_eq_true rfl) rfl (fun X hnm C CR => ?_)
  have n5 := J.1.n5
  have knb := J.1.kn
  refine R_al0 (n := 1) C dX11_two_0 rfl ?_
  refine R_il1 (n := 2) C dX11_two_1 rfl ?_
  refine M_callV (n := 5) C (c_mIsHut _ _ _ r R.1 J.1 _) mw_X11_isHut ml_X11_112 iv_X11_isHut dX11_two_2 rfl rfl rfl rfl (Nat.le_of_ble_eq_true rfl) ⟨Nat.le_of_ble_eq_true rfl, Nat.le_of_ble_eq_true rfl⟩ ⟨Nat.le_refl _, Nat.le_refl _⟩ rfl (pEs ?_)
  refine R_if_neB (tgt := 10) C dX11_two_5 rfl rfl (fun c1 => ?_) (fun c1 => ?_)
  · obtain ⟨k, hk', rfl, hk2⟩ := hasH_of J.1 c1
    have hk : k < 5 := by omega
    rw [aTwo, c1, if_pos rfl, hk2] at CR
    obtain ⟨S1, hS1⟩ : ∃ S1, (win av (nI 0) (nI 3) && (win bv (nI 0) (nI 3) && !decide (av = bv))) = S1 := ⟨_, rfl⟩
    obtain ⟨S2, hS2⟩ : ∃ S2, (kaz (sKn (gS G)) u0 && kaz (sKn (gS G)) u1) = S2 := ⟨_, rfl⟩
    rw [show (kaz (sKn (gS G)) u0 && (kaz (sKn (gS G)) u1 && win wh (nI 0) (nI 1))) = (S2 && win wh (nI 0) (nI 1)) by rw [← Bool.and_assoc, hS2], hS1] at CR
    have bad : (S1 && (S2 && win wh (nI 0) (nI 1))) = false → Rn X 0 0 105 [some (.ref (r 73)), some (.int (nI k)), some (.int av), some (.int bv), some (.int u0), some (.int u1), some (.int wh), some (.int (bI S1)), some (.int (bI S2)), none, none] [] (LY r) h := by
      intro q
      rw [q] at CR
      refine R_bp (n := 107) C dX11_two_105 cb_m2 rfl ?_
      refine R_iret C CR (Nat.zero_le _) (Nat.zero_le _) dX11_two_107 ?_
      exact ⟨rfl, rfl, R, FrM.rf⟩
    have main : S1 = true → S2 = true → win wh (nI 0) (nI 1) = true → Rn X 0 0 108 [some (.ref (r 73)), some (.int (nI k)), some (.int av), some (.int bv), some (.int u0), some (.int u1), some (.int wh), some (.int (bI S1)), some (.int (bI S2)), none, none] [] (LY r) h := by
      intro t1 t2 t3
      rw [t1] at hS1
      rw [t2] at hS2
      rw [t1, t2, t3, if_pos (by decide)] at CR
      rw [Bool.and_eq_true, Bool.and_eq_true] at hS1
      rw [Bool.and_eq_true] at hS2
      clear bad
      obtain ⟨a, _, ha', rfl⟩ := win_of (by decide) (by decide) hS1.1
      obtain ⟨b, _, hb', rfl⟩ := win_of (by decide) (by decide) hS1.2.1
      obtain ⟨x7, _, b7, rfl⟩ := win_of (by decide) (by decide) t3
      obtain ⟨w0, h0, rfl⟩ := kaz_of knb hS2.1
      obtain ⟨w1, h1, rfl⟩ := kaz_of knb hS2.2
      have e2 : cl (nI a) = a := nI_clamp (by omega)
      have e3 : cl (nI b) = b := nI_clamp (by omega)
      have e7 : cl (nI x7) = x7 := nI_clamp (by omega)
      have e5 : cl (nI w0) = w0 := nI_clamp (by omega)
      have e6 : cl (nI w1) = w1 := nI_clamp (by omega)
      rw [e2, e3, e5, e6, e7] at CR
      have lk := J.1.lk (k := k) (by omega)
      obtain ⟨σ, hσ⟩ : ∃ σ, gS G = σ := ⟨_, rfl⟩
      have I : Inv σ := by rw [← hσ]; exact J.1
      have Rh := R.1
      rw [hσ] at CR lk Rh
      have fin : ∀ (h2 : Hp) (o10 : Option Value), RTM (twz σ k w0 w1 a b 8).1 (twz σ k w0 w1 a b 8).2 h2 → FrA [95, 96] [] h h2 → Rn X 0 0 180 [some (.ref (r 73)), some (.int (nI k)), some (.int (nI a)), some (.int (nI b)), some (.int (nI w0)), some (.int (nI w1)), some (.int (nI x7)), some (.int (bI S1)), some (.int (bI S2)), some (.int (nI 9)), o10] [] (LY r) h2 := by
        intro h2 o10 E F
        have R2 := F.rm Rh (by decide) (by decide)
        have W := R.t (F.mono (by decide) (by decide))
        have Eq := E (2 * sA σ 0 k) (by omega)
        have ok := twz_ok (σ := σ) (k := k) (w0 := w0) (w1 := w1) (a := a) (b := b) 8 (sA σ 0 k) 0 (by decide)
        rw [show 2 * sA σ 0 k / 2 = sA σ 0 k by omega, show 2 * sA σ 0 k % 2 = 0 by omega] at Eq
        refine R_ic (n := 181) C dX11_two_180 ci_2 rfl ?_
        refine R_al0 (n := 182) C dX11_two_181 rfl ?_
        refine M_getR (n := 185) C fl_X11_7 dX11_two_182 rfl rfl rfl ?_
        refine R_il1 (n := 186) C dX11_two_185 rfl ?_
        refine M_iald (n := 187) C dX11_two_186 rfl hk (mLk R2 hk) rfl ?_
        refine R_imulN (n := 188) C dX11_two_187 rfl ?_
        refine R_is9 (n := 190) C dX11_two_188 rfl (Nat.le_of_ble_eq_true rfl) rfl ?_
        refine R_il6 (n := 192) C dX11_two_190 rfl ?_
        refine R_if_neN (tgt := 205) C dX11_two_192 rfl rfl (by omega) (fun d1 => ?_) (fun d1 => ?_)
        · rw [if_neg d1] at CR
          refine R_al0 (n := 206) C dX11_two_205 rfl ?_
          refine M_getR (n := 209) C fl_X11_74 dX11_two_206 rfl rfl rfl ?_
          refine R_il9 (n := 211) C dX11_two_209 rfl ?_
          refine M_iald (n := 212) C dX11_two_211 rfl (by omega) Eq.1 rfl ?_
          refine R_ic (n := 213) C dX11_two_212 ci_2 rfl ?_
          refine R_icmp_neN (tgt := 220) C dX11_two_213 rfl rfl (by omega) (by omega) (fun d2 => ?_) (fun d2 => ?_)
          · refine R_al0 (n := 221) C dX11_two_220 rfl ?_
            refine M_getR (n := 224) C fl_X11_77 dX11_two_221 rfl rfl rfl ?_
            refine R_il9 (n := 226) C dX11_two_224 rfl ?_
            refine M_iald (n := 227) C dX11_two_226 rfl (by omega) Eq.2 rfl ?_
            refine R_iret C CR (Nat.zero_le _) (Nat.zero_le _) dX11_two_227 ?_
            exact ⟨rfl, rfl, W⟩
          · rw [ok.2.2 d2] at CR
            refine R_ic (n := 217) C dX11_two_216 ci_0 rfl ?_
            refine R_goto (n := 227) C dX11_two_217 rfl ?_
            refine R_iret C CR (Nat.zero_le _) (Nat.zero_le _) dX11_two_227 ?_
            exact ⟨rfl, rfl, W⟩
        · rw [if_pos d1] at CR
          refine R_al0 (n := 196) C dX11_two_195 rfl ?_
          refine M_getR (n := 199) C fl_X11_74 dX11_two_196 rfl rfl rfl ?_
          refine R_il9 (n := 201) C dX11_two_199 rfl ?_
          refine M_iald (n := 202) C dX11_two_201 rfl (by omega) Eq.1 rfl ?_
          refine R_goto (n := 227) C dX11_two_202 rfl ?_
          refine R_iret C CR (Nat.zero_le _) (Nat.zero_le _) dX11_two_227 ?_
          exact ⟨rfl, rfl, W⟩
      have inner : ∀ (n : Nat), 1 ≤ n → n ≤ 8 → (∀ h2 : Hp, RTM (twz σ k w0 w1 a b n).1 (twz σ k w0 w1 a b n).2 h2 → FrA [95, 96] [] h h2 → Rn X 0 0 174 [some (.ref (r 73)), some (.int (nI k)), some (.int (nI a)), some (.int (nI b)), some (.int (nI w0)), some (.int (nI w1)), some (.int (nI x7)), some (.int (bI S1)), some (.int (bI S2)), some (.int (nI n)), some (.int (nI 8))] [] (LY r) h2) → ∀ (m p : Nat) (hh : Hp) (Wm Bm : Nat → Nat → Nat), 8 < p + m → p ≤ 8 → RTM Wm Bm hh → FrA [95, 96] [] h hh → (∀ q, q < 8 → (q < p → Wm (q / 2) (q % 2) = (twz σ k w0 w1 a b n).1 (q / 2) (q % 2) ∧ Bm (q / 2) (q % 2) = (twz σ k w0 w1 a b n).2 (q / 2) (q % 2)) ∧ (p ≤ q → Wm (q / 2) (q % 2) = (twz σ k w0 w1 a b (n - 1)).1 (q / 2) (q % 2) ∧ Bm (q / 2) (q % 2) = (twz σ k w0 w1 a b (n - 1)).2 (q / 2) (q % 2))) → Rn X 0 0 127 [some (.ref (r 73)), some (.int (nI k)), some (.int (nI a)), some (.int (nI b)), some (.int (nI w0)), some (.int (nI w1)), some (.int (nI x7)), some (.int (bI S1)), some (.int (bI S2)), some (.int (nI n)), some (.int (nI p))] [] (LY r) hh := by
        intro n n1 n8 out m
        obtain ⟨n', rfl⟩ : ∃ n', n = n' + 1 := ⟨n - 1, by omega⟩
        rw [Nat.add_sub_cancel]
        obtain ⟨T, hT⟩ : ∃ T, twz σ k w0 w1 a b n' = T := ⟨_, rfl⟩
        have hT2 : twz σ k w0 w1 a b (n' + 1) = tst σ k w0 w1 (n' + 1) T := by rw [← hT]; rfl
        have Tok : ∀ w s, s < 2 → T.1 w s ≤ 2 ∧ T.2 w s < n' + 1 := fun w s hs => by
          have := twz_ok (σ := σ) (k := k) (w0 := w0) (w1 := w1) (a := a) (b := b) n' w s hs
          rw [hT] at this
          exact ⟨this.1, by omega⟩
        rw [hT2] at out
        rw [hT2, hT]
        induction m with
        | zero => intro p hh Wm Bm a1 a2; omega
        | succ m ih =>
          intro p hh Wm Bm a1 a2 E F P
          have R1 := F.rm Rh (by decide) (by decide)
          refine R_il10 (n := 129) C dX11_two_127 rfl ?_
          refine R_bp (n := 131) C dX11_two_129 cb_8 rfl ?_
          refine R_icmp_geN (tgt := 174) C dX11_two_131 rfl rfl (by omega) (by omega) (fun c1 => ?_) (fun c1 => ?_)
          · obtain rfl : p = 8 := by omega
            exact out hh (fun q hq => by rw [← ((P q hq).1 hq).1, ← ((P q hq).1 hq).2]; exact E q hq) F
          · have Ep := E p c1
            have Pp := (P p c1).2 (Nat.le_refl _)
            have Wb := (Tok (p / 2) (p % 2) (by omega)).1
            rw [Pp.1] at Ep
            refine R_al0 (n := 135) C dX11_two_134 rfl ?_
            refine M_getR (n := 138) C fl_X11_74 dX11_two_135 rfl rfl rfl ?_
            refine R_il10 (n := 140) C dX11_two_138 rfl ?_
            refine M_iald (n := 141) C dX11_two_140 rfl c1 Ep.1 rfl ?_
            refine R_ic (n := 142) C dX11_two_141 ci_2 rfl ?_
            refine R_icmp_neN (tgt := 168) C dX11_two_142 rfl rfl (by omega) (by omega) (fun c2 => ?_) (fun c2 => ?_)
            · refine R_inc10 (n := 171) C dX11_two_168 rfl (Nat.le_of_ble_eq_true rfl) (inc_1 _) rfl ?_
              refine R_goto (n := 127) C dX11_two_171 rfl ?_
              refine ih (p + 1) hh Wm Bm (by omega) (by omega) E F (fun q hq => ⟨fun q1 => ?_, fun q1 => (P q hq).2 (by omega)⟩)
              by_cases e : q = p
              · subst e
                rw [Pp.1, Pp.2, tst_at.1, tst_at.2, if_neg c2, if_neg c2]
                exact ⟨rfl, rfl⟩
              · exact (P q hq).1 (by omega)
            · obtain ⟨w, hw⟩ : ∃ w, p / 2 = w := ⟨_, rfl⟩
              obtain ⟨s, hs⟩ : ∃ s, p % 2 = s := ⟨_, rfl⟩
              have hp : p = 2 * w + s := by omega
              obtain ⟨Wn, hWn⟩ : ∃ Wn : Nat → Nat → Nat, Wn = fun w s => if w < 4 ∧ s < 2 then Wm w s else T.1 w s := ⟨_, rfl⟩
              obtain ⟨Bn, hBn⟩ : ∃ Bn : Nat → Nat → Nat, Bn = fun w s => if w < 4 ∧ s < 2 then Bm w s else T.2 w s := ⟨_, rfl⟩
              have En : RTM Wn Bn hh := fun q hq => by
                rw [hWn, hBn]
                simp only
                rw [if_pos ⟨by omega, by omega⟩, if_pos ⟨by omega, by omega⟩]
                exact E q hq
              have Mn : Mix T (n' + 1) Wn Bn := fun w9 s9 h9 => by
                rw [hWn, hBn]
                simp only
                by_cases w4 : w9 < 4
                · rw [if_pos ⟨w4, h9⟩, if_pos ⟨w4, h9⟩]
                  have P9 := P (2 * w9 + s9) (by omega)
                  rw [show (2 * w9 + s9) / 2 = w9 by omega, show (2 * w9 + s9) % 2 = s9 by omega] at P9
                  by_cases lt : 2 * w9 + s9 < p
                  · obtain ⟨z1, z2⟩ := P9.1 lt
                    rw [tst_at.1] at z1
                    rw [tst_at.2] at z2
                    by_cases e2 : T.1 w9 s9 = 2
                    · rw [if_pos e2] at z1 z2
                      by_cases e3 : (exb (twn σ k (if s9 = 0 then w0 else w1) T.1 w9 s9) 6 || alb (tls σ k (if s9 = 0 then w0 else w1) T.1 w9 s9) 6) = true
                      · rw [if_pos e3] at z2
                        refine Or.inr ⟨e2, ?_, z2⟩
                        have zz : ∀ x y : Bool, (if x = true then s9 else if y = true then 1 - s9 else 2) ≤ 2 := by
                          intro x y
                          cases x <;> cases y <;> simp <;> omega
                        rw [z1]
                        exact zz _ _
                      · rw [if_neg e3] at z2
                        refine Or.inl ⟨?_, z2⟩
                        rw [Bool.or_eq_true, not_or] at e3
                        rw [z1, if_neg e3.1, if_neg e3.2, e2]
                    · rw [if_neg e2] at z1 z2
                      exact Or.inl ⟨z1, z2⟩
                  · exact Or.inl (P9.2 (by omega))
                · rw [if_neg (by omega), if_neg (by omega)]
                  exact Or.inl ⟨rfl, rfl⟩
              have go : ∀ ws, ws < 64 → ws = (if s = 0 then w0 else w1) → Rn X 0 0 165 [some (.ref (r 73)), some (.int (nI k)), some (.int (nI a)), some (.int (nI b)), some (.int (nI w0)), some (.int (nI w1)), some (.int (nI x7)), some (.int (bI S1)), some (.int (bI S2)), some (.int (nI (n' + 1))), some (.int (nI p))] [.int (nI ws), .int (nI (n' + 1)), .int (nI p), .int (nI k), .ref (r 73)] (LY r) hh := by
                intro ws wb we
                rw [hp]
                refine M_callV (n := 168) C (c_mSettle _ _ _ r R1 I hk wb n8 (by omega) (by omega) Tok Mn En) mw_X11_settle ml_X11_262 iv_X11_settle dX11_two_165 rfl rfl rfl rfl (Nat.le_of_ble_eq_true rfl) ⟨Nat.le_of_ble_eq_true rfl, Nat.le_of_ble_eq_true rfl⟩ ⟨Nat.le_refl _, Nat.le_refl _⟩ rfl (pGv (fun h2 q2 => ?_))
                refine R_inc10 (n := 171) C dX11_two_168 rfl (Nat.le_of_ble_eq_true rfl) (inc_1 _) rfl ?_
                refine R_goto (n := 127) C dX11_two_171 rfl ?_
                refine ih (2 * w + s + 1) h2 _ _ (by omega) (by omega) q2.1 (F.tr q2.2) (fun q hq => ⟨fun q1 => ?_, fun q1 => ?_⟩)
                · by_cases e : q = 2 * w + s
                  · subst e
                    rw [show (2 * w + s) / 2 = w by omega, show (2 * w + s) % 2 = s by omega, tst_at.1, tst_at.2]
                    rw [hw, hs] at c2 Pp
                    rw [if_pos c2, if_pos c2, ← we]
                    cases e1 : exb (twn σ k ws T.1 w s) 6 with
                    | true => simp [up3]
                    | false =>
                      cases e2 : alb (tls σ k ws T.1 w s) 6 with
                      | true => simp [up3]
                      | false =>
                        simp only [Bool.or_self, Bool.false_eq_true, if_false]
                        rw [hWn, hBn]
                        simp only
                        rw [if_pos ⟨by omega, by omega⟩, if_pos ⟨by omega, by omega⟩, Pp.1, Pp.2, c2]
                        exact ⟨rfl, rfl⟩
                  · have P9 := (P q hq).1 (by omega)
                    rw [← P9.1, ← P9.2]
                    have ne : ¬ (q / 2 = w ∧ q % 2 = s) := by omega
                    split
                    · simp only [up3, if_neg ne]
                      rw [hWn, hBn]
                      simp only
                      rw [if_pos ⟨by omega, by omega⟩, if_pos ⟨by omega, by omega⟩]
                      exact ⟨rfl, rfl⟩
                    · rw [hWn, hBn]
                      simp only
                      rw [if_pos ⟨by omega, by omega⟩, if_pos ⟨by omega, by omega⟩]
                      exact ⟨rfl, rfl⟩
                · have P9 := (P q hq).2 (by omega)
                  rw [← P9.1, ← P9.2]
                  have ne : ¬ (q / 2 = w ∧ q % 2 = s) := by omega
                  split
                  · simp only [up3, if_neg ne]
                    rw [hWn, hBn]
                    simp only
                    rw [if_pos ⟨by omega, by omega⟩, if_pos ⟨by omega, by omega⟩]
                    exact ⟨rfl, rfl⟩
                  · rw [hWn, hBn]
                    simp only
                    rw [if_pos ⟨by omega, by omega⟩, if_pos ⟨by omega, by omega⟩]
                    exact ⟨rfl, rfl⟩
              refine R_al0 (n := 146) C dX11_two_145 rfl ?_
              refine R_il1 (n := 147) C dX11_two_146 rfl ?_
              refine R_il10 (n := 149) C dX11_two_147 rfl ?_
              refine R_il9 (n := 151) C dX11_two_149 rfl ?_
              refine R_il10 (n := 153) C dX11_two_151 rfl ?_
              refine R_ic (n := 154) C dX11_two_153 ci_2 rfl ?_
              refine R_iremN (n := 155) C dX11_two_154 (by omega) (by omega) (by omega) rfl ?_
              refine R_if_neN (tgt := 163) C dX11_two_155 rfl rfl (by omega) (fun c3 => ?_) (fun c3 => ?_)
              · refine R_il5 (n := 165) C dX11_two_163 rfl ?_
                exact go w1 h1 (by rw [if_neg (by omega)])
              · refine R_il4 (n := 160) C dX11_two_158 rfl ?_
                refine R_goto (n := 165) C dX11_two_160 rfl ?_
                exact go w0 h0 (by rw [if_pos (by omega)])
      have rounds : ∀ (m n : Nat) (hh : Hp) (o : Option Value), 8 < n + m → n ≤ 8 → RTM (twz σ k w0 w1 a b n).1 (twz σ k w0 w1 a b n).2 hh → FrA [95, 96] [] h hh → Rn X 0 0 117 [some (.ref (r 73)), some (.int (nI k)), some (.int (nI a)), some (.int (nI b)), some (.int (nI w0)), some (.int (nI w1)), some (.int (nI x7)), some (.int (bI S1)), some (.int (bI S2)), some (.int (nI (n + 1))), o] [] (LY r) hh := by
        intro m
        induction m with
        | zero => intro n hh o a1 a2; omega
        | succ m ih =>
          intro n hh o a1 a2 E F
          refine R_il9 (n := 119) C dX11_two_117 rfl ?_
          refine R_bp (n := 121) C dX11_two_119 cb_8 rfl ?_
          refine R_icmp_gtN (tgt := 180) C dX11_two_121 rfl rfl (by omega) (by omega) (fun c1 => ?_) (fun c1 => ?_)
          · obtain rfl : n = 8 := by omega
            exact fin hh o E F
          · refine R_ic (n := 125) C dX11_two_124 ci_0 rfl ?_
            refine R_is10 (n := 127) C dX11_two_125 rfl (Nat.le_of_ble_eq_true rfl) rfl ?_
            refine inner (n + 1) (by omega) (by omega) (fun h2 E2 F2 => ?_) 9 0 hh _ _ (by omega) (by omega) E F (fun q hq => ⟨fun q1 => absurd q1 (Nat.not_lt_zero q), fun _ => ?_⟩)
            · refine R_inc9 (n := 177) C dX11_two_174 rfl (Nat.le_of_ble_eq_true rfl) (inc_1 _) rfl ?_
              refine R_goto (n := 117) C dX11_two_177 rfl ?_
              exact ih (n + 1) h2 _ (by omega) (by omega) E2 F2
            · rw [Nat.add_sub_cancel]
              exact ⟨rfl, rfl⟩
      refine R_al0 (n := 109) C dX11_two_108 rfl ?_
      refine R_il2 (n := 110) C dX11_two_109 rfl ?_
      refine R_il3 (n := 111) C dX11_two_110 rfl ?_
      refine M_callV (n := 114) C (c_mBeginTwo _ _ _ r (by omega) (by omega)) mw_X11_beginTwo ml_X11_258 iv_X11_beginTwo dX11_two_111 rfl rfl rfl rfl (Nat.le_of_ble_eq_true rfl) ⟨Nat.le_of_ble_eq_true rfl, Nat.le_of_ble_eq_true rfl⟩ ⟨Nat.le_refl _, Nat.le_refl _⟩ rfl (pGv (fun h3 q3 => ?_))
      refine R_ic (n := 115) C dX11_two_114 ci_1 rfl ?_
      refine R_is9 (n := 117) C dX11_two_115 rfl (Nat.le_of_ble_eq_true rfl) rfl ?_
      exact rounds 9 0 h3 none (by omega) (by omega) q3.1 q3.2
    have at82 : Rn X 0 0 82 [some (.ref (r 73)), some (.int (nI k)), some (.int av), some (.int bv), some (.int u0), some (.int u1), some (.int wh), some (.int (bI S1)), none, none, none] [.int (bI S2)] (LY r) h := by
      refine R_is8 (n := 84) C dX11_two_82 rfl (Nat.le_of_ble_eq_true rfl) rfl ?_
      refine R_il7 (n := 86) C dX11_two_84 rfl ?_
      refine R_if_eqB (tgt := 105) C dX11_two_86 rfl rfl (fun d1 => ?_) (fun d1 => ?_)
      · exact bad (by rw [d1]; rfl)
      · refine R_il8 (n := 91) C dX11_two_89 rfl ?_
        refine R_if_eqB (tgt := 105) C dX11_two_91 rfl rfl (fun d2 => ?_) (fun d2 => ?_)
        · exact bad (by rw [d2, Bool.false_and, Bool.and_false])
        · refine R_il6 (n := 96) C dX11_two_94 rfl ?_
          refine R_i2l (n := 97) C dX11_two_96 rfl rfl ?_
          refine R_lc (n := 98) C dX11_two_97 lc_0 rfl ?_
          refine R_lc (n := 99) C dX11_two_98 lc_1 rfl ?_
          refine R_callS (n := 102) C (c_mIn _ _ _ r _ _ _) mw_X11_in ml_X11_104 sv_X11_in dX11_two_99 rfl rfl (Nat.le_of_ble_eq_true rfl) ⟨Nat.le_of_ble_eq_true rfl, Nat.le_of_ble_eq_true rfl⟩ ⟨Nat.le_refl _, Nat.le_refl _⟩ rfl (pEs ?_)
          rw [winL_n (by decide) (by decide)]
          refine R_if_neB (tgt := 108) C dX11_two_102 rfl rfl (fun d3 => ?_) (fun d3 => ?_)
          · exact main d1 d2 d3
          · exact bad (by rw [d3, Bool.and_false, Bool.and_false])
    have no81 : S2 = false → Rn X 0 0 81 [some (.ref (r 73)), some (.int (nI k)), some (.int av), some (.int bv), some (.int u0), some (.int u1), some (.int wh), some (.int (bI S1)), none, none, none] [] (LY r) h := by
      intro q
      refine R_ic (n := 82) C dX11_two_81 ci_0 rfl ?_
      rw [q] at at82
      exact at82
    have at34 : Rn X 0 0 34 [some (.ref (r 73)), some (.int (nI k)), some (.int av), some (.int bv), some (.int u0), some (.int u1), some (.int wh), none, none, none, none] [.int (bI S1)] (LY r) h := by
      have fk : ∀ u : Int32, win u (nI 1) (nI 63) = false → kaz (sKn (gS G)) u = false := by
        intro u q
        cases e : kaz (sKn (gS G)) u with
        | false => rfl
        | true =>
          obtain ⟨s, hs, rfl⟩ := kaz_of knb e
          rw [kaz_n knb hs, Bool.and_eq_true] at e
          have := of_decide_eq_true e.1
          rw [win_nI (by omega) (by decide) (by decide), decide_eq_true (show 1 ≤ s by omega), decide_eq_true (show s ≤ 63 by omega)] at q
          cases q
      refine R_is7 (n := 36) C dX11_two_34 rfl (Nat.le_of_ble_eq_true rfl) rfl ?_
      refine R_il4 (n := 38) C dX11_two_36 rfl ?_
      refine R_i2l (n := 39) C dX11_two_38 rfl rfl ?_
      refine R_lc (n := 40) C dX11_two_39 lc_1 rfl ?_
      refine R_ldc2 (n := 43) C dX11_two_40 kl_X11_256 rfl ?_
      refine R_eql (y := lN 63) (by decide +kernel) ?_
      refine R_callS (n := 46) C (c_mIn _ _ _ r _ _ _) mw_X11_in ml_X11_104 sv_X11_in dX11_two_43 rfl rfl (Nat.le_of_ble_eq_true rfl) ⟨Nat.le_of_ble_eq_true rfl, Nat.le_of_ble_eq_true rfl⟩ ⟨Nat.le_refl _, Nat.le_refl _⟩ rfl (pEs ?_)
      rw [winL_n (by decide) (by decide)]
      refine R_if_eqB (tgt := 81) C dX11_two_46 rfl rfl (fun d1 => ?_) (fun d1 => ?_)
      · exact no81 (by rw [← hS2, fk u0 d1]; rfl)
      · refine R_il5 (n := 51) C dX11_two_49 rfl ?_
        refine R_i2l (n := 52) C dX11_two_51 rfl rfl ?_
        refine R_lc (n := 53) C dX11_two_52 lc_1 rfl ?_
        refine R_ldc2 (n := 56) C dX11_two_53 kl_X11_256 rfl ?_
        refine R_eql (y := lN 63) (by decide +kernel) ?_
        refine R_callS (n := 59) C (c_mIn _ _ _ r _ _ _) mw_X11_in ml_X11_104 sv_X11_in dX11_two_56 rfl rfl (Nat.le_of_ble_eq_true rfl) ⟨Nat.le_of_ble_eq_true rfl, Nat.le_of_ble_eq_true rfl⟩ ⟨Nat.le_refl _, Nat.le_refl _⟩ rfl (pEs ?_)
        rw [winL_n (by decide) (by decide)]
        refine R_if_eqB (tgt := 81) C dX11_two_59 rfl rfl (fun d2 => ?_) (fun d2 => ?_)
        · exact no81 (by rw [← hS2, fk u1 d2, Bool.and_false])
        · obtain ⟨w0, p0, h0, e0⟩ := win_of (by decide) (by decide) d1
          obtain ⟨w1, p1, h1, e1⟩ := win_of (by decide) (by decide) d2
          have ol : w0 ||| w1 < 64 := Nat.or_lt_two_pow (n := 6) (by omega) (by omega)
          have z : (w0 ||| w1) &&& (63 ^^^ sKn (gS G)) < 2 ^ 31 := Nat.lt_of_le_of_lt Nat.and_le_left (by omega)
          rw [e0, e1, kaz_n knb (by omega), kaz_n knb (by omega), decide_eq_true p0, decide_eq_true p1, Bool.true_and, Bool.true_and] at hS2
          rw [e0, e1] at at82 no81 ⊢
          refine R_il4 (n := 64) C dX11_two_62 rfl ?_
          refine R_il5 (n := 66) C dX11_two_64 rfl ?_
          refine R_iorN (n := 67) C dX11_two_66 rfl ?_
          refine R_al0 (n := 68) C dX11_two_67 rfl ?_
          refine M_getI (n := 71) C fl_X11_98 dX11_two_68 rfl rfl (mKn R.1) rfl ?_
          refine R_ic (n := 72) C dX11_two_71 ci_m1 rfl ?_
          refine R_ixor (n := 73) C dX11_two_72 rfl ?_
          refine R_iand (n := 74) C dX11_two_73 rfl (R_eq (and_com _ ol _ knb) ?_)
          refine R_if_neN (tgt := 81) C dX11_two_74 rfl rfl (by omega) (fun d3 => ?_) (fun d3 => ?_)
          · exact no81 (by
              rw [← hS2]
              cases g : (decide (w0 &&& (63 ^^^ sKn (gS G)) = 0) && decide (w1 &&& (63 ^^^ sKn (gS G)) = 0)) with
              | false => rfl
              | true =>
                rw [Bool.and_eq_true] at g
                exact absurd (or_and_0.mpr ⟨of_decide_eq_true g.1, of_decide_eq_true g.2⟩) d3)
          · have g := or_and_0.mp d3
            rw [decide_eq_true g.1, decide_eq_true g.2] at hS2
            refine R_ic (n := 78) C dX11_two_77 ci_1 rfl ?_
            refine R_goto (n := 82) C dX11_two_78 rfl ?_
            rw [← hS2] at at82
            exact at82
    have no33 : S1 = false → Rn X 0 0 33 [some (.ref (r 73)), some (.int (nI k)), some (.int av), some (.int bv), some (.int u0), some (.int u1), some (.int wh), none, none, none, none] [] (LY r) h := by
      intro q
      refine R_ic (n := 34) C dX11_two_33 ci_0 rfl ?_
      rw [q] at at34
      exact at34
    refine R_il2 (n := 11) C dX11_two_10 rfl ?_
    refine R_callS (n := 14) C (c_mIsWay _ _ _ r _) mw_X11_isWay ml_X11_244 sv_X11_isWay dX11_two_11 rfl rfl (Nat.le_of_ble_eq_true rfl) ⟨Nat.le_of_ble_eq_true rfl, Nat.le_of_ble_eq_true rfl⟩ ⟨Nat.le_refl _, Nat.le_refl _⟩ rfl (pEs ?_)
    refine R_if_eqB (tgt := 33) C dX11_two_14 rfl rfl (fun c2 => ?_) (fun c2 => ?_)
    · exact no33 (by rw [← hS1, c2]; rfl)
    · refine R_il3 (n := 18) C dX11_two_17 rfl ?_
      refine R_callS (n := 21) C (c_mIsWay _ _ _ r _) mw_X11_isWay ml_X11_244 sv_X11_isWay dX11_two_18 rfl rfl (Nat.le_of_ble_eq_true rfl) ⟨Nat.le_of_ble_eq_true rfl, Nat.le_of_ble_eq_true rfl⟩ ⟨Nat.le_refl _, Nat.le_refl _⟩ rfl (pEs ?_)
      refine R_if_eqB (tgt := 33) C dX11_two_21 rfl rfl (fun c3 => ?_) (fun c3 => ?_)
      · exact no33 (by rw [← hS1, c3, Bool.false_and, Bool.and_false])
      · refine R_il2 (n := 25) C dX11_two_24 rfl ?_
        refine R_il3 (n := 26) C dX11_two_25 rfl ?_
        refine R_icmp_eq (tgt := 33) C dX11_two_26 rfl rfl (fun c4 => ?_) (fun c4 => ?_)
        · exact no33 (by rw [← hS1, decide_eq_true c4, Bool.not_true, Bool.and_false, Bool.and_false])
        · refine R_ic (n := 30) C dX11_two_29 ci_1 rfl ?_
          refine R_goto (n := 34) C dX11_two_30 rfl ?_
          have q : S1 = true := by rw [← hS1, c2, c3, decide_eq_false c4]; rfl
          rw [q] at at34
          exact at34
  · rw [aTwo, c1] at CR
    refine R_ic (n := 9) C dX11_two_8 ci_m1 rfl ?_
    refine R_iret C CR (Nat.zero_le _) (Nat.zero_le _) dX11_two_9 ?_
    exact ⟨rfl, rfl, R, FrM.rf⟩
