section Lg22
variable {X : RX} {cc : ByteArray} {own : String} {nL fr mc ms nc ns pc n : Nat} {lv : List (Option Value)} {st : List Value} {L : Ly} {h : Hp}
theorem R_ls13 (C : Ok X cc own nL fr mc ms) {o0 o1 o2 o3 o4 o5 o6 o7 o8 o9 o10 o11 o12 : Option Value} {c c2 : Option Value} {t : List (Option Value)} {x : Int64} (d : decode cc pc = .ok (.lstore 13, 2)) (hp : nlg o12 = true) (hi : 13 + 1 < nL) (hn : pc + 2 = n) (K : Rn X nc ns n (o0 :: o1 :: o2 :: o3 :: o4 :: o5 :: o6 :: o7 :: o8 :: o9 :: o10 :: o11 :: o12 :: some (.long x) :: none :: t) st L h) : Rn X nc ns pc (o0 :: o1 :: o2 :: o3 :: o4 :: o5 :: o6 :: o7 :: o8 :: o9 :: o10 :: o11 :: o12 :: c :: c2 :: t) (.long x :: st) L h := by
  subst hn
  intro H locs ls hP hD hS hl
  exact lv_lstore C.1 C.2.1 d hl.list (by rw [C.2.2.1]; exact hi) rfl (fun ls' hl' => K H locs ls' hP hD hS (lvH.set2 hl' (nlg_ok hp (fun j hj => by cases hj; rfl))))
end Lg22
theorem nuz_dn {σ : WS} {e : EV} (n5 : sN σ ≤ 5) : nuz (dnz σ e) = nmz e.1 (sN σ) := nmz_cong (fun k hk => dnz_0 (Nat.lt_of_lt_of_le (show k < sN σ from hk) n5))
theorem REM.start {σ : WS} {h : Hp} {o : Int32 × Int32 × Int32} (R : RM σ h) (h16 : h 73 16 = o.1) (h18 : h 73 18 = o.2.1) (h17 : h 73 17 = o.2.2) : REM o σ (ev0 σ) h := by
  refine ⟨R.cong rfl rfl rfl (fun j k hj hk => ?_), ?_, ?_, ?_⟩
  · by_cases e0 : j = 0
    · subst e0; rw [dnz_0 hk]; rfl
    · by_cases e1 : j = 1
      · subst e1; rw [dnz_1 hk]; rfl
      · rw [dnz_o (by omega)]
  · rw [h16]; exact (Int32.add_zero _).symm
  · rw [h18]; exact (Int32.add_zero _).symm
  · rw [h17]; exact (Int32.add_zero _).symm
set_option maxRecDepth 20000 in
set_option maxHeartbeats 4000000 in
theorem m_ninety (l : Launch) (D : va_G) (cA : Nat → ClassId) (r : Nat → Nat) {h : Hp} {G : GS} (R : RMo G h) (I : InvG G) (s m w : Int32) : Cn l D cA yX11_ninety cX11_ninety 6 (some .int) 3 0 0 [.ref (r 73), .int s, .int m, .int w] (LY r) h (pG (some (.int (aNinety G s m w))) (LY r) (fun h' => RMo G h' ∧ FrM h h')) := by
  refine Cn.of (lv := [some (.ref (r 73)), some (.int s), some (.int m), some (.int w), none, none]) (by decide +kernel) (Nat.le_of_ble_eq_true rfl) rfl (fun X hnm C CR => ?_)
  have n5 := I.1.n5
  have bad : (win s (nI 0) (nI 9999) && (win m (nI 1) (nI 99) && win w (nI 0) (nI 2))) = false → Rn X 0 0 36 [some (.ref (r 73)), some (.int s), some (.int m), some (.int w), none, none] [] (LY r) h := by
    intro q
    rw [aNinety, q] at CR
    refine R_bp (n := 38) C dX11_ninety_36 cb_m2 rfl ?_
    refine R_iret C CR (Nat.zero_le _) (Nat.zero_le _) dX11_ninety_38 ?_
    exact ⟨rfl, rfl, R, FrM.rf⟩
  refine R_il1 (n := 1) C dX11_ninety_0 rfl ?_
  refine R_i2l (n := 2) C dX11_ninety_1 rfl rfl ?_
  refine R_lc (n := 3) C dX11_ninety_2 lc_0 rfl ?_
  refine R_ldc2 (n := 6) C dX11_ninety_3 kl_X11_316 rfl ?_
  refine R_eql (y := lN 9999) (by decide +kernel) ?_
  refine R_callS (n := 9) C (c_mIn _ _ _ r _ _ _) mw_X11_in ml_X11_104 sv_X11_in dX11_ninety_6 rfl rfl (Nat.le_of_ble_eq_true rfl) ⟨Nat.le_of_ble_eq_true rfl, Nat.le_of_ble_eq_true rfl⟩ ⟨Nat.le_refl _, Nat.le_refl _⟩ rfl (pEs ?_)
  rw [winL_n (by decide) (by decide)]
  refine R_if_eqB (tgt := 36) C dX11_ninety_9 rfl rfl (fun c1 => ?_) (fun c1 => ?_)
  · exact bad (by rw [c1]; rfl)
  · refine R_il2 (n := 13) C dX11_ninety_12 rfl ?_
    refine R_i2l (n := 14) C dX11_ninety_13 rfl rfl ?_
    refine R_lc (n := 15) C dX11_ninety_14 lc_1 rfl ?_
    refine R_ldc2 (n := 18) C dX11_ninety_15 kl_X11_318 rfl ?_
    refine R_eql (y := lN 99) (by decide +kernel) ?_
    refine R_callS (n := 21) C (c_mIn _ _ _ r _ _ _) mw_X11_in ml_X11_104 sv_X11_in dX11_ninety_18 rfl rfl (Nat.le_of_ble_eq_true rfl) ⟨Nat.le_of_ble_eq_true rfl, Nat.le_of_ble_eq_true rfl⟩ ⟨Nat.le_refl _, Nat.le_refl _⟩ rfl (pEs ?_)
    rw [winL_n (by decide) (by decide)]
    refine R_if_eqB (tgt := 36) C dX11_ninety_21 rfl rfl (fun c2 => ?_) (fun c2 => ?_)
    · exact bad (by rw [c2, Bool.false_and, Bool.and_false])
    · refine R_il3 (n := 25) C dX11_ninety_24 rfl ?_
      refine R_i2l (n := 26) C dX11_ninety_25 rfl rfl ?_
      refine R_lc (n := 27) C dX11_ninety_26 lc_0 rfl ?_
      refine R_ldc2 (n := 30) C dX11_ninety_27 kl_X11_278 rfl ?_
      refine R_eql (y := lN 2) (by decide +kernel) ?_
      refine R_callS (n := 33) C (c_mIn _ _ _ r _ _ _) mw_X11_in ml_X11_104 sv_X11_in dX11_ninety_30 rfl rfl (Nat.le_of_ble_eq_true rfl) ⟨Nat.le_of_ble_eq_true rfl, Nat.le_of_ble_eq_true rfl⟩ ⟨Nat.le_refl _, Nat.le_refl _⟩ rfl (pEs ?_)
      rw [winL_n (by decide) (by decide)]
      refine R_if_neB (tgt := 39) C dX11_ninety_33 rfl rfl (fun c3 => ?_) (fun c3 => ?_)
      · rw [aNinety, c1, c2, c3, Bool.and_self, Bool.and_self, if_pos rfl] at CR
        obtain ⟨x0, _, hx0, rfl⟩ := win_of (by decide) (by decide) c1
        obtain ⟨m0, _, hm0, rfl⟩ := win_of (by decide) (by decide) c2
        obtain ⟨z, _, hz0, rfl⟩ := win_of (by decide) (by decide) c3
        have xc : cl (nI x0) = x0 := nI_clamp (by omega)
        have yc : cl (nI m0) = m0 := nI_clamp (by omega)
        have zc : cl (nI z) = z := nI_clamp (by omega)
        rw [xc, yc, zc] at CR
        obtain ⟨σ, hσ⟩ : ∃ σ, gS G = σ := ⟨_, rfl⟩
        have J : Inv σ := by rw [← hσ]; exact I.1
        rw [hσ] at CR n5
        obtain ⟨Z, hZ⟩ : ∃ Z, dwz σ m0 1 x0 (ev0 σ) = Z := ⟨_, rfl⟩
        rw [hZ] at CR
        refine R_al0 (n := 40) C dX11_ninety_39 rfl ?_
        refine M_callV (n := 43) C (c_mKeepNow _ _ _ r) mw_X11_keepNow ml_X11_195 iv_X11_keepNow dX11_ninety_40 rfl rfl rfl rfl (Nat.le_of_ble_eq_true rfl) ⟨Nat.le_of_ble_eq_true rfl, Nat.le_of_ble_eq_true rfl⟩ ⟨Nat.le_refl _, Nat.le_refl _⟩ rfl (pGv (fun h1 q1 => ?_))
        obtain ⟨ot, hot⟩ : ∃ ot : Int32 × Int32 × Int32, ot = (0, 0, h 73 17) := ⟨_, rfl⟩
        have fin : ∀ (h2 : Hp) (d : Nat) (x : Nat), REM ot σ Z h2 → EOk σ Z → FrA (74 :: 75 :: 85 :: 86 :: []) VS h h2 → (∀ k, k < 5 → h2 85 k = h 74 k ∧ h2 86 k = h 75 k) → Rn X 0 0 136 [some (.ref (r 73)), some (.int (nI x0)), some (.int (nI m0)), some (.int (nI z)), some (.int (nI x)), some (.int (nI d))] [] (LY r) h2 := by
          intro h2 d x E2 O2 F2 B2
          refine R_al0 (n := 137) C dX11_ninety_136 rfl ?_
          refine M_callV (n := 140) C (c_mLookNow _ _ _ r E2.1 (dnz_inv J O2)) mw_X11_lookNow ml_X11_211 iv_X11_lookNow dX11_ninety_137 rfl rfl rfl rfl (Nat.le_of_ble_eq_true rfl) ⟨Nat.le_of_ble_eq_true rfl, Nat.le_of_ble_eq_true rfl⟩ ⟨Nat.le_refl _, Nat.le_refl _⟩ rfl (pEs ?_)
          rw [nuz_dn n5]
          refine R_is5 (n := 142) C dX11_ninety_140 rfl (Nat.le_of_ble_eq_true rfl) rfl ?_
          refine R_al0 (n := 143) C dX11_ninety_142 rfl ?_
          refine M_callV (n := 146) C (c_mPutBack _ _ _ r) mw_X11_putBack ml_X11_201 iv_X11_putBack dX11_ninety_143 rfl rfl rfl rfl (Nat.le_of_ble_eq_true rfl) ⟨Nat.le_of_ble_eq_true rfl, Nat.le_of_ble_eq_true rfl⟩ ⟨Nat.le_refl _, Nat.le_refl _⟩ rfl (pGv (fun h4 q4 => ?_))
          have K : RMo G h4 ∧ FrM h h4 := R.back ((F2.mono (by decide) (by decide)).tr (q4.2.mono (by decide) (by decide))) (fun k hk => by rw [(q4.1 k hk).1, (q4.1 k hk).2]; exact B2 k hk)
          have e16 : h4 73 16 = nI Z.2.2.1 := by rw [q4.2.2 16 (by decide), E2.2.1, hot]; exact Int32.zero_add _
          have e18 : h4 73 18 = nI Z.2.2.2.1 := by rw [q4.2.2 18 (by decide), E2.2.2.1, hot]; exact Int32.zero_add _
          refine R_il3 (n := 147) C dX11_ninety_146 rfl ?_
          refine R_if_neN (tgt := 157) C dX11_ninety_147 rfl rfl (by omega) (fun d1 => ?_) (fun d1 => ?_)
          · rw [if_neg d1] at CR
            refine R_il3 (n := 158) C dX11_ninety_157 rfl ?_
            refine R_ic (n := 159) C dX11_ninety_158 ci_1 rfl ?_
            refine R_icmp_neN (tgt := 167) C dX11_ninety_159 rfl rfl (by omega) (by omega) (fun d2 => ?_) (fun d2 => ?_)
            · rw [if_neg d2] at CR
              refine R_al0 (n := 168) C dX11_ninety_167 rfl ?_
              refine M_getI (n := 171) C fl_X11_162 dX11_ninety_168 rfl rfl e18 rfl ?_
              refine R_iret C CR (Nat.zero_le _) (Nat.zero_le _) dX11_ninety_171 ?_
              exact ⟨rfl, rfl, K⟩
            · rw [if_pos d2] at CR
              refine R_il5 (n := 164) C dX11_ninety_162 rfl ?_
              refine R_goto (n := 171) C dX11_ninety_164 rfl ?_
              refine R_iret C CR (Nat.zero_le _) (Nat.zero_le _) dX11_ninety_171 ?_
              exact ⟨rfl, rfl, K⟩
          · rw [if_pos d1] at CR
            refine R_al0 (n := 151) C dX11_ninety_150 rfl ?_
            refine M_getI (n := 154) C fl_X11_165 dX11_ninety_151 rfl rfl e16 rfl ?_
            refine R_goto (n := 171) C dX11_ninety_154 rfl ?_
            refine R_iret C CR (Nat.zero_le _) (Nat.zero_le _) dX11_ninety_171 ?_
            exact ⟨rfl, rfl, K⟩
        have loop : ∀ (m d x : Nat) (e : EV) (h1 : Hp), d + m = m0 + 1 → x < 65537 → Z = dwz σ m d x e → REM ot σ e h1 → EOk σ e → FrA (74 :: 75 :: 85 :: 86 :: []) VS h h1 → (∀ k, k < 5 → h1 85 k = h 74 k ∧ h1 86 k = h 75 k) → Rn X 0 0 59 [some (.ref (r 73)), some (.int (nI x0)), some (.int (nI m0)), some (.int (nI z)), some (.int (nI x)), some (.int (nI d))] [] (LY r) h1 := by
          intro m
          induction m with
          | zero =>
            intro d x e h1 a1 a2 hz E1 O1 F1 B1
            refine R_il5 (n := 61) C dX11_ninety_59 rfl ?_
            refine R_il2 (n := 62) C dX11_ninety_61 rfl ?_
            refine R_icmp_gtN (tgt := 136) C dX11_ninety_62 rfl rfl (by omega) (by omega) (fun d1 => ?_) (fun d1 => ?_)
            · have hz' : Z = e := hz
              rw [← hz'] at E1 O1
              exact fin h1 d x E1 O1 F1 B1
            · omega
          | succ m ih =>
            intro d x e h1 a1 a2 hz E1 O1 F1 B1
            unfold dwz at hz
            obtain ⟨x', hx'⟩ : ∃ x', (75 * x + 74) % 65537 = x' := ⟨_, rfl⟩
            have x'b : x' < 65537 := by omega
            simp only [hx'] at hz
            have stp : ∀ {g g' : Hp}, FrA (74 :: 75 :: 85 :: 86 :: []) VS h g → (∀ k, k < 5 → g 85 k = h 74 k ∧ g 86 k = h 75 k) → FrA VA VS g g' → FrA (74 :: 75 :: 85 :: 86 :: []) VS h g' ∧ (∀ k, k < 5 → g' 85 k = h 74 k ∧ g' 86 k = h 75 k) := fun f b f2 => ⟨f.tr (f2.mono (by decide) (by decide)), fun k hk => by rw [f2.1 85 (by decide) (by decide), f2.1 86 (by decide) (by decide)]; exact b k hk⟩
            refine R_il5 (n := 61) C dX11_ninety_59 rfl ?_
            refine R_il2 (n := 62) C dX11_ninety_61 rfl ?_
            refine R_icmp_gtN (tgt := 136) C dX11_ninety_62 rfl rfl (by omega) (by omega) (fun d1 => ?_) (fun d1 => ?_)
            · omega
            · refine R_ldc2 (n := 68) C dX11_ninety_65 kl_X11_320 rfl ?_
              refine R_eql (y := lN 75) (by decide +kernel) ?_
              refine R_il4 (n := 70) C dX11_ninety_68 rfl ?_
              refine R_i2l (n := 71) C dX11_ninety_70 (i2l_n (by omega)) rfl ?_
              refine R_lmul (n := 72) C dX11_ninety_71 rfl (R_eql (lN_mul _ _) ?_)
              refine R_ldc2 (n := 75) C dX11_ninety_72 kl_X11_322 rfl ?_
              refine R_eql (y := lN 74) (by decide +kernel) ?_
              refine R_ladd (n := 76) C dX11_ninety_75 rfl (R_eql (lN_add _ _) ?_)
              refine R_ldc2 (n := 79) C dX11_ninety_76 kl_X11_324 rfl ?_
              refine R_eql (y := lN 65537) (by decide +kernel) ?_
              refine R_lrem (n := 80) C dX11_ninety_79 (lN_ne0 (by decide) (by decide)) rfl (R_eql (pk_lRem (by omega) (by decide) (by decide)) ?_)
              refine R_l2i (n := 81) C dX11_ninety_80 (lN_i _) rfl ?_
              rw [hx']
              have w6 : x' % 6 < 6 := Nat.mod_lt _ (by decide)
              refine R_is4 (n := 83) C dX11_ninety_81 rfl (Nat.le_of_ble_eq_true rfl) rfl ?_
              refine R_al0 (n := 84) C dX11_ninety_83 rfl ?_
              refine R_il4 (n := 86) C dX11_ninety_84 rfl ?_
              refine R_bp (n := 88) C dX11_ninety_86 cb_6 rfl ?_
              refine R_iremN (n := 89) C dX11_ninety_88 (by omega) (by omega) (by omega) rfl ?_
              refine M_callV (n := 92) C (c_mIsKnown _ _ _ r E1.1 (dnz_inv J O1) _) mw_X11_isKnown ml_X11_155 iv_X11_isKnown dX11_ninety_89 rfl rfl rfl rfl (Nat.le_of_ble_eq_true rfl) ⟨Nat.le_of_ble_eq_true rfl, Nat.le_of_ble_eq_true rfl⟩ ⟨Nat.le_refl _, Nat.le_refl _⟩ rfl (pEs ?_)
              rw [show sKn (dnz σ e) = sKn σ from rfl, kwz_n w6]
              have kr : ∀ (h4 : Hp) (e3 : EV), Z = dwz σ m (d + 1) x' e3 → REM ot σ e3 h4 → EOk σ e3 → FrA (74 :: 75 :: 85 :: 86 :: []) VS h h4 ∧ (∀ k, k < 5 → h4 85 k = h 74 k ∧ h4 86 k = h 75 k) → Rn X 0 0 130 [some (.ref (r 73)), some (.int (nI x0)), some (.int (nI m0)), some (.int (nI z)), some (.int (nI x')), some (.int (nI d))] [] (LY r) h4 := by
                intro h4 e3 hz3 E3 O3 F3
                refine R_inc5 (n := 133) C dX11_ninety_130 rfl (Nat.le_of_ble_eq_true rfl) (inc_1 _) rfl ?_
                refine R_goto (n := 59) C dX11_ninety_133 rfl ?_
                exact ih (d + 1) x' e3 h4 (by omega) x'b hz3 E3 O3 F3.1 F3.2
              have kt : ∀ (h3 : Hp) (e2 : EV), Z = dwz σ m (d + 1) x' (if d % 5 = 0 then niz σ e2 else e2) → REM ot σ e2 h3 → EOk σ e2 → FrA (74 :: 75 :: 85 :: 86 :: []) VS h h3 ∧ (∀ k, k < 5 → h3 85 k = h 74 k ∧ h3 86 k = h 75 k) → Rn X 0 0 119 [some (.ref (r 73)), some (.int (nI x0)), some (.int (nI m0)), some (.int (nI z)), some (.int (nI x')), some (.int (nI d))] [] (LY r) h3 := by
                intro h3 e2 hz3 E3 O3 F3
                refine R_il5 (n := 121) C dX11_ninety_119 rfl ?_
                refine R_ic (n := 122) C dX11_ninety_121 ci_5 rfl ?_
                refine R_iremN (n := 123) C dX11_ninety_122 (by omega) (by omega) (by omega) rfl ?_
                refine R_if_neN (tgt := 130) C dX11_ninety_123 rfl rfl (by omega) (fun c5 => ?_) (fun c5 => ?_)
                · rw [if_neg c5] at hz3
                  exact kr h3 e2 hz3 E3 O3 F3
                · rw [if_pos c5] at hz3
                  refine R_al0 (n := 127) C dX11_ninety_126 rfl ?_
                  refine M_callV (n := 130) C (c_mNight _ _ _ r E3 J O3) mw_X11_night ml_X11_177 iv_X11_night dX11_ninety_127 rfl rfl rfl rfl (Nat.le_of_ble_eq_true rfl) ⟨Nat.le_of_ble_eq_true rfl, Nat.le_of_ble_eq_true rfl⟩ ⟨Nat.le_refl _, Nat.le_refl _⟩ rfl (pGv (fun h4 q4 => ?_))
                  exact kr h4 _ hz3 q4.1 (niz_ok J O3) (stp F3.1 F3.2 q4.2)
              have kw : ∀ (h2 : Hp) (e1 : EV), Z = dwz σ m (d + 1) x' (if d % 5 = 0 then niz σ (if x' / 6 % 10 = 0 then thz (sN σ) e1 else e1) else (if x' / 6 % 10 = 0 then thz (sN σ) e1 else e1)) → REM ot σ e1 h2 → EOk σ e1 → FrA (74 :: 75 :: 85 :: 86 :: []) VS h h2 ∧ (∀ k, k < 5 → h2 85 k = h 74 k ∧ h2 86 k = h 75 k) → Rn X 0 0 104 [some (.ref (r 73)), some (.int (nI x0)), some (.int (nI m0)), some (.int (nI z)), some (.int (nI x')), some (.int (nI d))] [] (LY r) h2 := by
                intro h2 e1 hz2 E2 O2 F2
                refine R_il4 (n := 106) C dX11_ninety_104 rfl ?_
                refine R_bp (n := 108) C dX11_ninety_106 cb_6 rfl ?_
                refine R_idivN (n := 109) C dX11_ninety_108 (by omega) (by omega) (by omega) rfl ?_
                refine R_bp (n := 111) C dX11_ninety_109 cb_10 rfl ?_
                refine R_iremN (n := 112) C dX11_ninety_111 (by omega) (by omega) (by omega) rfl ?_
                refine R_if_neN (tgt := 119) C dX11_ninety_112 rfl rfl (by omega) (fun c4 => ?_) (fun c4 => ?_)
                · rw [if_neg c4] at hz2
                  exact kt h2 e1 hz2 E2 O2 F2
                · rw [if_pos c4] at hz2
                  refine R_al0 (n := 116) C dX11_ninety_115 rfl ?_
                  refine M_callV (n := 119) C (c_mThunder _ _ _ r E2 J O2) mw_X11_thunder ml_X11_174 iv_X11_thunder dX11_ninety_116 rfl rfl rfl rfl (Nat.le_of_ble_eq_true rfl) ⟨Nat.le_of_ble_eq_true rfl, Nat.le_of_ble_eq_true rfl⟩ ⟨Nat.le_refl _, Nat.le_refl _⟩ rfl (pGv (fun h3 q3 => ?_))
                  exact kt h3 _ hz2 q3.1 (thz_ok O2 (Nat.le_refl _)) (stp F2.1 F2.2 q3.2)
              refine R_if_eqB (tgt := 104) C dX11_ninety_92 rfl rfl (fun c3 => ?_) (fun c3 => ?_)
              · rw [c3] at hz
                exact kw h1 e hz E1 O1 ⟨F1, B1⟩
              · rw [c3] at hz
                refine R_al0 (n := 96) C dX11_ninety_95 rfl ?_
                refine R_il4 (n := 98) C dX11_ninety_96 rfl ?_
                refine R_bp (n := 100) C dX11_ninety_98 cb_6 rfl ?_
                refine R_iremN (n := 101) C dX11_ninety_100 (by omega) (by omega) (by omega) rfl ?_
                refine M_callV (n := 104) C (c_mSayWord _ _ _ r E1 J O1 w6) mw_X11_sayWord ml_X11_171 iv_X11_sayWord dX11_ninety_101 rfl rfl rfl rfl (Nat.le_of_ble_eq_true rfl) ⟨Nat.le_of_ble_eq_true rfl, Nat.le_of_ble_eq_true rfl⟩ ⟨Nat.le_refl _, Nat.le_refl _⟩ rfl (pGv (fun h2 q2 => ?_))
                exact kw h2 _ hz q2.1 (hrz_ok O1 (Nat.le_refl _)) (stp F1 B1 q2.2)
        refine R_al0 (n := 44) C dX11_ninety_43 rfl ?_
        refine R_ic (n := 45) C dX11_ninety_44 ci_0 rfl ?_
        refine M_putI (n := 48) C fl_X11_165 dX11_ninety_45 rfl rfl rfl rfl rfl ?_
        refine R_al0 (n := 49) C dX11_ninety_48 rfl ?_
        refine R_ic (n := 50) C dX11_ninety_49 ci_0 rfl ?_
        refine M_putI (n := 53) C fl_X11_162 dX11_ninety_50 rfl rfl rfl rfl rfl ?_
        refine R_il1 (n := 54) C dX11_ninety_53 rfl ?_
        refine R_is4 (n := 56) C dX11_ninety_54 rfl (Nat.le_of_ble_eq_true rfl) rfl ?_
        refine R_ic (n := 57) C dX11_ninety_56 ci_1 rfl ?_
        refine R_is5 (n := 59) C dX11_ninety_57 rfl (Nat.le_of_ble_eq_true rfl) rfl ?_
        have Rh := R.1
        rw [hσ] at Rh
        have R1 := q1.2.rm Rh (by decide) (by decide)
        refine loop m0 1 x0 (ev0 σ) _ (by omega) (by omega) hZ.symm (REM.start ((R1.fl (by decide)).fl (by decide)) ?_ ?_ ?_) (ev0_ok J) (((q1.2.mono (by decide) (by decide)).fld (by decide)).fld (by decide)) (fun k hk => ?_)
        · rw [hot, up2_ne (by decide), up2_same]; rfl
        · rw [hot, up2_same]; rfl
        · rw [hot, up2_ne (by decide), up2_ne (by decide)]; exact q1.2.2 17 (by decide)
        · rw [up2_row (by decide), up2_row (by decide), up2_row (by decide), up2_row (by decide)]; exact q1.1 k hk
      · exact bad (by rw [c3, Bool.and_false, Bool.and_false])
set_option maxRecDepth 20000 in
set_option maxHeartbeats 4000000 in
theorem c_mLowest (l : Launch) (D : va_G) (cA : Nat → ClassId) (r : Nat → Nat) {L : Ly} {h : Hp} {a b t : Nat} (ha : a ≤ 1000000000000000) (hb : b ≤ 1000000000000000) (hb0 : 0 < b) (ht : t ≤ 1) : Cn l D cA yX11_lowest cX11_lowest 11 (some .long) 0 0 0 [.long (lN a), .long (lN b), .int (nI t)] (L) h (pE (some (.long (lN ((if t = 0 then a else b) / Nat.gcd a b)))) L h) := by
  refine Cn.of (lv := [some (.long (lN a)), none, some (.long (lN b)), none, some (.int (nI t)), none, none, none, none, none, none]) (by decide +kernel) (Nat.le_of_ble_eq_true rfl) rfl (fun X hnm C CR => ?_)
  have loop : ∀ (y x : Nat) (o9 o10 : Option Value), 0 < x → x ≤ 1000000000000000 → y ≤ 1000000000000000 → Nat.gcd x y = Nat.gcd a b → Rn X 0 0 6 [some (.long (lN a)), none, some (.long (lN b)), none, some (.int (nI t)), some (.long (lN x)), none, some (.long (lN y)), none, o9, o10] [] L h := by
    intro y
    induction y using Nat.strongRecOn with
    | ind y ih =>
      intro x o9 o10 a1 a2 a3 a4
      refine R_ll7 (n := 8) C dX11_lowest_6 rfl ?_
      refine R_lc (n := 9) C dX11_lowest_8 lc_0 rfl ?_
      refine R_lcmp (n := 10) C dX11_lowest_9 rfl ?_
      refine R_if_eq (tgt := 31) C dX11_lowest_10 rfl rfl (fun c1 => ?_) (fun c1 => ?_)
      · rw [lcmp_0 (by omega)] at c1
        rw [c1, Nat.gcd_zero_right] at a4
        rw [← a4] at CR
        refine R_il4 (n := 33) C dX11_lowest_31 rfl ?_
        refine R_if_neN (tgt := 43) C dX11_lowest_33 rfl rfl (by omega) (fun c2 => ?_) (fun c2 => ?_)
        · rw [if_neg c2] at CR
          refine R_ll2 (n := 44) C dX11_lowest_43 rfl ?_
          refine R_ll5 (n := 46) C dX11_lowest_44 rfl ?_
          refine R_ldiv (n := 47) C dX11_lowest_46 (lN_ne0 a1 (by omega)) rfl (R_eql (pk_lDiv (by omega) a1 (by omega)) ?_)
          refine R_lret C CR (Nat.zero_le _) (Nat.zero_le _) dX11_lowest_47 ?_
          exact ⟨rfl, rfl, rfl⟩
        · rw [if_pos c2] at CR
          refine R_ll0 (n := 37) C dX11_lowest_36 rfl ?_
          refine R_ll5 (n := 39) C dX11_lowest_37 rfl ?_
          refine R_ldiv (n := 40) C dX11_lowest_39 (lN_ne0 a1 (by omega)) rfl (R_eql (pk_lDiv (by omega) a1 (by omega)) ?_)
          refine R_goto (n := 47) C dX11_lowest_40 rfl ?_
          refine R_lret C CR (Nat.zero_le _) (Nat.zero_le _) dX11_lowest_47 ?_
          exact ⟨rfl, rfl, rfl⟩
      · rw [lcmp_0 (by omega)] at c1
        have y0 : 0 < y := by omega
        have ml := Nat.mod_lt x y0
        refine R_ll5 (n := 15) C dX11_lowest_13 rfl ?_
        refine R_ll7 (n := 17) C dX11_lowest_15 rfl ?_
        refine R_lrem (n := 18) C dX11_lowest_17 (lN_ne0 y0 (by omega)) rfl (R_eql (pk_lRem (by omega) y0 (by omega)) ?_)
        refine R_ls9 (n := 20) C dX11_lowest_18 rfl (Nat.le_of_ble_eq_true rfl) rfl ?_
        refine R_ll7 (n := 22) C dX11_lowest_20 rfl ?_
        refine R_ls5 (n := 24) C dX11_lowest_22 rfl (Nat.le_of_ble_eq_true rfl) rfl ?_
        refine R_ll9 (n := 26) C dX11_lowest_24 rfl ?_
        refine R_ls7 (n := 28) C dX11_lowest_26 rfl (Nat.le_of_ble_eq_true rfl) rfl ?_
        refine R_goto (n := 6) C dX11_lowest_28 rfl ?_
        exact ih (x % y) ml y _ _ y0 a3 (by omega) (by rw [gcd_step]; exact a4)
  refine R_ll2 (n := 1) C dX11_lowest_0 rfl ?_
  refine R_ls5 (n := 3) C dX11_lowest_1 rfl (Nat.le_of_ble_eq_true rfl) rfl ?_
  refine R_ll0 (n := 4) C dX11_lowest_3 rfl ?_
  refine R_ls7 (n := 6) C dX11_lowest_4 rfl (Nat.le_of_ble_eq_true rfl) rfl ?_
  exact loop a b none none hb0 hb ha (Nat.gcd_comm b a)
theorem sub44 : ∀ a, a < 4 → ∀ b, b < 4 → nI a - nI b + nI 4 = nI (a + (4 - b)) := by decide +kernel
set_option maxRecDepth 20000 in
set_option maxHeartbeats 4000000 in
theorem m_storm (l : Launch) (D : va_G) (cA : Nat → ClassId) (r : Nat → Nat) {h : Hp} {G : GS} (R : RMo G h) (I : InvG G) (hu w c m pt : Int32) : Cn l D cA yX11_storm cX11_storm 15 (some .long) 2 0 0 [.ref (r 73), .int hu, .int w, .int c, .int m, .int pt] (LY r) h (pG (some (.long (aStorm G hu w c m pt))) (LY r) (fun h' => RMo G h' ∧ FrM h h')) := by
  refine Cn.of (lv := [some (.ref (r 73)), some (.int hu), some (.int w), some (.int c), some (.int m), some (.int pt), none, none, none, none, none, none, none, none, none]) (by decide +kernel) (Nat.le_of_ble_eq_true rfl) rfl (fun X hnm C CR => ?_)
  have n5 := I.1.n5
  refine R_al0 (n := 1) C dX11_storm_0 rfl ?_
  refine R_il1 (n := 2) C dX11_storm_1 rfl ?_
  refine M_callV (n := 5) C (c_mIsHut _ _ _ r R.1 I.1 _) mw_X11_isHut ml_X11_112 iv_X11_isHut dX11_storm_2 rfl rfl rfl rfl (Nat.le_of_ble_eq_true rfl) ⟨Nat.le_of_ble_eq_true rfl, Nat.le_of_ble_eq_true rfl⟩ ⟨Nat.le_refl _, Nat.le_refl _⟩ rfl (pEs ?_)
  refine R_if_neB (tgt := 12) C dX11_storm_5 rfl rfl (fun c1 => ?_) (fun c1 => ?_)
  · obtain ⟨k, hk, rfl, hk2⟩ := hasH_of I.1 c1
    rw [aStorm, c1, if_pos rfl, hk2] at CR
    have bad : (win w (nI 0) (nI 3) && (win c (nI 0) (nI 10) && (win m (nI 0) (nI 15) && win pt (nI 0) (nI 1)))) = false → Rn X 0 0 55 [some (.ref (r 73)), some (.int (nI k)), some (.int w), some (.int c), some (.int m), some (.int pt), none, none, none, none, none, none, none, none, none] [] (LY r) h := by
      intro q
      rw [q] at CR
      refine R_ldc2 (n := 58) C dX11_storm_55 kl_X11_310 rfl ?_
      refine R_lret C CR (Nat.zero_le _) (Nat.zero_le _) dX11_storm_58 ?_
      exact ⟨rfl, rfl, R, FrM.rf⟩
    refine R_il2 (n := 13) C dX11_storm_12 rfl ?_
    refine R_callS (n := 16) C (c_mIsWay _ _ _ r _) mw_X11_isWay ml_X11_244 sv_X11_isWay dX11_storm_13 rfl rfl (Nat.le_of_ble_eq_true rfl) ⟨Nat.le_of_ble_eq_true rfl, Nat.le_of_ble_eq_true rfl⟩ ⟨Nat.le_refl _, Nat.le_refl _⟩ rfl (pEs ?_)
    refine R_if_eqB (tgt := 55) C dX11_storm_16 rfl rfl (fun c2 => ?_) (fun c2 => ?_)
    · exact bad (by rw [c2]; rfl)
    · refine R_il3 (n := 20) C dX11_storm_19 rfl ?_
      refine R_i2l (n := 21) C dX11_storm_20 rfl rfl ?_
      refine R_lc (n := 22) C dX11_storm_21 lc_0 rfl ?_
      refine R_ldc2 (n := 25) C dX11_storm_22 kl_X11_306 rfl ?_
      refine R_eql (y := lN 10) (by decide +kernel) ?_
      refine R_callS (n := 28) C (c_mIn _ _ _ r _ _ _) mw_X11_in ml_X11_104 sv_X11_in dX11_storm_25 rfl rfl (Nat.le_of_ble_eq_true rfl) ⟨Nat.le_of_ble_eq_true rfl, Nat.le_of_ble_eq_true rfl⟩ ⟨Nat.le_refl _, Nat.le_refl _⟩ rfl (pEs ?_)
      rw [winL_n (by decide) (by decide)]
      refine R_if_eqB (tgt := 55) C dX11_storm_28 rfl rfl (fun c3 => ?_) (fun c3 => ?_)
      · exact bad (by rw [c3, Bool.false_and, Bool.and_false])
      · refine R_il4 (n := 33) C dX11_storm_31 rfl ?_
        refine R_i2l (n := 34) C dX11_storm_33 rfl rfl ?_
        refine R_lc (n := 35) C dX11_storm_34 lc_0 rfl ?_
        refine R_ldc2 (n := 38) C dX11_storm_35 kl_X11_308 rfl ?_
        refine R_eql (y := lN 15) (by decide +kernel) ?_
        refine R_callS (n := 41) C (c_mIn _ _ _ r _ _ _) mw_X11_in ml_X11_104 sv_X11_in dX11_storm_38 rfl rfl (Nat.le_of_ble_eq_true rfl) ⟨Nat.le_of_ble_eq_true rfl, Nat.le_of_ble_eq_true rfl⟩ ⟨Nat.le_refl _, Nat.le_refl _⟩ rfl (pEs ?_)
        rw [winL_n (by decide) (by decide)]
        refine R_if_eqB (tgt := 55) C dX11_storm_41 rfl rfl (fun c4 => ?_) (fun c4 => ?_)
        · exact bad (by rw [c4, Bool.false_and, Bool.and_false, Bool.and_false])
        · refine R_il5 (n := 46) C dX11_storm_44 rfl ?_
          refine R_i2l (n := 47) C dX11_storm_46 rfl rfl ?_
          refine R_lc (n := 48) C dX11_storm_47 lc_0 rfl ?_
          refine R_lc (n := 49) C dX11_storm_48 lc_1 rfl ?_
          refine R_callS (n := 52) C (c_mIn _ _ _ r _ _ _) mw_X11_in ml_X11_104 sv_X11_in dX11_storm_49 rfl rfl (Nat.le_of_ble_eq_true rfl) ⟨Nat.le_of_ble_eq_true rfl, Nat.le_of_ble_eq_true rfl⟩ ⟨Nat.le_refl _, Nat.le_refl _⟩ rfl (pEs ?_)
          rw [winL_n (by decide) (by decide)]
          refine R_if_neB (tgt := 59) C dX11_storm_52 rfl rfl (fun c5 => ?_) (fun c5 => ?_)
          · rw [c2, c3, c4, c5, Bool.and_self, Bool.and_self, Bool.and_self, if_pos rfl] at CR
            obtain ⟨x2, _, b2, rfl⟩ := win_of (by decide) (by decide) c2
            obtain ⟨x3, _, b3, rfl⟩ := win_of (by decide) (by decide) c3
            obtain ⟨x4, _, b4, rfl⟩ := win_of (by decide) (by decide) c4
            obtain ⟨x5, _, b5, rfl⟩ := win_of (by decide) (by decide) c5
            have e2 : cl (nI x2) = x2 := nI_clamp (by omega)
            have e3 : cl (nI x3) = x3 := nI_clamp (by omega)
            have e4 : cl (nI x4) = x4 := nI_clamp (by omega)
            have e5 : cl (nI x5) = x5 := nI_clamp (by omega)
            rw [e2, e3, e4, e5] at CR
            have lk := I.1.lk (k := k) (by omega)
            have tb := ten_15 b4
            have tp : 0 < 10 ^ x4 := Nat.pow_pos (by decide)
            obtain ⟨q, hq⟩ : ∃ q, (x2 + (4 - sA (gS G) 0 k)) % 4 = q := ⟨_, rfl⟩
            have Ub : sup q x3 x4 ≤ 10 ^ x4 := sup_le b3
            have q4 : q < 4 := by omega
            rw [hq] at CR
            have last : ∀ (u : Nat) (o13 o14 : Option Value), sup q x3 x4 = u → Rn X 0 0 164 [some (.ref (r 73)), some (.int (nI k)), some (.int (nI x2)), some (.int (nI x3)), some (.int (nI x4)), some (.int (nI x5)), some (.long (lN (stz x3 x4).1)), none, some (.long (lN (stz x3 x4).2)), none, some (.long (lN (10 ^ x4))), none, some (.int (nI q)), o13, o14] [.long (lN u)] (LY r) h := by
              intro u o13 o14 hu
              rw [hu] at CR Ub
              refine R_ll10 (n := 166) C dX11_storm_164 rfl ?_
              refine R_il5 (n := 168) C dX11_storm_166 rfl ?_
              refine R_callS (n := 171) C (c_mLowest _ _ _ r (by omega) (by omega) tp b5) mw_X11_lowest ml_X11_312 sv_X11_lowest dX11_storm_168 rfl rfl (Nat.le_of_ble_eq_true rfl) ⟨Nat.le_of_ble_eq_true rfl, Nat.le_of_ble_eq_true rfl⟩ ⟨Nat.le_refl _, Nat.le_refl _⟩ rfl (pEs ?_)
              refine R_lret C CR (Nat.zero_le _) (Nat.zero_le _) dX11_storm_171 ?_
              exact ⟨rfl, rfl, R, FrM.rf⟩
            have loop : ∀ (t i : Nat) (o13 o14 : Option Value), x4 < i + t → i ≤ x4 → Rn X 0 0 71 [some (.ref (r 73)), some (.int (nI k)), some (.int (nI x2)), some (.int (nI x3)), some (.int (nI x4)), some (.int (nI x5)), some (.long (lN (stz x3 i).1)), none, some (.long (lN (stz x3 i).2)), none, some (.long (lN (10 ^ i))), none, some (.int (nI i)), o13, o14] [] (LY r) h := by
              intro t
              induction t with
              | zero => intro i o13 o14 a1 a2; omega
              | succ t ih =>
                intro i o13 o14 a1 a2
                refine R_il12 (n := 73) C dX11_storm_71 rfl ?_
                refine R_il4 (n := 75) C dX11_storm_73 rfl ?_
                refine R_icmp_geN (tgt := 128) C dX11_storm_75 rfl rfl (by omega) (by omega) (fun d1 => ?_) (fun d1 => ?_)
                · obtain rfl : i = x4 := by omega
                  refine R_il2 (n := 129) C dX11_storm_128 rfl ?_
                  refine R_al0 (n := 130) C dX11_storm_129 rfl ?_
                  refine M_getR (n := 133) C fl_X11_7 dX11_storm_130 rfl rfl rfl ?_
                  refine R_il1 (n := 134) C dX11_storm_133 rfl ?_
                  refine M_iald (n := 135) C dX11_storm_134 rfl (by omega) (mLk R.1 (by omega)) rfl ?_
                  refine R_isub (n := 136) C dX11_storm_135 rfl ?_
                  refine R_ic (n := 137) C dX11_storm_136 ci_4 rfl ?_
                  refine R_iadd (n := 138) C dX11_storm_137 rfl (R_eq (sub44 _ (by omega) _ lk) ?_)
                  refine R_ic (n := 139) C dX11_storm_138 ci_4 rfl ?_
                  refine R_iremN (n := 140) C dX11_storm_139 (by omega) (by omega) (by omega) rfl ?_
                  rw [hq]
                  refine R_is12 (n := 142) C dX11_storm_140 rfl (Nat.le_of_ble_eq_true rfl) rfl ?_
                  refine R_il12 (n := 144) C dX11_storm_142 rfl ?_
                  refine R_if_neN (tgt := 152) C dX11_storm_144 rfl rfl (by omega) (fun d2 => ?_) (fun d2 => ?_)
                  · refine R_il12 (n := 154) C dX11_storm_152 rfl ?_
                    refine R_ic (n := 155) C dX11_storm_154 ci_2 rfl ?_
                    refine R_icmp_neN (tgt := 163) C dX11_storm_155 rfl rfl (by omega) (by omega) (fun d3 => ?_) (fun d3 => ?_)
                    · refine R_lc (n := 164) C dX11_storm_163 lc_0 rfl ?_
                      exact last 0 _ _ (by rw [sup, if_neg d2, if_neg d3])
                    · refine R_ll8 (n := 160) C dX11_storm_158 rfl ?_
                      refine R_goto (n := 164) C dX11_storm_160 rfl ?_
                      exact last _ _ _ (by rw [sup, if_neg d2, if_pos d3])
                  · refine R_ll6 (n := 149) C dX11_storm_147 rfl ?_
                    refine R_goto (n := 164) C dX11_storm_149 rfl ?_
                    exact last _ _ _ (by rw [sup, if_pos d2])
                · refine R_ll6 (n := 80) C dX11_storm_78 rfl ?_
                  refine R_bp (n := 82) C dX11_storm_80 cb_10 rfl ?_
                  refine R_il3 (n := 83) C dX11_storm_82 rfl ?_
                  refine R_isubN (n := 84) C dX11_storm_83 (by omega) rfl ?_
                  refine R_i2l (n := 85) C dX11_storm_84 (i2l_n (by omega)) rfl ?_
                  refine R_lmul (n := 86) C dX11_storm_85 rfl (R_eql (lN_mul _ _) ?_)
                  refine R_ll8 (n := 88) C dX11_storm_86 rfl ?_
                  refine R_il3 (n := 89) C dX11_storm_88 rfl ?_
                  refine R_i2l (n := 90) C dX11_storm_89 (i2l_n (by omega)) rfl ?_
                  refine R_lmul (n := 91) C dX11_storm_90 rfl (R_eql (lN_mul _ _) ?_)
                  refine R_ladd (n := 92) C dX11_storm_91 rfl (R_eql (lN_add _ _) ?_)
                  refine R_ls13 (n := 94) C dX11_storm_92 rfl (Nat.le_of_ble_eq_true rfl) rfl ?_
                  refine R_ll8 (n := 96) C dX11_storm_94 rfl ?_
                  refine R_bp (n := 98) C dX11_storm_96 cb_10 rfl ?_
                  refine R_il3 (n := 99) C dX11_storm_98 rfl ?_
                  refine R_isubN (n := 100) C dX11_storm_99 (by omega) rfl ?_
                  refine R_i2l (n := 101) C dX11_storm_100 (i2l_n (by omega)) rfl ?_
                  refine R_lmul (n := 102) C dX11_storm_101 rfl (R_eql (lN_mul _ _) ?_)
                  refine R_ll6 (n := 104) C dX11_storm_102 rfl ?_
                  refine R_il3 (n := 105) C dX11_storm_104 rfl ?_
                  refine R_i2l (n := 106) C dX11_storm_105 (i2l_n (by omega)) rfl ?_
                  refine R_lmul (n := 107) C dX11_storm_106 rfl (R_eql (lN_mul _ _) ?_)
                  refine R_ladd (n := 108) C dX11_storm_107 rfl (R_eql (lN_add _ _) ?_)
                  refine R_ls8 (n := 110) C dX11_storm_108 rfl (Nat.le_of_ble_eq_true rfl) rfl ?_
                  refine R_ll13 (n := 112) C dX11_storm_110 rfl ?_
                  refine R_ls6 (n := 114) C dX11_storm_112 rfl (Nat.le_of_ble_eq_true rfl) rfl ?_
                  refine R_ll10 (n := 116) C dX11_storm_114 rfl ?_
                  refine R_ldc2 (n := 119) C dX11_storm_116 kl_X11_306 rfl ?_
                  refine R_eql (y := lN 10) (by decide +kernel) ?_
                  refine R_lmul (n := 120) C dX11_storm_119 rfl (R_eql (y := lN (10 ^ (i + 1))) (by rw [lN_mul, Nat.pow_succ]) ?_)
                  refine R_ls10 (n := 122) C dX11_storm_120 rfl (Nat.le_of_ble_eq_true rfl) rfl ?_
                  refine R_inc12 (n := 125) C dX11_storm_122 rfl (Nat.le_of_ble_eq_true rfl) (inc_1 _) rfl ?_
                  refine R_goto (n := 71) C dX11_storm_125 rfl ?_
                  exact ih (i + 1) _ _ (by omega) (by omega)
            refine R_lc (n := 60) C dX11_storm_59 lc_1 rfl ?_
            refine R_ls6 (n := 62) C dX11_storm_60 rfl (Nat.le_of_ble_eq_true rfl) rfl ?_
            refine R_lc (n := 63) C dX11_storm_62 lc_0 rfl ?_
            refine R_ls8 (n := 65) C dX11_storm_63 rfl (Nat.le_of_ble_eq_true rfl) rfl ?_
            refine R_lc (n := 66) C dX11_storm_65 lc_1 rfl ?_
            refine R_ls10 (n := 68) C dX11_storm_66 rfl (Nat.le_of_ble_eq_true rfl) rfl ?_
            refine R_ic (n := 69) C dX11_storm_68 ci_0 rfl ?_
            refine R_is12 (n := 71) C dX11_storm_69 rfl (Nat.le_of_ble_eq_true rfl) rfl ?_
            exact loop (x4 + 1) 0 none none (by omega) (by omega)
          · exact bad (by rw [c5, Bool.and_false, Bool.and_false, Bool.and_false])
  · rw [aStorm, c1] at CR
    refine R_ldc2 (n := 11) C dX11_storm_8 kl_X11_304 rfl ?_
    refine R_lret C CR (Nat.zero_le _) (Nat.zero_le _) dX11_storm_11 ?_
    exact ⟨rfl, rfl, R, FrM.rf⟩
