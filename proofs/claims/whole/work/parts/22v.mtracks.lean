def FT (σ : WS) (P : Nat → Bool) (y : Nat) (g : Hp) : Prop := g 73 34 = nI (cnz P y) ∧ ((cnz P y = 0 ∧ g 73 35 = -6) ∨ (cnz P y ≠ 0 ∧ ∃ z, z < y ∧ P z = true ∧ (∀ u, u < z → P u = false) ∧ g 73 35 = nI z)) ∧ ∀ k, k < sN σ → g 97 k = nI (orP P k y)
abbrev FA : List Nat := 74 :: 75 :: 85 :: 86 :: 97 :: []
abbrev FS : List Nat := 16 :: 17 :: 18 :: 34 :: 35 :: []
theorem cnz_z {p : Nat → Bool} : ∀ {n : Nat}, cnz p n = 0 → ∀ k, k < n → p k = false
  | 0, _, k, hk => absurd hk (Nat.not_lt_zero _)
  | n + 1, h, k, hk => by
    rw [cnz] at h
    by_cases c : p n = true
    · rw [if_pos c] at h; omega
    · rw [if_neg c] at h
      by_cases e : k = n
      · rw [e]; simpa using c
      · exact cnz_z (n := n) (by omega) k (by omega)
set_option maxRecDepth 20000 in
set_option maxHeartbeats 4000000 in
theorem c_mFindTracks (l : Launch) (D : va_G) (cA : Nat → ClassId) (r : Nat → Nat) {h : Hp} {σ : WS} (R : RM σ h) (I : Inv σ) {ev : List Nat} (A : EvM ev h) (ok : ∀ x ∈ ev, okX (sN σ) x) (len : ev.length ≤ 60) (kn : ∀ x ∈ ev, x < 6 → (sKn σ).testBit x = true) : Cn l D cA yX11_findTracks cX11_findTracks 3 none 4 0 0 [.ref (r 73)] (LY r) h (pG none (LY r) (fun h' => FT σ (Plz σ ev (sN σ)) (2 ^ (2 * sN σ)) h' ∧ (∀ k, k < 5 → h' 74 k = h 74 k ∧ h' 75 k = h 75 k) ∧ FrA FA FS h h')) := by
  refine Cn.of (lv := [some (.ref (r 73)), none, none]) (by decide +kernel) (Nat.le_of_ble_eq_true rfl) rfl (fun X hnm C CR => ?_)
  have n5 := I.n5
  have p10 := p2_10 n5
  obtain ⟨N, hN⟩ : ∃ N, 2 ^ (2 * sN σ) = N := ⟨_, rfl⟩
  obtain ⟨P, hP⟩ : ∃ P, Plz σ ev (sN σ) = P := ⟨_, rfl⟩
  rw [hN, hP] at CR
  rw [hN] at p10
  have tk : ∀ y, tkr σ ev.length ev (tS σ y) 0 = P y := by
    intro y
    rw [← hP]
    apply Bool.eq_iff_iff.mpr
    rw [tkr_iff I (by omega) kn, Plz_iff]
    have e : ∀ k, k < sN σ → ((tS σ y).1 k, (tS σ y).2.1 k) = (wy y k, sA σ 1 k) := fun k hk => by
      show ((if k < sN σ then wy y k else 0), (if k < sN σ then sA σ 1 k else 9)) = _
      rw [if_pos hk, if_pos hk]
    constructor
    · intro h k hk
      have := h k hk
      rw [e k hk] at this
      exact this
    · intro h k hk
      rw [e k hk]
      exact h k hk
  have main : ∀ (t y : Nat) (g : Hp) (o2 : Option Value), N < y + t → y ≤ N → (∃ e, RM (dnz σ e) g ∧ EOk σ e) → FT σ P y g → FrA FA FS h g → (∀ k, k < 5 → g 85 k = h 74 k ∧ g 86 k = h 75 k) → Rn X 0 0 37 [some (.ref (r 73)), some (.int (nI y)), o2] [] (LY r) g := by
    intro t
    induction t with
    | zero => intro y g o2 a1 a2; omega
    | succ t ih =>
      intro y g o2 a1 a2 ⟨e, Rg, Og⟩ T F B
      have Ig := dnz_inv I Og
      refine R_il1 (n := 38) C dX11_findTracks_37 rfl ?_
      refine R_al0 (n := 39) C dX11_findTracks_38 rfl ?_
      refine M_callV (n := 42) C (c_mAll _ _ _ r Rg Ig) mw_X11_all ml_X11_220 iv_X11_all dX11_findTracks_39 rfl rfl rfl rfl (Nat.le_of_ble_eq_true rfl) ⟨Nat.le_of_ble_eq_true rfl, Nat.le_of_ble_eq_true rfl⟩ ⟨Nat.le_refl _, Nat.le_refl _⟩ rfl (pEs ?_)
      rw [show 2 ^ (2 * sN (dnz σ e)) = N from hN]
      refine R_icmp_geN (tgt := 120) C dX11_findTracks_42 rfl rfl (by omega) (by omega) (fun c1 => ?_) (fun c1 => ?_)
      · obtain rfl : y = N := by omega
        refine R_al0 (n := 121) C dX11_findTracks_120 rfl ?_
        refine M_callV (n := 124) C (c_mPutBack _ _ _ r) mw_X11_putBack ml_X11_201 iv_X11_putBack dX11_findTracks_121 rfl rfl rfl rfl (Nat.le_of_ble_eq_true rfl) ⟨Nat.le_of_ble_eq_true rfl, Nat.le_of_ble_eq_true rfl⟩ ⟨Nat.le_refl _, Nat.le_refl _⟩ rfl (pGv (fun h4 q4 => ?_))
        refine R_vret C CR (Nat.zero_le _) (Nat.zero_le _) dX11_findTracks_124 ?_
        refine ⟨rfl, rfl, ⟨?_, ?_, fun k hk => ?_⟩, fun k hk => ?_, F.tr (q4.2.mono (by decide) (by decide))⟩
        · rw [q4.2.2 34 (by decide)]; exact T.1
        · rw [q4.2.2 35 (by decide)]; exact T.2.1
        · rw [q4.2.1 97 (by decide) (by decide)]; exact T.2.2 k hk
        · rw [(q4.1 k hk).1, (q4.1 k hk).2]; exact B k hk
      · have A1 := A.fr F (by decide) (by decide)
        have cb : cnz P y ≤ y := cnz_le
        refine R_al0 (n := 46) C dX11_findTracks_45 rfl ?_
        refine R_il1 (n := 47) C dX11_findTracks_46 rfl ?_
        refine M_callV (n := 50) C (c_mIsTrack _ _ _ r Rg I Og A1 ok len (by omega) (fun k hk => by rw [(B k hk).2]; exact mLg R hk)) mw_X11_isTrack ml_X11_294 iv_X11_isTrack dX11_findTracks_47 rfl rfl rfl rfl (Nat.le_of_ble_eq_true rfl) ⟨Nat.le_of_ble_eq_true rfl, Nat.le_of_ble_eq_true rfl⟩ ⟨Nat.le_refl _, Nat.le_refl _⟩ rfl (pGs (fun g2 q2 => ?_))
        rw [tk y]
        have F2 := F.tr (q2.2.mono (by decide) (by decide))
        have B2 : ∀ k, k < 5 → g2 85 k = h 74 k ∧ g2 86 k = h 75 k := fun k hk => by rw [q2.2.1 85 (by decide) (by decide), q2.2.1 86 (by decide) (by decide)]; exact B k hk
        have e34 : g2 73 34 = nI (cnz P y) := by rw [q2.2.2 34 (by decide)]; exact T.1
        have e35 : g2 73 35 = g 73 35 := q2.2.2 35 (by decide)
        have e97 : ∀ k, k < sN σ → g2 97 k = nI (orP P k y) := fun k hk => by rw [q2.2.1 97 (by decide) (by decide)]; exact T.2.2 k hk
        obtain ⟨e2, R2, O2⟩ := q2.1
        refine R_if_eqB (tgt := 114) C dX11_findTracks_50 rfl rfl (fun c2 => ?_) (fun c2 => ?_)
        · have cs : cnz P (y + 1) = cnz P y := by rw [cnz, if_neg (by rw [c2]; decide)]; rfl
          refine R_inc1 (n := 117) C dX11_findTracks_114 rfl (Nat.le_of_ble_eq_true rfl) (inc_1 _) rfl ?_
          refine R_goto (n := 37) C dX11_findTracks_117 rfl ?_
          refine ih (y + 1) g2 _ (by omega) (by omega) ⟨e2, R2, O2⟩ ⟨by rw [cs]; exact e34, ?_, fun k hk => ?_⟩ F2 B2
          · rw [cs, e35]
            rcases T.2.1 with ⟨t1, t2⟩ | ⟨t1, z, z1, z2, z3, z4⟩
            · exact Or.inl ⟨t1, t2⟩
            · exact Or.inr ⟨t1, z, by omega, z2, z3, z4⟩
          · rw [orP, if_neg (by rw [c2]; decide)]
            exact e97 k hk
        · have cs : cnz P (y + 1) = cnz P y + 1 := by rw [cnz, if_pos c2]
          have at69 : ∀ v : Int32, (∃ z, z < y + 1 ∧ P z = true ∧ (∀ u, u < z → P u = false) ∧ v = nI z) → Rn X 0 0 69 [some (.ref (r 73)), some (.int (nI y)), o2] [.int v, .ref (r 73)] (LY r) g2 := by
            intro v hv
            refine M_putI (n := 72) C fl_X11_291 dX11_findTracks_69 rfl rfl rfl rfl rfl ?_
            refine R_al0 (n := 73) C dX11_findTracks_72 rfl ?_
            refine R_dup (n := 74) C dX11_findTracks_73 rfl rfl ?_
            refine M_getI (n := 77) C fl_X11_288 dX11_findTracks_74 rfl rfl (up2_gne (by decide) e34) rfl ?_
            refine R_ic (n := 78) C dX11_findTracks_77 ci_1 rfl ?_
            refine R_iaddN (n := 79) C dX11_findTracks_78 rfl ?_
            refine M_putI (n := 82) C fl_X11_288 dX11_findTracks_79 rfl rfl rfl rfl rfl ?_
            refine R_ic (n := 83) C dX11_findTracks_82 ci_0 rfl ?_
            refine R_is2 (n := 84) C dX11_findTracks_83 rfl (Nat.le_of_ble_eq_true rfl) rfl ?_
            have inn : ∀ (t k : Nat) (g3 : Hp), sN σ < k + t → k ≤ sN σ → RM (dnz σ e2) g3 → g3 73 34 = nI (cnz P y + 1) → g3 73 35 = v → (∀ j, j < sN σ → g3 97 j = nI (if j < k then orP P j (y + 1) else orP P j y)) → FrA FA FS h g3 → (∀ k, k < 5 → g3 85 k = h 74 k ∧ g3 86 k = h 75 k) → Rn X 0 0 84 [some (.ref (r 73)), some (.int (nI y)), some (.int (nI k))] [] (LY r) g3 := by
              intro t
              induction t with
              | zero => intro k g3 a1 a2; omega
              | succ t iht =>
                intro k g3 b1 b2 R3 f34 f35 f97 F3 B3
                refine R_il2 (n := 85) C dX11_findTracks_84 rfl ?_
                refine R_al0 (n := 86) C dX11_findTracks_85 rfl ?_
                refine M_getI (n := 89) C fl_X11_94 dX11_findTracks_86 rfl rfl (show _ = nI (sN σ) from R3.1) rfl ?_
                refine R_icmp_geN (tgt := 114) C dX11_findTracks_89 rfl rfl (by omega) (by omega) (fun d1 => ?_) (fun d1 => ?_)
                · refine R_inc1 (n := 117) C dX11_findTracks_114 rfl (Nat.le_of_ble_eq_true rfl) (inc_1 _) rfl ?_
                  refine R_goto (n := 37) C dX11_findTracks_117 rfl ?_
                  refine ih (y + 1) g3 _ (by omega) (by omega) ⟨e2, R3, O2⟩ ⟨by rw [cs]; exact f34, ?_, fun j hj => ?_⟩ F3 B3
                  · rw [cs, f35]
                    exact Or.inr ⟨by omega, hv⟩
                  · rw [f97 j hj, if_pos (by omega)]
                · have w4 := wy_lt y k
                  have b3 : 1 * 2 ^ wy y k < 2 ^ 32 := Nat.lt_of_le_of_lt (Nat.mul_le_mul_left 1 (Nat.pow_le_pow_right (by decide) (show wy y k ≤ 4 by omega))) (by decide)
                  have f := f97 k d1
                  rw [if_neg (Nat.lt_irrefl _)] at f
                  refine R_al0 (n := 93) C dX11_findTracks_92 rfl ?_
                  refine M_getR (n := 96) C fl_X11_80 dX11_findTracks_93 rfl rfl rfl ?_
                  refine R_il2 (n := 97) C dX11_findTracks_96 rfl ?_
                  refine R_dup2 (n := 98) C dX11_findTracks_97 rfl rfl rfl ?_
                  refine M_iald (n := 99) C dX11_findTracks_98 rfl (by omega) f rfl ?_
                  refine R_ic (n := 100) C dX11_findTracks_99 ci_1 rfl ?_
                  refine R_il1 (n := 101) C dX11_findTracks_100 rfl ?_
                  refine R_il2 (n := 102) C dX11_findTracks_101 rfl ?_
                  refine R_callS (n := 105) C (c_mWayIn _ _ _ r (by omega) (by omega)) mw_X11_wayIn ml_X11_204 sv_X11_wayIn dX11_findTracks_102 rfl rfl (Nat.le_of_ble_eq_true rfl) ⟨Nat.le_of_ble_eq_true rfl, Nat.le_of_ble_eq_true rfl⟩ ⟨Nat.le_refl _, Nat.le_refl _⟩ rfl (pEs ?_)
                  refine R_ishlN (n := 106) C dX11_findTracks_105 (by omega) b3 rfl ?_
                  refine R_iorN (n := 107) C dX11_findTracks_106 rfl ?_
                  refine R_eq (y := nI (orP P k (y + 1))) (by rw [Nat.one_mul, orP, if_pos c2]) ?_
                  refine M_iast (n := 108) C dX11_findTracks_107 rfl (by omega) rfl ?_
                  refine R_inc2 (n := 111) C dX11_findTracks_108 rfl (Nat.le_of_ble_eq_true rfl) (inc_1 _) rfl ?_
                  refine R_goto (n := 84) C dX11_findTracks_111 rfl ?_
                  refine iht (k + 1) _ (by omega) (by omega) (R3.f (fun a h1 h2 => up2_row (by omega)) (by rw [up2_row (by decide)]) (by rw [up2_row (by decide)]) (by rw [up2_row (by decide)])) (up2_get (by decide) f34) (up2_get (by decide) f35) (fun j hj => ?_) (F3.up (by decide) (by decide)) (fun k hk => by rw [up2_row (by decide), up2_row (by decide)]; exact B3 k hk)
                  rw [up2_at]
                  by_cases g : j = k
                  · rw [if_pos g, if_pos (by omega), g]
                  · rw [if_neg g, f97 j hj]
                    by_cases g2 : j < k
                    · rw [if_pos g2, if_pos (by omega)]
                    · rw [if_neg g2, if_neg (by omega)]
            refine inn (sN σ + 1) 0 _ (by omega) (by omega) ((R2.fl (by decide)).fl (by decide)) up2_same (by rw [up2_ne (by decide), up2_same]) (fun j hj => ?_) ((F2.fld (by decide)).fld (by decide)) (fun k hk => by rw [up2_row (by decide), up2_row (by decide), up2_row (by decide), up2_row (by decide)]; exact B2 k hk)
            rw [up2_row (by decide), up2_row (by decide), if_neg (Nat.not_lt_zero _)]
            exact e97 j hj
          refine R_al0 (n := 54) C dX11_findTracks_53 rfl ?_
          refine R_al0 (n := 55) C dX11_findTracks_54 rfl ?_
          refine M_getI (n := 58) C fl_X11_288 dX11_findTracks_55 rfl rfl e34 rfl ?_
          refine R_if_neN (tgt := 65) C dX11_findTracks_58 rfl rfl (by omega) (fun c3 => ?_) (fun c3 => ?_)
          · rcases T.2.1 with ⟨t1, t2⟩ | ⟨t1, z, z1, z2, z3, z4⟩
            · exact absurd t1 c3
            · refine R_al0 (n := 66) C dX11_findTracks_65 rfl ?_
              refine M_getI (n := 69) C fl_X11_291 dX11_findTracks_66 rfl rfl (e35.trans z4) rfl ?_
              exact at69 _ ⟨z, by omega, z2, z3, rfl⟩
          · refine R_il1 (n := 62) C dX11_findTracks_61 rfl ?_
            refine R_goto (n := 69) C dX11_findTracks_62 rfl ?_
            exact at69 _ ⟨y, by omega, c2, cnz_z c3, rfl⟩
  have fill : ∀ (t i : Nat) (g : Hp), 5 < i + t → i ≤ 5 → g 73 34 = nI 0 → g 73 35 = -6 → (∀ k, k < i → g 97 k = nI 0) → FrA FA FS h g → (∀ k, k < 5 → g 74 k = h 74 k ∧ g 75 k = h 75 k) → RM σ g → Rn X 0 0 13 [some (.ref (r 73)), some (.int (nI i)), none] [] (LY r) g := by
    intro t
    induction t with
    | zero => intro i g a1 a2; omega
    | succ t ih =>
      intro i g a1 a2 g34 g35 g97 F B Rg
      refine R_il1 (n := 14) C dX11_findTracks_13 rfl ?_
      refine R_ic (n := 15) C dX11_findTracks_14 ci_5 rfl ?_
      refine R_icmp_geN (tgt := 31) C dX11_findTracks_15 rfl rfl (by omega) (by omega) (fun c1 => ?_) (fun c1 => ?_)
      · refine R_al0 (n := 32) C dX11_findTracks_31 rfl ?_
        refine M_callV (n := 35) C (c_mKeepNow _ _ _ r) mw_X11_keepNow ml_X11_195 iv_X11_keepNow dX11_findTracks_32 rfl rfl rfl rfl (Nat.le_of_ble_eq_true rfl) ⟨Nat.le_of_ble_eq_true rfl, Nat.le_of_ble_eq_true rfl⟩ ⟨Nat.le_refl _, Nat.le_refl _⟩ rfl (pGv (fun g2 q2 => ?_))
        refine R_ic (n := 36) C dX11_findTracks_35 ci_0 rfl ?_
        refine R_is1 (n := 37) C dX11_findTracks_36 rfl (Nat.le_of_ble_eq_true rfl) rfl ?_
        have R2 := q2.2.rm Rg (by decide) (by decide)
        have R3 : RM (dnz σ (ev0 σ)) g2 := (REM.start (o := (g2 73 16, g2 73 18, g2 73 17)) R2 rfl rfl rfl).1
        refine main (N + 1) 0 g2 none (by omega) (by omega) ⟨ev0 σ, R3, ev0_ok I⟩ ⟨?_, Or.inl ⟨rfl, ?_⟩, fun k hk => ?_⟩ (F.tr (q2.2.mono (by decide) (by decide))) (fun k hk => ?_)
        · rw [q2.2.2 34 (by decide)]; exact g34
        · rw [q2.2.2 35 (by decide)]; exact g35
        · rw [q2.2.1 97 (by decide) (by decide)]; exact g97 k (by omega)
        · rw [(q2.1 k hk).1, (q2.1 k hk).2]; exact B k hk
      · refine R_al0 (n := 19) C dX11_findTracks_18 rfl ?_
        refine M_getR (n := 22) C fl_X11_80 dX11_findTracks_19 rfl rfl rfl ?_
        refine R_il1 (n := 23) C dX11_findTracks_22 rfl ?_
        refine R_ic (n := 24) C dX11_findTracks_23 ci_0 rfl ?_
        refine M_iast (n := 25) C dX11_findTracks_24 rfl c1 rfl ?_
        refine R_inc1 (n := 28) C dX11_findTracks_25 rfl (Nat.le_of_ble_eq_true rfl) (inc_1 _) rfl ?_
        refine R_goto (n := 13) C dX11_findTracks_28 rfl ?_
        refine ih (i + 1) _ (by omega) (by omega) (up2_get (by decide) g34) (up2_get (by decide) g35) (fun k hk => ?_) (F.up (by decide) (by decide)) (fun k hk => by rw [up2_row (by decide), up2_row (by decide)]; exact B k hk) (Rg.f (fun a h1 h2 => up2_row (by omega)) (by rw [up2_row (by decide)]) (by rw [up2_row (by decide)]) (by rw [up2_row (by decide)]))
        rw [up2_at]
        split
        · rfl
        · exact g97 k (by omega)
  refine R_al0 (n := 1) C dX11_findTracks_0 rfl ?_
  refine R_ic (n := 2) C dX11_findTracks_1 ci_0 rfl ?_
  refine M_putI (n := 5) C fl_X11_288 dX11_findTracks_2 rfl rfl rfl rfl rfl ?_
  refine R_al0 (n := 6) C dX11_findTracks_5 rfl ?_
  refine R_bp (n := 8) C dX11_findTracks_6 cb_m6 rfl ?_
  refine M_putI (n := 11) C fl_X11_291 dX11_findTracks_8 rfl rfl rfl rfl rfl ?_
  refine R_ic (n := 12) C dX11_findTracks_11 ci_0 rfl ?_
  refine R_is1 (n := 13) C dX11_findTracks_12 rfl (Nat.le_of_ble_eq_true rfl) rfl ?_
  exact fill 6 0 _ (by omega) (by omega) (by rw [up2_ne (by decide), up2_same]) up2_same (fun k hk => absurd hk (Nat.not_lt_zero k)) ((FrA.rf.fld (by decide)).fld (by decide)) (fun k hk => by rw [up2_row (by decide), up2_row (by decide), up2_row (by decide), up2_row (by decide)]; exact ⟨rfl, rfl⟩) ((R.fl (by decide)).fl (by decide))
theorem okT_kn {G : GS} (h : okT G = true) : ∀ x ∈ evT G, x < 6 → (sKn (gS G)).testBit x = true := by
  intro x hx h6
  unfold okT at h
  rw [Bool.and_eq_true] at h
  have := List.all_eq_true.mp h.2 x hx
  rw [decide_eq_true h6, Bool.not_true, Bool.false_or] at this
  exact this
set_option maxRecDepth 20000 in
set_option maxHeartbeats 4000000 in
theorem m_tracks (l : Launch) (D : va_G) (cA : Nat → ClassId) (r : Nat → Nat) {h : Hp} {G : GS} (R : RMo G h) (I : InvG G) (v : Int32) : Cn l D cA yX11_tracks cX11_tracks 2 (some .int) 5 0 0 [.ref (r 73), .int v] (LY r) h (pG (some (.int (aTracks G v))) (LY r) (fun h' => RMo G h' ∧ FrM h h')) := by
  refine Cn.of (lv := [some (.ref (r 73)), some (.int v)]) (by decide +kernel) (Nat.le_of_ble_eq_true rfl) rfl (fun X hnm C CR => ?_)
  refine R_il1 (n := 1) C dX11_tracks_0 rfl ?_
  refine R_i2l (n := 2) C dX11_tracks_1 rfl rfl ?_
  refine R_lc (n := 3) C dX11_tracks_2 lc_0 rfl ?_
  refine R_lc (n := 4) C dX11_tracks_3 lc_1 rfl ?_
  refine R_callS (n := 7) C (c_mIn _ _ _ r _ _ _) mw_X11_in ml_X11_104 sv_X11_in dX11_tracks_4 rfl rfl (Nat.le_of_ble_eq_true rfl) ⟨Nat.le_of_ble_eq_true rfl, Nat.le_of_ble_eq_true rfl⟩ ⟨Nat.le_refl _, Nat.le_refl _⟩ rfl (pEs ?_)
  rw [winL_n (by decide) (by decide)]
  refine R_if_neB (tgt := 13) C dX11_tracks_7 rfl rfl (fun c1 => ?_) (fun c1 => ?_)
  · obtain ⟨x, _, hx, rfl⟩ := win_of (by decide) (by decide) c1
    have xc : cl (nI x) = x := nI_clamp (by omega)
    rw [aTracks, if_pos c1, xc] at CR
    refine R_al0 (n := 14) C dX11_tracks_13 rfl ?_
    refine M_callV (n := 17) C (c_mIsUnread _ _ _ r R I) mw_X11_isUnread ml_X11_297 iv_X11_isUnread dX11_tracks_14 rfl rfl rfl rfl (Nat.le_of_ble_eq_true rfl) ⟨Nat.le_of_ble_eq_true rfl, Nat.le_of_ble_eq_true rfl⟩ ⟨Nat.le_refl _, Nat.le_refl _⟩ rfl (pGs (fun h1 q1 => ?_))
    cases c2 : okT G with
    | false =>
      rw [c2, if_neg (by decide)] at CR
      refine R_if_eqB (tgt := 23) C dX11_tracks_17 rfl rfl (fun d1 => ?_) (fun d1 => ?_)
      · cases d1
      · refine R_bp (n := 22) C dX11_tracks_20 cb_m5 rfl ?_
        refine R_iret C CR (Nat.zero_le _) (Nat.zero_le _) dX11_tracks_22 ?_
        exact ⟨rfl, rfl, R.t (q1.2.mono (by decide) (by decide))⟩
    | true =>
      rw [c2, if_pos rfl] at CR
      have V := okT_E c2
      have okx := evr_ok60 I V
      have R1 := q1.2.rm R.1 (by decide) (by decide)
      refine R_if_eqB (tgt := 23) C dX11_tracks_17 rfl rfl (fun d1 => ?_) (fun d1 => ?_)
      · refine R_al0 (n := 24) C dX11_tracks_23 rfl ?_
        refine M_callV (n := 27) C (c_mFindTracks _ _ _ r R1 I.1 (q1.1 c2) okx.1 okx.2 (okT_kn c2)) mw_X11_findTracks ml_X11_301 iv_X11_findTracks dX11_tracks_24 rfl rfl rfl rfl (Nat.le_of_ble_eq_true rfl) ⟨Nat.le_of_ble_eq_true rfl, Nat.le_of_ble_eq_true rfl⟩ ⟨Nat.le_refl _, Nat.le_refl _⟩ rfl (pGv (fun h2 q2 => ?_))
        have K : RMo G h2 ∧ FrM h h2 := R.back ((q1.2.mono (by decide) (by decide)).tr (q2.2.2.mono (by decide) (by decide))) (fun k hk => by rw [(q2.2.1 k hk).1, (q2.2.1 k hk).2, q1.2.1 74 (by decide) (by decide), q1.2.1 75 (by decide) (by decide)]; exact ⟨rfl, rfl⟩)
        have T := q2.1
        have ct : cnz (Plz (gS G) (evT G) (sN (gS G))) (2 ^ (2 * sN (gS G))) = trM (gS G) (evT G) (sN (gS G)) := trM_cn _
        have e34 := T.1
        rw [ct] at e34
        have e35 : h2 73 35 = if trM (gS G) (evT G) (sN (gS G)) = 0 then -6 else nI (trL (gS G) (evT G) (sN (gS G))) := by
          rcases T.2.1 with ⟨t1, t2⟩ | ⟨t1, z, z1, z2, z3, z4⟩
          · rw [ct] at t1
            rw [if_pos t1, t2]
          · rw [ct] at t1
            rw [if_neg t1, z4]
            have l := trL_is t1
            have le1 : trL (gS G) (evT G) (sN (gS G)) ≤ z := l.2 z z1 z2
            have le2 : z ≤ trL (gS G) (evT G) (sN (gS G)) := by
              apply Nat.le_of_not_lt
              intro q
              have := z3 _ q
              have l1 : Plz (gS G) (evT G) (sN (gS G)) (trL (gS G) (evT G) (sN (gS G))) = true := l.1
              rw [l1] at this
              cases this
            rw [Nat.le_antisymm le1 le2]
        refine R_il1 (n := 28) C dX11_tracks_27 rfl ?_
        refine R_if_neN (tgt := 38) C dX11_tracks_28 rfl rfl (by omega) (fun d2 => ?_) (fun d2 => ?_)
        · rw [if_neg d2] at CR
          refine R_al0 (n := 39) C dX11_tracks_38 rfl ?_
          refine M_getI (n := 42) C fl_X11_291 dX11_tracks_39 rfl rfl e35 rfl ?_
          refine R_iret C CR (Nat.zero_le _) (Nat.zero_le _) dX11_tracks_42 ?_
          exact ⟨rfl, rfl, K⟩
        · rw [if_pos d2] at CR
          refine R_al0 (n := 32) C dX11_tracks_31 rfl ?_
          refine M_getI (n := 35) C fl_X11_288 dX11_tracks_32 rfl rfl e34 rfl ?_
          refine R_goto (n := 42) C dX11_tracks_35 rfl ?_
          refine R_iret C CR (Nat.zero_le _) (Nat.zero_le _) dX11_tracks_42 ?_
          exact ⟨rfl, rfl, K⟩
      · cases d1
  · refine R_bp (n := 12) C dX11_tracks_10 cb_m2 rfl ?_
    refine R_iret C CR (Nat.zero_le _) (Nat.zero_le _) dX11_tracks_12 ?_
    refine ⟨?_, rfl, R, FrM.rf⟩
    rw [aTracks, if_neg (by rw [c1]; decide)]
set_option maxRecDepth 20000 in
set_option maxHeartbeats 4000000 in
theorem m_looked (l : Launch) (D : va_G) (cA : Nat → ClassId) (r : Nat → Nat) {h : Hp} {G : GS} (R : RMo G h) (I : InvG G) (v : Int32) : Cn l D cA yX11_looked cX11_looked 2 (some .int) 5 0 0 [.ref (r 73), .int v] (LY r) h (pG (some (.int (aLooked G v))) (LY r) (fun h' => RMo G h' ∧ FrM h h')) := by
  refine Cn.of (lv := [some (.ref (r 73)), some (.int v)]) (by decide +kernel) (Nat.le_of_ble_eq_true rfl) rfl (fun X hnm C CR => ?_)
  have n5 := I.1.n5
  refine R_al0 (n := 1) C dX11_looked_0 rfl ?_
  refine R_il1 (n := 2) C dX11_looked_1 rfl ?_
  refine M_callV (n := 5) C (c_mIsHut _ _ _ r R.1 I.1 _) mw_X11_isHut ml_X11_112 iv_X11_isHut dX11_looked_2 rfl rfl rfl rfl (Nat.le_of_ble_eq_true rfl) ⟨Nat.le_of_ble_eq_true rfl, Nat.le_of_ble_eq_true rfl⟩ ⟨Nat.le_refl _, Nat.le_refl _⟩ rfl (pEs ?_)
  refine R_if_neB (tgt := 10) C dX11_looked_5 rfl rfl (fun c1 => ?_) (fun c1 => ?_)
  · obtain ⟨x, hx, rfl, xc⟩ := hasH_of I.1 c1
    rw [aLooked, if_pos c1, xc] at CR
    refine R_al0 (n := 11) C dX11_looked_10 rfl ?_
    refine M_callV (n := 14) C (c_mIsUnread _ _ _ r R I) mw_X11_isUnread ml_X11_297 iv_X11_isUnread dX11_looked_11 rfl rfl rfl rfl (Nat.le_of_ble_eq_true rfl) ⟨Nat.le_of_ble_eq_true rfl, Nat.le_of_ble_eq_true rfl⟩ ⟨Nat.le_refl _, Nat.le_refl _⟩ rfl (pGs (fun h1 q1 => ?_))
    cases c2 : okT G with
    | false =>
      rw [c2, if_neg (by decide)] at CR
      refine R_if_eqB (tgt := 20) C dX11_looked_14 rfl rfl (fun d1 => ?_) (fun d1 => ?_)
      · cases d1
      · refine R_bp (n := 19) C dX11_looked_17 cb_m5 rfl ?_
        refine R_iret C CR (Nat.zero_le _) (Nat.zero_le _) dX11_looked_19 ?_
        exact ⟨rfl, rfl, R.t (q1.2.mono (by decide) (by decide))⟩
    | true =>
      rw [c2, if_pos rfl] at CR
      have V := okT_E c2
      have okx := evr_ok60 I V
      have R1 := q1.2.rm R.1 (by decide) (by decide)
      refine R_if_eqB (tgt := 20) C dX11_looked_14 rfl rfl (fun d1 => ?_) (fun d1 => ?_)
      · refine R_al0 (n := 21) C dX11_looked_20 rfl ?_
        refine M_callV (n := 24) C (c_mFindTracks _ _ _ r R1 I.1 (q1.1 c2) okx.1 okx.2 (okT_kn c2)) mw_X11_findTracks ml_X11_301 iv_X11_findTracks dX11_looked_21 rfl rfl rfl rfl (Nat.le_of_ble_eq_true rfl) ⟨Nat.le_of_ble_eq_true rfl, Nat.le_of_ble_eq_true rfl⟩ ⟨Nat.le_refl _, Nat.le_refl _⟩ rfl (pGv (fun h2 q2 => ?_))
        have K : RMo G h2 ∧ FrM h h2 := R.back ((q1.2.mono (by decide) (by decide)).tr (q2.2.2.mono (by decide) (by decide))) (fun k hk => by rw [(q2.2.1 k hk).1, (q2.2.1 k hk).2, q1.2.1 74 (by decide) (by decide), q1.2.1 75 (by decide) (by decide)]; exact ⟨rfl, rfl⟩)
        have e97 : h2 97 x = if trM (gS G) (evT G) (sN (gS G)) = 0 then 0 else nI (wmz (gS G) (evT G) x 4) := by
          rw [q2.1.2.2 x hx, orP_is hx]
          show nI (if trM (gS G) (evT G) (sN (gS G)) = 0 then 0 else wmz (gS G) (evT G) x 4) = _
          split <;> rfl
        refine R_al0 (n := 25) C dX11_looked_24 rfl ?_
        refine M_getR (n := 28) C fl_X11_80 dX11_looked_25 rfl rfl rfl ?_
        refine R_il1 (n := 29) C dX11_looked_28 rfl ?_
        refine M_iald (n := 30) C dX11_looked_29 rfl (by omega) e97 rfl ?_
        refine R_iret C CR (Nat.zero_le _) (Nat.zero_le _) dX11_looked_30 ?_
        exact ⟨rfl, rfl, K⟩
      · cases d1
  · refine R_ic (n := 9) C dX11_looked_8 ci_m1 rfl ?_
    refine R_iret C CR (Nat.zero_le _) (Nat.zero_le _) dX11_looked_9 ?_
    refine ⟨?_, rfl, R, FrM.rf⟩
    rw [aLooked, if_neg (by rw [c1]; decide)]
