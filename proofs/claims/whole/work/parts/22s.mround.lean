theorem div10_le {v : Int32} (h : v < 0) : v / nI 10 < 0 ∨ v / nI 10 = 0 := by
  have h1 := Int32.lt_iff_toInt_lt.mp h
  have z : (0 : Int32).toInt = 0 := rfl
  rw [z] at h1
  have r := Int32.le_toInt v
  have e1 : (nI 10).toInt = 10 := by decide
  have e3 : v.toInt.tdiv 10 = -((-v.toInt) / 10) := by
    have e : v.toInt = -(-v.toInt) := by omega
    rw [e, Int.neg_tdiv, Int.tdiv_eq_ediv_of_nonneg (by omega), Int.neg_neg]
  have e4 : (v / nI 10).toInt = -((-v.toInt) / 10) := by
    rw [Int32.toInt_div, e1, e3, bm32 (z := -((-v.toInt) / 10)) (by omega) (by omega)]
  by_cases g : (v / nI 10).toInt = 0
  · exact Or.inr (Int32.toInt_inj.mp (by rw [g, z]))
  · refine Or.inl (Int32.lt_iff_toInt_lt.mpr ?_)
    rw [z]
    omega
theorem los_neg {s : Nat} : ∀ {j : Nat} {v : Int32} {lk : Nat}, v < 0 → los s j v lk = none
  | 0, v, lk, h => by
    rw [los, if_neg]
    intro e
    rw [e] at h
    exact absurd h (by decide)
  | j + 1, v, lk, h => by
    rw [los]
    split
    · rcases div10_le h with g | g
      · split
        · exact los_neg g
        · rfl
      · rw [if_neg]
        rw [g, show v - 0 * nI 10 = v by simp, win_neg (by decide) h]
        decide
    · exact los_neg h
theorem los_up {s n : Nat} (hs : s < 2 ^ n) {v : Int32} {lk : Nat} : ∀ d, los s (n + d) v lk = los s n v lk
  | 0 => rfl
  | d + 1 => by
    have e : s.testBit (n + d) = false := Nat.testBit_lt_two_pow (Nat.lt_of_lt_of_le hs (Nat.pow_le_pow_right (by decide) (by omega)))
    rw [← Nat.add_assoc, los, if_neg (by rw [e]; decide)]
    exact los_up hs d
theorem wyq {q j k : Nat} (h : j ≤ k) : wy (q * 2 ^ (2 * j)) k = q / 2 ^ (2 * (k - j)) % 4 := by
  unfold wy
  rw [show 2 * k = 2 * (k - j) + 2 * j by omega, Nat.pow_add, Nat.mul_div_mul_right _ _ (p2_pos _)]
theorem lk_nx {q d j : Nat} (hd : d < 4) : (q * 2 ^ (2 * (j + 1))) ||| d * 2 ^ (2 * j) = (4 * q + d) * 2 ^ (2 * j) := by
  have p := p2_pos (2 * j)
  have e : 2 ^ (2 * (j + 1)) = 4 * 2 ^ (2 * j) := by rw [show 2 * (j + 1) = 2 * j + 2 by omega, Nat.pow_add]; omega
  have lt : d * 2 ^ (2 * j) < 2 ^ (2 * (j + 1)) := by
    rw [e]
    exact Nat.mul_lt_mul_of_pos_right hd p
  rw [Nat.or_comm, or_sum lt, e, Nat.add_mul, Nat.add_comm]
  congr 1
  rw [← Nat.mul_assoc, Nat.mul_comm q 4]
theorem wy_nx {q d j : Nat} (hd : d < 4) : wy ((4 * q + d) * 2 ^ (2 * j)) j = d ∧ ∀ k, j + 1 ≤ k → wy ((4 * q + d) * 2 ^ (2 * j)) k = wy (q * 2 ^ (2 * (j + 1))) k := by
  constructor
  · rw [wyq (Nat.le_refl _), Nat.sub_self, Nat.mul_zero, Nat.pow_zero, Nat.div_one]
    omega
  · intro k hk
    rw [wyq (by omega), wyq hk, show 2 * (k - j) = 2 + 2 * (k - (j + 1)) by omega, Nat.pow_add, ← Nat.div_div_eq_div_mul, show (4 * q + d) / 2 ^ 2 = q by omega]
set_option maxRecDepth 20000 in
set_option maxHeartbeats 4000000 in
theorem c_mLayWanted (l : Launch) (D : va_G) (cA : Nat → ClassId) (r : Nat → Nat) {h : Hp} {s : Nat} (hs : s < 32) (v : Int32) : Cn l D cA yX11_layWanted cX11_layWanted 6 (some .boolean) 2 0 0 [.ref (r 73), .int (nI s), .int v] (LY r) h (pG (some (.int (bI (los s 5 v 0).isSome))) (LY r) (fun h' => (∀ b, los s 5 v 0 = some b → ∀ k, k < 5 → s.testBit k = true → h' 94 k = nI (wy b k)) ∧ FrA [94] [] h h')) := by
  refine Cn.of (lv := [some (.ref (r 73)), some (.int (nI s)), some (.int v), none, none, none]) (by decide +kernel) (Nat.le_of_ble_eq_true rfl) rfl (fun X hnm C CR => ?_)
  obtain ⟨Z, hZ⟩ : ∃ Z, los s 5 v 0 = Z := ⟨_, rfl⟩
  rw [hZ] at CR
  have loop : ∀ (j : Nat) (u : Int32) (g : Bool) (q : Nat) (hh : Hp), j ≤ 5 → (g = true → Z = los s j u (q * 2 ^ (2 * j)) ∧ ∀ k, j ≤ k → k < 5 → s.testBit k = true → hh 94 k = nI (wy (q * 2 ^ (2 * j)) k)) → (g = false → Z = none) → FrA [94] [] h hh → Rn X 0 0 16 [some (.ref (r 73)), some (.int (nI s)), some (.int v), some (.int u), some (.int (bI g)), some (.int (pvI j))] [] (LY r) hh := by
    intro j
    induction j with
    | zero =>
      intro u g q hh a1 z1 z2 F
      rw [pvI_0]
      have no : Z = none → Rn X 0 0 91 [some (.ref (r 73)), some (.int (nI s)), some (.int v), some (.int u), some (.int (bI g)), some (.int (-1))] [] (LY r) hh := by
        intro z
        refine R_ic (n := 92) C dX11_layWanted_91 ci_0 rfl ?_
        refine R_zret0 C CR (Nat.zero_le _) (Nat.zero_le _) dX11_layWanted_92 ?_
        exact ⟨by rw [z]; rfl, rfl, fun b e => (by rw [z] at e; cases e), F⟩
      refine R_il5 (n := 18) C dX11_layWanted_16 rfl ?_
      refine R_if_lt (tgt := 78) C dX11_layWanted_18 rfl rfl (fun c1 => ?_) (fun c1 => ?_)
      · refine R_il4 (n := 80) C dX11_layWanted_78 rfl ?_
        refine R_if_eqB (tgt := 91) C dX11_layWanted_80 rfl rfl (fun c2 => ?_) (fun c2 => ?_)
        · exact no (z2 c2)
        · obtain ⟨y1, y2⟩ := z1 c2
          rw [los] at y1
          refine R_il3 (n := 84) C dX11_layWanted_83 rfl ?_
          refine R_if_ne (tgt := 91) C dX11_layWanted_84 rfl rfl (fun c3 => ?_) (fun c3 => ?_)
          · rw [if_neg c3] at y1
            exact no y1
          · rw [if_pos c3] at y1
            refine R_ic (n := 88) C dX11_layWanted_87 ci_1 rfl ?_
            refine R_goto (n := 92) C dX11_layWanted_88 rfl ?_
            refine R_zret1 C CR (Nat.zero_le _) (Nat.zero_le _) dX11_layWanted_92 ?_
            refine ⟨by rw [y1]; rfl, rfl, fun b e k hk hb => ?_, F⟩
            rw [y1] at e
            rw [← Option.some.inj e]
            exact y2 k (Nat.zero_le _) hk hb
      · exact absurd (by decide) c1
    | succ j ih =>
      intro u g q hh a1 z1 z2 F
      rw [pvI_s]
      have h2 : s / 2 ^ j % 2 < 2 := Nat.mod_lt _ (by decide)
      have nx : ∀ (u2 : Int32) (g2 : Bool) (q2 : Nat) (h2 : Hp), (g2 = true → Z = los s j u2 (q2 * 2 ^ (2 * j)) ∧ ∀ k, j ≤ k → k < 5 → s.testBit k = true → h2 94 k = nI (wy (q2 * 2 ^ (2 * j)) k)) → (g2 = false → Z = none) → FrA [94] [] h h2 → Rn X 0 0 72 [some (.ref (r 73)), some (.int (nI s)), some (.int v), some (.int u2), some (.int (bI g2)), some (.int (nI j))] [] (LY r) h2 := by
        intro u2 g2 q2 h2 y1 y2 F2
        refine R_inc5 (n := 75) C dX11_layWanted_72 rfl (Nat.le_of_ble_eq_true rfl) (pvI_ok _ (by omega)) rfl ?_
        refine R_goto (n := 16) C dX11_layWanted_75 rfl ?_
        exact ih u2 g2 q2 h2 (by omega) y1 y2 F2
      refine R_il5 (n := 18) C dX11_layWanted_16 rfl ?_
      refine R_if_ltN C dX11_layWanted_18 78 rfl rfl (by omega) ?_
      refine R_il1 (n := 22) C dX11_layWanted_21 rfl ?_
      refine R_il5 (n := 24) C dX11_layWanted_22 rfl ?_
      refine R_ishrN (n := 25) C dX11_layWanted_24 (by omega) (by omega) rfl ?_
      refine R_ic (n := 26) C dX11_layWanted_25 ci_1 rfl ?_
      refine R_iandN (n := 27) C dX11_layWanted_26 rfl ?_
      refine R_eq (y := nI (s / 2 ^ j % 2)) (by rw [and1]) ?_
      refine R_ic (n := 28) C dX11_layWanted_27 ci_1 rfl ?_
      refine R_icmp_neN (tgt := 72) C dX11_layWanted_28 rfl rfl (by omega) (by omega) (fun c2 => ?_) (fun c2 => ?_)
      · have tb : s.testBit j = false := by rw [tb_div, show s / 2 ^ j % 2 = 0 by omega]; rfl
        refine nx u g (4 * q) hh (fun e => ?_) z2 F
        obtain ⟨y1, y2⟩ := z1 e
        rw [los, if_neg (by rw [tb]; decide)] at y1
        have w0 := wy_nx (q := q) (d := 0) (j := j) (by decide)
        have l0 := lk_nx (q := q) (d := 0) (j := j) (by decide)
        rw [Nat.add_zero] at w0 l0
        rw [Nat.zero_mul, Nat.or_zero] at l0
        rw [l0] at y1
        refine ⟨y1, fun k k1 k2 k3 => ?_⟩
        have kj : k ≠ j := fun e => by rw [e, tb] at k3; cases k3
        rw [w0.2 k (by omega)]
        exact y2 k (by omega) k2 k3
      · have tb : s.testBit j = true := by rw [tb_div, c2]; rfl
        refine R_al0 (n := 32) C dX11_layWanted_31 rfl ?_
        refine M_getR (n := 35) C fl_X11_71 dX11_layWanted_32 rfl rfl rfl ?_
        refine R_il5 (n := 37) C dX11_layWanted_35 rfl ?_
        refine R_il3 (n := 38) C dX11_layWanted_37 rfl ?_
        refine R_bp (n := 40) C dX11_layWanted_38 cb_10 rfl ?_
        refine R_irem (n := 41) C dX11_layWanted_40 (by decide) rfl ?_
        refine M_iast (n := 42) C dX11_layWanted_41 rfl (by omega) rfl ?_
        obtain ⟨dg, hdg⟩ : ∃ dg, u - u / nI 10 * nI 10 = dg := ⟨_, rfl⟩
        rw [hdg]
        have F2 : FrA [94] [] h (up2 hh 94 j dg) := F.up (by decide) (by decide)
        have no : Z = none → Rn X 0 0 64 [some (.ref (r 73)), some (.int (nI s)), some (.int v), some (.int u), some (.int (bI g)), some (.int (nI j))] [] (LY r) (up2 hh 94 j dg) := by
          intro z
          refine R_ic (n := 65) C dX11_layWanted_64 ci_0 rfl ?_
          refine R_eq (y := bI false) rfl ?_
          refine R_is4 (n := 67) C dX11_layWanted_65 rfl (Nat.le_of_ble_eq_true rfl) rfl ?_
          refine R_il3 (n := 68) C dX11_layWanted_67 rfl ?_
          refine R_bp (n := 70) C dX11_layWanted_68 cb_10 rfl ?_
          refine R_idiv (n := 71) C dX11_layWanted_70 (by decide) rfl ?_
          refine R_is3 (n := 72) C dX11_layWanted_71 rfl (Nat.le_of_ble_eq_true rfl) rfl ?_
          exact nx (u / nI 10) false 0 _ (fun e => by cases e) (fun _ => z) F2
        refine R_il4 (n := 44) C dX11_layWanted_42 rfl ?_
        refine R_if_eqB (tgt := 64) C dX11_layWanted_44 rfl rfl (fun c3 => ?_) (fun c3 => ?_)
        · exact no (z2 c3)
        · obtain ⟨y1, y2⟩ := z1 c3
          rw [los, if_pos tb, hdg] at y1
          refine R_al0 (n := 48) C dX11_layWanted_47 rfl ?_
          refine M_getR (n := 51) C fl_X11_71 dX11_layWanted_48 rfl rfl rfl ?_
          refine R_il5 (n := 53) C dX11_layWanted_51 rfl ?_
          refine M_iald (n := 54) C dX11_layWanted_53 rfl (by omega) up2_same rfl ?_
          refine R_callS (n := 57) C (c_mIsWay _ _ _ r _) mw_X11_isWay ml_X11_244 sv_X11_isWay dX11_layWanted_54 rfl rfl (Nat.le_of_ble_eq_true rfl) ⟨Nat.le_of_ble_eq_true rfl, Nat.le_of_ble_eq_true rfl⟩ ⟨Nat.le_refl _, Nat.le_refl _⟩ rfl (pEs ?_)
          refine R_if_eqB (tgt := 64) C dX11_layWanted_57 rfl rfl (fun c4 => ?_) (fun c4 => ?_)
          · rw [if_neg (by rw [c4]; decide)] at y1
            exact no y1
          · rw [if_pos c4] at y1
            obtain ⟨d, _, d3, e⟩ := win_of (by decide) (by decide) c4
            have ec : cl dg = d := by rw [e]; exact nI_clamp (by omega)
            rw [ec, lk_nx (by omega)] at y1
            have w0 := wy_nx (q := q) (d := d) (j := j) (by omega)
            refine R_ic (n := 61) C dX11_layWanted_60 ci_1 rfl ?_
            refine R_goto (n := 65) C dX11_layWanted_61 rfl ?_
            refine R_eq (y := bI true) rfl ?_
            refine R_is4 (n := 67) C dX11_layWanted_65 rfl (Nat.le_of_ble_eq_true rfl) rfl ?_
            refine R_il3 (n := 68) C dX11_layWanted_67 rfl ?_
            refine R_bp (n := 70) C dX11_layWanted_68 cb_10 rfl ?_
            refine R_idiv (n := 71) C dX11_layWanted_70 (by decide) rfl ?_
            refine R_is3 (n := 72) C dX11_layWanted_71 rfl (Nat.le_of_ble_eq_true rfl) rfl ?_
            refine nx (u / nI 10) true (4 * q + d) _ (fun _ => ⟨y1, fun k k1 k2 k3 => ?_⟩) (fun e => by cases e) F2
            by_cases kj : k = j
            · rw [kj, up2_same, w0.1, e]
            · rw [up2_ne kj, w0.2 k (by omega)]
              exact y2 k (by omega) k2 k3
  have go : ∀ g : Bool, (g = false → v < 0) → Rn X 0 0 11 [some (.ref (r 73)), some (.int (nI s)), some (.int v), some (.int v), none, none] [.int (bI g)] (LY r) h := by
    intro g hg
    refine R_is4 (n := 13) C dX11_layWanted_11 rfl (Nat.le_of_ble_eq_true rfl) rfl ?_
    refine R_ic (n := 14) C dX11_layWanted_13 ci_4 rfl ?_
    refine R_is5 (n := 16) C dX11_layWanted_14 rfl (Nat.le_of_ble_eq_true rfl) rfl ?_
    exact loop 5 v g 0 h (by omega) (fun _ => ⟨by rw [Nat.zero_mul]; exact hZ.symm, fun k k1 k2 => by omega⟩) (fun e => by rw [← hZ]; exact los_neg (hg e)) FrA.rf
  refine R_il2 (n := 1) C dX11_layWanted_0 rfl ?_
  refine R_is3 (n := 2) C dX11_layWanted_1 rfl (Nat.le_of_ble_eq_true rfl) rfl ?_
  refine R_il2 (n := 3) C dX11_layWanted_2 rfl ?_
  refine R_if_lt (tgt := 10) C dX11_layWanted_3 rfl rfl (fun c1 => ?_) (fun c1 => ?_)
  · refine R_ic (n := 11) C dX11_layWanted_10 ci_0 rfl ?_
    exact go false (fun _ => c1)
  · refine R_ic (n := 7) C dX11_layWanted_6 ci_1 rfl ?_
    refine R_goto (n := 11) C dX11_layWanted_7 rfl ?_
    exact go true (fun e => by cases e)
theorem drz_up {s n x b : Nat} (hs : s < 2 ^ n) : ∀ d, drz s x b (n + d) = drz s x b n
  | 0 => rfl
  | d + 1 => by
    have e : s.testBit (n + d) = false := Nat.testBit_lt_two_pow (Nat.lt_of_lt_of_le hs (Nat.pow_le_pow_right (by decide) (by omega)))
    rw [← Nat.add_assoc, drz, if_neg (by rw [e]; rintro ⟨q, _⟩; cases q)]
    exact drz_up hs d
theorem drz_5 {s n x b : Nat} (hs : s < 2 ^ n) (hn : n ≤ 5) : drz s x b 5 = drz s x b n := by
  have := drz_up (x := x) (b := b) hs (5 - n)
  rw [show n + (5 - n) = 5 by omega] at this
  exact this
set_option maxRecDepth 20000 in
set_option maxHeartbeats 4000000 in
theorem c_mBroughtBy (l : Launch) (D : va_G) (cA : Nat → ClassId) (r : Nat → Nat) {h : Hp} {σ : WS} (R : RM σ h) (I : Inv σ) {x p s b : Nat} (hx : x < 1024) (hp : p < 32) (hs : s < 2 ^ sN σ) (hw : ∀ k, k < 5 → s.testBit k = true → h 94 k = nI (wy b k)) : Cn l D cA yX11_broughtBy cX11_broughtBy 6 (some .int) 1 0 0 [.ref (r 73), .int (nI x), .int (nI p), .int (nI s)] (LY r) h (pE (some (.int (nI (HOr.hOr p (drz s x b 5))))) (LY r) h) := by
  refine Cn.of (lv := [some (.ref (r 73)), some (.int (nI x)), some (.int (nI p)), some (.int (nI s)), none, none]) (by decide +kernel) (Nat.le_of_ble_eq_true rfl) rfl (fun X hnm C CR => ?_)
  have n5 := I.n5
  have s32 := Nat.lt_of_lt_of_le hs (p2_5 n5)
  rw [drz_5 hs n5] at CR
  have loop : ∀ (m i : Nat), sN σ < i + m → i ≤ sN σ → Rn X 0 0 6 [some (.ref (r 73)), some (.int (nI x)), some (.int (nI p)), some (.int (nI s)), some (.int (nI (p ||| drz s x b i))), some (.int (nI i))] [] (LY r) h := by
    intro m
    induction m with
    | zero => intro i a1 a2; omega
    | succ m ih =>
      intro i a1 a2
      have ih1 := ih (i + 1)
      rw [drz] at ih1
      refine R_il5 (n := 8) C dX11_broughtBy_6 rfl ?_
      refine R_al0 (n := 9) C dX11_broughtBy_8 rfl ?_
      refine M_getI (n := 12) C fl_X11_94 dX11_broughtBy_9 rfl rfl (mN_ R) rfl ?_
      refine R_icmp_geN (tgt := 60) C dX11_broughtBy_12 rfl rfl (by omega) (by omega) (fun c1 => ?_) (fun c1 => ?_)
      · refine R_il4 (n := 62) C dX11_broughtBy_60 rfl ?_
        refine R_iret C CR (Nat.zero_le _) (Nat.zero_le _) dX11_broughtBy_62 ?_
        exact ⟨by rw [show sN σ = i by omega], rfl, rfl⟩
      · have h2 : s / 2 ^ i % 2 < 2 := Nat.mod_lt _ (by decide)
        have w1 := wy_lt x i
        have w2 := wy_lt b i
        have no : ¬ (s.testBit i = true ∧ wy x i = wy b i) → Rn X 0 0 50 [some (.ref (r 73)), some (.int (nI x)), some (.int (nI p)), some (.int (nI s)), some (.int (nI (p ||| drz s x b i))), some (.int (nI i))] [.int (nI (p ||| drz s x b i))] (LY r) h := by
          intro z
          rw [if_neg z] at ih1
          refine R_ic (n := 51) C dX11_broughtBy_50 ci_0 rfl ?_
          refine R_iorN (n := 52) C dX11_broughtBy_51 rfl ?_
          rw [Nat.or_zero]
          refine R_is4 (n := 54) C dX11_broughtBy_52 rfl (Nat.le_of_ble_eq_true rfl) rfl ?_
          refine R_inc5 (n := 57) C dX11_broughtBy_54 rfl (Nat.le_of_ble_eq_true rfl) (inc_1 _) rfl ?_
          refine R_goto (n := 6) C dX11_broughtBy_57 rfl ?_
          exact ih1 (by omega) (by omega)
        refine R_il4 (n := 17) C dX11_broughtBy_15 rfl ?_
        refine R_il3 (n := 18) C dX11_broughtBy_17 rfl ?_
        refine R_il5 (n := 20) C dX11_broughtBy_18 rfl ?_
        refine R_ishrN (n := 21) C dX11_broughtBy_20 (by omega) (by omega) rfl ?_
        refine R_ic (n := 22) C dX11_broughtBy_21 ci_1 rfl ?_
        refine R_iandN (n := 23) C dX11_broughtBy_22 rfl ?_
        refine R_eq (y := nI (s / 2 ^ i % 2)) (by rw [and1]) ?_
        refine R_ic (n := 24) C dX11_broughtBy_23 ci_1 rfl ?_
        refine R_icmp_neN (tgt := 50) C dX11_broughtBy_24 rfl rfl (by omega) (by omega) (fun c2 => ?_) (fun c2 => ?_)
        · exact no (by rw [tb_div, show s / 2 ^ i % 2 = 0 by omega]; rintro ⟨q, _⟩; cases q)
        · have tb : s.testBit i = true := by rw [tb_div, c2]; rfl
          refine R_il1 (n := 28) C dX11_broughtBy_27 rfl ?_
          refine R_il5 (n := 30) C dX11_broughtBy_28 rfl ?_
          refine R_callS (n := 33) C (c_mWayIn _ _ _ r (by omega) (by omega)) mw_X11_wayIn ml_X11_204 sv_X11_wayIn dX11_broughtBy_30 rfl rfl (Nat.le_of_ble_eq_true rfl) ⟨Nat.le_of_ble_eq_true rfl, Nat.le_of_ble_eq_true rfl⟩ ⟨Nat.le_refl _, Nat.le_refl _⟩ rfl (pEs ?_)
          refine R_al0 (n := 34) C dX11_broughtBy_33 rfl ?_
          refine M_getR (n := 37) C fl_X11_71 dX11_broughtBy_34 rfl rfl rfl ?_
          refine R_il5 (n := 39) C dX11_broughtBy_37 rfl ?_
          refine M_iald (n := 40) C dX11_broughtBy_39 rfl (by omega) (hw i (by omega) tb) rfl ?_
          refine R_icmp_neN (tgt := 50) C dX11_broughtBy_40 rfl rfl (by omega) (by omega) (fun c3 => ?_) (fun c3 => ?_)
          · exact no (by rintro ⟨_, q⟩; exact c3 q)
          · rw [if_pos ⟨tb, c3⟩] at ih1
            refine R_ic (n := 44) C dX11_broughtBy_43 ci_1 rfl ?_
            refine R_il5 (n := 46) C dX11_broughtBy_44 rfl ?_
            refine R_ishlN (n := 47) C dX11_broughtBy_46 (by omega) (sh1 (by omega)) rfl ?_
            refine R_goto (n := 51) C dX11_broughtBy_47 rfl ?_
            refine R_iorN (n := 52) C dX11_broughtBy_51 rfl ?_
            rw [Nat.one_mul, Nat.or_assoc]
            refine R_is4 (n := 54) C dX11_broughtBy_52 rfl (Nat.le_of_ble_eq_true rfl) rfl ?_
            refine R_inc5 (n := 57) C dX11_broughtBy_54 rfl (Nat.le_of_ble_eq_true rfl) (inc_1 _) rfl ?_
            refine R_goto (n := 6) C dX11_broughtBy_57 rfl ?_
            exact ih1 (by omega) (by omega)
  refine R_il2 (n := 1) C dX11_broughtBy_0 rfl ?_
  refine R_is4 (n := 3) C dX11_broughtBy_1 rfl (Nat.le_of_ble_eq_true rfl) rfl ?_
  refine R_ic (n := 4) C dX11_broughtBy_3 ci_0 rfl ?_
  refine R_is5 (n := 6) C dX11_broughtBy_4 rfl (Nat.le_of_ble_eq_true rfl) rfl ?_
  refine R_gen (fun g => g = h) rfl (fun g hg => ?_)
  rw [hg]
  have := loop (sN σ + 1) 0 (by omega) (by omega)
  rw [show p ||| drz s x b 0 = p from Nat.or_zero p] at this
  exact this
def RQ (Q : List Nat) (D : Nat → Nat) (g : Hp) : Prop := (∀ y, y < 32768 → g 92 y = fvI (D y)) ∧ ∀ (j y : Nat), Q[j]? = some y → g 93 j = nI y
set_option maxRecDepth 20000 in
set_option maxHeartbeats 4000000 in
theorem m_round (l : Launch) (D : va_G) (cA : Nat → ClassId) (r : Nat → Nat) {h : Hp} {G : GS} (R : RMo G h) (I : InvG G) (sv v : Int32) : Cn l D cA yX11_round cX11_round 9 (some .int) 3 0 0 [.ref (r 73), .int sv, .int v] (LY r) h (pG (some (.int (aRound G sv v))) (LY r) (fun h' => RMo G h' ∧ FrM h h')) := by
  refine Cn.of (lv := [some (.ref (r 73)), some (.int sv), some (.int v), none, none, none, none, none, none]) (by decide +kernel) (Nat.le_of_ble_eq_true rfl) rfl (fun X hnm C CR => ?_)
  have n5 := I.1.n5
  have p5 := p2_5 I.1.n5
  have pp := p2_pos (sN (gS G))
  refine R_al0 (n := 1) C dX11_round_0 rfl ?_
  refine R_il1 (n := 2) C dX11_round_1 rfl ?_
  refine M_callV (n := 5) C (c_mIsSet _ _ _ r R.1 I.1 _) mw_X11_isSet ml_X11_230 iv_X11_isSet dX11_round_2 rfl rfl rfl rfl (Nat.le_of_ble_eq_true rfl) ⟨Nat.le_of_ble_eq_true rfl, Nat.le_of_ble_eq_true rfl⟩ ⟨Nat.le_refl _, Nat.le_refl _⟩ rfl (pEs ?_)
  refine R_if_eqB (tgt := 17) C dX11_round_5 rfl rfl (fun c1 => ?_) (fun c1 => ?_)
  · rw [aRound, c1, if_neg (by decide)] at CR
    refine R_bp (n := 19) C dX11_round_17 cb_m2 rfl ?_
    refine R_iret C CR (Nat.zero_le _) (Nat.zero_le _) dX11_round_19 ?_
    exact ⟨rfl, rfl, R, FrM.rf⟩
  · obtain ⟨s, _, s2, rfl⟩ := win_of (by decide) (by omega) c1
    have sc : cl (nI s) = s := nI_clamp (by omega)
    rw [aRound, if_pos c1, sc] at CR
    have lo := los_up (s := s) (n := sN (gS G)) (by omega) (v := v) (lk := 0) (5 - sN (gS G))
    rw [show sN (gS G) + (5 - sN (gS G)) = 5 by omega] at lo
    rw [← lo] at CR
    refine R_al0 (n := 9) C dX11_round_8 rfl ?_
    refine R_il1 (n := 10) C dX11_round_9 rfl ?_
    refine R_il2 (n := 11) C dX11_round_10 rfl ?_
    refine M_callV (n := 14) C (c_mLayWanted _ _ _ r (by omega) _) mw_X11_layWanted ml_X11_247 iv_X11_layWanted dX11_round_11 rfl rfl rfl rfl (Nat.le_of_ble_eq_true rfl) ⟨Nat.le_of_ble_eq_true rfl, Nat.le_of_ble_eq_true rfl⟩ ⟨Nat.le_refl _, Nat.le_refl _⟩ rfl (pGs (fun h1 q1 => ?_))
    cases hf : los s 5 v 0 with
    | none =>
      rw [hf] at CR
      show Rn X _ _ _ _ [.int (bI false)] _ _
      refine R_if_neB (tgt := 20) C dX11_round_14 rfl rfl (fun c2 => ?_) (fun c2 => ?_)
      · cases c2
      · refine R_bp (n := 19) C dX11_round_17 cb_m2 rfl ?_
        refine R_iret C CR (Nat.zero_le _) (Nat.zero_le _) dX11_round_19 ?_
        exact ⟨rfl, rfl, R.t (q1.2.mono (by decide) (by decide))⟩
    | some b =>
      rw [hf] at CR
      have hw := q1.1 b hf
      have CR' : OkR X (some .int) 0 0 (pG (some (.int (roV (gS G) (sKn (gS G)) s b))) (LY r) (fun h' => RMo G h' ∧ FrM h h')) := CR
      clear CR
      have CR := CR'
      clear CR'
      obtain ⟨σ, hσ⟩ : ∃ σ, gS G = σ := ⟨_, rfl⟩
      have J : Inv σ := by rw [← hσ]; exact I.1
      have R1 := q1.2.rm R.1 (by decide) (by decide)
      rw [hσ] at CR R1 n5 p5 pp s2
      obtain ⟨W, hW⟩ : ∃ W, sKn σ = W := ⟨_, rfl⟩
      rw [hW] at CR
      have nu := nuz_1024 J
      have sn : s < 2 ^ sN σ := by omega
      have ex : ∀ {g : Hp}, FrA [92, 93] [] h1 g → RM σ g ∧ (∀ k, k < 5 → s.testBit k = true → g 94 k = nI (wy b k)) ∧ RMo G g ∧ FrM h g := fun F => ⟨F.rm R1 (by decide) (by decide), fun k hk hb => by rw [F.1 94 (by decide) (by decide)]; exact hw k hk hb, R.t ((q1.2.mono (by decide) (by decide)).tr (F.mono (by decide) (by decide)))⟩
      show Rn X _ _ _ _ [.int (bI true)] _ _
      refine R_if_neB (tgt := 20) C dX11_round_14 rfl rfl (fun c2 => ?_) (fun c2 => ?_)
      · have inner : ∀ (i x : Nat), i < 32768 → (∀ (Q : List Nat) (D : Nat → Nat) (g : Hp) (o7 o8 : Option Value), Q[i]? = some x → QS σ W s b i 6 Q D → RQ Q D g → FrA [92, 93] [] h1 g → Rn X 0 0 215 [some (.ref (r 73)), some (.int (nI s)), some (.int v), some (.int (nI Q.length)), some (.int (nI i)), some (.int (nI x)), some (.int (nI 6)), o7, o8] [] (LY r) g) → ∀ (m w : Nat) (Q : List Nat) (D : Nat → Nat) (g : Hp) (o7 o8 : Option Value), w + m = 6 → Q[i]? = some x → QS σ W s b i w Q D → RQ Q D g → FrA [92, 93] [] h1 g → Rn X 0 0 123 [some (.ref (r 73)), some (.int (nI s)), some (.int v), some (.int (nI Q.length)), some (.int (nI i)), some (.int (nI x)), some (.int (nI w)), o7, o8] [] (LY r) g := by
          intro i x hi out m
          induction m with
          | zero =>
            intro w Q D g o7 o8 a1 hx S E F
            obtain rfl : w = 6 := by omega
            refine R_il6 (n := 125) C dX11_round_123 rfl ?_
            refine R_bp (n := 127) C dX11_round_125 cb_6 rfl ?_
            refine R_icmp_geN (tgt := 215) C dX11_round_127 rfl rfl (by omega) (by omega) (fun d1 => ?_) (fun d1 => ?_)
            · exact out Q D g _ _ hx S E F
            · omega
          | succ m ih =>
            intro w Q D g o7 o8 a1 hx S E F
            obtain ⟨Rg, wg, Kg⟩ := ex F
            have x1 := S.1 i x hx
            have len := S.len
            refine R_il6 (n := 125) C dX11_round_123 rfl ?_
            refine R_bp (n := 127) C dX11_round_125 cb_6 rfl ?_
            refine R_icmp_geN (tgt := 215) C dX11_round_127 rfl rfl (by omega) (by omega) (fun d1 => ?_) (fun d1 => ?_)
            · omega
            · refine R_al0 (n := 131) C dX11_round_130 rfl ?_
              refine R_il6 (n := 133) C dX11_round_131 rfl ?_
              refine M_callV (n := 136) C (c_mIsKnown _ _ _ r Rg J _) mw_X11_isKnown ml_X11_155 iv_X11_isKnown dX11_round_133 rfl rfl rfl rfl (Nat.le_of_ble_eq_true rfl) ⟨Nat.le_of_ble_eq_true rfl, Nat.le_of_ble_eq_true rfl⟩ ⟨Nat.le_refl _, Nat.le_refl _⟩ rfl (pEs ?_)
              rw [hW, kwz_n d1]
              refine R_if_eqB (tgt := 209) C dX11_round_136 rfl rfl (fun d2 => ?_) (fun d2 => ?_)
              · refine R_inc6 (n := 212) C dX11_round_209 rfl (Nat.le_of_ble_eq_true rfl) (inc_1 _) rfl ?_
                refine R_goto (n := 123) C dX11_round_212 rfl ?_
                exact ih (w + 1) Q D g _ _ (by omega) hx (S.unk d2) E F
              · obtain ⟨t, ht⟩ : ∃ t, trz σ w (x / 32) = t := ⟨_, rfl⟩
                have t10 : t < 1024 := by rw [← ht]; exact trz_1024 J
                refine R_al0 (n := 140) C dX11_round_139 rfl ?_
                refine R_il5 (n := 142) C dX11_round_140 rfl ?_
                refine R_bp (n := 144) C dX11_round_142 cb_32 rfl ?_
                refine R_idivN (n := 145) C dX11_round_144 (by omega) (by omega) (by omega) rfl ?_
                refine R_il6 (n := 147) C dX11_round_145 rfl ?_
                refine M_callV (n := 150) C (c_mSaidTo _ _ _ r Rg J (by omega) d1) mw_X11_saidTo ml_X11_214 iv_X11_saidTo dX11_round_147 rfl rfl rfl rfl (Nat.le_of_ble_eq_true rfl) ⟨Nat.le_of_ble_eq_true rfl, Nat.le_of_ble_eq_true rfl⟩ ⟨Nat.le_refl _, Nat.le_refl _⟩ rfl (pEs ?_)
                rw [ht]
                refine R_is7 (n := 152) C dX11_round_150 rfl (Nat.le_of_ble_eq_true rfl) rfl ?_
                refine R_bp (n := 154) C dX11_round_152 cb_32 rfl ?_
                refine R_il7 (n := 156) C dX11_round_154 rfl ?_
                refine R_imulN (n := 157) C dX11_round_156 rfl ?_
                refine R_al0 (n := 158) C dX11_round_157 rfl ?_
                refine R_il7 (n := 160) C dX11_round_158 rfl ?_
                refine R_il5 (n := 162) C dX11_round_160 rfl ?_
                refine R_bp (n := 164) C dX11_round_162 cb_32 rfl ?_
                refine R_iremN (n := 165) C dX11_round_164 (by omega) (by omega) (by omega) rfl ?_
                refine R_il1 (n := 166) C dX11_round_165 rfl ?_
                refine M_callV (n := 169) C (c_mBroughtBy _ _ _ r Rg J t10 (by omega) sn wg) mw_X11_broughtBy ml_X11_250 iv_X11_broughtBy dX11_round_166 rfl rfl rfl rfl (Nat.le_of_ble_eq_true rfl) ⟨Nat.le_of_ble_eq_true rfl, Nat.le_of_ble_eq_true rfl⟩ ⟨Nat.le_refl _, Nat.le_refl _⟩ rfl (pEs ?_)
                have ny : nxS σ s b w x = 32 * t + ((x % 32) ||| drz s t b 5) := by rw [nxS, ht]
                have nl := nxS_lt J (s := s) (b := b) (v := w) (y := x)
                refine R_iaddN (n := 170) C dX11_round_169 rfl ?_
                refine R_is8 (n := 172) C dX11_round_170 rfl (Nat.le_of_ble_eq_true rfl) rfl ?_
                rw [← ny]
                obtain ⟨y, hy⟩ : ∃ y, nxS σ s b w x = y := ⟨_, rfl⟩
                rw [hy] at nl ⊢
                by_cases d0 : D y = 0
                · have e92 : g 92 y = -6 := by rw [E.1 y nl, d0]; rfl
                  have room := S.room nl d0
                  have exx : g 92 x = nI (D x - 1) := by rw [E.1 x x1.1, fvI_pos x1.2.1]
                  refine R_al0 (n := 173) C dX11_round_172 rfl ?_
                  refine M_getR (n := 176) C fl_X11_65 dX11_round_173 rfl rfl rfl ?_
                  refine R_il8 (n := 178) C dX11_round_176 rfl ?_
                  refine M_iald (n := 179) C dX11_round_178 rfl nl e92 rfl ?_
                  refine R_if_ge (tgt := 209) C dX11_round_179 rfl rfl (fun d3 => ?_) (fun d3 => ?_)
                  · exact absurd d3 (by decide)
                  · refine R_al0 (n := 183) C dX11_round_182 rfl ?_
                    refine M_getR (n := 186) C fl_X11_65 dX11_round_183 rfl rfl rfl ?_
                    refine R_il8 (n := 188) C dX11_round_186 rfl ?_
                    refine R_al0 (n := 189) C dX11_round_188 rfl ?_
                    refine M_getR (n := 192) C fl_X11_65 dX11_round_189 rfl rfl rfl ?_
                    refine R_il5 (n := 194) C dX11_round_192 rfl ?_
                    refine M_iald (n := 195) C dX11_round_194 rfl x1.1 exx rfl ?_
                    refine R_ic (n := 196) C dX11_round_195 ci_1 rfl ?_
                    refine R_iaddN (n := 197) C dX11_round_196 rfl ?_
                    refine M_iast (n := 198) C dX11_round_197 rfl nl rfl ?_
                    refine R_al0 (n := 199) C dX11_round_198 rfl ?_
                    refine M_getR (n := 202) C fl_X11_68 dX11_round_199 rfl rfl rfl ?_
                    refine R_il3 (n := 203) C dX11_round_202 rfl ?_
                    refine R_il8 (n := 205) C dX11_round_203 rfl ?_
                    refine M_iast (n := 206) C dX11_round_205 rfl room rfl ?_
                    refine R_inc3 (n := 209) C dX11_round_206 rfl (Nat.le_of_ble_eq_true rfl) (inc_1 _) rfl ?_
                    refine R_inc6 (n := 212) C dX11_round_209 rfl (Nat.le_of_ble_eq_true rfl) (inc_1 _) rfl ?_
                    refine R_goto (n := 123) C dX11_round_212 rfl ?_
                    have S' := S.push J hx d1 d2 hy d0
                    have il : i < Q.length := (List.getElem?_eq_some_iff.mp hx).1
                    have nxt := ih (w + 1) (Q ++ [y]) (updN D y (D x + 1)) (up2 (up2 g 92 y (nI (D x - 1 + 1))) 93 Q.length (nI y)) (some (.int (nI t))) (some (.int (nI y))) (by omega) (by rw [List.getElem?_append_left il]; exact hx) S' ?_ ((F.up (by decide) (by decide)).up (by decide) (by decide))
                    · rw [List.length_append] at nxt
                      exact nxt
                    · refine ⟨fun z hz => ?_, fun j z hz => ?_⟩
                      · rw [up2_row (by decide), up2_at]
                        unfold updN
                        by_cases e : z = y
                        · rw [if_pos e, if_pos e, fvI_pos (by omega), Nat.add_sub_cancel, Nat.sub_add_cancel x1.2.1]
                        · rw [if_neg e, if_neg e]
                          exact E.1 z hz
                      · by_cases e : j < Q.length
                        · rw [List.getElem?_append_left e] at hz
                          rw [up2_ne (by omega), up2_row (by decide)]
                          exact E.2 j z hz
                        · rw [List.getElem?_append_right (by omega)] at hz
                          have h0 : j - Q.length < 1 := (List.getElem?_eq_some_iff.mp hz).1
                          have h1 : j = Q.length := by omega
                          rw [List.mem_singleton.mp (List.mem_of_getElem? hz), h1, up2_same]
                · obtain ⟨k, hk⟩ := S.2.2.1 y (Nat.pos_of_ne_zero d0)
                  have kl : k < Q.length := (List.getElem?_eq_some_iff.mp hk).1
                  have y1 := S.1 k y hk
                  have e92 : g 92 y = nI (D y - 1) := by rw [E.1 y nl, fvI_pos y1.2.1]
                  refine R_al0 (n := 173) C dX11_round_172 rfl ?_
                  refine M_getR (n := 176) C fl_X11_65 dX11_round_173 rfl rfl rfl ?_
                  refine R_il8 (n := 178) C dX11_round_176 rfl ?_
                  refine M_iald (n := 179) C dX11_round_178 rfl nl e92 rfl ?_
                  refine R_if_geN (tgt := 209) C dX11_round_179 rfl rfl (by omega) ?_
                  refine R_inc6 (n := 212) C dX11_round_209 rfl (Nat.le_of_ble_eq_true rfl) (inc_1 _) rfl ?_
                  refine R_goto (n := 123) C dX11_round_212 rfl ?_
                  exact ih (w + 1) Q D g _ _ (by omega) hx (S.keep hx (by rw [hy]; exact d0)) E F
        have outer : ∀ (m i : Nat) (Q : List Nat) (D : Nat → Nat) (g : Hp) (o5 o6 o7 o8 : Option Value), i + m = 32768 → QS σ W s b i 0 Q D → RQ Q D g → FrA [92, 93] [] h1 g → Rn X 0 0 83 [some (.ref (r 73)), some (.int (nI s)), some (.int v), some (.int (nI Q.length)), some (.int (nI i)), o5, o6, o7, o8] [] (LY r) g := by
          intro m
          induction m with
          | zero =>
            intro i Q D g o5 o6 o7 o8 a1 S E F
            have len := S.len
            rw [roV_eq (S.fin (by omega))] at CR
            refine R_il4 (n := 85) C dX11_round_83 rfl ?_
            refine R_il3 (n := 86) C dX11_round_85 rfl ?_
            refine R_icmp_geN (tgt := 221) C dX11_round_86 rfl rfl (by omega) (by omega) (fun d1 => ?_) (fun d1 => ?_)
            · refine R_bp (n := 223) C dX11_round_221 cb_m6 rfl ?_
              refine R_iret C CR (Nat.zero_le _) (Nat.zero_le _) dX11_round_223 ?_
              exact ⟨rfl, rfl, (ex F).2.2⟩
            · omega
          | succ m ih =>
            intro i Q D g o5 o6 o7 o8 a1 S E F
            have len := S.len
            refine R_il4 (n := 85) C dX11_round_83 rfl ?_
            refine R_il3 (n := 86) C dX11_round_85 rfl ?_
            refine R_icmp_geN (tgt := 221) C dX11_round_86 rfl rfl (by omega) (by omega) (fun d1 => ?_) (fun d1 => ?_)
            · rw [roV_eq (S.fin d1)] at CR
              refine R_bp (n := 223) C dX11_round_221 cb_m6 rfl ?_
              refine R_iret C CR (Nat.zero_le _) (Nat.zero_le _) dX11_round_223 ?_
              exact ⟨rfl, rfl, (ex F).2.2⟩
            · have e : Q[i]? = some Q[i] := List.getElem?_eq_getElem d1
              obtain ⟨x, hx⟩ : ∃ x, Q[i] = x := ⟨_, rfl⟩
              rw [hx] at e
              have x1 := S.1 i x e
              refine R_al0 (n := 90) C dX11_round_89 rfl ?_
              refine M_getR (n := 93) C fl_X11_68 dX11_round_90 rfl rfl rfl ?_
              refine R_il4 (n := 95) C dX11_round_93 rfl ?_
              refine M_iald (n := 96) C dX11_round_95 rfl (by omega) (E.2 i x e) rfl ?_
              refine R_is5 (n := 98) C dX11_round_96 rfl (Nat.le_of_ble_eq_true rfl) rfl ?_
              refine R_il5 (n := 100) C dX11_round_98 rfl ?_
              refine R_bp (n := 102) C dX11_round_100 cb_32 rfl ?_
              refine R_iremN (n := 103) C dX11_round_102 (by omega) (by omega) (by omega) rfl ?_
              refine R_il1 (n := 104) C dX11_round_103 rfl ?_
              refine R_icmp_neN (tgt := 120) C dX11_round_104 rfl rfl (by omega) (by omega) (fun d2 => ?_) (fun d2 => ?_)
              · refine R_ic (n := 121) C dX11_round_120 ci_0 rfl ?_
                refine R_is6 (n := 123) C dX11_round_121 rfl (Nat.le_of_ble_eq_true rfl) rfl ?_
                refine inner i x (by omega) (fun Q' D' g' p7 p8 hx' S' E' F' => ?_) 6 0 Q D g _ _ (by omega) e S E F
                refine R_inc4 (n := 218) C dX11_round_215 rfl (Nat.le_of_ble_eq_true rfl) (inc_1 _) rfl ?_
                refine R_goto (n := 83) C dX11_round_218 rfl ?_
                exact ih (i + 1) Q' D' g' _ _ _ _ (by omega) (S'.next hx' d2) E' F'
              · have ee : g 92 x = nI (D x - 1) := by rw [E.1 x x1.1, fvI_pos x1.2.1]
                rw [roV_eq (S.hit e d2)] at CR
                refine R_al0 (n := 108) C dX11_round_107 rfl ?_
                refine M_getR (n := 111) C fl_X11_65 dX11_round_108 rfl rfl rfl ?_
                refine R_il5 (n := 113) C dX11_round_111 rfl ?_
                refine M_iald (n := 114) C dX11_round_113 rfl x1.1 ee rfl ?_
                refine R_il1 (n := 115) C dX11_round_114 rfl ?_
                refine R_callS (n := 118) C (c_mOnes _ _ _ r (by omega)) mw_X11_ones ml_X11_152 sv_X11_ones dX11_round_115 rfl rfl (Nat.le_of_ble_eq_true rfl) ⟨Nat.le_of_ble_eq_true rfl, Nat.le_of_ble_eq_true rfl⟩ ⟨Nat.le_refl _, Nat.le_refl _⟩ rfl (pEs ?_)
                refine R_iaddN (n := 119) C dX11_round_118 rfl ?_
                refine R_iret C CR (Nat.zero_le _) (Nat.zero_le _) dX11_round_119 ?_
                exact ⟨rfl, rfl, (ex F).2.2⟩
        have fill : ∀ (m i : Nat) (g : Hp), 32768 < i + m → i ≤ 32768 → (∀ y, y < i → g 92 y = -6) → FrA [92, 93] [] h1 g → Rn X 0 0 22 [some (.ref (r 73)), some (.int (nI s)), some (.int v), some (.int (nI i)), none, none, none, none, none] [] (LY r) g := by
          intro m
          induction m with
          | zero => intro i g a1 a2; omega
          | succ m ih =>
            intro i g a1 a2 A F
            refine R_il3 (n := 23) C dX11_round_22 rfl ?_
            refine R_ldc (n := 25) C dX11_round_23 kc_X11_64 rfl ?_
            refine R_eq (y := nI 32768) (by decide +kernel) ?_
            refine R_icmp_geN (tgt := 42) C dX11_round_25 rfl rfl (by omega) (by omega) (fun d1 => ?_) (fun d1 => ?_)
            · obtain rfl : i = 32768 := by omega
              obtain ⟨Rg, wg, Kg⟩ := ex F
              have sl := zqS_lt J (s := s) (b := b)
              refine R_ic (n := 43) C dX11_round_42 ci_1 rfl ?_
              refine R_is3 (n := 44) C dX11_round_43 rfl (Nat.le_of_ble_eq_true rfl) rfl ?_
              refine R_al0 (n := 45) C dX11_round_44 rfl ?_
              refine M_getR (n := 48) C fl_X11_68 dX11_round_45 rfl rfl rfl ?_
              refine R_ic (n := 49) C dX11_round_48 ci_0 rfl ?_
              refine R_bp (n := 51) C dX11_round_49 cb_32 rfl ?_
              refine R_al0 (n := 52) C dX11_round_51 rfl ?_
              refine M_callV (n := 55) C (c_mLookNow _ _ _ r Rg J) mw_X11_lookNow ml_X11_211 iv_X11_lookNow dX11_round_52 rfl rfl rfl rfl (Nat.le_of_ble_eq_true rfl) ⟨Nat.le_of_ble_eq_true rfl, Nat.le_of_ble_eq_true rfl⟩ ⟨Nat.le_refl _, Nat.le_refl _⟩ rfl (pEs ?_)
              refine R_imulN (n := 56) C dX11_round_55 rfl ?_
              refine R_al0 (n := 57) C dX11_round_56 rfl ?_
              refine R_al0 (n := 58) C dX11_round_57 rfl ?_
              refine M_callV (n := 61) C (c_mLookNow _ _ _ r Rg J) mw_X11_lookNow ml_X11_211 iv_X11_lookNow dX11_round_58 rfl rfl rfl rfl (Nat.le_of_ble_eq_true rfl) ⟨Nat.le_of_ble_eq_true rfl, Nat.le_of_ble_eq_true rfl⟩ ⟨Nat.le_refl _, Nat.le_refl _⟩ rfl (pEs ?_)
              refine R_ic (n := 62) C dX11_round_61 ci_0 rfl ?_
              refine R_il1 (n := 63) C dX11_round_62 rfl ?_
              refine M_callV (n := 66) C (c_mBroughtBy _ _ _ r Rg J nu (by decide) sn wg) mw_X11_broughtBy ml_X11_250 iv_X11_broughtBy dX11_round_63 rfl rfl rfl rfl (Nat.le_of_ble_eq_true rfl) ⟨Nat.le_of_ble_eq_true rfl, Nat.le_of_ble_eq_true rfl⟩ ⟨Nat.le_refl _, Nat.le_refl _⟩ rfl (pEs ?_)
              refine R_eq (y := nI (drz s (nuz σ) b 5)) (by rw [Nat.zero_or]) ?_
              refine R_iaddN (n := 67) C dX11_round_66 rfl ?_
              rw [show 32 * nuz σ + drz s (nuz σ) b 5 = zqS σ s b from rfl]
              refine M_iast (n := 68) C dX11_round_67 rfl (by decide) rfl ?_
              refine R_al0 (n := 69) C dX11_round_68 rfl ?_
              refine M_getR (n := 72) C fl_X11_65 dX11_round_69 rfl rfl rfl ?_
              refine R_al0 (n := 73) C dX11_round_72 rfl ?_
              refine M_getR (n := 76) C fl_X11_68 dX11_round_73 rfl rfl rfl ?_
              refine R_ic (n := 77) C dX11_round_76 ci_0 rfl ?_
              refine M_iald (n := 78) C dX11_round_77 rfl (by decide) up2_same rfl ?_
              refine R_ic (n := 79) C dX11_round_78 ci_0 rfl ?_
              refine M_iast (n := 80) C dX11_round_79 rfl sl rfl ?_
              refine R_ic (n := 81) C dX11_round_80 ci_0 rfl ?_
              refine R_is4 (n := 83) C dX11_round_81 rfl (Nat.le_of_ble_eq_true rfl) rfl ?_
              refine outer 32768 0 [zqS σ s b] (fun y => if y = zqS σ s b then 1 else 0) _ _ _ _ _ rfl (QS.st J) ⟨fun y hy => ?_, fun j y hy => ?_⟩ ((F.up (by decide) (by decide)).up (by decide) (by decide))
              · rw [up2_at]
                show _ = fvI (if y = zqS σ s b then 1 else 0)
                split
                · rfl
                · rw [up2_row (by decide)]
                  exact A y hy
              · have h0 : j < 1 := (List.getElem?_eq_some_iff.mp hy).1
                rw [List.mem_singleton.mp (List.mem_of_getElem? hy), show j = 0 by omega, up2_row (by decide), up2_same]
            · refine R_al0 (n := 29) C dX11_round_28 rfl ?_
              refine M_getR (n := 32) C fl_X11_65 dX11_round_29 rfl rfl rfl ?_
              refine R_il3 (n := 33) C dX11_round_32 rfl ?_
              refine R_bp (n := 35) C dX11_round_33 cb_m6 rfl ?_
              refine M_iast (n := 36) C dX11_round_35 rfl d1 rfl ?_
              refine R_inc3 (n := 39) C dX11_round_36 rfl (Nat.le_of_ble_eq_true rfl) (inc_1 _) rfl ?_
              refine R_goto (n := 22) C dX11_round_39 rfl ?_
              refine ih (i + 1) _ (by omega) (by omega) (fun y hy => ?_) (F.up (by decide) (by decide))
              rw [up2_at]
              split
              · rfl
              · exact A y (by omega)
        refine R_ic (n := 21) C dX11_round_20 ci_0 rfl ?_
        refine R_is3 (n := 22) C dX11_round_21 rfl (Nat.le_of_ble_eq_true rfl) rfl ?_
        exact fill 32769 0 h1 (by omega) (by omega) (fun y hy => absurd hy (Nat.not_lt_zero y)) FrA.rf
      · cases c2
