theorem alb_ex {p : Nat → Bool} {n : Nat} (h : alb p n = false) : ∃ k, k < n ∧ p k = false := by
  apply Classical.byContradiction
  intro c
  have : alb p n = true := alb_t (fun k hk => by
    cases e : p k with
    | true => rfl
    | false => exact absurd ⟨k, hk, e⟩ c)
  rw [this] at h
  cases h
set_option maxRecDepth 20000 in
set_option maxHeartbeats 4000000 in
theorem c_fewestMinutes (l : Launch) (D : va_G) (cA : Nat → ClassId) (r : Nat → Nat) {h : Hp} {σ : WS} (R : RW 1 σ h) (J : Inv σ) {s b : Nat} (hs : s < 2 ^ sN σ) (hb : b < 1024) : Cn l D cA yX6_fewestMinutes cX6_fewestMinutes 8 (some .int) 3 0 0 [.ref (r 40), .ref (r 1), .ref (r 19), .int (nI s), .int (nI b)] (LY r) h (pG (some (.int (roV σ (sKn σ) s b))) (LY r) (FrS h)) := by
  refine Cn.of (lv := [some (.ref (r 40)), some (.ref (r 1)), some (.ref (r 19)), some (.int (nI s)), some (.int (nI b)), none, none, none]) (by decide +kernel) (Nat.le_of_ble_eq_true rfl) rfl (fun X hnm C CR => ?_)
  have n5 := J.n5
  have kn := J.kn
  have p10 := p2_10 J.n5
  have pp := p2_pos (2 * sN σ)
  have s32 : s < 32 := Nat.lt_of_lt_of_le hs (p2_5 n5)
  have nu := nuz_1024 J
  have loop : ∀ (g : Hp) (S : RS σ (sKn σ) g) (Rg : RW 1 σ g) (Fg : FrS h g) (g0 : g 40 0 = nI s) (g1 : g 40 1 = nI b) (m t : Nat) (nw be : Nat → Nat) (hh : Hp), 32768 < t + m → t ≤ 32768 → PQ σ (sKn σ) s b t nw be → (∀ x, nw x < 2 ^ 32) → RN nw 41 (2 ^ (2 * sN σ)) hh → RN be 43 (2 ^ (2 * sN σ)) hh → ((!alb (fun x => decide (nw x = 0)) (2 ^ (2 * sN σ))) = true → t + 1 ≤ pct be) → (∀ a, a ≠ 41 → a ≠ 42 → a ≠ 43 → hh a = g a) → Rn X 0 0 67 [some (.ref (r 40)), some (.ref (r 1)), some (.ref (r 19)), some (.int (nI s)), some (.int (nI b)), some (.int (nI (2 ^ (2 * sN σ)))), some (.int (bI (!alb (fun x => decide (nw x = 0)) (2 ^ (2 * sN σ))))), some (.int (nI t))] [] (LY r) hh := by
    intro g S Rg Fg g0 g1 m
    induction m with
    | zero => intro t nw be hh a1 a2; omega
    | succ m ih =>
      intro t nw be hh a1 a2 P hn En Eb ct F
      have Fh : FrS h hh := Fg.tr (fun a ha => F a (by omega) (by omega) (by omega))
      have pl := pct_le (be := be)
      cases fr : (!alb (fun x => decide (nw x = 0)) (2 ^ (2 * sN σ))) with
      | false =>
        have z : ∀ x, x < 2 ^ (2 * sN σ) → nw x = 0 := fun x hx => by
          rw [Bool.not_eq_false'] at fr
          exact of_decide_eq_true (alb_iff.mp fr x hx)
        rw [roV_eq (P.fin J z)] at CR
        refine R_il7 (n := 69) C dX6_fewestMinutes_67 rfl ?_
        refine R_ldc (n := 71) C dX6_fewestMinutes_69 kc_X6_56 rfl ?_
        refine R_eq (y := nI 32768) (by decide +kernel) ?_
        refine R_icmp_gtN (tgt := 124) C dX6_fewestMinutes_71 rfl rfl (by omega) (by omega) (fun c1 => ?_) (fun c1 => ?_)
        · refine R_bp (n := 126) C dX6_fewestMinutes_124 cb_m6 rfl ?_
          refine R_iret C CR (Nat.zero_le _) (Nat.zero_le _) dX6_fewestMinutes_126 ?_
          exact ⟨rfl, rfl, Fh⟩
        · refine R_il6 (n := 76) C dX6_fewestMinutes_74 rfl ?_
          refine R_if_eqB (tgt := 124) C dX6_fewestMinutes_76 rfl rfl (fun c2 => ?_) (fun c2 => ?_)
          · refine R_bp (n := 126) C dX6_fewestMinutes_124 cb_m6 rfl ?_
            refine R_iret C CR (Nat.zero_le _) (Nat.zero_le _) dX6_fewestMinutes_126 ?_
            exact ⟨rfl, rfl, Fh⟩
          · cases c2
      | true =>
        have ct1 := ct fr
        refine R_il7 (n := 69) C dX6_fewestMinutes_67 rfl ?_
        refine R_ldc (n := 71) C dX6_fewestMinutes_69 kc_X6_56 rfl ?_
        refine R_eq (y := nI 32768) (by decide +kernel) ?_
        refine R_icmp_gtN (tgt := 124) C dX6_fewestMinutes_71 rfl rfl (by omega) (by omega) (fun c1 => ?_) (fun c1 => ?_)
        · omega
        · refine R_il6 (n := 76) C dX6_fewestMinutes_74 rfl ?_
          refine R_if_eqB (tgt := 124) C dX6_fewestMinutes_76 rfl rfl (fun c2 => ?_) (fun c2 => ?_)
          · cases c2
          · have q0 : hh 40 0 = nI s := by rw [F 40 (by decide) (by decide) (by decide)]; exact g0
            have q1 : hh 40 1 = nI b := by rw [F 40 (by decide) (by decide) (by decide)]; exact g1
            refine R_al0 (n := 80) C dX6_fewestMinutes_79 rfl ?_
            refine R_il5 (n := 82) C dX6_fewestMinutes_80 rfl ?_
            refine M_callV (n := 85) C (c_isServed _ _ _ r q0 s32 p10 En) mw_X6_isServed ml_X6_57 iv_X6_isServed dX6_fewestMinutes_82 rfl rfl rfl rfl (Nat.le_of_ble_eq_true rfl) ⟨Nat.le_of_ble_eq_true rfl, Nat.le_of_ble_eq_true rfl⟩ ⟨Nat.le_refl _, Nat.le_refl _⟩ rfl (pEs ?_)
            refine R_if_eqB (tgt := 99) C dX6_fewestMinutes_85 rfl rfl (fun c3 => ?_) (fun c3 => ?_)
            · have ns : ∀ x, x < 2 ^ (2 * sN σ) → (nw x).testBit s = false := fun x hx => by
                rw [Bool.not_eq_false'] at c3
                have := alb_iff.mp c3 x hx
                rw [Bool.not_eq_true'] at this
                exact this
              have S1 : RS σ (sKn σ) hh := fun w hw hb => by
                rw [F 20 (by decide) (by decide) (by decide), F 21 (by decide) (by decide) (by decide)]
                exact S w hw hb
              have R1 : RW 1 σ hh := RWf (fun a h1 h2 => F a (by omega) (by omega) (by omega)) Rg
              refine R_al0 (n := 100) C dX6_fewestMinutes_99 rfl ?_
              refine R_al2 (n := 101) C dX6_fewestMinutes_100 rfl ?_
              refine R_al1 (n := 102) C dX6_fewestMinutes_101 rfl ?_
              refine M_getI (n := 105) C fl_X6_33 dX6_fewestMinutes_102 rfl rfl (wKn R1) rfl ?_
              refine R_il5 (n := 107) C dX6_fewestMinutes_105 rfl ?_
              refine M_callV (n := 110) C (c_phear _ _ _ r J kn S1 En hn) mw_X6_hear ml_X6_66 iv_X6_hear dX6_fewestMinutes_107 rfl rfl rfl rfl (Nat.le_of_ble_eq_true rfl) ⟨Nat.le_of_ble_eq_true rfl, Nat.le_of_ble_eq_true rfl⟩ ⟨Nat.le_refl _, Nat.le_refl _⟩ rfl (pGv (fun h2 k2 => ?_))
              have q0' : h2 40 0 = nI s := by rw [k2.2 40 (by decide)]; exact q0
              have q1' : h2 40 1 = nI b := by rw [k2.2 40 (by decide)]; exact q1
              have En2 : RN (heX σ (sKn σ) nw (2 ^ (2 * sN σ))) 42 (2 ^ (2 * sN σ)) h2 := fun x hx => k2.1 x (by omega)
              have Eb2 : RN be 43 (2 ^ (2 * sN σ)) h2 := fun x hx => by rw [k2.2 43 (by decide)]; exact Eb x hx
              refine R_al0 (n := 111) C dX6_fewestMinutes_110 rfl ?_
              refine R_il5 (n := 113) C dX6_fewestMinutes_111 rfl ?_
              refine M_callV (n := 116) C (c_knockAll _ _ _ r q0' q1' s32 hb p10 En2 Eb2 (fun x => heX_lt hn)) mw_X6_knockAll ml_X6_52 iv_X6_knockAll dX6_fewestMinutes_113 rfl rfl rfl rfl (Nat.le_of_ble_eq_true rfl) ⟨Nat.le_of_ble_eq_true rfl, Nat.le_of_ble_eq_true rfl⟩ ⟨Nat.le_refl _, Nat.le_refl _⟩ rfl (pGs (fun h3 k3 => ?_))
              refine R_is6 (n := 118) C dX6_fewestMinutes_116 rfl (Nat.le_of_ble_eq_true rfl) rfl ?_
              refine R_inc7 (n := 121) C dX6_fewestMinutes_118 rfl (Nat.le_of_ble_eq_true rfl) (inc_1 _) rfl ?_
              refine R_goto (n := 67) C dX6_fewestMinutes_121 rfl ?_
              refine ih (t + 1) _ _ h3 (by omega) (by omega) (P.step J hn ns) (fun x => knz_lt) k3.1 k3.2.1 (fun f => ?_) (fun a b1 b2 b3 => by rw [k3.2.2 a b1 b3, k2.2 a b2, F a b1 b2 b3])
              rw [Bool.not_eq_true'] at f
              obtain ⟨x, x1, x2⟩ := alb_ex f
              have := pct_more (be := be) (kn := knz s b (heX σ (sKn σ) nw (2 ^ (2 * sN σ))) be) (x := x) (by omega) knz_lt (of_decide_eq_false x2) (fun q hq => ((knz_t (heX_lt hn)).mp hq).2.1)
              omega
            · rw [Bool.not_eq_true'] at c3
              obtain ⟨x, x1, x2⟩ := alb_ex c3
              rw [Bool.not_eq_false'] at x2
              rw [roV_eq (P.hit x1 x2 J)] at CR
              refine R_il7 (n := 90) C dX6_fewestMinutes_88 rfl ?_
              refine R_al0 (n := 91) C dX6_fewestMinutes_90 rfl ?_
              refine M_getI (n := 94) C fl_X6_21 dX6_fewestMinutes_91 rfl rfl q0 rfl ?_
              refine R_callS (n := 97) C (c_bitCount _ _ _ r (by omega)) mw_J6_bitCount_0f7a4 ml_X6_60 sv_J6_bitCount_0f7a4 dX6_fewestMinutes_94 rfl rfl (Nat.le_of_ble_eq_true rfl) ⟨Nat.le_of_ble_eq_true rfl, Nat.le_of_ble_eq_true rfl⟩ ⟨Nat.le_refl _, Nat.le_refl _⟩ rfl (pEs ?_)
              refine R_iaddN (n := 98) C dX6_fewestMinutes_97 rfl ?_
              refine R_iret C CR (Nat.zero_le _) (Nat.zero_le _) dX6_fewestMinutes_98 ?_
              exact ⟨rfl, rfl, Fh⟩
  refine R_al0 (n := 1) C dX6_fewestMinutes_0 rfl ?_
  refine R_il3 (n := 2) C dX6_fewestMinutes_1 rfl ?_
  refine M_putI (n := 5) C fl_X6_21 dX6_fewestMinutes_2 rfl rfl rfl rfl rfl ?_
  refine R_al0 (n := 6) C dX6_fewestMinutes_5 rfl ?_
  refine R_il4 (n := 8) C dX6_fewestMinutes_6 rfl ?_
  refine M_putI (n := 11) C fl_X6_25 dX6_fewestMinutes_8 rfl rfl rfl rfl rfl ?_
  refine R_gen (fun h1 => h1 40 0 = nI s ∧ h1 40 1 = nI b ∧ ∀ a, a ≠ 40 → h1 a = h a) ⟨up2_gne (by decide) up2_same, up2_same, fun a ha => by rw [up2_row ha, up2_row ha]⟩ (fun h1 k1 => ?_)
  have R1 : RW 1 σ h1 := RWf (fun a h1 h2 => k1.2.2 a (by omega)) R
  refine R_ic (n := 12) C dX6_fewestMinutes_11 ci_1 rfl ?_
  refine R_ic (n := 13) C dX6_fewestMinutes_12 ci_2 rfl ?_
  refine R_al1 (n := 14) C dX6_fewestMinutes_13 rfl ?_
  refine M_getI (n := 17) C fl_X6_28 dX6_fewestMinutes_14 rfl rfl (wN R1) rfl ?_
  refine R_imulN (n := 18) C dX6_fewestMinutes_17 rfl ?_
  refine R_ishlN (n := 19) C dX6_fewestMinutes_18 (by omega) (sh2 (by omega)) rfl ?_
  refine R_is5 (n := 21) C dX6_fewestMinutes_19 rfl (Nat.le_of_ble_eq_true rfl) rfl ?_
  refine R_al2 (n := 22) C dX6_fewestMinutes_21 rfl ?_
  refine R_al1 (n := 23) C dX6_fewestMinutes_22 rfl ?_
  refine R_al1 (n := 24) C dX6_fewestMinutes_23 rfl ?_
  refine M_getI (n := 27) C fl_X6_33 dX6_fewestMinutes_24 rfl rfl (wKn R1) rfl ?_
  refine M_callV (n := 30) C (c_tabulate _ _ _ r R1 J kn) mw_X7_tabulate ml_X6_36 iv_X7_tabulate dX6_fewestMinutes_27 rfl rfl rfl rfl (Nat.le_of_ble_eq_true rfl) ⟨Nat.le_of_ble_eq_true rfl, Nat.le_of_ble_eq_true rfl⟩ ⟨Nat.le_refl _, Nat.le_refl _⟩ rfl (pGv (fun h2 k2 => ?_))
  rw [Nat.one_mul]
  have R2 : RW 1 σ h2 := RWf (fun a h1 h2 => k2.2 a (by omega) (by omega)) R1
  refine R_al0 (n := 31) C dX6_fewestMinutes_30 rfl ?_
  refine M_getR (n := 34) C fl_X6_15 dX6_fewestMinutes_31 rfl rfl rfl ?_
  refine R_ic (n := 35) C dX6_fewestMinutes_34 ci_0 rfl ?_
  refine R_callS (n := 38) C (c_fill _ _ _ r (LY_at (a := 42) rfl) (by decide) _) mw_J7_fill_53178 ml_X6_42 sv_J7_fill_53178 dX6_fewestMinutes_35 rfl rfl (Nat.le_of_ble_eq_true rfl) ⟨Nat.le_of_ble_eq_true rfl, Nat.le_of_ble_eq_true rfl⟩ ⟨Nat.le_refl _, Nat.le_refl _⟩ rfl (pGv (fun h3 k3 => ?_))
  refine R_al0 (n := 39) C dX6_fewestMinutes_38 rfl ?_
  refine M_getR (n := 42) C fl_X6_18 dX6_fewestMinutes_39 rfl rfl rfl ?_
  refine R_ic (n := 43) C dX6_fewestMinutes_42 ci_0 rfl ?_
  refine R_callS (n := 46) C (c_fill _ _ _ r (LY_at (a := 43) rfl) (by decide) _) mw_J7_fill_53178 ml_X6_42 sv_J7_fill_53178 dX6_fewestMinutes_43 rfl rfl (Nat.le_of_ble_eq_true rfl) ⟨Nat.le_of_ble_eq_true rfl, Nat.le_of_ble_eq_true rfl⟩ ⟨Nat.le_refl _, Nat.le_refl _⟩ rfl (pGv (fun h4 k4 => ?_))
  have f4 : ∀ a, a ≠ 42 → a ≠ 43 → h4 a = h2 a := fun a b1 b2 => by rw [k4.2 a b2, k3.2 a b1]
  have R4 : RW 1 σ h4 := RWf (fun a h1 h2 => f4 a (by omega) (by omega)) R2
  refine R_al0 (n := 47) C dX6_fewestMinutes_46 rfl ?_
  refine M_getR (n := 50) C fl_X6_15 dX6_fewestMinutes_47 rfl rfl rfl ?_
  refine R_al1 (n := 51) C dX6_fewestMinutes_50 rfl ?_
  refine M_callV (n := 54) C (c_number _ _ _ r R4 J) mw_X9_number ml_X6_48 iv_X9_number dX6_fewestMinutes_51 rfl rfl rfl rfl (Nat.le_of_ble_eq_true rfl) ⟨Nat.le_of_ble_eq_true rfl, Nat.le_of_ble_eq_true rfl⟩ ⟨Nat.le_refl _, Nat.le_refl _⟩ rfl (pEs ?_)
  refine R_ic (n := 55) C dX6_fewestMinutes_54 ci_1 rfl ?_
  refine M_iast (n := 56) C dX6_fewestMinutes_55 rfl nu rfl ?_
  have S4 : RS σ (sKn σ) h4 := fun w hw hb => by
    rw [f4 20 (by decide) (by decide), f4 21 (by decide) (by decide)]
    exact k2.1 w hw hb
  have e40 : h4 40 0 = nI s := by rw [f4 40 (by decide) (by decide), k2.2 40 (by decide) (by decide)]; exact k1.1
  have e41 : h4 40 1 = nI b := by rw [f4 40 (by decide) (by decide), k2.2 40 (by decide) (by decide)]; exact k1.2.1
  have F4 : FrS h h4 := fun a ha => by rw [f4 a (by omega) (by omega), k2.2 a (by omega) (by omega), k1.2.2 a (by omega)]
  have En0 : RN (fun x => if x = nuz σ then 1 else 0) 42 (2 ^ (2 * sN σ)) (up2 h4 42 (nuz σ) (nI 1)) := fun x hx => by
    show _ = nI (if x = nuz σ then 1 else 0)
    rw [up2_at]
    by_cases e : x = nuz σ
    · rw [if_pos e, if_pos e]
    · rw [if_neg e, if_neg e, k4.2 42 (by decide)]
      exact k3.1 x (by omega)
  have Eb0 : RN (fun _ => 0) 43 (2 ^ (2 * sN σ)) (up2 h4 42 (nuz σ) (nI 1)) := fun x hx => by
    rw [up2_row (by decide)]
    exact k4.1 x (by omega)
  have nl0 : ∀ x, (fun x => if x = nuz σ then 1 else 0) x < 2 ^ 32 := fun x => by
    show (if x = nuz σ then 1 else 0) < 2 ^ 32
    split <;> decide
  refine R_al0 (n := 57) C dX6_fewestMinutes_56 rfl ?_
  refine R_il5 (n := 59) C dX6_fewestMinutes_57 rfl ?_
  refine M_callV (n := 62) C (c_knockAll _ _ _ r (up2_get (by decide) e40) (up2_get (by decide) e41) s32 hb p10 En0 Eb0 nl0) mw_X6_knockAll ml_X6_52 iv_X6_knockAll dX6_fewestMinutes_59 rfl rfl rfl rfl (Nat.le_of_ble_eq_true rfl) ⟨Nat.le_of_ble_eq_true rfl, Nat.le_of_ble_eq_true rfl⟩ ⟨Nat.le_refl _, Nat.le_refl _⟩ rfl (pGs (fun h5 k5 => ?_))
  refine R_is6 (n := 64) C dX6_fewestMinutes_62 rfl (Nat.le_of_ble_eq_true rfl) rfl ?_
  refine R_ic (n := 65) C dX6_fewestMinutes_64 ci_0 rfl ?_
  refine R_is7 (n := 67) C dX6_fewestMinutes_65 rfl (Nat.le_of_ble_eq_true rfl) rfl ?_
  refine loop h4 S4 R4 F4 e40 e41 32769 0 _ _ h5 (by omega) (by omega) (PQ.init J) (fun x => knz_lt) k5.1 k5.2.1 (fun f => ?_) (fun a b1 b2 b3 => by rw [k5.2.2 a b1 b3, up2_row b2])
  rw [Bool.not_eq_true'] at f
  obtain ⟨x, x1, x2⟩ := alb_ex f
  have := pct_more (be := fun _ => 0) (kn := knz s b (fun x => if x = nuz σ then 1 else 0) (fun _ => 0)) (x := x) (by omega) knz_lt (of_decide_eq_false x2) (fun q hq => Nat.zero_testBit q)
  omega
