theorem nI_m1 {a : Nat} (h : a < 2 ^ 31) : nI a ≠ -1 := fun q => by
  have h1 := congrArg Int32.toInt q
  rw [nI_toInt h] at h1
  have h2 : (-1 : Int32).toInt = -1 := by decide
  omega
theorem RS_f {σ : WS} {W : Nat} {h h' : Hp} (F : ∀ a, a ≠ 23 → h' a = h a) (S : RS σ W h) : RS σ W h' := fun w hw hb => by
  rw [F 20 (by decide), F 21 (by decide)]
  exact S w hw hb
set_option maxRecDepth 20000 in
set_option maxHeartbeats 4000000 in
theorem c_leastQuarters (l : Launch) (D : va_G) (cA : Nat → ClassId) (r : Nat → Nat) {h : Hp} {σ : WS} (R : RW 1 σ h) (J : Inv σ) {s b : Nat} (hs : s < 2 ^ sN σ) (hb : b < 2 ^ (2 * sN σ)) : Cn l D cA yX5_leastQuarters cX5_leastQuarters 9 (some .int) 3 0 0 [.ref (r 18), .ref (r 1), .int (nI s), .int (nI b)] (LY r) h (pG (some (.int (tiV σ (sKn σ) s b))) (LY r) (FrP h)) := by
  refine Cn.of (lv := [some (.ref (r 18)), some (.ref (r 1)), some (.int (nI s)), some (.int (nI b)), none, none, none, none, none]) (by decide +kernel) (Nat.le_of_ble_eq_true rfl) rfl (fun X hnm C CR => ?_)
  have n5 := J.n5
  have kn := J.kn
  have p10 := p2_10 J.n5
  have s32 : s < 32 := Nat.lt_of_lt_of_le hs (p2_5 n5)
  have nu := nuz_1024 J
  have ml := mskz_lt (s := s)
  have inner : ∀ (g : Hp) (S : RS σ (sKn σ) g) (Rg : RW 1 σ g) (Fg : FrP h g) (k : Nat), k ≤ 15360 → (∀ (mx : Nat) (A : Nat → Nat) (h2 : Hp) (o : Option Value), TQ σ (sKn σ) s b k (2 ^ (2 * sN σ)) mx A → RD A h2 → (∀ a, a ≠ 23 → h2 a = g a) → Rn X 0 0 125 [some (.ref (r 18)), some (.ref (r 1)), some (.int (nI s)), some (.int (nI b)), some (.int (nI (2 ^ (2 * sN σ)))), some (.int (nI (mskz s 5))), some (.int (nI mx)), some (.int (nI k)), o] [] (LY r) h2) → ∀ (m y mx : Nat) (A : Nat → Nat) (hh : Hp), 2 ^ (2 * sN σ) < y + m → y ≤ 2 ^ (2 * sN σ) → TQ σ (sKn σ) s b k y mx A → RD A hh → (∀ a, a ≠ 23 → hh a = g a) → Rn X 0 0 70 [some (.ref (r 18)), some (.ref (r 1)), some (.int (nI s)), some (.int (nI b)), some (.int (nI (2 ^ (2 * sN σ)))), some (.int (nI (mskz s 5))), some (.int (nI mx)), some (.int (nI k)), some (.int (nI y))] [] (LY r) hh := by
    intro g S Rg Fg k hk out m
    induction m with
    | zero => intro y mx A hh a1 a2; omega
    | succ m ih =>
      intro y mx A hh a1 a2 T E F
      refine R_il8 (n := 72) C dX5_leastQuarters_70 rfl ?_
      refine R_il4 (n := 74) C dX5_leastQuarters_72 rfl ?_
      refine R_icmp_geN (tgt := 125) C dX5_leastQuarters_74 rfl rfl (by omega) (by omega) (fun c1 => ?_) (fun c1 => ?_)
      · obtain rfl : y = 2 ^ (2 * sN σ) := by omega
        exact out mx A hh _ T E F
      · have y10 : y < 1024 := by omega
        have ab := T.2.2.2.2.1 y
        have mb := T.2.2.2.2.2
        have xb : (y ^^^ b) < 2 ^ 31 := Nat.lt_trans (Nat.xor_lt_two_pow (n := 10) y10 (by omega)) (by decide)
        have xm : (y ^^^ b) &&& mskz s 5 < 2 ^ 31 := Nat.lt_of_le_of_lt Nat.and_le_left xb
        have R1 : RW 1 σ hh := RWf (fun a h1 h2 => F a (by omega)) Rg
        by_cases e0 : A y = k + 1
        · have ey : hh 23 y = nI k := by rw [E y y10, e0, pvI_s]
          refine R_al0 (n := 78) C dX5_leastQuarters_77 rfl ?_
          refine M_getR (n := 81) C fl_X5_22 dX5_leastQuarters_78 rfl rfl rfl ?_
          refine R_il8 (n := 83) C dX5_leastQuarters_81 rfl ?_
          refine M_iald (n := 84) C dX5_leastQuarters_83 rfl y10 ey rfl ?_
          refine R_il7 (n := 86) C dX5_leastQuarters_84 rfl ?_
          refine R_icmp_neN (tgt := 119) C dX5_leastQuarters_86 rfl rfl (by omega) (by omega) (fun c2 => ?_) (fun c2 => ?_)
          · exact absurd rfl c2
          · refine R_il8 (n := 91) C dX5_leastQuarters_89 rfl ?_
            refine R_il3 (n := 92) C dX5_leastQuarters_91 rfl ?_
            refine R_ixorN (n := 93) C dX5_leastQuarters_92 rfl ?_
            refine R_il5 (n := 95) C dX5_leastQuarters_93 rfl ?_
            refine R_iandN (n := 96) C dX5_leastQuarters_95 rfl ?_
            refine R_if_neN (tgt := 102) C dX5_leastQuarters_96 rfl rfl (by omega) (fun c3 => ?_) (fun c3 => ?_)
            · rw [msk_so n5 hs, Bool.not_eq_true] at c3
              have fr := T.far J k y e0
              have T2 := T.relax J e0 c3
              have m2 : (chz σ (sKn σ) y A 6).2 ≤ k + 15 := (chz_ok J (W := sKn σ) c1 e0 (j := 6) (Nat.le_refl _)).2.2.2.2
              refine R_il6 (n := 104) C dX5_leastQuarters_102 rfl ?_
              refine R_al0 (n := 105) C dX5_leastQuarters_104 rfl ?_
              refine R_al1 (n := 106) C dX5_leastQuarters_105 rfl ?_
              refine M_getI (n := 109) C fl_X5_64 dX5_leastQuarters_106 rfl rfl (wKn R1) rfl ?_
              refine R_il8 (n := 111) C dX5_leastQuarters_109 rfl ?_
              refine M_callV (n := 114) C (c_cheapen _ _ _ r J kn (RS_f F S) E c1 e0 (by omega) (fun x => by have := T.2.2.2.2.1 x; omega)) mw_X5_cheapen ml_X5_70 iv_X5_cheapen dX5_leastQuarters_111 rfl rfl rfl rfl (Nat.le_of_ble_eq_true rfl) ⟨Nat.le_of_ble_eq_true rfl, Nat.le_of_ble_eq_true rfl⟩ ⟨Nat.le_refl _, Nat.le_refl _⟩ rfl (pGs (fun h2 q2 => ?_))
              refine R_mmax (n := 117) C (by omega) (by omega) ml_X5_73 dX5_leastQuarters_114 (Nat.le_of_ble_eq_true rfl) (Nat.le_of_ble_eq_true rfl) ⟨Nat.le_refl _, Nat.le_refl _⟩ rfl ?_
              refine R_is6 (n := 119) C dX5_leastQuarters_117 rfl (Nat.le_of_ble_eq_true rfl) rfl ?_
              refine R_inc8 (n := 122) C dX5_leastQuarters_119 rfl (Nat.le_of_ble_eq_true rfl) (inc_1 _) rfl ?_
              refine R_goto (n := 70) C dX5_leastQuarters_122 rfl ?_
              exact ih (y + 1) _ _ h2 (by omega) (by omega) T2 q2.1 (fun a ha => by rw [q2.2 a ha, F a ha])
            · rw [msk_so n5 hs] at c3
              rw [tiV_eq (T.hit e0 c3)] at CR
              refine R_il7 (n := 101) C dX5_leastQuarters_99 rfl ?_
              refine R_iret C CR (Nat.zero_le _) (Nat.zero_le _) dX5_leastQuarters_101 ?_
              exact ⟨rfl, rfl, Fg.tr (fun a ha => F a (by omega))⟩
        · have nx : Rn X 0 0 119 [some (.ref (r 18)), some (.ref (r 1)), some (.int (nI s)), some (.int (nI b)), some (.int (nI (2 ^ (2 * sN σ)))), some (.int (nI (mskz s 5))), some (.int (nI mx)), some (.int (nI k)), some (.int (nI y))] [] (LY r) hh := by
            refine R_inc8 (n := 122) C dX5_leastQuarters_119 rfl (Nat.le_of_ble_eq_true rfl) (inc_1 _) rfl ?_
            refine R_goto (n := 70) C dX5_leastQuarters_122 rfl ?_
            exact ih (y + 1) _ _ hh (by omega) (by omega) (T.skip e0) E F
          by_cases z0 : A y = 0
          · have ey : hh 23 y = -1 := by rw [E y y10, z0]; rfl
            refine R_al0 (n := 78) C dX5_leastQuarters_77 rfl ?_
            refine M_getR (n := 81) C fl_X5_22 dX5_leastQuarters_78 rfl rfl rfl ?_
            refine R_il8 (n := 83) C dX5_leastQuarters_81 rfl ?_
            refine M_iald (n := 84) C dX5_leastQuarters_83 rfl y10 ey rfl ?_
            refine R_il7 (n := 86) C dX5_leastQuarters_84 rfl ?_
            refine R_icmp_ne (tgt := 119) C dX5_leastQuarters_86 rfl rfl (fun c2 => ?_) (fun c2 => ?_)
            · exact nx
            · exact absurd c2.symm (nI_m1 (by omega))
          · have ey : hh 23 y = nI (A y - 1) := by rw [E y y10, pvI_pos (by omega)]
            refine R_al0 (n := 78) C dX5_leastQuarters_77 rfl ?_
            refine M_getR (n := 81) C fl_X5_22 dX5_leastQuarters_78 rfl rfl rfl ?_
            refine R_il8 (n := 83) C dX5_leastQuarters_81 rfl ?_
            refine M_iald (n := 84) C dX5_leastQuarters_83 rfl y10 ey rfl ?_
            refine R_il7 (n := 86) C dX5_leastQuarters_84 rfl ?_
            refine R_icmp_neN (tgt := 119) C dX5_leastQuarters_86 rfl rfl (by omega) (by omega) (fun c2 => ?_) (fun c2 => ?_)
            · exact nx
            · omega
  have outer : ∀ (g : Hp) (S : RS σ (sKn σ) g) (Rg : RW 1 σ g) (Fg : FrP h g) (m k mx : Nat) (A : Nat → Nat) (hh : Hp) (o : Option Value), 15361 < k + m → k ≤ 15361 → TQ σ (sKn σ) s b k 0 mx A → RD A hh → (∀ a, a ≠ 23 → hh a = g a) → Rn X 0 0 52 [some (.ref (r 18)), some (.ref (r 1)), some (.int (nI s)), some (.int (nI b)), some (.int (nI (2 ^ (2 * sN σ)))), some (.int (nI (mskz s 5))), some (.int (nI mx)), some (.int (nI k)), o] [] (LY r) hh := by
    intro g S Rg Fg m
    induction m with
    | zero => intro k mx A hh o a1 a2; omega
    | succ m ih =>
      intro k mx A hh o a1 a2 T E F
      have mb := T.2.2.2.2.2
      refine R_il7 (n := 54) C dX5_leastQuarters_52 rfl ?_
      refine R_il6 (n := 56) C dX5_leastQuarters_54 rfl ?_
      refine R_icmp_gtN (tgt := 131) C dX5_leastQuarters_56 rfl rfl (by omega) (by omega) (fun c1 => ?_) (fun c1 => ?_)
      · rw [tiV_eq (T.fin c1)] at CR
        refine R_bp (n := 133) C dX5_leastQuarters_131 cb_m6 rfl ?_
        refine R_iret C CR (Nat.zero_le _) (Nat.zero_le _) dX5_leastQuarters_133 ?_
        exact ⟨rfl, rfl, Fg.tr (fun a ha => F a (by omega))⟩
      · refine R_il7 (n := 61) C dX5_leastQuarters_59 rfl ?_
        refine R_sp (n := 64) C dX5_leastQuarters_61 cs_15360 rfl ?_
        refine R_icmp_gtN (tgt := 131) C dX5_leastQuarters_64 rfl rfl (by omega) (by omega) (fun c2 => ?_) (fun c2 => ?_)
        · omega
        · refine R_ic (n := 68) C dX5_leastQuarters_67 ci_0 rfl ?_
          refine R_is8 (n := 70) C dX5_leastQuarters_68 rfl (Nat.le_of_ble_eq_true rfl) rfl ?_
          refine inner g S Rg Fg k (by omega) (fun mx2 A2 h2 o2 T2 E2 F2 => ?_) (2 ^ (2 * sN σ) + 1) 0 mx A hh (by omega) (by omega) T E F
          refine R_inc7 (n := 128) C dX5_leastQuarters_125 rfl (Nat.le_of_ble_eq_true rfl) (inc_1 _) rfl ?_
          refine R_goto (n := 52) C dX5_leastQuarters_128 rfl ?_
          exact ih (k + 1) mx2 A2 h2 _ (by omega) (by omega) (T2.next J) E2 F2
  refine R_al0 (n := 1) C dX5_leastQuarters_0 rfl ?_
  refine M_getR (n := 4) C fl_X5_12 dX5_leastQuarters_1 rfl rfl rfl ?_
  refine R_al1 (n := 5) C dX5_leastQuarters_4 rfl ?_
  refine R_al1 (n := 6) C dX5_leastQuarters_5 rfl ?_
  refine M_getI (n := 9) C fl_X5_64 dX5_leastQuarters_6 rfl rfl (wKn R) rfl ?_
  refine M_callV (n := 12) C (c_tabulate _ _ _ r R J kn) mw_X7_tabulate ml_X5_28 iv_X7_tabulate dX5_leastQuarters_9 rfl rfl rfl rfl (Nat.le_of_ble_eq_true rfl) ⟨Nat.le_of_ble_eq_true rfl, Nat.le_of_ble_eq_true rfl⟩ ⟨Nat.le_refl _, Nat.le_refl _⟩ rfl (pGv (fun h1 q1 => ?_))
  have R1 : RW 1 σ h1 := RWf (fun a h1 h2 => q1.2 a (by omega) (by omega)) R
  refine R_ic (n := 13) C dX5_leastQuarters_12 ci_1 rfl ?_
  refine R_ic (n := 14) C dX5_leastQuarters_13 ci_2 rfl ?_
  refine R_al1 (n := 15) C dX5_leastQuarters_14 rfl ?_
  refine M_getI (n := 18) C fl_X5_67 dX5_leastQuarters_15 rfl rfl (wN R1) rfl ?_
  refine R_imulN (n := 19) C dX5_leastQuarters_18 rfl ?_
  refine R_ishlN (n := 20) C dX5_leastQuarters_19 (by omega) (sh2 (by omega)) rfl ?_
  refine R_is4 (n := 22) C dX5_leastQuarters_20 rfl (Nat.le_of_ble_eq_true rfl) rfl ?_
  refine R_il2 (n := 23) C dX5_leastQuarters_22 rfl ?_
  refine R_callSN (n := 26) C (c_maskOf _ _ _ r (by omega)) mw_X10_maskOf mn_X5_60 sv_X10_maskOf dX5_leastQuarters_23 rfl rfl (Nat.le_of_ble_eq_true rfl) ⟨Nat.le_of_ble_eq_true rfl, Nat.le_of_ble_eq_true rfl⟩ ⟨Nat.le_refl _, Nat.le_refl _⟩ rfl (pEs ?_)
  refine R_is5 (n := 28) C dX5_leastQuarters_26 rfl (Nat.le_of_ble_eq_true rfl) rfl ?_
  rw [Nat.one_mul]
  refine R_ic (n := 29) C dX5_leastQuarters_28 ci_0 rfl ?_
  refine R_is6 (n := 31) C dX5_leastQuarters_29 rfl (Nat.le_of_ble_eq_true rfl) rfl ?_
  refine R_al0 (n := 32) C dX5_leastQuarters_31 rfl ?_
  refine M_getR (n := 35) C fl_X5_22 dX5_leastQuarters_32 rfl rfl rfl ?_
  refine R_ic (n := 36) C dX5_leastQuarters_35 ci_m1 rfl ?_
  refine R_callS (n := 39) C (c_fill _ _ _ r (LY_at (a := 23) rfl) (by decide) _) mw_J7_fill_53178 ml_X5_32 sv_J7_fill_53178 dX5_leastQuarters_36 rfl rfl (Nat.le_of_ble_eq_true rfl) ⟨Nat.le_of_ble_eq_true rfl, Nat.le_of_ble_eq_true rfl⟩ ⟨Nat.le_refl _, Nat.le_refl _⟩ rfl (pGv (fun h2 q2 => ?_))
  have R2 : RW 1 σ h2 := RWf (fun a h1 h2 => q2.2 a (by omega)) R1
  refine R_al0 (n := 40) C dX5_leastQuarters_39 rfl ?_
  refine M_getR (n := 43) C fl_X5_22 dX5_leastQuarters_40 rfl rfl rfl ?_
  refine R_al1 (n := 44) C dX5_leastQuarters_43 rfl ?_
  refine M_callV (n := 47) C (c_number _ _ _ r R2 J) mw_X9_number ml_X5_38 iv_X9_number dX5_leastQuarters_44 rfl rfl rfl rfl (Nat.le_of_ble_eq_true rfl) ⟨Nat.le_of_ble_eq_true rfl, Nat.le_of_ble_eq_true rfl⟩ ⟨Nat.le_refl _, Nat.le_refl _⟩ rfl (pEs ?_)
  refine R_ic (n := 48) C dX5_leastQuarters_47 ci_0 rfl ?_
  refine M_iast (n := 49) C dX5_leastQuarters_48 rfl nu rfl ?_
  refine R_ic (n := 50) C dX5_leastQuarters_49 ci_0 rfl ?_
  refine R_is7 (n := 52) C dX5_leastQuarters_50 rfl (Nat.le_of_ble_eq_true rfl) rfl ?_
  have S2 : RS σ (sKn σ) h2 := fun w hw hb => by
    rw [q2.2 20 (by decide), q2.2 21 (by decide)]
    exact q1.1 w hw hb
  refine outer h2 S2 R2 (fun a ha => by rw [q2.2 a (by omega), q1.2 a (by omega) (by omega)]) 15362 0 0 (fun x => if x = nuz σ then 1 else 0) _ none (by omega) (by omega) ⟨if_pos rfl, fun x c h => ?_, fun x c h h0 => ?_, fun x h1 h2 => ?_, fun x => ?_, by omega⟩ (fun x hx => ?_) (fun a ha => up2_row ha)
  · have h' : (if x = nuz σ then 1 else 0) = c + 1 := h
    by_cases e : x = nuz σ
    · rw [if_pos e] at h'
      rw [e, show c = 0 by omega]
      exact rcq_0
    · rw [if_neg e] at h'; omega
  · have h' : (if x = nuz σ then 1 else 0) = c + 1 := h
    split at h' <;> omega
  · have h1' : 0 < (if x = nuz σ then 1 else 0) := h1
    have h2' : (if x = nuz σ then 1 else 0) ≤ 0 ∨ ((if x = nuz σ then 1 else 0) = 0 + 1 ∧ x < 0) := h2
    split at h1' <;> omega
  · show (if x = nuz σ then 1 else 0) ≤ 0 + 1
    split <;> omega
  · rw [up2_at]
    show _ = pvI (if x = nuz σ then 1 else 0)
    by_cases e : x = nuz σ
    · rw [if_pos e, if_pos e]; rfl
    · rw [if_neg e, if_neg e]
      exact q2.1 x hx
set_option maxRecDepth 20000 in
set_option maxHeartbeats 4000000 in
theorem p_tired (l : Launch) (D : va_G) (cA : Nat → ClassId) (r : Nat → Nat) {h : Hp} {G : GS} (R : RCl G h) (I : InvG G) (s b : Int32) : Cn l D cA yX10_tired cX10_tired 3 (some .int) 4 0 0 [.ref (r 0), .int s, .int b] (LY r) h (pG (some (.int (aTired G s b))) (LY r) (fun h' => RCl G h' ∧ FrC h h')) := by
  refine Cn.of (lv := [some (.ref (r 0)), some (.int s), some (.int b)]) (by decide +kernel) (Nat.le_of_ble_eq_true rfl) rfl (fun X hnm C CR => ?_)
  refine R_al0 (n := 1) C dX10_tired_0 rfl ?_
  refine R_il1 (n := 2) C dX10_tired_1 rfl ?_
  refine R_il2 (n := 3) C dX10_tired_2 rfl ?_
  refine M_callV (n := 6) C (c_isAim _ _ _ r R.1 I.1 _ _) mw_X10_isAim ml_X10_185 iv_X10_isAim dX10_tired_3 rfl rfl rfl rfl (Nat.le_of_ble_eq_true rfl) ⟨Nat.le_of_ble_eq_true rfl, Nat.le_of_ble_eq_true rfl⟩ ⟨Nat.le_refl _, Nat.le_refl _⟩ rfl (pEs ?_)
  refine R_if_neB (tgt := 12) C dX10_tired_6 rfl rfl (fun c1 => ?_) (fun c1 => ?_)
  · obtain ⟨x, y, x1, y1, rfl, rfl, xc, yc⟩ := okA_of I.1 c1
    rw [aTired, if_pos c1, xc, yc] at CR
    refine R_al0 (n := 13) C dX10_tired_12 rfl ?_
    refine M_getR (n := 16) C fl_X10_41 dX10_tired_13 rfl rfl rfl ?_
    refine R_al0 (n := 17) C dX10_tired_16 rfl ?_
    refine M_getR (n := 20) C fl_X10_12 dX10_tired_17 rfl rfl rfl ?_
    refine R_il1 (n := 21) C dX10_tired_20 rfl ?_
    refine R_il2 (n := 22) C dX10_tired_21 rfl ?_
    refine M_callV (n := 25) C (c_leastQuarters _ _ _ r R.1 I.1 x1 y1) mw_X5_leastQuarters ml_X10_195 iv_X5_leastQuarters dX10_tired_22 rfl rfl rfl rfl (Nat.le_of_ble_eq_true rfl) ⟨Nat.le_of_ble_eq_true rfl, Nat.le_of_ble_eq_true rfl⟩ ⟨Nat.le_refl _, Nat.le_refl _⟩ rfl (pGs (fun h1 q1 => ?_))
    refine R_iret C CR (Nat.zero_le _) (Nat.zero_le _) dX10_tired_25 ?_
    exact ⟨rfl, rfl, R.s q1.s, q1.s.c⟩
  · refine R_bp (n := 11) C dX10_tired_9 cb_m2 rfl ?_
    refine R_iret C CR (Nat.zero_le _) (Nat.zero_le _) dX10_tired_11 ?_
    refine ⟨?_, rfl, R, FrC.rf⟩
    rw [aTired, if_neg (by rw [c1]; decide)]
