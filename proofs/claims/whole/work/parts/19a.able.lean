def hq (σ : WS) (w k : Nat) (p : Nat × Nat) : Nat × Nat := if qz σ w k p.1 ≤ p.2 then (tz σ k p.1 (qz σ w k p.1), p.2 - qz σ w k p.1) else p
def hrS (σ : WS) (w : Nat) (st : Nat → Nat × Nat) : Nat → Nat × Nat := fun k => hq σ w k (st k)
def lkz (σ : WS) (s b : Nat) (la : Bool) (w : Nat) (st : Nat → Nat × Nat) : Bool := !la || alb (fun k => !s.testBit k || decide ((hrS σ w st k).1 = wy b k)) (sN σ)
def mtz (σ : WS) (W s b : Nat) : Nat → (Nat → Nat × Nat) → Bool
  | 0, _ => true
  | m + 1, st => !alb (fun w => !(W.testBit w && (lkz σ s b (decide (m = 0)) w st && mtz σ W s b m (hrS σ w st)))) 6
def stOk (n : Nat) (st : Nat → Nat × Nat) : Prop := ∀ k, k < n → (st k).1 < 4 ∧ (st k).2 ≤ 30
theorem hrS_ok {σ : WS} {n w : Nat} {st : Nat → Nat × Nat} (h : stOk n st) : stOk n (hrS σ w st) := fun k hk => by
  have := h k hk
  unfold hrS hq
  split
  · exact ⟨tz_lt, by show _ - _ ≤ 30; omega⟩
  · exact this
def RLg (σ : WS) (s d : Nat) (st : Nat → Nat × Nat) (h : Hp) : Prop := ∀ k, k < sN σ → s.testBit k = true → h (27 + d) k = nI (st k).1 ∧ h (34 + d) k = nI (st k).2
theorem lk26 : ∀ {d : Nat}, d < 6 → ([some 27, some 28, some 29, some 30, some 31, some 32] : List (Option Nat))[d]? = some (some (27 + d))
  | 0, _ => rfl
  | 1, _ => rfl
  | 2, _ => rfl
  | 3, _ => rfl
  | 4, _ => rfl
  | 5, _ => rfl
  | d + 6, h => absurd h (by omega)
theorem lk33 : ∀ {d : Nat}, d < 6 → ([some 34, some 35, some 36, some 37, some 38, some 39] : List (Option Nat))[d]? = some (some (34 + d))
  | 0, _ => rfl
  | 1, _ => rfl
  | 2, _ => rfl
  | 3, _ => rfl
  | 4, _ => rfl
  | 5, _ => rfl
  | d + 6, h => absurd h (by omega)
theorem ly27 : ∀ {d : Nat}, d < 6 → LYS[27 + d]? = some (.inr (.inl (0, 5)))
  | 0, _ => rfl
  | 1, _ => rfl
  | 2, _ => rfl
  | 3, _ => rfl
  | 4, _ => rfl
  | 5, _ => rfl
  | d + 6, h => absurd h (by omega)
theorem ly34 : ∀ {d : Nat}, d < 6 → LYS[34 + d]? = some (.inr (.inl (0, 5)))
  | 0, _ => rfl
  | 1, _ => rfl
  | 2, _ => rfl
  | 3, _ => rfl
  | 4, _ => rfl
  | 5, _ => rfl
  | d + 6, h => absurd h (by omega)
set_option maxRecDepth 20000 in
set_option maxHeartbeats 4000000 in
theorem c_lhear (l : Launch) (D : va_G) (cA : Nat → ClassId) (r : Nat → Nat) {h : Hp} {σ : WS} (R : RW 1 σ h) (J : Inv σ) {s b w d : Nat} {st : Nat → Nat × Nat} (la : Bool) (E : RLg σ s d st h) (O : stOk (sN σ) st) (e0 : h 25 0 = nI s) (e1 : h 25 1 = nI b) (hs : s < 32) (hb : b < 1024) (hw : w < 6) (hd : d < 5) : Cn l D cA yX3_hear cX3_hear 9 (some .boolean) 1 0 0 [.ref (r 25), .ref (r 1), .int (nI w), .int (nI d), .int (bI la)] (LY r) h (pG (some (.int (bI (lkz σ s b la w st)))) (LY r) (fun h' => (lkz σ s b la w st = true → RLg σ s (d + 1) (hrS σ w st) h') ∧ ∀ a, a ≠ 27 + (d + 1) → a ≠ 34 + (d + 1) → h' a = h a)) := by
  refine Cn.of (lv := [some (.ref (r 25)), some (.ref (r 1)), some (.int (nI w)), some (.int (nI d)), some (.int (bI la)), none, none, none, none]) (by decide +kernel) (Nat.le_of_ble_eq_true rfl) rfl (fun X hnm C CR => ?_)
  have n5 := J.n5
  obtain ⟨Z, hZ⟩ : ∃ Z, lkz σ s b la w st = Z := ⟨_, rfl⟩
  rw [hZ] at CR
  have loop : ∀ (m i : Nat) (hh : Hp) (o6 o7 o8 : Option Value), sN σ < i + m → i ≤ sN σ → (∀ k, k < i → s.testBit k = true → hh (27 + (d + 1)) k = nI (hrS σ w st k).1 ∧ hh (34 + (d + 1)) k = nI (hrS σ w st k).2) → (la = true → ∀ k, k < i → (!s.testBit k || decide ((hrS σ w st k).1 = wy b k)) = true) → (∀ a, a ≠ 27 + (d + 1) → a ≠ 34 + (d + 1) → hh a = h a) → Rn X 0 0 3 [some (.ref (r 25)), some (.ref (r 1)), some (.int (nI w)), some (.int (nI d)), some (.int (bI la)), some (.int (nI i)), o6, o7, o8] [] (LY r) hh := by
    intro m
    induction m with
    | zero => intro i hh o6 o7 o8 a1 a2; omega
    | succ m ih =>
      intro i hh o6 o7 o8 a1 a2 A P F
      have R1 : RW 1 σ hh := RWf (fun a h1 h2 => F a (by omega) (by omega)) R
      have g0 : hh 25 0 = nI s := by rw [F 25 (by omega) (by omega)]; exact e0
      have g1 : hh 25 1 = nI b := by rw [F 25 (by omega) (by omega)]; exact e1
      refine R_il5 (n := 5) C dX3_hear_3 rfl ?_
      refine R_al1 (n := 6) C dX3_hear_5 rfl ?_
      refine M_getI (n := 9) C fl_X3_59 dX3_hear_6 rfl rfl (wN R1) rfl ?_
      refine R_icmp_geN (tgt := 135) C dX3_hear_9 rfl rfl (by omega) (by omega) (fun c1 => ?_) (fun c1 => ?_)
      · obtain rfl : i = sN σ := by omega
        have z1 : Z = true := by
          rw [← hZ, lkz]
          cases hla : la with
          | false => rfl
          | true => rw [alb_t (P hla)]; rfl
        refine R_ic (n := 136) C dX3_hear_135 ci_1 rfl ?_
        refine R_zret1 C CR (Nat.zero_le _) (Nat.zero_le _) dX3_hear_136 ?_
        exact ⟨by rw [z1], rfl, fun _ => A, F⟩
      · have nx : ∀ (h2 : Hp) (o6 o7 o8 : Option Value), (∀ k, k < i + 1 → s.testBit k = true → h2 (27 + (d + 1)) k = nI (hrS σ w st k).1 ∧ h2 (34 + (d + 1)) k = nI (hrS σ w st k).2) → (la = true → ∀ k, k < i + 1 → (!s.testBit k || decide ((hrS σ w st k).1 = wy b k)) = true) → (∀ a, a ≠ 27 + (d + 1) → a ≠ 34 + (d + 1) → h2 a = h a) → Rn X 0 0 129 [some (.ref (r 25)), some (.ref (r 1)), some (.int (nI w)), some (.int (nI d)), some (.int (bI la)), some (.int (nI i)), o6, o7, o8] [] (LY r) h2 := by
          intro h2 o6 o7 o8 A2 P2 F2
          refine R_inc5 (n := 132) C dX3_hear_129 rfl (Nat.le_of_ble_eq_true rfl) (inc_1 _) rfl ?_
          refine R_goto (n := 3) C dX3_hear_132 rfl ?_
          exact ih (i + 1) h2 _ _ _ (by omega) (by omega) A2 P2 F2
        refine R_al0 (n := 13) C dX3_hear_12 rfl ?_
        refine M_getI (n := 16) C fl_X3_19 dX3_hear_13 rfl rfl g0 rfl ?_
        refine R_il5 (n := 18) C dX3_hear_16 rfl ?_
        refine R_callSN (n := 21) C (c_isIn _ _ _ r (by omega) (by omega)) mw_X10_isIn mn_X3_62 sv_X10_isIn dX3_hear_18 rfl rfl (Nat.le_of_ble_eq_true rfl) ⟨Nat.le_of_ble_eq_true rfl, Nat.le_of_ble_eq_true rfl⟩ ⟨Nat.le_refl _, Nat.le_refl _⟩ rfl (pEs ?_)
        refine R_if_eqB (tgt := 129) C dX3_hear_21 rfl rfl (fun c2 => ?_) (fun c2 => ?_)
        · refine nx hh _ _ _ (fun k hk hb => ?_) (fun hl k hk => ?_) F
          · by_cases e : k = i
            · rw [e, c2] at hb; cases hb
            · exact A k (by omega) hb
          · by_cases e : k = i
            · rw [e, c2]; rfl
            · exact P hl k (by omega)
        · obtain ⟨k1, k2⟩ := E i c1 c2
          obtain ⟨o1, o2⟩ := O i c1
          obtain ⟨l, g, hlg⟩ : ∃ l g, st i = (l, g) := ⟨_, _, rfl⟩
          have hst : hrS σ w st i = hq σ w i (l, g) := by rw [hrS, hlg]
          rw [hlg] at k1 k2 o1 o2
          have j1 : hh (27 + d) i = nI l := by rw [F _ (by omega) (by omega)]; exact k1
          have j2 : hh (34 + d) i = nI g := by rw [F _ (by omega) (by omega)]; exact k2
          have l4 : l < 4 := o1
          have g30 : g ≤ 30 := o2
          have q4 := qz_le (σ := σ) J (w := w) (k := i) (l := l) hw (by omega)
          have go : ∀ t, t < 4 → t ≤ g → (tz σ i l t, g - t) = hq σ w i (l, g) → Rn X 0 0 67 [some (.ref (r 25)), some (.ref (r 1)), some (.int (nI w)), some (.int (nI d)), some (.int (bI la)), some (.int (nI i)), some (.int (nI l)), some (.int (nI g)), some (.int (nI t))] [] (LY r) hh := by
            intro t t4 tg te
            rw [← te] at hst
            have tl := tz_lt (σ := σ) (k := i) (l := l) (b := t)
            have w4 := wy_lt b i
            have fin : (la = true → tz σ i l t = wy b i) → Rn X 0 0 100 [some (.ref (r 25)), some (.ref (r 1)), some (.int (nI w)), some (.int (nI d)), some (.int (bI la)), some (.int (nI i)), some (.int (nI (tz σ i l t))), some (.int (nI g)), some (.int (nI t))] [] (LY r) hh := by
              intro hp
              refine R_al0 (n := 101) C dX3_hear_100 rfl ?_
              refine M_getR (n := 104) C fl_X3_11 dX3_hear_101 rfl rfl rfl ?_
              refine R_il3 (n := 105) C dX3_hear_104 rfl ?_
              refine R_ic (n := 106) C dX3_hear_105 ci_1 rfl ?_
              refine R_iaddN (n := 107) C dX3_hear_106 rfl ?_
              refine M_aaldA (n := 108) C dX3_hear_107 rfl (lk26 (show d + 1 < 6 by omega)) rfl ?_
              refine R_il5 (n := 110) C dX3_hear_108 rfl ?_
              refine R_il6 (n := 112) C dX3_hear_110 rfl ?_
              refine M_iast (n := 113) C dX3_hear_112 (ly27 (show d + 1 < 6 by omega)) (by omega) rfl ?_
              refine R_al0 (n := 114) C dX3_hear_113 rfl ?_
              refine M_getR (n := 117) C fl_X3_16 dX3_hear_114 rfl rfl rfl ?_
              refine R_il3 (n := 118) C dX3_hear_117 rfl ?_
              refine R_ic (n := 119) C dX3_hear_118 ci_1 rfl ?_
              refine R_iaddN (n := 120) C dX3_hear_119 rfl ?_
              refine M_aaldA (n := 121) C dX3_hear_120 rfl (lk33 (show d + 1 < 6 by omega)) rfl ?_
              refine R_il5 (n := 123) C dX3_hear_121 rfl ?_
              refine R_il7 (n := 125) C dX3_hear_123 rfl ?_
              refine R_il8 (n := 127) C dX3_hear_125 rfl ?_
              refine R_isubN (n := 128) C dX3_hear_127 (by omega) rfl ?_
              refine M_iast (n := 129) C dX3_hear_128 (ly34 (show d + 1 < 6 by omega)) (by omega) rfl ?_
              refine nx _ _ _ _ (fun k hk hb => ?_) (fun hl k hk => ?_) (fun a a1 a2 => by rw [up2_row a2, up2_row a1]; exact F a a1 a2)
              · by_cases e : k = i
                · rw [e, hst]
                  exact ⟨by rw [up2_row (by omega), up2_same], up2_same⟩
                · rw [up2_row (by omega), up2_ne e, up2_ne e, up2_row (by omega)]
                  exact A k (by omega) hb
              · by_cases e : k = i
                · rw [e, hst, decide_eq_true (hp hl), Bool.or_true]
                · exact P hl k (by omega)
            refine R_al1 (n := 68) C dX3_hear_67 rfl ?_
            refine R_il5 (n := 70) C dX3_hear_68 rfl ?_
            refine R_il6 (n := 72) C dX3_hear_70 rfl ?_
            refine R_il8 (n := 74) C dX3_hear_72 rfl ?_
            refine M_callV (n := 77) C (c_turned _ _ _ r R1 J (by omega) l4 t4) mw_X9_turned ml_X3_70 iv_X9_turned dX3_hear_74 rfl rfl rfl rfl (Nat.le_of_ble_eq_true rfl) ⟨Nat.le_of_ble_eq_true rfl, Nat.le_of_ble_eq_true rfl⟩ ⟨Nat.le_refl _, Nat.le_refl _⟩ rfl (pEs ?_)
            refine R_is6 (n := 79) C dX3_hear_77 rfl (Nat.le_of_ble_eq_true rfl) rfl ?_
            refine R_il4 (n := 81) C dX3_hear_79 rfl ?_
            refine R_if_eqB (tgt := 100) C dX3_hear_81 rfl rfl (fun c5 => ?_) (fun c5 => ?_)
            · exact fin (fun hl => by rw [hl] at c5; cases c5)
            · refine R_il6 (n := 86) C dX3_hear_84 rfl ?_
              refine R_al0 (n := 87) C dX3_hear_86 rfl ?_
              refine M_getI (n := 90) C fl_X3_23 dX3_hear_87 rfl rfl g1 rfl ?_
              refine R_il5 (n := 92) C dX3_hear_90 rfl ?_
              refine R_callSN (n := 95) C (c_lookIn _ _ _ r (by omega) (by omega)) mw_X10_lookIn mn_X3_73 sv_X10_lookIn dX3_hear_92 rfl rfl (Nat.le_of_ble_eq_true rfl) ⟨Nat.le_of_ble_eq_true rfl, Nat.le_of_ble_eq_true rfl⟩ ⟨Nat.le_refl _, Nat.le_refl _⟩ rfl (pEs ?_)
              refine R_icmp_eqN (tgt := 100) C dX3_hear_95 rfl rfl (by omega) (by omega) (fun c6 => ?_) (fun c6 => ?_)
              · exact fin (fun _ => c6)
              · have z0 : Z = false := by
                  rw [← hZ, lkz, c5, alb_f c1 (by rw [c2, hst, decide_eq_false c6]; rfl)]
                  rfl
                refine R_ic (n := 99) C dX3_hear_98 ci_0 rfl ?_
                refine R_zret0 C CR (Nat.zero_le _) (Nat.zero_le _) dX3_hear_99 ?_
                exact ⟨by rw [z0], rfl, fun q => absurd (z0.symm.trans q) (by decide), F⟩
          refine R_al0 (n := 25) C dX3_hear_24 rfl ?_
          refine M_getR (n := 28) C fl_X3_11 dX3_hear_25 rfl rfl rfl ?_
          refine R_il3 (n := 29) C dX3_hear_28 rfl ?_
          refine M_aaldA (n := 30) C dX3_hear_29 rfl (lk26 (show d < 6 by omega)) rfl ?_
          refine R_il5 (n := 32) C dX3_hear_30 rfl ?_
          refine M_iald (n := 33) C dX3_hear_32 (ly27 (show d < 6 by omega)) (by omega) j1 rfl ?_
          refine R_is6 (n := 35) C dX3_hear_33 rfl (Nat.le_of_ble_eq_true rfl) rfl ?_
          refine R_al0 (n := 36) C dX3_hear_35 rfl ?_
          refine M_getR (n := 39) C fl_X3_16 dX3_hear_36 rfl rfl rfl ?_
          refine R_il3 (n := 40) C dX3_hear_39 rfl ?_
          refine M_aaldA (n := 41) C dX3_hear_40 rfl (lk33 (show d < 6 by omega)) rfl ?_
          refine R_il5 (n := 43) C dX3_hear_41 rfl ?_
          refine M_iald (n := 44) C dX3_hear_43 (ly34 (show d < 6 by omega)) (by omega) j2 rfl ?_
          refine R_is7 (n := 46) C dX3_hear_44 rfl (Nat.le_of_ble_eq_true rfl) rfl ?_
          refine R_al1 (n := 47) C dX3_hear_46 rfl ?_
          refine R_il2 (n := 48) C dX3_hear_47 rfl ?_
          refine R_il5 (n := 50) C dX3_hear_48 rfl ?_
          refine R_il6 (n := 52) C dX3_hear_50 rfl ?_
          refine M_callV (n := 55) C (c_quarters _ _ _ r R1 J hw (by omega) l4) mw_X9_quarters ml_X3_66 iv_X9_quarters dX3_hear_52 rfl rfl rfl rfl (Nat.le_of_ble_eq_true rfl) ⟨Nat.le_of_ble_eq_true rfl, Nat.le_of_ble_eq_true rfl⟩ ⟨Nat.le_refl _, Nat.le_refl _⟩ rfl (pEs ?_)
          refine R_is8 (n := 57) C dX3_hear_55 rfl (Nat.le_of_ble_eq_true rfl) rfl ?_
          refine R_il8 (n := 59) C dX3_hear_57 rfl ?_
          refine R_il7 (n := 61) C dX3_hear_59 rfl ?_
          refine R_icmp_leN (tgt := 67) C dX3_hear_61 rfl rfl (by omega) (by omega) (fun c4 => ?_) (fun c4 => ?_)
          · exact go _ q4 c4 (by rw [hq, if_pos c4])
          · refine R_ic (n := 65) C dX3_hear_64 ci_0 rfl ?_
            refine R_is8 (n := 67) C dX3_hear_65 rfl (Nat.le_of_ble_eq_true rfl) rfl ?_
            exact go 0 (by omega) (by omega) (by rw [hq, if_neg (show ¬ qz σ w i l ≤ g by omega), tz_0 l4]; rfl)
  refine R_ic (n := 1) C dX3_hear_0 ci_0 rfl ?_
  refine R_is5 (n := 3) C dX3_hear_1 rfl (Nat.le_of_ble_eq_true rfl) rfl ?_
  refine loop (sN σ + 1) 0 h none none none (by omega) (by omega) (fun k hk => absurd hk (Nat.not_lt_zero k)) (fun _ k hk => absurd hk (Nat.not_lt_zero k)) (fun a _ _ => rfl)
