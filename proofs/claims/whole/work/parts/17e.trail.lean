def soz (σ : WS) (k c l : Nat) : Bool := alb (fun i => !(decide (sA σ 6 i = k) && (decide (sA σ 7 i = c) && !decide (sA σ 8 i = l)))) (sSg σ)
def laz (σ : WS) (k c : Nat) : Bool := !alb (fun i => !(decide (sA σ 6 i = k) && decide (c < sA σ 7 i))) (sSg σ)
theorem Inv.sgt {σ : WS} (I : Inv σ) {k : Nat} (hk : k < sSg σ) : sA σ 6 k < sN σ ∧ sA σ 7 k ≤ 30 ∧ sA σ 8 k < 4 := I.2.2.2.1 k hk
set_option maxRecDepth 20000 in
set_option maxHeartbeats 4000000 in
theorem c_isSo (l : Launch) (D : va_G) (cA : Nat → ClassId) (r : Nat → Nat) {h : Hp} {σ : WS} (R : RW 1 σ h) (I : Inv σ) {k c l9 : Nat} (hk : k < 5) (hc : c < 100) (hl : l9 < 4) : Cn l D cA yX8_isSo cX8_isSo 5 (some .boolean) 0 0 0 [.ref (r 1), .int (nI k), .int (nI c), .int (nI l9)] (LY r) h (pE (some (.int (bI (soz σ k c l9)))) (LY r) h) := by
  refine Cn.of (lv := [some (.ref (r 1)), some (.int (nI k)), some (.int (nI c)), some (.int (nI l9)), none]) (by decide +kernel) (Nat.le_of_ble_eq_true rfl) rfl (fun X hnm C CR => ?_)
  have n5 := I.n5
  have g6 := I.sg
  have loop : ∀ (m i : Nat), sSg σ < i + m → i ≤ sSg σ → (∀ j, j < i → (!(decide (sA σ 6 j = k) && (decide (sA σ 7 j = c) && !decide (sA σ 8 j = l9)))) = true) → Rn X 0 0 3 [some (.ref (r 1)), some (.int (nI k)), some (.int (nI c)), some (.int (nI l9)), some (.int (nI i))] [] (LY r) h := by
    intro m
    induction m with
    | zero => intro i a1 a2; omega
    | succ m ih =>
      intro i a1 a2 P
      refine R_il4 (n := 5) C dX8_isSo_3 rfl ?_
      refine R_al0 (n := 6) C dX8_isSo_5 rfl ?_
      refine M_getI (n := 9) C fl_X8_76 dX8_isSo_6 rfl rfl (wSg R) rfl ?_
      refine R_icmp_geN (tgt := 53) C dX8_isSo_9 rfl rfl (by omega) (by omega) (fun c1 => ?_) (fun c1 => ?_)
      · refine R_ic (n := 54) C dX8_isSo_53 ci_1 rfl ?_
        refine R_zret1 C CR (Nat.zero_le _) (Nat.zero_le _) dX8_isSo_54 ?_
        exact ⟨by rw [soz, alb_t (fun k hk => P k (by omega))], rfl, rfl⟩
      · have nx : (!(decide (sA σ 6 i = k) && (decide (sA σ 7 i = c) && !decide (sA σ 8 i = l9)))) = true → Rn X 0 0 47 [some (.ref (r 1)), some (.int (nI k)), some (.int (nI c)), some (.int (nI l9)), some (.int (nI i))] [] (LY r) h := by
          intro q
          refine R_inc4 (n := 50) C dX8_isSo_47 rfl (Nat.le_of_ble_eq_true rfl) (inc_1 _) rfl ?_
          refine R_goto (n := 3) C dX8_isSo_50 rfl ?_
          exact ih (i + 1) (by omega) (by omega) (fun k hk => by
            by_cases e : k = i
            · rw [e]; exact q
            · exact P k (by omega))
        obtain ⟨s1, s2, s3⟩ := I.sgt c1
        refine R_al0 (n := 13) C dX8_isSo_12 rfl ?_
        refine M_getR (n := 16) C fl_X8_79 dX8_isSo_13 rfl rfl rfl ?_
        refine R_il4 (n := 18) C dX8_isSo_16 rfl ?_
        refine M_iald (n := 19) C dX8_isSo_18 rfl (by omega) (wSH R (by omega)) rfl ?_
        refine R_il1 (n := 20) C dX8_isSo_19 rfl ?_
        refine R_icmp_neN (tgt := 47) C dX8_isSo_20 rfl rfl (by omega) (by omega) (fun c2 => ?_) (fun c2 => ?_)
        · exact nx (by rw [decide_eq_false c2]; rfl)
        · refine R_al0 (n := 24) C dX8_isSo_23 rfl ?_
          refine M_getR (n := 27) C fl_X8_82 dX8_isSo_24 rfl rfl rfl ?_
          refine R_il4 (n := 29) C dX8_isSo_27 rfl ?_
          refine M_iald (n := 30) C dX8_isSo_29 rfl (by omega) (wSE R (by omega)) rfl ?_
          refine R_il2 (n := 31) C dX8_isSo_30 rfl ?_
          refine R_icmp_neN (tgt := 47) C dX8_isSo_31 rfl rfl (by omega) (by omega) (fun c3 => ?_) (fun c3 => ?_)
          · exact nx (by rw [decide_eq_false c3, Bool.false_and, Bool.and_false]; rfl)
          · refine R_al0 (n := 35) C dX8_isSo_34 rfl ?_
            refine M_getR (n := 38) C fl_X8_85 dX8_isSo_35 rfl rfl rfl ?_
            refine R_il4 (n := 40) C dX8_isSo_38 rfl ?_
            refine M_iald (n := 41) C dX8_isSo_40 rfl (by omega) (wSW R (by omega)) rfl ?_
            refine R_il3 (n := 42) C dX8_isSo_41 rfl ?_
            refine R_icmp_eqN (tgt := 47) C dX8_isSo_42 rfl rfl (by omega) (by omega) (fun c4 => ?_) (fun c4 => ?_)
            · exact nx (by rw [decide_eq_true c4, Bool.not_true, Bool.and_false, Bool.and_false]; rfl)
            · refine R_ic (n := 46) C dX8_isSo_45 ci_0 rfl ?_
              refine R_zret0 C CR (Nat.zero_le _) (Nat.zero_le _) dX8_isSo_46 ?_
              exact ⟨by rw [soz, alb_f c1 (by rw [decide_eq_true c2, decide_eq_true c3, decide_eq_false c4]; rfl)], rfl, rfl⟩
  refine R_ic (n := 1) C dX8_isSo_0 ci_0 rfl ?_
  refine R_is4 (n := 3) C dX8_isSo_1 rfl (Nat.le_of_ble_eq_true rfl) rfl ?_
  exact loop (sSg σ + 1) 0 (by omega) (by omega) (fun k hk => absurd hk (Nat.not_lt_zero k))
set_option maxRecDepth 20000 in
set_option maxHeartbeats 4000000 in
theorem c_isSeenLater (l : Launch) (D : va_G) (cA : Nat → ClassId) (r : Nat → Nat) {h : Hp} {σ : WS} (R : RW 1 σ h) (I : Inv σ) {k c : Nat} (hk : k < 5) (hc : c < 100) : Cn l D cA yX8_isSeenLater cX8_isSeenLater 4 (some .boolean) 0 0 0 [.ref (r 1), .int (nI k), .int (nI c)] (LY r) h (pE (some (.int (bI (laz σ k c)))) (LY r) h) := by
  refine Cn.of (lv := [some (.ref (r 1)), some (.int (nI k)), some (.int (nI c)), none]) (by decide +kernel) (Nat.le_of_ble_eq_true rfl) rfl (fun X hnm C CR => ?_)
  have n5 := I.n5
  have g6 := I.sg
  have loop : ∀ (m i : Nat), sSg σ < i + m → i ≤ sSg σ → (∀ j, j < i → (!(decide (sA σ 6 j = k) && decide (c < sA σ 7 j))) = true) → Rn X 0 0 2 [some (.ref (r 1)), some (.int (nI k)), some (.int (nI c)), some (.int (nI i))] [] (LY r) h := by
    intro m
    induction m with
    | zero => intro i a1 a2; omega
    | succ m ih =>
      intro i a1 a2 P
      refine R_il3 (n := 3) C dX8_isSeenLater_2 rfl ?_
      refine R_al0 (n := 4) C dX8_isSeenLater_3 rfl ?_
      refine M_getI (n := 7) C fl_X8_76 dX8_isSeenLater_4 rfl rfl (wSg R) rfl ?_
      refine R_icmp_geN (tgt := 38) C dX8_isSeenLater_7 rfl rfl (by omega) (by omega) (fun c1 => ?_) (fun c1 => ?_)
      · refine R_ic (n := 39) C dX8_isSeenLater_38 ci_0 rfl ?_
        refine R_zret0 C CR (Nat.zero_le _) (Nat.zero_le _) dX8_isSeenLater_39 ?_
        exact ⟨by rw [laz, alb_t (fun k hk => P k (by omega))]; rfl, rfl, rfl⟩
      · have nx : (!(decide (sA σ 6 i = k) && decide (c < sA σ 7 i))) = true → Rn X 0 0 32 [some (.ref (r 1)), some (.int (nI k)), some (.int (nI c)), some (.int (nI i))] [] (LY r) h := by
          intro q
          refine R_inc3 (n := 35) C dX8_isSeenLater_32 rfl (Nat.le_of_ble_eq_true rfl) (inc_1 _) rfl ?_
          refine R_goto (n := 2) C dX8_isSeenLater_35 rfl ?_
          exact ih (i + 1) (by omega) (by omega) (fun k hk => by
            by_cases e : k = i
            · rw [e]; exact q
            · exact P k (by omega))
        obtain ⟨s1, s2, s3⟩ := I.sgt c1
        refine R_al0 (n := 11) C dX8_isSeenLater_10 rfl ?_
        refine M_getR (n := 14) C fl_X8_79 dX8_isSeenLater_11 rfl rfl rfl ?_
        refine R_il3 (n := 15) C dX8_isSeenLater_14 rfl ?_
        refine M_iald (n := 16) C dX8_isSeenLater_15 rfl (by omega) (wSH R (by omega)) rfl ?_
        refine R_il1 (n := 17) C dX8_isSeenLater_16 rfl ?_
        refine R_icmp_neN (tgt := 32) C dX8_isSeenLater_17 rfl rfl (by omega) (by omega) (fun c2 => ?_) (fun c2 => ?_)
        · exact nx (by rw [decide_eq_false c2]; rfl)
        · refine R_al0 (n := 21) C dX8_isSeenLater_20 rfl ?_
          refine M_getR (n := 24) C fl_X8_82 dX8_isSeenLater_21 rfl rfl rfl ?_
          refine R_il3 (n := 25) C dX8_isSeenLater_24 rfl ?_
          refine M_iald (n := 26) C dX8_isSeenLater_25 rfl (by omega) (wSE R (by omega)) rfl ?_
          refine R_il2 (n := 27) C dX8_isSeenLater_26 rfl ?_
          refine R_icmp_leN (tgt := 32) C dX8_isSeenLater_27 rfl rfl (by omega) (by omega) (fun c3 => ?_) (fun c3 => ?_)
          · exact nx (by rw [decide_eq_false (show ¬ c < sA σ 7 i by omega), Bool.and_false]; rfl)
          · refine R_ic (n := 31) C dX8_isSeenLater_30 ci_1 rfl ?_
            refine R_zret1 C CR (Nat.zero_le _) (Nat.zero_le _) dX8_isSeenLater_31 ?_
            exact ⟨by rw [laz, alb_f c1 (by rw [decide_eq_true c2, decide_eq_true (show c < sA σ 7 i by omega)]; rfl)]; rfl, rfl, rfl⟩
  refine R_ic (n := 1) C dX8_isSeenLater_0 ci_0 rfl ?_
  refine R_is3 (n := 2) C dX8_isSeenLater_1 rfl (Nat.le_of_ble_eq_true rfl) rfl ?_
  exact loop (sSg σ + 1) 0 (by omega) (by omega) (fun k hk => absurd hk (Nat.not_lt_zero k))
def st1 (σ : WS) (k x : Nat) (s : Nat × Nat) : Nat × Nat := if x < 6 then (if (sKn σ).testBit x = true ∧ qz σ x k s.1 ≤ s.2 then (tz σ k s.1 (qz σ x k s.1), s.2 - qz σ x k s.1) else s) else if x = 6 then ((s.1 + 2) % 4, s.2) else if x = 7 then (s.1, sA σ 2 k) else s
def fitz (σ : WS) (k : Nat) : List Nat → Nat × Nat → Nat → Bool
  | [], s, c => soz σ k c s.1 && !laz σ k c
  | x :: t, s, c => soz σ k c s.1 && fitz σ k t (st1 σ k x s) (c + 1)
theorem fitz_f {σ : WS} {k : Nat} {t : List Nat} {s : Nat × Nat} {c : Nat} (h : soz σ k c s.1 = false) : fitz σ k t s c = false := by
  cases t <;> simp [fitz, h]
set_option maxRecDepth 20000 in
set_option maxHeartbeats 4000000 in
theorem c_fits (l : Launch) (D : va_G) (cA : Nat → ClassId) (r : Nat → Nat) {h : Hp} {σ : WS} (R : RW 1 σ h) (I : Inv σ) {p : PS} (P : RP p h) (J : InvP p) (V : evS (sN σ) p.2 p.1 0 none = none) {k w : Nat} (hk : k < 5) (hw : w < 4) : Cn l D cA yX8_fits cX8_fits 11 (some .boolean) 2 0 0 [.ref (r 1), .ref (r 13), .int (nI k), .int (nI w)] (LY r) h (pE (some (.int (bI (fitz σ k (evL p.2 p.1 0 none) (w, sA σ 1 k) 0)))) (LY r) h) := by
  refine Cn.of (lv := [some (.ref (r 1)), some (.ref (r 13)), some (.int (nI k)), some (.int (nI w)), none, none, none, none, none, none, none]) (by decide +kernel) (Nat.le_of_ble_eq_true rfl) rfl (fun X hnm C CR => ?_)
  have n5 := I.n5
  have j0 := J.1
  obtain ⟨Z, hZ⟩ : ∃ Z, fitz σ k (evL p.2 p.1 0 none) (w, sA σ 1 k) 0 = Z := ⟨_, rfl⟩
  rw [hZ] at CR
  have off : ∀ (o4 o5 o6 o8 o9 o10 : Option Value), Z = false → Rn X 0 0 172 [some (.ref (r 1)), some (.ref (r 13)), some (.int (nI k)), some (.int (nI w)), o4, o5, o6, some (.int (bI false)), o8, o9, o10] [] (LY r) h := by
    intro o4 o5 o6 o8 o9 o10 z
    refine R_il7 (n := 174) C dX8_fits_172 rfl ?_
    refine R_if_eqB (tgt := 191) C dX8_fits_174 rfl rfl (fun c1 => ?_) (fun c1 => ?_)
    · refine R_ic (n := 192) C dX8_fits_191 ci_0 rfl ?_
      refine R_zret0 C CR (Nat.zero_le _) (Nat.zero_le _) dX8_fits_192 ?_
      exact ⟨by rw [z], rfl, rfl⟩
    · cases c1
  have fin : ∀ (l g c : Nat) (o4 o5 o8 o9 o10 : Option Value), c < 100 → Z = fitz σ k [] (l, g) c → Rn X 0 0 172 [some (.ref (r 1)), some (.ref (r 13)), some (.int (nI k)), some (.int (nI w)), o4, o5, some (.int (nI c)), some (.int (bI (soz σ k c l))), o8, o9, o10] [] (LY r) h := by
    intro l g c o4 o5 o8 o9 o10 hc z
    rw [fitz] at z
    by_cases e : soz σ k c l = true
    · rw [e] at z ⊢
      refine R_il7 (n := 174) C dX8_fits_172 rfl ?_
      refine R_if_eqB (tgt := 191) C dX8_fits_174 rfl rfl (fun c1 => ?_) (fun c1 => ?_)
      · cases c1
      · refine R_al0 (n := 178) C dX8_fits_177 rfl ?_
        refine R_il2 (n := 179) C dX8_fits_178 rfl ?_
        refine R_il6 (n := 181) C dX8_fits_179 rfl ?_
        refine R_callS (n := 184) C (c_isSeenLater _ _ _ r R I hk hc) mw_X8_isSeenLater ml_X8_72 sv_X8_isSeenLater dX8_fits_181 rfl rfl (Nat.le_of_ble_eq_true rfl) ⟨Nat.le_of_ble_eq_true rfl, Nat.le_of_ble_eq_true rfl⟩ ⟨Nat.le_refl _, Nat.le_refl _⟩ rfl (pEs ?_)
        refine R_if_neB (tgt := 191) C dX8_fits_184 rfl rfl (fun c2 => ?_) (fun c2 => ?_)
        · refine R_ic (n := 192) C dX8_fits_191 ci_0 rfl ?_
          refine R_zret0 C CR (Nat.zero_le _) (Nat.zero_le _) dX8_fits_192 ?_
          exact ⟨by rw [z, c2]; rfl, rfl, rfl⟩
        · refine R_ic (n := 188) C dX8_fits_187 ci_1 rfl ?_
          refine R_goto (n := 192) C dX8_fits_188 rfl ?_
          refine R_zret1 C CR (Nat.zero_le _) (Nat.zero_le _) dX8_fits_192 ?_
          exact ⟨by rw [z, c2]; rfl, rfl, rfl⟩
    · rw [Bool.not_eq_true] at e
      rw [e]
      exact off _ _ _ _ _ _ (by rw [z, e]; rfl)
  have loop : ∀ (q m i l g c : Nat) (o9 o10 : Option Value), m ≤ q → i + m = p.1 → c ≤ i → l < 4 → g ≤ 30 → evS (sN σ) p.2 m i none = none → Z = fitz σ k (evL p.2 m i none) (l, g) c → Rn X 0 0 28 [some (.ref (r 1)), some (.ref (r 13)), some (.int (nI k)), some (.int (nI w)), some (.int (nI l)), some (.int (nI g)), some (.int (nI c)), some (.int (bI (soz σ k c l))), some (.int (nI i)), o9, o10] [] (LY r) h := by
    intro q
    induction q with
    | zero =>
      intro m i l g c o9 o10 a1 a2 a3 hl hg V1 hz
      obtain rfl : m = 0 := by omega
      refine R_il8 (n := 30) C dX8_fits_28 rfl ?_
      refine R_al1 (n := 31) C dX8_fits_30 rfl ?_
      refine M_getI (n := 34) C fl_X8_47 dX8_fits_31 rfl rfl P.1 rfl ?_
      refine R_icmp_geN (tgt := 172) C dX8_fits_34 rfl rfl (by omega) (by omega) (fun c1 => ?_) (fun c1 => ?_)
      · exact fin l g c _ _ _ _ _ (by omega) hz
      · omega
    | succ q ih =>
      intro m i l g c o9 o10 a1 a2 a3 hl hg V1 hz
      refine R_il8 (n := 30) C dX8_fits_28 rfl ?_
      refine R_al1 (n := 31) C dX8_fits_30 rfl ?_
      refine M_getI (n := 34) C fl_X8_47 dX8_fits_31 rfl rfl P.1 rfl ?_
      refine R_icmp_geN (tgt := 172) C dX8_fits_34 rfl rfl (by omega) (by omega) (fun c1 => ?_) (fun c1 => ?_)
      · obtain rfl : m = 0 := by omega
        exact fin l g c _ _ _ _ _ (by omega) hz
      · obtain ⟨m1, rfl⟩ : ∃ m1, m = m1 + 1 := ⟨m - 1, by omega⟩
        by_cases e : soz σ k c l = true
        · rw [e]
          refine R_il7 (n := 39) C dX8_fits_37 rfl ?_
          refine R_if_eqB (tgt := 172) C dX8_fits_39 rfl rfl (fun c0 => ?_) (fun c0 => ?_)
          · cases c0
          · clear c0
            have s1 := J.2 i (by omega)
            have nx : ∀ (m2 i2 l2 g2 : Nat) (o9 o10 : Option Value), m2 ≤ q → i2 + 1 + m2 = p.1 → c ≤ i2 → l2 < 4 → g2 ≤ 30 → evS (sN σ) p.2 m2 (i2 + 1) none = none → Z = fitz σ k (evL p.2 m2 (i2 + 1) none) (l2, g2) (c + 1) → Rn X 0 0 152 [some (.ref (r 1)), some (.ref (r 13)), some (.int (nI k)), some (.int (nI w)), some (.int (nI l2)), some (.int (nI g2)), some (.int (nI c)), some (.int (bI true)), some (.int (nI i2)), o9, o10] [] (LY r) h := by
              intro m2 i2 l2 g2 o9 o10 b1 b2 b3 b4 b5 b6 b7
              refine R_inc6 (n := 155) C dX8_fits_152 rfl (Nat.le_of_ble_eq_true rfl) (inc_1 _) rfl ?_
              refine R_al0 (n := 156) C dX8_fits_155 rfl ?_
              refine R_il2 (n := 157) C dX8_fits_156 rfl ?_
              refine R_il6 (n := 159) C dX8_fits_157 rfl ?_
              refine R_il4 (n := 161) C dX8_fits_159 rfl ?_
              refine R_callS (n := 164) C (c_isSo _ _ _ r R I hk (by omega) b4) mw_X8_isSo ml_X8_43 sv_X8_isSo dX8_fits_161 rfl rfl (Nat.le_of_ble_eq_true rfl) ⟨Nat.le_of_ble_eq_true rfl, Nat.le_of_ble_eq_true rfl⟩ ⟨Nat.le_refl _, Nat.le_refl _⟩ rfl (pEs ?_)
              refine R_is7 (n := 166) C dX8_fits_164 rfl (Nat.le_of_ble_eq_true rfl) rfl ?_
              refine R_inc8 (n := 169) C dX8_fits_166 rfl (Nat.le_of_ble_eq_true rfl) (inc_1 _) rfl ?_
              refine R_goto (n := 28) C dX8_fits_169 rfl ?_
              exact ih m2 (i2 + 1) l2 g2 (c + 1) _ _ b1 (by omega) (by omega) b4 b5 b6 b7
            refine R_al1 (n := 43) C dX8_fits_42 rfl ?_
            refine M_getR (n := 46) C fl_X8_52 dX8_fits_43 rfl rfl rfl ?_
            refine R_il8 (n := 48) C dX8_fits_46 rfl ?_
            refine M_iald (n := 49) C dX8_fits_48 rfl (by omega) (P.2 i (by omega)) rfl ?_
            refine R_is9 (n := 51) C dX8_fits_49 rfl (Nat.le_of_ble_eq_true rfl) rfl ?_
            refine R_il9 (n := 53) C dX8_fits_51 rfl ?_
            refine R_callSN (n := 56) C (c_isDigit _ _ _ r (by omega)) mw_X10_isDigit mn_X8_55 sv_X10_isDigit dX8_fits_53 rfl rfl (Nat.le_of_ble_eq_true rfl) ⟨Nat.le_of_ble_eq_true rfl, Nat.le_of_ble_eq_true rfl⟩ ⟨Nat.le_refl _, Nat.le_refl _⟩ rfl (pEs ?_)
            refine R_if_eqB (tgt := 65) C dX8_fits_56 rfl rfl (fun c2 => ?_) (fun c2 => ?_)
            · obtain ⟨v1, v2⟩ := evS_ot V1 c2
              have hz' : Z = fitz σ k (evL p.2 m1 (i + 1) none) (st1 σ k (sgE (p.2 i)) (l, g)) (c + 1) := by
                rw [hz]
                conv => lhs; unfold evL
                rw [if_neg (by rw [c2]; decide), fitz, e, Bool.true_and]
              refine R_il9 (n := 67) C dX8_fits_65 rfl ?_
              refine R_bp (n := 69) C dX8_fits_67 cb_42 rfl ?_
              refine R_icmp_neN (tgt := 83) C dX8_fits_69 rfl rfl (by omega) (by omega) (fun c3 => ?_) (fun c3 => ?_)
              · refine R_il9 (n := 85) C dX8_fits_83 rfl ?_
                refine R_bp (n := 87) C dX8_fits_85 cb_46 rfl ?_
                refine R_icmp_neN (tgt := 101) C dX8_fits_87 rfl rfl (by omega) (by omega) (fun c4 => ?_) (fun c4 => ?_)
                · have h97 : 97 ≤ p.2 i ∧ p.2 i ≤ 102 := by
                    rcases v1 with a | a | a
                    · exact absurd a c3
                    · exact absurd a c4
                    · simp [isLt] at a; omega
                  have e1 : sgE (p.2 i) = p.2 i - 97 := by rw [sgE, if_neg (by omega), if_neg (by omega)]
                  rw [e1] at hz'
                  have q4 := qz_le (σ := σ) I (w := p.2 i - 97) (k := k) (l := l) (by omega) hk
                  refine R_al0 (n := 102) C dX8_fits_101 rfl ?_
                  refine R_il9 (n := 104) C dX8_fits_102 rfl ?_
                  refine R_bp (n := 106) C dX8_fits_104 cb_97 rfl ?_
                  refine R_isubN (n := 107) C dX8_fits_106 (by omega) rfl ?_
                  refine M_callV (n := 110) C (c_knows _ _ _ r R I _) mw_X9_knows ml_X8_62 iv_X9_knows dX8_fits_107 rfl rfl rfl rfl (Nat.le_of_ble_eq_true rfl) ⟨Nat.le_of_ble_eq_true rfl, Nat.le_of_ble_eq_true rfl⟩ ⟨Nat.le_refl _, Nat.le_refl _⟩ rfl (pEs ?_)
                  rw [kwz_n (by omega)]
                  refine R_if_eqB (tgt := 152) C dX8_fits_110 rfl rfl (fun c5 => ?_) (fun c5 => ?_)
                  · refine nx m1 i l g _ _ (by omega) (by omega) a3 hl hg v2 ?_
                    rw [hz', st1, if_pos (by omega), if_neg (by rw [c5]; simp)]
                  · refine R_al0 (n := 114) C dX8_fits_113 rfl ?_
                    refine R_il9 (n := 116) C dX8_fits_114 rfl ?_
                    refine R_bp (n := 118) C dX8_fits_116 cb_97 rfl ?_
                    refine R_isubN (n := 119) C dX8_fits_118 (by omega) rfl ?_
                    refine R_il2 (n := 120) C dX8_fits_119 rfl ?_
                    refine R_il4 (n := 122) C dX8_fits_120 rfl ?_
                    refine M_callV (n := 125) C (c_quarters _ _ _ r R I (by omega) hk hl) mw_X9_quarters ml_X8_65 iv_X9_quarters dX8_fits_122 rfl rfl rfl rfl (Nat.le_of_ble_eq_true rfl) ⟨Nat.le_of_ble_eq_true rfl, Nat.le_of_ble_eq_true rfl⟩ ⟨Nat.le_refl _, Nat.le_refl _⟩ rfl (pEs ?_)
                    refine R_is10 (n := 127) C dX8_fits_125 rfl (Nat.le_of_ble_eq_true rfl) rfl ?_
                    refine R_il10 (n := 129) C dX8_fits_127 rfl ?_
                    refine R_il5 (n := 131) C dX8_fits_129 rfl ?_
                    refine R_icmp_gtN (tgt := 152) C dX8_fits_131 rfl rfl (by omega) (by omega) (fun c6 => ?_) (fun c6 => ?_)
                    · refine nx m1 i l g _ _ (by omega) (by omega) a3 hl hg v2 ?_
                      rw [hz', st1, if_pos (by omega), if_neg (by simp only []; omega)]
                    · refine R_al0 (n := 135) C dX8_fits_134 rfl ?_
                      refine R_il2 (n := 136) C dX8_fits_135 rfl ?_
                      refine R_il4 (n := 138) C dX8_fits_136 rfl ?_
                      refine R_il10 (n := 140) C dX8_fits_138 rfl ?_
                      refine M_callV (n := 143) C (c_turned _ _ _ r R I hk hl q4) mw_X9_turned ml_X8_69 iv_X9_turned dX8_fits_140 rfl rfl rfl rfl (Nat.le_of_ble_eq_true rfl) ⟨Nat.le_of_ble_eq_true rfl, Nat.le_of_ble_eq_true rfl⟩ ⟨Nat.le_refl _, Nat.le_refl _⟩ rfl (pEs ?_)
                      refine R_is4 (n := 145) C dX8_fits_143 rfl (Nat.le_of_ble_eq_true rfl) rfl ?_
                      refine R_il5 (n := 147) C dX8_fits_145 rfl ?_
                      refine R_il10 (n := 149) C dX8_fits_147 rfl ?_
                      refine R_isubN (n := 150) C dX8_fits_149 (by omega) rfl ?_
                      refine R_is5 (n := 152) C dX8_fits_150 rfl (Nat.le_of_ble_eq_true rfl) rfl ?_
                      refine nx m1 i _ _ _ _ (by omega) (by omega) a3 tz_lt (by omega) v2 ?_
                      rw [hz', st1, if_pos (by omega), if_pos ⟨c5, by simp only []; omega⟩]
                · refine R_al0 (n := 91) C dX8_fits_90 rfl ?_
                  refine M_getR (n := 94) C fl_X8_59 dX8_fits_91 rfl rfl rfl ?_
                  refine R_il2 (n := 95) C dX8_fits_94 rfl ?_
                  refine M_iald (n := 96) C dX8_fits_95 rfl hk (wMo R hk) rfl ?_
                  refine R_is5 (n := 98) C dX8_fits_96 rfl (Nat.le_of_ble_eq_true rfl) rfl ?_
                  have mo := I.mo hk
                  refine R_goto (n := 152) C dX8_fits_98 rfl ?_
                  refine nx m1 i l _ _ _ (by omega) (by omega) a3 hl mo v2 ?_
                  rw [hz', c4]
                  rfl
              · refine R_il4 (n := 74) C dX8_fits_72 rfl ?_
                refine R_ic (n := 75) C dX8_fits_74 ci_2 rfl ?_
                refine R_iaddN (n := 76) C dX8_fits_75 rfl ?_
                refine R_ic (n := 77) C dX8_fits_76 ci_3 rfl ?_
                refine R_iandN (n := 78) C dX8_fits_77 rfl ?_
                refine R_eq (congrArg nI (and3 _)) ?_
                refine R_is4 (n := 80) C dX8_fits_78 rfl (Nat.le_of_ble_eq_true rfl) rfl ?_
                refine R_goto (n := 152) C dX8_fits_80 rfl ?_
                refine nx m1 i _ g _ _ (by omega) (by omega) a3 (by omega) hg v2 ?_
                rw [hz', c3]
                rfl
            · obtain ⟨m2, rfl, v1, v2, v3, v4⟩ := evS_dg V1 c2
              refine R_inc8 (n := 62) C dX8_fits_59 rfl (Nat.le_of_ble_eq_true rfl) (inc_1 _) rfl ?_
              refine R_goto (n := 152) C dX8_fits_62 rfl ?_
              refine nx m2 (i + 1) l g _ _ (by omega) (by omega) (by omega) hl hg v4 ?_
              rw [hz]
              conv => lhs; unfold evL
              rw [if_pos c2]
              conv => lhs; unfold evL
              rw [fitz, e, Bool.true_and, st1, if_neg (by omega), if_neg (by omega), if_neg (by omega)]
        · rw [Bool.not_eq_true] at e
          rw [e]
          refine R_il7 (n := 39) C dX8_fits_37 rfl ?_
          refine R_if_eqB (tgt := 172) C dX8_fits_39 rfl rfl (fun c0 => ?_) (fun c0 => ?_)
          · exact off _ _ _ _ _ _ (by rw [hz, fitz_f e])
          · cases c0
  have lg := I.lg hk
  refine R_il3 (n := 1) C dX8_fits_0 rfl ?_
  refine R_is4 (n := 3) C dX8_fits_1 rfl (Nat.le_of_ble_eq_true rfl) rfl ?_
  refine R_al0 (n := 4) C dX8_fits_3 rfl ?_
  refine M_getR (n := 7) C fl_X8_40 dX8_fits_4 rfl rfl rfl ?_
  refine R_il2 (n := 8) C dX8_fits_7 rfl ?_
  refine M_iald (n := 9) C dX8_fits_8 rfl hk (wLg R hk) rfl ?_
  refine R_is5 (n := 11) C dX8_fits_9 rfl (Nat.le_of_ble_eq_true rfl) rfl ?_
  refine R_ic (n := 12) C dX8_fits_11 ci_0 rfl ?_
  refine R_is6 (n := 14) C dX8_fits_12 rfl (Nat.le_of_ble_eq_true rfl) rfl ?_
  refine R_al0 (n := 15) C dX8_fits_14 rfl ?_
  refine R_il2 (n := 16) C dX8_fits_15 rfl ?_
  refine R_il6 (n := 18) C dX8_fits_16 rfl ?_
  refine R_il4 (n := 20) C dX8_fits_18 rfl ?_
  refine R_callS (n := 23) C (c_isSo _ _ _ r R I hk (by omega) hw) mw_X8_isSo ml_X8_43 sv_X8_isSo dX8_fits_20 rfl rfl (Nat.le_of_ble_eq_true rfl) ⟨Nat.le_of_ble_eq_true rfl, Nat.le_of_ble_eq_true rfl⟩ ⟨Nat.le_refl _, Nat.le_refl _⟩ rfl (pEs ?_)
  refine R_is7 (n := 25) C dX8_fits_23 rfl (Nat.le_of_ble_eq_true rfl) rfl ?_
  refine R_ic (n := 26) C dX8_fits_25 ci_0 rfl ?_
  refine R_is8 (n := 28) C dX8_fits_26 rfl (Nat.le_of_ble_eq_true rfl) rfl ?_
  exact loop p.1 p.1 0 w (sA σ 1 k) 0 none none (by omega) (by omega) (by omega) hw lg V hZ.symm
def wmz (σ : WS) (ev : List Nat) (k : Nat) : Nat → Nat
  | 0 => 0
  | w + 1 => if fitz σ k ev (w, sA σ 1 k) 0 = true then wmz σ ev k w ||| 2 ^ w else wmz σ ev k w
theorem wmz_lt {σ : WS} {ev : List Nat} {k : Nat} : ∀ w, wmz σ ev k w < 2 ^ w
  | 0 => Nat.one_pos
  | w + 1 => by
    have := wmz_lt (σ := σ) (ev := ev) (k := k) w
    have p : 2 ^ (w + 1) = 2 ^ w * 2 := Nat.pow_succ ..
    rw [wmz]
    split
    · exact Nat.or_lt_two_pow (by omega) (by omega)
    · omega
def lwz (m : Nat) : Nat := if m % 2 = 1 then 0 else if m / 2 % 2 = 1 then 1 else if m / 4 % 2 = 1 then 2 else if m / 8 % 2 = 1 then 3 else 0
theorem lwz_ok : ∀ m, m < 16 → ntz (nI m) &&& nI 3 = nI (lwz m) := by decide +kernel
theorem lwz_lt : ∀ m, m < 16 → lwz m < 4 := by decide +kernel
theorem pcz_4 : ∀ m, m < 16 → pcz m ≤ 4 := by decide +kernel
def trM (σ : WS) (ev : List Nat) : Nat → Nat
  | 0 => 1
  | k + 1 => trM σ ev k * pcz (wmz σ ev k 4)
def trL (σ : WS) (ev : List Nat) : Nat → Nat
  | 0 => 0
  | k + 1 => trL σ ev k ||| lwz (wmz σ ev k 4) * 2 ^ (2 * k)
theorem trM_le {σ : WS} {ev : List Nat} : ∀ k, trM σ ev k ≤ 4 ^ k
  | 0 => Nat.le_refl 1
  | k + 1 => by
    rw [trM, Nat.pow_succ]
    exact Nat.mul_le_mul (trM_le k) (pcz_4 _ (wmz_lt 4))
theorem trL_lt {σ : WS} {ev : List Nat} : ∀ k, trL σ ev k < 2 ^ (2 * k)
  | 0 => Nat.one_pos
  | k + 1 => by
    have h1 := trL_lt (σ := σ) (ev := ev) k
    have h2 := lwz_lt _ (wmz_lt (σ := σ) (ev := ev) (k := k) 4)
    have e : 2 ^ (2 * (k + 1)) = 4 * 2 ^ (2 * k) := by rw [show 2 * (k + 1) = 2 * k + 2 by omega, Nat.pow_add]; omega
    rw [trL]
    refine Nat.or_lt_two_pow (by omega) ?_
    rw [e]
    exact Nat.mul_lt_mul_of_pos_right h2 (Nat.two_pow_pos _)
def RT_ (σ : WS) (ev : List Nat) (k : Nat) (h : Hp) : Prop := h 51 0 = nI (trM σ ev k) ∧ h 51 1 = nI (trL σ ev k) ∧ ∀ j, j < k → h 52 j = nI (wmz σ ev j 4)
set_option maxRecDepth 20000 in
set_option maxHeartbeats 4000000 in
theorem c_follow (l : Launch) (D : va_G) (cA : Nat → ClassId) (r : Nat → Nat) {h : Hp} {σ : WS} (R : RW 1 σ h) (I : Inv σ) {p : PS} (P : RP p h) (J : InvP p) (V : evS (sN σ) p.2 p.1 0 none = none) : Cn l D cA yX8_follow cX8_follow 5 none 3 0 0 [.ref (r 51), .ref (r 1), .ref (r 13)] (LY r) h (pG none (LY r) (fun h' => (h' 51 0 = nI (trM σ (evL p.2 p.1 0 none) (sN σ)) ∧ h' 51 1 = (if trM σ (evL p.2 p.1 0 none) (sN σ) = 0 then -6 else nI (trL σ (evL p.2 p.1 0 none) (sN σ))) ∧ ∀ j, j < sN σ → h' 52 j = nI (wmz σ (evL p.2 p.1 0 none) j 4)) ∧ FrS h h')) := by
  refine Cn.of (lv := [some (.ref (r 51)), some (.ref (r 1)), some (.ref (r 13)), none, none]) (by decide +kernel) (Nat.le_of_ble_eq_true rfl) rfl (fun X hnm C CR => ?_)
  have n5 := I.n5
  obtain ⟨ev, hev⟩ : ∃ ev, evL p.2 p.1 0 none = ev := ⟨_, rfl⟩
  rw [hev] at CR
  have inner : ∀ (k : Nat), k < sN σ → (∀ (h2 : Hp) (o : Option Value), RT_ σ ev k h2 → h2 52 k = nI (wmz σ ev k 4) → FrS h h2 → Rn X 0 0 66 [some (.ref (r 51)), some (.ref (r 1)), some (.ref (r 13)), some (.int (nI k)), o] [] (LY r) h2) → ∀ (m w : Nat) (hh : Hp), 4 < w + m → w ≤ 4 → RT_ σ ev k hh → hh 52 k = nI (wmz σ ev k w) → FrS h hh → Rn X 0 0 30 [some (.ref (r 51)), some (.ref (r 1)), some (.ref (r 13)), some (.int (nI k)), some (.int (nI w))] [] (LY r) hh := by
    intro k hk out m
    induction m with
    | zero => intro w hh a1 a2; omega
    | succ m ih =>
      intro w hh a1 a2 T e F
      have R1 := F.rw R
      have P1 := F.rp P
      refine R_il4 (n := 32) C dX8_follow_30 rfl ?_
      refine R_ic (n := 33) C dX8_follow_32 ci_4 rfl ?_
      refine R_icmp_geN (tgt := 66) C dX8_follow_33 rfl rfl (by omega) (by omega) (fun c1 => ?_) (fun c1 => ?_)
      · obtain rfl : w = 4 := by omega
        exact out hh _ T e F
      · refine R_al1 (n := 37) C dX8_follow_36 rfl ?_
        refine R_al2 (n := 38) C dX8_follow_37 rfl ?_
        refine R_il3 (n := 39) C dX8_follow_38 rfl ?_
        refine R_il4 (n := 41) C dX8_follow_39 rfl ?_
        refine R_callS (n := 44) C (c_fits _ _ _ r R1 I P1 J V (by omega) c1) mw_X8_fits ml_X8_27 sv_X8_fits dX8_follow_41 rfl rfl (Nat.le_of_ble_eq_true rfl) ⟨Nat.le_of_ble_eq_true rfl, Nat.le_of_ble_eq_true rfl⟩ ⟨Nat.le_refl _, Nat.le_refl _⟩ rfl (pEs ?_)
        rw [hev]
        refine R_if_eqB (tgt := 60) C dX8_follow_44 rfl rfl (fun c2 => ?_) (fun c2 => ?_)
        · refine R_inc4 (n := 63) C dX8_follow_60 rfl (Nat.le_of_ble_eq_true rfl) (inc_1 _) rfl ?_
          refine R_goto (n := 30) C dX8_follow_63 rfl ?_
          refine ih (w + 1) hh (by omega) (by omega) T ?_ F
          rw [e, wmz, if_neg (by rw [c2]; decide)]
        · have b1 : 1 * 2 ^ w < 2 ^ 32 := Nat.lt_of_le_of_lt (Nat.mul_le_mul_left 1 (Nat.pow_le_pow_right (by decide) (show w ≤ 4 by omega))) (by decide)
          refine R_al0 (n := 48) C dX8_follow_47 rfl ?_
          refine M_getR (n := 51) C fl_X8_9 dX8_follow_48 rfl rfl rfl ?_
          refine R_il3 (n := 52) C dX8_follow_51 rfl ?_
          refine R_dup2 (n := 53) C dX8_follow_52 rfl rfl rfl ?_
          refine M_iald (n := 54) C dX8_follow_53 rfl (by omega) e rfl ?_
          refine R_ic (n := 55) C dX8_follow_54 ci_1 rfl ?_
          refine R_il4 (n := 57) C dX8_follow_55 rfl ?_
          refine R_ishlN (n := 58) C dX8_follow_57 (by omega) b1 rfl ?_
          refine R_iorN (n := 59) C dX8_follow_58 rfl ?_
          refine M_iast (n := 60) C dX8_follow_59 rfl (by omega) rfl ?_
          rw [Nat.one_mul]
          refine R_inc4 (n := 63) C dX8_follow_60 rfl (Nat.le_of_ble_eq_true rfl) (inc_1 _) rfl ?_
          refine R_goto (n := 30) C dX8_follow_63 rfl ?_
          refine ih (w + 1) _ (by omega) (by omega) ⟨up2_get (by decide) T.1, up2_get (by decide) T.2.1, fun j hj => up2_gne (by omega) (T.2.2 j hj)⟩ ?_ (F.up (by decide) (by decide))
          rw [up2_same, wmz, if_pos c2]
  have outer : ∀ (m k : Nat) (hh : Hp) (o4 : Option Value), sN σ < k + m → k ≤ sN σ → RT_ σ ev k hh → FrS h hh → Rn X 0 0 12 [some (.ref (r 51)), some (.ref (r 1)), some (.ref (r 13)), some (.int (nI k)), o4] [] (LY r) hh := by
    intro m
    induction m with
    | zero => intro k hh o4 a1 a2; omega
    | succ m ih =>
      intro k hh o4 a1 a2 T F
      have R1 := F.rw R
      have tl : trM σ ev k ≤ 4 ^ 5 := Nat.le_trans (trM_le k) (Nat.pow_le_pow_right (by decide) (by omega))
      have tl' : trM σ ev k ≤ 1024 := tl
      refine R_il3 (n := 13) C dX8_follow_12 rfl ?_
      refine R_al1 (n := 14) C dX8_follow_13 rfl ?_
      refine M_getI (n := 17) C fl_X8_22 dX8_follow_14 rfl rfl (wN R1) rfl ?_
      refine R_icmp_geN (tgt := 114) C dX8_follow_17 rfl rfl (by omega) (by omega) (fun c1 => ?_) (fun c1 => ?_)
      · obtain rfl : k = sN σ := by omega
        refine R_al0 (n := 115) C dX8_follow_114 rfl ?_
        refine M_getI (n := 118) C fl_X8_15 dX8_follow_115 rfl rfl T.1 rfl ?_
        refine R_if_neN (tgt := 127) C dX8_follow_118 rfl rfl (by omega) (fun c2 => ?_) (fun c2 => ?_)
        · refine R_vret C CR (Nat.zero_le _) (Nat.zero_le _) dX8_follow_127 ?_
          refine ⟨rfl, rfl, ⟨T.1, by rw [if_neg c2]; exact T.2.1, T.2.2⟩, F⟩
        · refine R_al0 (n := 122) C dX8_follow_121 rfl ?_
          refine R_bp (n := 124) C dX8_follow_122 cb_m6 rfl ?_
          refine M_putI (n := 127) C fl_X8_19 dX8_follow_124 rfl rfl rfl rfl rfl ?_
          refine R_vret C CR (Nat.zero_le _) (Nat.zero_le _) dX8_follow_127 ?_
          refine ⟨rfl, rfl, ⟨up2_gne (by decide) T.1, by rw [if_pos c2, up2_same], fun j hj => up2_get (by decide) (T.2.2 j hj)⟩, F.up (by decide) (by decide)⟩
      · refine R_al0 (n := 21) C dX8_follow_20 rfl ?_
        refine M_getR (n := 24) C fl_X8_9 dX8_follow_21 rfl rfl rfl ?_
        refine R_il3 (n := 25) C dX8_follow_24 rfl ?_
        refine R_ic (n := 26) C dX8_follow_25 ci_0 rfl ?_
        refine M_iast (n := 27) C dX8_follow_26 rfl (by omega) rfl ?_
        refine R_ic (n := 28) C dX8_follow_27 ci_0 rfl ?_
        refine R_is4 (n := 30) C dX8_follow_28 rfl (Nat.le_of_ble_eq_true rfl) rfl ?_
        refine inner k c1 (fun h2 o T2 e2 F2 => ?_) 5 0 _ (by omega) (by omega) ⟨up2_get (by decide) T.1, up2_get (by decide) T.2.1, fun j hj => up2_gne (by omega) (T.2.2 j hj)⟩ up2_same (F.up (by decide) (by decide))
        have w16 : wmz σ ev k 4 < 16 := wmz_lt 4
        have lw := lwz_lt _ w16
        have pc4 := pcz_4 _ w16
        have pm : trM σ ev k * pcz (wmz σ ev k 4) ≤ 1024 * 4 := Nat.mul_le_mul tl' pc4
        have b2 : lwz (wmz σ ev k 4) * 2 ^ (2 * k) < 2 ^ 32 := Nat.lt_of_le_of_lt (Nat.mul_le_mul (show _ ≤ 3 by omega) (Nat.pow_le_pow_right (by decide) (show 2 * k ≤ 8 by omega))) (by decide)
        refine R_al0 (n := 67) C dX8_follow_66 rfl ?_
        refine R_dup (n := 68) C dX8_follow_67 rfl rfl ?_
        refine M_getI (n := 71) C fl_X8_15 dX8_follow_68 rfl rfl T2.1 rfl ?_
        refine R_al0 (n := 72) C dX8_follow_71 rfl ?_
        refine M_getR (n := 75) C fl_X8_9 dX8_follow_72 rfl rfl rfl ?_
        refine R_il3 (n := 76) C dX8_follow_75 rfl ?_
        refine M_iald (n := 77) C dX8_follow_76 rfl (by omega) e2 rfl ?_
        refine R_callS (n := 80) C (c_bitCount _ _ _ r (by omega)) mw_J6_bitCount_0f7a4 ml_X8_31 sv_J6_bitCount_0f7a4 dX8_follow_77 rfl rfl (Nat.le_of_ble_eq_true rfl) ⟨Nat.le_of_ble_eq_true rfl, Nat.le_of_ble_eq_true rfl⟩ ⟨Nat.le_refl _, Nat.le_refl _⟩ rfl (pEs ?_)
        refine R_imulN (n := 81) C dX8_follow_80 rfl ?_
        refine M_putI (n := 84) C fl_X8_15 dX8_follow_81 rfl rfl rfl rfl rfl ?_
        refine R_al0 (n := 85) C dX8_follow_84 rfl ?_
        refine R_dup (n := 86) C dX8_follow_85 rfl rfl ?_
        refine M_getI (n := 89) C fl_X8_19 dX8_follow_86 rfl rfl (up2_gne (by decide) T2.2.1) rfl ?_
        refine R_al0 (n := 90) C dX8_follow_89 rfl ?_
        refine M_getR (n := 93) C fl_X8_9 dX8_follow_90 rfl rfl rfl ?_
        refine R_il3 (n := 94) C dX8_follow_93 rfl ?_
        refine M_iald (n := 95) C dX8_follow_94 rfl (by omega) (up2_get (by decide) e2) rfl ?_
        refine R_callS (n := 98) C (c_ntz _ _ _ r _) mw_J6_numberOfTrailingZeros_0f7a4 ml_X8_37 sv_J6_numberOfTrailingZeros_0f7a4 dX8_follow_95 rfl rfl (Nat.le_of_ble_eq_true rfl) ⟨Nat.le_of_ble_eq_true rfl, Nat.le_of_ble_eq_true rfl⟩ ⟨Nat.le_refl _, Nat.le_refl _⟩ rfl (pEs ?_)
        refine R_ic (n := 99) C dX8_follow_98 ci_3 rfl ?_
        refine R_iand (n := 100) C dX8_follow_99 rfl ?_
        rw [lwz_ok _ w16]
        refine R_ic (n := 101) C dX8_follow_100 ci_2 rfl ?_
        refine R_il3 (n := 102) C dX8_follow_101 rfl ?_
        refine R_imulN (n := 103) C dX8_follow_102 rfl ?_
        refine R_ishlN (n := 104) C dX8_follow_103 (by omega) b2 rfl ?_
        refine R_iorN (n := 105) C dX8_follow_104 rfl ?_
        refine M_putI (n := 108) C fl_X8_19 dX8_follow_105 rfl rfl rfl rfl rfl ?_
        refine R_inc3 (n := 111) C dX8_follow_108 rfl (Nat.le_of_ble_eq_true rfl) (inc_1 _) rfl ?_
        refine R_goto (n := 12) C dX8_follow_111 rfl ?_
        refine ih (k + 1) _ _ (by omega) (by omega) ⟨up2_gne (by decide) up2_same, up2_same, fun j hj => ?_⟩ ((F2.up (by decide) (by decide)).up (by decide) (by decide))
        rw [up2_row (by decide), up2_row (by decide)]
        by_cases e : j = k
        · rw [e]; exact e2
        · exact T2.2.2 j (by omega)
  refine R_al0 (n := 1) C dX8_follow_0 rfl ?_
  refine R_ic (n := 2) C dX8_follow_1 ci_1 rfl ?_
  refine M_putI (n := 5) C fl_X8_15 dX8_follow_2 rfl rfl rfl rfl rfl ?_
  refine R_al0 (n := 6) C dX8_follow_5 rfl ?_
  refine R_ic (n := 7) C dX8_follow_6 ci_0 rfl ?_
  refine M_putI (n := 10) C fl_X8_19 dX8_follow_7 rfl rfl rfl rfl rfl ?_
  refine R_ic (n := 11) C dX8_follow_10 ci_0 rfl ?_
  refine R_is3 (n := 12) C dX8_follow_11 rfl (Nat.le_of_ble_eq_true rfl) rfl ?_
  refine outer (sN σ + 1) 0 _ _ (by omega) (by omega) ⟨up2_gne (by decide) up2_same, up2_same, fun j hj => absurd hj (Nat.not_lt_zero j)⟩ ((FrS.rf.up (by decide) (by decide)).up (by decide) (by decide))
def okT (G : GS) : Bool := okE G && owz (gS G) (gP G).2 (gP G).1 0
def evT (G : GS) : List Nat := evL (gP G).2 (gP G).1 0 none
def aTracks (G : GS) (v : Int32) : Int32 := if win v (nI 0) (nI 1) then (if okT G then (if cl v = 0 then nI (trM (gS G) (evT G) (sN (gS G))) else if trM (gS G) (evT G) (sN (gS G)) = 0 then -6 else nI (trL (gS G) (evT G) (sN (gS G)))) else -5) else -2
def aLooked (G : GS) (v : Int32) : Int32 := if hasH (gS G) v then (if okT G then (if trM (gS G) (evT G) (sN (gS G)) = 0 then 0 else nI (wmz (gS G) (evT G) (cl v) 4)) else -5) else -1
set_option maxRecDepth 20000 in
set_option maxHeartbeats 4000000 in
theorem c_isTrackable (l : Launch) (D : va_G) (cA : Nat → ClassId) (r : Nat → Nat) {h : Hp} {G : GS} (R : RCl G h) (I : InvG G) : Cn l D cA yX10_isTrackable cX10_isTrackable 1 (some .boolean) 3 0 0 [.ref (r 0)] (LY r) h (pE (some (.int (bI (okT G)))) (LY r) h) := by
  refine Cn.of (lv := [some (.ref (r 0))]) (by decide +kernel) (Nat.le_of_ble_eq_true rfl) rfl (fun X hnm C CR => ?_)
  have n5 := I.1.n5
  have c60 := I.2.1.1
  refine R_al0 (n := 1) C dX10_isTrackable_0 rfl ?_
  refine M_getR (n := 4) C fl_X10_27 dX10_isTrackable_1 rfl rfl rfl ?_
  refine R_al0 (n := 5) C dX10_isTrackable_4 rfl ?_
  refine M_getR (n := 8) C fl_X10_12 dX10_isTrackable_5 rfl rfl rfl ?_
  refine M_getI (n := 11) C fl_X10_80 dX10_isTrackable_8 rfl rfl (wN R.1) rfl ?_
  refine M_callV (n := 14) C (c_eveningFault _ _ _ r R.2.1 I.2.1 n5) mw_X4_eveningFault ml_X10_118 iv_X4_eveningFault dX10_isTrackable_11 rfl rfl rfl rfl (Nat.le_of_ble_eq_true rfl) ⟨Nat.le_of_ble_eq_true rfl, Nat.le_of_ble_eq_true rfl⟩ ⟨Nat.le_refl _, Nat.le_refl _⟩ rfl (pEs ?_)
  refine R_bp (n := 16) C dX10_isTrackable_14 cb_m6 rfl ?_
  refine R_icmp_ne (tgt := 37) C dX10_isTrackable_16 rfl rfl (fun c2 => ?_) (fun c2 => ?_)
  · rw [evz_eq c60] at c2
    have ok : okE G = false := decide_eq_false c2
    refine R_ic (n := 38) C dX10_isTrackable_37 ci_0 rfl ?_
    refine R_zret0 C CR (Nat.zero_le _) (Nat.zero_le _) dX10_isTrackable_38 ?_
    exact ⟨by rw [okT, ok]; rfl, rfl, rfl⟩
  · rw [evz_eq c60] at c2
    have ok : okE G = true := decide_eq_true c2
    refine R_al0 (n := 20) C dX10_isTrackable_19 rfl ?_
    refine M_getR (n := 23) C fl_X10_27 dX10_isTrackable_20 rfl rfl rfl ?_
    refine R_al0 (n := 24) C dX10_isTrackable_23 rfl ?_
    refine M_getR (n := 27) C fl_X10_12 dX10_isTrackable_24 rfl rfl rfl ?_
    refine M_callV (n := 30) C (c_hasOnlyWords _ _ _ r R.1 I.1 R.2.1 I.2.1 c2) mw_X4_hasOnlyWords ml_X10_319 iv_X4_hasOnlyWords dX10_isTrackable_27 rfl rfl rfl rfl (Nat.le_of_ble_eq_true rfl) ⟨Nat.le_of_ble_eq_true rfl, Nat.le_of_ble_eq_true rfl⟩ ⟨Nat.le_refl _, Nat.le_refl _⟩ rfl (pEs ?_)
    refine R_if_eqB (tgt := 37) C dX10_isTrackable_30 rfl rfl (fun c3 => ?_) (fun c3 => ?_)
    · refine R_ic (n := 38) C dX10_isTrackable_37 ci_0 rfl ?_
      refine R_zret0 C CR (Nat.zero_le _) (Nat.zero_le _) dX10_isTrackable_38 ?_
      exact ⟨by rw [okT, c3, Bool.and_false], rfl, rfl⟩
    · refine R_ic (n := 34) C dX10_isTrackable_33 ci_1 rfl ?_
      refine R_goto (n := 38) C dX10_isTrackable_34 rfl ?_
      refine R_zret1 C CR (Nat.zero_le _) (Nat.zero_le _) dX10_isTrackable_38 ?_
      exact ⟨by rw [okT, ok, c3]; rfl, rfl, rfl⟩
theorem okT_E {G : GS} (h : okT G = true) : evS (sN (gS G)) (gP G).2 (gP G).1 0 none = none := by
  unfold okT okE at h
  rw [Bool.and_eq_true] at h
  exact of_decide_eq_true h.1
theorem trM_le' {σ : WS} (I : Inv σ) (ev : List Nat) : trM σ ev (sN σ) ≤ 1024 := Nat.le_trans (trM_le _) (show 4 ^ sN σ ≤ 4 ^ 5 from Nat.pow_le_pow_right (by decide) I.n5)
set_option maxRecDepth 20000 in
set_option maxHeartbeats 4000000 in
theorem p_tracks (l : Launch) (D : va_G) (cA : Nat → ClassId) (r : Nat → Nat) {h : Hp} {G : GS} (R : RCl G h) (I : InvG G) (v : Int32) : Cn l D cA yX10_tracks cX10_tracks 2 (some .int) 4 0 0 [.ref (r 0), .int v] (LY r) h (pG (some (.int (aTracks G v))) (LY r) (fun h' => RCl G h' ∧ FrC h h')) := by
  refine Cn.of (lv := [some (.ref (r 0)), some (.int v)]) (by decide +kernel) (Nat.le_of_ble_eq_true rfl) rfl (fun X hnm C CR => ?_)
  refine R_il1 (n := 1) C dX10_tracks_0 rfl ?_
  refine R_ic (n := 2) C dX10_tracks_1 ci_0 rfl ?_
  refine R_ic (n := 3) C dX10_tracks_2 ci_1 rfl ?_
  refine R_callS (n := 6) C (c_isWithin _ _ _ r _ _ _) mw_X10_isWithin ml_X10_92 sv_X10_isWithin dX10_tracks_3 rfl rfl (Nat.le_of_ble_eq_true rfl) ⟨Nat.le_of_ble_eq_true rfl, Nat.le_of_ble_eq_true rfl⟩ ⟨Nat.le_refl _, Nat.le_refl _⟩ rfl (pEs ?_)
  refine R_if_neB (tgt := 12) C dX10_tracks_6 rfl rfl (fun c1 => ?_) (fun c1 => ?_)
  · obtain ⟨x, _, h2, rfl⟩ := win_of (by decide) (by decide) c1
    have xc : cl (nI x) = x := nI_clamp (by omega)
    rw [aTracks, if_pos c1, xc] at CR
    refine R_al0 (n := 13) C dX10_tracks_12 rfl ?_
    refine M_callV (n := 16) C (c_isTrackable _ _ _ r R I) mw_X10_isTrackable ml_X10_252 iv_X10_isTrackable dX10_tracks_13 rfl rfl rfl rfl (Nat.le_of_ble_eq_true rfl) ⟨Nat.le_of_ble_eq_true rfl, Nat.le_of_ble_eq_true rfl⟩ ⟨Nat.le_refl _, Nat.le_refl _⟩ rfl (pEs ?_)
    refine R_if_neB (tgt := 22) C dX10_tracks_16 rfl rfl (fun c2 => ?_) (fun c2 => ?_)
    · have V := okT_E c2
      rw [if_pos c2] at CR
      have tl := trM_le' I.1 (evT G)
      refine R_al0 (n := 23) C dX10_tracks_22 rfl ?_
      refine M_getR (n := 26) C fl_X10_76 dX10_tracks_23 rfl rfl rfl ?_
      refine R_al0 (n := 27) C dX10_tracks_26 rfl ?_
      refine M_getR (n := 30) C fl_X10_12 dX10_tracks_27 rfl rfl rfl ?_
      refine R_al0 (n := 31) C dX10_tracks_30 rfl ?_
      refine M_getR (n := 34) C fl_X10_27 dX10_tracks_31 rfl rfl rfl ?_
      refine M_callV (n := 37) C (c_follow _ _ _ r R.1 I.1 R.2.1 I.2.1 V) mw_X8_follow ml_X10_256 iv_X8_follow dX10_tracks_34 rfl rfl rfl rfl (Nat.le_of_ble_eq_true rfl) ⟨Nat.le_of_ble_eq_true rfl, Nat.le_of_ble_eq_true rfl⟩ ⟨Nat.le_refl _, Nat.le_refl _⟩ rfl (pGv (fun h1 q1 => ?_))
      refine R_il1 (n := 38) C dX10_tracks_37 rfl ?_
      have W : RCl G h1 ∧ FrC h h1 := ⟨R.s q1.2, q1.2.c⟩
      refine R_if_neN (tgt := 51) C dX10_tracks_38 rfl rfl (by omega) (fun c3 => ?_) (fun c3 => ?_)
      · rw [if_neg c3] at CR
        refine R_al0 (n := 52) C dX10_tracks_51 rfl ?_
        refine M_getR (n := 55) C fl_X10_76 dX10_tracks_52 rfl rfl rfl ?_
        refine M_getI (n := 58) C fl_X10_262 dX10_tracks_55 rfl rfl q1.1.2.1 rfl ?_
        refine R_iret C CR (Nat.zero_le _) (Nat.zero_le _) dX10_tracks_58 ?_
        exact ⟨rfl, rfl, W⟩
      · rw [if_pos c3] at CR
        refine R_al0 (n := 42) C dX10_tracks_41 rfl ?_
        refine M_getR (n := 45) C fl_X10_76 dX10_tracks_42 rfl rfl rfl ?_
        refine M_getI (n := 48) C fl_X10_259 dX10_tracks_45 rfl rfl q1.1.1 rfl ?_
        refine R_goto (n := 58) C dX10_tracks_48 rfl ?_
        refine R_iret C CR (Nat.zero_le _) (Nat.zero_le _) dX10_tracks_58 ?_
        exact ⟨rfl, rfl, W⟩
    · rw [if_neg (by rw [c2]; decide)] at CR
      refine R_bp (n := 21) C dX10_tracks_19 cb_m5 rfl ?_
      refine R_iret C CR (Nat.zero_le _) (Nat.zero_le _) dX10_tracks_21 ?_
      exact ⟨rfl, rfl, R, FrC.rf⟩
  · refine R_bp (n := 11) C dX10_tracks_9 cb_m2 rfl ?_
    refine R_iret C CR (Nat.zero_le _) (Nat.zero_le _) dX10_tracks_11 ?_
    refine ⟨?_, rfl, R, FrC.rf⟩
    rw [aTracks, if_neg (by rw [c1]; decide)]
set_option maxRecDepth 20000 in
set_option maxHeartbeats 4000000 in
theorem p_looked (l : Launch) (D : va_G) (cA : Nat → ClassId) (r : Nat → Nat) {h : Hp} {G : GS} (R : RCl G h) (I : InvG G) (v : Int32) : Cn l D cA yX10_looked cX10_looked 2 (some .int) 4 0 0 [.ref (r 0), .int v] (LY r) h (pG (some (.int (aLooked G v))) (LY r) (fun h' => RCl G h' ∧ FrC h h')) := by
  refine Cn.of (lv := [some (.ref (r 0)), some (.int v)]) (by decide +kernel) (Nat.le_of_ble_eq_true rfl) rfl (fun X hnm C CR => ?_)
  have n5 := I.1.n5
  have n1 := I.1.n1
  refine R_al0 (n := 1) C dX10_looked_0 rfl ?_
  refine M_getR (n := 4) C fl_X10_12 dX10_looked_1 rfl rfl rfl ?_
  refine R_il1 (n := 5) C dX10_looked_4 rfl ?_
  refine M_callV (n := 8) C (c_hasHut _ _ _ r R.1 I.1 _) mw_X9_hasHut ml_X10_88 iv_X9_hasHut dX10_looked_5 rfl rfl rfl rfl (Nat.le_of_ble_eq_true rfl) ⟨Nat.le_of_ble_eq_true rfl, Nat.le_of_ble_eq_true rfl⟩ ⟨Nat.le_refl _, Nat.le_refl _⟩ rfl (pEs ?_)
  refine R_if_neB (tgt := 13) C dX10_looked_8 rfl rfl (fun c1 => ?_) (fun c1 => ?_)
  · have c1' : hasH (gS G) v = true := c1
    obtain ⟨x, _, h2, rfl⟩ := win_of (by omega) (by omega) c1
    have xc : cl (nI x) = x := nI_clamp (by omega)
    rw [aLooked, if_pos c1', xc] at CR
    refine R_al0 (n := 14) C dX10_looked_13 rfl ?_
    refine M_callV (n := 17) C (c_isTrackable _ _ _ r R I) mw_X10_isTrackable ml_X10_252 iv_X10_isTrackable dX10_looked_14 rfl rfl rfl rfl (Nat.le_of_ble_eq_true rfl) ⟨Nat.le_of_ble_eq_true rfl, Nat.le_of_ble_eq_true rfl⟩ ⟨Nat.le_refl _, Nat.le_refl _⟩ rfl (pEs ?_)
    refine R_if_neB (tgt := 23) C dX10_looked_17 rfl rfl (fun c2 => ?_) (fun c2 => ?_)
    · have V := okT_E c2
      rw [if_pos c2] at CR
      have tl := trM_le' I.1 (evT G)
      refine R_al0 (n := 24) C dX10_looked_23 rfl ?_
      refine M_getR (n := 27) C fl_X10_76 dX10_looked_24 rfl rfl rfl ?_
      refine R_al0 (n := 28) C dX10_looked_27 rfl ?_
      refine M_getR (n := 31) C fl_X10_12 dX10_looked_28 rfl rfl rfl ?_
      refine R_al0 (n := 32) C dX10_looked_31 rfl ?_
      refine M_getR (n := 35) C fl_X10_27 dX10_looked_32 rfl rfl rfl ?_
      refine M_callV (n := 38) C (c_follow _ _ _ r R.1 I.1 R.2.1 I.2.1 V) mw_X8_follow ml_X10_256 iv_X8_follow dX10_looked_35 rfl rfl rfl rfl (Nat.le_of_ble_eq_true rfl) ⟨Nat.le_of_ble_eq_true rfl, Nat.le_of_ble_eq_true rfl⟩ ⟨Nat.le_refl _, Nat.le_refl _⟩ rfl (pGv (fun h1 q1 => ?_))
      have W : RCl G h1 ∧ FrC h h1 := ⟨R.s q1.2, q1.2.c⟩
      have e1 : h1 51 0 = nI (trM (gS G) (evT G) (sN (gS G))) := q1.1.1
      refine R_al0 (n := 39) C dX10_looked_38 rfl ?_
      refine M_getR (n := 42) C fl_X10_76 dX10_looked_39 rfl rfl rfl ?_
      refine M_getI (n := 45) C fl_X10_259 dX10_looked_42 rfl rfl e1 rfl ?_
      refine R_if_neN (tgt := 52) C dX10_looked_45 rfl rfl (by omega) (fun c3 => ?_) (fun c3 => ?_)
      · rw [if_neg c3] at CR
        refine R_al0 (n := 53) C dX10_looked_52 rfl ?_
        refine M_getR (n := 56) C fl_X10_76 dX10_looked_53 rfl rfl rfl ?_
        refine M_getR (n := 59) C fl_X10_265 dX10_looked_56 rfl rfl rfl ?_
        refine R_il1 (n := 60) C dX10_looked_59 rfl ?_
        refine M_iald (n := 61) C dX10_looked_60 rfl (by omega) (q1.1.2.2 x (by omega)) rfl ?_
        refine R_iret C CR (Nat.zero_le _) (Nat.zero_le _) dX10_looked_61 ?_
        exact ⟨rfl, rfl, W⟩
      · rw [if_pos c3] at CR
        refine R_ic (n := 49) C dX10_looked_48 ci_0 rfl ?_
        refine R_goto (n := 61) C dX10_looked_49 rfl ?_
        refine R_iret C CR (Nat.zero_le _) (Nat.zero_le _) dX10_looked_61 ?_
        exact ⟨rfl, rfl, W⟩
    · rw [if_neg (by rw [c2]; decide)] at CR
      refine R_bp (n := 22) C dX10_looked_20 cb_m5 rfl ?_
      refine R_iret C CR (Nat.zero_le _) (Nat.zero_le _) dX10_looked_22 ?_
      exact ⟨rfl, rfl, R, FrC.rf⟩
  · have c1' : hasH (gS G) v = false := c1
    refine R_ic (n := 12) C dX10_looked_11 ci_m1 rfl ?_
    refine R_iret C CR (Nat.zero_le _) (Nat.zero_le _) dX10_looked_12 ?_
    refine ⟨?_, rfl, R, FrC.rf⟩
    rw [aLooked, if_neg (by rw [c1']; decide)]
