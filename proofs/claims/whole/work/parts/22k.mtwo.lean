set_option maxRecDepth 20000 in
set_option maxHeartbeats 4000000 in
theorem c_mAfter (l : Launch) (D : va_G) (cA : Nat → ClassId) (r : Nat → Nat) {h : Hp} {σ : WS} (R : RM σ h) (I : Inv σ) {k w x : Nat} (hk : k < 5) (hw : w < 4) (hx : x < 6) : Cn l D cA yX11_after cX11_after 4 (some .int) 1 0 0 [.ref (r 73), .int (nI k), .int (nI w), .int (nI x)] (LY r) h (pE (some (.int (nI (tnx σ k w x)))) (LY r) h) := by
  refine Cn.of (lv := [some (.ref (r 73)), some (.int (nI k)), some (.int (nI w)), some (.int (nI x))]) (by decide +kernel) (Nat.le_of_ble_eq_true rfl) rfl (fun X hnm C CR => ?_)
  have q4 := qz_le I (w := x) (k := k) (l := w) hx hk
  refine R_al0 (n := 1) C dX11_after_0 rfl ?_
  refine R_il1 (n := 2) C dX11_after_1 rfl ?_
  refine R_il2 (n := 3) C dX11_after_2 rfl ?_
  refine R_al0 (n := 4) C dX11_after_3 rfl ?_
  refine R_il3 (n := 5) C dX11_after_4 rfl ?_
  refine R_il1 (n := 6) C dX11_after_5 rfl ?_
  refine R_il2 (n := 7) C dX11_after_6 rfl ?_
  refine M_callV (n := 10) C (c_mHeeds _ _ _ r R I hx hk hw) mw_X11_heeds ml_X11_158 iv_X11_heeds dX11_after_7 rfl rfl rfl rfl (Nat.le_of_ble_eq_true rfl) ⟨Nat.le_of_ble_eq_true rfl, Nat.le_of_ble_eq_true rfl⟩ ⟨Nat.le_refl _, Nat.le_refl _⟩ rfl (pEs ?_)
  refine M_callV (n := 13) C (c_mTurned _ _ _ r R I hk hw q4) mw_X11_turned ml_X11_168 iv_X11_turned dX11_after_10 rfl rfl rfl rfl (Nat.le_of_ble_eq_true rfl) ⟨Nat.le_of_ble_eq_true rfl, Nat.le_of_ble_eq_true rfl⟩ ⟨Nat.le_refl _, Nat.le_refl _⟩ rfl (pEs ?_)
  refine R_iret C CR (Nat.zero_le _) (Nat.zero_le _) dX11_after_13 ?_
  exact ⟨rfl, rfl, rfl⟩
def RTM (Wm Bm : Nat → Nat → Nat) (h : Hp) : Prop := ∀ q, q < 8 → h 95 q = nI (Wm (q / 2) (q % 2)) ∧ h 96 q = nI (Bm (q / 2) (q % 2))
set_option maxRecDepth 20000 in
set_option maxHeartbeats 4000000 in
theorem c_mSettle (l : Launch) (D : va_G) (cA : Nat → ClassId) (r : Nat → Nat) {h : Hp} {σ : WS} (R : RM σ h) (I : Inv σ) {k ws n w s : Nat} {T : TW} {Wm Bm : Nat → Nat → Nat} (hk : k < 5) (hws : ws < 64) (hn : n ≤ 8) (hw : w < 4) (hs : s < 2) (hT : ∀ w s, s < 2 → T.1 w s ≤ 2 ∧ T.2 w s < n) (M : Mix T n Wm Bm) (E : RTM Wm Bm h) : Cn l D cA yX11_settle cX11_settle 11 none 2 0 0 [.ref (r 73), .int (nI k), .int (nI (2 * w + s)), .int (nI n), .int (nI ws)] (LY r) h (pG none (LY r) (fun h' => RTM (if exb (twn σ k ws T.1 w s) 6 || alb (tls σ k ws T.1 w s) 6 then up3 Wm w s (if exb (twn σ k ws T.1 w s) 6 then s else 1 - s) else Wm) (if exb (twn σ k ws T.1 w s) 6 || alb (tls σ k ws T.1 w s) 6 then up3 Bm w s n else Bm) h' ∧ FrA [95, 96] [] h h')) := by
  refine Cn.of (lv := [some (.ref (r 73)), some (.int (nI k)), some (.int (nI (2 * w + s))), some (.int (nI n)), some (.int (nI ws)), none, none, none, none, none, none]) (by decide +kernel) (Nat.le_of_ble_eq_true rfl) rfl (fun X hnm C CR => ?_)
  have ed : (2 * w + s) / 2 = w := by omega
  have em : (2 * w + s) % 2 = s := by omega
  have loop : ∀ (m i : Nat) (o9 o10 : Option Value), 6 < i + m → i ≤ 6 → Rn X 0 0 14 [some (.ref (r 73)), some (.int (nI k)), some (.int (nI (2 * w + s))), some (.int (nI n)), some (.int (nI ws)), some (.int (nI s)), some (.int (bI (exb (twn σ k ws T.1 w s) i))), some (.int (bI (alb (tls σ k ws T.1 w s) i))), some (.int (nI i)), o9, o10] [] (LY r) h := by
    intro m
    induction m with
    | zero => intro i o9 o10 a1 a2; omega
    | succ m ih =>
      intro i o9 o10 a1 a2
      have ih1 := ih (i + 1)
      rw [exb_s, alb_s] at ih1
      obtain ⟨A, hA⟩ : ∃ A, exb (twn σ k ws T.1 w s) i = A := ⟨_, rfl⟩
      obtain ⟨B, hB⟩ : ∃ B, alb (tls σ k ws T.1 w s) i = B := ⟨_, rfl⟩
      rw [hA, hB] at ih1
      rw [hA, hB]
      refine R_il8 (n := 16) C dX11_settle_14 rfl ?_
      refine R_bp (n := 18) C dX11_settle_16 cb_6 rfl ?_
      refine R_icmp_geN (tgt := 146) C dX11_settle_18 rfl rfl (by omega) (by omega) (fun c1 => ?_) (fun c1 => ?_)
      · obtain rfl : i = 6 := by omega
        rw [hA, hB] at CR
        have fin : ∀ v : Nat, (A || B) = true → v = (if A then s else 1 - s) → Rn X 0 0 175 [some (.ref (r 73)), some (.int (nI k)), some (.int (nI (2 * w + s))), some (.int (nI n)), some (.int (nI ws)), some (.int (nI s)), some (.int (bI A)), some (.int (bI B)), some (.int (nI 6)), o9, o10] [.int (nI v), .int (nI (2 * w + s)), .ref (r 95)] (LY r) h := by
          intro v q1 q2
          rw [q1, if_pos rfl, if_pos rfl] at CR
          refine M_iast (n := 176) C dX11_settle_175 rfl (by omega) rfl ?_
          refine R_al0 (n := 177) C dX11_settle_176 rfl ?_
          refine M_getR (n := 180) C fl_X11_77 dX11_settle_177 rfl rfl rfl ?_
          refine R_il2 (n := 181) C dX11_settle_180 rfl ?_
          refine R_il3 (n := 182) C dX11_settle_181 rfl ?_
          refine M_iast (n := 183) C dX11_settle_182 rfl (by omega) rfl ?_
          refine R_vret C CR (Nat.zero_le _) (Nat.zero_le _) dX11_settle_183 ?_
          refine ⟨rfl, rfl, fun q hq => ⟨?_, ?_⟩, (FrA.rf.up (by decide) (by decide)).up (by decide) (by decide)⟩
          · rw [up2_row (by decide), up2_at]
            simp only [up3]
            by_cases e : q = 2 * w + s
            · subst e
              rw [if_pos rfl, em, ed, if_pos ⟨rfl, rfl⟩, q2]
            · rw [if_neg e, if_neg (by omega)]
              exact (E q hq).1
          · rw [up2_at]
            simp only [up3]
            by_cases e : q = 2 * w + s
            · subst e
              rw [if_pos rfl, em, ed, if_pos ⟨rfl, rfl⟩]
            · rw [if_neg e, if_neg (by omega), up2_row (by decide)]
              exact (E q hq).2
        have go : (A || B) = true → Rn X 0 0 156 [some (.ref (r 73)), some (.int (nI k)), some (.int (nI (2 * w + s))), some (.int (nI n)), some (.int (nI ws)), some (.int (nI s)), some (.int (bI A)), some (.int (bI B)), some (.int (nI 6)), o9, o10] [] (LY r) h := by
          intro q
          refine R_al0 (n := 157) C dX11_settle_156 rfl ?_
          refine M_getR (n := 160) C fl_X11_74 dX11_settle_157 rfl rfl rfl ?_
          refine R_il2 (n := 161) C dX11_settle_160 rfl ?_
          refine R_il6 (n := 163) C dX11_settle_161 rfl ?_
          refine R_if_eqB (tgt := 171) C dX11_settle_163 rfl rfl (fun c3 => ?_) (fun c3 => ?_)
          · refine R_ic (n := 172) C dX11_settle_171 ci_1 rfl ?_
            refine R_il5 (n := 174) C dX11_settle_172 rfl ?_
            refine R_isubN (n := 175) C dX11_settle_174 (by omega) rfl ?_
            exact fin _ q (by rw [c3]; rfl)
          · refine R_il5 (n := 168) C dX11_settle_166 rfl ?_
            refine R_goto (n := 175) C dX11_settle_168 rfl ?_
            exact fin _ q (by rw [c3]; rfl)
        refine R_il6 (n := 148) C dX11_settle_146 rfl ?_
        refine R_if_neB (tgt := 156) C dX11_settle_148 rfl rfl (fun c2 => ?_) (fun c2 => ?_)
        · exact go (by rw [c2]; rfl)
        · refine R_il7 (n := 153) C dX11_settle_151 rfl ?_
          refine R_if_eqB (tgt := 183) C dX11_settle_153 rfl rfl (fun c3 => ?_) (fun c3 => ?_)
          · rw [c2, c3] at CR
            refine R_vret C CR (Nat.zero_le _) (Nat.zero_le _) dX11_settle_183 ?_
            exact ⟨rfl, rfl, E, FrA.rf⟩
          · exact go (by rw [c3, Bool.or_true])
      · have h2 : ws / 2 ^ i % 2 < 2 := Nat.mod_lt _ (by decide)
        refine R_il4 (n := 23) C dX11_settle_21 rfl ?_
        refine R_il8 (n := 25) C dX11_settle_23 rfl ?_
        refine R_ishrN (n := 26) C dX11_settle_25 (by omega) (by omega) rfl ?_
        refine R_ic (n := 27) C dX11_settle_26 ci_1 rfl ?_
        refine R_iandN (n := 28) C dX11_settle_27 rfl ?_
        refine R_eq (y := nI (ws / 2 ^ i % 2)) (by rw [and1]) ?_
        refine R_ic (n := 29) C dX11_settle_28 ci_1 rfl ?_
        refine R_icmp_neN (tgt := 140) C dX11_settle_29 rfl rfl (by omega) (by omega) (fun c2 => ?_) (fun c2 => ?_)
        · have tb : ws.testBit i = false := by rw [tb_div, show ws / 2 ^ i % 2 = 0 by omega]; rfl
          rw [show twn σ k ws T.1 w s i = false by rw [twn, tb]; rfl, show tls σ k ws T.1 w s i = true by rw [tls, tb]; rfl, Bool.or_false, Bool.and_true] at ih1
          refine R_inc8 (n := 143) C dX11_settle_140 rfl (Nat.le_of_ble_eq_true rfl) (inc_1 _) rfl ?_
          refine R_goto (n := 14) C dX11_settle_143 rfl ?_
          exact ih1 _ _ (by omega) (by omega)
        · have tb : ws.testBit i = true := by rw [tb_div, c2]; rfl
          obtain ⟨t, ht⟩ : ∃ t, tnx σ k w i = t := ⟨_, rfl⟩
          have t4 : t < 4 := by rw [← ht]; exact tnx_lt
          obtain ⟨x, hx⟩ : ∃ x, T.1 t (1 - s) = x := ⟨_, rfl⟩
          have x2 : x ≤ 2 := by rw [← hx]; exact (hT t (1 - s) (by omega)).1
          rw [show twn σ k ws T.1 w s i = decide (x = s) by rw [twn, tb, ht, hx]; rfl, show tls σ k ws T.1 w s i = decide (x = 1 - s) by rw [tls, tb, ht, hx]; rfl] at ih1
          have un := M.un hT (w := t) (s := 1 - s) (by omega)
          rw [hx] at un
          obtain ⟨u, hu⟩ : ∃ u, Wm t (1 - s) = u := ⟨_, rfl⟩
          obtain ⟨d, hd⟩ : ∃ d, Bm t (1 - s) = d := ⟨_, rfl⟩
          rw [hu, hd] at un
          have ub : u ≤ 2 ∧ d ≤ 8 := by
            have h9 := hT t (1 - s) (by omega)
            rcases M t (1 - s) (by omega) with ⟨e1, e2⟩ | ⟨e1, e2, e3⟩
            · omega
            · omega
          have Eq := E (2 * t + 1 - s) (by omega)
          rw [show (2 * t + 1 - s) / 2 = t by omega, show (2 * t + 1 - s) % 2 = 1 - s by omega, hu, hd] at Eq
          refine R_ic (n := 33) C dX11_settle_32 ci_2 rfl ?_
          refine R_al0 (n := 34) C dX11_settle_33 rfl ?_
          refine R_il1 (n := 35) C dX11_settle_34 rfl ?_
          refine R_il2 (n := 36) C dX11_settle_35 rfl ?_
          refine R_ic (n := 37) C dX11_settle_36 ci_2 rfl ?_
          refine R_idivN (n := 38) C dX11_settle_37 (by omega) (by omega) (by omega) rfl ?_
          refine R_il8 (n := 40) C dX11_settle_38 rfl ?_
          refine M_callV (n := 43) C (c_mAfter _ _ _ r R I hk (by omega) c1) mw_X11_after ml_X11_253 iv_X11_after dX11_settle_40 rfl rfl rfl rfl (Nat.le_of_ble_eq_true rfl) ⟨Nat.le_of_ble_eq_true rfl, Nat.le_of_ble_eq_true rfl⟩ ⟨Nat.le_refl _, Nat.le_refl _⟩ rfl (pEs ?_)
          rw [ed, ht]
          have cB : ∀ kb A' : Bool, (kb = true → u = x) → (kb = false → x = 2) → (A || decide (x = s)) = A' → Rn X 0 0 109 [some (.ref (r 73)), some (.int (nI k)), some (.int (nI (2 * w + s))), some (.int (nI n)), some (.int (nI ws)), some (.int (nI s)), some (.int (bI A')), some (.int (bI B)), some (.int (nI i)), some (.int (nI (2 * t + 1 - s))), some (.int (bI kb))] [] (LY r) h := by
            intro kb A' k1 k2 hA'
            rw [hA'] at ih1
            have no : (B && decide (x = 1 - s)) = false → Rn X 0 0 137 [some (.ref (r 73)), some (.int (nI k)), some (.int (nI (2 * w + s))), some (.int (nI n)), some (.int (nI ws)), some (.int (nI s)), some (.int (bI A')), some (.int (bI B)), some (.int (nI i)), some (.int (nI (2 * t + 1 - s))), some (.int (bI kb))] [] (LY r) h := by
              intro q
              rw [q] at ih1
              refine R_ic (n := 138) C dX11_settle_137 ci_0 rfl ?_
              refine R_eq (y := bI false) rfl ?_
              refine R_is7 (n := 140) C dX11_settle_138 rfl (Nat.le_of_ble_eq_true rfl) rfl ?_
              refine R_inc8 (n := 143) C dX11_settle_140 rfl (Nat.le_of_ble_eq_true rfl) (inc_1 _) rfl ?_
              refine R_goto (n := 14) C dX11_settle_143 rfl ?_
              exact ih1 _ _ (by omega) (by omega)
            refine R_il7 (n := 111) C dX11_settle_109 rfl ?_
            refine R_if_eqB (tgt := 137) C dX11_settle_111 rfl rfl (fun d1 => ?_) (fun d1 => ?_)
            · exact no (by rw [d1]; rfl)
            · refine R_il10 (n := 116) C dX11_settle_114 rfl ?_
              refine R_if_eqB (tgt := 137) C dX11_settle_116 rfl rfl (fun d2 => ?_) (fun d2 => ?_)
              · have := k2 d2
                exact no (by rw [decide_eq_false (by omega), Bool.and_false])
              · have ux := k1 d2
                refine R_al0 (n := 120) C dX11_settle_119 rfl ?_
                refine M_getR (n := 123) C fl_X11_74 dX11_settle_120 rfl rfl rfl ?_
                refine R_il9 (n := 125) C dX11_settle_123 rfl ?_
                refine M_iald (n := 126) C dX11_settle_125 rfl (by omega) Eq.1 rfl ?_
                refine R_ic (n := 127) C dX11_settle_126 ci_1 rfl ?_
                refine R_il5 (n := 129) C dX11_settle_127 rfl ?_
                refine R_isubN (n := 130) C dX11_settle_129 (by omega) rfl ?_
                refine R_icmp_neN (tgt := 137) C dX11_settle_130 rfl rfl (by omega) (by omega) (fun d3 => ?_) (fun d3 => ?_)
                · exact no (by rw [decide_eq_false (by omega), Bool.and_false])
                · rw [d1, decide_eq_true (show x = 1 - s by omega)] at ih1
                  refine R_ic (n := 134) C dX11_settle_133 ci_1 rfl ?_
                  refine R_goto (n := 138) C dX11_settle_134 rfl ?_
                  refine R_eq (y := bI true) rfl ?_
                  refine R_is7 (n := 140) C dX11_settle_138 rfl (Nat.le_of_ble_eq_true rfl) rfl ?_
                  refine R_inc8 (n := 143) C dX11_settle_140 rfl (Nat.le_of_ble_eq_true rfl) (inc_1 _) rfl ?_
                  refine R_goto (n := 14) C dX11_settle_143 rfl ?_
                  exact ih1 _ _ (by omega) (by omega)
          have cA78 : ∀ kb : Bool, (kb = true → u = x) → (kb = false → x = 2) → Rn X 0 0 78 [some (.ref (r 73)), some (.int (nI k)), some (.int (nI (2 * w + s))), some (.int (nI n)), some (.int (nI ws)), some (.int (nI s)), some (.int (bI A)), some (.int (bI B)), some (.int (nI i)), some (.int (nI (2 * t + 1 - s))), o10] [.int (bI kb)] (LY r) h := by
            intro kb k1 k2
            have yes : (A || decide (x = s)) = true → Rn X 0 0 102 [some (.ref (r 73)), some (.int (nI k)), some (.int (nI (2 * w + s))), some (.int (nI n)), some (.int (nI ws)), some (.int (nI s)), some (.int (bI A)), some (.int (bI B)), some (.int (nI i)), some (.int (nI (2 * t + 1 - s))), some (.int (bI kb))] [] (LY r) h := by
              intro q
              refine R_ic (n := 103) C dX11_settle_102 ci_1 rfl ?_
              refine R_goto (n := 107) C dX11_settle_103 rfl ?_
              refine R_eq (y := bI true) rfl ?_
              refine R_is6 (n := 109) C dX11_settle_107 rfl (Nat.le_of_ble_eq_true rfl) rfl ?_
              exact cB kb true k1 k2 q
            have no : (A || decide (x = s)) = false → Rn X 0 0 106 [some (.ref (r 73)), some (.int (nI k)), some (.int (nI (2 * w + s))), some (.int (nI n)), some (.int (nI ws)), some (.int (nI s)), some (.int (bI A)), some (.int (bI B)), some (.int (nI i)), some (.int (nI (2 * t + 1 - s))), some (.int (bI kb))] [] (LY r) h := by
              intro q
              refine R_ic (n := 107) C dX11_settle_106 ci_0 rfl ?_
              refine R_eq (y := bI false) rfl ?_
              refine R_is6 (n := 109) C dX11_settle_107 rfl (Nat.le_of_ble_eq_true rfl) rfl ?_
              exact cB kb false k1 k2 q
            refine R_is10 (n := 80) C dX11_settle_78 rfl (Nat.le_of_ble_eq_true rfl) rfl ?_
            refine R_il6 (n := 82) C dX11_settle_80 rfl ?_
            refine R_if_neB (tgt := 102) C dX11_settle_82 rfl rfl (fun d1 => ?_) (fun d1 => ?_)
            · exact yes (by rw [d1]; rfl)
            · refine R_il10 (n := 87) C dX11_settle_85 rfl ?_
              refine R_if_eqB (tgt := 106) C dX11_settle_87 rfl rfl (fun d2 => ?_) (fun d2 => ?_)
              · have := k2 d2
                exact no (by rw [d1, decide_eq_false (by omega)]; rfl)
              · have ux := k1 d2
                refine R_al0 (n := 91) C dX11_settle_90 rfl ?_
                refine M_getR (n := 94) C fl_X11_74 dX11_settle_91 rfl rfl rfl ?_
                refine R_il9 (n := 96) C dX11_settle_94 rfl ?_
                refine M_iald (n := 97) C dX11_settle_96 rfl (by omega) Eq.1 rfl ?_
                refine R_il5 (n := 99) C dX11_settle_97 rfl ?_
                refine R_icmp_neN (tgt := 106) C dX11_settle_99 rfl rfl (by omega) (by omega) (fun d3 => ?_) (fun d3 => ?_)
                · exact no (by rw [d1, decide_eq_false (by omega)]; rfl)
                · exact yes (by rw [decide_eq_true (show x = s by omega), Bool.or_true])
          have no77 : x = 2 → Rn X 0 0 77 [some (.ref (r 73)), some (.int (nI k)), some (.int (nI (2 * w + s))), some (.int (nI n)), some (.int (nI ws)), some (.int (nI s)), some (.int (bI A)), some (.int (bI B)), some (.int (nI i)), some (.int (nI (2 * t + 1 - s))), o10] [] (LY r) h := by
            intro q
            refine R_ic (n := 78) C dX11_settle_77 ci_0 rfl ?_
            refine R_eq (y := bI false) rfl ?_
            exact cA78 false (fun z => by cases z) (fun _ => q)
          refine R_imulN (n := 44) C dX11_settle_43 rfl ?_
          refine R_ic (n := 45) C dX11_settle_44 ci_1 rfl ?_
          refine R_iaddN (n := 46) C dX11_settle_45 rfl ?_
          refine R_il5 (n := 48) C dX11_settle_46 rfl ?_
          refine R_isubN (n := 49) C dX11_settle_48 (by omega) rfl ?_
          refine R_is9 (n := 51) C dX11_settle_49 rfl (Nat.le_of_ble_eq_true rfl) rfl ?_
          refine R_al0 (n := 52) C dX11_settle_51 rfl ?_
          refine M_getR (n := 55) C fl_X11_74 dX11_settle_52 rfl rfl rfl ?_
          refine R_il9 (n := 57) C dX11_settle_55 rfl ?_
          refine M_iald (n := 58) C dX11_settle_57 rfl (by omega) Eq.1 rfl ?_
          refine R_ic (n := 59) C dX11_settle_58 ci_2 rfl ?_
          refine R_icmp_geN (tgt := 77) C dX11_settle_59 rfl rfl (by omega) (by omega) (fun d1 => ?_) (fun d1 => ?_)
          · exact no77 (un.1 (Or.inl (by omega)))
          · refine R_al0 (n := 63) C dX11_settle_62 rfl ?_
            refine M_getR (n := 66) C fl_X11_77 dX11_settle_63 rfl rfl rfl ?_
            refine R_il9 (n := 68) C dX11_settle_66 rfl ?_
            refine M_iald (n := 69) C dX11_settle_68 rfl (by omega) Eq.2 rfl ?_
            refine R_il3 (n := 70) C dX11_settle_69 rfl ?_
            refine R_icmp_geN (tgt := 77) C dX11_settle_70 rfl rfl (by omega) (by omega) (fun d2 => ?_) (fun d2 => ?_)
            · exact no77 (un.1 (Or.inr d2))
            · refine R_ic (n := 74) C dX11_settle_73 ci_1 rfl ?_
              refine R_goto (n := 78) C dX11_settle_74 rfl ?_
              refine R_eq (y := bI true) rfl ?_
              exact cA78 true (fun _ => un.2 (by omega) d2) (fun z => by cases z)
  refine R_il2 (n := 1) C dX11_settle_0 rfl ?_
  refine R_ic (n := 2) C dX11_settle_1 ci_2 rfl ?_
  refine R_iremN (n := 3) C dX11_settle_2 (by omega) (by omega) (by omega) rfl ?_
  rw [em]
  refine R_is5 (n := 5) C dX11_settle_3 rfl (Nat.le_of_ble_eq_true rfl) rfl ?_
  refine R_ic (n := 6) C dX11_settle_5 ci_0 rfl ?_
  refine R_is6 (n := 8) C dX11_settle_6 rfl (Nat.le_of_ble_eq_true rfl) rfl ?_
  refine R_ic (n := 9) C dX11_settle_8 ci_1 rfl ?_
  refine R_is7 (n := 11) C dX11_settle_9 rfl (Nat.le_of_ble_eq_true rfl) rfl ?_
  refine R_ic (n := 12) C dX11_settle_11 ci_0 rfl ?_
  refine R_is8 (n := 14) C dX11_settle_12 rfl (Nat.le_of_ble_eq_true rfl) rfl ?_
  exact loop 7 0 none none (by omega) (by omega)
