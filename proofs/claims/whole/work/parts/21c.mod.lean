def fvI (d : Nat) : Int32 := if d = 0 then -6 else nI (d - 1)
theorem fvI_pos {d : Nat} (h : 0 < d) : fvI d = nI (d - 1) := if_neg (by omega)
def RMB (B : BS) (h : Hp) : Prop := h 73 24 = nI B.1.length ∧ (∀ (i x : Nat), B.1[i]? = some x → h 87 i = nI x) ∧ (∀ x, x < 1024 → h 88 x = fvI (B.2.1 x)) ∧ ∀ x, 2 ≤ B.2.1 x → h 89 x = nI (B.2.2 x / 8) ∧ h 90 x = nI (B.2.2 x % 8)
def FrQ (h h' : Hp) : Prop := (∀ a, a ≠ 73 → a < 87 ∨ 90 < a → h' a = h a) ∧ ∀ k, k ≠ 24 → h' 73 k = h 73 k
theorem FrQ.rf {h : Hp} : FrQ h h := ⟨fun _ _ _ => rfl, fun _ _ => rfl⟩
theorem FrQ.tr {h1 h2 h3 : Hp} (F : FrQ h1 h2) (G : FrQ h2 h3) : FrQ h1 h3 := ⟨fun a h1 h2 => (G.1 a h1 h2).trans (F.1 a h1 h2), fun k hk => (G.2 k hk).trans (F.2 k hk)⟩
theorem FrQ.up {h h' : Hp} {a k : Nat} {v : Int32} (F : FrQ h h') (ha : 87 ≤ a) (hb : a ≤ 90) : FrQ h (up2 h' a k v) := ⟨fun b h1 h2 => by rw [up2_row (by omega)]; exact F.1 b h1 h2, fun j hj => by rw [up2_row (by omega)]; exact F.2 j hj⟩
theorem FrQ.up24 {h h' : Hp} {v : Int32} (F : FrQ h h') : FrQ h (up2 h' 73 24 v) := ⟨fun b h1 h2 => by rw [up2_row h1]; exact F.1 b h1 h2, fun j hj => by rw [up2_ne hj]; exact F.2 j hj⟩
theorem FrQ.rm {h h' : Hp} {σ : WS} (F : FrQ h h') (R : RM σ h) : RM σ h' := ⟨by rw [F.2 0 (by decide)]; exact R.1, by rw [F.2 6 (by decide)]; exact R.2.1, by rw [F.2 11 (by decide)]; exact R.2.2.1, fun j k hj hk => by rw [F.1 (74 + j) (by omega) (by omega)]; exact R.2.2.2 j k hj hk⟩
set_option maxRecDepth 20000 in
set_option maxHeartbeats 4000000 in
theorem c_spread (l : Launch) (D : va_G) (cA : Nat → ClassId) (r : Nat → Nat) {h : Hp} {σ : WS} (R : RM σ h) (J : Inv σ) {W : Nat} (hW : W < 64) : Cn l D cA yX11_spread cX11_spread 5 none 2 0 0 [.ref (r 73), .int (nI W)] (LY r) h (pG none (LY r) (fun h' => RMB (bfz σ W) h' ∧ FrQ h h')) := by
  refine Cn.of (lv := [some (.ref (r 73)), some (.int (nI W)), none, none, none]) (by decide +kernel) (Nat.le_of_ble_eq_true rfl) rfl (fun X hnm C CR => ?_)
  have nu := nuz_1024 J
  have p10 := p2_10 J.n5
  obtain ⟨Z, hZ⟩ : ∃ Z, bfz σ W = Z := ⟨_, rfl⟩
  rw [hZ] at CR
  have inner : ∀ (i x : Nat) (B0 : BS), i < 1024 → BI σ B0 → B0.1[i]? = some x → (∀ (h2 : Hp) (o3 o4 : Option Value), RMB (bwd σ W x 6 B0) h2 → FrQ h h2 → Rn X 0 0 177 [some (.ref (r 73)), some (.int (nI W)), some (.int (nI i)), o3, o4] [] (LY r) h2) → ∀ (m w : Nat) (hh : Hp) (o : Option Value), 6 < w + m → w ≤ 6 → RMB (bwd σ W x w B0) hh → FrQ h hh → Rn X 0 0 62 [some (.ref (r 73)), some (.int (nI W)), some (.int (nI i)), some (.int (nI w)), o] [] (LY r) hh := by
    intro i x B0 hi I0 hx out m
    induction m with
    | zero => intro w hh o a1 a2; omega
    | succ m ih =>
      intro w hh o a1 a2 E F
      have R1 := F.rm R
      have x0 := (I0.1 i x hx).2
      have xl := (I0.1 i x hx).1
      have I1 := bwd_ok J I0 (W := W) x0 (k := w) a2
      have x1 : 0 < (bwd σ W x w B0).2.1 x := by rw [bwd_mono x0]; exact x0
      have hx1 : (bwd σ W x w B0).1[i]? = some x := bwd_at hx w
      have ih1 := ih (w + 1)
      rw [bwd_s] at ih1
      have d10 : (bwd σ W x w B0).2.1 x ≤ 1024 := Nat.le_trans (I1.2.2.2.1 x) I1.len
      refine R_il3 (n := 63) C dX11_spread_62 rfl ?_
      refine R_bp (n := 65) C dX11_spread_63 cb_6 rfl ?_
      refine R_icmp_geN (tgt := 177) C dX11_spread_65 rfl rfl (by omega) (by omega) (fun c1 => ?_) (fun c1 => ?_)
      · obtain rfl : w = 6 := by omega
        exact out hh _ _ E F
      · obtain ⟨B, hB⟩ : ∃ B, bwd σ W x w B0 = B := ⟨_, rfl⟩
        rw [hB] at E I1 x1 hx1 ih1 d10
        have e22 := E.2.1 i x hx1
        have x10 : x < 1024 := by omega
        have h2 : W / 2 ^ w % 2 < 2 := Nat.mod_lt _ (by decide)
        refine R_il1 (n := 69) C dX11_spread_68 rfl ?_
        refine R_il3 (n := 70) C dX11_spread_69 rfl ?_
        refine R_ishrN (n := 71) C dX11_spread_70 (by omega) (by omega) rfl ?_
        refine R_ic (n := 72) C dX11_spread_71 ci_1 rfl ?_
        refine R_iandN (n := 73) C dX11_spread_72 rfl ?_
        refine R_eq (y := nI (W / 2 ^ w % 2)) (by rw [and1]) ?_
        refine R_ic (n := 74) C dX11_spread_73 ci_1 rfl ?_
        refine R_icmp_neN (tgt := 91) C dX11_spread_74 rfl rfl (by omega) (by omega) (fun c2 => ?_) (fun c2 => ?_)
        · have tb : W.testBit w = false := by rw [tb_div, show W / 2 ^ w % 2 = 0 by omega]; rfl
          rw [if_neg (by rw [tb]; decide)] at ih1
          have ex : hh 88 x = nI (B.2.1 x - 1) := by rw [E.2.2.1 x x10, fvI_pos x1]
          refine R_al0 (n := 92) C dX11_spread_91 rfl ?_
          refine M_getR (n := 95) C fl_X11_49 dX11_spread_92 rfl rfl rfl ?_
          refine R_il2 (n := 96) C dX11_spread_95 rfl ?_
          refine M_iald (n := 97) C dX11_spread_96 rfl hi e22 rfl ?_
          refine R_is4 (n := 99) C dX11_spread_97 rfl (Nat.le_of_ble_eq_true rfl) rfl ?_
          refine R_al0 (n := 100) C dX11_spread_99 rfl ?_
          refine M_getR (n := 103) C fl_X11_52 dX11_spread_100 rfl rfl rfl ?_
          refine R_il4 (n := 105) C dX11_spread_103 rfl ?_
          refine M_iald (n := 106) C dX11_spread_105 rfl x10 ex rfl ?_
          refine R_if_geN (tgt := 171) C dX11_spread_106 rfl rfl (by omega) ?_
          refine R_inc3 (n := 174) C dX11_spread_171 rfl (Nat.le_of_ble_eq_true rfl) (inc_1 _) rfl ?_
          refine R_goto (n := 62) C dX11_spread_174 rfl ?_
          exact ih1 hh _ (by omega) (by omega) E F
        · have tb : W.testBit w = true := by rw [tb_div, c2]; rfl
          rw [if_pos tb] at ih1
          obtain ⟨t, ht⟩ : ∃ t, trz σ w x = t := ⟨_, rfl⟩
          have t10 : t < 1024 := by rw [← ht]; exact trz_1024 J
          rw [bre, ht] at ih1
          refine R_al0 (n := 78) C dX11_spread_77 rfl ?_
          refine R_al0 (n := 79) C dX11_spread_78 rfl ?_
          refine M_getR (n := 82) C fl_X11_49 dX11_spread_79 rfl rfl rfl ?_
          refine R_il2 (n := 83) C dX11_spread_82 rfl ?_
          refine M_iald (n := 84) C dX11_spread_83 rfl hi e22 rfl ?_
          refine R_il3 (n := 85) C dX11_spread_84 rfl ?_
          refine M_callV (n := 88) C (c_mSaidTo _ _ _ r R1 J x10 c1) mw_X11_saidTo ml_X11_214 iv_X11_saidTo dX11_spread_85 rfl rfl rfl rfl (Nat.le_of_ble_eq_true rfl) ⟨Nat.le_of_ble_eq_true rfl, Nat.le_of_ble_eq_true rfl⟩ ⟨Nat.le_refl _, Nat.le_refl _⟩ rfl (pEs ?_)
          refine R_goto (n := 97) C dX11_spread_88 rfl ?_
          rw [ht]
          by_cases c0 : B.2.1 t = 0
          · rw [if_pos c0] at ih1
            have room := I1.room t10 c0
            have et : hh 88 t = -6 := by rw [E.2.2.1 t t10, c0]; rfl
            have ex : hh 88 x = nI (B.2.1 x - 1) := by rw [E.2.2.1 x x10, fvI_pos x1]
            have nx : x ≠ t := fun e => by rw [e] at x1; omega
            refine R_is4 (n := 99) C dX11_spread_97 rfl (Nat.le_of_ble_eq_true rfl) rfl ?_
            refine R_al0 (n := 100) C dX11_spread_99 rfl ?_
            refine M_getR (n := 103) C fl_X11_52 dX11_spread_100 rfl rfl rfl ?_
            refine R_il4 (n := 105) C dX11_spread_103 rfl ?_
            refine M_iald (n := 106) C dX11_spread_105 rfl t10 et rfl ?_
            refine R_if_ge (tgt := 171) C dX11_spread_106 rfl rfl (fun c3 => ?_) (fun c3 => ?_)
            · exact absurd c3 (by decide)
            · refine R_al0 (n := 110) C dX11_spread_109 rfl ?_
              refine M_getR (n := 113) C fl_X11_52 dX11_spread_110 rfl rfl rfl ?_
              refine R_il4 (n := 115) C dX11_spread_113 rfl ?_
              refine R_al0 (n := 116) C dX11_spread_115 rfl ?_
              refine M_getR (n := 119) C fl_X11_52 dX11_spread_116 rfl rfl rfl ?_
              refine R_al0 (n := 120) C dX11_spread_119 rfl ?_
              refine M_getR (n := 123) C fl_X11_49 dX11_spread_120 rfl rfl rfl ?_
              refine R_il2 (n := 124) C dX11_spread_123 rfl ?_
              refine M_iald (n := 125) C dX11_spread_124 rfl hi e22 rfl ?_
              refine M_iald (n := 126) C dX11_spread_125 rfl x10 ex rfl ?_
              refine R_ic (n := 127) C dX11_spread_126 ci_1 rfl ?_
              refine R_iaddN (n := 128) C dX11_spread_127 rfl ?_
              refine M_iast (n := 129) C dX11_spread_128 rfl t10 rfl ?_
              refine R_al0 (n := 130) C dX11_spread_129 rfl ?_
              refine M_getR (n := 133) C fl_X11_55 dX11_spread_130 rfl rfl rfl ?_
              refine R_il4 (n := 135) C dX11_spread_133 rfl ?_
              refine R_al0 (n := 136) C dX11_spread_135 rfl ?_
              refine M_getR (n := 139) C fl_X11_49 dX11_spread_136 rfl rfl rfl ?_
              refine R_il2 (n := 140) C dX11_spread_139 rfl ?_
              refine M_iald (n := 141) C dX11_spread_140 rfl hi (up2_get (by decide) e22) rfl ?_
              refine M_iast (n := 142) C dX11_spread_141 rfl t10 rfl ?_
              refine R_al0 (n := 143) C dX11_spread_142 rfl ?_
              refine M_getR (n := 146) C fl_X11_58 dX11_spread_143 rfl rfl rfl ?_
              refine R_il4 (n := 148) C dX11_spread_146 rfl ?_
              refine R_il3 (n := 149) C dX11_spread_148 rfl ?_
              refine M_iast (n := 150) C dX11_spread_149 rfl t10 rfl ?_
              refine R_al0 (n := 151) C dX11_spread_150 rfl ?_
              refine M_getR (n := 154) C fl_X11_49 dX11_spread_151 rfl rfl rfl ?_
              refine R_al0 (n := 155) C dX11_spread_154 rfl ?_
              refine M_getI (n := 158) C fl_X11_208 dX11_spread_155 rfl rfl (up2_get (by decide) (up2_get (by decide) (up2_get (by decide) E.1))) rfl ?_
              refine R_il4 (n := 160) C dX11_spread_158 rfl ?_
              refine M_iast (n := 161) C dX11_spread_160 rfl room rfl ?_
              refine R_al0 (n := 162) C dX11_spread_161 rfl ?_
              refine R_dup (n := 163) C dX11_spread_162 rfl rfl ?_
              refine M_getI (n := 166) C fl_X11_208 dX11_spread_163 rfl rfl (up2_get (by decide) (up2_get (by decide) (up2_get (by decide) (up2_get (by decide) E.1)))) rfl ?_
              refine R_ic (n := 167) C dX11_spread_166 ci_1 rfl ?_
              refine R_iaddN (n := 168) C dX11_spread_167 rfl ?_
              refine M_putI (n := 171) C fl_X11_208 dX11_spread_168 rfl rfl rfl rfl rfl ?_
              refine R_inc3 (n := 174) C dX11_spread_171 rfl (Nat.le_of_ble_eq_true rfl) (inc_1 _) rfl ?_
              refine R_goto (n := 62) C dX11_spread_174 rfl ?_
              refine ih1 _ _ (by omega) (by omega) ⟨?_, fun j y hy => ?_, fun y hy => ?_, fun y hy => ?_⟩ (((((F.up (by decide) (by decide)).up (by decide) (by decide)).up (by decide) (by decide)).up (by decide) (by decide)).up24)
              · rw [up2_same, List.length_append]; rfl
              · rw [up2_row (by decide)]
                by_cases e : j < B.1.length
                · rw [List.getElem?_append_left e] at hy
                  rw [up2_ne (by omega), up2_row (by decide), up2_row (by decide), up2_row (by decide)]
                  exact E.2.1 j y hy
                · rw [List.getElem?_append_right (by omega)] at hy
                  have h0 : j - B.1.length < 1 := (List.getElem?_eq_some_iff.mp hy).1
                  have h1 : j = B.1.length := by omega
                  rw [List.mem_singleton.mp (List.mem_of_getElem? hy), h1, up2_same]
              · show _ = fvI (updN B.2.1 t (B.2.1 x + 1) y)
                rw [up2_row (by decide), up2_row (by decide), up2_row (by decide), up2_row (by decide), up2_at, updN]
                by_cases e : y = t
                · rw [if_pos e, if_pos e, fvI_pos (by omega), Nat.add_sub_cancel, Nat.sub_add_cancel x1]
                · rw [if_neg e, if_neg e]
                  exact E.2.2.1 y hy
              · have hy' : 2 ≤ updN B.2.1 t (B.2.1 x + 1) y := hy
                show _ = nI (updN B.2.2 t (8 * x + w) y / 8) ∧ _ = nI (updN B.2.2 t (8 * x + w) y % 8)
                by_cases e : y = t
                · have e1 : updN B.2.2 t (8 * x + w) y = 8 * x + w := by rw [updN, if_pos e]
                  rw [e1, e]
                  refine ⟨?_, ?_⟩
                  · rw [up2_row (by decide), up2_row (by decide), up2_row (by decide), up2_same]
                    exact congrArg nI (by omega)
                  · rw [up2_row (by decide), up2_row (by decide), up2_same]
                    exact congrArg nI (by omega)
                · have e1 : updN B.2.2 t (8 * x + w) y = B.2.2 y := by rw [updN, if_neg e]
                  rw [updN, if_neg e] at hy'
                  have g := E.2.2.2 y hy'
                  rw [e1]
                  refine ⟨?_, ?_⟩
                  · rw [up2_row (by decide), up2_row (by decide), up2_row (by decide), up2_ne e, up2_row (by decide)]
                    exact g.1
                  · rw [up2_row (by decide), up2_row (by decide), up2_ne e, up2_row (by decide), up2_row (by decide)]
                    exact g.2
          · rw [if_neg c0] at ih1
            have et : hh 88 t = nI (B.2.1 t - 1) := by rw [E.2.2.1 t t10, fvI_pos (by omega)]
            have b4 := Nat.le_trans (I1.2.2.2.1 t) I1.len
            refine R_is4 (n := 99) C dX11_spread_97 rfl (Nat.le_of_ble_eq_true rfl) rfl ?_
            refine R_al0 (n := 100) C dX11_spread_99 rfl ?_
            refine M_getR (n := 103) C fl_X11_52 dX11_spread_100 rfl rfl rfl ?_
            refine R_il4 (n := 105) C dX11_spread_103 rfl ?_
            refine M_iald (n := 106) C dX11_spread_105 rfl t10 et rfl ?_
            refine R_if_geN (tgt := 171) C dX11_spread_106 rfl rfl (by omega) ?_
            refine R_inc3 (n := 174) C dX11_spread_171 rfl (Nat.le_of_ble_eq_true rfl) (inc_1 _) rfl ?_
            refine R_goto (n := 62) C dX11_spread_174 rfl ?_
            exact ih1 hh _ (by omega) (by omega) E F
  have outer : ∀ (m i : Nat) (B : BS) (hh : Hp) (o3 o4 : Option Value), i + m = 1024 → BI σ B → Z = brn σ W m i B → RMB B hh → FrQ h hh → Rn X 0 0 52 [some (.ref (r 73)), some (.int (nI W)), some (.int (nI i)), o3, o4] [] (LY r) hh := by
    intro m
    induction m with
    | zero =>
      intro i B hh o3 o4 a1 I hz E F
      have len := I.len
      refine R_il2 (n := 53) C dX11_spread_52 rfl ?_
      refine R_al0 (n := 54) C dX11_spread_53 rfl ?_
      refine M_getI (n := 57) C fl_X11_208 dX11_spread_54 rfl rfl E.1 rfl ?_
      refine R_icmp_geN (tgt := 183) C dX11_spread_57 rfl rfl (by omega) (by omega) (fun c1 => ?_) (fun c1 => ?_)
      · refine R_vret C CR (Nat.zero_le _) (Nat.zero_le _) dX11_spread_183 ?_
        exact ⟨rfl, rfl, by rw [hz]; exact E, F⟩
      · omega
    | succ m ih =>
      intro i B hh o3 o4 a1 I hz E F
      have len := I.len
      refine R_il2 (n := 53) C dX11_spread_52 rfl ?_
      refine R_al0 (n := 54) C dX11_spread_53 rfl ?_
      refine M_getI (n := 57) C fl_X11_208 dX11_spread_54 rfl rfl E.1 rfl ?_
      refine R_icmp_geN (tgt := 183) C dX11_spread_57 rfl rfl (by omega) (by omega) (fun c1 => ?_) (fun c1 => ?_)
      · refine R_vret C CR (Nat.zero_le _) (Nat.zero_le _) dX11_spread_183 ?_
        have e : B.1[i]? = none := List.getElem?_eq_none (by omega)
        rw [brn, e] at hz
        exact ⟨rfl, rfl, by rw [hz]; exact E, F⟩
      · have e : B.1[i]? = some B.1[i] := List.getElem?_eq_getElem c1
        rw [brn, e] at hz
        have x0 := (I.1 i _ e).2
        refine R_ic (n := 61) C dX11_spread_60 ci_0 rfl ?_
        refine R_is3 (n := 62) C dX11_spread_61 rfl (Nat.le_of_ble_eq_true rfl) rfl ?_
        refine inner i _ B (by omega) I e (fun h2 o3 o4 E2 F2 => ?_) 7 0 hh _ (by omega) (by omega) E F
        refine R_inc2 (n := 180) C dX11_spread_177 rfl (Nat.le_of_ble_eq_true rfl) (inc_1 _) rfl ?_
        refine R_goto (n := 52) C dX11_spread_180 rfl ?_
        exact ih (i + 1) _ h2 _ _ (by omega) (bwd_ok J I x0 (Nat.le_refl _)) hz E2 F2
  have fill : ∀ (m i : Nat) (hh : Hp), 1024 < i + m → i ≤ 1024 → (∀ x, x < i → hh 88 x = -6) → FrQ h hh → Rn X 0 0 2 [some (.ref (r 73)), some (.int (nI W)), some (.int (nI i)), none, none] [] (LY r) hh := by
    intro m
    induction m with
    | zero => intro i hh a1 a2; omega
    | succ m ih =>
      intro i hh a1 a2 A F
      refine R_il2 (n := 3) C dX11_spread_2 rfl ?_
      refine R_sp (n := 6) C dX11_spread_3 cs_1024 rfl ?_
      refine R_icmp_geN (tgt := 23) C dX11_spread_6 rfl rfl (by omega) (by omega) (fun c1 => ?_) (fun c1 => ?_)
      · obtain rfl : i = 1024 := by omega
        have R1 := (F.up24 (v := nI 1)).rm R
        refine R_al0 (n := 24) C dX11_spread_23 rfl ?_
        refine R_ic (n := 25) C dX11_spread_24 ci_1 rfl ?_
        refine M_putI (n := 28) C fl_X11_208 dX11_spread_25 rfl rfl rfl rfl rfl ?_
        refine R_al0 (n := 29) C dX11_spread_28 rfl ?_
        refine M_getR (n := 32) C fl_X11_49 dX11_spread_29 rfl rfl rfl ?_
        refine R_ic (n := 33) C dX11_spread_32 ci_0 rfl ?_
        refine R_al0 (n := 34) C dX11_spread_33 rfl ?_
        refine M_callV (n := 37) C (c_mLookNow _ _ _ r R1 J) mw_X11_lookNow ml_X11_211 iv_X11_lookNow dX11_spread_34 rfl rfl rfl rfl (Nat.le_of_ble_eq_true rfl) ⟨Nat.le_of_ble_eq_true rfl, Nat.le_of_ble_eq_true rfl⟩ ⟨Nat.le_refl _, Nat.le_refl _⟩ rfl (pEs ?_)
        refine M_iast (n := 38) C dX11_spread_37 rfl (by decide) rfl ?_
        refine R_al0 (n := 39) C dX11_spread_38 rfl ?_
        refine M_getR (n := 42) C fl_X11_52 dX11_spread_39 rfl rfl rfl ?_
        refine R_al0 (n := 43) C dX11_spread_42 rfl ?_
        refine M_getR (n := 46) C fl_X11_49 dX11_spread_43 rfl rfl rfl ?_
        refine R_ic (n := 47) C dX11_spread_46 ci_0 rfl ?_
        refine M_iald (n := 48) C dX11_spread_47 rfl (by decide) up2_same rfl ?_
        refine R_ic (n := 49) C dX11_spread_48 ci_0 rfl ?_
        refine M_iast (n := 50) C dX11_spread_49 rfl nu rfl ?_
        refine R_ic (n := 51) C dX11_spread_50 ci_0 rfl ?_
        refine R_is2 (n := 52) C dX11_spread_51 rfl (Nat.le_of_ble_eq_true rfl) rfl ?_
        refine outer 1024 0 (bf0 σ) _ _ _ rfl (bf0_ok J) hZ.symm ⟨?_, fun i x hx => ?_, fun x hx => ?_, fun x hx => ?_⟩ ((F.up24.up (by decide) (by decide)).up (by decide) (by decide))
        · rw [up2_row (by decide), up2_row (by decide), up2_same]; rfl
        · have h0 : i < 1 := (List.getElem?_eq_some_iff.mp hx).1
          have h1 : i = 0 := by omega
          rw [List.mem_singleton.mp (List.mem_of_getElem? hx), h1, up2_row (by decide), up2_same]
        · show _ = fvI (if x = nuz σ then 1 else 0)
          rw [up2_at]
          by_cases e : x = nuz σ
          · rw [if_pos e, if_pos e]; rfl
          · rw [if_neg e, if_neg e, up2_row (by decide), up2_row (by decide)]
            exact A x hx
        · have hx' : 2 ≤ (if x = nuz σ then 1 else 0) := hx
          split at hx' <;> omega
      · refine R_al0 (n := 10) C dX11_spread_9 rfl ?_
        refine M_getR (n := 13) C fl_X11_52 dX11_spread_10 rfl rfl rfl ?_
        refine R_il2 (n := 14) C dX11_spread_13 rfl ?_
        refine R_bp (n := 16) C dX11_spread_14 cb_m6 rfl ?_
        refine M_iast (n := 17) C dX11_spread_16 rfl c1 rfl ?_
        refine R_inc2 (n := 20) C dX11_spread_17 rfl (Nat.le_of_ble_eq_true rfl) (inc_1 _) rfl ?_
        refine R_goto (n := 2) C dX11_spread_20 rfl ?_
        refine ih (i + 1) _ (by omega) (by omega) (fun x hx => ?_) (F.up (by decide) (by decide))
        by_cases e : x = i
        · rw [e, up2_same]
        · rw [up2_ne e]; exact A x (by omega)
  refine R_ic (n := 1) C dX11_spread_0 ci_0 rfl ?_
  refine R_is2 (n := 2) C dX11_spread_1 rfl (Nat.le_of_ble_eq_true rfl) rfl ?_
  exact fill 1025 0 h (by omega) (by omega) (fun x hx => absurd hx (Nat.not_lt_zero x)) FrQ.rf
