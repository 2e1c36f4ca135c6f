theorem dnz_inv {σ : WS} {e : EV} (I : Inv σ) (O : EOk σ e) : Inv (dnz σ e) := by
  obtain ⟨i1, i2, i3, i4, i5⟩ := I
  refine ⟨i1, fun k hk => ?_, i3, i4, fun k h1 hk => ?_⟩
  · have a := i2 k hk
    have o := O k hk
    rw [dnz_0 hk, dnz_1 hk, dnz_o (by decide), dnz_o (by decide), dnz_o (by decide)]
    exact ⟨o.1, o.2.1, a.2.2⟩
  · have a := i5 k h1 hk
    have o := (O k hk).2.2 h1
    rw [dnz_0 hk, dnz_1 hk, dnz_o (by decide), dnz_o (by decide), dnz_o (by decide)]
    exact ⟨o.1, o.2, a.2.2⟩
theorem qz_dn {σ : WS} {e : EV} {w k l : Nat} : qz (dnz σ e) w k l = qz σ w k l := by
  unfold qz
  rw [dnz_o (by decide), dnz_o (by decide)]
theorem tz_dn {σ : WS} {e : EV} {k l b : Nat} : tz (dnz σ e) k l b = tz σ k l b := by
  unfold tz
  rw [dnz_o (by decide)]
theorem dn_s0 {σ : WS} {e : EV} {i t : Nat} (hi : i < 5) (c : Nat × Nat × Nat) : setA (dnz σ e) 0 i t = dnz σ (updN e.1 i t, e.2.1, c) := by
  unfold setA dnz
  congr 3
  funext a b
  show (if a = 0 ∧ b = i then t else if a = 0 ∧ b < 5 then e.1 b else if a = 1 ∧ b < 5 then e.2.1 b else sA σ a b) = (if a = 0 ∧ b < 5 then updN e.1 i t b else if a = 1 ∧ b < 5 then e.2.1 b else sA σ a b)
  unfold updN
  by_cases h1 : a = 0
  · by_cases h2 : b = i
    · rw [if_pos ⟨h1, h2⟩, if_pos ⟨h1, by omega⟩, if_pos h2]
    · rw [if_neg (by omega), if_neg h2]
  · simp [h1]
theorem dn_s1 {σ : WS} {e : EV} {i t : Nat} (hi : i < 5) (c : Nat × Nat × Nat) : setA (dnz σ e) 1 i t = dnz σ (e.1, updN e.2.1 i t, c) := by
  unfold setA dnz
  congr 3
  funext a b
  show (if a = 1 ∧ b = i then t else if a = 0 ∧ b < 5 then e.1 b else if a = 1 ∧ b < 5 then e.2.1 b else sA σ a b) = (if a = 0 ∧ b < 5 then e.1 b else if a = 1 ∧ b < 5 then updN e.2.1 i t b else sA σ a b)
  unfold updN
  by_cases h1 : a = 1
  · by_cases h2 : b = i
    · rw [if_pos ⟨h1, h2⟩, if_neg (by omega), if_pos ⟨h1, by omega⟩, if_pos h2]
    · rw [if_neg (by omega), if_neg h2]
  · rw [if_neg (by omega)]
    by_cases h3 : a = 0 ∧ b < 5
    · rw [if_pos h3, if_pos h3]
    · rw [if_neg h3, if_neg h3, if_neg (by omega), if_neg (by omega)]
theorem RM.fl {σ : WS} {h : Hp} (R : RM σ h) {k : Nat} {v : Int32} (hk : k ≠ 0 ∧ k ≠ 6 ∧ k ≠ 11) : RM σ (up2 h 73 k v) :=
  R.f (fun a h1 h2 => up2_row (by omega)) (up2_ne (Ne.symm hk.1)) (up2_ne (Ne.symm hk.2.1)) (up2_ne (Ne.symm hk.2.2))
theorem addz (o : Int32) (a b : Nat) : o + nI a + nI b = o + nI (a + b) := by rw [Int32.add_assoc, nI_add]
def REM (o : Int32 × Int32 × Int32) (σ : WS) (e : EV) (h : Hp) : Prop := RM (dnz σ e) h ∧ h 73 16 = o.1 + nI e.2.2.1 ∧ h 73 18 = o.2.1 + nI e.2.2.2.1 ∧ h 73 17 = o.2.2 + nI e.2.2.2.2
abbrev VA : List Nat := [74, 75]
abbrev VS : List Nat := [16, 17, 18]
set_option maxRecDepth 20000 in
set_option maxHeartbeats 4000000 in
theorem c_mSayWord (l : Launch) (D : va_G) (cA : Nat → ClassId) (r : Nat → Nat) {h : Hp} {σ : WS} {o : Int32 × Int32 × Int32} {e : EV} (E : REM o σ e h) (I : Inv σ) (O : EOk σ e) {w : Nat} (hw : w < 6) : Cn l D cA yX11_sayWord cX11_sayWord 5 none 1 0 0 [.ref (r 73), .int (nI w)] (LY r) h (pG none (LY r) (fun h' => REM o σ (hrz σ w (sN σ) e) h' ∧ FrA VA VS h h')) := by
  refine Cn.of (lv := [some (.ref (r 73)), some (.int (nI w)), none, none, none]) (by decide +kernel) (Nat.le_of_ble_eq_true rfl) rfl (fun X hnm C CR => ?_)
  have n5 := I.n5
  have loop : ∀ (m i : Nat) (h1 : Hp) (o3 o4 : Option Value), sN σ < i + m → i ≤ sN σ → REM o σ (hrz σ w i e) h1 → FrA VA VS h h1 → Rn X 0 0 2 [some (.ref (r 73)), some (.int (nI w)), some (.int (nI i)), o3, o4] [] (LY r) h1 := by
    intro m
    induction m with
    | zero => intro i h1 o3 o4 a1 a2; omega
    | succ m ih =>
      intro i h1 o3 o4 a1 a2 E1 F1
      have O1 := hrz_ok (w := w) O (k := i) (by omega)
      have hs : hrz σ w (i + 1) e = hr1 σ w i (hrz σ w i e) := rfl
      obtain ⟨e', he'⟩ : ∃ e', hrz σ w i e = e' := ⟨_, rfl⟩
      rw [he'] at hs E1 O1
      refine R_il2 (n := 3) C dX11_sayWord_2 rfl ?_
      refine R_al0 (n := 4) C dX11_sayWord_3 rfl ?_
      refine M_getI (n := 7) C fl_X11_94 dX11_sayWord_4 rfl rfl (show _ = nI (sN σ) from E1.1.1) rfl ?_
      refine R_icmp_geN (tgt := 135) C dX11_sayWord_7 rfl rfl (by omega) (by omega) (fun c1 => ?_) (fun c1 => ?_)
      · refine R_vret C CR (Nat.zero_le _) (Nat.zero_le _) dX11_sayWord_135 ?_
        exact ⟨rfl, rfl, by rw [show sN σ = i by omega, he']; exact E1, F1⟩
      · have hi : i < 5 := by omega
        have I1 := dnz_inv I O1
        have o1 := (O1 i hi).1
        have o2 := (O1 i hi).2.1
        have q4 := qz_le I (l := e'.1 i) hw hi
        have e74 : h1 74 i = nI (e'.1 i) := by rw [mLk E1.1 hi, dnz_0 hi]
        have e75 : h1 75 i = nI (e'.2.1 i) := by rw [mLg E1.1 hi, dnz_1 hi]
        refine R_al0 (n := 11) C dX11_sayWord_10 rfl ?_
        refine R_il1 (n := 12) C dX11_sayWord_11 rfl ?_
        refine R_il2 (n := 13) C dX11_sayWord_12 rfl ?_
        refine R_al0 (n := 14) C dX11_sayWord_13 rfl ?_
        refine M_getR (n := 17) C fl_X11_7 dX11_sayWord_14 rfl rfl rfl ?_
        refine R_il2 (n := 18) C dX11_sayWord_17 rfl ?_
        refine M_iald (n := 19) C dX11_sayWord_18 rfl hi e74 rfl ?_
        refine M_callV (n := 22) C (c_mHeeds _ _ _ r E1.1 I1 hw hi o1) mw_X11_heeds ml_X11_158 iv_X11_heeds dX11_sayWord_19 rfl rfl rfl rfl (Nat.le_of_ble_eq_true rfl) ⟨Nat.le_of_ble_eq_true rfl, Nat.le_of_ble_eq_true rfl⟩ ⟨Nat.le_refl _, Nat.le_refl _⟩ rfl (pEs ?_)
        rw [qz_dn]
        obtain ⟨b, hb⟩ : ∃ b, qz σ w i (e'.1 i) = b := ⟨_, rfl⟩
        rw [hb] at q4 ⊢
        refine R_is3 (n := 23) C dX11_sayWord_22 rfl (Nat.le_of_ble_eq_true rfl) rfl ?_
        refine R_al0 (n := 24) C dX11_sayWord_23 rfl ?_
        refine M_getR (n := 27) C fl_X11_13 dX11_sayWord_24 rfl rfl rfl ?_
        refine R_il2 (n := 28) C dX11_sayWord_27 rfl ?_
        refine M_iald (n := 29) C dX11_sayWord_28 rfl hi e75 rfl ?_
        refine R_il3 (n := 30) C dX11_sayWord_29 rfl ?_
        refine R_icmp_ltN (tgt := 37) C dX11_sayWord_30 rfl rfl (by omega) (by omega) (fun c2 => ?_) (fun c2 => ?_)
        · refine R_ic (n := 38) C dX11_sayWord_37 ci_0 rfl ?_
          refine R_is4 (n := 40) C dX11_sayWord_38 rfl (Nat.le_of_ble_eq_true rfl) rfl ?_
          refine R_al0 (n := 41) C dX11_sayWord_40 rfl ?_
          refine R_dup (n := 42) C dX11_sayWord_41 rfl rfl ?_
          refine M_getI (n := 45) C fl_X11_162 dX11_sayWord_42 rfl rfl E1.2.2.1 rfl ?_
          refine R_il4 (n := 47) C dX11_sayWord_45 rfl ?_
          refine R_if_eqN (tgt := 54) C dX11_sayWord_47 rfl rfl (by omega) (fun d1 => ?_) (fun d1 => ?_)
          · refine R_ic (n := 55) C dX11_sayWord_54 ci_1 rfl ?_
            refine R_iadd (n := 56) C dX11_sayWord_55 rfl ?_
            refine M_putI (n := 59) C fl_X11_162 dX11_sayWord_56 rfl rfl rfl rfl rfl ?_
            refine R_al0 (n := 60) C dX11_sayWord_59 rfl ?_
            refine R_dup (n := 61) C dX11_sayWord_60 rfl rfl ?_
            refine M_getI (n := 64) C fl_X11_165 dX11_sayWord_61 rfl rfl (up2_gne (by decide) E1.2.1) rfl ?_
            refine R_il4 (n := 66) C dX11_sayWord_64 rfl ?_
            rw [addz]
            refine R_if_eqN (tgt := 73) C dX11_sayWord_66 rfl rfl (by omega) (fun d2 => ?_) (fun d2 => ?_)
            · refine R_ic (n := 74) C dX11_sayWord_73 ci_0 rfl ?_
              refine R_iadd (n := 75) C dX11_sayWord_74 rfl ?_
              refine M_putI (n := 78) C fl_X11_165 dX11_sayWord_75 rfl rfl rfl rfl rfl ?_
              refine R_al0 (n := 79) C dX11_sayWord_78 rfl ?_
              refine M_getR (n := 82) C fl_X11_7 dX11_sayWord_79 rfl rfl rfl ?_
              refine R_il2 (n := 83) C dX11_sayWord_82 rfl ?_
              refine R_il4 (n := 85) C dX11_sayWord_83 rfl ?_
              rw [addz]
              refine R_if_eqN (tgt := 103) C dX11_sayWord_85 rfl rfl (by omega) (fun d3 => ?_) (fun d3 => ?_)
              · have x74 : (up2 (up2 h1 73 18 (o.2.1 + nI (e'.2.2.2.1 + 1))) 73 16 (o.1 + nI (e'.2.2.1 + 0))) 74 i = nI (e'.1 i) := up2_get (by decide) (up2_get (by decide) e74)
                have x75 := up2_get (a := 74) (k := i) (v := nI (e'.1 i)) (show (75 : Nat) ≠ 74 by decide) (up2_get (a := 73) (k := 16) (v := o.1 + nI (e'.2.2.1 + 0)) (show (75 : Nat) ≠ 73 by decide) (up2_get (a := 73) (k := 18) (v := o.2.1 + nI (e'.2.2.2.1 + 1)) (show (75 : Nat) ≠ 73 by decide) e75))
                refine R_al0 (n := 104) C dX11_sayWord_103 rfl ?_
                refine M_getR (n := 107) C fl_X11_7 dX11_sayWord_104 rfl rfl rfl ?_
                refine R_il2 (n := 108) C dX11_sayWord_107 rfl ?_
                refine M_iald (n := 109) C dX11_sayWord_108 rfl hi x74 rfl ?_
                refine M_iast (n := 110) C dX11_sayWord_109 rfl hi rfl ?_
                refine R_al0 (n := 111) C dX11_sayWord_110 rfl ?_
                refine M_getR (n := 114) C fl_X11_13 dX11_sayWord_111 rfl rfl rfl ?_
                refine R_il2 (n := 115) C dX11_sayWord_114 rfl ?_
                refine R_dup2 (n := 116) C dX11_sayWord_115 rfl rfl rfl ?_
                refine M_iald (n := 117) C dX11_sayWord_116 rfl hi x75 rfl ?_
                refine R_il4 (n := 119) C dX11_sayWord_117 rfl ?_
                refine R_if_eqN (tgt := 126) C dX11_sayWord_119 rfl rfl (by omega) (fun d4 => ?_) (fun d4 => ?_)
                · refine R_ic (n := 127) C dX11_sayWord_126 ci_0 rfl ?_
                  refine R_isubN (n := 128) C dX11_sayWord_127 (by omega) rfl ?_
                  refine M_iast (n := 129) C dX11_sayWord_128 rfl hi rfl ?_
                  refine R_inc2 (n := 132) C dX11_sayWord_129 rfl (Nat.le_of_ble_eq_true rfl) (inc_1 _) rfl ?_
                  refine R_goto (n := 2) C dX11_sayWord_132 rfl ?_
                  refine ih (i + 1) _ _ _ (by omega) (by omega) ?_ ((((F1.fld (by decide)).fld (by decide)).up (by decide) (by decide)).up (by decide) (by decide))
                  rw [hs, hr1, hb, if_neg (by omega)]
                  have K0 : RM (dnz σ e') (up2 _ 74 i (nI (sA (dnz σ e') 0 i))) := RM.kp (j := 0) (k := i) ((E1.1.fl (k := 18) (v := o.2.1 + nI (e'.2.2.2.1 + 1)) (by decide)).fl (k := 16) (v := o.1 + nI (e'.2.2.1 + 0)) (by decide))
                  have K1 : RM (dnz σ e') (up2 _ 75 i (nI (sA (dnz σ e') 1 i))) := RM.kp (j := 1) (k := i) K0
                  rw [dnz_0 hi, dnz_1 hi] at K1
                  refine ⟨K1, ?_, ?_, ?_⟩
                  · rw [up2_row (by decide), up2_row (by decide), up2_same]; rfl
                  · rw [up2_row (by decide), up2_row (by decide), up2_ne (by decide), up2_same]
                  · rw [up2_row (by decide), up2_row (by decide), up2_ne (by decide), up2_ne (by decide)]; exact E1.2.2.2
                · exact absurd rfl d4
              · exact absurd rfl d3
            · exact absurd rfl d2
          · exact absurd rfl d1
        · refine R_ic (n := 34) C dX11_sayWord_33 ci_1 rfl ?_
          refine R_goto (n := 38) C dX11_sayWord_34 rfl ?_
          refine R_is4 (n := 40) C dX11_sayWord_38 rfl (Nat.le_of_ble_eq_true rfl) rfl ?_
          refine R_al0 (n := 41) C dX11_sayWord_40 rfl ?_
          refine R_dup (n := 42) C dX11_sayWord_41 rfl rfl ?_
          refine M_getI (n := 45) C fl_X11_162 dX11_sayWord_42 rfl rfl E1.2.2.1 rfl ?_
          refine R_il4 (n := 47) C dX11_sayWord_45 rfl ?_
          refine R_if_eqN (tgt := 54) C dX11_sayWord_47 rfl rfl (by omega) (fun d1 => ?_) (fun d1 => ?_)
          · exact absurd d1 (by decide)
          · refine R_ic (n := 51) C dX11_sayWord_50 ci_0 rfl ?_
            refine R_goto (n := 55) C dX11_sayWord_51 rfl ?_
            refine R_iadd (n := 56) C dX11_sayWord_55 rfl ?_
            refine M_putI (n := 59) C fl_X11_162 dX11_sayWord_56 rfl rfl rfl rfl rfl ?_
            refine R_al0 (n := 60) C dX11_sayWord_59 rfl ?_
            refine R_dup (n := 61) C dX11_sayWord_60 rfl rfl ?_
            refine M_getI (n := 64) C fl_X11_165 dX11_sayWord_61 rfl rfl (up2_gne (by decide) E1.2.1) rfl ?_
            refine R_il4 (n := 66) C dX11_sayWord_64 rfl ?_
            rw [addz]
            refine R_if_eqN (tgt := 73) C dX11_sayWord_66 rfl rfl (by omega) (fun d2 => ?_) (fun d2 => ?_)
            · exact absurd d2 (by decide)
            · refine R_il3 (n := 70) C dX11_sayWord_69 rfl ?_
              refine R_goto (n := 74) C dX11_sayWord_70 rfl ?_
              refine R_iadd (n := 75) C dX11_sayWord_74 rfl ?_
              refine M_putI (n := 78) C fl_X11_165 dX11_sayWord_75 rfl rfl rfl rfl rfl ?_
              refine R_al0 (n := 79) C dX11_sayWord_78 rfl ?_
              refine M_getR (n := 82) C fl_X11_7 dX11_sayWord_79 rfl rfl rfl ?_
              refine R_il2 (n := 83) C dX11_sayWord_82 rfl ?_
              refine R_il4 (n := 85) C dX11_sayWord_83 rfl ?_
              rw [addz]
              refine R_if_eqN (tgt := 103) C dX11_sayWord_85 rfl rfl (by omega) (fun d3 => ?_) (fun d3 => ?_)
              · exact absurd d3 (by decide)
              · have x74 : (up2 (up2 h1 73 18 (o.2.1 + nI (e'.2.2.2.1 + 0))) 73 16 (o.1 + nI (e'.2.2.1 + b))) 74 i = nI (e'.1 i) := up2_get (by decide) (up2_get (by decide) e74)
                have K0 := (E1.1.fl (k := 18) (v := o.2.1 + nI (e'.2.2.2.1 + 0)) (by decide)).fl (k := 16) (v := o.1 + nI (e'.2.2.1 + b)) (by decide)
                refine R_al0 (n := 89) C dX11_sayWord_88 rfl ?_
                refine R_il2 (n := 90) C dX11_sayWord_89 rfl ?_
                refine R_al0 (n := 91) C dX11_sayWord_90 rfl ?_
                refine M_getR (n := 94) C fl_X11_7 dX11_sayWord_91 rfl rfl rfl ?_
                refine R_il2 (n := 95) C dX11_sayWord_94 rfl ?_
                refine M_iald (n := 96) C dX11_sayWord_95 rfl hi x74 rfl ?_
                refine R_il3 (n := 97) C dX11_sayWord_96 rfl ?_
                refine M_callV (n := 100) C (c_mTurned _ _ _ r K0 I1 hi o1 q4) mw_X11_turned ml_X11_168 iv_X11_turned dX11_sayWord_97 rfl rfl rfl rfl (Nat.le_of_ble_eq_true rfl) ⟨Nat.le_of_ble_eq_true rfl, Nat.le_of_ble_eq_true rfl⟩ ⟨Nat.le_refl _, Nat.le_refl _⟩ rfl (pEs ?_)
                rw [tz_dn]
                refine R_goto (n := 109) C dX11_sayWord_100 rfl ?_
                have x75 := up2_get (a := 74) (k := i) (v := nI (tz σ i (e'.1 i) b)) (show (75 : Nat) ≠ 74 by decide) (up2_get (a := 73) (k := 16) (v := o.1 + nI (e'.2.2.1 + b)) (show (75 : Nat) ≠ 73 by decide) (up2_get (a := 73) (k := 18) (v := o.2.1 + nI (e'.2.2.2.1 + 0)) (show (75 : Nat) ≠ 73 by decide) e75))
                refine M_iast (n := 110) C dX11_sayWord_109 rfl hi rfl ?_
                refine R_al0 (n := 111) C dX11_sayWord_110 rfl ?_
                refine M_getR (n := 114) C fl_X11_13 dX11_sayWord_111 rfl rfl rfl ?_
                refine R_il2 (n := 115) C dX11_sayWord_114 rfl ?_
                refine R_dup2 (n := 116) C dX11_sayWord_115 rfl rfl rfl ?_
                refine M_iald (n := 117) C dX11_sayWord_116 rfl hi x75 rfl ?_
                refine R_il4 (n := 119) C dX11_sayWord_117 rfl ?_
                refine R_if_eqN (tgt := 126) C dX11_sayWord_119 rfl rfl (by omega) (fun d4 => ?_) (fun d4 => ?_)
                · exact absurd d4 (by decide)
                · refine R_il3 (n := 123) C dX11_sayWord_122 rfl ?_
                  refine R_goto (n := 127) C dX11_sayWord_123 rfl ?_
                  refine R_isubN (n := 128) C dX11_sayWord_127 (by omega) rfl ?_
                  refine M_iast (n := 129) C dX11_sayWord_128 rfl hi rfl ?_
                  refine R_inc2 (n := 132) C dX11_sayWord_129 rfl (Nat.le_of_ble_eq_true rfl) (inc_1 _) rfl ?_
                  refine R_goto (n := 2) C dX11_sayWord_132 rfl ?_
                  refine ih (i + 1) _ _ _ (by omega) (by omega) ?_ ((((F1.fld (by decide)).fld (by decide)).up (by decide) (by decide)).up (by decide) (by decide))
                  rw [hs, hr1, hb, if_pos (by omega)]
                  have K1 : RM (setA (dnz σ e') 0 i (tz σ i (e'.1 i) b)) (up2 _ 74 i (nI (tz σ i (e'.1 i) b))) := RM.set K0 (j := 0) (k := i)
                  have K2 : RM (setA (setA (dnz σ e') 0 i (tz σ i (e'.1 i) b)) 1 i (e'.2.1 i - b)) (up2 _ 75 i (nI (e'.2.1 i - b))) := RM.set K1 (j := 1) (k := i)
                  rw [dn_s0 hi e'.2.2, dn_s1 hi (e'.2.2.1 + b, e'.2.2.2.1, e'.2.2.2.2)] at K2
                  refine ⟨K2, ?_, ?_, ?_⟩
                  · rw [up2_row (by decide), up2_row (by decide), up2_same]
                  · rw [up2_row (by decide), up2_row (by decide), up2_ne (by decide), up2_same]; rfl
                  · rw [up2_row (by decide), up2_row (by decide), up2_ne (by decide), up2_ne (by decide)]; exact E1.2.2.2
  refine R_ic (n := 1) C dX11_sayWord_0 ci_0 rfl ?_
  refine R_is2 (n := 2) C dX11_sayWord_1 rfl (Nat.le_of_ble_eq_true rfl) rfl ?_
  exact loop (sN σ + 1) 0 h none none (by omega) (by omega) E FrA.rf
set_option maxRecDepth 20000 in
set_option maxHeartbeats 4000000 in
theorem c_mThunder (l : Launch) (D : va_G) (cA : Nat → ClassId) (r : Nat → Nat) {h : Hp} {σ : WS} {o : Int32 × Int32 × Int32} {e : EV} (E : REM o σ e h) (I : Inv σ) (O : EOk σ e) : Cn l D cA yX11_thunder cX11_thunder 2 none 0 0 0 [.ref (r 73)] (LY r) h (pG none (LY r) (fun h' => REM o σ (thz (sN σ) e) h' ∧ FrA VA VS h h')) := by
  refine Cn.of (lv := [some (.ref (r 73)), none]) (by decide +kernel) (Nat.le_of_ble_eq_true rfl) rfl (fun X hnm C CR => ?_)
  have n5 := I.n5
  have loop : ∀ (m i : Nat) (h1 : Hp), sN σ < i + m → i ≤ sN σ → REM o σ (thz i e) h1 → FrA VA VS h h1 → Rn X 0 0 2 [some (.ref (r 73)), some (.int (nI i))] [] (LY r) h1 := by
    intro m
    induction m with
    | zero => intro i h1 a1 a2; omega
    | succ m ih =>
      intro i h1 a1 a2 E1 F1
      have O1 := thz_ok O (k := i) (by omega)
      have hs : thz (i + 1) e = (updN (thz i e).1 i (((thz i e).1 i + 2) % 4), (thz i e).2) := rfl
      obtain ⟨e', he'⟩ : ∃ e', thz i e = e' := ⟨_, rfl⟩
      rw [he'] at hs E1 O1
      refine R_il1 (n := 3) C dX11_thunder_2 rfl ?_
      refine R_al0 (n := 4) C dX11_thunder_3 rfl ?_
      refine M_getI (n := 7) C fl_X11_94 dX11_thunder_4 rfl rfl (show _ = nI (sN σ) from E1.1.1) rfl ?_
      refine R_icmp_geN (tgt := 32) C dX11_thunder_7 rfl rfl (by omega) (by omega) (fun c1 => ?_) (fun c1 => ?_)
      · refine R_vret C CR (Nat.zero_le _) (Nat.zero_le _) dX11_thunder_32 ?_
        exact ⟨rfl, rfl, by rw [show sN σ = i by omega, he']; exact E1, F1⟩
      · have hi : i < 5 := by omega
        have o1 := (O1 i hi).1
        have e74 : h1 74 i = nI (e'.1 i) := by rw [mLk E1.1 hi, dnz_0 hi]
        refine R_al0 (n := 11) C dX11_thunder_10 rfl ?_
        refine M_getR (n := 14) C fl_X11_7 dX11_thunder_11 rfl rfl rfl ?_
        refine R_il1 (n := 15) C dX11_thunder_14 rfl ?_
        refine R_al0 (n := 16) C dX11_thunder_15 rfl ?_
        refine M_getR (n := 19) C fl_X11_7 dX11_thunder_16 rfl rfl rfl ?_
        refine R_il1 (n := 20) C dX11_thunder_19 rfl ?_
        refine M_iald (n := 21) C dX11_thunder_20 rfl hi e74 rfl ?_
        refine R_ic (n := 22) C dX11_thunder_21 ci_2 rfl ?_
        refine R_iaddN (n := 23) C dX11_thunder_22 rfl ?_
        refine R_ic (n := 24) C dX11_thunder_23 ci_4 rfl ?_
        refine R_iremN (n := 25) C dX11_thunder_24 (by omega) (by omega) (by omega) rfl ?_
        refine M_iast (n := 26) C dX11_thunder_25 rfl hi rfl ?_
        refine R_inc1 (n := 29) C dX11_thunder_26 rfl (Nat.le_of_ble_eq_true rfl) (inc_1 _) rfl ?_
        refine R_goto (n := 2) C dX11_thunder_29 rfl ?_
        refine ih (i + 1) _ (by omega) (by omega) ?_ (F1.up (by decide) (by decide))
        rw [hs]
        have K1 : RM (setA (dnz σ e') 0 i ((e'.1 i + 2) % 4)) (up2 _ 74 i (nI ((e'.1 i + 2) % 4))) := RM.set E1.1 (j := 0) (k := i)
        rw [dn_s0 hi e'.2.2] at K1
        exact ⟨K1, up2_get (by decide) E1.2.1, up2_get (by decide) E1.2.2.1, up2_get (by decide) E1.2.2.2⟩
  refine R_ic (n := 1) C dX11_thunder_0 ci_0 rfl ?_
  refine R_is1 (n := 2) C dX11_thunder_1 rfl (Nat.le_of_ble_eq_true rfl) rfl ?_
  exact loop (sN σ + 1) 0 h (by omega) (by omega) E FrA.rf
set_option maxRecDepth 20000 in
set_option maxHeartbeats 4000000 in
theorem c_mNight (l : Launch) (D : va_G) (cA : Nat → ClassId) (r : Nat → Nat) {h : Hp} {σ : WS} {o : Int32 × Int32 × Int32} {e : EV} (E : REM o σ e h) (I : Inv σ) (O : EOk σ e) : Cn l D cA yX11_night cX11_night 2 none 0 0 0 [.ref (r 73)] (LY r) h (pG none (LY r) (fun h' => REM o σ (niz σ e) h' ∧ FrA VA VS h h')) := by
  refine Cn.of (lv := [some (.ref (r 73)), none]) (by decide +kernel) (Nat.le_of_ble_eq_true rfl) rfl (fun X hnm C CR => ?_)
  have n5 := I.n5
  have loop : ∀ (m i : Nat) (e' : EV) (h1 : Hp), sN σ < i + m → i ≤ sN σ → (e'.1 = e.1 ∧ e'.2.2 = e.2.2 ∧ ∀ k, e'.2.1 k = if k < i then sA σ 2 k else e.2.1 k) → REM o σ e' h1 → FrA VA VS h h1 → Rn X 0 0 2 [some (.ref (r 73)), some (.int (nI i))] [] (LY r) h1 := by
    intro m
    induction m with
    | zero => intro i e' h1 a1 a2; omega
    | succ m ih =>
      intro i e' h1 a1 a2 q E1 F1
      refine R_il1 (n := 3) C dX11_night_2 rfl ?_
      refine R_al0 (n := 4) C dX11_night_3 rfl ?_
      refine M_getI (n := 7) C fl_X11_94 dX11_night_4 rfl rfl (show _ = nI (sN σ) from E1.1.1) rfl ?_
      refine R_icmp_geN (tgt := 28) C dX11_night_7 rfl rfl (by omega) (by omega) (fun c1 => ?_) (fun c1 => ?_)
      · refine R_vret C CR (Nat.zero_le _) (Nat.zero_le _) dX11_night_28 ?_
        refine ⟨rfl, rfl, ⟨?_, ?_, ?_, ?_⟩, F1⟩
        · refine E1.1.cong rfl rfl rfl (fun j k hj hk => ?_)
          by_cases e0 : j = 0
          · subst e0
            rw [dnz_0 hk, dnz_0 hk, q.1]; rfl
          · by_cases e1 : j = 1
            · subst e1
              have hk5 : k < 5 := hk
              rw [dnz_1 hk, dnz_1 hk, q.2.2 k]
              show _ = sA σ 2 k
              split
              · rfl
              · rename_i g
                rw [((O k hk5).2.2 (by omega)).2, (I.2.2.2.2 k (by omega) hk5).2.2.1]
            · rw [dnz_o (by omega), dnz_o (by omega)]
        · rw [E1.2.1, q.2.1]; rfl
        · rw [E1.2.2.1, q.2.1]; rfl
        · rw [E1.2.2.2, q.2.1]; rfl
      · have hi : i < 5 := by omega
        have e76 : h1 76 i = nI (sA σ 2 i) := by rw [mMo E1.1 hi, dnz_o (by decide)]
        refine R_al0 (n := 11) C dX11_night_10 rfl ?_
        refine M_getR (n := 14) C fl_X11_13 dX11_night_11 rfl rfl rfl ?_
        refine R_il1 (n := 15) C dX11_night_14 rfl ?_
        refine R_al0 (n := 16) C dX11_night_15 rfl ?_
        refine M_getR (n := 19) C fl_X11_16 dX11_night_16 rfl rfl rfl ?_
        refine R_il1 (n := 20) C dX11_night_19 rfl ?_
        refine M_iald (n := 21) C dX11_night_20 rfl hi e76 rfl ?_
        refine M_iast (n := 22) C dX11_night_21 rfl hi rfl ?_
        refine R_inc1 (n := 25) C dX11_night_22 rfl (Nat.le_of_ble_eq_true rfl) (inc_1 _) rfl ?_
        refine R_goto (n := 2) C dX11_night_25 rfl ?_
        have K1 : RM (setA (dnz σ e') 1 i (sA σ 2 i)) (up2 _ 75 i (nI (sA σ 2 i))) := RM.set E1.1 (j := 1) (k := i)
        rw [dn_s1 hi e'.2.2] at K1
        refine ih (i + 1) (e'.1, updN e'.2.1 i (sA σ 2 i), e'.2.2) _ (by omega) (by omega) ⟨q.1, q.2.1, fun k => ?_⟩ ⟨K1, up2_get (by decide) E1.2.1, up2_get (by decide) E1.2.2.1, up2_get (by decide) E1.2.2.2⟩ (F1.up (by decide) (by decide))
        show updN e'.2.1 i (sA σ 2 i) k = _
        unfold updN
        by_cases g : k = i
        · rw [if_pos g, if_pos (by omega), g]
        · rw [if_neg g, q.2.2 k]
          by_cases g2 : k < i
          · rw [if_pos g2, if_pos (by omega)]
          · rw [if_neg g2, if_neg (by omega)]
  refine R_ic (n := 1) C dX11_night_0 ci_0 rfl ?_
  refine R_is1 (n := 2) C dX11_night_1 rfl (Nat.le_of_ble_eq_true rfl) rfl ?_
  exact loop (sN σ + 1) 0 e h (by omega) (by omega) ⟨rfl, rfl, fun k => by rw [if_neg (by omega)]⟩ E FrA.rf
