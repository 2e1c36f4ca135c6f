theorem RM.kp {σ : WS} {h : Hp} (R : RM σ h) {j k : Nat} : RM σ (up2 h (74 + j) k (nI (sA σ j k))) := by
  have := RM.set R (j := j) (k := k) (v := sA σ j k)
  rw [setA_id] at this
  exact this
theorem alz_1 {σ : WS} {k x : Nat} : alz σ k 1 x = setA (setA σ 2 k x) 1 k x := by
  show setA (setA σ 1 k x) 2 k x = _
  unfold setA
  congr 3
  funext a b
  show (if a = 2 ∧ b = k then x else if a = 1 ∧ b = k then x else sA σ a b) = (if a = 1 ∧ b = k then x else if a = 2 ∧ b = k then x else sA σ a b)
  split <;> split <;> rfl
set_option maxRecDepth 20000 in
set_option maxHeartbeats 4000000 in
theorem m_hut (l : Launch) (D : va_G) (cA : Nat → ClassId) (r : Nat → Nat) {h : Hp} {G : GS} (R : RMo G h) (I : InvG G) (hu wh v : Int32) : Cn l D cA yX11_hut cX11_hut 5 (some .int) 2 0 0 [.ref (r 73), .int hu, .int wh, .int v] (LY r) h (pG (some (.int (aHut G hu wh v))) (LY r) (fun h' => RMo (nHut G hu wh v) h' ∧ FrM h h')) := by
  refine Cn.of (lv := [some (.ref (r 73)), some (.int hu), some (.int wh), some (.int v), none]) (by decide +kernel) (Nat.le_of_ble_eq_true rfl) rfl (fun X hnm C CR => ?_)
  have n5 := I.1.n5
  refine R_al0 (n := 1) C dX11_hut_0 rfl ?_
  refine R_il1 (n := 2) C dX11_hut_1 rfl ?_
  refine M_callV (n := 5) C (c_mIsHut _ _ _ r R.1 I.1 _) mw_X11_isHut ml_X11_112 iv_X11_isHut dX11_hut_2 rfl rfl rfl rfl (Nat.le_of_ble_eq_true rfl) ⟨Nat.le_of_ble_eq_true rfl, Nat.le_of_ble_eq_true rfl⟩ ⟨Nat.le_refl _, Nat.le_refl _⟩ rfl (pEs ?_)
  refine R_if_neB (tgt := 10) C dX11_hut_5 rfl rfl (fun c1 => ?_) (fun c1 => ?_)
  · obtain ⟨k, hk, rfl, hk2⟩ := hasH_of I.1 c1
    have bad : (win wh (nI 0) (nI 3) && win v (nI 0) (nI (moz (cl wh)))) = false → Rn X 0 0 36 [some (.ref (r 73)), some (.int (nI k)), some (.int wh), some (.int v), none] [] (LY r) h := by
      intro q
      refine R_bp (n := 38) C dX11_hut_36 cb_m2 rfl ?_
      refine R_iret C CR (Nat.zero_le _) (Nat.zero_le _) dX11_hut_38 ?_
      refine ⟨by rw [aHut, c1, q]; rfl, rfl, ?_, FrM.rf⟩
      rw [nHut, okHut, q, Bool.and_false, Bool.false_and]
      exact R
    refine R_il2 (n := 11) C dX11_hut_10 rfl ?_
    refine R_i2l (n := 12) C dX11_hut_11 rfl rfl ?_
    refine R_lc (n := 13) C dX11_hut_12 lc_0 rfl ?_
    refine R_ldc2 (n := 16) C dX11_hut_13 kl_X11_108 rfl ?_
    refine R_eql (y := lN 3) (by decide +kernel) ?_
    refine R_callS (n := 19) C (c_mIn _ _ _ r _ _ _) mw_X11_in ml_X11_104 sv_X11_in dX11_hut_16 rfl rfl (Nat.le_of_ble_eq_true rfl) ⟨Nat.le_of_ble_eq_true rfl, Nat.le_of_ble_eq_true rfl⟩ ⟨Nat.le_refl _, Nat.le_refl _⟩ rfl (pEs ?_)
    rw [winL_n (by decide) (by decide)]
    refine R_if_eqB (tgt := 36) C dX11_hut_19 rfl rfl (fun c2 => ?_) (fun c2 => ?_)
    · exact bad (by rw [c2]; rfl)
    · obtain ⟨w, _, hw, rfl⟩ := win_of (by decide) (by decide) c2
      have hwc : cl (nI w) = w := nI_clamp (by omega)
      rw [hwc] at bad
      have mb : moz w ≤ 30 := by unfold moz; split; decide; split <;> decide
      refine R_il3 (n := 23) C dX11_hut_22 rfl ?_
      refine R_i2l (n := 24) C dX11_hut_23 rfl rfl ?_
      refine R_lc (n := 25) C dX11_hut_24 lc_0 rfl ?_
      refine R_il2 (n := 26) C dX11_hut_25 rfl ?_
      refine R_callS (n := 29) C (c_mGreatest _ _ _ r (by omega)) mw_X11_greatest ml_X11_116 sv_X11_greatest dX11_hut_26 rfl rfl (Nat.le_of_ble_eq_true rfl) ⟨Nat.le_of_ble_eq_true rfl, Nat.le_of_ble_eq_true rfl⟩ ⟨Nat.le_refl _, Nat.le_refl _⟩ rfl (pEs ?_)
      refine R_i2l (n := 30) C dX11_hut_29 (i2l_n (by omega)) rfl ?_
      refine R_callS (n := 33) C (c_mIn _ _ _ r _ _ _) mw_X11_in ml_X11_104 sv_X11_in dX11_hut_30 rfl rfl (Nat.le_of_ble_eq_true rfl) ⟨Nat.le_of_ble_eq_true rfl, Nat.le_of_ble_eq_true rfl⟩ ⟨Nat.le_refl _, Nat.le_refl _⟩ rfl (pEs ?_)
      rw [show winL v.toInt64 (lN 0) (lN (moz w)) = win v (nI 0) (nI (moz w)) from winL_n (by decide) (by omega)]
      refine R_if_neB (tgt := 39) C dX11_hut_33 rfl rfl (fun c3 => ?_) (fun c3 => ?_)
      · obtain ⟨x, _, hx, rfl⟩ := win_of (by decide) (by omega) c3
        have hxc : cl (nI x) = x := nI_clamp (by omega)
        have done : (decide (w = 3) && tkz (gS G) x k) = false → Rn X 0 0 56 [some (.ref (r 73)), some (.int (nI k)), some (.int (nI w)), some (.int (nI x)), none] [] (LY r) h := by
          intro q
          rw [aHut, nHut, okHut, c1, hwc, hxc, hk2, c2, c3, q, if_pos rfl, if_pos (by decide), if_neg (by decide), if_pos (by decide)] at CR
          clear bad
          obtain rfl | rfl | rfl | rfl : w = 0 ∨ w = 1 ∨ w = 2 ∨ w = 3 := by omega
          ·
            refine R_il2 (n := 57) C dX11_hut_56 rfl ?_
            refine R_if_neN (tgt := 69) C dX11_hut_57 rfl rfl (by omega) (fun b0 => ?_) (fun b0 => ?_)
            · exact absurd rfl b0
            · skip
              refine R_al0 (n := 61) C dX11_hut_60 rfl ?_
              refine M_getR (n := 64) C fl_X11_7 dX11_hut_61 rfl rfl rfl ?_
              refine R_il1 (n := 65) C dX11_hut_64 rfl ?_
              refine M_iald (n := 66) C dX11_hut_65 rfl (by omega) (mLk R.1 (by omega)) rfl ?_
              refine R_goto (n := 103) C dX11_hut_66 rfl ?_
              refine R_is4 (n := 105) C dX11_hut_103 rfl (Nat.le_of_ble_eq_true rfl) rfl ?_
              refine R_al0 (n := 106) C dX11_hut_105 rfl ?_
              refine M_getR (n := 109) C fl_X11_7 dX11_hut_106 rfl rfl rfl ?_
              refine R_il1 (n := 110) C dX11_hut_109 rfl ?_
              refine R_il2 (n := 111) C dX11_hut_110 rfl ?_
              refine R_if_neN (tgt := 118) C dX11_hut_111 rfl rfl (by omega) (fun d0 => ?_) (fun d0 => ?_)
              · exact absurd rfl d0
              · skip
                refine R_il3 (n := 115) C dX11_hut_114 rfl ?_
                refine R_goto (n := 124) C dX11_hut_115 rfl ?_
                have R0 : RM (setA (gS G) 0 k x) (up2 _ 74 k (nI x)) := RM.set R.1 (j := 0) (k := k) (v := x)
                refine M_iast (n := 125) C dX11_hut_124 rfl (by omega) rfl ?_
                refine R_al0 (n := 126) C dX11_hut_125 rfl ?_
                refine M_getR (n := 129) C fl_X11_16 dX11_hut_126 rfl rfl rfl ?_
                refine R_il1 (n := 130) C dX11_hut_129 rfl ?_
                refine R_il2 (n := 131) C dX11_hut_130 rfl ?_
                refine R_ic (n := 132) C dX11_hut_131 ci_1 rfl ?_
                refine R_icmp_neN (tgt := 139) C dX11_hut_132 rfl rfl (by omega) (by omega) (fun d1 => ?_) (fun d1 => ?_)
                · skip
                  refine R_al0 (n := 140) C dX11_hut_139 rfl ?_
                  refine M_getR (n := 143) C fl_X11_16 dX11_hut_140 rfl rfl rfl ?_
                  refine R_il1 (n := 144) C dX11_hut_143 rfl ?_
                  refine M_iald (n := 145) C dX11_hut_144 rfl (by omega) (mMo R0 (by omega)) rfl ?_
                  have R1 : RM (setA (gS G) 0 k x) (up2 _ 76 k (nI (sA (setA (gS G) 0 k x) 2 k))) := RM.kp (j := 2) (k := k) R0
                  refine M_iast (n := 146) C dX11_hut_145 rfl (by omega) rfl ?_
                  refine R_al0 (n := 147) C dX11_hut_146 rfl ?_
                  refine M_getR (n := 150) C fl_X11_13 dX11_hut_147 rfl rfl rfl ?_
                  refine R_il1 (n := 151) C dX11_hut_150 rfl ?_
                  refine R_il2 (n := 152) C dX11_hut_151 rfl ?_
                  refine R_ic (n := 153) C dX11_hut_152 ci_1 rfl ?_
                  refine R_icmp_neN (tgt := 160) C dX11_hut_153 rfl rfl (by omega) (by omega) (fun d2 => ?_) (fun d2 => ?_)
                  · skip
                    refine R_al0 (n := 161) C dX11_hut_160 rfl ?_
                    refine M_getR (n := 164) C fl_X11_13 dX11_hut_161 rfl rfl rfl ?_
                    refine R_il1 (n := 165) C dX11_hut_164 rfl ?_
                    refine M_iald (n := 166) C dX11_hut_165 rfl (by omega) (mLg R1 (by omega)) rfl ?_
                    have R2 : RM (setA (gS G) 0 k x) (up2 _ 75 k (nI (sA (setA (gS G) 0 k x) 1 k))) := RM.kp (j := 1) (k := k) R1
                    refine M_iast (n := 167) C dX11_hut_166 rfl (by omega) rfl ?_
                    refine R_al0 (n := 168) C dX11_hut_167 rfl ?_
                    refine M_getR (n := 171) C fl_X11_19 dX11_hut_168 rfl rfl rfl ?_
                    refine R_il1 (n := 172) C dX11_hut_171 rfl ?_
                    refine R_il2 (n := 173) C dX11_hut_172 rfl ?_
                    refine R_ic (n := 174) C dX11_hut_173 ci_2 rfl ?_
                    refine R_icmp_neN (tgt := 181) C dX11_hut_174 rfl rfl (by omega) (by omega) (fun d3 => ?_) (fun d3 => ?_)
                    · skip
                      refine R_al0 (n := 182) C dX11_hut_181 rfl ?_
                      refine M_getR (n := 185) C fl_X11_19 dX11_hut_182 rfl rfl rfl ?_
                      refine R_il1 (n := 186) C dX11_hut_185 rfl ?_
                      refine M_iald (n := 187) C dX11_hut_186 rfl (by omega) (mKd R2 (by omega)) rfl ?_
                      have R3 : RM (setA (gS G) 0 k x) (up2 _ 77 k (nI (sA (setA (gS G) 0 k x) 3 k))) := RM.kp (j := 3) (k := k) R2
                      refine M_iast (n := 188) C dX11_hut_187 rfl (by omega) rfl ?_
                      refine R_al0 (n := 189) C dX11_hut_188 rfl ?_
                      refine M_getR (n := 192) C fl_X11_22 dX11_hut_189 rfl rfl rfl ?_
                      refine R_il1 (n := 193) C dX11_hut_192 rfl ?_
                      refine R_il2 (n := 194) C dX11_hut_193 rfl ?_
                      refine R_ic (n := 195) C dX11_hut_194 ci_3 rfl ?_
                      refine R_icmp_neN (tgt := 202) C dX11_hut_195 rfl rfl (by omega) (by omega) (fun d4 => ?_) (fun d4 => ?_)
                      · skip
                        refine R_al0 (n := 203) C dX11_hut_202 rfl ?_
                        refine M_getR (n := 206) C fl_X11_22 dX11_hut_203 rfl rfl rfl ?_
                        refine R_il1 (n := 207) C dX11_hut_206 rfl ?_
                        refine M_iald (n := 208) C dX11_hut_207 rfl (by omega) (mCe R3 (by omega)) rfl ?_
                        have R4 : RM (setA (gS G) 0 k x) (up2 _ 78 k (nI (sA (setA (gS G) 0 k x) 4 k))) := RM.kp (j := 4) (k := k) R3
                        refine M_iast (n := 209) C dX11_hut_208 rfl (by omega) rfl ?_
                        refine R_il4 (n := 211) C dX11_hut_209 rfl ?_
                        refine R_iret C CR (Nat.zero_le _) (Nat.zero_le _) dX11_hut_211 ?_
                        exact ⟨rfl, rfl, R.wood (σ := alz (gS G) k 0 x) R4 (fun a ha => by rw [up2_row (by omega), up2_row (by omega), up2_row (by omega), up2_row (by omega), up2_row (by omega)]) (by rw [up2_row (by omega), up2_row (by omega), up2_row (by omega), up2_row (by omega), up2_row (by omega)]), ((((FrM.rf.up (by decide)).up (by decide)).up (by decide)).up (by decide)).up (by decide)⟩
                      · exact absurd d4 (by decide)
                    · exact absurd d3 (by decide)
                  · exact absurd d2 (by decide)
                · exact absurd d1 (by decide)
          ·
            refine R_il2 (n := 57) C dX11_hut_56 rfl ?_
            refine R_if_neN (tgt := 69) C dX11_hut_57 rfl rfl (by omega) (fun b0 => ?_) (fun b0 => ?_)
            · skip
              refine R_il2 (n := 70) C dX11_hut_69 rfl ?_
              refine R_ic (n := 71) C dX11_hut_70 ci_1 rfl ?_
              refine R_icmp_neN (tgt := 83) C dX11_hut_71 rfl rfl (by omega) (by omega) (fun b1 => ?_) (fun b1 => ?_)
              · exact absurd rfl b1
              · skip
                refine R_al0 (n := 75) C dX11_hut_74 rfl ?_
                refine M_getR (n := 78) C fl_X11_16 dX11_hut_75 rfl rfl rfl ?_
                refine R_il1 (n := 79) C dX11_hut_78 rfl ?_
                refine M_iald (n := 80) C dX11_hut_79 rfl (by omega) (mMo R.1 (by omega)) rfl ?_
                refine R_goto (n := 103) C dX11_hut_80 rfl ?_
                refine R_is4 (n := 105) C dX11_hut_103 rfl (Nat.le_of_ble_eq_true rfl) rfl ?_
                refine R_al0 (n := 106) C dX11_hut_105 rfl ?_
                refine M_getR (n := 109) C fl_X11_7 dX11_hut_106 rfl rfl rfl ?_
                refine R_il1 (n := 110) C dX11_hut_109 rfl ?_
                refine R_il2 (n := 111) C dX11_hut_110 rfl ?_
                refine R_if_neN (tgt := 118) C dX11_hut_111 rfl rfl (by omega) (fun d0 => ?_) (fun d0 => ?_)
                · skip
                  refine R_al0 (n := 119) C dX11_hut_118 rfl ?_
                  refine M_getR (n := 122) C fl_X11_7 dX11_hut_119 rfl rfl rfl ?_
                  refine R_il1 (n := 123) C dX11_hut_122 rfl ?_
                  refine M_iald (n := 124) C dX11_hut_123 rfl (by omega) (mLk R.1 (by omega)) rfl ?_
                  have R0 : RM (gS G) (up2 _ 74 k (nI (sA (gS G) 0 k))) := RM.kp (j := 0) (k := k) R.1
                  refine M_iast (n := 125) C dX11_hut_124 rfl (by omega) rfl ?_
                  refine R_al0 (n := 126) C dX11_hut_125 rfl ?_
                  refine M_getR (n := 129) C fl_X11_16 dX11_hut_126 rfl rfl rfl ?_
                  refine R_il1 (n := 130) C dX11_hut_129 rfl ?_
                  refine R_il2 (n := 131) C dX11_hut_130 rfl ?_
                  refine R_ic (n := 132) C dX11_hut_131 ci_1 rfl ?_
                  refine R_icmp_neN (tgt := 139) C dX11_hut_132 rfl rfl (by omega) (by omega) (fun d1 => ?_) (fun d1 => ?_)
                  · exact absurd rfl d1
                  · skip
                    refine R_il3 (n := 136) C dX11_hut_135 rfl ?_
                    refine R_goto (n := 145) C dX11_hut_136 rfl ?_
                    have R1 : RM (setA (gS G) 2 k x) (up2 _ 76 k (nI x)) := RM.set R0 (j := 2) (k := k) (v := x)
                    refine M_iast (n := 146) C dX11_hut_145 rfl (by omega) rfl ?_
                    refine R_al0 (n := 147) C dX11_hut_146 rfl ?_
                    refine M_getR (n := 150) C fl_X11_13 dX11_hut_147 rfl rfl rfl ?_
                    refine R_il1 (n := 151) C dX11_hut_150 rfl ?_
                    refine R_il2 (n := 152) C dX11_hut_151 rfl ?_
                    refine R_ic (n := 153) C dX11_hut_152 ci_1 rfl ?_
                    refine R_icmp_neN (tgt := 160) C dX11_hut_153 rfl rfl (by omega) (by omega) (fun d2 => ?_) (fun d2 => ?_)
                    · exact absurd rfl d2
                    · skip
                      refine R_il3 (n := 157) C dX11_hut_156 rfl ?_
                      refine R_goto (n := 166) C dX11_hut_157 rfl ?_
                      have R2 : RM (setA (setA (gS G) 2 k x) 1 k x) (up2 _ 75 k (nI x)) := RM.set R1 (j := 1) (k := k) (v := x)
                      refine M_iast (n := 167) C dX11_hut_166 rfl (by omega) rfl ?_
                      refine R_al0 (n := 168) C dX11_hut_167 rfl ?_
                      refine M_getR (n := 171) C fl_X11_19 dX11_hut_168 rfl rfl rfl ?_
                      refine R_il1 (n := 172) C dX11_hut_171 rfl ?_
                      refine R_il2 (n := 173) C dX11_hut_172 rfl ?_
                      refine R_ic (n := 174) C dX11_hut_173 ci_2 rfl ?_
                      refine R_icmp_neN (tgt := 181) C dX11_hut_174 rfl rfl (by omega) (by omega) (fun d3 => ?_) (fun d3 => ?_)
                      · skip
                        refine R_al0 (n := 182) C dX11_hut_181 rfl ?_
                        refine M_getR (n := 185) C fl_X11_19 dX11_hut_182 rfl rfl rfl ?_
                        refine R_il1 (n := 186) C dX11_hut_185 rfl ?_
                        refine M_iald (n := 187) C dX11_hut_186 rfl (by omega) (mKd R2 (by omega)) rfl ?_
                        have R3 : RM (setA (setA (gS G) 2 k x) 1 k x) (up2 _ 77 k (nI (sA (setA (setA (gS G) 2 k x) 1 k x) 3 k))) := RM.kp (j := 3) (k := k) R2
                        refine M_iast (n := 188) C dX11_hut_187 rfl (by omega) rfl ?_
                        refine R_al0 (n := 189) C dX11_hut_188 rfl ?_
                        refine M_getR (n := 192) C fl_X11_22 dX11_hut_189 rfl rfl rfl ?_
                        refine R_il1 (n := 193) C dX11_hut_192 rfl ?_
                        refine R_il2 (n := 194) C dX11_hut_193 rfl ?_
                        refine R_ic (n := 195) C dX11_hut_194 ci_3 rfl ?_
                        refine R_icmp_neN (tgt := 202) C dX11_hut_195 rfl rfl (by omega) (by omega) (fun d4 => ?_) (fun d4 => ?_)
                        · skip
                          refine R_al0 (n := 203) C dX11_hut_202 rfl ?_
                          refine M_getR (n := 206) C fl_X11_22 dX11_hut_203 rfl rfl rfl ?_
                          refine R_il1 (n := 207) C dX11_hut_206 rfl ?_
                          refine M_iald (n := 208) C dX11_hut_207 rfl (by omega) (mCe R3 (by omega)) rfl ?_
                          have R4 : RM (setA (setA (gS G) 2 k x) 1 k x) (up2 _ 78 k (nI (sA (setA (setA (gS G) 2 k x) 1 k x) 4 k))) := RM.kp (j := 4) (k := k) R3
                          refine M_iast (n := 209) C dX11_hut_208 rfl (by omega) rfl ?_
                          refine R_il4 (n := 211) C dX11_hut_209 rfl ?_
                          refine R_iret C CR (Nat.zero_le _) (Nat.zero_le _) dX11_hut_211 ?_
                          rw [← alz_1] at R4
                          exact ⟨rfl, rfl, R.wood (σ := alz (gS G) k 1 x) R4 (fun a ha => by rw [up2_row (by omega), up2_row (by omega), up2_row (by omega), up2_row (by omega), up2_row (by omega)]) (by rw [up2_row (by omega), up2_row (by omega), up2_row (by omega), up2_row (by omega), up2_row (by omega)]), ((((FrM.rf.up (by decide)).up (by decide)).up (by decide)).up (by decide)).up (by decide)⟩
                        · exact absurd d4 (by decide)
                      · exact absurd d3 (by decide)
                · exact absurd d0 (by decide)
            · exact absurd b0 (by decide)
          ·
            refine R_il2 (n := 57) C dX11_hut_56 rfl ?_
            refine R_if_neN (tgt := 69) C dX11_hut_57 rfl rfl (by omega) (fun b0 => ?_) (fun b0 => ?_)
            · skip
              refine R_il2 (n := 70) C dX11_hut_69 rfl ?_
              refine R_ic (n := 71) C dX11_hut_70 ci_1 rfl ?_
              refine R_icmp_neN (tgt := 83) C dX11_hut_71 rfl rfl (by omega) (by omega) (fun b1 => ?_) (fun b1 => ?_)
              · skip
                refine R_il2 (n := 84) C dX11_hut_83 rfl ?_
                refine R_ic (n := 85) C dX11_hut_84 ci_2 rfl ?_
                refine R_icmp_neN (tgt := 97) C dX11_hut_85 rfl rfl (by omega) (by omega) (fun b2 => ?_) (fun b2 => ?_)
                · exact absurd rfl b2
                · skip
                  refine R_al0 (n := 89) C dX11_hut_88 rfl ?_
                  refine M_getR (n := 92) C fl_X11_19 dX11_hut_89 rfl rfl rfl ?_
                  refine R_il1 (n := 93) C dX11_hut_92 rfl ?_
                  refine M_iald (n := 94) C dX11_hut_93 rfl (by omega) (mKd R.1 (by omega)) rfl ?_
                  refine R_goto (n := 103) C dX11_hut_94 rfl ?_
                  refine R_is4 (n := 105) C dX11_hut_103 rfl (Nat.le_of_ble_eq_true rfl) rfl ?_
                  refine R_al0 (n := 106) C dX11_hut_105 rfl ?_
                  refine M_getR (n := 109) C fl_X11_7 dX11_hut_106 rfl rfl rfl ?_
                  refine R_il1 (n := 110) C dX11_hut_109 rfl ?_
                  refine R_il2 (n := 111) C dX11_hut_110 rfl ?_
                  refine R_if_neN (tgt := 118) C dX11_hut_111 rfl rfl (by omega) (fun d0 => ?_) (fun d0 => ?_)
                  · skip
                    refine R_al0 (n := 119) C dX11_hut_118 rfl ?_
                    refine M_getR (n := 122) C fl_X11_7 dX11_hut_119 rfl rfl rfl ?_
                    refine R_il1 (n := 123) C dX11_hut_122 rfl ?_
                    refine M_iald (n := 124) C dX11_hut_123 rfl (by omega) (mLk R.1 (by omega)) rfl ?_
                    have R0 : RM (gS G) (up2 _ 74 k (nI (sA (gS G) 0 k))) := RM.kp (j := 0) (k := k) R.1
                    refine M_iast (n := 125) C dX11_hut_124 rfl (by omega) rfl ?_
                    refine R_al0 (n := 126) C dX11_hut_125 rfl ?_
                    refine M_getR (n := 129) C fl_X11_16 dX11_hut_126 rfl rfl rfl ?_
                    refine R_il1 (n := 130) C dX11_hut_129 rfl ?_
                    refine R_il2 (n := 131) C dX11_hut_130 rfl ?_
                    refine R_ic (n := 132) C dX11_hut_131 ci_1 rfl ?_
                    refine R_icmp_neN (tgt := 139) C dX11_hut_132 rfl rfl (by omega) (by omega) (fun d1 => ?_) (fun d1 => ?_)
                    · skip
                      refine R_al0 (n := 140) C dX11_hut_139 rfl ?_
                      refine M_getR (n := 143) C fl_X11_16 dX11_hut_140 rfl rfl rfl ?_
                      refine R_il1 (n := 144) C dX11_hut_143 rfl ?_
                      refine M_iald (n := 145) C dX11_hut_144 rfl (by omega) (mMo R0 (by omega)) rfl ?_
                      have R1 : RM (gS G) (up2 _ 76 k (nI (sA (gS G) 2 k))) := RM.kp (j := 2) (k := k) R0
                      refine M_iast (n := 146) C dX11_hut_145 rfl (by omega) rfl ?_
                      refine R_al0 (n := 147) C dX11_hut_146 rfl ?_
                      refine M_getR (n := 150) C fl_X11_13 dX11_hut_147 rfl rfl rfl ?_
                      refine R_il1 (n := 151) C dX11_hut_150 rfl ?_
                      refine R_il2 (n := 152) C dX11_hut_151 rfl ?_
                      refine R_ic (n := 153) C dX11_hut_152 ci_1 rfl ?_
                      refine R_icmp_neN (tgt := 160) C dX11_hut_153 rfl rfl (by omega) (by omega) (fun d2 => ?_) (fun d2 => ?_)
                      · skip
                        refine R_al0 (n := 161) C dX11_hut_160 rfl ?_
                        refine M_getR (n := 164) C fl_X11_13 dX11_hut_161 rfl rfl rfl ?_
                        refine R_il1 (n := 165) C dX11_hut_164 rfl ?_
                        refine M_iald (n := 166) C dX11_hut_165 rfl (by omega) (mLg R1 (by omega)) rfl ?_
                        have R2 : RM (gS G) (up2 _ 75 k (nI (sA (gS G) 1 k))) := RM.kp (j := 1) (k := k) R1
                        refine M_iast (n := 167) C dX11_hut_166 rfl (by omega) rfl ?_
                        refine R_al0 (n := 168) C dX11_hut_167 rfl ?_
                        refine M_getR (n := 171) C fl_X11_19 dX11_hut_168 rfl rfl rfl ?_
                        refine R_il1 (n := 172) C dX11_hut_171 rfl ?_
                        refine R_il2 (n := 173) C dX11_hut_172 rfl ?_
                        refine R_ic (n := 174) C dX11_hut_173 ci_2 rfl ?_
                        refine R_icmp_neN (tgt := 181) C dX11_hut_174 rfl rfl (by omega) (by omega) (fun d3 => ?_) (fun d3 => ?_)
                        · exact absurd rfl d3
                        · skip
                          refine R_il3 (n := 178) C dX11_hut_177 rfl ?_
                          refine R_goto (n := 187) C dX11_hut_178 rfl ?_
                          have R3 : RM (setA (gS G) 3 k x) (up2 _ 77 k (nI x)) := RM.set R2 (j := 3) (k := k) (v := x)
                          refine M_iast (n := 188) C dX11_hut_187 rfl (by omega) rfl ?_
                          refine R_al0 (n := 189) C dX11_hut_188 rfl ?_
                          refine M_getR (n := 192) C fl_X11_22 dX11_hut_189 rfl rfl rfl ?_
                          refine R_il1 (n := 193) C dX11_hut_192 rfl ?_
                          refine R_il2 (n := 194) C dX11_hut_193 rfl ?_
                          refine R_ic (n := 195) C dX11_hut_194 ci_3 rfl ?_
                          refine R_icmp_neN (tgt := 202) C dX11_hut_195 rfl rfl (by omega) (by omega) (fun d4 => ?_) (fun d4 => ?_)
                          · skip
                            refine R_al0 (n := 203) C dX11_hut_202 rfl ?_
                            refine M_getR (n := 206) C fl_X11_22 dX11_hut_203 rfl rfl rfl ?_
                            refine R_il1 (n := 207) C dX11_hut_206 rfl ?_
                            refine M_iald (n := 208) C dX11_hut_207 rfl (by omega) (mCe R3 (by omega)) rfl ?_
                            have R4 : RM (setA (gS G) 3 k x) (up2 _ 78 k (nI (sA (setA (gS G) 3 k x) 4 k))) := RM.kp (j := 4) (k := k) R3
                            refine M_iast (n := 209) C dX11_hut_208 rfl (by omega) rfl ?_
                            refine R_il4 (n := 211) C dX11_hut_209 rfl ?_
                            refine R_iret C CR (Nat.zero_le _) (Nat.zero_le _) dX11_hut_211 ?_
                            exact ⟨rfl, rfl, R.wood (σ := alz (gS G) k 2 x) R4 (fun a ha => by rw [up2_row (by omega), up2_row (by omega), up2_row (by omega), up2_row (by omega), up2_row (by omega)]) (by rw [up2_row (by omega), up2_row (by omega), up2_row (by omega), up2_row (by omega), up2_row (by omega)]), ((((FrM.rf.up (by decide)).up (by decide)).up (by decide)).up (by decide)).up (by decide)⟩
                          · exact absurd d4 (by decide)
                      · exact absurd d2 (by decide)
                    · exact absurd d1 (by decide)
                  · exact absurd d0 (by decide)
              · exact absurd b1 (by decide)
            · exact absurd b0 (by decide)
          ·
            refine R_il2 (n := 57) C dX11_hut_56 rfl ?_
            refine R_if_neN (tgt := 69) C dX11_hut_57 rfl rfl (by omega) (fun b0 => ?_) (fun b0 => ?_)
            · skip
              refine R_il2 (n := 70) C dX11_hut_69 rfl ?_
              refine R_ic (n := 71) C dX11_hut_70 ci_1 rfl ?_
              refine R_icmp_neN (tgt := 83) C dX11_hut_71 rfl rfl (by omega) (by omega) (fun b1 => ?_) (fun b1 => ?_)
              · skip
                refine R_il2 (n := 84) C dX11_hut_83 rfl ?_
                refine R_ic (n := 85) C dX11_hut_84 ci_2 rfl ?_
                refine R_icmp_neN (tgt := 97) C dX11_hut_85 rfl rfl (by omega) (by omega) (fun b2 => ?_) (fun b2 => ?_)
                · skip
                  refine R_al0 (n := 98) C dX11_hut_97 rfl ?_
                  refine M_getR (n := 101) C fl_X11_22 dX11_hut_98 rfl rfl rfl ?_
                  refine R_il1 (n := 102) C dX11_hut_101 rfl ?_
                  refine M_iald (n := 103) C dX11_hut_102 rfl (by omega) (mCe R.1 (by omega)) rfl ?_
                  refine R_is4 (n := 105) C dX11_hut_103 rfl (Nat.le_of_ble_eq_true rfl) rfl ?_
                  refine R_al0 (n := 106) C dX11_hut_105 rfl ?_
                  refine M_getR (n := 109) C fl_X11_7 dX11_hut_106 rfl rfl rfl ?_
                  refine R_il1 (n := 110) C dX11_hut_109 rfl ?_
                  refine R_il2 (n := 111) C dX11_hut_110 rfl ?_
                  refine R_if_neN (tgt := 118) C dX11_hut_111 rfl rfl (by omega) (fun d0 => ?_) (fun d0 => ?_)
                  · skip
                    refine R_al0 (n := 119) C dX11_hut_118 rfl ?_
                    refine M_getR (n := 122) C fl_X11_7 dX11_hut_119 rfl rfl rfl ?_
                    refine R_il1 (n := 123) C dX11_hut_122 rfl ?_
                    refine M_iald (n := 124) C dX11_hut_123 rfl (by omega) (mLk R.1 (by omega)) rfl ?_
                    have R0 : RM (gS G) (up2 _ 74 k (nI (sA (gS G) 0 k))) := RM.kp (j := 0) (k := k) R.1
                    refine M_iast (n := 125) C dX11_hut_124 rfl (by omega) rfl ?_
                    refine R_al0 (n := 126) C dX11_hut_125 rfl ?_
                    refine M_getR (n := 129) C fl_X11_16 dX11_hut_126 rfl rfl rfl ?_
                    refine R_il1 (n := 130) C dX11_hut_129 rfl ?_
                    refine R_il2 (n := 131) C dX11_hut_130 rfl ?_
                    refine R_ic (n := 132) C dX11_hut_131 ci_1 rfl ?_
                    refine R_icmp_neN (tgt := 139) C dX11_hut_132 rfl rfl (by omega) (by omega) (fun d1 => ?_) (fun d1 => ?_)
                    · skip
                      refine R_al0 (n := 140) C dX11_hut_139 rfl ?_
                      refine M_getR (n := 143) C fl_X11_16 dX11_hut_140 rfl rfl rfl ?_
                      refine R_il1 (n := 144) C dX11_hut_143 rfl ?_
                      refine M_iald (n := 145) C dX11_hut_144 rfl (by omega) (mMo R0 (by omega)) rfl ?_
                      have R1 : RM (gS G) (up2 _ 76 k (nI (sA (gS G) 2 k))) := RM.kp (j := 2) (k := k) R0
                      refine M_iast (n := 146) C dX11_hut_145 rfl (by omega) rfl ?_
                      refine R_al0 (n := 147) C dX11_hut_146 rfl ?_
                      refine M_getR (n := 150) C fl_X11_13 dX11_hut_147 rfl rfl rfl ?_
                      refine R_il1 (n := 151) C dX11_hut_150 rfl ?_
                      refine R_il2 (n := 152) C dX11_hut_151 rfl ?_
                      refine R_ic (n := 153) C dX11_hut_152 ci_1 rfl ?_
                      refine R_icmp_neN (tgt := 160) C dX11_hut_153 rfl rfl (by omega) (by omega) (fun d2 => ?_) (fun d2 => ?_)
                      · skip
                        refine R_al0 (n := 161) C dX11_hut_160 rfl ?_
                        refine M_getR (n := 164) C fl_X11_13 dX11_hut_161 rfl rfl rfl ?_
                        refine R_il1 (n := 165) C dX11_hut_164 rfl ?_
                        refine M_iald (n := 166) C dX11_hut_165 rfl (by omega) (mLg R1 (by omega)) rfl ?_
                        have R2 : RM (gS G) (up2 _ 75 k (nI (sA (gS G) 1 k))) := RM.kp (j := 1) (k := k) R1
                        refine M_iast (n := 167) C dX11_hut_166 rfl (by omega) rfl ?_
                        refine R_al0 (n := 168) C dX11_hut_167 rfl ?_
                        refine M_getR (n := 171) C fl_X11_19 dX11_hut_168 rfl rfl rfl ?_
                        refine R_il1 (n := 172) C dX11_hut_171 rfl ?_
                        refine R_il2 (n := 173) C dX11_hut_172 rfl ?_
                        refine R_ic (n := 174) C dX11_hut_173 ci_2 rfl ?_
                        refine R_icmp_neN (tgt := 181) C dX11_hut_174 rfl rfl (by omega) (by omega) (fun d3 => ?_) (fun d3 => ?_)
                        · skip
                          refine R_al0 (n := 182) C dX11_hut_181 rfl ?_
                          refine M_getR (n := 185) C fl_X11_19 dX11_hut_182 rfl rfl rfl ?_
                          refine R_il1 (n := 186) C dX11_hut_185 rfl ?_
                          refine M_iald (n := 187) C dX11_hut_186 rfl (by omega) (mKd R2 (by omega)) rfl ?_
                          have R3 : RM (gS G) (up2 _ 77 k (nI (sA (gS G) 3 k))) := RM.kp (j := 3) (k := k) R2
                          refine M_iast (n := 188) C dX11_hut_187 rfl (by omega) rfl ?_
                          refine R_al0 (n := 189) C dX11_hut_188 rfl ?_
                          refine M_getR (n := 192) C fl_X11_22 dX11_hut_189 rfl rfl rfl ?_
                          refine R_il1 (n := 193) C dX11_hut_192 rfl ?_
                          refine R_il2 (n := 194) C dX11_hut_193 rfl ?_
                          refine R_ic (n := 195) C dX11_hut_194 ci_3 rfl ?_
                          refine R_icmp_neN (tgt := 202) C dX11_hut_195 rfl rfl (by omega) (by omega) (fun d4 => ?_) (fun d4 => ?_)
                          · exact absurd rfl d4
                          · skip
                            refine R_il3 (n := 199) C dX11_hut_198 rfl ?_
                            refine R_goto (n := 208) C dX11_hut_199 rfl ?_
                            have R4 : RM (setA (gS G) 4 k x) (up2 _ 78 k (nI x)) := RM.set R3 (j := 4) (k := k) (v := x)
                            refine M_iast (n := 209) C dX11_hut_208 rfl (by omega) rfl ?_
                            refine R_il4 (n := 211) C dX11_hut_209 rfl ?_
                            refine R_iret C CR (Nat.zero_le _) (Nat.zero_le _) dX11_hut_211 ?_
                            exact ⟨rfl, rfl, R.wood (σ := alz (gS G) k 3 x) R4 (fun a ha => by rw [up2_row (by omega), up2_row (by omega), up2_row (by omega), up2_row (by omega), up2_row (by omega)]) (by rw [up2_row (by omega), up2_row (by omega), up2_row (by omega), up2_row (by omega), up2_row (by omega)]), ((((FrM.rf.up (by decide)).up (by decide)).up (by decide)).up (by decide)).up (by decide)⟩
                        · exact absurd d3 (by decide)
                      · exact absurd d2 (by decide)
                    · exact absurd d1 (by decide)
                  · exact absurd d0 (by decide)
                · exact absurd b2 (by decide)
              · exact absurd b1 (by decide)
            · exact absurd b0 (by decide)
        refine R_il2 (n := 40) C dX11_hut_39 rfl ?_
        refine R_ic (n := 41) C dX11_hut_40 ci_3 rfl ?_
        refine R_icmp_neN (tgt := 56) C dX11_hut_41 rfl rfl (by omega) (by omega) (fun c4 => ?_) (fun c4 => ?_)
        · exact done (by rw [decide_eq_false c4]; rfl)
        · subst c4
          have x25 : x < 25 := by have : x ≤ 24 := hx; omega
          refine R_al0 (n := 45) C dX11_hut_44 rfl ?_
          refine R_il1 (n := 46) C dX11_hut_45 rfl ?_
          refine R_il3 (n := 47) C dX11_hut_46 rfl ?_
          refine M_callV (n := 50) C (c_mIsTaken _ _ _ r R.1 I.1 x25 (by omega)) mw_X11_isTaken ml_X11_120 iv_X11_isTaken dX11_hut_47 rfl rfl rfl rfl (Nat.le_of_ble_eq_true rfl) ⟨Nat.le_of_ble_eq_true rfl, Nat.le_of_ble_eq_true rfl⟩ ⟨Nat.le_refl _, Nat.le_refl _⟩ rfl (pEs ?_)
          refine R_if_eqB (tgt := 56) C dX11_hut_50 rfl rfl (fun c5 => ?_) (fun c5 => ?_)
          · exact done (by rw [c5]; rfl)
          · refine R_bp (n := 55) C dX11_hut_53 cb_m3 rfl ?_
            refine R_iret C CR (Nat.zero_le _) (Nat.zero_le _) dX11_hut_55 ?_
            refine ⟨?_, rfl, ?_, FrM.rf⟩
            · rw [aHut, c1, hwc, hxc, hk2, c2, c3, c5]; rfl
            · rw [nHut, okHut, hwc, hxc, hk2, c5]
              simp only [decide_true, Bool.and_self, Bool.not_true, Bool.and_false, Bool.false_eq_true, if_false]
              exact R
      · exact bad (by rw [c3, Bool.and_false])
  · refine R_ic (n := 9) C dX11_hut_8 ci_m1 rfl ?_
    refine R_iret C CR (Nat.zero_le _) (Nat.zero_le _) dX11_hut_9 ?_
    refine ⟨by rw [aHut, c1]; rfl, rfl, ?_, FrM.rf⟩
    rw [nHut, okHut, c1, Bool.false_and, Bool.false_and]
    exact R
set_option maxRecDepth 20000 in
set_option maxHeartbeats 4000000 in
theorem m_seen (l : Launch) (D : va_G) (cA : Nat → ClassId) (r : Nat → Nat) {h : Hp} {G : GS} (R : RMo G h) (I : InvG G) (hu ev wy' : Int32) : Cn l D cA yX11_seen cX11_seen 4 (some .int) 2 0 0 [.ref (r 73), .int hu, .int ev, .int wy'] (LY r) h (pG (some (.int (aSeen G hu ev wy'))) (LY r) (fun h' => RMo (nSeen G hu ev wy') h' ∧ FrM h h')) := by
  refine Cn.of (lv := [some (.ref (r 73)), some (.int hu), some (.int ev), some (.int wy')]) (by decide +kernel) (Nat.le_of_ble_eq_true rfl) rfl (fun X hnm C CR => ?_)
  have n5 := I.1.n5
  have s6 := I.1.sg
  refine R_al0 (n := 1) C dX11_seen_0 rfl ?_
  refine R_il1 (n := 2) C dX11_seen_1 rfl ?_
  refine M_callV (n := 5) C (c_mIsHut _ _ _ r R.1 I.1 _) mw_X11_isHut ml_X11_112 iv_X11_isHut dX11_seen_2 rfl rfl rfl rfl (Nat.le_of_ble_eq_true rfl) ⟨Nat.le_of_ble_eq_true rfl, Nat.le_of_ble_eq_true rfl⟩ ⟨Nat.le_refl _, Nat.le_refl _⟩ rfl (pEs ?_)
  refine R_if_neB (tgt := 10) C dX11_seen_5 rfl rfl (fun c1 => ?_) (fun c1 => ?_)
  · obtain ⟨k, hk, rfl, hk2⟩ := hasH_of I.1 c1
    have bad : (win ev (nI 0) (nI 30) && win wy' (nI 0) (nI 3)) = false → Rn X 0 0 29 [some (.ref (r 73)), some (.int (nI k)), some (.int ev), some (.int wy')] [] (LY r) h := by
      intro q
      refine R_bp (n := 31) C dX11_seen_29 cb_m2 rfl ?_
      refine R_iret C CR (Nat.zero_le _) (Nat.zero_le _) dX11_seen_31 ?_
      refine ⟨by rw [aSeen, c1, q]; rfl, rfl, ?_, FrM.rf⟩
      rw [nSeen, q, Bool.and_false, Bool.false_and]
      exact R
    refine R_il2 (n := 11) C dX11_seen_10 rfl ?_
    refine R_i2l (n := 12) C dX11_seen_11 rfl rfl ?_
    refine R_lc (n := 13) C dX11_seen_12 lc_0 rfl ?_
    refine R_ldc2 (n := 16) C dX11_seen_13 kl_X11_283 rfl ?_
    refine R_eql (y := lN 30) (by decide +kernel) ?_
    refine R_callS (n := 19) C (c_mIn _ _ _ r _ _ _) mw_X11_in ml_X11_104 sv_X11_in dX11_seen_16 rfl rfl (Nat.le_of_ble_eq_true rfl) ⟨Nat.le_of_ble_eq_true rfl, Nat.le_of_ble_eq_true rfl⟩ ⟨Nat.le_refl _, Nat.le_refl _⟩ rfl (pEs ?_)
    rw [winL_n (by decide) (by decide)]
    refine R_if_eqB (tgt := 29) C dX11_seen_19 rfl rfl (fun c2 => ?_) (fun c2 => ?_)
    · exact bad (by rw [c2]; rfl)
    · refine R_il3 (n := 23) C dX11_seen_22 rfl ?_
      refine R_callS (n := 26) C (c_mIsWay _ _ _ r _) mw_X11_isWay ml_X11_244 sv_X11_isWay dX11_seen_23 rfl rfl (Nat.le_of_ble_eq_true rfl) ⟨Nat.le_of_ble_eq_true rfl, Nat.le_of_ble_eq_true rfl⟩ ⟨Nat.le_refl _, Nat.le_refl _⟩ rfl (pEs ?_)
      refine R_if_neB (tgt := 32) C dX11_seen_26 rfl rfl (fun c3 => ?_) (fun c3 => ?_)
      · obtain ⟨x, _, hx, rfl⟩ := win_of (by decide) (by decide) c2
        obtain ⟨y, _, hy, rfl⟩ := win_of (by decide) (by decide) c3
        have hxc : cl (nI x) = x := nI_clamp (by omega)
        have hyc : cl (nI y) = y := nI_clamp (by omega)
        refine R_al0 (n := 33) C dX11_seen_32 rfl ?_
        refine M_getI (n := 36) C fl_X11_101 dX11_seen_33 rfl rfl (mSg R.1) rfl ?_
        refine R_bp (n := 38) C dX11_seen_36 cb_6 rfl ?_
        refine R_icmp_neN (tgt := 44) C dX11_seen_38 rfl rfl (by omega) (by omega) (fun c4 => ?_) (fun c4 => ?_)
        · have lt : sSg (gS G) < 6 := by omega
          rw [aSeen, nSeen, c1, c2, c3, if_pos rfl, if_pos (by decide), if_pos lt, decide_eq_true lt, if_pos (by decide), hk2, hxc, hyc] at CR
          have R0 : RM (setA (gS G) 6 (sSg (gS G)) k) (up2 _ 80 (sSg (gS G)) (nI k)) := RM.set R.1 (j := 6) (k := sSg (gS G)) (v := k)
          have R1 : RM (setA (setA (gS G) 6 (sSg (gS G)) k) 7 (sSg (gS G)) x) (up2 _ 81 (sSg (gS G)) (nI x)) := RM.set R0 (j := 7) (k := sSg (gS G)) (v := x)
          have R2 : RM (setA (setA (setA (gS G) 6 (sSg (gS G)) k) 7 (sSg (gS G)) x) 8 (sSg (gS G)) y) (up2 _ 82 (sSg (gS G)) (nI y)) := RM.set R1 (j := 8) (k := sSg (gS G)) (v := y)
          refine R_al0 (n := 45) C dX11_seen_44 rfl ?_
          refine M_getR (n := 48) C fl_X11_28 dX11_seen_45 rfl rfl rfl ?_
          refine R_al0 (n := 49) C dX11_seen_48 rfl ?_
          refine M_getI (n := 52) C fl_X11_101 dX11_seen_49 rfl rfl (mSg R.1) rfl ?_
          refine R_il1 (n := 53) C dX11_seen_52 rfl ?_
          refine M_iast (n := 54) C dX11_seen_53 rfl lt rfl ?_
          refine R_al0 (n := 55) C dX11_seen_54 rfl ?_
          refine M_getR (n := 58) C fl_X11_31 dX11_seen_55 rfl rfl rfl ?_
          refine R_al0 (n := 59) C dX11_seen_58 rfl ?_
          refine M_getI (n := 62) C fl_X11_101 dX11_seen_59 rfl rfl (mSg R0) rfl ?_
          refine R_il2 (n := 63) C dX11_seen_62 rfl ?_
          refine M_iast (n := 64) C dX11_seen_63 rfl lt rfl ?_
          refine R_al0 (n := 65) C dX11_seen_64 rfl ?_
          refine M_getR (n := 68) C fl_X11_34 dX11_seen_65 rfl rfl rfl ?_
          refine R_al0 (n := 69) C dX11_seen_68 rfl ?_
          refine M_getI (n := 72) C fl_X11_101 dX11_seen_69 rfl rfl (mSg R1) rfl ?_
          refine R_il3 (n := 73) C dX11_seen_72 rfl ?_
          refine M_iast (n := 74) C dX11_seen_73 rfl lt rfl ?_
          refine R_al0 (n := 75) C dX11_seen_74 rfl ?_
          refine R_dup (n := 76) C dX11_seen_75 rfl rfl ?_
          refine M_getI (n := 79) C fl_X11_101 dX11_seen_76 rfl rfl (mSg R2) rfl ?_
          refine R_ic (n := 80) C dX11_seen_79 ci_1 rfl ?_
          refine R_iaddN (n := 81) C dX11_seen_80 rfl ?_
          refine M_putI (n := 84) C fl_X11_101 dX11_seen_81 rfl rfl rfl rfl rfl ?_
          refine R_al0 (n := 85) C dX11_seen_84 rfl ?_
          refine M_getI (n := 88) C fl_X11_101 dX11_seen_85 rfl rfl up2_same rfl ?_
          refine R_iret C CR (Nat.zero_le _) (Nat.zero_le _) dX11_seen_88 ?_
          refine ⟨rfl, rfl, R.wood ⟨up2_gne (by decide) R2.1, up2_gne (by decide) R2.2.1, up2_same, fun j k hj hk => up2_get (by omega) (R2.2.2.2 j k hj hk)⟩ (fun a ha => ?_) ?_, (((FrM.rf.up (by decide)).up (by decide)).up (by decide)).up (by decide)⟩
          · rw [up2_row (by omega), up2_row (by omega), up2_row (by omega), up2_row (by omega)]
          · rw [up2_ne (by decide), up2_row (by decide), up2_row (by decide), up2_row (by decide)]
        · refine R_bp (n := 43) C dX11_seen_41 cb_m4 rfl ?_
          refine R_iret C CR (Nat.zero_le _) (Nat.zero_le _) dX11_seen_43 ?_
          refine ⟨by rw [aSeen, c1, c2, c3, if_pos rfl, if_pos (by decide), if_neg (by omega)], rfl, ?_, FrM.rf⟩
          rw [nSeen, decide_eq_false (show ¬ sSg (gS G) < 6 by omega), Bool.and_false, if_neg (by decide)]
          exact R
      · exact bad (by rw [c3, Bool.and_false])
  · refine R_ic (n := 9) C dX11_seen_8 ci_m1 rfl ?_
    refine R_iret C CR (Nat.zero_le _) (Nat.zero_le _) dX11_seen_9 ?_
    refine ⟨by rw [aSeen, c1]; rfl, rfl, ?_, FrM.rf⟩
    rw [nSeen, c1, Bool.false_and, Bool.false_and]
    exact R
set_option maxRecDepth 20000 in
set_option maxHeartbeats 4000000 in
theorem c_mFaultOfSpell (l : Launch) (D : va_G) (cA : Nat → ClassId) (r : Nat → Nat) {h : Hp} {σ : WS} (R : RM σ h) (I : Inv σ) {p : PS} (P : RMP p h) (J : InvP p) : Cn l D cA yX11_faultOfSpell cX11_faultOfSpell 2 (some .int) 1 0 0 [.ref (r 73)] (LY r) h (pE (some (.int (spz (sN σ) p.1 p.2))) (LY r) h) := by
  refine Cn.of (lv := [some (.ref (r 73)), none]) (by decide +kernel) (Nat.le_of_ble_eq_true rfl) rfl (fun X hnm C CR => ?_)
  have n5 := I.n5
  have j0 := J.1
  have loop : ∀ (m i : Nat), p.1 < i + m → i ≤ p.1 → i ≤ sN σ → (∀ j, j < i → spB (sN σ) p.2 j = false) → Rn X 0 0 2 [some (.ref (r 73)), some (.int (nI i))] [] (LY r) h := by
    intro m
    induction m with
    | zero => intro i a1 a2; omega
    | succ m ih =>
      intro i a1 a2 a3 hP
      have hit : i < p.1 → spB (sN σ) p.2 i = true → Rn X 0 0 37 [some (.ref (r 73)), some (.int (nI i))] [] (LY r) h := by
        intro q1 q2
        refine R_il1 (n := 38) C dX11_faultOfSpell_37 rfl ?_
        refine R_iret C CR (Nat.zero_le _) (Nat.zero_le _) dX11_faultOfSpell_38 ?_
        refine ⟨?_, rfl, rfl⟩
        rw [spz, fz_hit hP q1 q2, if_pos q1]
      refine R_il1 (n := 3) C dX11_faultOfSpell_2 rfl ?_
      refine R_al0 (n := 4) C dX11_faultOfSpell_3 rfl ?_
      refine M_getI (n := 7) C fl_X11_128 dX11_faultOfSpell_4 rfl rfl P.1 rfl ?_
      refine R_icmp_geN (tgt := 45) C dX11_faultOfSpell_7 rfl rfl (by omega) (by omega) (fun c1 => ?_) (fun c1 => ?_)
      · obtain rfl : i = p.1 := by omega
        have e : fz (spB (sN σ) p.2) p.1 = p.1 := fz_none hP
        refine R_al0 (n := 46) C dX11_faultOfSpell_45 rfl ?_
        refine M_getI (n := 49) C fl_X11_128 dX11_faultOfSpell_46 rfl rfl P.1 rfl ?_
        refine R_al0 (n := 50) C dX11_faultOfSpell_49 rfl ?_
        refine M_getI (n := 53) C fl_X11_94 dX11_faultOfSpell_50 rfl rfl (mN_ R) rfl ?_
        refine R_icmp_geN (tgt := 63) C dX11_faultOfSpell_53 rfl rfl (by omega) (by omega) (fun c2 => ?_) (fun c2 => ?_)
        · refine R_bp (n := 65) C dX11_faultOfSpell_63 cb_m6 rfl ?_
          refine R_iret C CR (Nat.zero_le _) (Nat.zero_le _) dX11_faultOfSpell_65 ?_
          exact ⟨by rw [spz, e, if_neg (by omega), if_neg (by omega)], rfl, rfl⟩
        · refine R_al0 (n := 57) C dX11_faultOfSpell_56 rfl ?_
          refine M_getI (n := 60) C fl_X11_128 dX11_faultOfSpell_57 rfl rfl P.1 rfl ?_
          refine R_goto (n := 65) C dX11_faultOfSpell_60 rfl ?_
          refine R_iret C CR (Nat.zero_le _) (Nat.zero_le _) dX11_faultOfSpell_65 ?_
          exact ⟨by rw [spz, e, if_neg (by omega), if_pos c2], rfl, rfl⟩
      · refine R_il1 (n := 11) C dX11_faultOfSpell_10 rfl ?_
        refine R_al0 (n := 12) C dX11_faultOfSpell_11 rfl ?_
        refine M_getI (n := 15) C fl_X11_94 dX11_faultOfSpell_12 rfl rfl (mN_ R) rfl ?_
        refine R_icmp_eqN (tgt := 37) C dX11_faultOfSpell_15 rfl rfl (by omega) (by omega) (fun c2 => ?_) (fun c2 => ?_)
        · exact hit c1 (by simp [spB, c2])
        · have s1 := J.2 i (by omega)
          refine R_al0 (n := 19) C dX11_faultOfSpell_18 rfl ?_
          refine M_getR (n := 22) C fl_X11_37 dX11_faultOfSpell_19 rfl rfl rfl ?_
          refine R_il1 (n := 23) C dX11_faultOfSpell_22 rfl ?_
          refine M_iald (n := 24) C dX11_faultOfSpell_23 rfl (by omega) (P.2 i (by omega)) rfl ?_
          refine R_i2l (n := 25) C dX11_faultOfSpell_24 rfl rfl ?_
          refine R_ldc2 (n := 28) C dX11_faultOfSpell_25 kl_X11_131 rfl ?_
          refine R_eql (y := lN 48) (by decide +kernel) ?_
          refine R_ldc2 (n := 31) C dX11_faultOfSpell_28 kl_X11_133 rfl ?_
          refine R_eql (y := lN 51) (by decide +kernel) ?_
          refine R_callS (n := 34) C (c_mIn _ _ _ r _ _ _) mw_X11_in ml_X11_104 sv_X11_in dX11_faultOfSpell_31 rfl rfl (Nat.le_of_ble_eq_true rfl) ⟨Nat.le_of_ble_eq_true rfl, Nat.le_of_ble_eq_true rfl⟩ ⟨Nat.le_refl _, Nat.le_refl _⟩ rfl (pEs ?_)
          rw [show winL (nI (p.2 i)).toInt64 (lN 48) (lN 51) = (decide (48 ≤ p.2 i) && decide (p.2 i ≤ 51)) from (winL_n (by decide) (by decide)).trans (win_nI (by omega) (by decide) (by decide))]
          refine R_if_neB (tgt := 39) C dX11_faultOfSpell_34 rfl rfl (fun c3 => ?_) (fun c3 => ?_)
          · refine R_inc1 (n := 42) C dX11_faultOfSpell_39 rfl (Nat.le_of_ble_eq_true rfl) (inc_1 _) rfl ?_
            refine R_goto (n := 2) C dX11_faultOfSpell_42 rfl ?_
            refine ih (i + 1) (by omega) (by omega) (by omega) (fun j hj => ?_)
            by_cases e : j = i
            · subst e
              rw [spB, c3, decide_eq_false (by omega)]; rfl
            · exact hP j (by omega)
          · exact hit c1 (by rw [spB, c3, Bool.not_false, Bool.or_true])
  refine R_ic (n := 1) C dX11_faultOfSpell_0 ci_0 rfl ?_
  refine R_is1 (n := 2) C dX11_faultOfSpell_1 rfl (Nat.le_of_ble_eq_true rfl) rfl ?_
  exact loop (p.1 + 1) 0 (by omega) (by omega) (by omega) (fun j hj => by omega)
