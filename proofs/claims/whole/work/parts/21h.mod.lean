set_option maxRecDepth 20000 in
set_option maxHeartbeats 4000000 in
theorem m_bare (l : Launch) (D : va_G) (cA : Nat → ClassId) (r : Nat → Nat) {h : Hp} {G : GS} (R : RM (gS G) h) (I : InvG G) (w hu : Int32) : Cn l D cA yX11_bare cX11_bare 4 (some .int) 2 0 0 [.ref (r 73), .int w, .int hu] (LY r) h (pE (some (.int (aBare G w hu))) (LY r) h) := by
  refine Cn.of (lv := [some (.ref (r 73)), some (.int w), some (.int hu), none]) (by decide +kernel) (Nat.le_of_ble_eq_true rfl) rfl (fun X hnm C CR => ?_)
  have n5 := I.1.n5
  have out : (kwz (sKn (gS G)) w && hasH (gS G) hu) = false → Rn X 0 0 16 [some (.ref (r 73)), some (.int w), some (.int hu), none] [] (LY r) h := by
    intro c
    rw [aBare, if_neg (by rw [c]; decide)] at CR
    refine R_ic (n := 17) C dX11_bare_16 ci_m1 rfl ?_
    refine R_iret C CR (Nat.zero_le _) (Nat.zero_le _) dX11_bare_17 ?_
    exact ⟨rfl, rfl, rfl⟩
  refine R_al0 (n := 1) C dX11_bare_0 rfl ?_
  refine R_il1 (n := 2) C dX11_bare_1 rfl ?_
  refine M_callV (n := 5) C (c_mIsKnown _ _ _ r R I.1 _) mw_X11_isKnown ml_X11_155 iv_X11_isKnown dX11_bare_2 rfl rfl rfl rfl (Nat.le_of_ble_eq_true rfl) ⟨Nat.le_of_ble_eq_true rfl, Nat.le_of_ble_eq_true rfl⟩ ⟨Nat.le_refl _, Nat.le_refl _⟩ rfl (pEs ?_)
  refine R_if_eqB (tgt := 16) C dX11_bare_5 rfl rfl (fun c1 => ?_) (fun c1 => ?_)
  · exact out (by rw [c1, Bool.false_and])
  · refine R_al0 (n := 9) C dX11_bare_8 rfl ?_
    refine R_il2 (n := 10) C dX11_bare_9 rfl ?_
    refine M_callV (n := 13) C (c_mIsHut _ _ _ r R I.1 _) mw_X11_isHut ml_X11_112 iv_X11_isHut dX11_bare_10 rfl rfl rfl rfl (Nat.le_of_ble_eq_true rfl) ⟨Nat.le_of_ble_eq_true rfl, Nat.le_of_ble_eq_true rfl⟩ ⟨Nat.le_refl _, Nat.le_refl _⟩ rfl (pEs ?_)
    refine R_if_neB (tgt := 18) C dX11_bare_13 rfl rfl (fun c2 => ?_) (fun c2 => ?_)
    · obtain ⟨x, x6, rfl, _⟩ := kwz_of c1
      obtain ⟨k, k1, rfl, kc⟩ := hasH_of I.1 c2
      have xc : cl (nI x) = x := nI_clamp (by omega)
      rw [aBare, if_pos (by rw [c1, c2]; rfl), xc, kc] at CR
      have l4 := I.1.lk (k := k) (by omega)
      have g30 := I.1.lg (k := k) (by omega)
      have q4 := qz_le I.1 (w := x) (k := k) (l := sA (gS G) 0 k) x6 (by omega)
      refine R_al0 (n := 19) C dX11_bare_18 rfl ?_
      refine R_il1 (n := 20) C dX11_bare_19 rfl ?_
      refine R_il2 (n := 21) C dX11_bare_20 rfl ?_
      refine R_al0 (n := 22) C dX11_bare_21 rfl ?_
      refine M_getR (n := 25) C fl_X11_7 dX11_bare_22 rfl rfl rfl ?_
      refine R_il2 (n := 26) C dX11_bare_25 rfl ?_
      refine M_iald (n := 27) C dX11_bare_26 rfl (by omega) (mLk R (by omega)) rfl ?_
      refine M_callV (n := 30) C (c_mHeeds _ _ _ r R I.1 x6 (by omega) l4) mw_X11_heeds ml_X11_158 iv_X11_heeds dX11_bare_27 rfl rfl rfl rfl (Nat.le_of_ble_eq_true rfl) ⟨Nat.le_of_ble_eq_true rfl, Nat.le_of_ble_eq_true rfl⟩ ⟨Nat.le_refl _, Nat.le_refl _⟩ rfl (pEs ?_)
      refine R_is3 (n := 31) C dX11_bare_30 rfl (Nat.le_of_ble_eq_true rfl) rfl ?_
      refine R_il3 (n := 32) C dX11_bare_31 rfl ?_
      refine R_if_eqN (tgt := 45) C dX11_bare_32 rfl rfl (by omega) (fun c3 => ?_) (fun c3 => ?_)
      · refine R_ic (n := 46) C dX11_bare_45 ci_1 rfl ?_
        refine R_goto (n := 50) C dX11_bare_46 rfl ?_
        refine R_iret C CR (Nat.zero_le _) (Nat.zero_le _) dX11_bare_50 ?_
        exact ⟨by rw [brz, decide_eq_true c3]; rfl, rfl, rfl⟩
      · refine R_al0 (n := 36) C dX11_bare_35 rfl ?_
        refine M_getR (n := 39) C fl_X11_13 dX11_bare_36 rfl rfl rfl ?_
        refine R_il2 (n := 40) C dX11_bare_39 rfl ?_
        refine M_iald (n := 41) C dX11_bare_40 rfl (by omega) (mLg R (by omega)) rfl ?_
        refine R_il3 (n := 42) C dX11_bare_41 rfl ?_
        refine R_icmp_geN (tgt := 49) C dX11_bare_42 rfl rfl (by omega) (by omega) (fun c4 => ?_) (fun c4 => ?_)
        · refine R_ic (n := 50) C dX11_bare_49 ci_0 rfl ?_
          refine R_iret C CR (Nat.zero_le _) (Nat.zero_le _) dX11_bare_50 ?_
          exact ⟨by rw [brz, decide_eq_false c3, decide_eq_false (show ¬ sA (gS G) 1 k < qz (gS G) x k (sA (gS G) 0 k) by omega)]; rfl, rfl, rfl⟩
        · refine R_ic (n := 46) C dX11_bare_45 ci_1 rfl ?_
          refine R_goto (n := 50) C dX11_bare_46 rfl ?_
          refine R_iret C CR (Nat.zero_le _) (Nat.zero_le _) dX11_bare_50 ?_
          exact ⟨by rw [brz, decide_eq_true (show sA (gS G) 1 k < qz (gS G) x k (sA (gS G) 0 k) by omega), Bool.or_true]; rfl, rfl, rfl⟩
    · exact out (by rw [c2, Bool.and_false])
set_option maxRecDepth 20000 in
set_option maxHeartbeats 4000000 in
theorem m_state (l : Launch) (D : va_G) (cA : Nat → ClassId) (r : Nat → Nat) {h : Hp} {G : GS} (R : RM (gS G) h) (I : InvG G) (hu v : Int32) : Cn l D cA yX11_state cX11_state 3 (some .int) 2 0 0 [.ref (r 73), .int hu, .int v] (LY r) h (pE (some (.int (aState G hu v))) (LY r) h) := by
  refine Cn.of (lv := [some (.ref (r 73)), some (.int hu), some (.int v)]) (by decide +kernel) (Nat.le_of_ble_eq_true rfl) rfl (fun X hnm C CR => ?_)
  have n5 := I.1.n5
  refine R_al0 (n := 1) C dX11_state_0 rfl ?_
  refine R_il1 (n := 2) C dX11_state_1 rfl ?_
  refine M_callV (n := 5) C (c_mIsHut _ _ _ r R I.1 _) mw_X11_isHut ml_X11_112 iv_X11_isHut dX11_state_2 rfl rfl rfl rfl (Nat.le_of_ble_eq_true rfl) ⟨Nat.le_of_ble_eq_true rfl, Nat.le_of_ble_eq_true rfl⟩ ⟨Nat.le_refl _, Nat.le_refl _⟩ rfl (pEs ?_)
  refine R_if_neB (tgt := 10) C dX11_state_5 rfl rfl (fun c1 => ?_) (fun c1 => ?_)
  · obtain ⟨k, k1, rfl, kc⟩ := hasH_of I.1 c1
    rw [aState, if_pos c1, kc] at CR
    refine R_il2 (n := 11) C dX11_state_10 rfl ?_
    refine R_if_ne (tgt := 23) C dX11_state_11 rfl rfl (fun c2 => ?_) (fun c2 => ?_)
    · refine R_il2 (n := 24) C dX11_state_23 rfl ?_
      refine R_ic (n := 25) C dX11_state_24 ci_1 rfl ?_
      refine R_icmp_ne (tgt := 37) C dX11_state_25 rfl rfl (fun c3 => ?_) (fun c3 => ?_)
      · have nw : win v (nI 0) (nI 1) = false := by
          cases e : win v (nI 0) (nI 1) with
          | false => rfl
          | true =>
            obtain ⟨x, _, x1, rfl⟩ := win_of (by decide) (by decide) e
            have : x = 0 ∨ x = 1 := by omega
            rcases this with rfl | rfl
            · exact absurd rfl c2
            · exact absurd rfl c3
        rw [if_neg (by rw [nw]; decide)] at CR
        refine R_bp (n := 39) C dX11_state_37 cb_m2 rfl ?_
        refine R_iret C CR (Nat.zero_le _) (Nat.zero_le _) dX11_state_39 ?_
        exact ⟨rfl, rfl, rfl⟩
      · rw [c3, if_pos (by decide), if_neg (by decide)] at CR
        refine R_al0 (n := 29) C dX11_state_28 rfl ?_
        refine M_getR (n := 32) C fl_X11_13 dX11_state_29 rfl rfl rfl ?_
        refine R_il1 (n := 33) C dX11_state_32 rfl ?_
        refine M_iald (n := 34) C dX11_state_33 rfl (by omega) (mLg R (by omega)) rfl ?_
        refine R_goto (n := 39) C dX11_state_34 rfl ?_
        refine R_iret C CR (Nat.zero_le _) (Nat.zero_le _) dX11_state_39 ?_
        exact ⟨rfl, rfl, rfl⟩
    · rw [c2, if_pos (by decide), if_pos (by decide)] at CR
      refine R_al0 (n := 15) C dX11_state_14 rfl ?_
      refine M_getR (n := 18) C fl_X11_7 dX11_state_15 rfl rfl rfl ?_
      refine R_il1 (n := 19) C dX11_state_18 rfl ?_
      refine M_iald (n := 20) C dX11_state_19 rfl (by omega) (mLk R (by omega)) rfl ?_
      refine R_goto (n := 39) C dX11_state_20 rfl ?_
      refine R_iret C CR (Nat.zero_le _) (Nat.zero_le _) dX11_state_39 ?_
      exact ⟨rfl, rfl, rfl⟩
  · refine R_ic (n := 9) C dX11_state_8 ci_m1 rfl ?_
    refine R_iret C CR (Nat.zero_le _) (Nat.zero_le _) dX11_state_9 ?_
    refine ⟨?_, rfl, rfl⟩
    rw [aState, if_neg (by rw [c1]; decide)]
