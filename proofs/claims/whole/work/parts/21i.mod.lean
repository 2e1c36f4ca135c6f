set_option maxRecDepth 20000 in
set_option maxHeartbeats 4000000 in
theorem m_elected (l : Launch) (D : va_G) (cA : Nat → ClassId) (r : Nat → Nat) {h : Hp} {G : GS} (R : RM (gS G) h) (I : InvG G) : Cn l D cA yX11_elected cX11_elected 3 (some .int) 2 0 0 [.ref (r 73)] (LY r) h (pE (some (.int (aElected G))) (LY r) h) := by
  refine Cn.of (lv := [some (.ref (r 73)), none, none]) (by decide +kernel) (Nat.le_of_ble_eq_true rfl) rfl (fun X hnm C CR => ?_)
  have n5 := I.1.n5
  have nb := nuz_1024 I.1
  obtain ⟨f, hf⟩ : ∃ f, vtz (sN (gS G)) (nuz (gS G)) = f := ⟨_, rfl⟩
  have fb : ∀ w, f w ≤ 5 := fun w => by rw [← hf]; exact Nat.le_trans cnz_le n5
  have loop : ∀ (m i : Nat), 3 < i + m → i ≤ 3 → Rn X 0 0 4 [some (.ref (r 73)), some (.int (nI (elz f i))), some (.int (nI (i + 1)))] [] (LY r) h := by
    intro m
    induction m with
    | zero => intro i a1 a2; omega
    | succ m ih =>
      intro i a1 a2
      have el := elz_le f i
      refine R_il2 (n := 5) C dX11_elected_4 rfl ?_
      refine R_ic (n := 6) C dX11_elected_5 ci_4 rfl ?_
      refine R_icmp_geN (tgt := 42) C dX11_elected_6 rfl rfl (by omega) (by omega) (fun c => ?_) (fun c => ?_)
      · refine R_il1 (n := 43) C dX11_elected_42 rfl ?_
        refine R_iret C CR (Nat.zero_le _) (Nat.zero_le _) dX11_elected_43 ?_
        refine ⟨?_, rfl, rfl⟩
        rw [aElected, hf, show i = 3 by omega]
      · refine R_al0 (n := 10) C dX11_elected_9 rfl ?_
        refine R_al0 (n := 11) C dX11_elected_10 rfl ?_
        refine M_callV (n := 14) C (c_mLookNow _ _ _ r R I.1) mw_X11_lookNow ml_X11_211 iv_X11_lookNow dX11_elected_11 rfl rfl rfl rfl (Nat.le_of_ble_eq_true rfl) ⟨Nat.le_of_ble_eq_true rfl, Nat.le_of_ble_eq_true rfl⟩ ⟨Nat.le_refl _, Nat.le_refl _⟩ rfl (pEs ?_)
        refine R_il2 (n := 15) C dX11_elected_14 rfl ?_
        refine M_callV (n := 18) C (c_mLookingIn _ _ _ r R I.1 nb (by omega)) mw_X11_lookingIn ml_X11_280 iv_X11_lookingIn dX11_elected_15 rfl rfl rfl rfl (Nat.le_of_ble_eq_true rfl) ⟨Nat.le_of_ble_eq_true rfl, Nat.le_of_ble_eq_true rfl⟩ ⟨Nat.le_refl _, Nat.le_refl _⟩ rfl (pEs ?_)
        refine R_al0 (n := 19) C dX11_elected_18 rfl ?_
        refine R_al0 (n := 20) C dX11_elected_19 rfl ?_
        refine M_callV (n := 23) C (c_mLookNow _ _ _ r R I.1) mw_X11_lookNow ml_X11_211 iv_X11_lookNow dX11_elected_20 rfl rfl rfl rfl (Nat.le_of_ble_eq_true rfl) ⟨Nat.le_of_ble_eq_true rfl, Nat.le_of_ble_eq_true rfl⟩ ⟨Nat.le_refl _, Nat.le_refl _⟩ rfl (pEs ?_)
        refine R_il1 (n := 24) C dX11_elected_23 rfl ?_
        refine M_callV (n := 27) C (c_mLookingIn _ _ _ r R I.1 nb (by omega)) mw_X11_lookingIn ml_X11_280 iv_X11_lookingIn dX11_elected_24 rfl rfl rfl rfl (Nat.le_of_ble_eq_true rfl) ⟨Nat.le_of_ble_eq_true rfl, Nat.le_of_ble_eq_true rfl⟩ ⟨Nat.le_refl _, Nat.le_refl _⟩ rfl (pEs ?_)
        rw [hf]
        have f1 := fb (i + 1)
        have f2 := fb (elz f i)
        refine R_icmp_leN (tgt := 34) C dX11_elected_27 rfl rfl (by omega) (by omega) (fun c2 => ?_) (fun c2 => ?_)
        · have e : elz f (i + 1) = elz f i := by rw [elz, if_neg (by omega)]
          refine R_il1 (n := 35) C dX11_elected_34 rfl ?_
          refine R_is1 (n := 36) C dX11_elected_35 rfl (Nat.le_of_ble_eq_true rfl) rfl ?_
          refine R_inc2 (n := 39) C dX11_elected_36 rfl (Nat.le_of_ble_eq_true rfl) (inc_1 _) rfl ?_
          refine R_goto (n := 4) C dX11_elected_39 rfl ?_
          rw [← e]
          exact ih (i + 1) (by omega) (by omega)
        · have e : elz f (i + 1) = i + 1 := by rw [elz, if_pos (by omega)]
          refine R_il2 (n := 31) C dX11_elected_30 rfl ?_
          refine R_goto (n := 35) C dX11_elected_31 rfl ?_
          refine R_is1 (n := 36) C dX11_elected_35 rfl (Nat.le_of_ble_eq_true rfl) rfl ?_
          refine R_inc2 (n := 39) C dX11_elected_36 rfl (Nat.le_of_ble_eq_true rfl) (inc_1 _) rfl ?_
          refine R_goto (n := 4) C dX11_elected_39 rfl ?_
          have := ih (i + 1) (by omega) (by omega)
          rw [e] at this
          exact this
  refine R_ic (n := 1) C dX11_elected_0 ci_0 rfl ?_
  refine R_is1 (n := 2) C dX11_elected_1 rfl (Nat.le_of_ble_eq_true rfl) rfl ?_
  refine R_ic (n := 3) C dX11_elected_2 ci_1 rfl ?_
  refine R_is2 (n := 4) C dX11_elected_3 rfl (Nat.le_of_ble_eq_true rfl) rfl ?_
  exact loop 4 0 (by omega) (by omega)
