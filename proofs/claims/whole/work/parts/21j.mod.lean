set_option maxRecDepth 20000 in
set_option maxHeartbeats 4000000 in
theorem c_mIsTaken (l : Launch) (D : va_G) (cA : Nat → ClassId) (r : Nat → Nat) {h : Hp} {σ : WS} (R : RM σ h) (I : Inv σ) {c b : Nat} (hc : c < 25) (hb : b < 5) : Cn l D cA yX11_isTaken cX11_isTaken 5 (some .boolean) 0 0 0 [.ref (r 73), .int (nI b), .int (nI c)] (LY r) h (pE (some (.int (bI (tkz σ c b)))) (LY r) h) := by
  refine Cn.of (lv := [some (.ref (r 73)), some (.int (nI b)), some (.int (nI c)), none, none]) (by decide +kernel) (Nat.le_of_ble_eq_true rfl) rfl (fun X hnm C CR => ?_)
  have n5 := I.n5
  have loop : ∀ (m i : Nat), sN σ < i + m → i ≤ sN σ → Rn X 0 0 5 [some (.ref (r 73)), some (.int (nI b)), some (.int (nI c)), some (.int (bI (exb (fun k => !decide (k = b) && decide (sA σ 4 k = c)) i))), some (.int (nI i))] [] (LY r) h := by
    intro m
    induction m with
    | zero => intro i a1 a2; omega
    | succ m ih =>
      intro i a1 a2
      have ih1 := ih (i + 1)
      rw [exb_s] at ih1
      obtain ⟨t, ht⟩ : ∃ t, exb (fun k => !decide (k = b) && decide (sA σ 4 k = c)) i = t := ⟨_, rfl⟩
      rw [ht] at ih1
      have yes : (t || (!decide (i = b) && decide (sA σ 4 i = c))) = true → i < sN σ → Rn X 0 0 35 [some (.ref (r 73)), some (.int (nI b)), some (.int (nI c)), some (.int (bI t)), some (.int (nI i))] [] (LY r) h := by
        intro q hi
        rw [q] at ih1
        refine R_ic (n := 36) C dX11_isTaken_35 ci_1 rfl ?_
        refine R_goto (n := 40) C dX11_isTaken_36 rfl ?_
        refine R_eq (y := bI true) rfl ?_
        refine R_is3 (n := 41) C dX11_isTaken_40 rfl (Nat.le_of_ble_eq_true rfl) rfl ?_
        refine R_inc4 (n := 44) C dX11_isTaken_41 rfl (Nat.le_of_ble_eq_true rfl) (inc_1 _) rfl ?_
        refine R_goto (n := 5) C dX11_isTaken_44 rfl ?_
        exact ih1 (by omega) (by omega)
      have no : (t || (!decide (i = b) && decide (sA σ 4 i = c))) = false → i < sN σ → Rn X 0 0 39 [some (.ref (r 73)), some (.int (nI b)), some (.int (nI c)), some (.int (bI t)), some (.int (nI i))] [] (LY r) h := by
        intro q hi
        rw [q] at ih1
        refine R_ic (n := 40) C dX11_isTaken_39 ci_0 rfl ?_
        refine R_eq (y := bI false) rfl ?_
        refine R_is3 (n := 41) C dX11_isTaken_40 rfl (Nat.le_of_ble_eq_true rfl) rfl ?_
        refine R_inc4 (n := 44) C dX11_isTaken_41 rfl (Nat.le_of_ble_eq_true rfl) (inc_1 _) rfl ?_
        refine R_goto (n := 5) C dX11_isTaken_44 rfl ?_
        exact ih1 (by omega) (by omega)
      rw [ht]
      refine R_il4 (n := 7) C dX11_isTaken_5 rfl ?_
      refine R_al0 (n := 8) C dX11_isTaken_7 rfl ?_
      refine M_getI (n := 11) C fl_X11_94 dX11_isTaken_8 rfl rfl (mN_ R) rfl ?_
      refine R_icmp_geN (tgt := 47) C dX11_isTaken_11 rfl rfl (by omega) (by omega) (fun c1 => ?_) (fun c1 => ?_)
      · refine R_il3 (n := 48) C dX11_isTaken_47 rfl ?_
        refine R_zretB C CR (Nat.zero_le _) (Nat.zero_le _) dX11_isTaken_48 ?_
        exact ⟨by rw [tkz, show sN σ = i by omega, ht], rfl, rfl⟩
      · have ce := I.ce (k := i) (by omega)
        refine R_il3 (n := 15) C dX11_isTaken_14 rfl ?_
        refine R_if_neB (tgt := 35) C dX11_isTaken_15 rfl rfl (fun c2 => ?_) (fun c2 => ?_)
        · exact yes (by rw [c2]; rfl) c1
        · refine R_il4 (n := 20) C dX11_isTaken_18 rfl ?_
          refine R_il1 (n := 21) C dX11_isTaken_20 rfl ?_
          refine R_icmp_eqN (tgt := 39) C dX11_isTaken_21 rfl rfl (by omega) (by omega) (fun c3 => ?_) (fun c3 => ?_)
          · exact no (by rw [c2, decide_eq_true c3]; rfl) c1
          · refine R_al0 (n := 25) C dX11_isTaken_24 rfl ?_
            refine M_getR (n := 28) C fl_X11_22 dX11_isTaken_25 rfl rfl rfl ?_
            refine R_il4 (n := 30) C dX11_isTaken_28 rfl ?_
            refine M_iald (n := 31) C dX11_isTaken_30 rfl (by omega) (mCe R (by omega)) rfl ?_
            refine R_il2 (n := 32) C dX11_isTaken_31 rfl ?_
            refine R_icmp_neN (tgt := 39) C dX11_isTaken_32 rfl rfl (by omega) (by omega) (fun c4 => ?_) (fun c4 => ?_)
            · exact no (by rw [c2, decide_eq_false c4, Bool.and_false]; rfl) c1
            · exact yes (by rw [decide_eq_false c3, decide_eq_true c4, c2]; rfl) c1
  refine R_ic (n := 1) C dX11_isTaken_0 ci_0 rfl ?_
  refine R_is3 (n := 2) C dX11_isTaken_1 rfl (Nat.le_of_ble_eq_true rfl) rfl ?_
  refine R_ic (n := 3) C dX11_isTaken_2 ci_0 rfl ?_
  refine R_is4 (n := 5) C dX11_isTaken_3 rfl (Nat.le_of_ble_eq_true rfl) rfl ?_
  exact loop (sN σ + 1) 0 (by omega) (by omega)
