/-! small methods of the class -/
set_option maxRecDepth 20000 in
set_option maxHeartbeats 4000000 in
theorem c_quarters (l : Launch) (D : va_G) (cA : Nat → ClassId) (r : Nat → Nat) {h : Hp} {σ : WS} (R : RW 1 σ h) (I : Inv σ) {w k l9 : Nat} (hw : w < 6) (hk : k < 5) (hl : l9 < 4) : Cn l D cA yX9_quarters cX9_quarters 5 (some .int) 0 0 0 [.ref (r 1), .int (nI w), .int (nI k), .int (nI l9)] (LY r) h (pE (some (.int (nI (qz σ w k l9)))) (LY r) h) := by
  refine Cn.of (lv := [some (.ref (r 1)), some (.int (nI w)), some (.int (nI k)), some (.int (nI l9)), none]) (by decide +kernel) (Nat.le_of_ble_eq_true rfl) rfl (fun X hnm C CR => ?_)
  have kd := I.kd hk
  refine R_al0 C dX9_quarters_0 rfl ?_
  refine M_getR C fl_X9_21 dX9_quarters_1 rfl rfl rfl ?_
  refine R_il2 C dX9_quarters_4 rfl ?_
  refine M_iald C dX9_quarters_5 rfl hk (wKd R hk) rfl ?_
  refine R_is4 C dX9_quarters_6 rfl (Nat.le_of_ble_eq_true rfl) rfl ?_
  refine R_il4 C dX9_quarters_8 rfl ?_
  refine R_ic C dX9_quarters_10 ci_1 rfl ?_
  refine R_icmp_eqN (tgt := 26) C dX9_quarters_11 rfl rfl (by omega) (by omega) (fun c1 => ?_) (fun c1 => ?_)
  · refine R_ic C dX9_quarters_26 ci_0 rfl ?_
    refine R_iret C CR (Nat.zero_le _) (Nat.zero_le _) dX9_quarters_27 ?_
    refine ⟨?_, rfl, rfl⟩
    rw [qz, if_pos (Or.inl c1)]
  · refine R_il4 C dX9_quarters_14 rfl ?_
    refine R_ic C dX9_quarters_16 ci_3 rfl ?_
    refine R_icmp_neN (tgt := 28) C dX9_quarters_17 rfl rfl (by omega) (by omega) (fun c2 => ?_) (fun c2 => ?_)
    · refine R_al0 C dX9_quarters_28 rfl ?_
      refine M_getR C fl_X9_27 dX9_quarters_29 rfl rfl rfl ?_
      refine R_il1 C dX9_quarters_32 rfl ?_
      refine R_ic C dX9_quarters_33 ci_5 rfl ?_
      refine R_imulN C dX9_quarters_34 rfl ?_
      refine R_il2 C dX9_quarters_35 rfl ?_
      refine R_iaddN C dX9_quarters_36 rfl ?_
      refine M_iald C dX9_quarters_37 rfl (by omega) (wTu R (by omega)) rfl ?_
      refine R_iret C CR (Nat.zero_le _) (Nat.zero_le _) dX9_quarters_38 ?_
      refine ⟨?_, rfl, rfl⟩
      rw [qz, if_neg (by omega), Nat.mul_comm]
    · refine R_il3 C dX9_quarters_20 rfl ?_
      refine R_ic C dX9_quarters_21 ci_1 rfl ?_
      refine R_iandN C dX9_quarters_22 rfl ?_
      refine R_eq (y := nI (l9 % 2)) (by congr 1; exact Nat.and_one_is_mod l9) ?_
      refine R_if_neN (tgt := 28) C dX9_quarters_23 rfl rfl (by omega) (fun c3 => ?_) (fun c3 => ?_)
      · refine R_al0 C dX9_quarters_28 rfl ?_
        refine M_getR C fl_X9_27 dX9_quarters_29 rfl rfl rfl ?_
        refine R_il1 C dX9_quarters_32 rfl ?_
        refine R_ic C dX9_quarters_33 ci_5 rfl ?_
        refine R_imulN C dX9_quarters_34 rfl ?_
        refine R_il2 C dX9_quarters_35 rfl ?_
        refine R_iaddN C dX9_quarters_36 rfl ?_
        refine M_iald C dX9_quarters_37 rfl (by omega) (wTu R (by omega)) rfl ?_
        refine R_iret C CR (Nat.zero_le _) (Nat.zero_le _) dX9_quarters_38 ?_
        refine ⟨?_, rfl, rfl⟩
        rw [qz, if_neg (by omega), Nat.mul_comm]
      · refine R_ic C dX9_quarters_26 ci_0 rfl ?_
        refine R_iret C CR (Nat.zero_le _) (Nat.zero_le _) dX9_quarters_27 ?_
        refine ⟨?_, rfl, rfl⟩
        rw [qz, if_pos (Or.inr ⟨c2, c3⟩)]
