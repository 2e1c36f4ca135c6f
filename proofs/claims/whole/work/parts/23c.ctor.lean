set_option maxRecDepth 20000 in
set_option maxHeartbeats 4000000 in
theorem k_X0 (l : Launch) (D : va_G) (cA : Nat → ClassId) {L : Ly} {h : Hp} {q : Nat} (hz : Zr h (L.length + 1)) : Cn l D cA yX0_init cX0_init 1 none 1 2 16 [.ref q] (L ++ [(q, .inl (0, [some none, some none]))]) h (pL (fun ρ => L ++ [(q, .inl (0, [some (some (ρ 0)), some (some (ρ 1))])), (ρ 0, .inr (.inl (0, 8))), (ρ 1, .inr (.inl (0, 8)))]) (fun h' => h' = h)) := by
  refine Cn.of (lv := [some (.ref q)]) (by decide +kernel) (Nat.le_of_ble_eq_true rfl) rfl (fun X hnm C CR => ?_)
  refine R_al0 (n := 1) C dX0_init_0 rfl ?_
  refine N_oi (n := 4) C oi_X0 dX0_init_1 (Nat.le_of_ble_eq_true rfl) (Nat.le_of_ble_eq_true rfl) rfl ?_
  refine R_al0 (n := 5) C dX0_init_4 rfl ?_
  refine R_bp (n := 7) C dX0_init_5 cb_8 rfl ?_
  refine N_newi (n := 9) (M' := fun q7 => [(q, .inl (0, [some none, some none])), (q7, .inr (.inl (0, 8)))]) C (fun _ => rfl) hz (Nat.le_of_ble_eq_true rfl) (Nat.le_of_ble_eq_true rfl) (Nat.le_of_ble_eq_true rfl) (Nat.le_of_ble_eq_true rfl) dX0_init_7 rfl (fun q7 => ?_)
  refine N_putF (n := 12) (M' := [(q, .inl (0, [some (some (q7)), some none])), (q7, .inr (.inl (0, 8)))]) C hnm 0 fl_X0_9 rfl rfl rfl rfl rfl rfl dX0_init_9 rfl (Nat.le_of_ble_eq_true rfl) rfl rfl ?_
  refine R_al0 (n := 13) C dX0_init_12 rfl ?_
  refine R_bp (n := 15) C dX0_init_13 cb_8 rfl ?_
  refine N_newi (n := 17) (M' := fun q15 => [(q, .inl (0, [some (some (q7)), some none])), (q7, .inr (.inl (0, 8))), (q15, .inr (.inl (0, 8)))]) C (fun _ => rfl) hz (Nat.le_of_ble_eq_true rfl) (Nat.le_of_ble_eq_true rfl) (Nat.le_of_ble_eq_true rfl) (Nat.le_of_ble_eq_true rfl) dX0_init_15 rfl (fun q15 => ?_)
  refine N_putF (n := 20) (M' := [(q, .inl (0, [some (some (q7)), some (some (q15))])), (q7, .inr (.inl (0, 8))), (q15, .inr (.inl (0, 8)))]) C hnm 0 fl_X0_15 rfl rfl rfl rfl rfl rfl dX0_init_17 rfl (Nat.le_of_ble_eq_true rfl) rfl rfl ?_
  exact R_vret C CR (Nat.le_of_ble_eq_true rfl) (Nat.le_of_ble_eq_true rfl) dX0_init_20 ⟨rfl, ⟨fun i => [q7, q15].getD i 0, rfl⟩, rfl⟩
set_option maxRecDepth 20000 in
set_option maxHeartbeats 4000000 in
theorem k_X1 (l : Launch) (D : va_G) (cA : Nat → ClassId) {L : Ly} {h : Hp} {q : Nat} (hz : Zr h (L.length + 1)) : Cn l D cA yX1_init cX1_init 1 none 1 3 75 [.ref q] (L ++ [(q, .inl (1, [none, some none, some none, some none]))]) h (pL (fun ρ => L ++ [(q, .inl (1, [none, some (some (ρ 0)), some (some (ρ 1)), some (some (ρ 2))])), (ρ 0, .inr (.inl (0, 25))), (ρ 1, .inr (.inl (0, 25))), (ρ 2, .inr (.inl (0, 25)))]) (fun h' => h' = h)) := by
  refine Cn.of (lv := [some (.ref q)]) (by decide +kernel) (Nat.le_of_ble_eq_true rfl) rfl (fun X hnm C CR => ?_)
  refine R_al0 (n := 1) C dX1_init_0 rfl ?_
  refine N_oi (n := 4) C oi_X1 dX1_init_1 (Nat.le_of_ble_eq_true rfl) (Nat.le_of_ble_eq_true rfl) rfl ?_
  refine R_al0 (n := 5) C dX1_init_4 rfl ?_
  refine R_bp (n := 7) C dX1_init_5 cb_25 rfl ?_
  refine N_newi (n := 9) (M' := fun q7 => [(q, .inl (1, [none, some none, some none, some none])), (q7, .inr (.inl (0, 25)))]) C (fun _ => rfl) hz (Nat.le_of_ble_eq_true rfl) (Nat.le_of_ble_eq_true rfl) (Nat.le_of_ble_eq_true rfl) (Nat.le_of_ble_eq_true rfl) dX1_init_7 rfl (fun q7 => ?_)
  refine N_putF (n := 12) (M' := [(q, .inl (1, [none, some (some (q7)), some none, some none])), (q7, .inr (.inl (0, 25)))]) C hnm 0 fl_X1_9 rfl rfl rfl rfl rfl rfl dX1_init_9 rfl (Nat.le_of_ble_eq_true rfl) rfl rfl ?_
  refine R_al0 (n := 13) C dX1_init_12 rfl ?_
  refine R_bp (n := 15) C dX1_init_13 cb_25 rfl ?_
  refine N_newi (n := 17) (M' := fun q15 => [(q, .inl (1, [none, some (some (q7)), some none, some none])), (q7, .inr (.inl (0, 25))), (q15, .inr (.inl (0, 25)))]) C (fun _ => rfl) hz (Nat.le_of_ble_eq_true rfl) (Nat.le_of_ble_eq_true rfl) (Nat.le_of_ble_eq_true rfl) (Nat.le_of_ble_eq_true rfl) dX1_init_15 rfl (fun q15 => ?_)
  refine N_putF (n := 20) (M' := [(q, .inl (1, [none, some (some (q7)), some (some (q15)), some none])), (q7, .inr (.inl (0, 25))), (q15, .inr (.inl (0, 25)))]) C hnm 0 fl_X1_15 rfl rfl rfl rfl rfl rfl dX1_init_17 rfl (Nat.le_of_ble_eq_true rfl) rfl rfl ?_
  refine R_al0 (n := 21) C dX1_init_20 rfl ?_
  refine R_bp (n := 23) C dX1_init_21 cb_25 rfl ?_
  refine N_newi (n := 25) (M' := fun q23 => [(q, .inl (1, [none, some (some (q7)), some (some (q15)), some none])), (q7, .inr (.inl (0, 25))), (q15, .inr (.inl (0, 25))), (q23, .inr (.inl (0, 25)))]) C (fun _ => rfl) hz (Nat.le_of_ble_eq_true rfl) (Nat.le_of_ble_eq_true rfl) (Nat.le_of_ble_eq_true rfl) (Nat.le_of_ble_eq_true rfl) dX1_init_23 rfl (fun q23 => ?_)
  refine N_putF (n := 28) (M' := [(q, .inl (1, [none, some (some (q7)), some (some (q15)), some (some (q23))])), (q7, .inr (.inl (0, 25))), (q15, .inr (.inl (0, 25))), (q23, .inr (.inl (0, 25)))]) C hnm 0 fl_X1_18 rfl rfl rfl rfl rfl rfl dX1_init_25 rfl (Nat.le_of_ble_eq_true rfl) rfl rfl ?_
  exact R_vret C CR (Nat.le_of_ble_eq_true rfl) (Nat.le_of_ble_eq_true rfl) dX1_init_28 ⟨rfl, ⟨fun i => [q7, q15, q23].getD i 0, rfl⟩, rfl⟩
set_option maxRecDepth 20000 in
set_option maxHeartbeats 4000000 in
theorem k_X2 (l : Launch) (D : va_G) (cA : Nat → ClassId) {L : Ly} {h : Hp} {q : Nat} (hz : Zr h (L.length + 1)) : Cn l D cA yX2_init cX2_init 1 none 1 2 10 [.ref q] (L ++ [(q, .inl (2, [none, none, none, none, none, some none, some none]))]) h (pL (fun ρ => L ++ [(q, .inl (2, [none, none, none, none, none, some (some (ρ 0)), some (some (ρ 1))])), (ρ 0, .inr (.inl (0, 5))), (ρ 1, .inr (.inl (0, 5)))]) (fun h' => h' = h)) := by
  refine Cn.of (lv := [some (.ref q)]) (by decide +kernel) (Nat.le_of_ble_eq_true rfl) rfl (fun X hnm C CR => ?_)
  refine R_al0 (n := 1) C dX2_init_0 rfl ?_
  refine N_oi (n := 4) C oi_X2 dX2_init_1 (Nat.le_of_ble_eq_true rfl) (Nat.le_of_ble_eq_true rfl) rfl ?_
  refine R_al0 (n := 5) C dX2_init_4 rfl ?_
  refine R_ic (n := 6) C dX2_init_5 ci_5 rfl ?_
  refine N_newi (n := 8) (M' := fun q6 => [(q, .inl (2, [none, none, none, none, none, some none, some none])), (q6, .inr (.inl (0, 5)))]) C (fun _ => rfl) hz (Nat.le_of_ble_eq_true rfl) (Nat.le_of_ble_eq_true rfl) (Nat.le_of_ble_eq_true rfl) (Nat.le_of_ble_eq_true rfl) dX2_init_6 rfl (fun q6 => ?_)
  refine N_putF (n := 11) (M' := [(q, .inl (2, [none, none, none, none, none, some (some (q6)), some none])), (q6, .inr (.inl (0, 5)))]) C hnm 0 fl_X2_9 rfl rfl rfl rfl rfl rfl dX2_init_8 rfl (Nat.le_of_ble_eq_true rfl) rfl rfl ?_
  refine R_al0 (n := 12) C dX2_init_11 rfl ?_
  refine R_ic (n := 13) C dX2_init_12 ci_5 rfl ?_
  refine N_newi (n := 15) (M' := fun q13 => [(q, .inl (2, [none, none, none, none, none, some (some (q6)), some none])), (q6, .inr (.inl (0, 5))), (q13, .inr (.inl (0, 5)))]) C (fun _ => rfl) hz (Nat.le_of_ble_eq_true rfl) (Nat.le_of_ble_eq_true rfl) (Nat.le_of_ble_eq_true rfl) (Nat.le_of_ble_eq_true rfl) dX2_init_13 rfl (fun q13 => ?_)
  refine N_putF (n := 18) (M' := [(q, .inl (2, [none, none, none, none, none, some (some (q6)), some (some (q13))])), (q6, .inr (.inl (0, 5))), (q13, .inr (.inl (0, 5)))]) C hnm 0 fl_X2_15 rfl rfl rfl rfl rfl rfl dX2_init_15 rfl (Nat.le_of_ble_eq_true rfl) rfl rfl ?_
  exact R_vret C CR (Nat.le_of_ble_eq_true rfl) (Nat.le_of_ble_eq_true rfl) dX2_init_18 ⟨rfl, ⟨fun i => [q6, q13].getD i 0, rfl⟩, rfl⟩
set_option maxRecDepth 20000 in
set_option maxHeartbeats 4000000 in
theorem k_X3 (l : Launch) (D : va_G) (cA : Nat → ClassId) {L : Ly} {h : Hp} {q : Nat} (hz : Zr h (L.length + 1)) : Cn l D cA yX3_init cX3_init 1 none 1 14 72 [.ref q] (L ++ [(q, .inl (3, [none, none, some none, some none]))]) h (pL (fun ρ => L ++ [(q, .inl (3, [none, none, some (some (ρ 0)), some (some (ρ 7))])), (ρ 0, .inr (.inr (3, [some (ρ 1), some (ρ 2), some (ρ 3), some (ρ 4), some (ρ 5), some (ρ 6)]))), (ρ 1, .inr (.inl (0, 5))), (ρ 2, .inr (.inl (0, 5))), (ρ 3, .inr (.inl (0, 5))), (ρ 4, .inr (.inl (0, 5))), (ρ 5, .inr (.inl (0, 5))), (ρ 6, .inr (.inl (0, 5))), (ρ 7, .inr (.inr (3, [some (ρ 8), some (ρ 9), some (ρ 10), some (ρ 11), some (ρ 12), some (ρ 13)]))), (ρ 8, .inr (.inl (0, 5))), (ρ 9, .inr (.inl (0, 5))), (ρ 10, .inr (.inl (0, 5))), (ρ 11, .inr (.inl (0, 5))), (ρ 12, .inr (.inl (0, 5))), (ρ 13, .inr (.inl (0, 5)))]) (fun h' => h' = h)) := by
  refine Cn.of (lv := [some (.ref q)]) (by decide +kernel) (Nat.le_of_ble_eq_true rfl) rfl (fun X hnm C CR => ?_)
  refine R_al0 (n := 1) C dX3_init_0 rfl ?_
  refine N_oi (n := 4) C oi_X3 dX3_init_1 (Nat.le_of_ble_eq_true rfl) (Nat.le_of_ble_eq_true rfl) rfl ?_
  refine R_al0 (n := 5) C dX3_init_4 rfl ?_
  refine R_bp (n := 7) C dX3_init_5 cb_6 rfl ?_
  refine R_ic (n := 8) C dX3_init_7 ci_5 rfl ?_
  refine N_mna (n := 12) (M' := fun q8 ρ8 => [(q, .inl (3, [none, none, some none, some none])), (q8, .inr (.inr (3, [some (ρ8 0), some (ρ8 1), some (ρ8 2), some (ρ8 3), some (ρ8 4), some (ρ8 5)]))), (ρ8 0, .inr (.inl (0, 5))), (ρ8 1, .inr (.inl (0, 5))), (ρ8 2, .inr (.inl (0, 5))), (ρ8 3, .inr (.inl (0, 5))), (ρ8 4, .inr (.inl (0, 5))), (ρ8 5, .inr (.inl (0, 5)))]) C cl_X3_9 (fun _ _ => rfl) hz (Nat.le_of_ble_eq_true rfl) (Nat.le_of_ble_eq_true rfl) (Nat.le_of_ble_eq_true rfl) dX3_init_8 rfl (fun q8 ρ8 => ?_)
  refine N_putF (n := 15) (M' := [(q, .inl (3, [none, none, some (some (q8)), some none])), (q8, .inr (.inr (3, [some (ρ8 0), some (ρ8 1), some (ρ8 2), some (ρ8 3), some (ρ8 4), some (ρ8 5)]))), (ρ8 0, .inr (.inl (0, 5))), (ρ8 1, .inr (.inl (0, 5))), (ρ8 2, .inr (.inl (0, 5))), (ρ8 3, .inr (.inl (0, 5))), (ρ8 4, .inr (.inl (0, 5))), (ρ8 5, .inr (.inl (0, 5)))]) C hnm 0 fl_X3_11 rfl rfl rfl rfl rfl rfl dX3_init_12 rfl (Nat.le_of_ble_eq_true rfl) rfl rfl ?_
  refine R_al0 (n := 16) C dX3_init_15 rfl ?_
  refine R_bp (n := 18) C dX3_init_16 cb_6 rfl ?_
  refine R_ic (n := 19) C dX3_init_18 ci_5 rfl ?_
  refine N_mna (n := 23) (M' := fun q19 ρ19 => [(q, .inl (3, [none, none, some (some (q8)), some none])), (q8, .inr (.inr (3, [some (ρ8 0), some (ρ8 1), some (ρ8 2), some (ρ8 3), some (ρ8 4), some (ρ8 5)]))), (ρ8 0, .inr (.inl (0, 5))), (ρ8 1, .inr (.inl (0, 5))), (ρ8 2, .inr (.inl (0, 5))), (ρ8 3, .inr (.inl (0, 5))), (ρ8 4, .inr (.inl (0, 5))), (ρ8 5, .inr (.inl (0, 5))), (q19, .inr (.inr (3, [some (ρ19 0), some (ρ19 1), some (ρ19 2), some (ρ19 3), some (ρ19 4), some (ρ19 5)]))), (ρ19 0, .inr (.inl (0, 5))), (ρ19 1, .inr (.inl (0, 5))), (ρ19 2, .inr (.inl (0, 5))), (ρ19 3, .inr (.inl (0, 5))), (ρ19 4, .inr (.inl (0, 5))), (ρ19 5, .inr (.inl (0, 5)))]) C cl_X3_9 (fun _ _ => rfl) hz (Nat.le_of_ble_eq_true rfl) (Nat.le_of_ble_eq_true rfl) (Nat.le_of_ble_eq_true rfl) dX3_init_19 rfl (fun q19 ρ19 => ?_)
  refine N_putF (n := 26) (M' := [(q, .inl (3, [none, none, some (some (q8)), some (some (q19))])), (q8, .inr (.inr (3, [some (ρ8 0), some (ρ8 1), some (ρ8 2), some (ρ8 3), some (ρ8 4), some (ρ8 5)]))), (ρ8 0, .inr (.inl (0, 5))), (ρ8 1, .inr (.inl (0, 5))), (ρ8 2, .inr (.inl (0, 5))), (ρ8 3, .inr (.inl (0, 5))), (ρ8 4, .inr (.inl (0, 5))), (ρ8 5, .inr (.inl (0, 5))), (q19, .inr (.inr (3, [some (ρ19 0), some (ρ19 1), some (ρ19 2), some (ρ19 3), some (ρ19 4), some (ρ19 5)]))), (ρ19 0, .inr (.inl (0, 5))), (ρ19 1, .inr (.inl (0, 5))), (ρ19 2, .inr (.inl (0, 5))), (ρ19 3, .inr (.inl (0, 5))), (ρ19 4, .inr (.inl (0, 5))), (ρ19 5, .inr (.inl (0, 5)))]) C hnm 0 fl_X3_16 rfl rfl rfl rfl rfl rfl dX3_init_23 rfl (Nat.le_of_ble_eq_true rfl) rfl rfl ?_
  exact R_vret C CR (Nat.le_of_ble_eq_true rfl) (Nat.le_of_ble_eq_true rfl) dX3_init_26 ⟨rfl, ⟨fun i => [q8, ρ8 0, ρ8 1, ρ8 2, ρ8 3, ρ8 4, ρ8 5, q19, ρ19 0, ρ19 1, ρ19 2, ρ19 3, ρ19 4, ρ19 5].getD i 0, rfl⟩, rfl⟩
set_option maxRecDepth 20000 in
set_option maxHeartbeats 4000000 in
theorem k_X4 (l : Launch) (D : va_G) (cA : Nat → ClassId) {L : Ly} {h : Hp} {q : Nat} (hz : Zr h (L.length + 1)) : Cn l D cA yX4_init cX4_init 1 none 1 1 60 [.ref q] (L ++ [(q, .inl (4, [none, some none]))]) h (pL (fun ρ => L ++ [(q, .inl (4, [none, some (some (ρ 0))])), (ρ 0, .inr (.inl (0, 60)))]) (fun h' => h' = h)) := by
  refine Cn.of (lv := [some (.ref q)]) (by decide +kernel) (Nat.le_of_ble_eq_true rfl) rfl (fun X hnm C CR => ?_)
  refine R_al0 (n := 1) C dX4_init_0 rfl ?_
  refine N_oi (n := 4) C oi_X4 dX4_init_1 (Nat.le_of_ble_eq_true rfl) (Nat.le_of_ble_eq_true rfl) rfl ?_
  refine R_al0 (n := 5) C dX4_init_4 rfl ?_
  refine R_bp (n := 7) C dX4_init_5 cb_60 rfl ?_
  refine N_newi (n := 9) (M' := fun q7 => [(q, .inl (4, [none, some none])), (q7, .inr (.inl (0, 60)))]) C (fun _ => rfl) hz (Nat.le_of_ble_eq_true rfl) (Nat.le_of_ble_eq_true rfl) (Nat.le_of_ble_eq_true rfl) (Nat.le_of_ble_eq_true rfl) dX4_init_7 rfl (fun q7 => ?_)
  refine N_putF (n := 12) (M' := [(q, .inl (4, [none, some (some (q7))])), (q7, .inr (.inl (0, 60)))]) C hnm 0 fl_X4_9 rfl rfl rfl rfl rfl rfl dX4_init_9 rfl (Nat.le_of_ble_eq_true rfl) rfl rfl ?_
  exact R_vret C CR (Nat.le_of_ble_eq_true rfl) (Nat.le_of_ble_eq_true rfl) dX4_init_12 ⟨rfl, ⟨fun i => [q7].getD i 0, rfl⟩, rfl⟩
set_option maxRecDepth 20000 in
set_option maxHeartbeats 4000000 in
theorem k_X7 (l : Launch) (D : va_G) (cA : Nat → ClassId) {L : Ly} {h : Hp} {q : Nat} (hz : Zr h (L.length + 1)) : Cn l D cA yX7_init cX7_init 1 none 1 2 480 [.ref q] (L ++ [(q, .inl (7, [some none, some none]))]) h (pL (fun ρ => L ++ [(q, .inl (7, [some (some (ρ 0)), some (some (ρ 1))])), (ρ 0, .inr (.inl (0, 384))), (ρ 1, .inr (.inl (0, 96)))]) (fun h' => h' = h)) := by
  refine Cn.of (lv := [some (.ref q)]) (by decide +kernel) (Nat.le_of_ble_eq_true rfl) rfl (fun X hnm C CR => ?_)
  refine R_al0 (n := 1) C dX7_init_0 rfl ?_
  refine N_oi (n := 4) C oi_X7 dX7_init_1 (Nat.le_of_ble_eq_true rfl) (Nat.le_of_ble_eq_true rfl) rfl ?_
  refine R_al0 (n := 5) C dX7_init_4 rfl ?_
  refine R_sp (n := 8) C dX7_init_5 cs_384 rfl ?_
  refine N_newi (n := 10) (M' := fun q8 => [(q, .inl (7, [some none, some none])), (q8, .inr (.inl (0, 384)))]) C (fun _ => rfl) hz (Nat.le_of_ble_eq_true rfl) (Nat.le_of_ble_eq_true rfl) (Nat.le_of_ble_eq_true rfl) (Nat.le_of_ble_eq_true rfl) dX7_init_8 rfl (fun q8 => ?_)
  refine N_putF (n := 13) (M' := [(q, .inl (7, [some (some (q8)), some none])), (q8, .inr (.inl (0, 384)))]) C hnm 0 fl_X7_9 rfl rfl rfl rfl rfl rfl dX7_init_10 rfl (Nat.le_of_ble_eq_true rfl) rfl rfl ?_
  refine R_al0 (n := 14) C dX7_init_13 rfl ?_
  refine R_bp (n := 16) C dX7_init_14 cb_96 rfl ?_
  refine N_newi (n := 18) (M' := fun q16 => [(q, .inl (7, [some (some (q8)), some none])), (q8, .inr (.inl (0, 384))), (q16, .inr (.inl (0, 96)))]) C (fun _ => rfl) hz (Nat.le_of_ble_eq_true rfl) (Nat.le_of_ble_eq_true rfl) (Nat.le_of_ble_eq_true rfl) (Nat.le_of_ble_eq_true rfl) dX7_init_16 rfl (fun q16 => ?_)
  refine N_putF (n := 21) (M' := [(q, .inl (7, [some (some (q8)), some (some (q16))])), (q8, .inr (.inl (0, 384))), (q16, .inr (.inl (0, 96)))]) C hnm 0 fl_X7_15 rfl rfl rfl rfl rfl rfl dX7_init_18 rfl (Nat.le_of_ble_eq_true rfl) rfl rfl ?_
  exact R_vret C CR (Nat.le_of_ble_eq_true rfl) (Nat.le_of_ble_eq_true rfl) dX7_init_21 ⟨rfl, ⟨fun i => [q8, q16].getD i 0, rfl⟩, rfl⟩
set_option maxRecDepth 20000 in
set_option maxHeartbeats 4000000 in
theorem k_X5 (l : Launch) (D : va_G) (cA : Nat → ClassId) {L : Ly} {h : Hp} {q : Nat} (hz : Zr h (L.length + 1)) : Cn l D cA yX5_init cX5_init 1 none 2 6 3554 [.ref q] (L ++ [(q, .inl (5, [none, some none, some none, some none, some none]))]) h (pL (fun ρ => L ++ [(q, .inl (5, [none, some (some (ρ 0)), some (some (ρ 3)), some (some (ρ 4)), some (some (ρ 5))])), (ρ 0, .inl (7, [some (some (ρ 1)), some (some (ρ 2))])), (ρ 1, .inr (.inl (0, 384))), (ρ 2, .inr (.inl (0, 96))), (ρ 3, .inr (.inl (0, 1024))), (ρ 4, .inr (.inl (0, 1024))), (ρ 5, .inr (.inl (0, 1024)))]) (fun h' => h' = h)) := by
  refine Cn.of (lv := [some (.ref q)]) (by decide +kernel) (Nat.le_of_ble_eq_true rfl) rfl (fun X hnm C CR => ?_)
  refine R_al0 (n := 1) C dX5_init_0 rfl ?_
  refine N_oi (n := 4) C oi_X5 dX5_init_1 (Nat.le_of_ble_eq_true rfl) (Nat.le_of_ble_eq_true rfl) rfl ?_
  refine R_al0 (n := 5) C dX5_init_4 rfl ?_
  refine N_new (n := 8) (ci := 7) (r := (RX7, TX7, 2)) (M' := fun q5 => [(q, .inl (5, [none, some none, some none, some none, some none])), (q5, .inl (7, [some none, some none]))]) (fs := [some none, some none]) C rfl cl_X5_9 in_X7 rfl rfl (fun _ => rfl) hz (Nat.le_of_ble_eq_true rfl) (Nat.le_of_ble_eq_true rfl) (Nat.le_of_ble_eq_true rfl) dX5_init_5 rfl (fun q5 => ?_)
  refine R_dup (n := 9) C dX5_init_8 rfl rfl ?_
  refine N_callN (n := 12) (A := [(q, .inl (5, [none, some none, some none, some none, some none]))]) (B := [(q5, .inl (7, [some none, some none]))]) C (k_X7 _ _ _ (hz.le (by simp only [List.length_append, List.length_cons, List.length_nil]; omega))) mw_X7_init mn_X5_11 nv_X7_init rfl dX5_init_9 rfl (Nat.le_of_ble_eq_true rfl) ⟨(Nat.le_of_ble_eq_true rfl), (Nat.le_of_ble_eq_true rfl)⟩ ⟨(Nat.le_of_ble_eq_true rfl), (Nat.le_of_ble_eq_true rfl)⟩ rfl (pLs (fun ρ9 => ?_))
  refine Rn.lay (L' := L ++ [(q, .inl (5, [none, some none, some none, some none, some none])), (q5, .inl (7, [some (some (ρ9 0)), some (some (ρ9 1))])), (ρ9 0, .inr (.inl (0, 384))), (ρ9 1, .inr (.inl (0, 96)))]) (List.append_assoc _ _ _) ?_
  refine N_putF (n := 15) (M' := [(q, .inl (5, [none, some (some (q5)), some none, some none, some none])), (q5, .inl (7, [some (some (ρ9 0)), some (some (ρ9 1))])), (ρ9 0, .inr (.inl (0, 384))), (ρ9 1, .inr (.inl (0, 96)))]) C hnm 0 fl_X5_12 rfl rfl rfl rfl rfl rfl dX5_init_12 rfl (Nat.le_of_ble_eq_true rfl) rfl rfl ?_
  refine R_al0 (n := 16) C dX5_init_15 rfl ?_
  refine R_sp (n := 19) C dX5_init_16 cs_1024 rfl ?_
  refine N_newi (n := 21) (M' := fun q19 => [(q, .inl (5, [none, some (some (q5)), some none, some none, some none])), (q5, .inl (7, [some (some (ρ9 0)), some (some (ρ9 1))])), (ρ9 0, .inr (.inl (0, 384))), (ρ9 1, .inr (.inl (0, 96))), (q19, .inr (.inl (0, 1024)))]) C (fun _ => rfl) hz (Nat.le_of_ble_eq_true rfl) (Nat.le_of_ble_eq_true rfl) (Nat.le_of_ble_eq_true rfl) (Nat.le_of_ble_eq_true rfl) dX5_init_19 rfl (fun q19 => ?_)
  refine N_putF (n := 24) (M' := [(q, .inl (5, [none, some (some (q5)), some (some (q19)), some none, some none])), (q5, .inl (7, [some (some (ρ9 0)), some (some (ρ9 1))])), (ρ9 0, .inr (.inl (0, 384))), (ρ9 1, .inr (.inl (0, 96))), (q19, .inr (.inl (0, 1024)))]) C hnm 0 fl_X5_18 rfl rfl rfl rfl rfl rfl dX5_init_21 rfl (Nat.le_of_ble_eq_true rfl) rfl rfl ?_
  refine R_al0 (n := 25) C dX5_init_24 rfl ?_
  refine R_sp (n := 28) C dX5_init_25 cs_1024 rfl ?_
  refine N_newi (n := 30) (M' := fun q28 => [(q, .inl (5, [none, some (some (q5)), some (some (q19)), some none, some none])), (q5, .inl (7, [some (some (ρ9 0)), some (some (ρ9 1))])), (ρ9 0, .inr (.inl (0, 384))), (ρ9 1, .inr (.inl (0, 96))), (q19, .inr (.inl (0, 1024))), (q28, .inr (.inl (0, 1024)))]) C (fun _ => rfl) hz (Nat.le_of_ble_eq_true rfl) (Nat.le_of_ble_eq_true rfl) (Nat.le_of_ble_eq_true rfl) (Nat.le_of_ble_eq_true rfl) dX5_init_28 rfl (fun q28 => ?_)
  refine N_putF (n := 33) (M' := [(q, .inl (5, [none, some (some (q5)), some (some (q19)), some (some (q28)), some none])), (q5, .inl (7, [some (some (ρ9 0)), some (some (ρ9 1))])), (ρ9 0, .inr (.inl (0, 384))), (ρ9 1, .inr (.inl (0, 96))), (q19, .inr (.inl (0, 1024))), (q28, .inr (.inl (0, 1024)))]) C hnm 0 fl_X5_22 rfl rfl rfl rfl rfl rfl dX5_init_30 rfl (Nat.le_of_ble_eq_true rfl) rfl rfl ?_
  refine R_al0 (n := 34) C dX5_init_33 rfl ?_
  refine R_sp (n := 37) C dX5_init_34 cs_1024 rfl ?_
  refine N_newi (n := 39) (M' := fun q37 => [(q, .inl (5, [none, some (some (q5)), some (some (q19)), some (some (q28)), some none])), (q5, .inl (7, [some (some (ρ9 0)), some (some (ρ9 1))])), (ρ9 0, .inr (.inl (0, 384))), (ρ9 1, .inr (.inl (0, 96))), (q19, .inr (.inl (0, 1024))), (q28, .inr (.inl (0, 1024))), (q37, .inr (.inl (0, 1024)))]) C (fun _ => rfl) hz (Nat.le_of_ble_eq_true rfl) (Nat.le_of_ble_eq_true rfl) (Nat.le_of_ble_eq_true rfl) (Nat.le_of_ble_eq_true rfl) dX5_init_37 rfl (fun q37 => ?_)
  refine N_putF (n := 42) (M' := [(q, .inl (5, [none, some (some (q5)), some (some (q19)), some (some (q28)), some (some (q37))])), (q5, .inl (7, [some (some (ρ9 0)), some (some (ρ9 1))])), (ρ9 0, .inr (.inl (0, 384))), (ρ9 1, .inr (.inl (0, 96))), (q19, .inr (.inl (0, 1024))), (q28, .inr (.inl (0, 1024))), (q37, .inr (.inl (0, 1024)))]) C hnm 0 fl_X5_25 rfl rfl rfl rfl rfl rfl dX5_init_39 rfl (Nat.le_of_ble_eq_true rfl) rfl rfl ?_
  exact R_vret C CR (Nat.le_of_ble_eq_true rfl) (Nat.le_of_ble_eq_true rfl) dX5_init_42 ⟨rfl, ⟨fun i => [q5, ρ9 0, ρ9 1, q19, q28, q37].getD i 0, rfl⟩, rfl⟩
set_option maxRecDepth 20000 in
set_option maxHeartbeats 4000000 in
theorem k_X6 (l : Launch) (D : va_G) (cA : Nat → ClassId) {L : Ly} {h : Hp} {q : Nat} (hz : Zr h (L.length + 1)) : Cn l D cA yX6_init cX6_init 1 none 1 3 3072 [.ref q] (L ++ [(q, .inl (6, [none, none, some none, some none, some none]))]) h (pL (fun ρ => L ++ [(q, .inl (6, [none, none, some (some (ρ 0)), some (some (ρ 1)), some (some (ρ 2))])), (ρ 0, .inr (.inl (0, 1024))), (ρ 1, .inr (.inl (0, 1024))), (ρ 2, .inr (.inl (0, 1024)))]) (fun h' => h' = h)) := by
  refine Cn.of (lv := [some (.ref q)]) (by decide +kernel) (Nat.le_of_ble_eq_true rfl) rfl (fun X hnm C CR => ?_)
  refine R_al0 (n := 1) C dX6_init_0 rfl ?_
  refine N_oi (n := 4) C oi_X6 dX6_init_1 (Nat.le_of_ble_eq_true rfl) (Nat.le_of_ble_eq_true rfl) rfl ?_
  refine R_al0 (n := 5) C dX6_init_4 rfl ?_
  refine R_sp (n := 8) C dX6_init_5 cs_1024 rfl ?_
  refine N_newi (n := 10) (M' := fun q8 => [(q, .inl (6, [none, none, some none, some none, some none])), (q8, .inr (.inl (0, 1024)))]) C (fun _ => rfl) hz (Nat.le_of_ble_eq_true rfl) (Nat.le_of_ble_eq_true rfl) (Nat.le_of_ble_eq_true rfl) (Nat.le_of_ble_eq_true rfl) dX6_init_8 rfl (fun q8 => ?_)
  refine N_putF (n := 13) (M' := [(q, .inl (6, [none, none, some (some (q8)), some none, some none])), (q8, .inr (.inl (0, 1024)))]) C hnm 0 fl_X6_9 rfl rfl rfl rfl rfl rfl dX6_init_10 rfl (Nat.le_of_ble_eq_true rfl) rfl rfl ?_
  refine R_al0 (n := 14) C dX6_init_13 rfl ?_
  refine R_sp (n := 17) C dX6_init_14 cs_1024 rfl ?_
  refine N_newi (n := 19) (M' := fun q17 => [(q, .inl (6, [none, none, some (some (q8)), some none, some none])), (q8, .inr (.inl (0, 1024))), (q17, .inr (.inl (0, 1024)))]) C (fun _ => rfl) hz (Nat.le_of_ble_eq_true rfl) (Nat.le_of_ble_eq_true rfl) (Nat.le_of_ble_eq_true rfl) (Nat.le_of_ble_eq_true rfl) dX6_init_17 rfl (fun q17 => ?_)
  refine N_putF (n := 22) (M' := [(q, .inl (6, [none, none, some (some (q8)), some (some (q17)), some none])), (q8, .inr (.inl (0, 1024))), (q17, .inr (.inl (0, 1024)))]) C hnm 0 fl_X6_15 rfl rfl rfl rfl rfl rfl dX6_init_19 rfl (Nat.le_of_ble_eq_true rfl) rfl rfl ?_
  refine R_al0 (n := 23) C dX6_init_22 rfl ?_
  refine R_sp (n := 26) C dX6_init_23 cs_1024 rfl ?_
  refine N_newi (n := 28) (M' := fun q26 => [(q, .inl (6, [none, none, some (some (q8)), some (some (q17)), some none])), (q8, .inr (.inl (0, 1024))), (q17, .inr (.inl (0, 1024))), (q26, .inr (.inl (0, 1024)))]) C (fun _ => rfl) hz (Nat.le_of_ble_eq_true rfl) (Nat.le_of_ble_eq_true rfl) (Nat.le_of_ble_eq_true rfl) (Nat.le_of_ble_eq_true rfl) dX6_init_26 rfl (fun q26 => ?_)
  refine N_putF (n := 31) (M' := [(q, .inl (6, [none, none, some (some (q8)), some (some (q17)), some (some (q26))])), (q8, .inr (.inl (0, 1024))), (q17, .inr (.inl (0, 1024))), (q26, .inr (.inl (0, 1024)))]) C hnm 0 fl_X6_18 rfl rfl rfl rfl rfl rfl dX6_init_28 rfl (Nat.le_of_ble_eq_true rfl) rfl rfl ?_
  exact R_vret C CR (Nat.le_of_ble_eq_true rfl) (Nat.le_of_ble_eq_true rfl) dX6_init_31 ⟨rfl, ⟨fun i => [q8, q17, q26].getD i 0, rfl⟩, rfl⟩
set_option maxRecDepth 20000 in
set_option maxHeartbeats 4000000 in
theorem k_X8 (l : Launch) (D : va_G) (cA : Nat → ClassId) {L : Ly} {h : Hp} {q : Nat} (hz : Zr h (L.length + 1)) : Cn l D cA yX8_init cX8_init 1 none 1 1 5 [.ref q] (L ++ [(q, .inl (8, [none, none, some none]))]) h (pL (fun ρ => L ++ [(q, .inl (8, [none, none, some (some (ρ 0))])), (ρ 0, .inr (.inl (0, 5)))]) (fun h' => h' = h)) := by
  refine Cn.of (lv := [some (.ref q)]) (by decide +kernel) (Nat.le_of_ble_eq_true rfl) rfl (fun X hnm C CR => ?_)
  refine R_al0 (n := 1) C dX8_init_0 rfl ?_
  refine N_oi (n := 4) C oi_X8 dX8_init_1 (Nat.le_of_ble_eq_true rfl) (Nat.le_of_ble_eq_true rfl) rfl ?_
  refine R_al0 (n := 5) C dX8_init_4 rfl ?_
  refine R_ic (n := 6) C dX8_init_5 ci_5 rfl ?_
  refine N_newi (n := 8) (M' := fun q6 => [(q, .inl (8, [none, none, some none])), (q6, .inr (.inl (0, 5)))]) C (fun _ => rfl) hz (Nat.le_of_ble_eq_true rfl) (Nat.le_of_ble_eq_true rfl) (Nat.le_of_ble_eq_true rfl) (Nat.le_of_ble_eq_true rfl) dX8_init_6 rfl (fun q6 => ?_)
  refine N_putF (n := 11) (M' := [(q, .inl (8, [none, none, some (some (q6))])), (q6, .inr (.inl (0, 5)))]) C hnm 0 fl_X8_9 rfl rfl rfl rfl rfl rfl dX8_init_8 rfl (Nat.le_of_ble_eq_true rfl) rfl rfl ?_
  exact R_vret C CR (Nat.le_of_ble_eq_true rfl) (Nat.le_of_ble_eq_true rfl) dX8_init_11 ⟨rfl, ⟨fun i => [q6].getD i 0, rfl⟩, rfl⟩
set_option maxRecDepth 20000 in
set_option maxHeartbeats 4000000 in
theorem k_X9 (l : Launch) (D : va_G) (cA : Nat → ClassId) {L : Ly} {h : Hp} {q : Nat} (hz : Zr h (L.length + 1)) : Cn l D cA yX9_init cX9_init 1 none 2 9 73 [.ref q] (L ++ [(q, .inl (9, [none, none, none, some none, some none, some none, some none, some none, some none, some none, some none, some none]))]) h (pL (fun ρ => L ++ [(q, .inl (9, [none, none, none, some (some (ρ 0)), some (some (ρ 1)), some (some (ρ 2)), some (some (ρ 3)), some (some (ρ 4)), some (some (ρ 5)), some (some (ρ 6)), some (some (ρ 7)), some (some (ρ 8))])), (ρ 0, .inr (.inl (0, 5))), (ρ 1, .inr (.inl (0, 5))), (ρ 2, .inr (.inl (0, 5))), (ρ 3, .inr (.inl (0, 5))), (ρ 4, .inr (.inl (0, 5))), (ρ 5, .inr (.inl (0, 30))), (ρ 6, .inr (.inl (0, 6))), (ρ 7, .inr (.inl (0, 6))), (ρ 8, .inr (.inl (0, 6)))]) (plQ L.length 3 h)) := by
  refine Cn.of (lv := [some (.ref q)]) (by decide +kernel) (Nat.le_of_ble_eq_true rfl) rfl (fun X hnm C CR => ?_)
  refine R_al0 (n := 1) C dX9_init_0 rfl ?_
  refine N_oi (n := 4) C oi_X9 dX9_init_1 (Nat.le_of_ble_eq_true rfl) (Nat.le_of_ble_eq_true rfl) rfl ?_
  refine R_al0 (n := 5) C dX9_init_4 rfl ?_
  refine R_ic (n := 6) C dX9_init_5 ci_5 rfl ?_
  refine N_newi (n := 8) (M' := fun q6 => [(q, .inl (9, [none, none, none, some none, some none, some none, some none, some none, some none, some none, some none, some none])), (q6, .inr (.inl (0, 5)))]) C (fun _ => rfl) hz (Nat.le_of_ble_eq_true rfl) (Nat.le_of_ble_eq_true rfl) (Nat.le_of_ble_eq_true rfl) (Nat.le_of_ble_eq_true rfl) dX9_init_6 rfl (fun q6 => ?_)
  refine N_putF (n := 11) (M' := [(q, .inl (9, [none, none, none, some (some (q6)), some none, some none, some none, some none, some none, some none, some none, some none])), (q6, .inr (.inl (0, 5)))]) C hnm 0 fl_X9_9 rfl rfl rfl rfl rfl rfl dX9_init_8 rfl (Nat.le_of_ble_eq_true rfl) rfl rfl ?_
  refine R_al0 (n := 12) C dX9_init_11 rfl ?_
  refine R_ic (n := 13) C dX9_init_12 ci_5 rfl ?_
  refine N_newi (n := 15) (M' := fun q13 => [(q, .inl (9, [none, none, none, some (some (q6)), some none, some none, some none, some none, some none, some none, some none, some none])), (q6, .inr (.inl (0, 5))), (q13, .inr (.inl (0, 5)))]) C (fun _ => rfl) hz (Nat.le_of_ble_eq_true rfl) (Nat.le_of_ble_eq_true rfl) (Nat.le_of_ble_eq_true rfl) (Nat.le_of_ble_eq_true rfl) dX9_init_13 rfl (fun q13 => ?_)
  refine N_putF (n := 18) (M' := [(q, .inl (9, [none, none, none, some (some (q6)), some (some (q13)), some none, some none, some none, some none, some none, some none, some none])), (q6, .inr (.inl (0, 5))), (q13, .inr (.inl (0, 5)))]) C hnm 0 fl_X9_15 rfl rfl rfl rfl rfl rfl dX9_init_15 rfl (Nat.le_of_ble_eq_true rfl) rfl rfl ?_
  refine R_al0 (n := 19) C dX9_init_18 rfl ?_
  refine R_ic (n := 20) C dX9_init_19 ci_5 rfl ?_
  refine N_newi (n := 22) (M' := fun q20 => [(q, .inl (9, [none, none, none, some (some (q6)), some (some (q13)), some none, some none, some none, some none, some none, some none, some none])), (q6, .inr (.inl (0, 5))), (q13, .inr (.inl (0, 5))), (q20, .inr (.inl (0, 5)))]) C (fun _ => rfl) hz (Nat.le_of_ble_eq_true rfl) (Nat.le_of_ble_eq_true rfl) (Nat.le_of_ble_eq_true rfl) (Nat.le_of_ble_eq_true rfl) dX9_init_20 rfl (fun q20 => ?_)
  refine N_putF (n := 25) (M' := [(q, .inl (9, [none, none, none, some (some (q6)), some (some (q13)), some (some (q20)), some none, some none, some none, some none, some none, some none])), (q6, .inr (.inl (0, 5))), (q13, .inr (.inl (0, 5))), (q20, .inr (.inl (0, 5)))]) C hnm 0 fl_X9_18 rfl rfl rfl rfl rfl rfl dX9_init_22 rfl (Nat.le_of_ble_eq_true rfl) rfl rfl ?_
  refine R_al0 (n := 26) C dX9_init_25 rfl ?_
  refine R_ic (n := 27) C dX9_init_26 ci_5 rfl ?_
  refine N_newi (n := 29) (M' := fun q27 => [(q, .inl (9, [none, none, none, some (some (q6)), some (some (q13)), some (some (q20)), some none, some none, some none, some none, some none, some none])), (q6, .inr (.inl (0, 5))), (q13, .inr (.inl (0, 5))), (q20, .inr (.inl (0, 5))), (q27, .inr (.inl (0, 5)))]) C (fun _ => rfl) hz (Nat.le_of_ble_eq_true rfl) (Nat.le_of_ble_eq_true rfl) (Nat.le_of_ble_eq_true rfl) (Nat.le_of_ble_eq_true rfl) dX9_init_27 rfl (fun q27 => ?_)
  refine N_putF (n := 32) (M' := [(q, .inl (9, [none, none, none, some (some (q6)), some (some (q13)), some (some (q20)), some (some (q27)), some none, some none, some none, some none, some none])), (q6, .inr (.inl (0, 5))), (q13, .inr (.inl (0, 5))), (q20, .inr (.inl (0, 5))), (q27, .inr (.inl (0, 5)))]) C hnm 0 fl_X9_21 rfl rfl rfl rfl rfl rfl dX9_init_29 rfl (Nat.le_of_ble_eq_true rfl) rfl rfl ?_
  refine R_al0 (n := 33) C dX9_init_32 rfl ?_
  refine R_ic (n := 34) C dX9_init_33 ci_5 rfl ?_
  refine N_newi (n := 36) (M' := fun q34 => [(q, .inl (9, [none, none, none, some (some (q6)), some (some (q13)), some (some (q20)), some (some (q27)), some none, some none, some none, some none, some none])), (q6, .inr (.inl (0, 5))), (q13, .inr (.inl (0, 5))), (q20, .inr (.inl (0, 5))), (q27, .inr (.inl (0, 5))), (q34, .inr (.inl (0, 5)))]) C (fun _ => rfl) hz (Nat.le_of_ble_eq_true rfl) (Nat.le_of_ble_eq_true rfl) (Nat.le_of_ble_eq_true rfl) (Nat.le_of_ble_eq_true rfl) dX9_init_34 rfl (fun q34 => ?_)
  refine N_putF (n := 39) (M' := [(q, .inl (9, [none, none, none, some (some (q6)), some (some (q13)), some (some (q20)), some (some (q27)), some (some (q34)), some none, some none, some none, some none])), (q6, .inr (.inl (0, 5))), (q13, .inr (.inl (0, 5))), (q20, .inr (.inl (0, 5))), (q27, .inr (.inl (0, 5))), (q34, .inr (.inl (0, 5)))]) C hnm 0 fl_X9_24 rfl rfl rfl rfl rfl rfl dX9_init_36 rfl (Nat.le_of_ble_eq_true rfl) rfl rfl ?_
  refine R_al0 (n := 40) C dX9_init_39 rfl ?_
  refine R_bp (n := 42) C dX9_init_40 cb_30 rfl ?_
  refine N_newi (n := 44) (M' := fun q42 => [(q, .inl (9, [none, none, none, some (some (q6)), some (some (q13)), some (some (q20)), some (some (q27)), some (some (q34)), some none, some none, some none, some none])), (q6, .inr (.inl (0, 5))), (q13, .inr (.inl (0, 5))), (q20, .inr (.inl (0, 5))), (q27, .inr (.inl (0, 5))), (q34, .inr (.inl (0, 5))), (q42, .inr (.inl (0, 30)))]) C (fun _ => rfl) hz (Nat.le_of_ble_eq_true rfl) (Nat.le_of_ble_eq_true rfl) (Nat.le_of_ble_eq_true rfl) (Nat.le_of_ble_eq_true rfl) dX9_init_42 rfl (fun q42 => ?_)
  refine N_putF (n := 47) (M' := [(q, .inl (9, [none, none, none, some (some (q6)), some (some (q13)), some (some (q20)), some (some (q27)), some (some (q34)), some (some (q42)), some none, some none, some none])), (q6, .inr (.inl (0, 5))), (q13, .inr (.inl (0, 5))), (q20, .inr (.inl (0, 5))), (q27, .inr (.inl (0, 5))), (q34, .inr (.inl (0, 5))), (q42, .inr (.inl (0, 30)))]) C hnm 0 fl_X9_27 rfl rfl rfl rfl rfl rfl dX9_init_44 rfl (Nat.le_of_ble_eq_true rfl) rfl rfl ?_
  refine R_al0 (n := 48) C dX9_init_47 rfl ?_
  refine R_bp (n := 50) C dX9_init_48 cb_6 rfl ?_
  refine N_newi (n := 52) (M' := fun q50 => [(q, .inl (9, [none, none, none, some (some (q6)), some (some (q13)), some (some (q20)), some (some (q27)), some (some (q34)), some (some (q42)), some none, some none, some none])), (q6, .inr (.inl (0, 5))), (q13, .inr (.inl (0, 5))), (q20, .inr (.inl (0, 5))), (q27, .inr (.inl (0, 5))), (q34, .inr (.inl (0, 5))), (q42, .inr (.inl (0, 30))), (q50, .inr (.inl (0, 6)))]) C (fun _ => rfl) hz (Nat.le_of_ble_eq_true rfl) (Nat.le_of_ble_eq_true rfl) (Nat.le_of_ble_eq_true rfl) (Nat.le_of_ble_eq_true rfl) dX9_init_50 rfl (fun q50 => ?_)
  refine N_putF (n := 55) (M' := [(q, .inl (9, [none, none, none, some (some (q6)), some (some (q13)), some (some (q20)), some (some (q27)), some (some (q34)), some (some (q42)), some (some (q50)), some none, some none])), (q6, .inr (.inl (0, 5))), (q13, .inr (.inl (0, 5))), (q20, .inr (.inl (0, 5))), (q27, .inr (.inl (0, 5))), (q34, .inr (.inl (0, 5))), (q42, .inr (.inl (0, 30))), (q50, .inr (.inl (0, 6)))]) C hnm 0 fl_X9_30 rfl rfl rfl rfl rfl rfl dX9_init_52 rfl (Nat.le_of_ble_eq_true rfl) rfl rfl ?_
  refine R_al0 (n := 56) C dX9_init_55 rfl ?_
  refine R_bp (n := 58) C dX9_init_56 cb_6 rfl ?_
  refine N_newi (n := 60) (M' := fun q58 => [(q, .inl (9, [none, none, none, some (some (q6)), some (some (q13)), some (some (q20)), some (some (q27)), some (some (q34)), some (some (q42)), some (some (q50)), some none, some none])), (q6, .inr (.inl (0, 5))), (q13, .inr (.inl (0, 5))), (q20, .inr (.inl (0, 5))), (q27, .inr (.inl (0, 5))), (q34, .inr (.inl (0, 5))), (q42, .inr (.inl (0, 30))), (q50, .inr (.inl (0, 6))), (q58, .inr (.inl (0, 6)))]) C (fun _ => rfl) hz (Nat.le_of_ble_eq_true rfl) (Nat.le_of_ble_eq_true rfl) (Nat.le_of_ble_eq_true rfl) (Nat.le_of_ble_eq_true rfl) dX9_init_58 rfl (fun q58 => ?_)
  refine N_putF (n := 63) (M' := [(q, .inl (9, [none, none, none, some (some (q6)), some (some (q13)), some (some (q20)), some (some (q27)), some (some (q34)), some (some (q42)), some (some (q50)), some (some (q58)), some none])), (q6, .inr (.inl (0, 5))), (q13, .inr (.inl (0, 5))), (q20, .inr (.inl (0, 5))), (q27, .inr (.inl (0, 5))), (q34, .inr (.inl (0, 5))), (q42, .inr (.inl (0, 30))), (q50, .inr (.inl (0, 6))), (q58, .inr (.inl (0, 6)))]) C hnm 0 fl_X9_33 rfl rfl rfl rfl rfl rfl dX9_init_60 rfl (Nat.le_of_ble_eq_true rfl) rfl rfl ?_
  refine R_al0 (n := 64) C dX9_init_63 rfl ?_
  refine R_bp (n := 66) C dX9_init_64 cb_6 rfl ?_
  refine N_newi (n := 68) (M' := fun q66 => [(q, .inl (9, [none, none, none, some (some (q6)), some (some (q13)), some (some (q20)), some (some (q27)), some (some (q34)), some (some (q42)), some (some (q50)), some (some (q58)), some none])), (q6, .inr (.inl (0, 5))), (q13, .inr (.inl (0, 5))), (q20, .inr (.inl (0, 5))), (q27, .inr (.inl (0, 5))), (q34, .inr (.inl (0, 5))), (q42, .inr (.inl (0, 30))), (q50, .inr (.inl (0, 6))), (q58, .inr (.inl (0, 6))), (q66, .inr (.inl (0, 6)))]) C (fun _ => rfl) hz (Nat.le_of_ble_eq_true rfl) (Nat.le_of_ble_eq_true rfl) (Nat.le_of_ble_eq_true rfl) (Nat.le_of_ble_eq_true rfl) dX9_init_66 rfl (fun q66 => ?_)
  refine N_putF (n := 71) (M' := [(q, .inl (9, [none, none, none, some (some (q6)), some (some (q13)), some (some (q20)), some (some (q27)), some (some (q34)), some (some (q42)), some (some (q50)), some (some (q58)), some (some (q66))])), (q6, .inr (.inl (0, 5))), (q13, .inr (.inl (0, 5))), (q20, .inr (.inl (0, 5))), (q27, .inr (.inl (0, 5))), (q34, .inr (.inl (0, 5))), (q42, .inr (.inl (0, 30))), (q50, .inr (.inl (0, 6))), (q58, .inr (.inl (0, 6))), (q66, .inr (.inl (0, 6)))]) C hnm 0 fl_X9_36 rfl rfl rfl rfl rfl rfl dX9_init_68 rfl (Nat.le_of_ble_eq_true rfl) rfl rfl ?_
  refine R_al0 (n := 72) C dX9_init_71 rfl ?_
  refine R_ic (n := 73) C dX9_init_72 ci_3 rfl ?_
  have WA : WoodAt (L ++ [(q, .inl (9, [none, none, none, some (some (q6)), some (some (q13)), some (some (q20)), some (some (q27)), some (some (q34)), some (some (q42)), some (some (q50)), some (some (q58)), some (some (q66))])), (q6, .inr (.inl (0, 5))), (q13, .inr (.inl (0, 5))), (q20, .inr (.inl (0, 5))), (q27, .inr (.inl (0, 5))), (q34, .inr (.inl (0, 5))), (q42, .inr (.inl (0, 30))), (q50, .inr (.inl (0, 6))), (q58, .inr (.inl (0, 6))), (q66, .inr (.inl (0, 6)))]) (L.length + 0) q (fun j => [q6, q13, q20, q27, q34, q42, q50, q58, q66].getD j 0) := ⟨app_at rfl, fun j hj => by
    match j, hj with
    | 0, _ => exact app_at (i := 1) rfl
    | 1, _ => exact app_at (i := 2) rfl
    | 2, _ => exact app_at (i := 3) rfl
    | 3, _ => exact app_at (i := 4) rfl
    | 4, _ => exact app_at (i := 5) rfl
    | 5, _ => exact app_at (i := 6) rfl
    | 6, _ => exact app_at (i := 7) rfl
    | 7, _ => exact app_at (i := 8) rfl
    | 8, _ => exact app_at (i := 9) rfl⟩
  refine R_callV (n := 76) C (L.length + 0) (c_plant _ _ _ (fun _ => 0) WA 3) mw_X9_plant ml_X9_39 iv_X9_plant dX9_init_73 WA.1 rfl rfl rfl (Nat.le_of_ble_eq_true rfl) ⟨(Nat.le_of_ble_eq_true rfl), (Nat.le_of_ble_eq_true rfl)⟩ ⟨(Nat.le_of_ble_eq_true rfl), (Nat.le_of_ble_eq_true rfl)⟩ rfl (pGv (fun h1 q1 => ?_))
  exact R_vret C CR (Nat.le_of_ble_eq_true rfl) (Nat.le_of_ble_eq_true rfl) dX9_init_76 ⟨rfl, ⟨fun i => [q6, q13, q20, q27, q34, q42, q50, q58, q66].getD i 0, rfl⟩, q1⟩
