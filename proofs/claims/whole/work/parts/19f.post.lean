def knz (s b : Nat) (nx be : Nat → Nat) (x : Nat) : Nat := wdz (nx x) (drz s x b 5) 32 &&& (be x ^^^ M32)
def beU (be kn : Nat → Nat) (x : Nat) : Nat := be x ||| kn x
theorem wdz_0 {d : Nat} : ∀ n, wdz 0 d n = 0
  | 0 => rfl
  | n + 1 => by rw [wdz, if_neg (by rw [Nat.zero_testBit]; decide), wdz_0 n]
theorem knz_0 {s b x : Nat} {nx be : Nat → Nat} (h : nx x = 0) : knz s b nx be x = 0 := by rw [knz, h, wdz_0, Nat.zero_and]
theorem knz_lt {s b x : Nat} {nx be : Nat → Nat} : knz s b nx be x < 2 ^ 32 := Nat.lt_of_le_of_lt Nat.and_le_left (wdz_lt drz_lt (Nat.le_refl _))
theorem bI_or1 (a : Bool) : bI a ||| nI 1 = bI true := by cases a <;> decide
theorem bI_or0 (a : Bool) : bI a ||| nI 0 = bI a := by cases a <;> decide
set_option maxRecDepth 20000 in
set_option maxHeartbeats 4000000 in
theorem c_knockAll (l : Launch) (D : va_G) (cA : Nat → ClassId) (r : Nat → Nat) {h : Hp} {s b al : Nat} {nx be : Nat → Nat} (e0 : h 40 0 = nI s) (e1 : h 40 1 = nI b) (hs : s < 32) (hb : b < 1024) (ha : al ≤ 1024) (En : RN nx 42 al h) (Eb : RN be 43 al h) (hn : ∀ x, nx x < 2 ^ 32) : Cn l D cA yX6_knockAll cX6_knockAll 4 (some .boolean) 2 0 0 [.ref (r 40), .int (nI al)] (LY r) h (pG (some (.int (bI (!alb (fun x => decide (knz s b nx be x = 0)) al)))) (LY r) (fun h' => RN (knz s b nx be) 41 al h' ∧ RN (beU be (knz s b nx be)) 43 al h' ∧ ∀ a, a ≠ 41 → a ≠ 43 → h' a = h a)) := by
  refine Cn.of (lv := [some (.ref (r 40)), some (.int (nI al)), none, none]) (by decide +kernel) (Nat.le_of_ble_eq_true rfl) rfl (fun X hnm C CR => ?_)
  have loop : ∀ (m i : Nat) (hh : Hp), al < i + m → i ≤ al → RN (knz s b nx be) 41 i hh → RN (beU be (knz s b nx be)) 43 i hh → (∀ x, i ≤ x → x < al → hh 43 x = nI (be x)) → (∀ a, a ≠ 41 → a ≠ 43 → hh a = h a) → Rn X 0 0 4 [some (.ref (r 40)), some (.int (nI al)), some (.int (bI (!alb (fun x => decide (knz s b nx be x = 0)) i))), some (.int (nI i))] [] (LY r) hh := by
    intro m
    induction m with
    | zero => intro i hh a1 a2; omega
    | succ m ih =>
      intro i hh a1 a2 A B P F
      have ih1 := ih (i + 1)
      rw [alb_s] at ih1
      obtain ⟨v, hv⟩ : ∃ v, knz s b nx be i = v := ⟨_, rfl⟩
      have vl : v < 2 ^ 32 := by rw [← hv]; exact knz_lt
      rw [hv] at ih1
      refine R_il3 (n := 5) C dX6_knockAll_4 rfl ?_
      refine R_il1 (n := 6) C dX6_knockAll_5 rfl ?_
      refine R_icmp_geN (tgt := 92) C dX6_knockAll_6 rfl rfl (by omega) (by omega) (fun c1 => ?_) (fun c1 => ?_)
      · obtain rfl : i = al := by omega
        refine R_il2 (n := 93) C dX6_knockAll_92 rfl ?_
        refine R_zretB C CR (Nat.zero_le _) (Nat.zero_le _) dX6_knockAll_93 ?_
        exact ⟨rfl, rfl, A, B, F⟩
      · have g0 : hh 40 0 = nI s := by rw [F 40 (by decide) (by decide)]; exact e0
        have g1 : hh 40 1 = nI b := by rw [F 40 (by decide) (by decide)]; exact e1
        have gn : hh 42 i = nI (nx i) := by rw [F 42 (by decide) (by decide)]; exact En i c1
        have gb := P i (Nat.le_refl _) c1
        have nl := hn i
        refine R_al0 (n := 10) C dX6_knockAll_9 rfl ?_
        refine M_getR (n := 13) C fl_X6_9 dX6_knockAll_10 rfl rfl rfl ?_
        refine R_il3 (n := 14) C dX6_knockAll_13 rfl ?_
        refine R_ic (n := 15) C dX6_knockAll_14 ci_0 rfl ?_
        refine M_iast (n := 16) C dX6_knockAll_15 rfl (by omega) rfl ?_
        refine R_al0 (n := 17) C dX6_knockAll_16 rfl ?_
        refine M_getR (n := 20) C fl_X6_15 dX6_knockAll_17 rfl rfl rfl ?_
        refine R_il3 (n := 21) C dX6_knockAll_20 rfl ?_
        refine M_iald (n := 22) C dX6_knockAll_21 rfl (by omega) (up2_get (by decide) gn) rfl ?_
        refine R_if_eq (tgt := 86) C dX6_knockAll_22 rfl rfl (fun c2 => ?_) (fun c2 => ?_)
        · rw [nI_z32 nl] at c2
          have v0 : v = 0 := by rw [← hv]; exact knz_0 c2
          rw [v0, decide_eq_true rfl, Bool.and_true] at ih1
          refine R_inc3 (n := 89) C dX6_knockAll_86 rfl (Nat.le_of_ble_eq_true rfl) (inc_1 _) rfl ?_
          refine R_goto (n := 4) C dX6_knockAll_89 rfl ?_
          refine ih1 _ (by omega) (by omega) (fun x hx => ?_) (fun x hx => ?_) (fun x h1 h2 => ?_) (fun a a1 a2 => by rw [up2_row a1]; exact F a a1 a2)
          · by_cases e : x = i
            · rw [e, up2_same, hv, v0]
            · rw [up2_ne e]; exact A x (by omega)
          · rw [up2_row (by decide)]
            by_cases e : x = i
            · rw [e, gb]
              show _ = nI (be i ||| knz s b nx be i)
              rw [hv, v0, Nat.or_zero]
            · exact B x (by omega)
          · rw [up2_row (by decide)]; exact P x (by omega) h2
        · rw [nI_z32 nl] at c2
          have dl : drz s i b 5 < 32 := drz_lt
          have q0 : up2 hh 41 i (nI 0) 40 0 = nI s := up2_get (by decide) g0
          have q1 : up2 hh 41 i (nI 0) 40 1 = nI b := up2_get (by decide) g1
          refine R_al0 (n := 26) C dX6_knockAll_25 rfl ?_
          refine M_getR (n := 29) C fl_X6_9 dX6_knockAll_26 rfl rfl rfl ?_
          refine R_il3 (n := 30) C dX6_knockAll_29 rfl ?_
          refine R_al0 (n := 31) C dX6_knockAll_30 rfl ?_
          refine M_getR (n := 34) C fl_X6_15 dX6_knockAll_31 rfl rfl rfl ?_
          refine R_il3 (n := 35) C dX6_knockAll_34 rfl ?_
          refine M_iald (n := 36) C dX6_knockAll_35 rfl (by omega) (up2_get (by decide) gn) rfl ?_
          refine R_al0 (n := 37) C dX6_knockAll_36 rfl ?_
          refine R_il3 (n := 38) C dX6_knockAll_37 rfl ?_
          refine M_callV (n := 41) C (c_doorsAt _ _ _ r q0 q1 hs hb (by omega)) mw_X6_doorsAt ml_X6_78 iv_X6_doorsAt dX6_knockAll_38 rfl rfl rfl rfl (Nat.le_of_ble_eq_true rfl) ⟨Nat.le_of_ble_eq_true rfl, Nat.le_of_ble_eq_true rfl⟩ ⟨Nat.le_refl _, Nat.le_refl _⟩ rfl (pEs ?_)
          refine R_callS (n := 44) C (c_withDoors _ _ _ r nl dl) mw_X6_withDoors ml_X6_81 sv_X6_withDoors dX6_knockAll_41 rfl rfl (Nat.le_of_ble_eq_true rfl) ⟨Nat.le_of_ble_eq_true rfl, Nat.le_of_ble_eq_true rfl⟩ ⟨Nat.le_refl _, Nat.le_refl _⟩ rfl (pEs ?_)
          refine R_al0 (n := 45) C dX6_knockAll_44 rfl ?_
          refine M_getR (n := 48) C fl_X6_18 dX6_knockAll_45 rfl rfl rfl ?_
          refine R_il3 (n := 49) C dX6_knockAll_48 rfl ?_
          refine M_iald (n := 50) C dX6_knockAll_49 rfl (by omega) (up2_get (by decide) gb) rfl ?_
          refine R_ic (n := 51) C dX6_knockAll_50 ci_m1 rfl ?_
          refine R_ixor (n := 52) C dX6_knockAll_51 rfl ?_
          refine R_iand (n := 53) C dX6_knockAll_52 rfl ?_
          rw [M32_I, nI_xor, nI_and, show wdz (nx i) (drz s i b 5) 32 &&& (be i ^^^ M32) = v from hv]
          refine M_iast (n := 54) C dX6_knockAll_53 rfl (by omega) rfl ?_
          refine R_gen (fun h1 => h1 41 i = nI v ∧ (∀ x, x ≠ i → h1 41 x = hh 41 x) ∧ ∀ a, a ≠ 41 → h1 a = hh a) ⟨up2_same, fun x hx => by rw [up2_ne hx, up2_ne hx], fun a ha => by rw [up2_row ha, up2_row ha]⟩ (fun h1 k1 => ?_)
          have kb : h1 43 i = nI (be i) := by rw [k1.2.2 43 (by decide)]; exact gb
          refine R_al0 (n := 55) C dX6_knockAll_54 rfl ?_
          refine M_getR (n := 58) C fl_X6_18 dX6_knockAll_55 rfl rfl rfl ?_
          refine R_il3 (n := 59) C dX6_knockAll_58 rfl ?_
          refine R_dup2 (n := 60) C dX6_knockAll_59 rfl rfl rfl ?_
          refine M_iald (n := 61) C dX6_knockAll_60 rfl (by omega) kb rfl ?_
          refine R_al0 (n := 62) C dX6_knockAll_61 rfl ?_
          refine M_getR (n := 65) C fl_X6_9 dX6_knockAll_62 rfl rfl rfl ?_
          refine R_il3 (n := 66) C dX6_knockAll_65 rfl ?_
          refine M_iald (n := 67) C dX6_knockAll_66 rfl (by omega) k1.1 rfl ?_
          refine R_iorN (n := 68) C dX6_knockAll_67 rfl ?_
          refine M_iast (n := 69) C dX6_knockAll_68 rfl (by omega) rfl ?_
          have fin : ∀ w : Int32, Rn X 0 0 4 [some (.ref (r 40)), some (.int (nI al)), some (.int w), some (.int (nI (i + 1)))] [] (LY r) (up2 h1 43 i (nI (be i ||| v))) → Rn X 0 0 86 [some (.ref (r 40)), some (.int (nI al)), some (.int w), some (.int (nI i))] [] (LY r) (up2 h1 43 i (nI (be i ||| v))) := by
            intro w K
            refine R_inc3 (n := 89) C dX6_knockAll_86 rfl (Nat.le_of_ble_eq_true rfl) (inc_1 _) rfl ?_
            refine R_goto (n := 4) C dX6_knockAll_89 rfl ?_
            exact K
          have ih2 := ih1 (up2 h1 43 i (nI (be i ||| v))) (by omega) (by omega) (fun x hx => by
            rw [up2_row (by decide)]
            by_cases e : x = i
            · rw [e, k1.1, hv]
            · rw [k1.2.1 x e]; exact A x (by omega)) (fun x hx => by
            by_cases e : x = i
            · rw [e, up2_same]
              show _ = nI (be i ||| knz s b nx be i)
              rw [hv]
            · rw [up2_ne e, k1.2.2 43 (by decide)]; exact B x (by omega)) (fun x h1' h2' => by
            rw [up2_ne (by omega), k1.2.2 43 (by decide)]; exact P x (by omega) h2') (fun a a1 a2 => by
            rw [up2_row a2, k1.2.2 a a1]; exact F a a1 a2)
          refine R_il2 (n := 70) C dX6_knockAll_69 rfl ?_
          refine R_al0 (n := 71) C dX6_knockAll_70 rfl ?_
          refine M_getR (n := 74) C fl_X6_9 dX6_knockAll_71 rfl rfl rfl ?_
          refine R_il3 (n := 75) C dX6_knockAll_74 rfl ?_
          refine M_iald (n := 76) C dX6_knockAll_75 rfl (by omega) (up2_get (by decide) k1.1) rfl ?_
          refine R_if_eq (tgt := 83) C dX6_knockAll_76 rfl rfl (fun c3 => ?_) (fun c3 => ?_)
          · rw [nI_z32 vl] at c3
            rw [decide_eq_true c3, Bool.and_true] at ih2
            refine R_ic (n := 84) C dX6_knockAll_83 ci_0 rfl ?_
            refine R_ior (n := 85) C dX6_knockAll_84 rfl ?_
            rw [bI_or0]
            refine R_is2 (n := 86) C dX6_knockAll_85 rfl (Nat.le_of_ble_eq_true rfl) rfl ?_
            exact fin _ ih2
          · rw [nI_z32 vl] at c3
            rw [decide_eq_false c3, Bool.and_false, Bool.not_false] at ih2
            refine R_ic (n := 80) C dX6_knockAll_79 ci_1 rfl ?_
            refine R_goto (n := 84) C dX6_knockAll_80 rfl ?_
            refine R_ior (n := 85) C dX6_knockAll_84 rfl ?_
            rw [bI_or1]
            refine R_is2 (n := 86) C dX6_knockAll_85 rfl (Nat.le_of_ble_eq_true rfl) rfl ?_
            exact fin _ ih2
  refine R_ic (n := 1) C dX6_knockAll_0 ci_0 rfl ?_
  refine R_is2 (n := 2) C dX6_knockAll_1 rfl (Nat.le_of_ble_eq_true rfl) rfl ?_
  refine R_ic (n := 3) C dX6_knockAll_2 ci_0 rfl ?_
  refine R_is3 (n := 4) C dX6_knockAll_3 rfl (Nat.le_of_ble_eq_true rfl) rfl ?_
  exact loop (al + 1) 0 h (by omega) (by omega) (fun x hx => absurd hx (Nat.not_lt_zero x)) (fun x hx => absurd hx (Nat.not_lt_zero x)) (fun x _ hx => Eb x hx) (fun a _ _ => rfl)
