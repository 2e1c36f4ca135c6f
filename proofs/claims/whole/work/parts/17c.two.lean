theorem kaz_of {kn : Nat} (hk : kn < 64) {v : Int32} (h : kaz kn v = true) : ∃ s, s < 64 ∧ v = nI s := by
  unfold kaz at h
  rw [Bool.and_eq_true] at h
  have h2 := of_decide_eq_true h.2
  have h3 : v.toBitVec &&& ((nI kn).toBitVec ^^^ (-1 : Int32).toBitVec) = 0#32 := congrArg Int32.toBitVec h2
  have big : ∀ i, 6 ≤ i → i < 32 → v.toBitVec.getLsbD i = false := by
    intro i h6 hi
    have h4 := congrArg (fun b : BitVec 32 => b.getLsbD i) h3
    simp only [BitVec.getLsbD_and, BitVec.getLsbD_xor] at h4
    have e1 : (nI kn).toBitVec.getLsbD i = false := by
      show (BitVec.ofNat 32 kn).getLsbD i = false
      rw [BitVec.getLsbD_ofNat, Nat.testBit_lt_two_pow (Nat.lt_of_lt_of_le hk (Nat.pow_le_pow_right (n := 2) (by decide) h6))]
      simp
    have e2 : (-1 : Int32).toBitVec.getLsbD i = true := by
      have : ∀ i, i < 32 → (-1 : Int32).toBitVec.getLsbD i = true := by decide +kernel
      exact this i hi
    rw [e1, e2] at h4
    simpa using h4
  have e : v &&& nI 63 = v := by
    apply Int32.toBitVec_inj.1
    show v.toBitVec &&& BitVec.ofNat 32 63 = v.toBitVec
    apply BitVec.eq_of_getLsbD_eq
    intro i hi
    rw [BitVec.getLsbD_and]
    by_cases h6 : i < 6
    · have : ∀ i, i < 6 → (BitVec.ofNat 32 63).getLsbD i = true := by decide +kernel
      rw [this i h6, Bool.and_true]
    · rw [big i (by omega) hi, Bool.false_and]
  refine ⟨v.toBitVec.toNat % 64, Nat.mod_lt _ (by decide), ?_⟩
  rw [← pk_and v (m := nI 63) 6 (by decide), e]
def aTwo (G : GS) (hu a b w0 w1 wh : Int32) : Int32 := if hasH (gS G) hu then (if (win a (nI 0) (nI 3) && (win b (nI 0) (nI 3) && !decide (a = b))) && (kaz (sKn (gS G)) w0 && (kaz (sKn (gS G)) w1 && win wh (nI 0) (nI 1))) then (if cl wh = 0 then nI ((twz (gS G) (cl hu) (cl w0) (cl w1) (cl a) (cl b) 8).1 (sA (gS G) 0 (cl hu)) 0) else nI ((twz (gS G) (cl hu) (cl w0) (cl w1) (cl a) (cl b) 8).2 (sA (gS G) 0 (cl hu)) 0)) else -2) else -1
set_option maxRecDepth 20000 in
set_option maxHeartbeats 4000000 in
theorem p_two (l : Launch) (D : va_G) (cA : Nat → ClassId) (r : Nat → Nat) {h : Hp} {G : GS} (R : RCl G h) (I : InvG G) (hu a b w0 w1 wh : Int32) : Cn l D cA yX10_two cX10_two 8 (some .int) 3 0 0 [.ref (r 0), .int hu, .int a, .int b, .int w0, .int w1, .int wh] (LY r) h (pG (some (.int (aTwo G hu a b w0 w1 wh))) (LY r) (fun h' => RCl G h' ∧ FrC h h')) := by
  refine Cn.of (lv := [some (.ref (r 0)), some (.int hu), some (.int a), some (.int b), some (.int w0), some (.int w1), some (.int wh), none]) (by decide +kernel) (Nat.le_of_ble_eq_true rfl) rfl (fun X hnm C CR => ?_)
  have n5 := I.1.n5
  refine R_al0 (n := 1) C dX10_two_0 rfl ?_
  refine M_getR (n := 4) C fl_X10_12 dX10_two_1 rfl rfl rfl ?_
  refine R_il1 (n := 5) C dX10_two_4 rfl ?_
  refine M_callV (n := 8) C (c_hasHut _ _ _ r R.1 I.1 hu) mw_X9_hasHut ml_X10_88 iv_X9_hasHut dX10_two_5 rfl rfl rfl rfl (Nat.le_of_ble_eq_true rfl) ⟨Nat.le_of_ble_eq_true rfl, Nat.le_of_ble_eq_true rfl⟩ ⟨Nat.le_refl _, Nat.le_refl _⟩ rfl (pEs ?_)
  refine R_if_neB (tgt := 13) C dX10_two_8 rfl rfl (fun c1 => ?_) (fun c1 => ?_)
  · obtain ⟨k, hk, rfl, hk2⟩ := hasH_of I.1 c1
    have c1' : hasH (gS G) (nI k) = true := c1
    rw [aTwo, c1', if_pos rfl, hk2] at CR
    have bad1 : (win a (nI 0) (nI 3) && (win b (nI 0) (nI 3) && !decide (a = b))) = false → Rn X 0 0 36 [some (.ref (r 0)), some (.int (nI k)), some (.int a), some (.int b), some (.int w0), some (.int w1), some (.int wh), none] [] (LY r) h := by
      intro q
      rw [q, Bool.false_and] at CR
      refine R_bp (n := 38) C dX10_two_36 cb_m2 rfl ?_
      refine R_iret C CR (Nat.zero_le _) (Nat.zero_le _) dX10_two_38 ?_
      exact ⟨rfl, rfl, R, FrC.rf⟩
    have bad2 : (kaz (sKn (gS G)) w0 && (kaz (sKn (gS G)) w1 && win wh (nI 0) (nI 1))) = false → Rn X 0 0 73 [some (.ref (r 0)), some (.int (nI k)), some (.int a), some (.int b), some (.int w0), some (.int w1), some (.int wh), none] [] (LY r) h := by
      intro q
      rw [q, Bool.and_false] at CR
      refine R_bp (n := 75) C dX10_two_73 cb_m2 rfl ?_
      refine R_iret C CR (Nat.zero_le _) (Nat.zero_le _) dX10_two_75 ?_
      exact ⟨rfl, rfl, R, FrC.rf⟩
    refine R_il2 (n := 14) C dX10_two_13 rfl ?_
    refine R_ic (n := 15) C dX10_two_14 ci_0 rfl ?_
    refine R_ic (n := 16) C dX10_two_15 ci_3 rfl ?_
    refine R_callS (n := 19) C (c_isWithin _ _ _ r _ _ _) mw_X10_isWithin ml_X10_92 sv_X10_isWithin dX10_two_16 rfl rfl (Nat.le_of_ble_eq_true rfl) ⟨Nat.le_of_ble_eq_true rfl, Nat.le_of_ble_eq_true rfl⟩ ⟨Nat.le_refl _, Nat.le_refl _⟩ rfl (pEs ?_)
    refine R_if_eqB (tgt := 36) C dX10_two_19 rfl rfl (fun c2 => ?_) (fun c2 => ?_)
    · exact bad1 (by rw [c2]; rfl)
    · refine R_il3 (n := 23) C dX10_two_22 rfl ?_
      refine R_ic (n := 24) C dX10_two_23 ci_0 rfl ?_
      refine R_ic (n := 25) C dX10_two_24 ci_3 rfl ?_
      refine R_callS (n := 28) C (c_isWithin _ _ _ r _ _ _) mw_X10_isWithin ml_X10_92 sv_X10_isWithin dX10_two_25 rfl rfl (Nat.le_of_ble_eq_true rfl) ⟨Nat.le_of_ble_eq_true rfl, Nat.le_of_ble_eq_true rfl⟩ ⟨Nat.le_refl _, Nat.le_refl _⟩ rfl (pEs ?_)
      refine R_if_eqB (tgt := 36) C dX10_two_28 rfl rfl (fun c3 => ?_) (fun c3 => ?_)
      · exact bad1 (by rw [c3, Bool.false_and, Bool.and_false])
      · refine R_il2 (n := 32) C dX10_two_31 rfl ?_
        refine R_il3 (n := 33) C dX10_two_32 rfl ?_
        refine R_icmp_ne (tgt := 39) C dX10_two_33 rfl rfl (fun c4 => ?_) (fun c4 => ?_)
        · refine R_al0 (n := 40) C dX10_two_39 rfl ?_
          refine M_getR (n := 43) C fl_X10_12 dX10_two_40 rfl rfl rfl ?_
          refine R_il4 (n := 45) C dX10_two_43 rfl ?_
          refine M_callV (n := 48) C (c_knowsAll _ _ _ r R.1 I.1 _) mw_X9_knowsAll ml_X10_218 iv_X9_knowsAll dX10_two_45 rfl rfl rfl rfl (Nat.le_of_ble_eq_true rfl) ⟨Nat.le_of_ble_eq_true rfl, Nat.le_of_ble_eq_true rfl⟩ ⟨Nat.le_refl _, Nat.le_refl _⟩ rfl (pEs ?_)
          refine R_if_eqB (tgt := 73) C dX10_two_48 rfl rfl (fun c5 => ?_) (fun c5 => ?_)
          · exact bad2 (by rw [c5]; rfl)
          · refine R_al0 (n := 52) C dX10_two_51 rfl ?_
            refine M_getR (n := 55) C fl_X10_12 dX10_two_52 rfl rfl rfl ?_
            refine R_il5 (n := 57) C dX10_two_55 rfl ?_
            refine M_callV (n := 60) C (c_knowsAll _ _ _ r R.1 I.1 _) mw_X9_knowsAll ml_X10_218 iv_X9_knowsAll dX10_two_57 rfl rfl rfl rfl (Nat.le_of_ble_eq_true rfl) ⟨Nat.le_of_ble_eq_true rfl, Nat.le_of_ble_eq_true rfl⟩ ⟨Nat.le_refl _, Nat.le_refl _⟩ rfl (pEs ?_)
            refine R_if_eqB (tgt := 73) C dX10_two_60 rfl rfl (fun c6 => ?_) (fun c6 => ?_)
            · exact bad2 (by rw [c6, Bool.false_and, Bool.and_false])
            · refine R_il6 (n := 65) C dX10_two_63 rfl ?_
              refine R_ic (n := 66) C dX10_two_65 ci_0 rfl ?_
              refine R_ic (n := 67) C dX10_two_66 ci_1 rfl ?_
              refine R_callS (n := 70) C (c_isWithin _ _ _ r _ _ _) mw_X10_isWithin ml_X10_92 sv_X10_isWithin dX10_two_67 rfl rfl (Nat.le_of_ble_eq_true rfl) ⟨Nat.le_of_ble_eq_true rfl, Nat.le_of_ble_eq_true rfl⟩ ⟨Nat.le_refl _, Nat.le_refl _⟩ rfl (pEs ?_)
              refine R_if_neB (tgt := 76) C dX10_two_70 rfl rfl (fun c7 => ?_) (fun c7 => ?_)
              · rw [c2, c3, c5, c6, c7, decide_eq_false c4] at CR
                obtain ⟨x2, _, b2, rfl⟩ := win_of (by decide) (by decide) c2
                obtain ⟨x3, _, b3, rfl⟩ := win_of (by decide) (by decide) c3
                obtain ⟨x7, _, b7, rfl⟩ := win_of (by decide) (by decide) c7
                obtain ⟨x5, b5, rfl⟩ := kaz_of I.1.kn c5
                obtain ⟨x6, b6, rfl⟩ := kaz_of I.1.kn c6
                have e2 : cl (nI x2) = x2 := nI_clamp (by omega)
                have e3 : cl (nI x3) = x3 := nI_clamp (by omega)
                have e7 : cl (nI x7) = x7 := nI_clamp (by omega)
                have e5 : cl (nI x5) = x5 := nI_clamp (by omega)
                have e6 : cl (nI x6) = x6 := nI_clamp (by omega)
                rw [e2, e3, e5, e6, e7] at CR
                rw [if_pos (by rfl)] at CR
                have lk := I.1.lk (k := k) (by omega)
                refine R_al0 (n := 77) C dX10_two_76 rfl ?_
                refine M_getR (n := 80) C fl_X10_62 dX10_two_77 rfl rfl rfl ?_
                refine R_al0 (n := 81) C dX10_two_80 rfl ?_
                refine M_getR (n := 84) C fl_X10_12 dX10_two_81 rfl rfl rfl ?_
                refine R_il1 (n := 85) C dX10_two_84 rfl ?_
                refine R_il2 (n := 86) C dX10_two_85 rfl ?_
                refine R_il3 (n := 87) C dX10_two_86 rfl ?_
                refine R_il4 (n := 89) C dX10_two_87 rfl ?_
                refine R_il5 (n := 91) C dX10_two_89 rfl ?_
                refine M_callV (n := 94) C (c_settle _ _ _ r R.1 I.1 (by omega) (by omega) (by omega) b5 b6) mw_X0_settle ml_X10_221 iv_X0_settle dX10_two_91 rfl rfl rfl rfl (Nat.le_of_ble_eq_true rfl) ⟨Nat.le_of_ble_eq_true rfl, Nat.le_of_ble_eq_true rfl⟩ ⟨Nat.le_refl _, Nat.le_refl _⟩ rfl (pGv (fun h1 q1 => ?_))
                have W : RCl G h1 ∧ FrC h h1 := ⟨R.s q1.2, q1.2.c⟩
                have E := q1.1 (sA (gS G) 0 k) (by omega)
                rw [show sA (gS G) 0 k % 4 = sA (gS G) 0 k by omega, show sA (gS G) 0 k / 4 = 0 by omega] at E
                refine R_al0 (n := 95) C dX10_two_94 rfl ?_
                refine M_getR (n := 98) C fl_X10_12 dX10_two_95 rfl rfl rfl ?_
                refine M_getR (n := 101) C fl_X10_168 dX10_two_98 rfl rfl rfl ?_
                refine R_il1 (n := 102) C dX10_two_101 rfl ?_
                refine M_iald (n := 103) C dX10_two_102 rfl (by omega) (wLk W.1.1 (by omega)) rfl ?_
                refine R_is7 (n := 105) C dX10_two_103 rfl (Nat.le_of_ble_eq_true rfl) rfl ?_
                refine R_il6 (n := 107) C dX10_two_105 rfl ?_
                refine R_if_neN (tgt := 123) C dX10_two_107 rfl rfl (by omega) (fun c8 => ?_) (fun c8 => ?_)
                · rw [if_neg c8] at CR
                  refine R_al0 (n := 124) C dX10_two_123 rfl ?_
                  refine M_getR (n := 127) C fl_X10_62 dX10_two_124 rfl rfl rfl ?_
                  refine M_getR (n := 130) C fl_X10_228 dX10_two_127 rfl rfl rfl ?_
                  refine R_il7 (n := 132) C dX10_two_130 rfl ?_
                  refine M_iald (n := 133) C dX10_two_132 rfl (by omega) E.2 rfl ?_
                  refine R_iret C CR (Nat.zero_le _) (Nat.zero_le _) dX10_two_133 ?_
                  exact ⟨rfl, rfl, W⟩
                · rw [if_pos c8] at CR
                  refine R_al0 (n := 111) C dX10_two_110 rfl ?_
                  refine M_getR (n := 114) C fl_X10_62 dX10_two_111 rfl rfl rfl ?_
                  refine M_getR (n := 117) C fl_X10_225 dX10_two_114 rfl rfl rfl ?_
                  refine R_il7 (n := 119) C dX10_two_117 rfl ?_
                  refine M_iald (n := 120) C dX10_two_119 rfl (by omega) E.1 rfl ?_
                  refine R_goto (n := 133) C dX10_two_120 rfl ?_
                  refine R_iret C CR (Nat.zero_le _) (Nat.zero_le _) dX10_two_133 ?_
                  exact ⟨rfl, rfl, W⟩
              · exact bad2 (by rw [c7, Bool.and_false, Bool.and_false])
        · exact bad1 (by rw [decide_eq_true c4, Bool.not_true, Bool.and_false, Bool.and_false])
  · have c1' : hasH (gS G) hu = false := c1
    rw [aTwo, c1'] at CR
    refine R_ic (n := 12) C dX10_two_11 ci_m1 rfl ?_
    refine R_iret C CR (Nat.zero_le _) (Nat.zero_le _) dX10_two_12 ?_
    exact ⟨rfl, rfl, R, FrC.rf⟩
