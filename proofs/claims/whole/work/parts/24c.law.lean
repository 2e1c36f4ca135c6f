set_option maxRecDepth 20000 in
set_option maxHeartbeats 4000000 in
theorem w_case {X : RX} {r : Nat → Nat} {b N i : Nat} {sc : Nat → Int32} {G : GS} {h : Hp} {x : Int32} (C : Ok X cL_law RL 4 1000 600000 7302250) (S : Sc X b N sc) (hi : i + 7 ≤ N) (K : ∀ (G : GS) (h : Hp), Gd G h → Rn X 100 78294 1132 [some (.ref b), some (.ref (r 0)), some (.ref (r 73)), some (.int (nI i))] [] (LY r) h) (g : Gd G h) : Rn X 100 78294 33 [some (.ref b), some (.ref (r 0)), some (.ref (r 73)), some (.int (nI i))] [.int x] (LY r) h := by
  by_cases ho : x.toInt < 0 ∨ 32 < x.toInt
  · exact R_tabOut (n := 1132) C dL_law_33 ho rfl (K G h g)
  · have hc : x.toInt = 0 ∨ x.toInt = 1 ∨ x.toInt = 2 ∨ x.toInt = 3 ∨ x.toInt = 4 ∨ x.toInt = 5 ∨ x.toInt = 6 ∨ x.toInt = 7 ∨ x.toInt = 8 ∨ x.toInt = 9 ∨ x.toInt = 10 ∨ x.toInt = 11 ∨ x.toInt = 12 ∨ x.toInt = 13 ∨ x.toInt = 14 ∨ x.toInt = 15 ∨ x.toInt = 16 ∨ x.toInt = 17 ∨ x.toInt = 18 ∨ x.toInt = 19 ∨ x.toInt = 20 ∨ x.toInt = 21 ∨ x.toInt = 22 ∨ x.toInt = 23 ∨ x.toInt = 24 ∨ x.toInt = 25 ∨ x.toInt = 26 ∨ x.toInt = 27 ∨ x.toInt = 28 ∨ x.toInt = 29 ∨ x.toInt = 30 ∨ x.toInt = 31 ∨ x.toInt = 32 := by omega
    rcases hc with e | e | e | e | e | e | e | e | e | e | e | e | e | e | e | e | e | e | e | e | e | e | e | e | e | e | e | e | e | e | e | e | e
    · exact R_tabIn (off := 147) (n := 180) C dL_law_33 (by omega) (by omega) (by rw [e]; rfl) rfl (w_huts C S hi K g)
    · exact R_tabIn (off := 170) (n := 203) C dL_law_33 (by omega) (by omega) (by rw [e]; rfl) rfl (w_hut C S hi K g)
    · exact R_tabIn (off := 213) (n := 246) C dL_law_33 (by omega) (by omega) (by rw [e]; rfl) rfl (w_say C S hi K g)
    · exact R_tabIn (off := 236) (n := 269) C dL_law_33 (by omega) (by omega) (by rw [e]; rfl) rfl (w_wipe C S hi K g)
    · exact R_tabIn (off := 249) (n := 282) C dL_law_33 (by omega) (by omega) (by rw [e]; rfl) rfl (w_fault C S hi K g)
    · exact R_tabIn (off := 272) (n := 305) C dL_law_33 (by omega) (by omega) (by rw [e]; rfl) rfl (w_word C S hi K g)
    · exact R_tabIn (off := 295) (n := 328) C dL_law_33 (by omega) (by omega) (by rw [e]; rfl) rfl (w_unword C S hi K g)
    · exact R_tabIn (off := 318) (n := 351) C dL_law_33 (by omega) (by omega) (by rw [e]; rfl) rfl (w_judge C S hi K g)
    · exact R_tabIn (off := 341) (n := 374) C dL_law_33 (by omega) (by omega) (by rw [e]; rfl) rfl (w_behind C S hi K g)
    · exact R_tabIn (off := 374) (n := 407) C dL_law_33 (by omega) (by omega) (by rw [e]; rfl) rfl (w_done C S hi K g)
    · exact R_tabIn (off := 387) (n := 420) C dL_law_33 (by omega) (by omega) (by rw [e]; rfl) rfl (w_state C S hi K g)
    · exact R_tabIn (off := 420) (n := 453) C dL_law_33 (by omega) (by omega) (by rw [e]; rfl) rfl (w_bare C S hi K g)
    · exact R_tabIn (off := 453) (n := 486) C dL_law_33 (by omega) (by omega) (by rw [e]; rfl) rfl (w_reached C S hi K g)
    · exact R_tabIn (off := 466) (n := 499) C dL_law_33 (by omega) (by omega) (by rw [e]; rfl) rfl (w_can C S hi K g)
    · exact R_tabIn (off := 489) (n := 522) C dL_law_33 (by omega) (by omega) (by rw [e]; rfl) rfl (w_spelled C S hi K g)
    · exact R_tabIn (off := 532) (n := 565) C dL_law_33 (by omega) (by omega) (by rw [e]; rfl) rfl (w_tired C S hi K g)
    · exact R_tabIn (off := 565) (n := 598) C dL_law_33 (by omega) (by omega) (by rw [e]; rfl) rfl (w_able C S hi K g)
    · exact R_tabIn (off := 598) (n := 631) C dL_law_33 (by omega) (by omega) (by rw [e]; rfl) rfl (w_without C S hi K g)
    · exact R_tabIn (off := 641) (n := 674) C dL_law_33 (by omega) (by omega) (by rw [e]; rfl) rfl (w_round C S hi K g)
    · exact R_tabIn (off := 674) (n := 707) C dL_law_33 (by omega) (by omega) (by rw [e]; rfl) rfl (w_two C S hi K g)
    · exact R_tabIn (off := 749) (n := 782) C dL_law_33 (by omega) (by omega) (by rw [e]; rfl) rfl (w_pairs C S hi K g)
    · exact R_tabIn (off := 762) (n := 795) C dL_law_33 (by omega) (by omega) (by rw [e]; rfl) rfl (w_danced C S hi K g)
    · exact R_tabIn (off := 785) (n := 818) C dL_law_33 (by omega) (by omega) (by rw [e]; rfl) rfl (w_elected C S hi K g)
    · exact R_tabIn (off := 798) (n := 831) C dL_law_33 (by omega) (by omega) (by rw [e]; rfl) rfl (w_majority C S hi K g)
    · exact R_tabIn (off := 821) (n := 854) C dL_law_33 (by omega) (by omega) (by rw [e]; rfl) rfl (w_seen C S hi K g)
    · exact R_tabIn (off := 864) (n := 897) C dL_law_33 (by omega) (by omega) (by rw [e]; rfl) rfl (w_forget C S hi K g)
    · exact R_tabIn (off := 877) (n := 910) C dL_law_33 (by omega) (by omega) (by rw [e]; rfl) rfl (w_tracks C S hi K g)
    · exact R_tabIn (off := 900) (n := 933) C dL_law_33 (by omega) (by omega) (by rw [e]; rfl) rfl (w_looked C S hi K g)
    · exact R_tabIn (off := 923) (n := 956) C dL_law_33 (by omega) (by omega) (by rw [e]; rfl) rfl (w_storm C S hi K g)
    · exact R_tabIn (off := 987) (n := 1020) C dL_law_33 (by omega) (by omega) (by rw [e]; rfl) rfl (w_ninety C S hi K g)
    · exact R_tabIn (off := 1030) (n := 1063) C dL_law_33 (by omega) (by omega) (by rw [e]; rfl) rfl (w_image C S hi K g)
    · exact R_tabIn (off := 1053) (n := 1086) C dL_law_33 (by omega) (by omega) (by rw [e]; rfl) rfl (w_restore C S hi K g)
    · exact R_tabIn (off := 1076) (n := 1109) C dL_law_33 (by omega) (by omega) (by rw [e]; rfl) rfl (w_told C S hi K g)
set_option maxRecDepth 20000 in
set_option maxHeartbeats 4000000 in
theorem w_loop {X : RX} {r : Nat → Nat} {b N : Nat} {sc : Nat → Int32} (C : Ok X cL_law RL 4 1000 600000 7302250) (S : Sc X b N sc) (h7 : 7 ≤ N) (E : ∀ (i : Nat) (h : Hp), Rn X 100 78294 1138 [some (.ref b), some (.ref (r 0)), some (.ref (r 73)), some (.int (nI i))] [] (LY r) h) : ∀ (k i : Nat), N ≤ i + k → i ≤ 448 → ∀ (G : GS) (h : Hp), Gd G h → Rn X 100 78294 18 [some (.ref b), some (.ref (r 0)), some (.ref (r 73)), some (.int (nI i))] [] (LY r) h := by
  intro k
  induction k using Nat.strongRecOn with
  | _ k ih =>
    intro i hk hi G h g
    have hN := S.2.2.2
    refine R_il3 (n := 19) C dL_law_18 rfl ?_
    refine R_al0 (n := 20) C dL_law_19 rfl ?_
    refine S_alen (n := 21) C S dL_law_20 rfl ?_
    refine R_bp (n := 23) C dL_law_21 cb_7 rfl ?_
    refine R_isubN (n := 24) C dL_law_23 (by omega) rfl ?_
    refine R_icmp_gtN (n := 27) (tgt := 1138) C dL_law_24 rfl rfl (by omega) (by omega) (fun c => E i h) (fun c => ?_)
    refine R_al0 (n := 28) C dL_law_27 rfl ?_
    refine R_il3 (n := 29) C dL_law_28 rfl ?_
    refine S_ald (n := 30) C S (by omega) dL_law_29 rfl ?_
    refine R_bp (n := 32) C dL_law_30 cb_63 rfl ?_
    refine R_iand (n := 33) C dL_law_32 rfl ?_
    refine w_case C S (by omega) (fun G1 h1 g1 => ?_) g
    refine R_inc3 (n := 1135) C dL_law_1132 rfl (Nat.le_of_ble_eq_true rfl) (inc_7 _) rfl ?_
    refine R_goto (n := 18) C dL_law_1135 rfl ?_
    exact ih (k - 7) (by omega) (i + 7) (by omega) (by omega) G1 h1 g1
theorem w_less {X : RX} {r : Nat → Nat} {b N : Nat} {sc : Nat → Int32} (C : Ok X cL_law RL 4 1000 600000 7302250) (S : Sc X b N sc) (h7 : N < 7) (E : ∀ (i : Nat) (h : Hp), Rn X 100 78294 1138 [some (.ref b), some (.ref (r 0)), some (.ref (r 73)), some (.int (nI i))] [] (LY r) h) (h : Hp) : Rn X 100 78294 18 [some (.ref b), some (.ref (r 0)), some (.ref (r 73)), some (.int (nI 0))] [] (LY r) h := by
  refine R_il3 (n := 19) C dL_law_18 rfl ?_
  refine R_al0 (n := 20) C dL_law_19 rfl ?_
  refine S_alen (n := 21) C S dL_law_20 rfl ?_
  refine R_bp (n := 23) C dL_law_21 cb_7 rfl ?_
  refine R_isub (n := 24) C dL_law_23 rfl ?_
  have hg : nI N - nI 7 < nI 0 := by
    have hc : N = 0 ∨ N = 1 ∨ N = 2 ∨ N = 3 ∨ N = 4 ∨ N = 5 ∨ N = 6 := by omega
    rcases hc with rfl | rfl | rfl | rfl | rfl | rfl | rfl <;> decide +kernel
  exact R_icmp_gt (n := 27) (tgt := 1138) C dL_law_24 rfl rfl (fun _ => E 0 h) (fun c => absurd hg c)
