def sm (g : Nat → Nat) : Nat → Nat
  | 0 => 0
  | k + 1 => sm g k + g k
theorem sm_cong {f g : Nat → Nat} : ∀ {n : Nat}, (∀ k, k < n → f k = g k) → sm f n = sm g n
  | 0, _ => rfl
  | n + 1, h => by
    show sm f n + f n = sm g n + g n
    rw [sm_cong (fun k hk => h k (by omega)), h n (by omega)]
theorem sm_swap (f : Nat → Nat → Nat) : ∀ n, n ≤ 5 → sm (fun a => sm (fun b => if a < b then f a b else 0) n) n = sm (fun a => sm (fun b => f b a) a) n
  | 0, _ => rfl
  | 1, _ => by simp [sm]
  | 2, _ => by simp [sm]
  | 3, _ => by simp [sm]; omega
  | 4, _ => by simp [sm]; omega
  | 5, _ => by simp [sm]; omega
  | n + 6, h => by omega
def fcb (σ : WS) (l a b : Nat) : Bool := decide (wbz (sA σ 4 a) (sA σ 4 b) < 4) && (frz σ a b (wbz (sA σ 4 a) (sA σ 4 b)) && (decide (wy l a = wbz (sA σ 4 a) (sA σ 4 b)) && decide (wy l b = wbz (sA σ 4 a) (sA σ 4 b) ^^^ 2)))
def n1 (b : Bool) : Nat := if b then 1 else 0
theorem prL_app {l9 : Nat} {x y : List (Nat × Nat × Nat)} : prL l9 (x ++ y) = prL l9 x + prL l9 y := by
  unfold prL
  rw [List.filter_append, List.length_append]
theorem prL_E {σ : WS} {l a b : Nat} : prL l (lnE σ a b) = if a < b then n1 (fcb σ l a b) else 0 := by
  unfold lnE fcb
  by_cases h1 : a < b
  · rw [if_pos h1]
    by_cases h2 : wbz (sA σ 4 a) (sA σ 4 b) < 4
    · rw [decide_eq_true h2, Bool.true_and]
      by_cases h3 : frz σ a b (wbz (sA σ 4 a) (sA σ 4 b)) = true
      · rw [if_pos ⟨h1, h2, h3⟩, h3, Bool.true_and]
        unfold prL n1
        simp only [List.filter_cons, List.filter_nil]
        split <;> rfl
      · rw [if_neg (fun q => h3 q.2.2)]
        have h4 : frz σ a b (wbz (sA σ 4 a) (sA σ 4 b)) = false := by simpa using h3
        rw [h4]
        rfl
    · rw [if_neg (fun q => h2 q.2.1), decide_eq_false h2]
      rfl
  · rw [if_neg h1, if_neg (fun q => h1 q.1)]
    rfl
theorem prL_R {σ : WS} {l a : Nat} : ∀ b, prL l (lnR σ a b) = sm (fun b => if a < b then n1 (fcb σ l a b) else 0) b
  | 0 => rfl
  | b + 1 => by rw [lnR, prL_app, prL_R b, prL_E]; rfl
theorem prL_Z {σ : WS} {l : Nat} : ∀ a, prL l (lnZ σ a) = sm (fun a => sm (fun b => if a < b then n1 (fcb σ l a b) else 0) (sN σ)) a
  | 0 => rfl
  | a + 1 => by rw [lnZ, prL_app, prL_Z a, prL_R]; rfl
def dsz (c d : Nat) : Nat := (d / 5 - c / 5) + (c / 5 - d / 5) + ((d % 5 - c % 5) + (c % 5 - d % 5))
def btz (σ : WS) (a b k : Nat) : Bool := decide (wbz (sA σ 4 a) (sA σ 4 k) = wbz (sA σ 4 a) (sA σ 4 b)) && decide (dsz (sA σ 4 a) (sA σ 4 k) < dsz (sA σ 4 a) (sA σ 4 b))
def clrz (σ : WS) (a b n : Nat) : Bool := alb (fun k => decide (k = a) || (decide (k = b) || !btz σ a b k)) n
theorem wb_op : ∀ c, c < 25 → ∀ d, d < 25 → wbz d c = (if wbz c d < 4 then wbz c d ^^^ 2 else 4) ∧ (wbz c d < 4 → (wbz c d ^^^ 2) < 4 ∧ (wbz c d + 2) % 4 = wbz c d ^^^ 2 ∧ (wbz c d ^^^ 2) ^^^ 2 = wbz c d) := by decide +kernel
def wbC (c d e : Nat) : Bool := !decide (wbz c d < 4) || ((decide (wbz c e = wbz c d) && decide (dsz c e < dsz c d)) == (decide (wbz d e = wbz d c) && decide (wbz e c = wbz d c)))
theorem wb_C : ∀ c, c < 25 → ∀ d, d < 25 → ∀ e, e < 25 → wbC c d e = true := by decide +kernel
theorem clr_fr {σ : WS} (I : Inv σ) {a b : Nat} (ha : a < 5) (hb : b < 5) (h4 : wbz (sA σ 4 a) (sA σ 4 b) < 4) : clrz σ a b (sN σ) = frz σ b a (wbz (sA σ 4 b) (sA σ 4 a)) := by
  have n5 := I.n5
  have key : ∀ k, k < sN σ → (decide (k = a) || (decide (k = b) || !btz σ a b k)) = (decide (k = b) || (decide (k = a) || !(decide (wbz (sA σ 4 b) (sA σ 4 k) = wbz (sA σ 4 b) (sA σ 4 a)) && decide (wbz (sA σ 4 k) (sA σ 4 a) = wbz (sA σ 4 b) (sA σ 4 a))))) := by
    intro k hk
    have c := wb_C _ (I.ce ha) _ (I.ce hb) _ (I.ce (k := k) (by omega))
    rw [wbC, decide_eq_true h4, Bool.not_true, Bool.false_or] at c
    have c' := eq_of_beq c
    rw [btz, c']
    cases decide (k = a) <;> cases decide (k = b) <;> rfl
  unfold clrz frz
  apply Bool.eq_iff_iff.mpr
  rw [alb_iff, alb_iff]
  constructor
  · intro q k hk
    rw [← key k hk]
    exact q k hk
  · intro q k hk
    rw [key k hk]
    exact q k hk
def wbM (c d : Nat) : Int32 := if wbz c d = 4 then -6 else nI (wbz c d)
def wtE (u v : Int32) : Int32 := if (¬ u = 0 ∧ ¬ v = 0) ∨ (u = 0 ∧ v = 0) then -6 else if u < 0 then nI 0 else if 0 < v then nI 1 else if 0 < u then nI 2 else nI 3
theorem wtE_ok : ∀ c, c < 25 → ∀ d, d < 25 → wtE (nI (d / 5) - nI (c / 5)) (nI (d % 5) - nI (c % 5)) = wbM c d := by decide +kernel
def dsE (u v : Int32) : Int32 := (if u < 0 then -u else u) + (if v < 0 then -v else v)
theorem dsE_ok : ∀ c, c < 25 → ∀ d, d < 25 → dsE (nI (d / 5) - nI (c / 5)) (nI (d % 5) - nI (c % 5)) = nI (dsz c d) := by decide +kernel
theorem dsz_lt : ∀ c, c < 25 → ∀ d, d < 25 → dsz c d < 10 := by decide +kernel
set_option maxRecDepth 20000 in
set_option maxHeartbeats 4000000 in
theorem c_mWayTo (l : Launch) (D : va_G) (cA : Nat → ClassId) (r : Nat → Nat) {L : Ly} {h : Hp} {c d : Nat} (hc : c < 25) (hd : d < 25) : Cn l D cA yX11_wayTo cX11_wayTo 4 (some .int) 0 0 0 [.int (nI c), .int (nI d)] (L) h (pE (some (.int (wbM c d))) L h) := by
  refine Cn.of (lv := [some (.int (nI c)), some (.int (nI d)), none, none]) (by decide +kernel) (Nat.le_of_ble_eq_true rfl) rfl (fun X hnm C CR => ?_)
  have ok := wtE_ok c hc d hd
  refine R_il1 (n := 1) C dX11_wayTo_0 rfl ?_
  refine R_ic (n := 2) C dX11_wayTo_1 ci_5 rfl ?_
  refine R_idivN (n := 3) C dX11_wayTo_2 (by omega) (by omega) (by omega) rfl ?_
  refine R_il0 (n := 4) C dX11_wayTo_3 rfl ?_
  refine R_ic (n := 5) C dX11_wayTo_4 ci_5 rfl ?_
  refine R_idivN (n := 6) C dX11_wayTo_5 (by omega) (by omega) (by omega) rfl ?_
  refine R_isub (n := 7) C dX11_wayTo_6 rfl ?_
  refine R_is2 (n := 8) C dX11_wayTo_7 rfl (Nat.le_of_ble_eq_true rfl) rfl ?_
  refine R_il1 (n := 9) C dX11_wayTo_8 rfl ?_
  refine R_ic (n := 10) C dX11_wayTo_9 ci_5 rfl ?_
  refine R_iremN (n := 11) C dX11_wayTo_10 (by omega) (by omega) (by omega) rfl ?_
  refine R_il0 (n := 12) C dX11_wayTo_11 rfl ?_
  refine R_ic (n := 13) C dX11_wayTo_12 ci_5 rfl ?_
  refine R_iremN (n := 14) C dX11_wayTo_13 (by omega) (by omega) (by omega) rfl ?_
  refine R_isub (n := 15) C dX11_wayTo_14 rfl ?_
  refine R_is3 (n := 16) C dX11_wayTo_15 rfl (Nat.le_of_ble_eq_true rfl) rfl ?_
  obtain ⟨u, hu⟩ : ∃ u, nI (d / 5) - nI (c / 5) = u := ⟨_, rfl⟩
  obtain ⟨v, hv⟩ : ∃ v, nI (d % 5) - nI (c % 5) = v := ⟨_, rfl⟩
  rw [hu, hv] at ok ⊢
  rw [← ok] at CR
  have none' : (¬ u = 0 ∧ ¬ v = 0) ∨ (u = 0 ∧ v = 0) → Rn X 0 0 32 [some (.int (nI c)), some (.int (nI d)), some (.int u), some (.int v)] [] L h := by
    intro q
    rw [wtE, if_pos q] at CR
    refine R_bp (n := 34) C dX11_wayTo_32 cb_m6 rfl ?_
    refine R_goto (n := 62) C dX11_wayTo_34 rfl ?_
    refine R_iret C CR (Nat.zero_le _) (Nat.zero_le _) dX11_wayTo_62 ?_
    exact ⟨rfl, rfl, rfl⟩
  have some' : ¬ ((¬ u = 0 ∧ ¬ v = 0) ∨ (u = 0 ∧ v = 0)) → Rn X 0 0 37 [some (.int (nI c)), some (.int (nI d)), some (.int u), some (.int v)] [] L h := by
    intro q
    rw [wtE, if_neg q] at CR
    refine R_il2 (n := 38) C dX11_wayTo_37 rfl ?_
    refine R_if_ge (tgt := 45) C dX11_wayTo_38 rfl rfl (fun c1 => ?_) (fun c1 => ?_)
    · rw [if_neg (Int32.not_lt.mpr c1)] at CR
      refine R_il3 (n := 46) C dX11_wayTo_45 rfl ?_
      refine R_if_le (tgt := 53) C dX11_wayTo_46 rfl rfl (fun c2 => ?_) (fun c2 => ?_)
      · rw [if_neg (Int32.not_lt.mpr c2)] at CR
        refine R_il2 (n := 54) C dX11_wayTo_53 rfl ?_
        refine R_if_le (tgt := 61) C dX11_wayTo_54 rfl rfl (fun c3 => ?_) (fun c3 => ?_)
        · rw [if_neg (Int32.not_lt.mpr c3)] at CR
          refine R_ic (n := 62) C dX11_wayTo_61 ci_3 rfl ?_
          refine R_iret C CR (Nat.zero_le _) (Nat.zero_le _) dX11_wayTo_62 ?_
          exact ⟨rfl, rfl, rfl⟩
        · rw [if_pos (Int32.not_le.mp c3)] at CR
          refine R_ic (n := 58) C dX11_wayTo_57 ci_2 rfl ?_
          refine R_goto (n := 62) C dX11_wayTo_58 rfl ?_
          refine R_iret C CR (Nat.zero_le _) (Nat.zero_le _) dX11_wayTo_62 ?_
          exact ⟨rfl, rfl, rfl⟩
      · rw [if_pos (Int32.not_le.mp c2)] at CR
        refine R_ic (n := 50) C dX11_wayTo_49 ci_1 rfl ?_
        refine R_goto (n := 62) C dX11_wayTo_50 rfl ?_
        refine R_iret C CR (Nat.zero_le _) (Nat.zero_le _) dX11_wayTo_62 ?_
        exact ⟨rfl, rfl, rfl⟩
    · rw [if_pos (Int32.not_le.mp c1)] at CR
      refine R_ic (n := 42) C dX11_wayTo_41 ci_0 rfl ?_
      refine R_goto (n := 62) C dX11_wayTo_42 rfl ?_
      refine R_iret C CR (Nat.zero_le _) (Nat.zero_le _) dX11_wayTo_62 ?_
      exact ⟨rfl, rfl, rfl⟩
  have at24 : (u = 0 ∨ v = 0) → Rn X 0 0 24 [some (.int (nI c)), some (.int (nI d)), some (.int u), some (.int v)] [] L h := by
    intro q
    refine R_il2 (n := 25) C dX11_wayTo_24 rfl ?_
    refine R_if_ne (tgt := 37) C dX11_wayTo_25 rfl rfl (fun c1 => ?_) (fun c1 => ?_)
    · refine some' (fun z => ?_)
      rcases z with z | z
      · rcases q with q | q
        · exact z.1 q
        · exact z.2 q
      · exact c1 z.1
    · refine R_il3 (n := 29) C dX11_wayTo_28 rfl ?_
      refine R_if_ne (tgt := 37) C dX11_wayTo_29 rfl rfl (fun c2 => ?_) (fun c2 => ?_)
      · refine some' (fun z => ?_)
        rcases z with z | z
        · exact z.1 c1
        · exact c2 z.2
      · exact none' (Or.inr ⟨c1, c2⟩)
  refine R_il2 (n := 17) C dX11_wayTo_16 rfl ?_
  refine R_if_eq (tgt := 24) C dX11_wayTo_17 rfl rfl (fun c1 => ?_) (fun c1 => ?_)
  · exact at24 (Or.inl c1)
  · refine R_il3 (n := 21) C dX11_wayTo_20 rfl ?_
    refine R_if_ne (tgt := 32) C dX11_wayTo_21 rfl rfl (fun c2 => ?_) (fun c2 => ?_)
    · exact none' (Or.inl ⟨c1, c2⟩)
    · exact at24 (Or.inr c2)
set_option maxRecDepth 20000 in
set_option maxHeartbeats 4000000 in
theorem c_mDistance (l : Launch) (D : va_G) (cA : Nat → ClassId) (r : Nat → Nat) {L : Ly} {h : Hp} {c d : Nat} (hc : c < 25) (hd : d < 25) : Cn l D cA yX11_distance cX11_distance 5 (some .int) 0 0 0 [.int (nI c), .int (nI d)] (L) h (pE (some (.int (nI (dsz c d)))) L h) := by
  refine Cn.of (lv := [some (.int (nI c)), some (.int (nI d)), none, none, none]) (by decide +kernel) (Nat.le_of_ble_eq_true rfl) rfl (fun X hnm C CR => ?_)
  have ok := dsE_ok c hc d hd
  refine R_il1 (n := 1) C dX11_distance_0 rfl ?_
  refine R_ic (n := 2) C dX11_distance_1 ci_5 rfl ?_
  refine R_idivN (n := 3) C dX11_distance_2 (by omega) (by omega) (by omega) rfl ?_
  refine R_il0 (n := 4) C dX11_distance_3 rfl ?_
  refine R_ic (n := 5) C dX11_distance_4 ci_5 rfl ?_
  refine R_idivN (n := 6) C dX11_distance_5 (by omega) (by omega) (by omega) rfl ?_
  refine R_isub (n := 7) C dX11_distance_6 rfl ?_
  refine R_is2 (n := 8) C dX11_distance_7 rfl (Nat.le_of_ble_eq_true rfl) rfl ?_
  refine R_il1 (n := 9) C dX11_distance_8 rfl ?_
  refine R_ic (n := 10) C dX11_distance_9 ci_5 rfl ?_
  refine R_iremN (n := 11) C dX11_distance_10 (by omega) (by omega) (by omega) rfl ?_
  refine R_il0 (n := 12) C dX11_distance_11 rfl ?_
  refine R_ic (n := 13) C dX11_distance_12 ci_5 rfl ?_
  refine R_iremN (n := 14) C dX11_distance_13 (by omega) (by omega) (by omega) rfl ?_
  refine R_isub (n := 15) C dX11_distance_14 rfl ?_
  refine R_is3 (n := 16) C dX11_distance_15 rfl (Nat.le_of_ble_eq_true rfl) rfl ?_
  obtain ⟨u, hu⟩ : ∃ u, nI (d / 5) - nI (c / 5) = u := ⟨_, rfl⟩
  obtain ⟨v, hv⟩ : ∃ v, nI (d % 5) - nI (c % 5) = v := ⟨_, rfl⟩
  rw [hu, hv] at ok ⊢
  rw [← ok] at CR
  have at26 : ∀ x : Int32, (if u < 0 then -u else u) = x → Rn X 0 0 26 [some (.int (nI c)), some (.int (nI d)), some (.int u), some (.int v), none] [.int x] L h := by
    intro x hx
    rw [dsE, hx] at CR
    refine R_il3 (n := 27) C dX11_distance_26 rfl ?_
    refine R_if_ge (tgt := 35) C dX11_distance_27 rfl rfl (fun c1 => ?_) (fun c1 => ?_)
    · rw [if_neg (Int32.not_lt.mpr c1)] at CR
      refine R_il3 (n := 36) C dX11_distance_35 rfl ?_
      refine R_iadd (n := 37) C dX11_distance_36 rfl ?_
      refine R_is4 (n := 39) C dX11_distance_37 rfl (Nat.le_of_ble_eq_true rfl) rfl ?_
      refine R_il4 (n := 41) C dX11_distance_39 rfl ?_
      refine R_iret C CR (Nat.zero_le _) (Nat.zero_le _) dX11_distance_41 ?_
      exact ⟨rfl, rfl, rfl⟩
    · rw [if_pos (Int32.not_le.mp c1)] at CR
      refine R_il3 (n := 31) C dX11_distance_30 rfl ?_
      refine R_ineg (n := 32) C dX11_distance_31 rfl ?_
      refine R_goto (n := 36) C dX11_distance_32 rfl ?_
      refine R_iadd (n := 37) C dX11_distance_36 rfl ?_
      refine R_is4 (n := 39) C dX11_distance_37 rfl (Nat.le_of_ble_eq_true rfl) rfl ?_
      refine R_il4 (n := 41) C dX11_distance_39 rfl ?_
      refine R_iret C CR (Nat.zero_le _) (Nat.zero_le _) dX11_distance_41 ?_
      exact ⟨rfl, rfl, rfl⟩
  refine R_il2 (n := 17) C dX11_distance_16 rfl ?_
  refine R_if_ge (tgt := 25) C dX11_distance_17 rfl rfl (fun c1 => ?_) (fun c1 => ?_)
  · refine R_il2 (n := 26) C dX11_distance_25 rfl ?_
    exact at26 u (by rw [if_neg (Int32.not_lt.mpr c1)])
  · refine R_il2 (n := 21) C dX11_distance_20 rfl ?_
    refine R_ineg (n := 22) C dX11_distance_21 rfl ?_
    refine R_goto (n := 26) C dX11_distance_22 rfl ?_
    exact at26 (-u) (by rw [if_pos (Int32.not_le.mp c1)])
