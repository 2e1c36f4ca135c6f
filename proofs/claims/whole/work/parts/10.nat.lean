def bI (b : Bool) : Int32 := if b then 1 else 0
theorem bI_01 (b : Bool) : bI b = 0 ∨ bI b = 1 := by cases b <;> simp [bI]
theorem bI_0 {b : Bool} : bI b = 0 ↔ b = false := by cases b <;> decide
theorem bI_n {b : Bool} : ¬ bI b = 0 ↔ b = true := by cases b <;> decide
theorem nI_and (a b : Nat) : nI a &&& nI b = nI (a &&& b) := by
  apply Int32.toBitVec_inj.1
  show BitVec.ofNat 32 a &&& BitVec.ofNat 32 b = BitVec.ofNat 32 (a &&& b)
  apply BitVec.eq_of_getLsbD_eq
  intro i hi
  simp [hi]
theorem nI_or (a b : Nat) : nI a ||| nI b = nI (a ||| b) := by
  apply Int32.toBitVec_inj.1
  show BitVec.ofNat 32 a ||| BitVec.ofNat 32 b = BitVec.ofNat 32 (a ||| b)
  apply BitVec.eq_of_getLsbD_eq
  intro i hi
  simp [hi]
theorem nI_xor (a b : Nat) : nI a ^^^ nI b = nI (a ^^^ b) := by
  apply Int32.toBitVec_inj.1
  show BitVec.ofNat 32 a ^^^ BitVec.ofNat 32 b = BitVec.ofNat 32 (a ^^^ b)
  apply BitVec.eq_of_getLsbD_eq
  intro i hi
  simp [hi]
theorem sh_l : ∀ n, n < 32 → ((nI n &&& 31).toBitVec.smod 32).toNat = n := by decide +kernel
theorem nI_shl {a s : Nat} (hs : s < 32) (h : a * 2 ^ s < 2 ^ 32) : nI a <<< (nI s &&& 31) = nI (a * 2 ^ s) := pk_shlN _ s (sh_l s hs) h
theorem nI_shr {a s : Nat} (hs : s < 32) (h : a < 2 ^ 31) : nI a >>> (nI s &&& 31) = nI (a / 2 ^ s) := pk_shrN h _ s (sh_l s hs)
theorem inc_1 (a : Nat) : nI a + Int32.ofInt 1 = nI (a + 1) := nI_1 a
theorem inc_2 (a : Nat) : nI a + Int32.ofInt 2 = nI (a + 2) := nI_add a 2
theorem inc_4 (a : Nat) : nI a + Int32.ofInt 4 = nI (a + 4) := nI_add a 4
theorem inc_7 (a : Nat) : nI a + Int32.ofInt 7 = nI (a + 7) := nI_add a 7
theorem inc_8 (a : Nat) : nI a + Int32.ofInt 8 = nI (a + 8) := nI_add a 8
theorem inc_16 (a : Nat) : nI a + Int32.ofInt 16 = nI (a + 16) := nI_add a 16
theorem inc_m1 (a : Nat) : nI (a + 1) + Int32.ofInt (-1) = nI a := pk_m1 a
theorem lc_0 : Int64.ofNat ((0 : Fin 2) : Nat) = lN 0 := rfl
theorem lc_1 : Int64.ofNat ((1 : Fin 2) : Nat) = lN 1 := rfl
theorem inc_m10 : nI 0 + Int32.ofInt (-1) = -1 := by decide +kernel
section Nat10
variable {X : RX} {cc : ByteArray} {own : String} {nL fr mc ms nc ns pc n : Nat} {lv : List (Option Value)} {st : List Value} {L : Ly} {h : Hp}
theorem R_iaddN (C : Ok X cc own nL fr mc ms) {a b : Nat} (d : decode cc pc = .ok (.iadd, 1)) (hn : pc + 1 = n) (K : Rn X nc ns n lv (.int (nI (a + b)) :: st) L h) : Rn X nc ns pc lv (.int (nI b) :: .int (nI a) :: st) L h :=
  R_iadd C d hn (R_eq (nI_add a b) K)
theorem R_isubN (C : Ok X cc own nL fr mc ms) {a b : Nat} (d : decode cc pc = .ok (.isub, 1)) (hab : b ≤ a) (hn : pc + 1 = n) (K : Rn X nc ns n lv (.int (nI (a - b)) :: st) L h) : Rn X nc ns pc lv (.int (nI b) :: .int (nI a) :: st) L h :=
  R_isub C d hn (R_eq (pk_sub hab) K)
theorem R_imulN (C : Ok X cc own nL fr mc ms) {a b : Nat} (d : decode cc pc = .ok (.imul, 1)) (hn : pc + 1 = n) (K : Rn X nc ns n lv (.int (nI (a * b)) :: st) L h) : Rn X nc ns pc lv (.int (nI b) :: .int (nI a) :: st) L h :=
  R_imul C d hn (R_eq (pk_mul a b) K)
theorem R_iandN (C : Ok X cc own nL fr mc ms) {a b : Nat} (d : decode cc pc = .ok (.iand, 1)) (hn : pc + 1 = n) (K : Rn X nc ns n lv (.int (nI (a &&& b)) :: st) L h) : Rn X nc ns pc lv (.int (nI b) :: .int (nI a) :: st) L h :=
  R_iand C d hn (R_eq (nI_and a b) K)
theorem R_iorN (C : Ok X cc own nL fr mc ms) {a b : Nat} (d : decode cc pc = .ok (.ior, 1)) (hn : pc + 1 = n) (K : Rn X nc ns n lv (.int (nI (a ||| b)) :: st) L h) : Rn X nc ns pc lv (.int (nI b) :: .int (nI a) :: st) L h :=
  R_ior C d hn (R_eq (nI_or a b) K)
theorem R_ixorN (C : Ok X cc own nL fr mc ms) {a b : Nat} (d : decode cc pc = .ok (.ixor, 1)) (hn : pc + 1 = n) (K : Rn X nc ns n lv (.int (nI (a ^^^ b)) :: st) L h) : Rn X nc ns pc lv (.int (nI b) :: .int (nI a) :: st) L h :=
  R_ixor C d hn (R_eq (nI_xor a b) K)
theorem R_idivN (C : Ok X cc own nL fr mc ms) {a b : Nat} (d : decode cc pc = .ok (.idiv, 1)) (ha : a < 2 ^ 31) (h0 : 0 < b) (hb : b < 2 ^ 31) (hn : pc + 1 = n) (K : Rn X nc ns n lv (.int (nI (a / b)) :: st) L h) : Rn X nc ns pc lv (.int (nI b) :: .int (nI a) :: st) L h :=
  R_idiv C d (nI_ne0 h0 hb) hn (R_eq (pk_div ha h0 hb) K)
theorem R_iremN (C : Ok X cc own nL fr mc ms) {a b : Nat} (d : decode cc pc = .ok (.irem, 1)) (ha : a < 2 ^ 31) (h0 : 0 < b) (hb : b < 2 ^ 31) (hn : pc + 1 = n) (K : Rn X nc ns n lv (.int (nI (a % b)) :: st) L h) : Rn X nc ns pc lv (.int (nI b) :: .int (nI a) :: st) L h :=
  R_irem C d (nI_ne0 h0 hb) hn (R_eq (pk_rem ha h0 hb) K)
theorem R_ishlN (C : Ok X cc own nL fr mc ms) {a b : Nat} (d : decode cc pc = .ok (.ishl, 1)) (hs : b < 32) (hb : a * 2 ^ b < 2 ^ 32) (hn : pc + 1 = n) (K : Rn X nc ns n lv (.int (nI (a * 2 ^ b)) :: st) L h) : Rn X nc ns pc lv (.int (nI b) :: .int (nI a) :: st) L h :=
  R_ishl C d hn (R_eq (nI_shl hs hb) K)
theorem R_ishrN (C : Ok X cc own nL fr mc ms) {a b : Nat} (d : decode cc pc = .ok (.ishr, 1)) (hs : b < 32) (ha : a < 2 ^ 31) (hn : pc + 1 = n) (K : Rn X nc ns n lv (.int (nI (a / 2 ^ b)) :: st) L h) : Rn X nc ns pc lv (.int (nI b) :: .int (nI a) :: st) L h :=
  R_ishr C d hn (R_eq (nI_shr hs ha) K)
theorem R_icmp_eqN (C : Ok X cc own nL fr mc ms) {a b : Nat} {off : Int} {tgt : Nat} (d : decode cc pc = .ok (.if_icmp .eq off, 3)) (ht : (pc : Int) + off = (tgt : Int)) (hn : pc + 3 = n) (ha : a < 2 ^ 31) (hb : b < 2 ^ 31) (kt : a = b → Rn X nc ns tgt lv st L h) (kf : ¬ a = b → Rn X nc ns n lv st L h) : Rn X nc ns pc lv (.int (nI b) :: .int (nI a) :: st) L h :=
  R_icmp_eq C d ht hn (fun q => kt ((nI_eq ha hb).mp q)) (fun q => kf (fun e => q ((nI_eq ha hb).mpr e)))
theorem R_icmp_neN (C : Ok X cc own nL fr mc ms) {a b : Nat} {off : Int} {tgt : Nat} (d : decode cc pc = .ok (.if_icmp .ne off, 3)) (ht : (pc : Int) + off = (tgt : Int)) (hn : pc + 3 = n) (ha : a < 2 ^ 31) (hb : b < 2 ^ 31) (kt : ¬ a = b → Rn X nc ns tgt lv st L h) (kf : a = b → Rn X nc ns n lv st L h) : Rn X nc ns pc lv (.int (nI b) :: .int (nI a) :: st) L h :=
  R_icmp_ne C d ht hn (fun q => kt (fun e => q ((nI_eq ha hb).mpr e))) (fun q => kf ((nI_eq ha hb).mp q))
theorem R_icmp_ltN (C : Ok X cc own nL fr mc ms) {a b : Nat} {off : Int} {tgt : Nat} (d : decode cc pc = .ok (.if_icmp .lt off, 3)) (ht : (pc : Int) + off = (tgt : Int)) (hn : pc + 3 = n) (ha : a < 2 ^ 31) (hb : b < 2 ^ 31) (kt : a < b → Rn X nc ns tgt lv st L h) (kf : b ≤ a → Rn X nc ns n lv st L h) : Rn X nc ns pc lv (.int (nI b) :: .int (nI a) :: st) L h :=
  R_icmp_lt C d ht hn (fun q => kt ((nI_ltI ha hb).mp q)) (fun q => kf (Nat.not_lt.mp (fun e => q ((nI_ltI ha hb).mpr e))))
theorem R_icmp_geN (C : Ok X cc own nL fr mc ms) {a b : Nat} {off : Int} {tgt : Nat} (d : decode cc pc = .ok (.if_icmp .ge off, 3)) (ht : (pc : Int) + off = (tgt : Int)) (hn : pc + 3 = n) (ha : a < 2 ^ 31) (hb : b < 2 ^ 31) (kt : b ≤ a → Rn X nc ns tgt lv st L h) (kf : a < b → Rn X nc ns n lv st L h) : Rn X nc ns pc lv (.int (nI b) :: .int (nI a) :: st) L h :=
  R_icmp_ge C d ht hn (fun q => kt ((nI_leI hb ha).mp q)) (fun q => kf (Nat.not_le.mp (fun e => q ((nI_leI hb ha).mpr e))))
theorem R_icmp_gtN (C : Ok X cc own nL fr mc ms) {a b : Nat} {off : Int} {tgt : Nat} (d : decode cc pc = .ok (.if_icmp .gt off, 3)) (ht : (pc : Int) + off = (tgt : Int)) (hn : pc + 3 = n) (ha : a < 2 ^ 31) (hb : b < 2 ^ 31) (kt : b < a → Rn X nc ns tgt lv st L h) (kf : a ≤ b → Rn X nc ns n lv st L h) : Rn X nc ns pc lv (.int (nI b) :: .int (nI a) :: st) L h :=
  R_icmp_gt C d ht hn (fun q => kt ((nI_ltI hb ha).mp q)) (fun q => kf (Nat.not_lt.mp (fun e => q ((nI_ltI hb ha).mpr e))))
theorem R_icmp_leN (C : Ok X cc own nL fr mc ms) {a b : Nat} {off : Int} {tgt : Nat} (d : decode cc pc = .ok (.if_icmp .le off, 3)) (ht : (pc : Int) + off = (tgt : Int)) (hn : pc + 3 = n) (ha : a < 2 ^ 31) (hb : b < 2 ^ 31) (kt : a ≤ b → Rn X nc ns tgt lv st L h) (kf : b < a → Rn X nc ns n lv st L h) : Rn X nc ns pc lv (.int (nI b) :: .int (nI a) :: st) L h :=
  R_icmp_le C d ht hn (fun q => kt ((nI_leI ha hb).mp q)) (fun q => kf (Nat.not_le.mp (fun e => q ((nI_leI ha hb).mpr e))))
theorem R_if_eqN (C : Ok X cc own nL fr mc ms) {a : Nat} {off : Int} {tgt : Nat} (d : decode cc pc = .ok (.ifCond .eq off, 3)) (ht : (pc : Int) + off = (tgt : Int)) (hn : pc + 3 = n) (ha : a < 2 ^ 31) (kt : a = 0 → Rn X nc ns tgt lv st L h) (kf : ¬ a = 0 → Rn X nc ns n lv st L h) : Rn X nc ns pc lv (.int (nI a) :: st) L h :=
  R_if_eq C d ht hn (fun q => kt ((nI_eq ha (by decide)).mp q)) (fun q => kf (fun e => q ((nI_eq ha (by decide)).mpr e)))
theorem R_if_neN (C : Ok X cc own nL fr mc ms) {a : Nat} {off : Int} {tgt : Nat} (d : decode cc pc = .ok (.ifCond .ne off, 3)) (ht : (pc : Int) + off = (tgt : Int)) (hn : pc + 3 = n) (ha : a < 2 ^ 31) (kt : ¬ a = 0 → Rn X nc ns tgt lv st L h) (kf : a = 0 → Rn X nc ns n lv st L h) : Rn X nc ns pc lv (.int (nI a) :: st) L h :=
  R_if_ne C d ht hn (fun q => kt (fun e => q ((nI_eq ha (by decide)).mpr e))) (fun q => kf ((nI_eq ha (by decide)).mp q))
theorem R_if_gtN (C : Ok X cc own nL fr mc ms) {a : Nat} {off : Int} {tgt : Nat} (d : decode cc pc = .ok (.ifCond .gt off, 3)) (ht : (pc : Int) + off = (tgt : Int)) (hn : pc + 3 = n) (ha : a < 2 ^ 31) (kt : 0 < a → Rn X nc ns tgt lv st L h) (kf : a = 0 → Rn X nc ns n lv st L h) : Rn X nc ns pc lv (.int (nI a) :: st) L h :=
  R_if_gt C d ht hn (fun q => kt ((nI_ltI (a := 0) (by decide) ha).mp q)) (fun q => kf (Nat.eq_zero_of_not_pos (fun e => q ((nI_ltI (a := 0) (by decide) ha).mpr e))))
theorem R_if_leN (C : Ok X cc own nL fr mc ms) {a : Nat} {off : Int} {tgt : Nat} (d : decode cc pc = .ok (.ifCond .le off, 3)) (ht : (pc : Int) + off = (tgt : Int)) (hn : pc + 3 = n) (ha : a < 2 ^ 31) (kt : a = 0 → Rn X nc ns tgt lv st L h) (kf : 0 < a → Rn X nc ns n lv st L h) : Rn X nc ns pc lv (.int (nI a) :: st) L h :=
  R_if_le C d ht hn (fun q => kt (Nat.le_zero.mp ((nI_leI (b := 0) ha (by decide)).mp q))) (fun q => kf (Nat.not_le.mp (fun e => q ((nI_leI (b := 0) ha (by decide)).mpr e))))
theorem R_if_ltN (C : Ok X cc own nL fr mc ms) {a : Nat} {off : Int} (d : decode cc pc = .ok (.ifCond .lt off, 3)) (tgt : Nat) (ht : (pc : Int) + off = (tgt : Int)) (hn : pc + 3 = n) (ha : a < 2 ^ 31) (kf : Rn X nc ns n lv st L h) : Rn X nc ns pc lv (.int (nI a) :: st) L h :=
  R_if_lt C d ht hn (fun q => absurd q (nI_pos ha)) (fun _ => kf)
theorem R_if_geN (C : Ok X cc own nL fr mc ms) {a : Nat} {off : Int} {tgt : Nat} (d : decode cc pc = .ok (.ifCond .ge off, 3)) (ht : (pc : Int) + off = (tgt : Int)) (hn : pc + 3 = n) (ha : a < 2 ^ 31) (kt : Rn X nc ns tgt lv st L h) : Rn X nc ns pc lv (.int (nI a) :: st) L h :=
  R_if_ge C d ht hn (fun _ => kt) (fun q => absurd (nI_pos' ha) q)
theorem R_if_eqB (C : Ok X cc own nL fr mc ms) {b : Bool} {off : Int} {tgt : Nat} (d : decode cc pc = .ok (.ifCond .eq off, 3)) (ht : (pc : Int) + off = (tgt : Int)) (hn : pc + 3 = n) (kt : b = false → Rn X nc ns tgt lv st L h) (kf : b = true → Rn X nc ns n lv st L h) : Rn X nc ns pc lv (.int (bI b) :: st) L h :=
  R_if_eq C d ht hn (fun q => kt (bI_0.mp q)) (fun q => kf (bI_n.mp q))
theorem R_if_neB (C : Ok X cc own nL fr mc ms) {b : Bool} {off : Int} {tgt : Nat} (d : decode cc pc = .ok (.ifCond .ne off, 3)) (ht : (pc : Int) + off = (tgt : Int)) (hn : pc + 3 = n) (kt : b = true → Rn X nc ns tgt lv st L h) (kf : b = false → Rn X nc ns n lv st L h) : Rn X nc ns pc lv (.int (bI b) :: st) L h :=
  R_if_ne C d ht hn (fun q => kt (bI_n.mp q)) (fun q => kf (bI_0.mp q))
theorem R_zret0 (C : Ok X cc own nL fr mc ms) {mc' ms' : Nat} {post : Option Value → Ly → Hp → Prop} (CR : OkR X (some .boolean) mc' ms' post) (h1 : nc ≤ mc') (h2 : ns ≤ ms') (d : decode cc pc = .ok (.ireturn, 1)) (hp : post (some (.int (bI false))) L h) : Rn X nc ns pc lv [.int (nI 0)] L h := R_zret C CR (Or.inl rfl) h1 h2 d hp
theorem R_zret1 (C : Ok X cc own nL fr mc ms) {mc' ms' : Nat} {post : Option Value → Ly → Hp → Prop} (CR : OkR X (some .boolean) mc' ms' post) (h1 : nc ≤ mc') (h2 : ns ≤ ms') (d : decode cc pc = .ok (.ireturn, 1)) (hp : post (some (.int (bI true))) L h) : Rn X nc ns pc lv [.int (nI 1)] L h := R_zret C CR (Or.inr rfl) h1 h2 d hp
theorem R_zretB (C : Ok X cc own nL fr mc ms) {mc' ms' : Nat} {post : Option Value → Ly → Hp → Prop} {b : Bool} (CR : OkR X (some .boolean) mc' ms' post) (h1 : nc ≤ mc') (h2 : ns ≤ ms') (d : decode cc pc = .ok (.ireturn, 1)) (hp : post (some (.int (bI b))) L h) : Rn X nc ns pc lv [.int (bI b)] L h := R_zret C CR (bI_01 b) h1 h2 d hp
end Nat10
