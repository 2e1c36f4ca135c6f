abbrev GS : Type := WS × PS × Bool × WS × Bool × WS
def gS (G : GS) : WS := G.1
def gP (G : GS) : PS := G.2.1
def gK0 (G : GS) : Bool := G.2.2.1
def gS0 (G : GS) : WS := G.2.2.2.1
def gK1 (G : GS) : Bool := G.2.2.2.2.1
def gS1 (G : GS) : WS := G.2.2.2.2.2
def mkS (G : GS) (σ : WS) : GS := (σ, G.2)
def mkP (G : GS) (p : PS) : GS := (G.1, p, G.2.2)
def InvG (G : GS) : Prop := Inv (gS G) ∧ InvP (gP G) ∧ (gK0 G = true → Inv (gS0 G)) ∧ (gK1 G = true → Inv (gS1 G))
def RCl (G : GS) (h : Hp) : Prop := RW 1 (gS G) h ∧ RP (gP G) h ∧ h 12 0 = bI (gK0 G) ∧ h 12 1 = bI (gK1 G) ∧ (gK0 G = true → RW 53 (gS0 G) h) ∧ (gK1 G = true → RW 63 (gS1 G) h)
def FrC (h h' : Hp) : Prop := ∀ a, 73 ≤ a → h' a = h a
def FrS (h h' : Hp) : Prop := ∀ a, a < 15 ∨ 52 < a → h' a = h a
theorem FrS.c {h h' : Hp} (F : FrS h h') : FrC h h' := fun a ha => F a (by omega)
theorem FrS.rf {h : Hp} : FrS h h := fun _ _ => rfl
theorem FrS.tr {h1 h2 h3 : Hp} (F : FrS h1 h2) (G : FrS h2 h3) : FrS h1 h3 := fun a ha => (G a ha).trans (F a ha)
theorem FrE.s {h h' : Hp} (F : FrE h h') : FrS h h' := fun a ha => F a (by omega)
theorem FrS.rw {h h' : Hp} {σ : WS} (F : FrS h h') (R : RW 1 σ h) : RW 1 σ h' := RWf (fun a _ h2 => F a (by omega)) R
theorem FrS.rp {h h' : Hp} {p : PS} (F : FrS h h') (R : RP p h) : RP p h' := ⟨by rw [F 13 (by omega)]; exact R.1, fun k hk => by rw [F 14 (by omega)]; exact R.2 k hk⟩
theorem FrS.up {h h' : Hp} {a k : Nat} {v : Int32} (F : FrS h h') (ha : 15 ≤ a) (hb : a ≤ 52) : FrS h (up2 h' a k v) := fun b hb2 => by rw [up2_row (by omega)]; exact F b hb2
theorem FrS.vup {h h' : Hp} {a : Nat} {f : Nat → Int32} (F : FrS h h') (ha : 15 ≤ a) (hb : a ≤ 52) : FrS h (va_up h' a f) := fun b hb2 => by rw [vup_row (by omega)]; exact F b hb2
theorem RCl.s {G : GS} {h h' : Hp} (F : FrS h h') (R : RCl G h) : RCl G h' :=
  ⟨F.rw R.1, F.rp R.2.1, by rw [F 12 (by omega)]; exact R.2.2.1, by rw [F 12 (by omega)]; exact R.2.2.2.1, fun k => RWf (fun a h1 h2 => F a (by omega)) (R.2.2.2.2.1 k), fun k => RWf (fun a h1 h2 => F a (by omega)) (R.2.2.2.2.2 k)⟩
theorem FrC.rf {h : Hp} : FrC h h := fun _ _ => rfl
theorem FrC.tr {h1 h2 h3 : Hp} (F : FrC h1 h2) (G : FrC h2 h3) : FrC h1 h3 := fun a ha => (G a ha).trans (F a ha)
theorem FrC.up {h h' : Hp} {a k : Nat} {v : Int32} (F : FrC h h') (hb : a < 73) : FrC h (up2 h' a k v) := fun b hb2 => by rw [up2_row (by omega)]; exact F b hb2
theorem RCl.wood {G : GS} {h h' : Hp} {σ : WS} (R : RCl G h) (Rw : RW 1 σ h') (F : ∀ a, a = 12 ∨ a = 13 ∨ a = 14 ∨ 52 < a → h' a = h a) : RCl (mkS G σ) h' :=
  ⟨Rw, ⟨by rw [F 13 (by omega)]; exact R.2.1.1, fun k hk => by rw [F 14 (by omega)]; exact R.2.1.2 k hk⟩, by rw [F 12 (by omega)]; exact R.2.2.1, by rw [F 12 (by omega)]; exact R.2.2.2.1, fun k => RWf (fun a h1 h2 => F a (by omega)) (R.2.2.2.2.1 k), fun k => RWf (fun a h1 h2 => F a (by omega)) (R.2.2.2.2.2 k)⟩
theorem RCl.pad {G : GS} {h h' : Hp} {p : PS} (R : RCl G h) (Rp : RP p h') (F : ∀ a, a ≠ 13 → a ≠ 14 → h' a = h a) : RCl (mkP G p) h' :=
  ⟨RWf (fun a h1 h2 => F a (by omega) (by omega)) R.1, Rp, by rw [F 12 (by omega) (by omega)]; exact R.2.2.1, by rw [F 12 (by omega) (by omega)]; exact R.2.2.2.1, fun k => RWf (fun a h1 h2 => F a (by omega) (by omega)) (R.2.2.2.2.1 k), fun k => RWf (fun a h1 h2 => F a (by omega) (by omega)) (R.2.2.2.2.2 k)⟩
def setA (σ : WS) (j k v : Nat) : WS := (σ.1, σ.2.1, σ.2.2.1, fun a b => if a = j ∧ b = k then v else sA σ a b)
def plz (σ : WS) (n : Nat) : WS := (n, 0, 0, fun j k => if j = 0 then 0 else if j = 1 then 9 else if j = 2 then 9 else if j = 3 then 0 else if j = 4 then k else sA σ j k)
abbrev cl (v : Int32) : Nat := v.toNatClampNeg
def aHuts (G : GS) (v : Int32) : Int32 := if win v (nI 1) (nI 5) then nI (sN (gS G)) else -2
def nHuts (G : GS) (v : Int32) : GS := if win v (nI 1) (nI 5) then mkS G (plz (gS G) (cl v)) else G
def moz (w : Nat) : Nat := if w = 1 then 30 else if w = 3 then 24 else 3
def hasH (σ : WS) (v : Int32) : Bool := win v (nI 0) (nI (sN σ - 1))
def okHut (σ : WS) (hu wh v : Int32) : Bool := hasH σ hu && (win wh (nI 0) (nI 3) && win v (nI 0) (nI (moz (cl wh)))) && !(decide (cl wh = 3) && tkz σ (cl v) (cl hu))
def arH (w : Nat) : Nat := if w = 0 then 0 else if w = 1 then 2 else if w = 2 then 3 else 4
def aHut (G : GS) (hu wh v : Int32) : Int32 := if hasH (gS G) hu then (if win wh (nI 0) (nI 3) && win v (nI 0) (nI (moz (cl wh))) then (if decide (cl wh = 3) && tkz (gS G) (cl v) (cl hu) then -3 else nI (sA (gS G) (arH (cl wh)) (cl hu))) else -2) else -1
def alz (σ : WS) (hu wh v : Nat) : WS := setA (if wh = 1 then setA σ 1 hu v else σ) (arH wh) hu v
def nHut (G : GS) (hu wh v : Int32) : GS := if okHut (gS G) hu wh v then mkS G (alz (gS G) (cl hu) (cl wh) (cl v)) else G
def aSay (G : GS) (v : Int32) : Int32 := if win v (nI 33) (nI 126) then (if (gP G).1 < 60 then nI ((gP G).1 + 1) else -4) else -2
def nSay (G : GS) (v : Int32) : GS := if win v (nI 33) (nI 126) && decide ((gP G).1 < 60) then mkP G ((gP G).1 + 1, updN (gP G).2 (gP G).1 (cl v)) else G
def aWipe (G : GS) : Int32 := nI (gP G).1
def nWipe (G : GS) : GS := mkP G (0, (gP G).2)
def aFault (G : GS) (v : Int32) : Int32 := if win v (nI 0) (nI 1) then (if cl v = 0 then spz (sN (gS G)) (gP G).1 (gP G).2 else evz (sN (gS G)) (gP G).1 (gP G).2) else -2
def setW (σ : WS) (w : Nat) (ps : Nat → Nat) : WS := (σ.1, sKn σ ||| 2 ^ w, σ.2.2.1, fun a b => if a = 5 ∧ 5 * w ≤ b ∧ b < 5 * w + sN σ then ps (b - 5 * w) - 48 else sA σ a b)
def okW (G : GS) (v : Int32) : Bool := win v (nI 0) (nI 5) && decide (spz (sN (gS G)) (gP G).1 (gP G).2 = -6)
def aWord (G : GS) (v : Int32) : Int32 := if win v (nI 0) (nI 5) then (if spz (sN (gS G)) (gP G).1 (gP G).2 = -6 then nI (pcz (sKn (gS G) ||| 2 ^ cl v)) else -5) else -1
def nWord (G : GS) (v : Int32) : GS := if okW G v then (setW (gS G) (cl v) (gP G).2, (0, (gP G).2), G.2.2) else G
def clz (kn w : Nat) : Nat := if kn.testBit w then kn - 2 ^ w else kn
theorem clz_ok : ∀ kn, kn < 64 → ∀ w, w < 6 → nI kn &&& (nI (1 * 2 ^ w) ^^^ (-1)) = nI (clz kn w) := by decide +kernel
theorem clz_lt : ∀ kn, kn < 64 → ∀ w, w < 6 → clz kn w < 64 := by decide +kernel
theorem orz_lt : ∀ kn, kn < 64 → ∀ w, w < 6 → kn ||| 2 ^ w < 64 := by decide +kernel
def aUnword (G : GS) (v : Int32) : Int32 := if kwz (sKn (gS G)) v then nI (pcz (clz (sKn (gS G)) (cl v))) else -1
def nUnword (G : GS) (v : Int32) : GS := if kwz (sKn (gS G)) v then mkS G ((gS G).1, clz (sKn (gS G)) (cl v), (gS G).2.2) else G
def evG (G : GS) : EV × Nat × Nat := evr (gS G) (evL (gP G).2 (gP G).1 0 none) (ev0 (gS G)) 0
def okE (G : GS) : Bool := decide (evS (sN (gS G)) (gP G).2 (gP G).1 0 none = none)
def aJudge (G : GS) (v : Int32) : Int32 := if win v (nI 0) (nI 3) then (if okE G then (if cl v = 0 then (if (evG G).2.2 = 0 then -6 else nI (evG G).2.1) else if cl v = 1 then (if (evG G).2.2 = 0 then -6 else nI (evG G).2.2) else if (evG G).2.2 = 0 then (if cl v = 2 then nI (evG G).1.2.2.1 else nI (evG G).1.2.2.2.2) else -3) else -5) else -2
def aBehind (G : GS) (hu v : Int32) : Int32 := if hasH (gS G) hu then (if win v (nI 0) (nI 1) then (if okE G then (if (evG G).2.2 = 0 then (if cl v = 0 then nI ((evG G).1.1 (cl hu)) else nI ((evG G).1.2.1 (cl hu))) else -3) else -5) else -2) else -1
def aDone (G : GS) : Int32 := if okE G then (if (evG G).2.2 = 0 then nI (evG G).2.1 else -3) else -5
def dnz (σ : WS) (e : EV) : WS := (σ.1, σ.2.1, σ.2.2.1, fun j k => if j = 0 ∧ k < 5 then e.1 k else if j = 1 ∧ k < 5 then e.2.1 k else sA σ j k)
def nDone (G : GS) : GS := if okE G && decide ((evG G).2.2 = 0) then (dnz (gS G) (evG G).1, (0, (gP G).2), G.2.2) else G
def aState (G : GS) (hu v : Int32) : Int32 := if hasH (gS G) hu then (if win v (nI 0) (nI 1) then (if cl v = 0 then nI (sA (gS G) 0 (cl hu)) else nI (sA (gS G) 1 (cl hu))) else -2) else -1
def brz (σ : WS) (w k : Nat) : Bool := decide (qz σ w k (sA σ 0 k) = 0) || decide (sA σ 1 k < qz σ w k (sA σ 0 k))
def aBare (G : GS) (w hu : Int32) : Int32 := if kwz (sKn (gS G)) w && hasH (gS G) hu then bI (brz (gS G) (cl w) (cl hu)) else -1
def aSeen (G : GS) (hu ev wy' : Int32) : Int32 := if hasH (gS G) hu then (if win ev (nI 0) (nI 30) && win wy' (nI 0) (nI 3) then (if sSg (gS G) < 6 then nI (sSg (gS G) + 1) else -4) else -2) else -1
def sez (σ : WS) (a b c : Nat) : WS := (σ.1, σ.2.1, sSg σ + 1, sA (setA (setA (setA σ 6 (sSg σ) a) 7 (sSg σ) b) 8 (sSg σ) c))
def nSeen (G : GS) (hu ev wy' : Int32) : GS := if hasH (gS G) hu && (win ev (nI 0) (nI 30) && win wy' (nI 0) (nI 3)) && decide (sSg (gS G) < 6) then mkS G (sez (gS G) (cl hu) (cl ev) (cl wy')) else G
def aForget (G : GS) : Int32 := nI (sSg (gS G))
def nForget (G : GS) : GS := mkS G ((gS G).1, (gS G).2.1, 0, (gS G).2.2.2)
def aImage (v : Int32) : Int32 := if win v (nI 0) (nI 1) then 1 else -2
def nImage (G : GS) (v : Int32) : GS := if win v (nI 0) (nI 1) then (if cl v = 0 then (gS G, gP G, true, gS G, gK1 G, gS1 G) else (gS G, gP G, gK0 G, gS0 G, true, gS G)) else G
def kpt (G : GS) (k : Nat) : Bool := if k = 0 then gK0 G else gK1 G
def aRestore (G : GS) (v : Int32) : Int32 := if win v (nI 0) (nI 1) then (if kpt G (cl v) then 1 else -3) else -2
def nRestore (G : GS) (v : Int32) : GS := if win v (nI 0) (nI 1) && kpt G (cl v) then mkS G (if cl v = 0 then gS0 G else gS1 G) else G
