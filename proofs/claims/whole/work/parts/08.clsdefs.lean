/-! THE CLASS's state, pure: the log, and a replica -/
def LgS : Type := Nat → Nat → Nat
def LgS.cnt (x : LgS) : Nat := x 0 0
def LgS.el (x : LgS) : Nat := x 1 0
def LgS.iss (x : LgS) : Nat → Nat := x 2
def LgS.stp (x : LgS) : Nat → Nat := x 3
def LgS.tgt (x : LgS) : Nat → Nat := x 4
def LgS.chr (x : LgS) : Nat → Nat := x 5
def LgS.clk (x : LgS) : Nat → Nat := x 6
def LgS.ord (x : LgS) : Nat → Nat := x 7
def mkL (cnt el : Nat) (iss stp tgt chr clk ord : Nat → Nat) : LgS
  | 0 => fun _ => cnt
  | 1 => fun _ => el
  | 2 => iss
  | 3 => stp
  | 4 => tgt
  | 5 => chr
  | 6 => clk
  | _ => ord
def RpS : Type := (Nat → Nat → Nat) × (Nat → Nat → Bool)
def RpS.self (y : RpS) : Nat := y.1 0 0
def RpS.tl (y : RpS) : Nat := y.1 1 0
def RpS.kc (y : RpS) : Nat := y.1 2 0
def RpS.wc (y : RpS) : Nat := y.1 3 0
def RpS.gs (y : RpS) : Nat := y.1 4 0
def RpS.txt (y : RpS) : Nat → Nat := y.1 5
def RpS.seen (y : RpS) : Nat → Nat → Nat := fun i => y.1 (i + 6)
def RpS.wts (y : RpS) : Nat → Bool := y.2 0
def RpS.ers (y : RpS) : Nat → Bool := y.2 1
def RpS.kpt (y : RpS) : Nat → Bool := y.2 2
def RpS.mgo (y : RpS) : Nat → Bool := y.2 3
def mkR1 (self : Nat) (seen : Nat → Nat → Nat) (txt : Nat → Nat) (tl kc wc gs : Nat) : Nat → Nat → Nat
  | 0 => fun _ => self
  | 1 => fun _ => tl
  | 2 => fun _ => kc
  | 3 => fun _ => wc
  | 4 => fun _ => gs
  | 5 => txt
  | i + 6 => seen i
def mkR2 (wts ers kpt mgo : Nat → Bool) : Nat → Nat → Bool
  | 0 => wts
  | 1 => ers
  | 2 => kpt
  | _ => mgo
def mkR (self : Nat) (seen : Nat → Nat → Nat) (wts ers kpt mgo : Nat → Bool) (txt : Nat → Nat) (tl kc wc gs : Nat) : RpS := (mkR1 self seen txt tl kc wc gs, mkR2 wts ers kpt mgo)
def okL (x : LgS) : Prop := x.cnt ≤ 100 ∧ x.el ≤ 100 ∧ ∀ k, x.iss k < 3 ∧ x.stp k < 1000 ∧ x.tgt k ≤ 100 ∧ x.chr k < 65536 ∧ x.clk k < 1000 ∧ x.ord k < 100
theorem okL.n {x : LgS} (h : okL x) : x.cnt ≤ 100 := h.1
theorem okL.e {x : LgS} (h : okL x) : x.el ≤ 100 := h.2.1
theorem okL.iss3 {x : LgS} (h : okL x) (k : Nat) : x.iss k < 3 := (h.2.2 k).1
theorem okL.iss {x : LgS} (h : okL x) (k : Nat) : x.iss k < 2 ^ 31 := Nat.lt_trans (h.2.2 k).1 (by decide)
theorem okL.stp {x : LgS} (h : okL x) (k : Nat) : x.stp k < 2 ^ 31 := Nat.lt_trans (h.2.2 k).2.1 (by decide)
theorem okL.tgt {x : LgS} (h : okL x) (k : Nat) : x.tgt k < 2 ^ 31 := Nat.lt_of_le_of_lt (h.2.2 k).2.2.1 (by decide)
theorem okL.tgt100 {x : LgS} (h : okL x) (k : Nat) : x.tgt k ≤ 100 := (h.2.2 k).2.2.1
theorem okL.chr {x : LgS} (h : okL x) (k : Nat) : x.chr k < 2 ^ 31 := Nat.lt_trans (h.2.2 k).2.2.2.1 (by decide)
theorem okL.clk {x : LgS} (h : okL x) (k : Nat) : x.clk k < 2 ^ 31 := Nat.lt_trans (h.2.2 k).2.2.2.2.1 (by decide)
theorem okL.ord {x : LgS} (h : okL x) (k : Nat) : x.ord k < 2 ^ 31 := Nat.lt_trans (h.2.2 k).2.2.2.2.2 (by decide)
theorem okL.ord100 {x : LgS} (h : okL x) (k : Nat) : x.ord k < 100 := (h.2.2 k).2.2.2.2.2
def okR (y : RpS) : Prop := y.self < 3 ∧ y.tl ≤ 100 ∧ y.kc < 1000 ∧ y.wc < 1000 ∧ y.gs < 1000 ∧ (∀ i j, y.seen i j < 1000) ∧ ∀ k, y.txt k < 100
theorem okR.self {y : RpS} (h : okR y) : y.self < 3 := h.1
theorem okR.tl {y : RpS} (h : okR y) : y.tl ≤ 100 := h.2.1
theorem okR.seen {y : RpS} (h : okR y) (i j : Nat) : y.seen i j < 2 ^ 31 := Nat.lt_trans (h.2.2.2.2.2.1 i j) (by decide)
theorem okR.txt {y : RpS} (h : okR y) (k : Nat) : y.txt k < 2 ^ 31 := Nat.lt_trans (h.2.2.2.2.2.2 k) (by decide)
theorem okR.txt100 {y : RpS} (h : okR y) (k : Nat) : y.txt k < 100 := h.2.2.2.2.2.2 k
/-- an operation's place in line -/
def plc (x : LgS) (o : Nat) : Nat := x.clk (o * 3 + x.iss o)
def gofL (x : LgS) (a b : Nat) : Bool := decide (x.stp b < x.stp a ∨ (x.stp a = x.stp b ∧ x.iss b < x.iss a))
def hasL (x : LgS) (y : RpS) (o : Nat) : Bool := decide (plc x o ≤ y.seen y.self (x.iss o))
def setL (x : LgS) (y : RpS) (o : Nat) : Bool := andF (fun i => decide (plc x o ≤ y.seen i (x.iss o))) true 3
def rdyL (x : LgS) (y : RpS) (o : Nat) : Bool := andF (fun j => decide (j = x.iss o ∨ x.clk (o * 3 + j) ≤ y.seen y.self j)) (decide (y.seen y.self (x.iss o) = plc x o - 1)) 3
def hldL (x : LgS) (y : RpS) (o : Nat) : Bool := !decide (x.chr o = 0) && (!decide (x.tgt o = 0) && (hasL x y o && !setL x y o))
def befR (y : RpS) (k : Nat) : Nat := if k = 0 then 0 else y.txt (k - 1) + 1
