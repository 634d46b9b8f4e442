/-! THE CLASS's state, pure: the log, and a replica -/
def LgS : Type := Nat × Nat × (Nat → Nat) × (Nat → Nat) × (Nat → Nat) × (Nat → Nat) × (Nat → Nat) × (Nat → Nat)
def LgS.cnt (x : LgS) : Nat := x.1
def LgS.el (x : LgS) : Nat := x.2.1
def LgS.iss (x : LgS) : Nat → Nat := x.2.2.1
def LgS.stp (x : LgS) : Nat → Nat := x.2.2.2.1
def LgS.tgt (x : LgS) : Nat → Nat := x.2.2.2.2.1
def LgS.chr (x : LgS) : Nat → Nat := x.2.2.2.2.2.1
def LgS.clk (x : LgS) : Nat → Nat := x.2.2.2.2.2.2.1
def LgS.ord (x : LgS) : Nat → Nat := x.2.2.2.2.2.2.2
def LgS.s_cnt (x : LgS) (v : Nat) : LgS := (v, x.el, x.iss, x.stp, x.tgt, x.chr, x.clk, x.ord)
def LgS.s_el (x : LgS) (v : Nat) : LgS := (x.cnt, v, x.iss, x.stp, x.tgt, x.chr, x.clk, x.ord)
def LgS.s_iss (x : LgS) (v : Nat → Nat) : LgS := (x.cnt, x.el, v, x.stp, x.tgt, x.chr, x.clk, x.ord)
def LgS.s_stp (x : LgS) (v : Nat → Nat) : LgS := (x.cnt, x.el, x.iss, v, x.tgt, x.chr, x.clk, x.ord)
def LgS.s_tgt (x : LgS) (v : Nat → Nat) : LgS := (x.cnt, x.el, x.iss, x.stp, v, x.chr, x.clk, x.ord)
def LgS.s_chr (x : LgS) (v : Nat → Nat) : LgS := (x.cnt, x.el, x.iss, x.stp, x.tgt, v, x.clk, x.ord)
def LgS.s_clk (x : LgS) (v : Nat → Nat) : LgS := (x.cnt, x.el, x.iss, x.stp, x.tgt, x.chr, v, x.ord)
def LgS.s_ord (x : LgS) (v : Nat → Nat) : LgS := (x.cnt, x.el, x.iss, x.stp, x.tgt, x.chr, x.clk, v)
def RpS : Type := Nat × (Nat → Nat → Nat) × (Nat → Bool) × (Nat → Bool) × (Nat → Bool) × (Nat → Bool) × (Nat → Nat) × Nat × Nat × Nat × Nat
def RpS.self (y : RpS) : Nat := y.1
def RpS.seen (y : RpS) : Nat → Nat → Nat := y.2.1
def RpS.wts (y : RpS) : Nat → Bool := y.2.2.1
def RpS.ers (y : RpS) : Nat → Bool := y.2.2.2.1
def RpS.kpt (y : RpS) : Nat → Bool := y.2.2.2.2.1
def RpS.mgo (y : RpS) : Nat → Bool := y.2.2.2.2.2.1
def RpS.txt (y : RpS) : Nat → Nat := y.2.2.2.2.2.2.1
def RpS.tl (y : RpS) : Nat := y.2.2.2.2.2.2.2.1
def RpS.kc (y : RpS) : Nat := y.2.2.2.2.2.2.2.2.1
def RpS.wc (y : RpS) : Nat := y.2.2.2.2.2.2.2.2.2.1
def RpS.gs (y : RpS) : Nat := y.2.2.2.2.2.2.2.2.2.2
def RpS.s_seen (y : RpS) (v : Nat → Nat → Nat) : RpS := (y.self, v, y.wts, y.ers, y.kpt, y.mgo, y.txt, y.tl, y.kc, y.wc, y.gs)
def RpS.s_wts (y : RpS) (v : Nat → Bool) : RpS := (y.self, y.seen, v, y.ers, y.kpt, y.mgo, y.txt, y.tl, y.kc, y.wc, y.gs)
def RpS.s_ers (y : RpS) (v : Nat → Bool) : RpS := (y.self, y.seen, y.wts, v, y.kpt, y.mgo, y.txt, y.tl, y.kc, y.wc, y.gs)
def RpS.s_kpt (y : RpS) (v : Nat → Bool) : RpS := (y.self, y.seen, y.wts, y.ers, v, y.mgo, y.txt, y.tl, y.kc, y.wc, y.gs)
def RpS.s_mgo (y : RpS) (v : Nat → Bool) : RpS := (y.self, y.seen, y.wts, y.ers, y.kpt, v, y.txt, y.tl, y.kc, y.wc, y.gs)
def RpS.s_txt (y : RpS) (v : Nat → Nat) : RpS := (y.self, y.seen, y.wts, y.ers, y.kpt, y.mgo, v, y.tl, y.kc, y.wc, y.gs)
def RpS.s_tl (y : RpS) (v : Nat) : RpS := (y.self, y.seen, y.wts, y.ers, y.kpt, y.mgo, y.txt, v, y.kc, y.wc, y.gs)
def RpS.s_kc (y : RpS) (v : Nat) : RpS := (y.self, y.seen, y.wts, y.ers, y.kpt, y.mgo, y.txt, y.tl, v, y.wc, y.gs)
def RpS.s_wc (y : RpS) (v : Nat) : RpS := (y.self, y.seen, y.wts, y.ers, y.kpt, y.mgo, y.txt, y.tl, y.kc, v, y.gs)
def RpS.s_gs (y : RpS) (v : Nat) : RpS := (y.self, y.seen, y.wts, y.ers, y.kpt, y.mgo, y.txt, y.tl, y.kc, y.wc, v)
def okL (x : LgS) : Prop := x.cnt ≤ 100 ∧ x.el ≤ 100 ∧ ∀ k, x.iss k < 3 ∧ x.stp k < 1000 ∧ x.tgt k ≤ 100 ∧ x.chr k < 65536 ∧ x.clk k < 1000 ∧ x.ord k < 100
theorem okL.n {x : LgS} (h : okL x) : x.cnt ≤ 100 := h.1
theorem okL.e {x : LgS} (h : okL x) : x.el ≤ 100 := h.2.1
theorem okL.iss3 {x : LgS} (h : okL x) (k : Nat) : x.iss k < 3 := (h.2.2 k).1
theorem okL.iss {x : LgS} (h : okL x) (k : Nat) : x.iss k < 2 ^ 31 := Nat.lt_trans (h.2.2 k).1 (by decide)
theorem okL.stp {x : LgS} (h : okL x) (k : Nat) : x.stp k < 2 ^ 31 := Nat.lt_trans (h.2.2 k).2.1 (by decide)
theorem okL.tgt {x : LgS} (h : okL x) (k : Nat) : x.tgt k < 2 ^ 31 := Nat.lt_of_le_of_lt (h.2.2 k).2.2.1 (by decide)
theorem okL.tgt100 {x : LgS} (h : okL x) (k : Nat) : x.tgt k ≤ 100 := (h.2.2 k).2.2.1
theorem okL.chr {x : LgS} (h : okL x) (k : Nat) : x.chr k < 2 ^ 31 := Nat.lt_trans (h.2.2 k).2.2.2.1 (by decide)
theorem okL.clk {x : LgS} (h : okL x) (k : Nat) : x.clk k < 2 ^ 31 := Nat.lt_trans (h.2.2 k).2.2.2.2.1 (by decide)
theorem okL.ord {x : LgS} (h : okL x) (k : Nat) : x.ord k < 2 ^ 31 := Nat.lt_trans (h.2.2 k).2.2.2.2.2 (by decide)
theorem okL.ord100 {x : LgS} (h : okL x) (k : Nat) : x.ord k < 100 := (h.2.2 k).2.2.2.2.2
def okR (y : RpS) : Prop := y.self < 3 ∧ y.tl ≤ 100 ∧ y.kc < 1000 ∧ y.wc < 1000 ∧ y.gs < 1000 ∧ (∀ i j, y.seen i j < 1000) ∧ ∀ k, y.txt k < 100
theorem okR.self {y : RpS} (h : okR y) : y.self < 3 := h.1
theorem okR.tl {y : RpS} (h : okR y) : y.tl ≤ 100 := h.2.1
theorem okR.seen {y : RpS} (h : okR y) (i j : Nat) : y.seen i j < 2 ^ 31 := Nat.lt_trans (h.2.2.2.2.2.1 i j) (by decide)
theorem okR.txt {y : RpS} (h : okR y) (k : Nat) : y.txt k < 2 ^ 31 := Nat.lt_trans (h.2.2.2.2.2.2 k) (by decide)
theorem okR.txt100 {y : RpS} (h : okR y) (k : Nat) : y.txt k < 100 := h.2.2.2.2.2.2 k
/-- an operation's place in line -/
def plc (x : LgS) (o : Nat) : Nat := x.clk (o * 3 + x.iss o)
def gofL (x : LgS) (a b : Nat) : Bool := decide (x.stp b < x.stp a ∨ (x.stp a = x.stp b ∧ x.iss b < x.iss a))
def hasL (x : LgS) (y : RpS) (o : Nat) : Bool := decide (plc x o ≤ y.seen y.self (x.iss o))
def setL (x : LgS) (y : RpS) (o : Nat) : Bool := andF (fun i => decide (plc x o ≤ y.seen i (x.iss o))) true 3
def rdyL (x : LgS) (y : RpS) (o : Nat) : Bool := andF (fun j => decide (j = x.iss o ∨ x.clk (o * 3 + j) ≤ y.seen y.self j)) (decide (y.seen y.self (x.iss o) = plc x o - 1)) 3
def hldL (x : LgS) (y : RpS) (o : Nat) : Bool := !decide (x.chr o = 0) && (!decide (x.tgt o = 0) && (hasL x y o && !setL x y o))
def befR (y : RpS) (k : Nat) : Nat := if k = 0 then 0 else y.txt (k - 1) + 1
