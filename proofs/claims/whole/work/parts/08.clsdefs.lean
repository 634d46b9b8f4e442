/-! THE CLASS's state, pure: the log, and a replica -/
def LS : Type := Nat × Nat × (Nat → Nat) × (Nat → Nat) × (Nat → Nat) × (Nat → Nat) × (Nat → Nat) × (Nat → Nat)
def LS.cnt (x : LS) : Nat := x.1
def LS.el (x : LS) : Nat := x.2.1
def LS.iss (x : LS) : Nat → Nat := x.2.2.1
def LS.stp (x : LS) : Nat → Nat := x.2.2.2.1
def LS.tgt (x : LS) : Nat → Nat := x.2.2.2.2.1
def LS.chr (x : LS) : Nat → Nat := x.2.2.2.2.2.1
def LS.clk (x : LS) : Nat → Nat := x.2.2.2.2.2.2.1
def LS.ord (x : LS) : Nat → Nat := x.2.2.2.2.2.2.2
def LS.s_cnt (x : LS) (v : Nat) : LS := (v, x.el, x.iss, x.stp, x.tgt, x.chr, x.clk, x.ord)
def LS.s_el (x : LS) (v : Nat) : LS := (x.cnt, v, x.iss, x.stp, x.tgt, x.chr, x.clk, x.ord)
def LS.s_iss (x : LS) (v : Nat → Nat) : LS := (x.cnt, x.el, v, x.stp, x.tgt, x.chr, x.clk, x.ord)
def LS.s_stp (x : LS) (v : Nat → Nat) : LS := (x.cnt, x.el, x.iss, v, x.tgt, x.chr, x.clk, x.ord)
def LS.s_tgt (x : LS) (v : Nat → Nat) : LS := (x.cnt, x.el, x.iss, x.stp, v, x.chr, x.clk, x.ord)
def LS.s_chr (x : LS) (v : Nat → Nat) : LS := (x.cnt, x.el, x.iss, x.stp, x.tgt, v, x.clk, x.ord)
def LS.s_clk (x : LS) (v : Nat → Nat) : LS := (x.cnt, x.el, x.iss, x.stp, x.tgt, x.chr, v, x.ord)
def LS.s_ord (x : LS) (v : Nat → Nat) : LS := (x.cnt, x.el, x.iss, x.stp, x.tgt, x.chr, x.clk, v)
def RS : Type := Nat × (Nat → Nat → Nat) × (Nat → Bool) × (Nat → Bool) × (Nat → Bool) × (Nat → Bool) × (Nat → Nat) × Nat × Nat × Nat × Nat
def RS.self (y : RS) : Nat := y.1
def RS.seen (y : RS) : Nat → Nat → Nat := y.2.1
def RS.wts (y : RS) : Nat → Bool := y.2.2.1
def RS.ers (y : RS) : Nat → Bool := y.2.2.2.1
def RS.kpt (y : RS) : Nat → Bool := y.2.2.2.2.1
def RS.mgo (y : RS) : Nat → Bool := y.2.2.2.2.2.1
def RS.txt (y : RS) : Nat → Nat := y.2.2.2.2.2.2.1
def RS.tl (y : RS) : Nat := y.2.2.2.2.2.2.2.1
def RS.kc (y : RS) : Nat := y.2.2.2.2.2.2.2.2.1
def RS.wc (y : RS) : Nat := y.2.2.2.2.2.2.2.2.2.1
def RS.gs (y : RS) : Nat := y.2.2.2.2.2.2.2.2.2.2
def RS.s_seen (y : RS) (v : Nat → Nat → Nat) : RS := (y.self, v, y.wts, y.ers, y.kpt, y.mgo, y.txt, y.tl, y.kc, y.wc, y.gs)
def RS.s_wts (y : RS) (v : Nat → Bool) : RS := (y.self, y.seen, v, y.ers, y.kpt, y.mgo, y.txt, y.tl, y.kc, y.wc, y.gs)
def RS.s_ers (y : RS) (v : Nat → Bool) : RS := (y.self, y.seen, y.wts, v, y.kpt, y.mgo, y.txt, y.tl, y.kc, y.wc, y.gs)
def RS.s_kpt (y : RS) (v : Nat → Bool) : RS := (y.self, y.seen, y.wts, y.ers, v, y.mgo, y.txt, y.tl, y.kc, y.wc, y.gs)
def RS.s_mgo (y : RS) (v : Nat → Bool) : RS := (y.self, y.seen, y.wts, y.ers, y.kpt, v, y.txt, y.tl, y.kc, y.wc, y.gs)
def RS.s_txt (y : RS) (v : Nat → Nat) : RS := (y.self, y.seen, y.wts, y.ers, y.kpt, y.mgo, v, y.tl, y.kc, y.wc, y.gs)
def RS.s_tl (y : RS) (v : Nat) : RS := (y.self, y.seen, y.wts, y.ers, y.kpt, y.mgo, y.txt, v, y.kc, y.wc, y.gs)
def RS.s_kc (y : RS) (v : Nat) : RS := (y.self, y.seen, y.wts, y.ers, y.kpt, y.mgo, y.txt, y.tl, v, y.wc, y.gs)
def RS.s_wc (y : RS) (v : Nat) : RS := (y.self, y.seen, y.wts, y.ers, y.kpt, y.mgo, y.txt, y.tl, y.kc, v, y.gs)
def RS.s_gs (y : RS) (v : Nat) : RS := (y.self, y.seen, y.wts, y.ers, y.kpt, y.mgo, y.txt, y.tl, y.kc, y.wc, v)
def okL (x : LS) : Prop := x.cnt ≤ 100 ∧ x.el ≤ 100 ∧ ∀ k, x.iss k < 3 ∧ x.stp k < 1000 ∧ x.tgt k ≤ 100 ∧ x.chr k < 65536 ∧ x.clk k < 1000 ∧ x.ord k < 100
theorem okL.n {x : LS} (h : okL x) : x.cnt ≤ 100 := h.1
theorem okL.e {x : LS} (h : okL x) : x.el ≤ 100 := h.2.1
theorem okL.iss3 {x : LS} (h : okL x) (k : Nat) : x.iss k < 3 := (h.2.2 k).1
theorem okL.iss {x : LS} (h : okL x) (k : Nat) : x.iss k < 2 ^ 31 := Nat.lt_trans (h.2.2 k).1 (by decide)
theorem okL.stp {x : LS} (h : okL x) (k : Nat) : x.stp k < 2 ^ 31 := Nat.lt_trans (h.2.2 k).2.1 (by decide)
theorem okL.tgt {x : LS} (h : okL x) (k : Nat) : x.tgt k < 2 ^ 31 := Nat.lt_of_le_of_lt (h.2.2 k).2.2.1 (by decide)
theorem okL.tgt100 {x : LS} (h : okL x) (k : Nat) : x.tgt k ≤ 100 := (h.2.2 k).2.2.1
theorem okL.chr {x : LS} (h : okL x) (k : Nat) : x.chr k < 2 ^ 31 := Nat.lt_trans (h.2.2 k).2.2.2.1 (by decide)
theorem okL.clk {x : LS} (h : okL x) (k : Nat) : x.clk k < 2 ^ 31 := Nat.lt_trans (h.2.2 k).2.2.2.2.1 (by decide)
theorem okL.ord {x : LS} (h : okL x) (k : Nat) : x.ord k < 2 ^ 31 := Nat.lt_trans (h.2.2 k).2.2.2.2.2 (by decide)
theorem okL.ord100 {x : LS} (h : okL x) (k : Nat) : x.ord k < 100 := (h.2.2 k).2.2.2.2.2
def okR (y : RS) : Prop := y.self < 3 ∧ y.tl ≤ 100 ∧ y.kc < 1000 ∧ y.wc < 1000 ∧ y.gs < 1000 ∧ (∀ i j, y.seen i j < 1000) ∧ ∀ k, y.txt k < 100
theorem okR.self {y : RS} (h : okR y) : y.self < 3 := h.1
theorem okR.tl {y : RS} (h : okR y) : y.tl ≤ 100 := h.2.1
theorem okR.seen {y : RS} (h : okR y) (i j : Nat) : y.seen i j < 2 ^ 31 := Nat.lt_trans (h.2.2.2.2.2.1 i j) (by decide)
theorem okR.txt {y : RS} (h : okR y) (k : Nat) : y.txt k < 2 ^ 31 := Nat.lt_trans (h.2.2.2.2.2.2 k) (by decide)
theorem okR.txt100 {y : RS} (h : okR y) (k : Nat) : y.txt k < 100 := h.2.2.2.2.2.2 k
/-- an operation's place in line -/
def plc (x : LS) (o : Nat) : Nat := x.clk (o * 3 + x.iss o)
def gofL (x : LS) (a b : Nat) : Bool := decide (x.stp b < x.stp a ∨ (x.stp a = x.stp b ∧ x.iss b < x.iss a))
def hasL (x : LS) (y : RS) (o : Nat) : Bool := decide (plc x o ≤ y.seen y.self (x.iss o))
def setL (x : LS) (y : RS) (o : Nat) : Bool := decide (∀ i, i < 3 → plc x o ≤ y.seen i (x.iss o))
def rdyL (x : LS) (y : RS) (o : Nat) : Bool := decide (y.seen y.self (x.iss o) = plc x o - 1 ∧ ∀ j, j < 3 → j = x.iss o ∨ x.clk (o * 3 + j) ≤ y.seen y.self j)
def hldL (x : LS) (y : RS) (o : Nat) : Bool := !decide (x.chr o = 0) && (!decide (x.tgt o = 0) && (hasL x y o && !setL x y o))
def befR (y : RS) (k : Nat) : Nat := if k = 0 then 0 else y.txt (k - 1) + 1
