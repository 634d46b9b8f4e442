/-! The class's methods that write: what they do, pure -/
def shU (ord : Nat → Nat) (el i : Nat) : Nat → Nat := fun j => if i < j ∧ j ≤ el then ord (j - 1) else ord j
theorem shU_el (ord : Nat → Nat) (el : Nat) : shU ord el el = ord := by
  funext j
  unfold shU
  rw [if_neg (by omega)]
theorem shU_lo {ord : Nat → Nat} {el i j : Nat} (h : j ≤ i) : shU ord el i j = ord j := by
  unfold shU
  rw [if_neg (by omega)]
theorem shU_step {ord : Nat → Nat} {el i : Nat} (h1 : 0 < i) (h2 : i ≤ el) : va_up (shU ord el i) i (shU ord el i (i - 1)) = shU ord el (i - 1) := by
  rw [shU_lo (show i - 1 ≤ i by omega)]
  funext j
  unfold va_up shU
  by_cases hj : j = i
  · rw [if_pos hj, if_pos (by omega), hj]
  · rw [if_neg hj]
    by_cases hq : i < j ∧ j ≤ el
    · rw [if_pos hq, if_pos (by omega)]
    · rw [if_neg hq, if_neg (by omega)]
theorem shU_lt {ord : Nat → Nat} {el B : Nat} (h : ∀ k, ord k < B) (i : Nat) : ∀ k, shU ord el i k < B := by
  intro k
  unfold shU
  split <;> exact h _
/-- where the places behind t begin -/
def ibP (x : LgS) (t ib : Nat) : Prop := (t = 0 ∧ ib = 0) ∨ ∃ i, i < x.el ∧ (∀ k, k < i → x.ord k + 1 ≠ t) ∧ x.ord i + 1 = t ∧ ib = i + 1
/-- the place of a new element e -/
def plP (x : LgS) (e ib k : Nat) : Prop := ibP x (x.tgt e) ib ∧ ib ≤ k ∧ k ≤ x.el ∧ (∀ j, ib ≤ j → j < k → gofL x (x.ord j) e = true) ∧ (k < x.el → gofL x (x.ord k) e = false)
def pioL (x : LgS) (k e : Nat) : LgS := mkL x.cnt (x.el + 1) x.iss x.stp x.tgt x.chr x.clk (va_up (shU x.ord x.el k) k e)
theorem okL.iss0 {x : LgS} (h : okL x) (k : Nat) : x.iss k < 3 := (h.2.2 k).1
theorem okL.stp3 {x : LgS} (h : okL x) (k : Nat) : x.stp k < 1000 := (h.2.2 k).2.1
theorem okL.chr5 {x : LgS} (h : okL x) (k : Nat) : x.chr k < 65536 := (h.2.2 k).2.2.2.1
theorem okL.clk3 {x : LgS} (h : okL x) (k : Nat) : x.clk k < 1000 := (h.2.2 k).2.2.2.2.1
theorem okL_mk {cnt el : Nat} {iss stp tgt chr clk ord : Nat → Nat} (h1 : cnt ≤ 100) (h2 : el ≤ 100) (h3 : ∀ k, iss k < 3) (h4 : ∀ k, stp k < 1000) (h5 : ∀ k, tgt k ≤ 100) (h6 : ∀ k, chr k < 65536) (h7 : ∀ k, clk k < 1000) (h8 : ∀ k, ord k < 100) : okL (mkL cnt el iss stp tgt chr clk ord) := ⟨h1, h2, fun k => ⟨h3 k, h4 k, h5 k, h6 k, h7 k, h8 k⟩⟩
theorem nI_max {a b : Nat} (ha : a < 2 ^ 31) (hb : b < 2 ^ 31) : (if nI a < nI b then nI b else nI a) = nI (max a b) := by
  by_cases h : a < b
  · rw [if_pos ((nI_ltI ha hb).mpr h), Nat.max_eq_right (by omega)]
  · rw [if_neg (fun q => h ((nI_ltI ha hb).mp q)), Nat.max_eq_left (by omega)]
def clkV (c : Nat → Nat) (o : Nat) (g : Nat → Nat) : Nat → Nat → Nat
  | 0 => c
  | j + 1 => va_up (clkV c o g j) (o * 3 + j) (g j)
theorem clkV_lt {c : Nat → Nat} {o B : Nat} {g : Nat → Nat} (hc : ∀ k, c k < B) (hg : ∀ j, g j < B) : ∀ j k, clkV c o g j k < B
  | 0 => hc
  | j + 1 => up_lt (clkV_lt hc hg j) (hg j)
theorem clkV_e {c : Nat → Nat} {o j v : Nat} {g : Nat → Nat} (h : g j = v) : va_up (clkV c o g j) (o * 3 + j) v = clkV c o g (j + 1) := by rw [← h]; rfl
/-- record, up to the order -/
def rec5 (x : LgS) (i s t ch : Nat) (f : Nat → Nat) : LgS := mkL (x.cnt + 1) x.el (va_up x.iss x.cnt i) (va_up x.stp x.cnt s) (va_up x.tgt x.cnt t) (va_up x.chr x.cnt ch) (clkV x.clk x.cnt (fun j => f j + if j = i then 1 else 0) 3) x.ord
def recL (x : LgS) (i s t ch : Nat) (f : Nat → Nat) (k : Nat) : LgS := if ch = 0 then rec5 x i s t ch f else pioL (rec5 x i s t ch f) k x.cnt
abbrev wLw (cc : Nat → ClassId) (a : Nat → Nat) (x : LgS) (rw_ : Nat) (f : Nat → Nat) : va_W := wL cc a x ++ [(rw_, .inl (cc 0, 3, .inl (fun k => nI (f k))))]
/-- a replica's rows of what is seen -/
def sU (s : Nat → Nat → Nat) (i : Nat) (g : Nat → Nat) : Nat → Nat → Nat → Nat
  | 0 => s
  | j + 1 => va_up (sU s i g j) i (va_up (sU s i g j i) j (g j))
theorem up2_lt {s : Nat → Nat → Nat} {i B : Nat} {f : Nat → Nat} (h : ∀ i j, s i j < B) (hf : ∀ j, f j < B) : ∀ i' j, va_up s i f i' j < B := by
  intro i' j
  unfold va_up
  split
  · exact hf j
  · exact h i' j
theorem sU_lt {s : Nat → Nat → Nat} {i B : Nat} {g : Nat → Nat} (h : ∀ i j, s i j < B) (hg : ∀ j, g j < B) : ∀ j i' k, sU s i g j i' k < B
  | 0 => h
  | j + 1 => up2_lt (sU_lt h hg j) (up_lt (sU_lt h hg j i) (hg j))
theorem set_seen {cc : Nat → ClassId} {a b : Nat → Nat} {x : LgS} {self : Nat} {seen : Nat → Nat → Nat} {wts ers kpt mgo : Nat → Bool} {txt : Nat → Nat} {tl kc wc gs i k v : Nat} (hi : i < 3) :
    (wLR cc a b x (mkR self seen wts ers kpt mgo txt tl kc wc gs)).set (9 + i) (b (2 + i), .inl (cc 0, 3, .inl (fun j => nI (va_up (seen i) k v j)))) = wLR cc a b x (mkR self (va_up seen i (va_up (seen i) k v)) wts ers kpt mgo txt tl kc wc gs) := by
  rcases (show i = 0 ∨ i = 1 ∨ i = 2 by omega) with rfl | rfl | rfl <;> rfl
def apSeen (x : LgS) (y : RpS) (o : Nat) : Nat → Nat → Nat := va_up (sU y.seen (x.iss o) (fun j => x.clk (o * 3 + j)) 3) y.self (va_up (sU y.seen (x.iss o) (fun j => x.clk (o * 3 + j)) 3 y.self) (x.iss o) (plc x o))
/-- apply(o) -/
def applyR (x : LgS) (y : RpS) (o : Nat) : RpS :=
  if x.chr o = 0 then mkR y.self (apSeen x y o) y.wts (va_up y.ers (x.tgt o - 1) true) y.kpt y.mgo y.txt y.tl y.kc y.wc (max y.gs (x.stp o))
  else mkR y.self (apSeen x y o) y.wts y.ers (va_up y.kpt o true) y.mgo y.txt y.tl (y.kc + 1) y.wc (max y.gs (x.stp o))
theorem okR.kc {y : RpS} (h : okR y) : y.kc < 1000 := h.2.2.1
theorem okR.wc {y : RpS} (h : okR y) : y.wc < 1000 := h.2.2.2.1
theorem okR.gs {y : RpS} (h : okR y) : y.gs < 1000 := h.2.2.2.2.1
theorem okR.seen3 {y : RpS} (h : okR y) (i j : Nat) : y.seen i j < 1000 := h.2.2.2.2.2.1 i j
theorem okR_mk {self : Nat} {seen : Nat → Nat → Nat} {wts ers kpt mgo : Nat → Bool} {txt : Nat → Nat} {tl kc wc gs : Nat} (h1 : self < 3) (h2 : tl ≤ 100) (h3 : kc < 1000) (h4 : wc < 1000) (h5 : gs < 1000) (h6 : ∀ i j, seen i j < 1000) (h7 : ∀ k, txt k < 100) : okR (mkR self seen wts ers kpt mgo txt tl kc wc gs) := ⟨h1, h2, h3, h4, h5, h6, h7⟩
/-- rewriteText, over the first i places -/
def rwF (x : LgS) (y : RpS) : Nat → Nat × (Nat → Nat)
  | 0 => (0, y.txt)
  | i + 1 => if hasL x y (x.ord i) = true ∧ y.ers (x.ord i) = false then ((rwF x y i).1 + 1, va_up (rwF x y i).2 (rwF x y i).1 (x.ord i)) else rwF x y i
theorem rwF_t {x : LgS} {y : RpS} {i : Nat} (h1 : hasL x y (x.ord i) = true) (h2 : y.ers (x.ord i) = false) : rwF x y (i + 1) = ((rwF x y i).1 + 1, va_up (rwF x y i).2 (rwF x y i).1 (x.ord i)) := by rw [rwF, if_pos ⟨h1, h2⟩]
theorem rwF_f1 {x : LgS} {y : RpS} {i : Nat} (h1 : hasL x y (x.ord i) = false) : rwF x y (i + 1) = rwF x y i := by rw [rwF, if_neg (fun q => by rw [h1] at q; cases q.1)]
theorem rwF_f2 {x : LgS} {y : RpS} {i : Nat} (h1 : y.ers (x.ord i) = true) : rwF x y (i + 1) = rwF x y i := by rw [rwF, if_neg (fun q => by rw [h1] at q; cases q.2)]
theorem rwF_le (x : LgS) (y : RpS) : ∀ i, (rwF x y i).1 ≤ i
  | 0 => Nat.le_refl 0
  | i + 1 => by
    have := rwF_le x y i
    unfold rwF
    split
    · show (rwF x y i).1 + 1 ≤ i + 1
      omega
    · omega
theorem rwF_lt {x : LgS} {y : RpS} (ok : okL x) (kr : okR y) : ∀ i k, (rwF x y i).2 k < 100
  | 0 => kr.txt100
  | i + 1 => by
    intro k
    have := rwF_lt ok kr i
    unfold rwF
    split
    · exact up_lt100 this (ok.ord100 i) k
    · exact this k
def rwR (x : LgS) (y : RpS) : RpS := mkR y.self y.seen y.wts y.ers y.kpt y.mgo (rwF x y x.el).2 (rwF x y x.el).1 y.kc y.wc y.gs
/-- receive(o) -/
def rcvR (x : LgS) (y : RpS) (o : Nat) : RpS := if hasL x y o = false ∧ y.wts o = false then mkR y.self y.seen (va_up y.wts o true) y.ers y.kpt y.mgo y.txt y.tl y.kc (y.wc + 1) y.gs else y
/-- markWhatMayGo -/
def mkG1 (x : LgS) (y : RpS) : Nat → Nat → Bool
  | 0 => y.mgo
  | o + 1 => if x.chr o = 0 ∧ setL x y o = true then va_up (va_up (mkG1 x y o) o false) (x.tgt o - 1) true else va_up (mkG1 x y o) o false
def mkG2 (x : LgS) (y : RpS) : Nat → Nat → Bool
  | 0 => mkG1 x y x.cnt
  | o + 1 => if hldL x y o = true then va_up (mkG2 x y o) (x.tgt o - 1) false else mkG2 x y o
def mgR (x : LgS) (y : RpS) : RpS := mkR y.self y.seen y.wts y.ers y.kpt (mkG2 x y x.cnt) y.txt y.tl y.kc y.wc y.gs
/-- dropErased, over the first o operations -/
def drF (g k : Nat → Bool) : Nat → (Nat → Bool) × Nat
  | 0 => (k, 0)
  | o + 1 => if g o = true ∧ (drF g k o).1 o = true then (va_up (drF g k o).1 o false, (drF g k o).2 + 1) else drF g k o
def drR (x : LgS) (y : RpS) : RpS := mkR y.self y.seen y.wts y.ers (drF (mkG2 x y x.cnt) y.kpt x.cnt).1 (mkG2 x y x.cnt) y.txt y.tl (y.kc - (drF (mkG2 x y x.cnt) y.kpt x.cnt).2) y.wc y.gs
/-- applyReady, over the first o operations -/
def wtR (y : RpS) (o : Nat) : RpS := mkR y.self y.seen (va_up y.wts o false) y.ers y.kpt y.mgo y.txt y.tl y.kc (y.wc - 1) y.gs
def aprF (x : LgS) (y : RpS) : Nat → RpS × Nat
  | 0 => (y, 0)
  | o + 1 => if (aprF x y o).1.wts o = true ∧ rdyL x (aprF x y o).1 o = true then (applyR x (wtR (aprF x y o).1 o) o, (aprF x y o).2 + 1) else aprF x y o
def aprR (x : LgS) (y : RpS) : RpS := if 0 < (aprF x y x.cnt).2 then rwR x (aprF x y x.cnt).1 else (aprF x y x.cnt).1
theorem nI_dec {i : Nat} (h : 0 < i) : nI i + Int32.ofInt (-1) = nI (i - 1) := by
  obtain ⟨k, rfl⟩ : ∃ k, i = k + 1 := ⟨i - 1, by omega⟩
  have e : Int32.ofInt (-1) = -1 := by decide
  rw [e, pk_m1, Nat.add_sub_cancel]
