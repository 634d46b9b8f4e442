/-! two replicas beside the log -/
abbrev wLRR (cc : Nat → ClassId) (a b d : Nat → Nat) (x : LgS) (y y2 : RpS) : va_W := wLR cc a b x y ++ wR cc (a 0) d y2
theorem lrr_P2 {D : va_G} {cl : List vw_C} {cc : Nat → ClassId} {a b d : Nat → Nat} {x : LgS} {y y2 : RpS} {H : Heap} (h : va_P D cl (wLRR cc a b d x y y2) H) : va_P D cl (wLR cc a d x y2) H := va_P.app (P_left (P_left h)) (P_right h)
/-- receiveAllOf, over the first o operations -/
def rcaF (x : LgS) (y y2 : RpS) : Nat → RpS
  | 0 => y
  | o + 1 => if hasL x y2 o = true then rcvR x (rcaF x y y2 o) o else rcaF x y y2 o
theorem rcaF_t {x : LgS} {y y2 : RpS} {o : Nat} (h : hasL x y2 o = true) : rcaF x y y2 (o + 1) = rcvR x (rcaF x y y2 o) o := by rw [rcaF, if_pos h]
theorem rcaF_f {x : LgS} {y y2 : RpS} {o : Nat} (h : hasL x y2 o = false) : rcaF x y y2 (o + 1) = rcaF x y y2 o := by rw [rcaF, if_neg (by rw [h]; decide)]
theorem hasL_rcv (x : LgS) (y : RpS) (o k : Nat) : hasL x (rcvR x y o) k = hasL x y k := by
  unfold rcvR
  split <;> rfl
theorem hasL_rca (x : LgS) (y y2 : RpS) (k : Nat) : ∀ o, hasL x (rcaF x y y2 o) k = hasL x y k
  | 0 => rfl
  | o + 1 => by
    rw [rcaF]
    split
    · rw [hasL_rcv, hasL_rca x y y2 k o]
    · exact hasL_rca x y y2 k o
def ridP (y : RpS) (z : Int32) (v : Nat) : Prop := (v = 0 ∧ ∀ k, k < y.tl → ¬ nI (y.txt k) = z) ∨ ∃ i, i < y.tl ∧ v = i + 1 ∧ nI (y.txt i) = z ∧ ∀ k, k < i → ¬ nI (y.txt k) = z
def eatP (y : RpS) (z : Int32) (v : Nat) : Prop := (v = 0 ∧ (z < 0 ∨ nI y.tl ≤ z)) ∨ ∃ k, k < y.tl ∧ z = nI k ∧ v = y.txt k + 1
def rdlA (x : LgS) (y y2 : RpS) : Bool := andF (fun i => decide (x.chr (y.txt i) = x.chr (y2.txt i))) (decide (y.tl = y2.tl)) y.tl
