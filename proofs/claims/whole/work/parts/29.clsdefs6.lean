/-! The class's public methods: worlds, answers -/
abbrev wTo (cc : Nat → ClassId) (lg : Nat) (g : Nat → Nat) (rp : Nat → Nat) : va_W := [(g 0, .inr (2, [.ref lg, .ref (g 1)])), (g 1, .inl (cc 4, 3, .inr (.inr (.inr (.inr (fun j => some (rp j)))))))]
abbrev wT (cc : Nat → ClassId) (a b g : Nat → Nat) (rp : Nat → Nat) (x : LgS) (y : RpS) : va_W := wLR cc a b x y ++ wTo cc (a 0) g rp
abbrev wTT (cc : Nat → ClassId) (a b d g : Nat → Nat) (rp : Nat → Nat) (x : LgS) (y y2 : RpS) : va_W := wLRR cc a b d x y y2 ++ wTo cc (a 0) g rp
abbrev LRp : Type := LgS × RpS
def RC_insert (x : LgS) (y : RpS) (r : Nat) (kp : Nat → Nat) (z1 z2 : Int32) (k : Nat) (v : Int32) (u : LRp) : Prop :=
  ((isRep z1 = false ∨ k < 32 ∨ 126 < k) ∧ v = -1 ∧ u = (x, y)) ∨ (z1 = nI r ∧ 32 ≤ k ∧ k ≤ 126 ∧
    (((z2 < 0 ∨ ¬ z2 ≤ nI y.tl) ∧ v = -1 ∧ u = (x, y)) ∨ ∃ p : Nat, p ≤ y.tl ∧ z2 = nI p ∧ ((100 ≤ x.cnt ∧ v = -2 ∧ u = (x, y)) ∨ (x.cnt < 100 ∧ v = nI x.cnt ∧ u = (isuL x y (befR y p) k (kp p), isuR x y (befR y p) k (kp p))))))
def RC_erase (x : LgS) (y : RpS) (r : Nat) (ve : Nat) (z1 : Int32) (v : Int32) (u : LRp) : Prop :=
  (isRep z1 = false ∧ v = -1 ∧ u = (x, y)) ∨ (z1 = nI r ∧ ((ve = 0 ∧ v = -1 ∧ u = (x, y)) ∨ (0 < ve ∧ ((100 ≤ x.cnt ∧ v = -2 ∧ u = (x, y)) ∨ (x.cnt < 100 ∧ v = nI x.cnt ∧ u = (isuL x y ve 0 0, isuR x y ve 0 0))))))
def RC_deliver (x : LgS) (y : RpS) (r : Nat) (z1 z2 : Int32) (v : Int32) (u : LRp) : Prop :=
  ((isRep z1 = false ∨ isOp x.cnt z2 = false) ∧ v = -1 ∧ u = (x, y)) ∨ (z1 = nI r ∧ ∃ o : Nat, o < x.cnt ∧ z2 = nI o ∧ v = nI (aprF x (rcvR x y o) x.cnt).2 ∧ u = (x, aprR x (rcvR x y o)))
def RC_sync (x : LgS) (y y2 : RpS) (r t : Nat) (z1 z2 : Int32) (v : Int32) (u : LRp) : Prop :=
  ((isRep z1 = false ∨ isRep z2 = false) ∧ v = -1 ∧ u = (x, y)) ∨ (z1 = nI r ∧ z2 = nI t ∧ v = nI (aprF x (rcaF x y y2 x.cnt) x.cnt).2 ∧ u = (x, aprR x (rcaF x y y2 x.cnt)))
def RC_collect (x : LgS) (y : RpS) (r : Nat) (z1 : Int32) (v : Int32) (u : LRp) : Prop := (isRep z1 = false ∧ v = -1 ∧ u = (x, y)) ∨ (z1 = nI r ∧ v = nI (drF (mkG2 x y x.cnt) y.kpt x.cnt).2 ∧ u = (x, drR x y))
def RC_num (n : Nat) (x : LgS) (y : RpS) (r : Nat) (z1 : Int32) (v : Int32) (u : LRp) : Prop := (isRep z1 = false ∧ v = -1 ∧ u = (x, y)) ∨ (z1 = nI r ∧ v = nI n ∧ u = (x, y))
def RC_at (x : LgS) (y : RpS) (r ve : Nat) (z1 : Int32) (v : Int32) (u : LRp) : Prop := (isRep z1 = false ∧ v = -1 ∧ u = (x, y)) ∨ (z1 = nI r ∧ u = (x, y) ∧ ((ve = 0 ∧ v = -1) ∨ (0 < ve ∧ v = nI (x.chr (ve - 1)))))
def RC_position (x : LgS) (y : RpS) (r vp : Nat) (z1 : Int32) (v : Int32) (u : LRp) : Prop := (isRep z1 = false ∧ v = -1 ∧ u = (x, y)) ∨ (z1 = nI r ∧ v = sI vp ∧ u = (x, y))
def RC_same (x : LgS) (y y2 : RpS) (r t : Nat) (z1 z2 : Int32) (v : Int32) (u : LRp) : Prop := ((isRep z1 = false ∨ isRep z2 = false) ∧ v = bI false ∧ u = (x, y)) ∨ (z1 = nI r ∧ z2 = nI t ∧ v = bI (rdlA x y y2) ∧ u = (x, y))
def RC_stamp (x : LgS) (y : RpS) (z1 : Int32) (v : Int32) (u : LRp) : Prop := (isOp x.cnt z1 = false ∧ v = -1 ∧ u = (x, y)) ∨ ∃ o : Nat, o < x.cnt ∧ z1 = nI o ∧ v = nI (4 * x.stp o + x.iss o) ∧ u = (x, y)
def RC_known (x : LgS) (y : RpS) (r : Nat) (z1 z2 z3 : Int32) (v : Int32) (u : LRp) : Prop := ((isRep z1 = false ∨ isRep z2 = false ∨ isRep z3 = false) ∧ v = -1 ∧ u = (x, y)) ∨ (z1 = nI r ∧ ∃ i j : Nat, i < 3 ∧ z2 = nI i ∧ j < 3 ∧ z3 = nI j ∧ v = nI (y.seen i j) ∧ u = (x, y))
def RC_stable (x : LgS) (y : RpS) (r : Nat) (z1 z2 : Int32) (v : Int32) (u : LRp) : Prop := ((isRep z1 = false ∨ isOp x.cnt z2 = false) ∧ v = bI false ∧ u = (x, y)) ∨ (z1 = nI r ∧ ∃ o : Nat, o < x.cnt ∧ z2 = nI o ∧ v = bI (setL x y o) ∧ u = (x, y))
theorem befR_le {y : RpS} (kr : okR y) (p : Nat) : befR y p ≤ 100 := by
  unfold befR
  split
  · exact Nat.zero_le _
  · exact kr.txt100 _
theorem at_seenT {cc : Nat → ClassId} {a b g : Nat → Nat} {rp : Nat → Nat} {x : LgS} {y : RpS} {i : Nat} (hi : i < 3) : (wT cc a b g rp x y)[9 + i]? = some (b (2 + i), .inl (cc 0, 3, .inl (fun k => nI (y.seen i k)))) := by
  rcases (show i = 0 ∨ i = 1 ∨ i = 2 by omega) with rfl | rfl | rfl <;> rfl
