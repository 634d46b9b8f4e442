theorem mkG1_t {x : LgS} {y : RpS} {o : Nat} (h1 : decide (x.chr o = 0) = true) (h2 : setL x y o = true) : mkG1 x y (o + 1) = va_up (va_up (mkG1 x y o) o false) (x.tgt o - 1) true := by rw [mkG1, if_pos ⟨of_decide_eq_true h1, h2⟩]
theorem mkG1_f1 {x : LgS} {y : RpS} {o : Nat} (h1 : decide (x.chr o = 0) = false) : mkG1 x y (o + 1) = va_up (mkG1 x y o) o false := by rw [mkG1, if_neg (fun q => of_decide_eq_false h1 q.1)]
theorem mkG1_f2 {x : LgS} {y : RpS} {o : Nat} (h1 : setL x y o = false) : mkG1 x y (o + 1) = va_up (mkG1 x y o) o false := by rw [mkG1, if_neg (fun q => by rw [h1] at q; cases q.2)]
theorem mkG2_t {x : LgS} {y : RpS} {o : Nat} (h1 : hldL x y o = true) : mkG2 x y (o + 1) = va_up (mkG2 x y o) (x.tgt o - 1) false := by rw [mkG2, if_pos h1]
theorem mkG2_f {x : LgS} {y : RpS} {o : Nat} (h1 : hldL x y o = false) : mkG2 x y (o + 1) = mkG2 x y o := by rw [mkG2, if_neg (by rw [h1]; decide)]
theorem hld_tgt {x : LgS} {y : RpS} {o : Nat} (h : hldL x y o = true) : 0 < x.tgt o := by
  unfold hldL at h
  simp only [Bool.and_eq_true, Bool.not_eq_true', decide_eq_false_iff_not] at h
  omega
theorem drF_t {g k : Nat → Bool} {o : Nat} (h1 : g o = true) (h2 : (drF g k o).1 o = true) : drF g k (o + 1) = (va_up (drF g k o).1 o false, (drF g k o).2 + 1) := by rw [drF, if_pos ⟨h1, h2⟩]
theorem drF_f1 {g k : Nat → Bool} {o : Nat} (h1 : g o = false) : drF g k (o + 1) = drF g k o := by rw [drF, if_neg (fun q => by rw [h1] at q; cases q.1)]
theorem drF_f2 {g k : Nat → Bool} {o : Nat} (h1 : (drF g k o).1 o = false) : drF g k (o + 1) = drF g k o := by rw [drF, if_neg (fun q => by rw [h1] at q; cases q.2)]
theorem drF_le (g k : Nat → Bool) : ∀ o, (drF g k o).2 ≤ o
  | 0 => Nat.le_refl 0
  | o + 1 => by
    have := drF_le g k o
    unfold drF
    split
    · show (drF g k o).2 + 1 ≤ o + 1
      omega
    · omega
theorem aprF_t {x : LgS} {y : RpS} {o : Nat} (h1 : (aprF x y o).1.wts o = true) (h2 : rdyL x (aprF x y o).1 o = true) : aprF x y (o + 1) = (applyR x (wtR (aprF x y o).1 o) o, (aprF x y o).2 + 1) := by rw [aprF, if_pos ⟨h1, h2⟩]
theorem aprF_f1 {x : LgS} {y : RpS} {o : Nat} (h1 : (aprF x y o).1.wts o = false) : aprF x y (o + 1) = aprF x y o := by rw [aprF, if_neg (fun q => by rw [h1] at q; cases q.1)]
theorem aprF_f2 {x : LgS} {y : RpS} {o : Nat} (h1 : rdyL x (aprF x y o).1 o = false) : aprF x y (o + 1) = aprF x y o := by rw [aprF, if_neg (fun q => by rw [h1] at q; cases q.2)]
theorem aprF_le (x : LgS) (y : RpS) : ∀ o, (aprF x y o).2 ≤ o
  | 0 => Nat.le_refl 0
  | o + 1 => by
    have := aprF_le x y o
    unfold aprF
    split
    · show (aprF x y o).2 + 1 ≤ o + 1
      omega
    · omega
/-- what applyReady needs on its way -/
def apOK (x : LgS) (y : RpS) (o : Nat) : Prop := okR (aprF x y o).1 ∧ (aprF x y o).1.kc < 900 ∧ ((aprF x y o).1.wts o = true → 1 ≤ (aprF x y o).1.wc)
theorem okR_wt {y : RpS} {o : Nat} (kr : okR y) : okR (wtR y o) := okR_mk kr.self kr.tl kr.kc (Nat.lt_of_le_of_lt (Nat.sub_le _ _) kr.wc) kr.gs kr.seen3 kr.txt100
/-- a replica's cells but row i of what is seen -/
def wRx (cc : Nat → ClassId) (lg : Nat) (b : Nat → Nat) (y : RpS) (i : Nat) : va_W :=
  [(b 0, .inr (1, [.int (nI y.self), .ref lg, .ref (b 1), .ref (b 5), .ref (b 6), .ref (b 7), .ref (b 8), .ref (b 9), .int (nI y.tl), .int (nI y.kc), .int (nI y.wc), .int (nI y.gs)])),
   (b 1, .inl (cc 3, 3, .inr (.inr (.inr (.inr (fun j => some (b (2 + j)))))))),
   (if i = 0 then (b 3, .inl (cc 0, 3, .inl (fun k => nI (y.seen 1 k)))) else (b 2, .inl (cc 0, 3, .inl (fun k => nI (y.seen 0 k))))), (if i = 2 then (b 3, .inl (cc 0, 3, .inl (fun k => nI (y.seen 1 k)))) else (b 4, .inl (cc 0, 3, .inl (fun k => nI (y.seen 2 k))))),
   (b 5, .inl (cc 1, 100, .inl (fun k => bI (y.wts k)))), (b 6, .inl (cc 1, 100, .inl (fun k => bI (y.ers k)))), (b 7, .inl (cc 1, 100, .inl (fun k => bI (y.kpt k)))), (b 8, .inl (cc 1, 100, .inl (fun k => bI (y.mgo k)))),
   (b 9, .inl (cc 0, 100, .inl (fun k => nI (y.txt k))))]
section LRS
variable {D : va_G} {cl : List vw_C} {A : Nat → Prop} {cc : Nat → ClassId} {a b : Nat → Nat} {x : LgS} {y : RpS} {H : Heap} {i : Nat}
theorem lr_P (hi : i < 3) (h : va_P D cl (wLR cc a b x y) H) : va_P D cl (wLw cc a x (b (2 + i)) (y.seen i) ++ wRx cc (a 0) b y i) H := by
  rcases (show i = 0 ∨ i = 1 ∨ i = 2 by omega) with rfl | rfl | rfl
  · exact h.sub [0, 1, 2, 3, 4, 5, 6, 9, 7, 8, 10, 11, 12, 13, 14, 15, 16] rfl
  · exact h.sub [0, 1, 2, 3, 4, 5, 6, 10, 7, 8, 9, 11, 12, 13, 14, 15, 16] rfl
  · exact h.sub [0, 1, 2, 3, 4, 5, 6, 11, 7, 8, 9, 10, 12, 13, 14, 15, 16] rfl
theorem lr_D (hi : i < 3) (h : va_D A (wLR cc a b x y)) : va_D A (wLw cc a x (b (2 + i)) (y.seen i) ++ wRx cc (a 0) b y i) := by
  rcases (show i = 0 ∨ i = 1 ∨ i = 2 by omega) with rfl | rfl | rfl
  · exact h.sub [0, 1, 2, 3, 4, 5, 6, 9, 7, 8, 10, 11, 12, 13, 14, 15, 16] (by decide) rfl
  · exact h.sub [0, 1, 2, 3, 4, 5, 6, 10, 7, 8, 9, 11, 12, 13, 14, 15, 16] (by decide) rfl
  · exact h.sub [0, 1, 2, 3, 4, 5, 6, 11, 7, 8, 9, 10, 12, 13, 14, 15, 16] (by decide) rfl
theorem lr_P' (hi : i < 3) (h : va_P D cl (wLw cc a x (b (2 + i)) (y.seen i) ++ wRx cc (a 0) b y i) H) : va_P D cl (wLR cc a b x y) H := by
  rcases (show i = 0 ∨ i = 1 ∨ i = 2 by omega) with rfl | rfl | rfl
  · exact h.sub [0, 1, 2, 3, 4, 5, 6, 8, 9, 7, 10, 11, 12, 13, 14, 15, 16] rfl
  · exact h.sub [0, 1, 2, 3, 4, 5, 6, 8, 9, 10, 7, 11, 12, 13, 14, 15, 16] rfl
  · exact h.sub [0, 1, 2, 3, 4, 5, 6, 8, 9, 10, 11, 7, 12, 13, 14, 15, 16] rfl
theorem lr_D' (hi : i < 3) (h : va_D A (wLw cc a x (b (2 + i)) (y.seen i) ++ wRx cc (a 0) b y i)) : va_D A (wLR cc a b x y) := by
  rcases (show i = 0 ∨ i = 1 ∨ i = 2 by omega) with rfl | rfl | rfl
  · exact h.sub [0, 1, 2, 3, 4, 5, 6, 8, 9, 7, 10, 11, 12, 13, 14, 15, 16] (by decide) rfl
  · exact h.sub [0, 1, 2, 3, 4, 5, 6, 8, 9, 10, 7, 11, 12, 13, 14, 15, 16] (by decide) rfl
  · exact h.sub [0, 1, 2, 3, 4, 5, 6, 8, 9, 10, 11, 7, 12, 13, 14, 15, 16] (by decide) rfl
end LRS
