/-! WHAT THE LAW NEEDS OF AN INVARIANT between the class's state and the reference's -/
def BaseC (x : LgS) (y : Nat → RpS) : Prop :=
  okL x ∧ (x.cnt < 100 → x.el < 100) ∧ (∀ o, o < x.cnt → x.chr o = 0 → 0 < x.tgt o) ∧ (∀ o, o < x.cnt → 1 ≤ plc x o) ∧
  (∀ r, r < 3 → okR (y r) ∧ (y r).gs < 900 ∧ (y r).kc < 900 ∧ (∀ k, (y r).seen (y r).self k < 900) ∧ (drF (mkG2 x (y r) x.cnt) (y r).kpt x.cnt).2 ≤ (y r).kc) ∧
  (∀ r, r < 3 → ∀ o, o < x.cnt → okR (rcvR x (y r) o) ∧ ∀ k, k ≤ x.cnt → apOK x (rcvR x (y r) o) k) ∧
  (∀ r, r < 3 → ∀ t, t < 3 → (∀ o, o ≤ x.cnt → okR (rcaF x (y r) (y t) o)) ∧ ∀ k, k ≤ x.cnt → apOK x (rcaF x (y r) (y t) x.cnt) k) ∧
  ∀ r, r < 3 → ∀ k p, p ≤ (y r).tl → ∃ ib kp, plP (rec5 x (y r).self ((y r).gs + 1) (befR (y r) p) k ((y r).seen (y r).self)) x.cnt ib kp
def BaseM (u : MS) : Prop :=
  okM u ∧ (∀ k, k < u.nn → u.oth k ≤ k) ∧ (∀ r, r < 3 → gstM u r u.nn < 999) ∧ (∀ k, k < u.nn → 1 ≤ u.line k) ∧ (∀ r o, r < 3 → o < u.nn → idlD u r o) ∧ (∀ r t o, r < 3 → t < 3 → o ≤ u.nn → syOK u r t o) ∧ ∃ xs, xsOK u xs
/-- one call: alike answers, and the invariant behind it -/
def StepP (INV : LgS → (Nat → RpS) → MS → Prop) (y : Nat → RpS) (r : Nat) (v v' : Int32) (w : LRp) (u' : MS) : Prop := v = v' ∧ INV w.1 (va_up y r w.2) u'
def PureP (INV : LgS → (Nat → RpS) → MS → Prop) : Prop :=
  INV initL initR initM ∧ (∀ x y u, INV x y u → BaseC x y ∧ BaseM u) ∧
  (∀ x y u r xs (kp ib : Nat → Nat) z1 z2 k v v' w u', INV x y u → r < 3 → xsOK u xs → (∀ p, p ≤ (y r).tl → plP (rec5 x (y r).self ((y r).gs + 1) (befR (y r) p) k ((y r).seen (y r).self)) x.cnt (ib p) (kp p)) → k < 65536 → RC_insert x (y r) r kp z1 z2 k v w → RM_insert u xs z1 z2 k v' u' → StepP INV y r v v' w u') ∧
  (∀ x y u r xs ve z1 z2 v v' w u', INV x y u → r < 3 → xsOK u xs → eatP (y r) z2 ve → RC_erase x (y r) r ve z1 v w → RM_erase u xs z1 z2 v' u' → StepP INV y r v v' w u') ∧
  (∀ x y u r z1 z2 v v' w u', INV x y u → r < 3 → RC_deliver x (y r) r z1 z2 v w → RM_deliver u z1 z2 v' u' → StepP INV y r v v' w u') ∧
  (∀ x y u r t z1 z2 v v' w u', INV x y u → r < 3 → t < 3 → RC_sync x (y r) (y t) r t z1 z2 v w → RM_sync u z1 z2 v' u' → StepP INV y r v v' w u') ∧
  (∀ x y u r z1 v v' w u', INV x y u → r < 3 → RC_collect x (y r) r z1 v w → RM_collect u z1 v' u' → StepP INV y r v v' w u') ∧
  (∀ x y u r xs z1 v v' w u', INV x y u → r < 3 → xsOK u xs → RC_num (y r).tl x (y r) r z1 v w → RM_length u xs z1 v' u' → StepP INV y r v v' w u') ∧
  (∀ x y u r xs ve z1 z2 v v' w u', INV x y u → r < 3 → xsOK u xs → eatP (y r) z2 ve → RC_at x (y r) r ve z1 v w → RM_at u xs z1 z2 v' u' → StepP INV y r v v' w u') ∧
  (∀ x y u r xs vp z1 z2 v v' w u', INV x y u → r < 3 → xsOK u xs → ridP (y r) z2 vp → RC_position x (y r) r vp z1 v w → RM_position u xs z1 z2 v' u' → StepP INV y r v v' w u') ∧
  (∀ x y u r t xs z1 z2 v v' w u', INV x y u → r < 3 → t < 3 → xsOK u xs → RC_same x (y r) (y t) r t z1 z2 v w → RM_same u xs z1 z2 v' u' → StepP INV y r v v' w u') ∧
  (∀ x y u, INV x y u → x.cnt = u.nn) ∧
  (∀ x y u r z1 v v' w u', INV x y u → r < 3 → RC_stamp x (y r) z1 v w → RM_stamp u z1 v' u' → StepP INV y r v v' w u') ∧
  (∀ x y u r z1 z2 z3 v v' w u', INV x y u → r < 3 → RC_known x (y r) r z1 z2 z3 v w → RM_known u z1 z2 z3 v' u' → StepP INV y r v v' w u') ∧
  (∀ x y u r z1 z2 v v' w u', INV x y u → r < 3 → RC_stable x (y r) r z1 z2 v w → RM_stable u z1 z2 v' u' → StepP INV y r v v' w u') ∧
  (∀ x y u r z1 v v' w u', INV x y u → r < 3 → RC_num (y r).kc x (y r) r z1 v w → RM_num (fun r o => kpsM u r o) u z1 v' u' → StepP INV y r v v' w u') ∧
  (∀ x y u r z1 v v' w u', INV x y u → r < 3 → RC_num (y r).wc x (y r) r z1 v w → RM_num (fun r o => u.wts (100 * r + o)) u z1 v' u' → StepP INV y r v v' w u') ∧
  ∀ x y u r, INV x y u → r < 3 → INV x (va_up y r (y r)) u
theorem rsel (z : Int32) : ∃ r : Nat, r < 3 ∧ (isRep z = true → z = nI r) := by
  cases h : isRep z with
  | true => obtain ⟨r, h1, h2⟩ := isRep_of h; exact ⟨r, h1, fun _ => h2⟩
  | false => exact ⟨0, by decide, fun q => by cases q⟩
theorem esel {y : RpS} (kr : okR y) (z : Int32) : ∃ ve : Nat, eatP y z ve ∧ ve ≤ 100 := by
  rcases pk_ix z (n := y.tl) (by have := kr.tl; omega) with q | q | ⟨k, q1, q2⟩
  · exact ⟨0, Or.inl ⟨rfl, Or.inl q⟩, by decide⟩
  · exact ⟨0, Or.inl ⟨rfl, Or.inr q⟩, by decide⟩
  · exact ⟨y.txt k + 1, Or.inr ⟨k, q1, q2, rfl⟩, kr.txt100 k⟩
theorem psel {y : RpS} (kr : okR y) (z : Int32) : ∃ vp : Nat, ridP y z vp ∧ vp ≤ 100 := by
  by_cases h : ∃ k, k < y.tl ∧ nI (y.txt k) = z
  · obtain ⟨k, h1, h2⟩ := pk_least (fun k => k < y.tl ∧ nI (y.txt k) = z) h
    exact ⟨k + 1, Or.inr ⟨k, h1.1, rfl, h1.2, fun j hj q => h2 j hj ⟨by omega, q⟩⟩, by have := kr.tl; omega⟩
  · exact ⟨0, Or.inl ⟨rfl, fun k hk q => h ⟨k, hk, q⟩⟩, by decide⟩
/-! worlds put in another order -/
abbrev wO (cc : Nat → ClassId) (lg : Nat) (b : Nat → Nat → Nat) (y : Nat → RpS) (r : Nat) : va_W := wR cc lg (b (if r = 0 then 1 else 0)) (y (if r = 0 then 1 else 0)) ++ wR cc lg (b (if r = 2 then 1 else 2)) (y (if r = 2 then 1 else 2))
theorem sw_P {D : va_G} {cl : List vw_C} {w1 w2 : va_W} {H : Heap} (h : va_P D cl (w1 ++ w2) H) : va_P D cl (w2 ++ w1) H := va_P.app (P_right h) (P_left h)
theorem sw_D {A : Nat → Prop} {w1 w2 : va_W} (h : va_D A (w1 ++ w2)) : va_D A (w2 ++ w1) := va_D.app (D_right h) (D_left h) (fun i j p q hi hj e => by
  have hj' : j < w1.length := (List.getElem?_eq_some_iff.mp hj).1
  have := h.1 (w1.length + i) j p q (by rw [List.getElem?_append_right (by omega), show w1.length + i - w1.length = i by omega]; exact hi) (by rw [List.getElem?_append_left hj']; exact hj) e
  omega)
theorem pm_P {D : va_G} {cl : List vw_C} {H : Heap} {cc : Nat → ClassId} {a : Nat → Nat} {b : Nat → Nat → Nat} {g q : Nat → Nat} {x : LgS} {y : Nat → RpS} {u : MS} {r : Nat} (hr : r < 3) (h : va_P D cl (wC cc a b g x y ++ wM cc q u) H) : va_P D cl (wT cc a (b r) g (fun r => b r 0) x (y r) ++ (wO cc (a 0) b y r ++ wM cc q u)) H := by
  rcases (show r = 0 ∨ r = 1 ∨ r = 2 by omega) with rfl | rfl | rfl
  · exact h.sub [30, 31, 32, 33, 34, 35, 36, 20, 21, 22, 23, 24, 25, 26, 27, 28, 29, 37, 38, 10, 11, 12, 13, 14, 15, 16, 17, 18, 19, 0, 1, 2, 3, 4, 5, 6, 7, 8, 9, 39, 40, 41, 42, 43, 44, 45, 46, 47, 48, 49, 50] rfl
  · exact h.sub [30, 31, 32, 33, 34, 35, 36, 10, 11, 12, 13, 14, 15, 16, 17, 18, 19, 37, 38, 20, 21, 22, 23, 24, 25, 26, 27, 28, 29, 0, 1, 2, 3, 4, 5, 6, 7, 8, 9, 39, 40, 41, 42, 43, 44, 45, 46, 47, 48, 49, 50] rfl
  · exact h.sub [30, 31, 32, 33, 34, 35, 36, 0, 1, 2, 3, 4, 5, 6, 7, 8, 9, 37, 38, 20, 21, 22, 23, 24, 25, 26, 27, 28, 29, 10, 11, 12, 13, 14, 15, 16, 17, 18, 19, 39, 40, 41, 42, 43, 44, 45, 46, 47, 48, 49, 50] rfl
theorem pm_P' {D : va_G} {cl : List vw_C} {H : Heap} {cc : Nat → ClassId} {a : Nat → Nat} {b : Nat → Nat → Nat} {g q : Nat → Nat} {x : LgS} {y : Nat → RpS} {u : MS} {r : Nat} {y' : RpS} (hr : r < 3) (h : va_P D cl (wT cc a (b r) g (fun r => b r 0) x y' ++ (wO cc (a 0) b y r ++ wM cc q u)) H) : va_P D cl (wC cc a b g x (va_up y r y') ++ wM cc q u) H := by
  rcases (show r = 0 ∨ r = 1 ∨ r = 2 by omega) with rfl | rfl | rfl
  · exact h.sub [29, 30, 31, 32, 33, 34, 35, 36, 37, 38, 19, 20, 21, 22, 23, 24, 25, 26, 27, 28, 7, 8, 9, 10, 11, 12, 13, 14, 15, 16, 0, 1, 2, 3, 4, 5, 6, 17, 18, 39, 40, 41, 42, 43, 44, 45, 46, 47, 48, 49, 50] rfl
  · exact h.sub [29, 30, 31, 32, 33, 34, 35, 36, 37, 38, 7, 8, 9, 10, 11, 12, 13, 14, 15, 16, 19, 20, 21, 22, 23, 24, 25, 26, 27, 28, 0, 1, 2, 3, 4, 5, 6, 17, 18, 39, 40, 41, 42, 43, 44, 45, 46, 47, 48, 49, 50] rfl
  · exact h.sub [7, 8, 9, 10, 11, 12, 13, 14, 15, 16, 29, 30, 31, 32, 33, 34, 35, 36, 37, 38, 19, 20, 21, 22, 23, 24, 25, 26, 27, 28, 0, 1, 2, 3, 4, 5, 6, 17, 18, 39, 40, 41, 42, 43, 44, 45, 46, 47, 48, 49, 50] rfl
theorem pn_P {D : va_G} {cl : List vw_C} {H : Heap} {cc : Nat → ClassId} {a : Nat → Nat} {b : Nat → Nat → Nat} {g q : Nat → Nat} {x : LgS} {y : Nat → RpS} {u : MS} {r t : Nat} (hr : r < 3) (ht : t < 3) (hn : ¬ r = t) (h : va_P D cl (wC cc a b g x y ++ wM cc q u) H) : va_P D cl (wTT cc a (b r) (b t) g (fun r => b r 0) x (y r) (y t) ++ (wR cc (a 0) (b (3 - r - t)) (y (3 - r - t)) ++ wM cc q u)) H := by
  rcases (show (r = 0 ∧ t = 1) ∨ (r = 0 ∧ t = 2) ∨ (r = 1 ∧ t = 0) ∨ (r = 1 ∧ t = 2) ∨ (r = 2 ∧ t = 0) ∨ (r = 2 ∧ t = 1) by omega) with ⟨rfl, rfl⟩ | ⟨rfl, rfl⟩ | ⟨rfl, rfl⟩ | ⟨rfl, rfl⟩ | ⟨rfl, rfl⟩ | ⟨rfl, rfl⟩
  · exact h.sub [30, 31, 32, 33, 34, 35, 36, 20, 21, 22, 23, 24, 25, 26, 27, 28, 29, 10, 11, 12, 13, 14, 15, 16, 17, 18, 19, 37, 38, 0, 1, 2, 3, 4, 5, 6, 7, 8, 9, 39, 40, 41, 42, 43, 44, 45, 46, 47, 48, 49, 50] rfl
  · exact h.sub [30, 31, 32, 33, 34, 35, 36, 20, 21, 22, 23, 24, 25, 26, 27, 28, 29, 0, 1, 2, 3, 4, 5, 6, 7, 8, 9, 37, 38, 10, 11, 12, 13, 14, 15, 16, 17, 18, 19, 39, 40, 41, 42, 43, 44, 45, 46, 47, 48, 49, 50] rfl
  · exact h.sub [30, 31, 32, 33, 34, 35, 36, 10, 11, 12, 13, 14, 15, 16, 17, 18, 19, 20, 21, 22, 23, 24, 25, 26, 27, 28, 29, 37, 38, 0, 1, 2, 3, 4, 5, 6, 7, 8, 9, 39, 40, 41, 42, 43, 44, 45, 46, 47, 48, 49, 50] rfl
  · exact h.sub [30, 31, 32, 33, 34, 35, 36, 10, 11, 12, 13, 14, 15, 16, 17, 18, 19, 0, 1, 2, 3, 4, 5, 6, 7, 8, 9, 37, 38, 20, 21, 22, 23, 24, 25, 26, 27, 28, 29, 39, 40, 41, 42, 43, 44, 45, 46, 47, 48, 49, 50] rfl
  · exact h.sub [30, 31, 32, 33, 34, 35, 36, 0, 1, 2, 3, 4, 5, 6, 7, 8, 9, 20, 21, 22, 23, 24, 25, 26, 27, 28, 29, 37, 38, 10, 11, 12, 13, 14, 15, 16, 17, 18, 19, 39, 40, 41, 42, 43, 44, 45, 46, 47, 48, 49, 50] rfl
  · exact h.sub [30, 31, 32, 33, 34, 35, 36, 0, 1, 2, 3, 4, 5, 6, 7, 8, 9, 10, 11, 12, 13, 14, 15, 16, 17, 18, 19, 37, 38, 20, 21, 22, 23, 24, 25, 26, 27, 28, 29, 39, 40, 41, 42, 43, 44, 45, 46, 47, 48, 49, 50] rfl
theorem pn_P' {D : va_G} {cl : List vw_C} {H : Heap} {cc : Nat → ClassId} {a : Nat → Nat} {b : Nat → Nat → Nat} {g q : Nat → Nat} {x : LgS} {y : Nat → RpS} {u : MS} {r t : Nat} {y' : RpS} (hr : r < 3) (ht : t < 3) (hn : ¬ r = t) (h : va_P D cl (wTT cc a (b r) (b t) g (fun r => b r 0) x y' (y t) ++ (wR cc (a 0) (b (3 - r - t)) (y (3 - r - t)) ++ wM cc q u)) H) : va_P D cl (wC cc a b g x (va_up y r y') ++ wM cc q u) H := by
  rcases (show (r = 0 ∧ t = 1) ∨ (r = 0 ∧ t = 2) ∨ (r = 1 ∧ t = 0) ∨ (r = 1 ∧ t = 2) ∨ (r = 2 ∧ t = 0) ∨ (r = 2 ∧ t = 1) by omega) with ⟨rfl, rfl⟩ | ⟨rfl, rfl⟩ | ⟨rfl, rfl⟩ | ⟨rfl, rfl⟩ | ⟨rfl, rfl⟩ | ⟨rfl, rfl⟩
  · exact h.sub [29, 30, 31, 32, 33, 34, 35, 36, 37, 38, 17, 18, 19, 20, 21, 22, 23, 24, 25, 26, 7, 8, 9, 10, 11, 12, 13, 14, 15, 16, 0, 1, 2, 3, 4, 5, 6, 27, 28, 39, 40, 41, 42, 43, 44, 45, 46, 47, 48, 49, 50] rfl
  · exact h.sub [17, 18, 19, 20, 21, 22, 23, 24, 25, 26, 29, 30, 31, 32, 33, 34, 35, 36, 37, 38, 7, 8, 9, 10, 11, 12, 13, 14, 15, 16, 0, 1, 2, 3, 4, 5, 6, 27, 28, 39, 40, 41, 42, 43, 44, 45, 46, 47, 48, 49, 50] rfl
  · exact h.sub [29, 30, 31, 32, 33, 34, 35, 36, 37, 38, 7, 8, 9, 10, 11, 12, 13, 14, 15, 16, 17, 18, 19, 20, 21, 22, 23, 24, 25, 26, 0, 1, 2, 3, 4, 5, 6, 27, 28, 39, 40, 41, 42, 43, 44, 45, 46, 47, 48, 49, 50] rfl
  · exact h.sub [17, 18, 19, 20, 21, 22, 23, 24, 25, 26, 7, 8, 9, 10, 11, 12, 13, 14, 15, 16, 29, 30, 31, 32, 33, 34, 35, 36, 37, 38, 0, 1, 2, 3, 4, 5, 6, 27, 28, 39, 40, 41, 42, 43, 44, 45, 46, 47, 48, 49, 50] rfl
  · exact h.sub [7, 8, 9, 10, 11, 12, 13, 14, 15, 16, 29, 30, 31, 32, 33, 34, 35, 36, 37, 38, 17, 18, 19, 20, 21, 22, 23, 24, 25, 26, 0, 1, 2, 3, 4, 5, 6, 27, 28, 39, 40, 41, 42, 43, 44, 45, 46, 47, 48, 49, 50] rfl
  · exact h.sub [7, 8, 9, 10, 11, 12, 13, 14, 15, 16, 17, 18, 19, 20, 21, 22, 23, 24, 25, 26, 29, 30, 31, 32, 33, 34, 35, 36, 37, 38, 0, 1, 2, 3, 4, 5, 6, 27, 28, 39, 40, 41, 42, 43, 44, 45, 46, 47, 48, 49, 50] rfl
theorem pm_D {A : Nat → Prop} {cc : Nat → ClassId} {a : Nat → Nat} {b : Nat → Nat → Nat} {g q : Nat → Nat} {x : LgS} {y : Nat → RpS} {u : MS} {r : Nat} (hr : r < 3) (h : va_D A (wC cc a b g x y ++ wM cc q u)) : va_D A (wT cc a (b r) g (fun r => b r 0) x (y r) ++ (wO cc (a 0) b y r ++ wM cc q u)) := by
  rcases (show r = 0 ∨ r = 1 ∨ r = 2 by omega) with rfl | rfl | rfl
  · exact h.sub [30, 31, 32, 33, 34, 35, 36, 20, 21, 22, 23, 24, 25, 26, 27, 28, 29, 37, 38, 10, 11, 12, 13, 14, 15, 16, 17, 18, 19, 0, 1, 2, 3, 4, 5, 6, 7, 8, 9, 39, 40, 41, 42, 43, 44, 45, 46, 47, 48, 49, 50] (by decide) rfl
  · exact h.sub [30, 31, 32, 33, 34, 35, 36, 10, 11, 12, 13, 14, 15, 16, 17, 18, 19, 37, 38, 20, 21, 22, 23, 24, 25, 26, 27, 28, 29, 0, 1, 2, 3, 4, 5, 6, 7, 8, 9, 39, 40, 41, 42, 43, 44, 45, 46, 47, 48, 49, 50] (by decide) rfl
  · exact h.sub [30, 31, 32, 33, 34, 35, 36, 0, 1, 2, 3, 4, 5, 6, 7, 8, 9, 37, 38, 20, 21, 22, 23, 24, 25, 26, 27, 28, 29, 10, 11, 12, 13, 14, 15, 16, 17, 18, 19, 39, 40, 41, 42, 43, 44, 45, 46, 47, 48, 49, 50] (by decide) rfl
theorem pm_D' {A : Nat → Prop} {cc : Nat → ClassId} {a : Nat → Nat} {b : Nat → Nat → Nat} {g q : Nat → Nat} {x : LgS} {y : Nat → RpS} {u : MS} {r : Nat} {y' : RpS} (hr : r < 3) (h : va_D A (wT cc a (b r) g (fun r => b r 0) x y' ++ (wO cc (a 0) b y r ++ wM cc q u))) : va_D A (wC cc a b g x (va_up y r y') ++ wM cc q u) := by
  rcases (show r = 0 ∨ r = 1 ∨ r = 2 by omega) with rfl | rfl | rfl
  · exact h.sub [29, 30, 31, 32, 33, 34, 35, 36, 37, 38, 19, 20, 21, 22, 23, 24, 25, 26, 27, 28, 7, 8, 9, 10, 11, 12, 13, 14, 15, 16, 0, 1, 2, 3, 4, 5, 6, 17, 18, 39, 40, 41, 42, 43, 44, 45, 46, 47, 48, 49, 50] (by decide) rfl
  · exact h.sub [29, 30, 31, 32, 33, 34, 35, 36, 37, 38, 7, 8, 9, 10, 11, 12, 13, 14, 15, 16, 19, 20, 21, 22, 23, 24, 25, 26, 27, 28, 0, 1, 2, 3, 4, 5, 6, 17, 18, 39, 40, 41, 42, 43, 44, 45, 46, 47, 48, 49, 50] (by decide) rfl
  · exact h.sub [7, 8, 9, 10, 11, 12, 13, 14, 15, 16, 29, 30, 31, 32, 33, 34, 35, 36, 37, 38, 19, 20, 21, 22, 23, 24, 25, 26, 27, 28, 0, 1, 2, 3, 4, 5, 6, 17, 18, 39, 40, 41, 42, 43, 44, 45, 46, 47, 48, 49, 50] (by decide) rfl
theorem pn_D {A : Nat → Prop} {cc : Nat → ClassId} {a : Nat → Nat} {b : Nat → Nat → Nat} {g q : Nat → Nat} {x : LgS} {y : Nat → RpS} {u : MS} {r t : Nat} (hr : r < 3) (ht : t < 3) (hn : ¬ r = t) (h : va_D A (wC cc a b g x y ++ wM cc q u)) : va_D A (wTT cc a (b r) (b t) g (fun r => b r 0) x (y r) (y t) ++ (wR cc (a 0) (b (3 - r - t)) (y (3 - r - t)) ++ wM cc q u)) := by
  rcases (show (r = 0 ∧ t = 1) ∨ (r = 0 ∧ t = 2) ∨ (r = 1 ∧ t = 0) ∨ (r = 1 ∧ t = 2) ∨ (r = 2 ∧ t = 0) ∨ (r = 2 ∧ t = 1) by omega) with ⟨rfl, rfl⟩ | ⟨rfl, rfl⟩ | ⟨rfl, rfl⟩ | ⟨rfl, rfl⟩ | ⟨rfl, rfl⟩ | ⟨rfl, rfl⟩
  · exact h.sub [30, 31, 32, 33, 34, 35, 36, 20, 21, 22, 23, 24, 25, 26, 27, 28, 29, 10, 11, 12, 13, 14, 15, 16, 17, 18, 19, 37, 38, 0, 1, 2, 3, 4, 5, 6, 7, 8, 9, 39, 40, 41, 42, 43, 44, 45, 46, 47, 48, 49, 50] (by decide) rfl
  · exact h.sub [30, 31, 32, 33, 34, 35, 36, 20, 21, 22, 23, 24, 25, 26, 27, 28, 29, 0, 1, 2, 3, 4, 5, 6, 7, 8, 9, 37, 38, 10, 11, 12, 13, 14, 15, 16, 17, 18, 19, 39, 40, 41, 42, 43, 44, 45, 46, 47, 48, 49, 50] (by decide) rfl
  · exact h.sub [30, 31, 32, 33, 34, 35, 36, 10, 11, 12, 13, 14, 15, 16, 17, 18, 19, 20, 21, 22, 23, 24, 25, 26, 27, 28, 29, 37, 38, 0, 1, 2, 3, 4, 5, 6, 7, 8, 9, 39, 40, 41, 42, 43, 44, 45, 46, 47, 48, 49, 50] (by decide) rfl
  · exact h.sub [30, 31, 32, 33, 34, 35, 36, 10, 11, 12, 13, 14, 15, 16, 17, 18, 19, 0, 1, 2, 3, 4, 5, 6, 7, 8, 9, 37, 38, 20, 21, 22, 23, 24, 25, 26, 27, 28, 29, 39, 40, 41, 42, 43, 44, 45, 46, 47, 48, 49, 50] (by decide) rfl
  · exact h.sub [30, 31, 32, 33, 34, 35, 36, 0, 1, 2, 3, 4, 5, 6, 7, 8, 9, 20, 21, 22, 23, 24, 25, 26, 27, 28, 29, 37, 38, 10, 11, 12, 13, 14, 15, 16, 17, 18, 19, 39, 40, 41, 42, 43, 44, 45, 46, 47, 48, 49, 50] (by decide) rfl
  · exact h.sub [30, 31, 32, 33, 34, 35, 36, 0, 1, 2, 3, 4, 5, 6, 7, 8, 9, 10, 11, 12, 13, 14, 15, 16, 17, 18, 19, 37, 38, 20, 21, 22, 23, 24, 25, 26, 27, 28, 29, 39, 40, 41, 42, 43, 44, 45, 46, 47, 48, 49, 50] (by decide) rfl
theorem pn_D' {A : Nat → Prop} {cc : Nat → ClassId} {a : Nat → Nat} {b : Nat → Nat → Nat} {g q : Nat → Nat} {x : LgS} {y : Nat → RpS} {u : MS} {r t : Nat} {y' : RpS} (hr : r < 3) (ht : t < 3) (hn : ¬ r = t) (h : va_D A (wTT cc a (b r) (b t) g (fun r => b r 0) x y' (y t) ++ (wR cc (a 0) (b (3 - r - t)) (y (3 - r - t)) ++ wM cc q u))) : va_D A (wC cc a b g x (va_up y r y') ++ wM cc q u) := by
  rcases (show (r = 0 ∧ t = 1) ∨ (r = 0 ∧ t = 2) ∨ (r = 1 ∧ t = 0) ∨ (r = 1 ∧ t = 2) ∨ (r = 2 ∧ t = 0) ∨ (r = 2 ∧ t = 1) by omega) with ⟨rfl, rfl⟩ | ⟨rfl, rfl⟩ | ⟨rfl, rfl⟩ | ⟨rfl, rfl⟩ | ⟨rfl, rfl⟩ | ⟨rfl, rfl⟩
  · exact h.sub [29, 30, 31, 32, 33, 34, 35, 36, 37, 38, 17, 18, 19, 20, 21, 22, 23, 24, 25, 26, 7, 8, 9, 10, 11, 12, 13, 14, 15, 16, 0, 1, 2, 3, 4, 5, 6, 27, 28, 39, 40, 41, 42, 43, 44, 45, 46, 47, 48, 49, 50] (by decide) rfl
  · exact h.sub [17, 18, 19, 20, 21, 22, 23, 24, 25, 26, 29, 30, 31, 32, 33, 34, 35, 36, 37, 38, 7, 8, 9, 10, 11, 12, 13, 14, 15, 16, 0, 1, 2, 3, 4, 5, 6, 27, 28, 39, 40, 41, 42, 43, 44, 45, 46, 47, 48, 49, 50] (by decide) rfl
  · exact h.sub [29, 30, 31, 32, 33, 34, 35, 36, 37, 38, 7, 8, 9, 10, 11, 12, 13, 14, 15, 16, 17, 18, 19, 20, 21, 22, 23, 24, 25, 26, 0, 1, 2, 3, 4, 5, 6, 27, 28, 39, 40, 41, 42, 43, 44, 45, 46, 47, 48, 49, 50] (by decide) rfl
  · exact h.sub [17, 18, 19, 20, 21, 22, 23, 24, 25, 26, 7, 8, 9, 10, 11, 12, 13, 14, 15, 16, 29, 30, 31, 32, 33, 34, 35, 36, 37, 38, 0, 1, 2, 3, 4, 5, 6, 27, 28, 39, 40, 41, 42, 43, 44, 45, 46, 47, 48, 49, 50] (by decide) rfl
  · exact h.sub [7, 8, 9, 10, 11, 12, 13, 14, 15, 16, 29, 30, 31, 32, 33, 34, 35, 36, 37, 38, 17, 18, 19, 20, 21, 22, 23, 24, 25, 26, 0, 1, 2, 3, 4, 5, 6, 27, 28, 39, 40, 41, 42, 43, 44, 45, 46, 47, 48, 49, 50] (by decide) rfl
  · exact h.sub [7, 8, 9, 10, 11, 12, 13, 14, 15, 16, 17, 18, 19, 20, 21, 22, 23, 24, 25, 26, 29, 30, 31, 32, 33, 34, 35, 36, 37, 38, 0, 1, 2, 3, 4, 5, 6, 27, 28, 39, 40, 41, 42, 43, 44, 45, 46, 47, 48, 49, 50] (by decide) rfl
