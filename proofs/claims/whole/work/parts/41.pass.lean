/-! What a row gives -/
def ltA (u : MS) (A : Nat → Bool) (i j : Nat) : Nat → Nat
  | 0 => 0
  | n + 1 => if u.by_ n = i ∧ A n = true then u.clk (3 * n + j) else ltA u A i j n
def knA (u : MS) (A : Nat → Bool) (r i j : Nat) : Nat := if i = r then cA u A j else ltA u A i j u.nn
def gsA (u : MS) (A : Nat → Bool) : Nat → Nat
  | 0 => 0
  | n + 1 => if A n = true then max (gsA u A n) (u.stp n) else gsA u A n
def erA (u : MS) (A : Nat → Bool) (f : Nat) : Bool := orF (fun n => decide (u.let_ n = 0) && (decide (u.oth n = f + 1) && A n)) u.nn
def kpA (u : MS) (A G : Nat → Bool) (o : Nat) : Bool := decide (0 < u.let_ o) && (A o && !G o)
theorem knw_lt {u : MS} (hL : LogP u) (r i j : Nat) : ∀ n, n ≤ u.nn → (knwM u r i j n).1 ≤ nbM u i n ∧ (knwM u r i j n).2 = ltA u (rowF u.app r) i j n
  | 0, _ => ⟨Nat.le_refl 0, rfl⟩
  | n + 1, h => by
    obtain ⟨h1, h2⟩ := knw_lt hL r i j n (by omega)
    have hm := nb_mono (u := u) (j := i) (show n ≤ n + 1 by omega)
    by_cases hb : u.by_ n = i
    · have hl := hL.ln (show n < u.nn by omega)
      have hp := nb_lt (u := u) (show n < n + 1 by omega)
      rw [hb] at hl hp
      cases ha : u.app (100 * r + n) with
      | true =>
        rw [knwM_t hb ha (by omega), ltA, if_pos ⟨hb, ha⟩]
        exact ⟨by show u.line n ≤ _; omega, rfl⟩
      | false =>
        rw [knwM_f2 ha, ltA, if_neg (fun q => by have := q.2.symm.trans ha; cases this)]
        exact ⟨by omega, h2⟩
    · rw [knwM_f hb, ltA, if_neg (fun q => hb q.1)]
      exact ⟨by omega, h2⟩
theorem knM_knA {u : MS} (hL : LogP u) (r i j : Nat) : knM u r i j = knA u (rowF u.app r) r i j := by
  unfold knM knA
  rw [cntM_cA, (knw_lt hL r i j u.nn (Nat.le_refl _)).2]
theorem gst_gsA (u : MS) (r : Nat) : ∀ n, gstM u r n = gsA u (rowF u.app r) n
  | 0 => rfl
  | n + 1 => by
    have ih := gst_gsA u r n
    cases ha : u.app (100 * r + n) with
    | true =>
      by_cases hs : gstM u r n < u.stp n
      · rw [gstM_t ha hs, gsA, if_pos (show rowF u.app r n = true from ha), ← ih, Nat.max_eq_right (by omega)]
      · rw [gstM_f2 (by omega), gsA, if_pos (show rowF u.app r n = true from ha), ← ih, Nat.max_eq_left (by omega)]
    | false => rw [gstM_f1 ha, gsA, if_neg (fun q => by have := q.symm.trans ha; cases this), ih]
theorem gsA_le {u : MS} (hL : LogP u) (A : Nat → Bool) : ∀ n, n ≤ u.nn → gsA u A n ≤ n
  | 0, _ => Nat.le_refl 0
  | n + 1, h => by
    have h1 := gsA_le hL A n (by omega)
    have h2 := hL.s1 (show n < u.nn by omega)
    rw [gsA]
    split
    · omega
    · omega
theorem gsA_ge {u : MS} {A : Nat → Bool} {o : Nat} (ha : A o = true) : ∀ {n : Nat}, o < n → u.stp o ≤ gsA u A n
  | 0, h => absurd h (Nat.not_lt_zero o)
  | n + 1, h => by
    rw [gsA]
    by_cases hz : o = n
    · subst hz; rw [if_pos ha]; omega
    · have := gsA_ge (u := u) ha (n := n) (by omega)
      split <;> omega
section UPD
variable {u : MS} {A G : Nat → Bool} {r o : Nat}
theorem gsA_congr {B : Nat → Bool} : ∀ {n : Nat}, (∀ k, k < n → A k = B k) → gsA u A n = gsA u B n
  | 0, _ => rfl
  | n + 1, h => by rw [gsA, gsA, gsA_congr (n := n) (fun k hk => h k (by omega)), h n (by omega)]
theorem ltA_congr {B : Nat → Bool} {i j : Nat} : ∀ {n : Nat}, (∀ k, k < n → A k = B k) → ltA u A i j n = ltA u B i j n
  | 0, _ => rfl
  | n + 1, h => by rw [ltA, ltA, ltA_congr (n := n) (fun k hk => h k (by omega)), h n (by omega)]
theorem gsA_up (ha : A o = false) : ∀ {n : Nat}, o < n → gsA u (va_up A o true) n = max (gsA u A n) (u.stp o)
  | 0, h => absurd h (Nat.not_lt_zero o)
  | n + 1, h => by
    rw [gsA, gsA]
    by_cases hz : o = n
    · subst hz
      rw [va_up_self, if_pos rfl, if_neg (by rw [ha]; decide), gsA_congr (fun k hk => va_up_ne A true (by omega))]
    · have := gsA_up ha (n := n) (by omega)
      rw [va_up_ne A true (by omega), this]
      split
      · omega
      · rfl
theorem ltA_up (hL : LogP u) {W : Nat → Bool} (h : RowP u r A W) (ho : o < u.nn) (ha : A o = false) (i j : Nat) : ∀ n, n ≤ u.nn → ltA u (va_up A o true) i j n = if u.by_ o = i ∧ o < n then u.clk (3 * o + j) else ltA u A i j n
  | 0, _ => by rw [if_neg (fun q => absurd q.2 (Nat.not_lt_zero o))]; rfl
  | n + 1, hn => by
    have ih := ltA_up hL h ho ha i j n (by omega)
    rw [ltA, ltA]
    by_cases hz : n = o
    · subst hz
      rw [va_up_self]
      by_cases hb : u.by_ n = i
      · rw [if_pos ⟨hb, rfl⟩, if_pos ⟨hb, by omega⟩]
      · rw [if_neg (fun q => hb q.1), if_neg (fun q => hb q.1), ih, if_neg (fun q => hb q.1), if_neg (fun q => hb q.1)]
    · rw [va_up_ne A true hz, ih]
      by_cases hc : u.by_ n = i ∧ A n = true
      · rw [if_pos hc]
        by_cases hb : u.by_ o = i ∧ o < n + 1
        · exfalso
          have hd := hL.dow (p := o) (show n < u.nn by omega) ho (hb.1.trans hc.1.symm) (Nat.le_of_lt (hL.own (show n < u.nn by omega) (show o < n by omega) (hb.1.trans hc.1.symm)))
          rw [h.cl hL ho (show n < u.nn by omega) hc.2 hd] at ha
          cases ha
        · rw [if_neg hb, if_pos hc]
      · rw [if_neg hc]
        by_cases hb : u.by_ o = i ∧ o < n
        · rw [if_pos hb, if_pos ⟨hb.1, by omega⟩]
        · rw [if_neg hb, if_neg (fun q => hb ⟨q.1, by omega⟩), if_neg hc]
theorem knA_up (hL : LogP u) {W : Nat → Bool} (h : RowP u r A W) (ho : o < u.nn) (ha : A o = false) (i j : Nat) : knA u (va_up A o true) r i j = if i = r then cA u A j + (if j = u.by_ o then 1 else 0) else if u.by_ o = i then u.clk (3 * o + j) else knA u A r i j := by
  unfold knA
  by_cases hi : i = r
  · rw [if_pos hi, if_pos hi, cA_up ho ha]
  · rw [if_neg hi, if_neg hi, if_neg hi, ltA_up hL h ho ha i j u.nn (Nat.le_refl _)]
    by_cases hb : u.by_ o = i
    · rw [if_pos ⟨hb, ho⟩, if_pos hb]
    · rw [if_neg (fun q => hb q.1), if_neg hb]
theorem erA_up (ho : o < u.nn) (f : Nat) : erA u (va_up A o true) f = (erA u A f || (decide (u.let_ o = 0) && decide (u.oth o = f + 1))) := by
  unfold erA
  rw [Bool.eq_iff_iff, Bool.or_eq_true, orF_iff, orF_iff]
  simp only [Bool.and_eq_true, decide_eq_true_eq]
  constructor
  · rintro ⟨i, h1, h2, h3, h4⟩
    by_cases hz : i = o
    · subst hz; exact Or.inr ⟨h2, h3⟩
    · rw [va_up_ne A true hz] at h4
      exact Or.inl ⟨i, h1, h2, h3, h4⟩
  · rintro (⟨i, h1, h2, h3, h4⟩ | ⟨h2, h3⟩)
    · refine ⟨i, h1, h2, h3, ?_⟩
      unfold va_up
      split
      · rfl
      · exact h4
    · exact ⟨o, ho, h2, h3, va_up_self A o true⟩
theorem kpA_up (hg : G o = false) (k : Nat) : kpA u (va_up A o true) G k = if k = o then decide (0 < u.let_ o) else kpA u A G k := by
  unfold kpA
  by_cases hk : k = o
  · subst hk; rw [if_pos rfl, va_up_self, hg]; simp
  · rw [if_neg hk, va_up_ne A true hk]
theorem kpA_num (ho : o < u.nn) (ha : A o = false) (hg : G o = false) : numF (kpA u (va_up A o true) G) u.nn = numF (kpA u A G) u.nn + if u.let_ o = 0 then 0 else 1 := by
  by_cases hl : u.let_ o = 0
  · rw [if_pos hl, Nat.add_zero]
    refine numF_congr (fun k hk => ?_)
    rw [kpA_up hg]
    by_cases hk2 : k = o
    · subst hk2; unfold kpA; rw [if_pos rfl, ha, decide_eq_false (by omega)]; rfl
    · rw [if_neg hk2]
  · rw [if_neg hl, ← numF_upt (g := kpA u A G) ho (by unfold kpA; rw [ha]; simp)]
    refine numF_congr (fun k hk => ?_)
    rw [kpA_up hg]
    unfold va_up
    by_cases hk2 : k = o
    · rw [if_pos hk2, if_pos hk2]; exact decide_eq_true (by omega)
    · rw [if_neg hk2, if_neg hk2]
end UPD
/-! THE REFERENCE's deliveries -/
section PAS
variable {u : MS} {r : Nat} {a w : Nat → Bool}
theorem rdy_st (a w : Nat → Bool) (o : Nat) : rdyM (stM u a w) r o 3 = true ↔ rdyP u (rowF a r) o := rdyM_iff (stM u a w) r o
theorem pas_all (hL : LogP u) (h : RowP u r (rowF a r) (rowF w r)) : ∀ k, k ≤ u.nn →
    RowP u r (rowF (pasF u r a w k).1 r) (rowF (pasF u r a w k).2.1 r) ∧ QuiP u (rowF (pasF u r a w k).1 r) (rowF (pasF u r a w k).2.1 r) k ∧
    (∀ o, (rowF (pasF u r a w k).1 r o || rowF (pasF u r a w k).2.1 r o) = (rowF a r o || rowF w r o)) ∧
    (∀ i, (∀ o, o < u.nn → i ≠ 100 * r + o) → (pasF u r a w k).1 i = a i ∧ (pasF u r a w k).2.1 i = w i) ∧
    numF (rowF (pasF u r a w k).1 r) u.nn = numF (rowF a r) u.nn + (pasF u r a w k).2.2 ∧ (∀ o, rowF a r o = true → rowF (pasF u r a w k).1 r o = true)
  | 0, _ => ⟨h, fun o ho => absurd ho (Nat.not_lt_zero o), fun _ => rfl, fun _ _ => ⟨rfl, rfl⟩, rfl, fun _ h => h⟩
  | k + 1, hk => by
    obtain ⟨h1, h2, h3, h4, h5, h6⟩ := pas_all hL h k (by omega)
    by_cases c : (pasF u r a w k).2.1 (100 * r + k) = true ∧ rdyM (stM u (pasF u r a w k).1 (pasF u r a w k).2.1) r k 3 = true
    · rw [pasF_t c.1 c.2]
      have hr := (rdy_st _ _ k).mp c.2
      have ha : rowF (pasF u r a w k).1 r k = false := h1.w (show k < u.nn by omega) c.1
      refine ⟨?_, ?_, ?_, ?_, ?_, ?_⟩
      · show RowP u r (rowF (va_up (pasF u r a w k).1 (100 * r + k) true) r) (rowF (va_up (pasF u r a w k).2.1 (100 * r + k) false) r)
        rw [row_up, row_up]
        exact row_apply hL h1 (by omega) ha hr
      · show QuiP u (rowF (va_up (pasF u r a w k).1 (100 * r + k) true) r) (rowF (va_up (pasF u r a w k).2.1 (100 * r + k) false) r) (k + 1)
        rw [row_up, row_up]
        exact qui_apply hL (by omega) ha hr h2
      · intro o
        show (rowF (va_up (pasF u r a w k).1 (100 * r + k) true) r o || rowF (va_up (pasF u r a w k).2.1 (100 * r + k) false) r o) = _
        rw [row_up, row_up, ← h3 o]
        by_cases ho : o = k
        · subst ho
          rw [va_up_self, Bool.true_or, show rowF (pasF u r a w o).2.1 r o = true from c.1, Bool.or_true]
        · rw [va_up_ne _ _ ho, va_up_ne _ _ ho]
      · intro i hi
        have := h4 i hi
        have hne := hi k (by omega)
        exact ⟨(va_up_ne _ _ hne).trans this.1, (va_up_ne _ _ hne).trans this.2⟩
      · show numF (rowF (va_up (pasF u r a w k).1 (100 * r + k) true) r) u.nn = numF (rowF a r) u.nn + ((pasF u r a w k).2.2 + 1)
        rw [row_up, numF_upt (by omega) ha, h5]
        omega
      · intro o ho
        show rowF (va_up (pasF u r a w k).1 (100 * r + k) true) r o = true
        rw [row_up]
        unfold va_up
        split
        · rfl
        · exact h6 o ho
    · have e : pasF u r a w (k + 1) = pasF u r a w k := by rw [pasF, if_neg c]
      rw [e]
      refine ⟨h1, fun o ho hw => ?_, h3, h4, h5, h6⟩
      by_cases hz : o = k
      · subst hz
        exact fun q => c ⟨hw, (rdy_st _ _ o).mpr q⟩
      · exact h2 o (by omega) hw
theorem pas_idle (hq : QuiP u (rowF a r) (rowF w r) u.nn) : ∀ k, k ≤ u.nn → pasF u r a w k = (a, w, 0)
  | 0, _ => rfl
  | k + 1, hk => by
    have ih := pas_idle hq k (by omega)
    cases hw : w (100 * r + k) with
    | false => rw [pasF_f1 (by rw [ih]; exact hw), ih]
    | true =>
      have : rdyM (stM u (pasF u r a w k).1 (pasF u r a w k).2.1) r k 3 = false := by
        rw [ih]
        cases hr : rdyM (stM u a w) r k 3 with
        | false => rfl
        | true => exact absurd ((rdy_st a w k).mp hr) (hq k (by omega) hw)
      rw [pasF_f2 this, ih]
theorem row_recv {A W : Nat → Bool} {o : Nat} (h : RowP u r A W) (ha : A o = false) : RowP u r A (va_up W o true) := by
  intro k hk
  refine ⟨h.a hk, fun q j hj => h.k hk q hj, fun q => h.me hk q, fun q => ?_⟩
  by_cases hz : k = o
  · subst hz; exact ha
  · rw [va_up_ne W true hz] at q
    exact h.w hk q
theorem idl_of (hL : LogP u) (h : RowP u r (rowF u.app r) (rowF u.wts r)) {o : Nat} : idlD u r o := by
  intro h1 h2
  have h3 : RowP u r (rowF u.app r) (rowF (va_up u.wts (100 * r + o) true) r) := by
    rw [row_up]
    exact row_recv h h1
  exact pas_idle (pas_all hL h3 u.nn (Nat.le_refl _)).2.1 u.nn (Nat.le_refl _)
end PAS
