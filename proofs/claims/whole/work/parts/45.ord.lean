/-! THE ORDER with an operation more -/
theorem ord_cg {par par' : Nat → Nat} {sn sn' : Nat → Nat → Prop} {X X' : Nat → Nat} {E : Nat} (h : OrdP par sn X E) (h0 : par 0 = 0) (h0' : par' 0 = 0) (hX : ∀ i, i ≤ E → X' i = X i) (hp : ∀ i, 1 ≤ i → i ≤ E → par' (X i) = par (X i)) (hs : ∀ i j, 1 ≤ i → i ≤ E → 1 ≤ j → j ≤ E → sn' (X i) (X j) → sn (X i) (X j)) : OrdP par' sn' X' E := by
  have up : ∀ k i, i ≤ E → up_k par' k (X i) = up_k par k (X i) := by
    intro k
    induction k with
    | zero => intro i hi; rfl
    | succ k ih =>
      intro i hi
      show up_k par' k (par' (X i)) = up_k par k (par (X i))
      by_cases hz : i = 0
      · have e := ih 0 (by omega)
        rw [hz, h.1, h0, h0']
        rw [h.1] at e
        exact e
      · obtain ⟨j, j1, j2⟩ := h.2.2.1 i (by omega) hi
        rw [hp i (by omega) hi, ← j2]
        exact ih j (by omega)
  have an : ∀ i j, i ≤ E → j ≤ E → (anc par' (X i) (X j) ↔ anc par (X i) (X j)) := by
    intro i j hi hj
    unfold anc
    refine ⟨fun ⟨k, hk⟩ => ⟨k, by rw [← up k j hj]; exact hk⟩, fun ⟨k, hk⟩ => ⟨k, by rw [up k j hj]; exact hk⟩⟩
  refine ⟨by rw [hX 0 (by omega)]; exact h.1, fun i j hi hj q => ?_, fun i h1 hi => ?_, fun i k j h1 h2 h3 q => ?_, fun i j h1 h2 h3 h4 q1 q2 => ?_⟩
  · rw [hX i hi, hX j hj] at q
    exact h.2.1 i j hi hj q
  · obtain ⟨j, j1, j2⟩ := h.2.2.1 i h1 hi
    exact ⟨j, j1, by rw [hX i hi, hX j (by omega), hp i h1 hi]; exact j2⟩
  · rw [hX i (by omega), hX j h3] at q
    rw [hX i (by omega), hX k (by omega), an i k (by omega) (by omega)]
    exact h.2.2.2.1 i k j h1 h2 h3 ((an i j (by omega) h3).mp q)
  · rw [hX i h2, hX j h4, hp i h1 h2, hp j h3 h4] at q1
    rw [hX i h2, hX j h4] at q2
    exact h.2.2.2.2 i j h1 h2 h3 h4 q1 (hs i j h1 h2 h3 h4 q2)
theorem xo_ins (ord : Nat → Nat) {el k e : Nat} (hk : k ≤ el) : ∀ i, i ≤ el + 1 → XO (va_up (shU ord el k) k e) i = insX (XO ord) (k + 1) (e + 1) i := by
  intro i hi
  by_cases h0 : i = 0
  · subst h0; rw [insX_lt (by omega)]; rfl
  · obtain ⟨j, rfl⟩ : ∃ j, i = j + 1 := ⟨i - 1, by omega⟩
    rw [XO_s]
    by_cases h1 : j < k
    · rw [insX_lt (by omega), XO_s, va_up_ne _ _ (by omega), shU_lo (by omega)]
    · by_cases h2 : j = k
      · rw [h2, insX_eq, va_up_self]
      · rw [insX_gt (show k + 1 ≤ j by omega), va_up_ne _ _ h2]
        obtain ⟨m, rfl⟩ : ∃ m, j = m + 1 := ⟨j - 1, by omega⟩
        unfold shU
        rw [if_pos (by omega), XO_s]
        rfl
section OEX
variable {x : LgS} {y : RpS} {u u' : MS} {r ch t k ib : Nat} {A B W G : Nat → Bool}
/-- the old order, under the new log -/
theorem ord_old (h : ExtP u u' r ch t A) (hO : OrdC x u) : OrdP (parM u') (snC u') (XO x.ord) x.el := by
  refine ord_cg hO.1 rfl rfl (fun i _ => rfl) (fun i h1 h2 => ?_) (fun i j h1 h2 h3 h4 q => ?_)
  · rw [XO_p x.ord h1]
    exact h.oth (hO.2.1 _ (by omega)).1
  · unfold snC at q ⊢
    have e1 := (hO.2.1 (i - 1) (by omega)).1
    have e2 := (hO.2.1 (j - 1) (by omega)).1
    rw [XO_p x.ord h1, XO_p x.ord h3, Nat.add_sub_cancel, Nat.add_sub_cancel] at q ⊢
    rw [snM_iff] at q ⊢
    rw [h.stp e1, h.stp e2, h.by_ e1, h.by_ e2] at q
    exact q
/-- an erase -/
theorem ord_ers {x' : LgS} (h : ExtP u u' r ch t A) (hO : OrdC x u) (hc : ch = 0) (h1 : x'.ord = x.ord) (h2 : x'.el = x.el) : OrdC x' u' := by
  unfold OrdC
  rw [h1, h2]
  refine ⟨ord_old h hO, fun i hi => ?_, fun o ho hl => ?_, ?_⟩
  · have := hO.2.1 i hi
    rw [h.nn, h.let_ this.1]
    exact ⟨by omega, this.2⟩
  · rw [h.nn] at ho
    by_cases hz : o = u.nn
    · rw [hz, h.nlet, hc] at hl; exact absurd hl (by omega)
    · rw [h.let_ (by omega)] at hl
      exact hO.2.2.1 o (by omega) hl
  · rw [h.nn, numF_f (by rw [h.nlet, hc]; decide), hO.2.2.2]
    exact numF_congr (fun o ho => by rw [h.let_ ho])
/-- an insert -/
theorem ord_isr {x' : LgS} (h : ExtP u u' r ch t A) (hL' : LogP u') (hO : OrdC x u) (hc : 0 < ch) (h1 : x'.ord = va_up (shU x.ord x.el k) k u.nn) (h2 : x'.el = x.el + 1) (hib : XO x.ord ib = t) (hbk : ib ≤ k) (hk : k ≤ x.el) (hs : ∀ j, ib ≤ j → j < k → snM u' (x.ord j) u.nn = true) (hst : k < x.el → snM u' (x.ord k) u.nn = false) : OrdC x' u' := by
  have hold := ord_old h hO
  have hn1 : u.nn < u'.nn := by rw [h.nn]; omega
  have hel : ∀ i, i < x.el → x.ord i < u'.nn := fun i hi => by have := (hO.2.1 i hi).1; omega
  have hX : ∀ i, i ≤ x.el → XO x.ord i ≤ u.nn := fun i hi => by
    by_cases hz : i = 0
    · rw [hz]; exact Nat.zero_le _
    · have := (hO.2.1 (i - 1) (by omega)).1
      rw [XO_p x.ord (by omega)]
      omega
  have hins := ord_ins hold (snp_el hL' hold hel) (e := u.nn + 1) (t := ib) (k := k + 1) (h.noth.trans hib.symm) (by omega) (by omega) (fun i hi q => by have := hX i hi; omega) (fun q => by
    rw [hib] at q ⊢
    have := sn_par hL' hn1 (by rw [h.noth]; omega)
    rw [h.noth] at this
    exact this) (fun i q1 q2 => by
    unfold snC
    rw [XO_p x.ord (by omega)]
    exact hs (i - 1) (by omega) (by omega)) (fun q z => by
    unfold snC at z
    rw [XO_s] at z
    have := hst (by omega)
    rw [Nat.add_sub_cancel, Nat.add_sub_cancel, this] at z
    cases z)
  have hpos : ∀ i, i < x.el + 1 → va_up (shU x.ord x.el k) k u.nn i = u.nn ∨ ∃ j, j < x.el ∧ va_up (shU x.ord x.el k) k u.nn i = x.ord j := by
    intro i hi
    unfold va_up shU
    by_cases hz : i = k
    · rw [if_pos hz]; exact Or.inl rfl
    · rw [if_neg hz]
      split
      · exact Or.inr ⟨i - 1, by omega, rfl⟩
      · exact Or.inr ⟨i, by omega, rfl⟩
  unfold OrdC
  rw [h1, h2]
  refine ⟨?_, fun i hi => ?_, fun o ho hl => ?_, ?_⟩
  · exact ord_cg hins rfl rfl (xo_ins x.ord hk) (fun _ _ _ => rfl) (fun _ _ _ _ _ _ q => q)
  · rcases hpos i hi with q | ⟨j, j1, j2⟩
    · rw [q, h.nlet]; exact ⟨hn1, hc⟩
    · have := hO.2.1 j j1
      rw [j2, h.let_ this.1]
      exact ⟨by omega, this.2⟩
  · rw [h.nn] at ho
    by_cases hz : o = u.nn
    · exact ⟨k, by omega, by rw [va_up_self, hz]⟩
    · rw [h.let_ (by omega)] at hl
      obtain ⟨i, i1, i2⟩ := hO.2.2.1 o (by omega) hl
      by_cases hik : i < k
      · exact ⟨i, by omega, by rw [va_up_ne _ _ (by omega), shU_lo (by omega)]; exact i2⟩
      · refine ⟨i + 1, by omega, ?_⟩
        rw [va_up_ne _ _ (by omega)]
        unfold shU
        rw [if_pos (by omega)]
        exact i2
  · rw [h.nn, numF_t (by rw [h.nlet]; exact decide_eq_true hc), hO.2.2.2]
    congr 1
    exact numF_congr (fun o ho => by rw [h.let_ ho])
/-- who has not got the new element holds what it held -/
theorem hd_ins {x' : LgS} (h1 : x'.ord = va_up (shU x.ord x.el k) k u.nn) (h2 : x'.el = x.el + 1) (hk : k ≤ x.el) (hB : B u.nn = false) : hdL x' B = hdL x B := by
  unfold hdL
  have hx := xo_ins x.ord (e := u.nn) hk
  rw [h1, h2, show x.el + 1 = (k + 1) + (x.el - k) by omega, held_app, held_app 1 k 0]
  have e0 : heldL (XO (va_up (shU x.ord x.el k) k u.nn)) (hdG B) 1 (0 + k) = [] := by
    rw [heldL, heldL, Nat.zero_add, hx (k + 1) (by omega), insX_eq, if_neg (by unfold hdG; rw [Nat.add_sub_cancel, hB]; decide)]
  have e1 : heldL (XO (va_up (shU x.ord x.el k) k u.nn)) (hdG B) k 0 = heldL (XO x.ord) (hdG B) k 0 := by
    refine held_congr k 0 0 (fun i i1 i2 => ?_)
    have : XO (va_up (shU x.ord x.el k) k u.nn) (0 + i) = XO x.ord (0 + i) := by rw [hx (0 + i) (by omega), insX_lt (by omega)]
    rw [this]; exact ⟨rfl, rfl⟩
  have e2 : heldL (XO (va_up (shU x.ord x.el k) k u.nn)) (hdG B) (x.el - k) (0 + (k + 1)) = heldL (XO x.ord) (hdG B) (x.el - k) (0 + k) := by
    refine held_congr (x.el - k) (0 + (k + 1)) (0 + k) (fun i i1 i2 => ?_)
    have : XO (va_up (shU x.ord x.el k) k u.nn) (0 + (k + 1) + i) = XO x.ord (0 + k + i) := by
      rw [hx _ (by omega), show 0 + (k + 1) + i = (0 + k + i) + 1 by omega, insX_gt (by omega)]
    rw [this]; exact ⟨rfl, rfl⟩
  rw [e0, e1, e2, List.append_nil, ← held_app, show k + (x.el - k) = x.el by omega]
theorem tc_ext {x' : LgS} (h : ExtP u u' r ch t A) (hB : B u.nn = false) (hd : hdL x' B = hdL x B) (hT : TC x u y B) : TC x' u' y B := by
  have e : TX x' u' B = TX x u B := by
    unfold TX
    rw [hd]
    have : erA u' B = erA u B := by funext f; rw [ext_er h, hB]; simp
    rw [this]
  unfold TC
  rw [e]
  exact hT
end OEX
