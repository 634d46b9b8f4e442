/-! THE INVARIANT; deliver and sync -/
def RepP (x : LgS) (y : RpS) (u : MS) (r : Nat) (A W G : Nat → Bool) : Prop :=
  RowP u r A W ∧ QuiP u A W u.nn ∧ (∀ o, u.nn ≤ o → o < 100 → A o = false ∧ W o = false ∧ G o = false) ∧ (∀ o, o < u.nn → G o = true → A o = true) ∧ CR u y r A W G ∧ TC x u y A
def INV (x : LgS) (y : Nat → RpS) (u : MS) : Prop := LogP u ∧ CL x u ∧ OrdC x u ∧ ∀ r, r < 3 → RepP x (y r) u r (rowF u.app r) (rowF u.wts r) (rowF u.gon r)
def StP (u v : MS) : Prop := v = u ∨ ∃ a w, v = stM u a w
section IV
variable {x : LgS} {y y1 : RpS} {u v : MS} {r : Nat} {A W G A2 W2 G2 : Nat → Bool}
theorem RepP.row (h : RepP x y u r A W G) : RowP u r A W := h.1
theorem RepP.qui (h : RepP x y u r A W G) : QuiP u A W u.nn := h.2.1
theorem RepP.out (h : RepP x y u r A W G) {o : Nat} (h1 : u.nn ≤ o) (h2 : o < 100) : A o = false ∧ W o = false ∧ G o = false := h.2.2.1 o h1 h2
theorem RepP.ga (h : RepP x y u r A W G) {o : Nat} (h1 : o < u.nn) (h2 : G o = true) : A o = true := h.2.2.2.1 o h1 h2
theorem RepP.cr (h : RepP x y u r A W G) : CR u y r A W G := h.2.2.2.2.1
theorem RepP.tc (h : RepP x y u r A W G) : TC x u y A := h.2.2.2.2.2
theorem StP.nn (h : StP u v) : v.nn = u.nn := by rcases h with rfl | ⟨a, w, rfl⟩ <;> rfl
theorem StP.gon (h : StP u v) : v.gon = u.gon := by rcases h with rfl | ⟨a, w, rfl⟩ <;> rfl
theorem StP.log (h : StP u v) : LogP v = LogP u := by rcases h with rfl | ⟨a, w, rfl⟩ <;> rfl
theorem StP.row (h : StP u v) : RowP v r A W = RowP u r A W := by rcases h with rfl | ⟨a, w, rfl⟩ <;> rfl
theorem StP.qui (h : StP u v) (n : Nat) : QuiP v A W n = QuiP u A W n := by rcases h with rfl | ⟨a, w, rfl⟩ <;> rfl
theorem StP.cl (h : StP u v) : CL x v = CL x u := by rcases h with rfl | ⟨a, w, rfl⟩ <;> rfl
theorem StP.ord (h : StP u v) : OrdC x v = OrdC x u := by rcases h with rfl | ⟨a, w, rfl⟩ <;> rfl
theorem lt_st (a w : Nat → Bool) (i j : Nat) : ∀ n, ltA (stM u a w) A i j n = ltA u A i j n
  | 0 => rfl
  | n + 1 => by rw [ltA, ltA, lt_st a w i j n]; rfl
theorem gs_st (a w : Nat → Bool) : ∀ n, gsA (stM u a w) A n = gsA u A n
  | 0 => rfl
  | n + 1 => by rw [gsA, gsA, gs_st a w n]; rfl
theorem cr_st (a w : Nat → Bool) : CR (stM u a w) y r A W G = CR u y r A W G := by
  unfold CR knA
  simp only [lt_st, gs_st]
  rfl
theorem StP.rep (h : StP u v) : RepP x y v r A W G = RepP x y u r A W G := by
  rcases h with rfl | ⟨a, w, rfl⟩
  · rfl
  · unfold RepP
    rw [cr_st]
    rfl
theorem StP.st (h : StP u v) (a w : Nat → Bool) : StP u (stM v a w) := by
  rcases h with rfl | ⟨a', w', rfl⟩
  · exact Or.inr ⟨a, w, rfl⟩
  · exact Or.inr ⟨a, w, rfl⟩
theorem QuiP.congr {n : Nat} (hn : n ≤ u.nn) (h : QuiP u A W n) (ha : ∀ o, o < u.nn → A o = A2 o) (hw : ∀ o, o < u.nn → W o = W2 o) : QuiP u A2 W2 n := by
  intro o ho hw2 hr
  rw [← hw o (by omega)] at hw2
  refine h o ho hw2 ⟨?_, fun j hj => ?_⟩
  · rw [cA_congr ha]; exact hr.1
  · rw [cA_congr ha]; exact hr.2 j hj
theorem TC.congr (hO : OrdC x u) (h : TC x u y A) (ha : ∀ o, o < u.nn → A o = A2 o) : TC x u y A2 := by
  have e : TX x u A2 = TX x u A := by
    unfold TX hdL
    have e1 : erA u A2 = erA u A := by funext f; exact (erA_congr ha f).symm
    have e2 : heldL (XO x.ord) (hdG A2) x.el 0 = heldL (XO x.ord) (hdG A) x.el 0 := by
      refine held_congr x.el 0 0 (fun k k1 k2 => ⟨rfl, ?_⟩)
      rw [Nat.zero_add, XO_p x.ord k1]
      exact (ha _ (hO.2.1 (k - 1) (by omega)).1).symm
    rw [e1, e2]
  unfold TC
  rw [e]
  exact h
theorem RepP.congr (hL : LogP u) (hO : OrdC x u) (h : RepP x y u r A W G) (ha : ∀ o, o < 100 → A o = A2 o) (hw : ∀ o, o < 100 → W o = W2 o) (hg : ∀ o, o < 100 → G o = G2 o) : RepP x y u r A2 W2 G2 := by
  have hn := hL.ok.n
  have ha' : ∀ o, o < u.nn → A o = A2 o := fun o ho => ha o (by omega)
  have hw' : ∀ o, o < u.nn → W o = W2 o := fun o ho => hw o (by omega)
  have hg' : ∀ o, o < u.nn → G o = G2 o := fun o ho => hg o (by omega)
  refine ⟨h.row.congr ha' hw', h.qui.congr (Nat.le_refl _) ha' hw', fun o h1 h2 => ?_, fun o h1 h2 => ?_, h.cr.congr ha' hw' hg', h.tc.congr hO ha'⟩
  · rw [← ha o h2, ← hw o h2, ← hg o h2]; exact h.out h1 h2
  · rw [← ha' o h1]
    rw [← hg' o h1] at h2
    exact h.ga h1 h2
theorem up_same {α : Type} (y : Nat → α) (r : Nat) : va_up y r (y r) = y := by
  funext k
  unfold va_up
  by_cases h : k = r
  · rw [if_pos h, h]
  · rw [if_neg h]
theorem CR.rw (hok : okL x) (h : CR u y r A W G) : CR u (rwR x y) r A W G :=
  ⟨okR_rw hok h.ok, h.self, fun _ _ hi hj => h.sn hi hj, fun _ _ hj => h.s0 hj, fun _ ho => h.wt ho, fun _ ho => h.w0 ho, h.wc, fun f => h.er f, fun _ ho => h.kp ho, fun _ ho => h.k0 ho, h.kc, h.gs⟩
theorem pas_zero {a w : Nat → Bool} : ∀ k, (pasF u r a w k).2.2 = 0 → (pasF u r a w k).1 = a ∧ (pasF u r a w k).2.1 = w
  | 0, _ => ⟨rfl, rfl⟩
  | k + 1, h => by
    by_cases c : (pasF u r a w k).2.1 (100 * r + k) = true ∧ rdyM (stM u (pasF u r a w k).1 (pasF u r a w k).2.1) r k 3 = true
    · rw [pasF_t c.1 c.2] at h
      exact absurd h (Nat.succ_ne_zero _)
    · have e : pasF u r a w (k + 1) = pasF u r a w k := by rw [pasF, if_neg c]
      rw [e] at h ⊢
      exact pas_zero k h
/-- one pass of the class, from what it has received -/
theorem pass_rep (hL : LogP u) (hC : CL x u) (hO : OrdC x u) {a w : Nat → Bool} (hR : RowP u r (rowF a r) (rowF w r)) (hc : CR u y1 r (rowF a r) (rowF w r) G) (hT : TC x u y1 (rowF a r)) (hz : ∀ o, u.nn ≤ o → o < 100 → rowF a r o = false ∧ rowF w r o = false ∧ G o = false) (hG : ∀ o, o < u.nn → G o = true → rowF a r o = true) :
    RepP x (aprR x y1) u r (rowF (pasF u r a w u.nn).1 r) (rowF (pasF u r a w u.nn).2.1 r) G ∧ (aprF x y1 x.cnt).2 = (pasF u r a w u.nn).2.2 := by
  obtain ⟨p1, p2, p3, p4, p5, p6⟩ := pas_all hL hR u.nn (Nat.le_refl _)
  obtain ⟨q1, q2, q3, q4⟩ := apr_pas hC hL hR hc hG u.nn (Nat.le_refl _)
  have hcn : x.cnt = u.nn := hC.1
  have hn := hL.ok.n
  have hout : ∀ o, u.nn ≤ o → o < 100 → rowF (pasF u r a w u.nn).1 r o = false ∧ rowF (pasF u r a w u.nn).2.1 r o = false ∧ G o = false := by
    intro o h1 h2
    have e := p4 (100 * r + o) (fun o' ho' => by omega)
    have z := hz o h1 h2
    exact ⟨e.1.trans z.1, e.2.trans z.2.1, z.2.2⟩
  rw [hcn]
  refine ⟨⟨p1, p2, hout, fun o h1 h2 => p6 o (hG o h1 h2), ?_, ?_⟩, q2⟩
  · unfold aprR
    rw [hcn]
    split
    · exact q1.rw hC.2.2.2.2.2.2
    · exact q1
  · unfold aprR
    rw [hcn]
    split
    · exact rw_tc hO (fun o ho => has_eq hC hL q1 p1 ho) (fun f => q1.er f)
    · next c =>
      have hz0 := pas_zero u.nn (show (pasF u r a w u.nn).2.2 = 0 by omega)
      rw [hz0.1]
      unfold TC
      rw [q3, q4]
      exact hT
theorem inv_set {y : Nat → RpS} (hI : INV x y u) (hr : r < 3) (hS : StP u v) (hout : ∀ i, (∀ o, o < u.nn → i ≠ 100 * r + o) → v.app i = u.app i ∧ v.wts i = u.wts i) (hrep : RepP x y1 u r (rowF v.app r) (rowF v.wts r) (rowF u.gon r)) : INV x (va_up y r y1) v := by
  obtain ⟨hL, hC, hO, hA⟩ := hI
  have hn := hL.ok.n
  refine ⟨by rw [hS.log]; exact hL, by rw [hS.cl]; exact hC, by rw [hS.ord]; exact hO, fun q hq => ?_⟩
  rw [hS.rep, hS.gon]
  by_cases hqr : q = r
  · rw [hqr, va_up_self]; exact hrep
  · rw [va_up_ne _ _ hqr]
    refine (hA q hq).congr hL hO (fun o ho => ?_) (fun o ho => ?_) (fun o ho => rfl)
    · exact (hout (100 * q + o) (fun o' ho' => by omega)).1.symm
    · exact (hout (100 * q + o) (fun o' ho' => by omega)).2.symm
theorem row_n {a : Nat → Bool} {o : Nat} : rowF a r o = a (100 * r + o) := rfl
theorem rcW_u {o : Nat} (h1 : u.app (100 * r + o) = false) (h2 : u.wts (100 * r + o) = false) : rcW (rowF u.app r) (rowF u.wts r) o = rowF (va_up u.wts (100 * r + o) true) r := by
  unfold rcW
  rw [if_pos ⟨h1, h2⟩, row_up]
theorem rcW_o {o : Nat} (h : u.app (100 * r + o) = true ∨ u.wts (100 * r + o) = true) : rcW (rowF u.app r) (rowF u.wts r) o = rowF u.wts r := by
  unfold rcW
  rw [if_neg (fun q => by
    rcases h with z | z
    · exact absurd (z.symm.trans q.1) (by decide)
    · exact absurd (z.symm.trans q.2) (by decide))]
theorem dlv_inv {y : Nat → RpS} (hI : INV x y u) (hr : r < 3) {o : Nat} (ho : o < u.nn) : (aprF x (rcvR x (y r) o) x.cnt).2 = (dlvM u r o).2 ∧ INV x (va_up y r (aprR x (rcvR x (y r) o))) (dlvM u r o).1 := by
  obtain ⟨hL, hC, hO, hA⟩ := id hI
  have hp := hA r hr
  obtain ⟨c1, c2, c3⟩ := rcv_cr hC hL hp.row hp.cr ho
  have hT : TC x u (rcvR x (y r) o) (rowF u.app r) := by
    have := hp.tc
    unfold TC at this ⊢
    rw [c2, c3]
    exact this
  have hn := hL.ok.n
  by_cases hd : u.app (100 * r + o) = true ∨ u.wts (100 * r + o) = true
  · rw [dlvM_old hd]
    rw [rcW_o hd] at c1
    have h1 := pass_rep hL hC hO hp.row c1 hT (fun o h1 h2 => hp.out h1 h2) (fun o h1 h2 => hp.ga h1 h2)
    rw [pas_idle hp.qui u.nn (Nat.le_refl _)] at h1
    exact ⟨h1.2, inv_set hI hr (Or.inl rfl) (fun i _ => ⟨rfl, rfl⟩) h1.1⟩
  · have d1 : u.app (100 * r + o) = false := by
      cases h : u.app (100 * r + o) with
      | false => rfl
      | true => exact absurd (Or.inl h) hd
    have d2 : u.wts (100 * r + o) = false := by
      cases h : u.wts (100 * r + o) with
      | false => rfl
      | true => exact absurd (Or.inr h) hd
    rw [dlvM_new d1 d2]
    rw [rcW_u d1 d2] at c1
    have hR : RowP u r (rowF u.app r) (rowF (va_up u.wts (100 * r + o) true) r) := by
      rw [row_up]; exact row_recv hp.row d1
    have h1 := pass_rep hL hC hO hR c1 hT (fun k h1 h2 => by
      have z := hp.out h1 h2
      rw [row_up, va_up_ne _ _ (by omega)]
      exact z) (fun o h1 h2 => hp.ga h1 h2)
    have hp4 := (pas_all hL hR u.nn (Nat.le_refl _)).2.2.2.1
    refine ⟨h1.2, inv_set hI hr (Or.inr ⟨_, _, rfl⟩) (fun i hi => ?_) h1.1⟩
    have e := hp4 i hi
    refine ⟨e.1, e.2.trans (va_up_ne _ _ (hi o ho))⟩
/-! sync -/
theorem syn_rr : ∀ o, synF u r r o = (u, 0)
  | 0 => rfl
  | o + 1 => by
    have ih := syn_rr o
    cases h : u.app (100 * r + o) with
    | true => rw [synF_t (by rw [ih]; exact h), ih, dlvM_old (Or.inl h)]; rfl
    | false => rw [synF_f (by rw [ih]; exact h), ih]
theorem dlv_st (o : Nat) : ∃ a w, ((dlvM u r o).1 = u ∧ a = u.app ∧ w = u.wts) ∨ ((dlvM u r o).1 = stM u a w) := by
  unfold dlvM
  split
  · exact ⟨_, _, Or.inl ⟨rfl, rfl, rfl⟩⟩
  · exact ⟨_, _, Or.inr rfl⟩
def SyI (u : MS) (r t o : Nat) (v : MS) (c : Nat) : Prop :=
  StP u v ∧ RowP u r (rowF v.app r) (rowF v.wts r) ∧ QuiP u (rowF v.app r) (rowF v.wts r) u.nn ∧ (∀ k, k < u.nn → (rowF v.app r k || rowF v.wts r k) = (rowF u.app r k || rowF u.wts r k || (decide (k < o) && rowF u.app t k))) ∧
  (∀ i, (∀ k, k < u.nn → i ≠ 100 * r + k) → v.app i = u.app i ∧ v.wts i = u.wts i) ∧ numF (rowF v.app r) u.nn = numF (rowF u.app r) u.nn + c
theorem dec_s {k o : Nat} (h : k ≠ o) : decide (k < o + 1) = decide (k < o) := by
  by_cases hq : k < o
  · rw [decide_eq_true hq, decide_eq_true (by omega)]
  · rw [decide_eq_false hq, decide_eq_false (by omega)]
theorem syn_all {t : Nat} (hL : LogP u) (hR : RowP u r (rowF u.app r) (rowF u.wts r)) (hQ : QuiP u (rowF u.app r) (rowF u.wts r) u.nn) : ∀ o, o ≤ u.nn → SyI u r t o (synF u r t o).1 (synF u r t o).2
  | 0, _ => ⟨Or.inl rfl, hR, hQ, fun k _ => by rw [decide_eq_false (Nat.not_lt_zero k), Bool.false_and, Bool.or_false]; rfl, fun _ _ => ⟨rfl, rfl⟩, rfl⟩
  | o + 1, ho => by
    have hn := hL.ok.n
    by_cases htr : t = r
    · subst htr
      rw [syn_rr]
      refine ⟨Or.inl rfl, hR, hQ, fun k hk => ?_, fun _ _ => ⟨rfl, rfl⟩, rfl⟩
      cases h : rowF u.app t k with
      | true => rfl
      | false => rw [Bool.and_false, Bool.or_false]
    · obtain ⟨s1, s2, s3, s4, s5, s6⟩ := syn_all (t := t) hL hR hQ o (by omega)
      have et : (synF u r t o).1.app (100 * t + o) = rowF u.app t o := (s5 _ (fun k hk => by omega)).1
      cases hat : rowF u.app t o with
      | false =>
        rw [synF_f (by rw [et]; exact hat)]
        refine ⟨s1, s2, s3, fun k hk => ?_, s5, s6⟩
        rw [s4 k hk]
        by_cases hko : k = o
        · rw [hko, hat, Bool.and_false, Bool.and_false]
        · rw [dec_s hko]
      | true =>
        rw [synF_t (by rw [et]; exact hat)]
        by_cases hd : (synF u r t o).1.app (100 * r + o) = true ∨ (synF u r t o).1.wts (100 * r + o) = true
        · rw [dlvM_old hd]
          refine ⟨s1, s2, s3, fun k hk => ?_, s5, s6⟩
          rw [s4 k hk]
          by_cases hko : k = o
          · have e := s4 o (by omega)
            have e2 : (rowF (synF u r t o).1.app r o || rowF (synF u r t o).1.wts r o) = true := by
              rw [Bool.or_eq_true]; exact hd
            rw [e2, decide_eq_false (Nat.lt_irrefl o), Bool.false_and, Bool.or_false] at e
            rw [hko, ← e]; rfl
          · rw [dec_s hko]
        · have d1 : (synF u r t o).1.app (100 * r + o) = false := by
            cases h : (synF u r t o).1.app (100 * r + o) with
            | false => rfl
            | true => exact absurd (Or.inl h) hd
          have d2 : (synF u r t o).1.wts (100 * r + o) = false := by
            cases h : (synF u r t o).1.wts (100 * r + o) with
            | false => rfl
            | true => exact absurd (Or.inr h) hd
          rw [dlvM_new d1 d2]
          have hLv : LogP (synF u r t o).1 := by rw [s1.log]; exact hL
          have hRv : RowP (synF u r t o).1 r (rowF (synF u r t o).1.app r) (rowF (va_up (synF u r t o).1.wts (100 * r + o) true) r) := by
            rw [s1.row, row_up]; exact row_recv s2 d1
          obtain ⟨p1, p2, p3, p4, p5, p6⟩ := pas_all hLv hRv (synF u r t o).1.nn (Nat.le_refl _)
          rw [s1.row] at p1
          rw [s1.qui, s1.nn] at p2
          refine ⟨s1.st _ _, by rw [s1.nn] at p1 ⊢; exact p1, by rw [s1.nn]; exact p2, fun k hk => ?_, fun i hi => ?_, ?_⟩
          · have e := p3 k
            refine Eq.trans e ?_
            rw [row_up]
            by_cases hko : k = o
            · subst hko
              rw [va_up_self, Bool.or_true, decide_eq_true (Nat.lt_succ_self k), Bool.true_and, hat, Bool.or_true]
            · rw [va_up_ne _ _ hko, dec_s hko]
              exact s4 k hk
          · have e := p4 i (by rw [s1.nn]; exact hi)
            have e2 := s5 i hi
            exact ⟨e.1.trans e2.1, (e.2.trans (va_up_ne _ _ (hi o (by omega)))).trans e2.2⟩
          · rw [s1.nn] at p5
            show numF (rowF (pasF (synF u r t o).1 r (synF u r t o).1.app (va_up (synF u r t o).1.wts (100 * r + o) true) (synF u r t o).1.nn).1 r) u.nn = _ + ((synF u r t o).2 + _)
            rw [s1.nn, p5, s6]
            omega
def unR (r : Nat) (W : Nat → Bool) : Nat → Bool := fun i => W (i - 100 * r)
theorem row_un (r : Nat) (W : Nat → Bool) : rowF (unR r W) r = W := by
  funext k
  unfold rowF unR
  rw [Nat.add_sub_cancel_left]
theorem syn_inv {y : Nat → RpS} (hI : INV x y u) (hr : r < 3) {t : Nat} (ht : t < 3) : (aprF x (rcaF x (y r) (y t) x.cnt) x.cnt).2 = (synF u r t u.nn).2 ∧ INV x (va_up y r (aprR x (rcaF x (y r) (y t) x.cnt))) (synF u r t u.nn).1 := by
  obtain ⟨hL, hC, hO, hA⟩ := id hI
  have hp := hA r hr
  have hpt := hA t ht
  have hn := hL.ok.n
  obtain ⟨c1, c2, c3⟩ := rca_cr hC hL hp.row hp.cr hpt.row hpt.cr u.nn (Nat.le_refl _)
  rw [hC.1]
  have hT : TC x u (rcaF x (y r) (y t) u.nn) (rowF u.app r) := by
    have := hp.tc
    unfold TC at this ⊢
    rw [c2, c3]
    exact this
  have hRS := rcS_row (A2 := rowF u.app t) hp.row u.nn
  have hz : ∀ o, u.nn ≤ o → o < 100 → rcS (rowF u.app r) (rowF u.app t) (rowF u.wts r) u.nn o = false := by
    intro o h1 h2
    have e := rcS_un (A := rowF u.app r) (A2 := rowF u.app t) (W := rowF u.wts r) o u.nn
    have z := hp.out h1 h2
    rw [z.1, z.2.1, decide_eq_false (by omega), Bool.false_and, Bool.false_or, Bool.false_or, Bool.false_or] at e
    exact e
  have hmain := pass_rep hL hC hO (a := u.app) (w := unR r (rcS (rowF u.app r) (rowF u.app t) (rowF u.wts r) u.nn)) (y1 := rcaF x (y r) (y t) u.nn) (G := rowF u.gon r) (r := r) (by rw [row_un]; exact hRS) (by rw [row_un]; exact c1) hT (fun o h1 h2 => by
    rw [row_un]
    exact ⟨(hp.out h1 h2).1, hz o h1 h2, (hp.out h1 h2).2.2⟩) (fun o h1 h2 => hp.ga h1 h2)
  obtain ⟨p1, p2, p3, p4, p5, p6⟩ := pas_all (a := u.app) (w := unR r (rcS (rowF u.app r) (rowF u.app t) (rowF u.wts r) u.nn)) (r := r) hL (by rw [row_un]; exact hRS) u.nn (Nat.le_refl _)
  obtain ⟨s1, s2, s3, s4, s5, s6⟩ := syn_all (t := t) hL hp.row hp.qui u.nn (Nat.le_refl _)
  have hun : ∀ o, o < u.nn → (rowF (pasF u r u.app (unR r (rcS (rowF u.app r) (rowF u.app t) (rowF u.wts r) u.nn)) u.nn).1 r o || rowF (pasF u r u.app (unR r (rcS (rowF u.app r) (rowF u.app t) (rowF u.wts r) u.nn)) u.nn).2.1 r o) = (rowF (synF u r t u.nn).1.app r o || rowF (synF u r t u.nn).1.wts r o) := by
    intro o ho
    rw [p3 o, s4 o ho, row_un, rcS_un]
  have hAeq := fun o (ho : o < u.nn) => row_uniq hL p1 s2 p2 s3 hun (o + 1) o (by omega) ho
  have hWeq : ∀ o, o < u.nn → rowF (pasF u r u.app (unR r (rcS (rowF u.app r) (rowF u.app t) (rowF u.wts r) u.nn)) u.nn).2.1 r o = rowF (synF u r t u.nn).1.wts r o := by
    intro o ho
    have e := hun o ho
    have e1 := hAeq o ho
    rw [e1] at e
    cases h : rowF (synF u r t u.nn).1.app r o with
    | false => rw [h, Bool.false_or, Bool.false_or] at e; exact e
    | true =>
      cases h1 : rowF (synF u r t u.nn).1.wts r o with
      | true => have := s2.w ho h1; rw [h] at this; cases this
      | false =>
        cases h2 : rowF (pasF u r u.app (unR r (rcS (rowF u.app r) (rowF u.app t) (rowF u.wts r) u.nn)) u.nn).2.1 r o with
        | true => have := p1.w ho h2; rw [e1, h] at this; cases this
        | false => rfl
  refine ⟨?_, inv_set hI hr s1 (fun i hi => s5 i hi) (hmain.1.congr hL hO (fun o ho => ?_) (fun o ho => ?_) (fun o ho => rfl))⟩
  · have e := hmain.2
    rw [hC.1] at e
    rw [e]
    have e2 : numF (rowF (pasF u r u.app (unR r (rcS (rowF u.app r) (rowF u.app t) (rowF u.wts r) u.nn)) u.nn).1 r) u.nn = numF (rowF (synF u r t u.nn).1.app r) u.nn := numF_congr hAeq
    omega
  · by_cases hon : o < u.nn
    · exact hAeq o hon
    · rw [(hmain.1.out (by omega) ho).1]
      exact ((s5 (100 * r + o) (fun k hk => by omega)).1.trans (hp.out (by omega) ho).1).symm
  · by_cases hon : o < u.nn
    · exact hWeq o hon
    · rw [(hmain.1.out (by omega) ho).2.1]
      exact ((s5 (100 * r + o) (fun k hk => by omega)).2.trans (hp.out (by omega) ho).2.1).symm
end IV
