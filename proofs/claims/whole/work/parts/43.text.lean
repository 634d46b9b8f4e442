/-! THE ORDER of the elements and the texts -/
def XO (ord : Nat → Nat) : Nat → Nat := fun i => if i = 0 then 0 else ord (i - 1) + 1
theorem XO_s (ord : Nat → Nat) (i : Nat) : XO ord (i + 1) = ord i + 1 := by unfold XO; rw [if_neg (by omega)]; rfl
theorem XO_p (ord : Nat → Nat) {i : Nat} (h : 1 ≤ i) : XO ord i = ord (i - 1) + 1 := by unfold XO; rw [if_neg (by omega)]
def snC (u : MS) (a b : Nat) : Prop := snM u (a - 1) (b - 1) = true
def OrdC (x : LgS) (u : MS) : Prop := OrdP (parM u) (snC u) (XO x.ord) x.el ∧ (∀ i, i < x.el → x.ord i < u.nn ∧ 0 < u.let_ (x.ord i)) ∧ (∀ o, o < u.nn → 0 < u.let_ o → ∃ i, i < x.el ∧ x.ord i = o) ∧ x.el = numF (fun o => decide (0 < u.let_ o)) u.nn
theorem snM_iff {u : MS} {a b : Nat} : snM u a b = true ↔ u.stp b < u.stp a ∨ (u.stp a = u.stp b ∧ u.by_ b < u.by_ a) := decide_eq_true_iff
theorem sn_tr {u : MS} {a b d : Nat} (h1 : snM u a b = true) (h2 : snM u b d = true) : snM u a d = true := by
  rw [snM_iff] at h1 h2 ⊢
  omega
theorem sn_ir {u : MS} {a : Nat} : ¬ snM u a a = true := fun h => by
  rw [snM_iff] at h
  omega
theorem sn_un {u : MS} (hL : LogP u) {a b : Nat} (ha : a < u.nn) (hb : b < u.nn) (h1 : u.stp a = u.stp b) (h2 : u.by_ a = u.by_ b) : a = b := by
  rcases Nat.lt_trichotomy a b with q | q | q
  · have := hL.st ha hb (hL.dow hb ha h2 (Nat.le_of_lt (hL.own hb q h2))) (by omega); omega
  · exact q
  · have := hL.st hb ha (hL.dow ha hb h2.symm (Nat.le_of_lt (hL.own ha q h2.symm))) (by omega); omega
theorem sn_to {u : MS} (hL : LogP u) {a b : Nat} (ha : a < u.nn) (hb : b < u.nn) (hn : a ≠ b) : snM u a b = true ∨ snM u b a = true := by
  rw [snM_iff, snM_iff]
  have : ¬ (u.stp a = u.stp b ∧ u.by_ a = u.by_ b) := fun q => hn (sn_un hL ha hb q.1 q.2)
  omega
theorem sn_par {u : MS} (hL : LogP u) {o : Nat} (ho : o < u.nn) (hp : 0 < u.oth o) : snM u o (u.oth o - 1) = true := by
  have h1 := hL.ot ho
  have h2 := hL.st (show u.oth o - 1 < u.nn by omega) ho (hL.pr ho hp).2 (by omega)
  rw [snM_iff]
  exact Or.inl h2
section TXT
variable {x : LgS} {u : MS} {r : Nat} {A W G : Nat → Bool}
theorem snp_el (hL : LogP u) {ord : Nat → Nat} {el : Nat} (h1 : OrdP (parM u) (snC u) (XO ord) el) (h2 : ∀ i, i < el → ord i < u.nn) : SnP (parM u) (snC u) (XO ord) el := by
  refine ⟨rfl, fun a b d q1 q2 => sn_tr q1 q2, fun a => sn_ir, fun i j hi hi2 hj hj2 hn => ?_, fun i hi hi2 hp => ?_⟩
  · have e1 := h2 (i - 1) (by omega)
    have e2 := h2 (j - 1) (by omega)
    unfold snC
    rw [XO_p ord hi, XO_p ord hj]
    refine sn_to hL e1 e2 (fun q => hn ?_)
    have q2 : ord (i - 1) = ord (j - 1) := q
    exact h1.2.1 i j hi2 hj2 (by rw [XO_p ord hi, XO_p ord hj, q2])
  · have e1 := h2 (i - 1) (by omega)
    rw [XO_p ord hi] at hp ⊢
    exact sn_par hL e1 (Nat.pos_of_ne_zero hp)
theorem snp_of (hL : LogP u) (h : OrdC x u) : SnP (parM u) (snC u) (XO x.ord) x.el := snp_el hL h.1 (fun i hi => (h.2.1 i hi).1)
theorem fst_sp (hL : LogP u) (r a b : Nat) : ∀ n, n ≤ u.nn → (fstM u r a b n = 0 ∧ ∀ o, o < n → fitM u r a b o = false) ∨ ∃ m, m < n ∧ fstM u r a b n = m + 1 ∧ fitM u r a b m = true ∧ ∀ o, o < n → fitM u r a b o = true → o = m ∨ snM u m o = true
  | 0, _ => Or.inl ⟨rfl, fun o ho => absurd ho (Nat.not_lt_zero o)⟩
  | n + 1, hn => by
    have ih := fst_sp hL r a b n (by omega)
    cases hf : fitM u r a b n with
    | false =>
      rw [fstM_f1 hf]
      rcases ih with ⟨h1, h2⟩ | ⟨m, h1, h2, h3, h4⟩
      · refine Or.inl ⟨h1, fun o ho => ?_⟩
        by_cases hz : o = n
        · rw [hz]; exact hf
        · exact h2 o (by omega)
      · refine Or.inr ⟨m, by omega, h2, h3, fun o ho ho2 => ?_⟩
        by_cases hz : o = n
        · rw [hz, hf] at ho2; cases ho2
        · exact h4 o (by omega) ho2
    | true =>
      rcases ih with ⟨h1, h2⟩ | ⟨m, h1, h2, h3, h4⟩
      · rw [fstM_t hf (Or.inl h1)]
        refine Or.inr ⟨n, by omega, rfl, hf, fun o ho ho2 => ?_⟩
        by_cases hz : o = n
        · exact Or.inl hz
        · rw [h2 o (by omega)] at ho2; cases ho2
      · cases hs : snM u n m with
        | true =>
          rw [fstM_t hf (Or.inr (by rw [h2]; exact hs))]
          refine Or.inr ⟨n, by omega, rfl, hf, fun o ho ho2 => ?_⟩
          by_cases hz : o = n
          · exact Or.inl hz
          · rcases h4 o (by omega) ho2 with q | q
            · rw [q]; exact Or.inr hs
            · exact Or.inr (sn_tr hs q)
        | false =>
          rw [fstM_f2 (by omega) (by rw [h2]; exact hs)]
          refine Or.inr ⟨m, by omega, h2, h3, fun o ho ho2 => ?_⟩
          by_cases hz : o = n
          · subst hz
            rcases sn_to hL (show m < u.nn by omega) (show o < u.nn by omega) (by omega) with q | q
            · exact Or.inr q
            · rw [hs] at q; cases q
          · exact h4 o (by omega) ho2
theorem fit_iff {u : MS} {r a b o : Nat} : fitM u r a b o = true ↔ rowF u.app r o = true ∧ 0 < u.let_ o ∧ u.oth o = a ∧ (b = 0 ∨ snM u (b - 1) o = true) := by
  unfold fitM
  simp only [Bool.and_eq_true, Bool.or_eq_true, decide_eq_true_eq]
  exact Iff.rfl
def hdG (A : Nat → Bool) : Nat → Bool := fun v => A (v - 1)
def hdL (x : LgS) (A : Nat → Bool) : List Nat := heldL (XO x.ord) (hdG A) x.el 0
theorem fst_of (hL : LogP u) (h : OrdC x u) : FstP (parM u) (snC u) (XO x.ord) x.el (fun v => hdG (rowF u.app r) v = true) (fun a b => fstM u r a b u.nn) := by
  obtain ⟨h1, h2, h3, h4⟩ := h
  have fit : ∀ i, 1 ≤ i → i ≤ x.el → ∀ a b, FitP (parM u) (snC u) (XO x.ord) (fun v => hdG (rowF u.app r) v = true) a b i ↔ fitM u r a b (x.ord (i - 1)) = true := by
    intro i hi hi2 a b
    have e := h2 (i - 1) (by omega)
    rw [fit_iff]
    unfold FitP snC
    rw [XO_p x.ord hi]
    refine ⟨fun q => ⟨q.1, e.2, q.2.1, q.2.2⟩, fun q => ⟨q.1, q.2.2.1, q.2.2.2⟩⟩
  intro a b
  rcases fst_sp hL r a b u.nn (Nat.le_refl _) with ⟨q1, q2⟩ | ⟨m, q1, q2, q3, q4⟩
  · refine Or.inl ⟨q1, fun i hi hi2 q => ?_⟩
    have := (fit i hi hi2 a b).mp q
    rw [q2 _ (h2 (i - 1) (by omega)).1] at this
    cases this
  · obtain ⟨i, i1, i2⟩ := h3 m q1 (fit_iff.mp q3).2.1
    refine Or.inr ⟨i + 1, by omega, by omega, by rw [XO_s, i2]; exact q2, (fit (i + 1) (by omega) (by omega) a b).mpr (by rw [Nat.add_sub_cancel, i2]; exact q3), fun j hj hj2 q => ?_⟩
    have hf := (fit j hj hj2 a b).mp q
    rcases q4 _ (h2 (j - 1) (by omega)).1 hf with z | z
    · exact Or.inl (h1.2.1 j (i + 1) hj2 (by omega) (by rw [XO_s, XO_p x.ord hj, i2, z]))
    · refine Or.inr ?_
      unfold snC
      rw [XO_s, XO_p x.ord hj, i2]
      exact z
theorem clp_of (hL : LogP u) (h : OrdC x u) (hR : RowP u r A W) : ClP (parM u) (XO x.ord) x.el (fun v => hdG A v = true) := by
  intro i hi hi2 hF
  have e := h.2.1 (i - 1) (by omega)
  rw [XO_p x.ord hi] at hF ⊢
  have ho := hL.ot e.1
  by_cases hz : u.oth (x.ord (i - 1)) = 0
  · exact Or.inl hz
  · refine Or.inr ?_
    exact hR.cl hL (show u.oth (x.ord (i - 1)) - 1 < u.nn by omega) e.1 hF (hL.pr e.1 (by omega)).2
theorem held_mem {X : Nat → Nat} {G : Nat → Bool} {v : Nat} : ∀ n i, v ∈ heldL X G n i → ∃ j, i < j ∧ j ≤ i + n ∧ v = X j ∧ G v = true
  | 0, i, h => by cases h
  | n + 1, i, h => by
    rw [heldL] at h
    split at h
    · next c =>
      rcases List.mem_cons.mp h with q | q
      · exact ⟨i + 1, by omega, by omega, q, by rw [q]; exact c⟩
      · obtain ⟨j, j1, j2, j3⟩ := held_mem n (i + 1) q
        exact ⟨j, by omega, by omega, j3⟩
    · obtain ⟨j, j1, j2, j3⟩ := held_mem n (i + 1) h
      exact ⟨j, by omega, by omega, j3⟩
theorem held_len {X : Nat → Nat} {G : Nat → Bool} : ∀ n i, (heldL X G n i).length ≤ n
  | 0, i => Nat.le_refl 0
  | n + 1, i => by
    have := held_len (X := X) (G := G) n (i + 1)
    rw [heldL]
    split
    · rw [List.length_cons]; omega
    · omega
theorem hd_mem (h : OrdC x u) {v : Nat} (hv : v ∈ hdL x A) : ∃ i, i < x.el ∧ v = x.ord i + 1 ∧ A (x.ord i) = true := by
  obtain ⟨j, j1, j2, j3, j4⟩ := held_mem _ _ hv
  rw [XO_p x.ord j1] at j3
  refine ⟨j - 1, by omega, j3, ?_⟩
  rw [j3] at j4
  exact j4
theorem el_le (h : OrdC x u) : x.el ≤ u.nn := by rw [h.2.2.2]; exact numF_le _ _
theorem hd_chain (hL : LogP u) (h : OrdC x u) (hR : RowP u r (rowF u.app r) W) : chainP (nxtM u r) 0 (hdL x (rowF u.app r)) := by
  have := hL.ok.n
  have := el_le h
  exact held_chain h.1 (snp_of hL h) (clp_of hL h hR) (fst_of hL h) (fu := 100) (by omega) x.el 0 0 rfl (Nat.le_refl 0) (Or.inl rfl) (fun z h1 h2 => absurd h1 (by omega))
theorem chain_un {nx : Nat → Nat} : ∀ (l1 l2 : List Nat) (a : Nat), chainP nx a l1 → chainP nx a l2 → l1 = l2
  | [], [], _, _, _ => rfl
  | [], z :: zs, a, h1, h2 => absurd (h2.1.symm.trans h1) h2.2.1
  | z :: zs, [], a, h1, h2 => absurd (h1.1.symm.trans h2) h1.2.1
  | z :: zs, z' :: zs', a, h1, h2 => by
    have e : z = z' := h1.1.symm.trans h2.1
    subst e
    rw [chain_un zs zs' z h1.2.2 h2.2.2]
/-! what is written -/
theorem wrt_ext {er er2 : Nat → Bool} : ∀ (vs : List Nat) (n : Nat) (t t2 : Nat → Nat), (∀ v ∈ vs, er (v - 1) = er2 (v - 1)) → (∀ k, k < n → t k = t2 k) → (wrtF er vs (n, t)).1 = (wrtF er2 vs (n, t2)).1 ∧ ∀ k, k < (wrtF er vs (n, t)).1 → (wrtF er vs (n, t)).2 k = (wrtF er2 vs (n, t2)).2 k
  | [], n, t, t2, _, h => ⟨rfl, h⟩
  | v :: vs, n, t, t2, he, h => by
    have h1 := he v List.mem_cons_self
    cases hc : er (v - 1) with
    | true =>
      rw [wrtF_t hc, wrtF_t (by rw [← h1]; exact hc)]
      exact wrt_ext vs n t t2 (fun z hz => he z (List.mem_cons_of_mem _ hz)) h
    | false =>
      rw [wrtF_f hc, wrtF_f (by rw [← h1]; exact hc)]
      refine wrt_ext vs (n + 1) _ _ (fun z hz => he z (List.mem_cons_of_mem _ hz)) (fun k hk => ?_)
      unfold va_up
      by_cases hz : k = n
      · rw [if_pos hz, if_pos hz]
      · rw [if_neg hz, if_neg hz]; exact h k (by omega)
theorem wrt_app {er : Nat → Bool} : ∀ (vs ws : List Nat) (s : Nat × (Nat → Nat)), wrtF er (vs ++ ws) s = wrtF er ws (wrtF er vs s)
  | [], ws, s => rfl
  | v :: vs, ws, s => by
    show (if er (v - 1) = true then wrtF er (vs ++ ws) s else wrtF er (vs ++ ws) (s.1 + 1, va_up s.2 s.1 (v - 1))) = wrtF er ws (if er (v - 1) = true then wrtF er vs s else wrtF er vs (s.1 + 1, va_up s.2 s.1 (v - 1)))
    split
    · exact wrt_app vs ws _
    · exact wrt_app vs ws _
theorem held_app {X : Nat → Nat} {G : Nat → Bool} (b : Nat) : ∀ a i, heldL X G (a + b) i = heldL X G a i ++ heldL X G b (i + a)
  | 0, i => by rw [Nat.zero_add]; rfl
  | a + 1, i => by
    rw [show a + 1 + b = (a + b) + 1 by omega, heldL, heldL, held_app b a (i + 1), show i + 1 + a = i + (a + 1) by omega]
    split <;> rfl
theorem held_congr {X X2 : Nat → Nat} {G G2 : Nat → Bool} : ∀ n i i2, (∀ k, 1 ≤ k → k ≤ n → X (i + k) = X2 (i2 + k) ∧ G (X (i + k)) = G2 (X2 (i2 + k))) → heldL X G n i = heldL X2 G2 n i2
  | 0, _, _, _ => rfl
  | n + 1, i, i2, h => by
    have h1 := h 1 (by omega) (by omega)
    have ih := held_congr n (i + 1) (i2 + 1) (fun k k1 k2 => by
      have := h (k + 1) (by omega) (by omega)
      rw [show i + (k + 1) = i + 1 + k by omega, show i2 + (k + 1) = i2 + 1 + k by omega] at this
      exact this)
    rw [heldL, heldL, h1.2, h1.1, ih]
def TX (x : LgS) (u : MS) (A : Nat → Bool) : Nat × (Nat → Nat) := wrtF (erA u A) (hdL x A) (0, fun _ => 0)
def TC (x : LgS) (u : MS) (y : RpS) (A : Nat → Bool) : Prop := y.tl = (TX x u A).1 ∧ ∀ k, k < y.tl → y.txt k = (TX x u A).2 k
theorem rw_wrt {y : RpS} (h : OrdC x u) (hh : ∀ o, o < u.nn → hasL x y o = A o) (he : ∀ f, y.ers f = erA u A f) : ∀ n, n ≤ x.el → rwF x y n = wrtF (erA u A) (heldL (XO x.ord) (hdG A) n 0) (0, y.txt)
  | 0, _ => rfl
  | n + 1, hn => by
    have ih := rw_wrt h hh he n (by omega)
    have hd := hh _ (h.2.1 n (by omega)).1
    rw [held_app 1 n 0, wrt_app, ← ih]
    have e : heldL (XO x.ord) (hdG A) 1 (0 + n) = if A (x.ord n) = true then [x.ord n + 1] else [] := by
      rw [heldL, heldL, Nat.zero_add, XO_s]
      rfl
    rw [e]
    cases ha : A (x.ord n) with
    | false => rw [rwF_f1 (hd.trans ha), if_neg (by decide)]; rfl
    | true =>
      rw [if_pos rfl]
      cases hb : erA u A (x.ord n) with
      | true => rw [rwF_f2 ((he _).trans hb)]; show _ = (if erA u A (x.ord n + 1 - 1) = true then _ else _); rw [Nat.add_sub_cancel, hb, if_pos rfl]; rfl
      | false => rw [rwF_t (hd.trans ha) ((he _).trans hb)]; show _ = (if erA u A (x.ord n + 1 - 1) = true then _ else _); rw [Nat.add_sub_cancel, hb, if_neg (by decide)]; rfl
theorem rw_tc {y : RpS} (h : OrdC x u) (hh : ∀ o, o < u.nn → hasL x y o = A o) (he : ∀ f, y.ers f = erA u A f) : TC x u (rwR x y) A := by
  have e := rw_wrt h hh he x.el (Nat.le_refl _)
  have q := wrt_ext (er := erA u A) (er2 := erA u A) (hdL x A) 0 y.txt (fun _ => 0) (fun _ _ => rfl) (fun k hk => absurd hk (Nat.not_lt_zero k))
  have e1 : (rwR x y).tl = (rwF x y x.el).1 := rfl
  have e2 : (rwR x y).txt = (rwF x y x.el).2 := rfl
  unfold TC
  rw [e1, e2, e]
  exact q
/-- the reference's walk writes the same -/
theorem walk_tc (hL : LogP u) (h : OrdC x u) (hR : RowP u r (rowF u.app r) W) {xs : List Nat} (hx : chainP (nxtM u r) 0 xs) : (walked u r xs).len = (TX x u (rowF u.app r)).1 ∧ ∀ k, k < (walked u r xs).len → (walked u r xs).txt k = (TX x u (rowF u.app r)).2 k := by
  rw [chain_un _ _ _ hx (hd_chain hL h hR)]
  exact wrt_ext (er := fun f => ersM u r f u.nn) (er2 := erA u (rowF u.app r)) (hdL x (rowF u.app r)) 0 u.txt (fun _ => 0) (fun _ _ => rfl) (fun k hk => absurd hk (Nat.not_lt_zero k))
/-- each element written is one of the list's; and they are written once -/
theorem wrt_P {er : Nat → Bool} {P : Nat → Prop} : ∀ (vs : List Nat) (n : Nat) (t : Nat → Nat), (∀ v ∈ vs, er (v - 1) = false → P (v - 1)) → (∀ k, k < n → P (t k)) → ∀ k, k < (wrtF er vs (n, t)).1 → P ((wrtF er vs (n, t)).2 k)
  | [], n, t, _, h => h
  | v :: vs, n, t, he, h => by
    cases hc : er (v - 1) with
    | true => rw [wrtF_t hc]; exact wrt_P vs n t (fun z hz => he z (List.mem_cons_of_mem _ hz)) h
    | false =>
      rw [wrtF_f hc]
      refine wrt_P vs (n + 1) _ (fun z hz => he z (List.mem_cons_of_mem _ hz)) (fun k hk => ?_)
      unfold va_up
      split
      · exact he v List.mem_cons_self hc
      · exact h k (by omega)
theorem wrt_inj {er : Nat → Bool} : ∀ (vs : List Nat) (n : Nat) (t : Nat → Nat), (∀ v ∈ vs, 1 ≤ v) → vs.Pairwise (fun a b => a ≠ b) → (∀ k k2, k < n → k2 < n → t k = t k2 → k = k2) → (∀ k, k < n → ∀ v ∈ vs, t k ≠ v - 1) → ∀ k k2, k < (wrtF er vs (n, t)).1 → k2 < (wrtF er vs (n, t)).1 → (wrtF er vs (n, t)).2 k = (wrtF er vs (n, t)).2 k2 → k = k2
  | [], n, t, _, _, h, _ => h
  | v :: vs, n, t, h1, h2, h3, h4 => by
    have p := List.pairwise_cons.mp h2
    cases hc : er (v - 1) with
    | true => rw [wrtF_t hc]; exact wrt_inj vs n t (fun z hz => h1 z (List.mem_cons_of_mem _ hz)) p.2 h3 (fun k hk z hz => h4 k hk z (List.mem_cons_of_mem _ hz))
    | false =>
      rw [wrtF_f hc]
      refine wrt_inj vs (n + 1) _ (fun z hz => h1 z (List.mem_cons_of_mem _ hz)) p.2 (fun k k2 hk hk2 q => ?_) (fun k hk z hz => ?_)
      · unfold va_up at q
        have hm := fun k (hk : k < n) => h4 k hk v List.mem_cons_self
        by_cases a1 : k = n
        · by_cases a2 : k2 = n
          · omega
          · rw [if_pos a1, if_neg a2] at q; exact absurd q.symm (hm k2 (by omega))
        · by_cases a2 : k2 = n
          · rw [if_neg a1, if_pos a2] at q; exact absurd q (hm k (by omega))
          · rw [if_neg a1, if_neg a2] at q; exact h3 k k2 (by omega) (by omega) q
      · unfold va_up
        have hv := h1 v List.mem_cons_self
        have hz1 := h1 z (List.mem_cons_of_mem _ hz)
        have hne := p.1 z hz
        split
        · omega
        · exact h4 k (by omega) z (List.mem_cons_of_mem _ hz)
theorem held_pw {X : Nat → Nat} {G : Nat → Bool} {E : Nat} (hi : ∀ i j, i ≤ E → j ≤ E → X i = X j → i = j) : ∀ n i, i + n ≤ E → (heldL X G n i).Pairwise (fun a b => a ≠ b)
  | 0, _, _ => List.Pairwise.nil
  | n + 1, i, h => by
    have ih := held_pw (G := G) hi n (i + 1) (by omega)
    rw [heldL]
    split
    · refine List.pairwise_cons.mpr ⟨fun z hz q => ?_, ih⟩
      obtain ⟨j, j1, j2, j3, -⟩ := held_mem _ _ hz
      have := hi (i + 1) j (by omega) (by omega) (by rw [q, j3])
      omega
    · exact ih
theorem tx_P (h : OrdC x u) {k : Nat} (hk : k < (TX x u A).1) : ∃ i, i < x.el ∧ (TX x u A).2 k = x.ord i ∧ A (x.ord i) = true :=
  wrt_P (er := erA u A) (P := fun f => ∃ i, i < x.el ∧ f = x.ord i ∧ A (x.ord i) = true) (hdL x A) 0 (fun _ => 0) (fun v hv _ => by
    obtain ⟨i, i1, i2, i3⟩ := hd_mem h hv
    exact ⟨i, i1, by rw [i2]; rfl, i3⟩) (fun k hk => absurd hk (Nat.not_lt_zero k)) k hk
theorem tx_inj (h : OrdC x u) {k k2 : Nat} (hk : k < (TX x u A).1) (hk2 : k2 < (TX x u A).1) (q : (TX x u A).2 k = (TX x u A).2 k2) : k = k2 :=
  wrt_inj (er := erA u A) (hdL x A) 0 (fun _ => 0) (fun v hv => by obtain ⟨i, i1, i2, i3⟩ := hd_mem h hv; omega) (held_pw h.1.2.1 x.el 0 (by omega)) (fun k k2 hk => absurd hk (Nat.not_lt_zero k)) (fun k hk => absurd hk (Nat.not_lt_zero k)) k k2 hk hk2 q
end TXT
