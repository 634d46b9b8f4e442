/-! THE CLASS's log and replica beside the reference's -/
def CL (x : LgS) (u : MS) : Prop := x.cnt = u.nn ∧ x.iss = u.by_ ∧ x.stp = u.stp ∧ x.tgt = u.oth ∧ x.chr = u.let_ ∧ x.clk = u.clk ∧ okL x
def CR (u : MS) (y : RpS) (r : Nat) (A W G : Nat → Bool) : Prop :=
  okR y ∧ y.self = r ∧ (∀ i j, i < 3 → j < 3 → y.seen i j = knA u A r i j) ∧ (∀ i j, 3 ≤ j → y.seen i j = 0) ∧ (∀ o, o < u.nn → y.wts o = W o) ∧ (∀ o, u.nn ≤ o → y.wts o = false) ∧ y.wc = numF W u.nn ∧ (∀ f, y.ers f = erA u A f) ∧
  (∀ o, o < u.nn → y.kpt o = kpA u A G o) ∧ (∀ o, u.nn ≤ o → y.kpt o = false) ∧ y.kc = numF (kpA u A G) u.nn ∧ y.gs = gsA u A u.nn
theorem sU_3 (s : Nat → Nat → Nat) (i : Nat) (g : Nat → Nat) : ∀ n i' j, sU s i g n i' j = if i' = i ∧ j < n then g j else s i' j
  | 0, i', j => by rw [if_neg (fun q => absurd q.2 (Nat.not_lt_zero j))]; rfl
  | n + 1, i', j => by
    have ih := sU_3 s i g n
    show va_up (sU s i g n) i (va_up (sU s i g n i) n (g n)) i' j = _
    by_cases hi : i' = i
    · rw [hi, va_up_self]
      by_cases hj : j = n
      · rw [hj, va_up_self, if_pos ⟨rfl, by omega⟩]
      · rw [va_up_ne _ _ hj, ih]
        by_cases hq : j < n
        · rw [if_pos ⟨rfl, hq⟩, if_pos ⟨rfl, by omega⟩]
        · rw [if_neg (fun q => hq q.2), if_neg (fun q => by omega)]
    · rw [va_up_ne _ _ hi, ih, if_neg (fun q => hi q.1), if_neg (fun q => hi q.1)]
theorem apSeen_eq (x : LgS) (y : RpS) (o i j : Nat) : apSeen x y o i j = if i = y.self ∧ j = x.iss o then plc x o else if i = x.iss o ∧ j < 3 then x.clk (o * 3 + j) else y.seen i j := by
  unfold apSeen
  by_cases hi : i = y.self
  · rw [hi, va_up_self]
    by_cases hj : j = x.iss o
    · rw [hj, va_up_self, if_pos ⟨rfl, rfl⟩]
    · rw [va_up_ne _ _ hj, if_neg (fun q => hj q.2), sU_3]
  · rw [va_up_ne _ _ hi, if_neg (fun q => hi q.1), sU_3]
section CPL
variable {x : LgS} {y : RpS} {u : MS} {r o : Nat} {A W G : Nat → Bool}
theorem CR.ok (h : CR u y r A W G) : okR y := h.1
theorem CR.self (h : CR u y r A W G) : y.self = r := h.2.1
theorem CR.sn (h : CR u y r A W G) {i j : Nat} (hi : i < 3) (hj : j < 3) : y.seen i j = knA u A r i j := h.2.2.1 i j hi hj
theorem CR.s0 (h : CR u y r A W G) {i j : Nat} (hj : 3 ≤ j) : y.seen i j = 0 := h.2.2.2.1 i j hj
theorem CR.wt (h : CR u y r A W G) {o : Nat} (ho : o < u.nn) : y.wts o = W o := h.2.2.2.2.1 o ho
theorem CR.w0 (h : CR u y r A W G) {o : Nat} (ho : u.nn ≤ o) : y.wts o = false := h.2.2.2.2.2.1 o ho
theorem CR.wc (h : CR u y r A W G) : y.wc = numF W u.nn := h.2.2.2.2.2.2.1
theorem CR.er (h : CR u y r A W G) (f : Nat) : y.ers f = erA u A f := h.2.2.2.2.2.2.2.1 f
theorem CR.kp (h : CR u y r A W G) {o : Nat} (ho : o < u.nn) : y.kpt o = kpA u A G o := h.2.2.2.2.2.2.2.2.1 o ho
theorem CR.k0 (h : CR u y r A W G) {o : Nat} (ho : u.nn ≤ o) : y.kpt o = false := h.2.2.2.2.2.2.2.2.2.1 o ho
theorem CR.kc (h : CR u y r A W G) : y.kc = numF (kpA u A G) u.nn := h.2.2.2.2.2.2.2.2.2.2.1
theorem CR.gs (h : CR u y r A W G) : y.gs = gsA u A u.nn := h.2.2.2.2.2.2.2.2.2.2.2
theorem CR.r3 (h : CR u y r A W G) : r < 3 := by rw [← h.self]; exact h.ok.self
theorem CR.kc9 (h : CR u y r A W G) (hL : LogP u) : y.kc < 900 := by
  have := numF_le (kpA u A G) u.nn
  have := hL.ok.n
  rw [h.kc]; omega
theorem CR.self_c (h : CR u y r A W G) {j : Nat} (hj : j < 3) : y.seen y.self j = cA u A j := by
  rw [h.self, h.sn h.r3 hj]
  unfold knA
  rw [if_pos rfl]
theorem cA_congr {B : Nat → Bool} (h : ∀ o, o < u.nn → A o = B o) (j : Nat) : cA u A j = cA u B j := numF_congr (fun k hk => by rw [h k hk])
theorem erA_congr {B : Nat → Bool} (h : ∀ o, o < u.nn → A o = B o) (f : Nat) : erA u A f = erA u B f := by
  unfold erA
  rw [Bool.eq_iff_iff, orF_iff, orF_iff]
  refine ⟨fun ⟨i, h1, h2⟩ => ⟨i, h1, by rw [← h i h1]; exact h2⟩, fun ⟨i, h1, h2⟩ => ⟨i, h1, by rw [h i h1]; exact h2⟩⟩
theorem RowP.congr {A2 W2 : Nat → Bool} (h : RowP u r A W) (ha : ∀ o, o < u.nn → A o = A2 o) (hw : ∀ o, o < u.nn → W o = W2 o) : RowP u r A2 W2 := by
  intro k hk
  rw [← ha k hk, ← hw k hk, ← cA_congr ha]
  refine ⟨h.a hk, fun q j hj => ?_, fun q => h.me hk q, fun q => h.w hk q⟩
  rw [← cA_congr ha]
  exact h.k hk q hj
theorem CR.congr {A2 W2 G2 : Nat → Bool} (h : CR u y r A W G) (ha : ∀ o, o < u.nn → A o = A2 o) (hw : ∀ o, o < u.nn → W o = W2 o) (hg : ∀ o, o < u.nn → G o = G2 o) : CR u y r A2 W2 G2 := by
  have hk : ∀ o, o < u.nn → kpA u A G o = kpA u A2 G2 o := fun o ho => by unfold kpA; rw [ha o ho, hg o ho]
  refine ⟨h.ok, h.self, fun i j hi hj => ?_, fun i j hj => h.s0 hj, fun o ho => ?_, fun o ho => h.w0 ho, ?_, fun f => ?_, fun o ho => ?_, fun o ho => h.k0 ho, ?_, ?_⟩
  · rw [h.sn hi hj]
    unfold knA
    rw [cA_congr ha, ltA_congr ha]
  · rw [h.wt ho, hw o ho]
  · rw [h.wc]; exact numF_congr hw
  · rw [h.er, erA_congr ha]
  · rw [h.kp ho, hk o ho]
  · rw [h.kc]; exact numF_congr hk
  · rw [h.gs, gsA_congr ha]
theorem CL.pl (h : CL x u) (hL : LogP u) {o : Nat} (ho : o < u.nn) : plc x o = u.line o := by
  unfold plc
  rw [h.2.2.2.2.2.1, h.2.1, hL.lc ho, Nat.mul_comm]
theorem has_eq (hC : CL x u) (hL : LogP u) (h : CR u y r A W G) (hR : RowP u r A W) {o : Nat} (ho : o < u.nn) : hasL x y o = A o := by
  unfold hasL
  rw [hC.pl hL ho, hC.2.1, h.self_c (hL.ok.by3 o), Bool.eq_iff_iff, decide_eq_true_eq, hR.a ho]
theorem rdy_eq (hC : CL x u) (hL : LogP u) (h : CR u y r A W G) {o : Nat} (ho : o < u.nn) : rdyL x y o = true ↔ rdyP u A o := by
  unfold rdyL rdyP
  rw [andF_iff, decide_eq_true_eq, hC.pl hL ho, hC.2.1, h.self_c (hL.ok.by3 o), hC.2.2.2.2.2.1]
  refine ⟨fun q => ⟨q.1, fun j hj => ?_⟩, fun q => ⟨q.1, fun j hj => ?_⟩⟩
  · have := of_decide_eq_true (q.2 j hj)
    rw [h.self_c hj, Nat.mul_comm] at this
    exact this
  · exact decide_eq_true (by rw [h.self_c hj, Nat.mul_comm]; exact q.2 j hj)
theorem set_eq (hC : CL x u) (hL : LogP u) (h : CR u y r A W G) {o : Nat} (ho : o < u.nn) : setL x y o = true ↔ ∀ i, i < 3 → u.line o ≤ knA u A r i (u.by_ o) := by
  unfold setL
  rw [andF_iff, hC.pl hL ho, hC.2.1]
  refine ⟨fun q i hi => ?_, fun q => ⟨rfl, fun i hi => ?_⟩⟩
  · have := of_decide_eq_true (q.2 i hi)
    rw [h.sn hi (hL.ok.by3 o)] at this
    exact this
  · exact decide_eq_true (by rw [h.sn hi (hL.ok.by3 o)]; exact q i hi)
theorem cr_apply (hC : CL x u) (hL : LogP u) (hR : RowP u r A W) (h : CR u y r A W G) (ho : o < u.nn) (hw : W o = true) (hr : rdyP u A o) (hG : G o = false) : CR u (applyR x (wtR y o) o) r (va_up A o true) (va_up W o false) G := by
  have ha := hR.w ho hw
  have hby : u.by_ o ≠ r := fun q => by rw [hR.me ho q] at ha; cases ha
  have hln := hL.ln ho
  have okx : okL x := hC.2.2.2.2.2.2
  have hwt : (wtR y o).wts = va_up y.wts o false := rfl
  have e1 : (applyR x (wtR y o) o).self = y.self ∧ (applyR x (wtR y o) o).seen = apSeen x (wtR y o) o ∧ (applyR x (wtR y o) o).wts = va_up y.wts o false ∧ (applyR x (wtR y o) o).wc = y.wc - 1 ∧ (applyR x (wtR y o) o).gs = max y.gs (x.stp o) := by
    unfold applyR; split <;> exact ⟨rfl, rfl, rfl, rfl, rfl⟩
  have e2 : (applyR x (wtR y o) o).ers = if u.let_ o = 0 then va_up y.ers (u.oth o - 1) true else y.ers := by
    unfold applyR
    rw [hC.2.2.2.2.1, hC.2.2.2.1]
    split
    · rfl
    · rfl
  have e3 : (applyR x (wtR y o) o).kpt = if u.let_ o = 0 then y.kpt else va_up y.kpt o true := by
    unfold applyR
    rw [hC.2.2.2.2.1]
    split
    · rfl
    · rfl
  have e4 : (applyR x (wtR y o) o).kc = y.kc + if u.let_ o = 0 then 0 else 1 := by
    unfold applyR
    rw [hC.2.2.2.2.1]
    split
    · rfl
    · rfl
  refine ⟨okR_apply okx (okR_wt h.ok) (h.kc9 hL), e1.1.trans h.self, fun i j hi hj => ?_, fun i j hj => ?_, fun k hk => ?_, fun k hk => ?_, ?_, fun f => ?_, fun k hk => ?_, fun k hk => ?_, ?_, ?_⟩
  · rw [e1.2.1, apSeen_eq, knA_up hL hR ho ha, hC.pl hL ho, hC.2.1, hC.2.2.2.2.2.1]
    have es : (wtR y o).self = r := h.self
    have eq : (wtR y o).seen i j = knA u A r i j := h.sn hi hj
    rw [es, eq]
    by_cases hir : i = r
    · rw [if_pos hir]
      have hkr : knA u A r i j = cA u A j := by unfold knA; rw [if_pos hir]
      by_cases hj2 : j = u.by_ o
      · rw [if_pos ⟨hir, hj2⟩, if_pos hj2, hj2, hr.1]; omega
      · rw [if_neg (fun q => hj2 q.2), if_neg (fun q => hby (q.1.symm.trans hir)), if_neg hj2, hkr]; rfl
    · rw [if_neg (fun q => hir q.1), if_neg hir]
      by_cases hib : i = u.by_ o
      · rw [if_pos ⟨hib, hj⟩, if_pos hib.symm, Nat.mul_comm]
      · rw [if_neg (fun q => hib q.1), if_neg (fun q => hib q.symm)]
  · rw [e1.2.1, apSeen_eq, hC.2.1]
    have := hL.ok.by3 o
    rw [if_neg (fun q => by omega), if_neg (fun q => by omega)]
    exact h.s0 hj
  · rw [e1.2.2.1]
    unfold va_up
    split
    · rfl
    · exact h.wt hk
  · rw [e1.2.2.1, va_up_ne _ _ (by omega)]
    exact h.w0 hk
  · rw [e1.2.2.2.1, h.wc, ← numF_upf ho hw]; rfl
  · rw [e2, erA_up ho, ← h.er f]
    by_cases hl : u.let_ o = 0
    · have := hL.er ho hl
      rw [if_pos hl, decide_eq_true hl, Bool.true_and]
      unfold va_up
      by_cases hf : f = u.oth o - 1
      · rw [if_pos hf, decide_eq_true (show u.oth o = f + 1 by omega), Bool.or_true]
      · rw [if_neg hf, decide_eq_false (show ¬ u.oth o = f + 1 by omega), Bool.or_false]
    · rw [if_neg hl, decide_eq_false hl, Bool.false_and, Bool.or_false]
  · rw [e3, kpA_up hG]
    by_cases hl : u.let_ o = 0
    · rw [if_pos hl, h.kp hk]
      by_cases hko : k = o
      · rw [if_pos hko, hko]; unfold kpA; rw [decide_eq_false (by omega), Bool.false_and]
      · rw [if_neg hko]
    · rw [if_neg hl]
      unfold va_up
      by_cases hko : k = o
      · rw [if_pos hko, if_pos hko]; exact (decide_eq_true (by omega)).symm
      · rw [if_neg hko, if_neg hko, h.kp hk]
  · rw [e3]
    split
    · exact h.k0 hk
    · rw [va_up_ne _ _ (by omega)]; exact h.k0 hk
  · rw [e4, h.kc, kpA_num ho ha hG]
  · rw [e1.2.2.2.2, gsA_up ha ho, h.gs, hC.2.2.1]
/-- the class's pass beside the reference's -/
theorem apr_pas (hC : CL x u) (hL : LogP u) {a w : Nat → Bool} (hR : RowP u r (rowF a r) (rowF w r)) (h : CR u y r (rowF a r) (rowF w r) G) (hG : ∀ o, o < u.nn → G o = true → rowF a r o = true) : ∀ k, k ≤ u.nn →
    CR u (aprF x y k).1 r (rowF (pasF u r a w k).1 r) (rowF (pasF u r a w k).2.1 r) G ∧ (aprF x y k).2 = (pasF u r a w k).2.2 ∧ (aprF x y k).1.tl = y.tl ∧ (aprF x y k).1.txt = y.txt
  | 0, _ => ⟨h, rfl, rfl, rfl⟩
  | k + 1, hk => by
    obtain ⟨h1, h2, h3, h4⟩ := apr_pas hC hL hR h hG k (by omega)
    obtain ⟨r1, -, -, -, -, r6⟩ := pas_all hL hR k (by omega)
    by_cases c : (pasF u r a w k).2.1 (100 * r + k) = true ∧ rdyM (stM u (pasF u r a w k).1 (pasF u r a w k).2.1) r k 3 = true
    · have hr := (rdy_st _ _ k).mp c.2
      have hkn : k < u.nn := by omega
      have ha : rowF (pasF u r a w k).1 r k = false := r1.w hkn c.1
      rw [pasF_t c.1 c.2, aprF_t ((h1.wt hkn).trans c.1) ((rdy_eq hC hL h1 hkn).mpr hr)]
      refine ⟨?_, by rw [h2], ?_, ?_⟩
      · show CR u _ r (rowF (va_up (pasF u r a w k).1 (100 * r + k) true) r) (rowF (va_up (pasF u r a w k).2.1 (100 * r + k) false) r) G
        rw [row_up, row_up]
        refine cr_apply hC hL r1 h1 hkn c.1 hr ?_
        cases hg : G k with
        | false => rfl
        | true => rw [r6 k (hG k hkn hg)] at ha; cases ha
      · rw [← h3]; unfold applyR; split <;> rfl
      · rw [← h4]; unfold applyR; split <;> rfl
    · have hkn : k < u.nn := by omega
      have e : pasF u r a w (k + 1) = pasF u r a w k := by rw [pasF, if_neg c]
      have e2 : aprF x y (k + 1) = aprF x y k := by
        rw [aprF, if_neg (fun q => c ⟨(h1.wt hkn).symm.trans q.1, (rdy_st _ _ k).mpr ((rdy_eq hC hL h1 hkn).mp q.2)⟩)]
      rw [e, e2]
      exact ⟨h1, h2, h3, h4⟩
theorem ap_ok (hC : CL x u) (hL : LogP u) {a w : Nat → Bool} (hR : RowP u r (rowF a r) (rowF w r)) (h : CR u y r (rowF a r) (rowF w r) G) (hG : ∀ o, o < u.nn → G o = true → rowF a r o = true) {k : Nat} (hk : k ≤ u.nn) : apOK x y k := by
  obtain ⟨h1, -, -, -⟩ := apr_pas hC hL hR h hG k hk
  refine ⟨h1.ok, h1.kc9 hL, fun q => ?_⟩
  by_cases hz : k < u.nn
  · rw [h1.wt hz] at q
    rw [h1.wc]
    exact numF_pos hz q
  · rw [h1.w0 (by omega)] at q; cases q
/-- receive -/
def rcW (A W : Nat → Bool) (o : Nat) : Nat → Bool := if A o = false ∧ W o = false then va_up W o true else W
theorem rcv_cr (hC : CL x u) (hL : LogP u) (hR : RowP u r A W) (h : CR u y r A W G) (ho : o < u.nn) : CR u (rcvR x y o) r A (rcW A W o) G ∧ (rcvR x y o).tl = y.tl ∧ (rcvR x y o).txt = y.txt := by
  unfold rcvR rcW
  rw [has_eq hC hL h hR ho, h.wt ho]
  by_cases c : A o = false ∧ W o = false
  · rw [if_pos c, if_pos c]
    have hwc : y.wc + 1 = numF (va_up W o true) u.nn := by rw [numF_upt ho c.2, h.wc]
    have hle := numF_le (va_up W o true) u.nn
    have hn := hL.ok.n
    refine ⟨⟨okR_mk h.ok.self h.ok.tl h.ok.kc (by omega) h.ok.gs h.ok.seen3 h.ok.txt100, h.self, fun i j hi hj => h.sn hi hj, fun i j hj => h.s0 hj, fun k hk => ?_, fun k hk => ?_, hwc, fun f => h.er f, fun k hk => h.kp hk, fun k hk => h.k0 hk, h.kc, h.gs⟩, rfl, rfl⟩
    · show va_up y.wts o true k = va_up W o true k
      unfold va_up
      split
      · rfl
      · exact h.wt hk
    · show va_up y.wts o true k = false
      rw [va_up_ne _ _ (by omega)]
      exact h.w0 hk
  · rw [if_neg c, if_neg c]
    exact ⟨h, rfl, rfl⟩
theorem rcW_row (hR : RowP u r A W) : RowP u r A (rcW A W o) := by
  unfold rcW
  split
  · next c => exact row_recv hR c.1
  · exact hR
/-- receiveAllOf -/
def rcS (A A2 W : Nat → Bool) : Nat → Nat → Bool
  | 0 => W
  | k + 1 => if A2 k = true then rcW A (rcS A A2 W k) k else rcS A A2 W k
theorem rcS_row {A2 : Nat → Bool} (hR : RowP u r A W) : ∀ k, RowP u r A (rcS A A2 W k)
  | 0 => hR
  | k + 1 => by
    rw [rcS]
    split
    · exact rcW_row (rcS_row hR k)
    · exact rcS_row hR k
theorem rcS_un {A2 : Nat → Bool} (o : Nat) : ∀ k, (A o || rcS A A2 W k o) = (A o || W o || (decide (o < k) && A2 o))
  | 0 => by rw [rcS, decide_eq_false (Nat.not_lt_zero o), Bool.false_and, Bool.or_false]
  | k + 1 => by
    have ih := rcS_un (A2 := A2) o k
    rw [rcS]
    by_cases hko : o = k
    · subst hko
      rw [decide_eq_false (Nat.lt_irrefl o), Bool.false_and, Bool.or_false] at ih
      rw [decide_eq_true (Nat.lt_succ_self o), Bool.true_and]
      cases h2 : A2 o with
      | true =>
        rw [if_pos rfl, Bool.or_true]
        unfold rcW
        split
        · rw [va_up_self, Bool.or_true]
        · next c =>
          cases h3 : A o with
          | true => rfl
          | false =>
            cases h4 : rcS A A2 W o o with
            | true => rfl
            | false => exact absurd ⟨h3, h4⟩ c
      | false => rw [if_neg (by decide), ih, Bool.or_false]
    · have e : decide (o < k + 1) = decide (o < k) := by
        by_cases hq : o < k
        · rw [decide_eq_true hq, decide_eq_true (by omega)]
        · rw [decide_eq_false hq, decide_eq_false (by omega)]
      rw [e, ← ih]
      split
      · unfold rcW
        split
        · rw [va_up_ne _ _ hko]
        · rfl
      · rfl
theorem rca_cr (hC : CL x u) (hL : LogP u) {y2 : RpS} {r2 : Nat} {A2 W2 G2 : Nat → Bool} (hR : RowP u r A W) (h : CR u y r A W G) (hR2 : RowP u r2 A2 W2) (h2 : CR u y2 r2 A2 W2 G2) : ∀ k, k ≤ u.nn →
    CR u (rcaF x y y2 k) r A (rcS A A2 W k) G ∧ (rcaF x y y2 k).tl = y.tl ∧ (rcaF x y y2 k).txt = y.txt
  | 0, _ => ⟨h, rfl, rfl⟩
  | k + 1, hk => by
    obtain ⟨h3, h4, h5⟩ := rca_cr hC hL hR h hR2 h2 k (by omega)
    rw [rcaF, rcS, has_eq hC hL h2 hR2 (show k < u.nn by omega)]
    split
    · obtain ⟨q1, q2, q3⟩ := rcv_cr hC hL (rcS_row hR k) h3 (show k < u.nn by omega)
      exact ⟨q1, q2.trans h4, q3.trans h5⟩
    · exact ⟨h3, h4, h5⟩
end CPL
