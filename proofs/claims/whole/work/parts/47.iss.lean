/-! issue -/
theorem okM_iss {u : MS} {r ch t : Nat} (ok : okM u) (hL : LogP u) (hr : r < 3) (hn : u.nn < 100) (hch : ch < 65536) (ht : t ≤ 100) {xs : List Nat} (okw : okM (walked u r xs)) : okM (issM (walked u r xs) r ch t) := by
  have hc := fun (app : Nat → Bool) (j n : Nat) => cntF_le (va_up u.by_ u.nn r) app r j n
  refine okM_mk (show u.nn + 1 ≤ 100 by omega) okw.len (up_lt ok.by3 hr) (up_lt ok.line3 ?_) (up_lt ok.stp3 ?_) (up_lt ok.let5 hch) (up_le ok.oth100 ht) (clkU_lt ok.clk3 (fun j => ?_) 3) okw.txt100 okw.spr5
  · have := hc u.app r u.nn
    show cntF (va_up u.by_ u.nn r) u.app r r u.nn + 1 < 1000
    omega
  · show gstM u r u.nn + 1 < 1000
    rw [gst_gsA]
    have := gsA_le hL (rowF u.app r) u.nn (Nat.le_refl _)
    omega
  · have := hc (va_up u.app (100 * r + u.nn) true) j (u.nn + 1)
    show cntF (va_up u.by_ u.nn r) (va_up u.app (100 * r + u.nn) true) r j (u.nn + 1) < 1000
    omega
theorem rec_f (x : LgS) (i s t ch : Nat) (f : Nat → Nat) (k : Nat) : (recL x i s t ch f k).cnt = x.cnt + 1 ∧ (recL x i s t ch f k).iss = va_up x.iss x.cnt i ∧ (recL x i s t ch f k).stp = va_up x.stp x.cnt s ∧ (recL x i s t ch f k).tgt = va_up x.tgt x.cnt t ∧ (recL x i s t ch f k).chr = va_up x.chr x.cnt ch ∧ (recL x i s t ch f k).clk = clkV x.clk x.cnt (fun j => f j + if j = i then 1 else 0) 3 := by
  unfold recL
  split <;> exact ⟨rfl, rfl, rfl, rfl, rfl, rfl⟩
section ISS
variable {x : LgS} {y : Nat → RpS} {u : MS} {r ch t k : Nat} {xs : List Nat}
theorem cl_iss (hI : INV x y u) (hr : r < 3) (hn : u.nn < 100) (ht : t ≤ 100) (hch : ch < 65536) : CL (isuL x (y r) t ch k) (issM (walked u r xs) r ch t) := by
  obtain ⟨hL, hC, hO, hA⟩ := hI
  have hp := (hA r hr).cr
  obtain ⟨f1, f2, f3, f4, f5, f6⟩ := rec_f x (y r).self ((y r).gs + 1) t ch ((y r).seen (y r).self) k
  have hgs := gsA_le hL (rowF u.app r) u.nn (Nat.le_refl _)
  have hsn : ∀ j, (y r).seen (y r).self j < 900 := fun j => by
    by_cases hj : j < 3
    · rw [hp.self_c hj]
      have := numF_le (fun o => decide (u.by_ o = j) && rowF u.app r o) u.nn
      unfold cA
      omega
    · rw [hp.s0 (by omega)]; decide
  have hel := el_le hO
  refine ⟨f1.trans (by rw [hC.1]; rfl), f2.trans ?_, f3.trans ?_, f4.trans ?_, f5.trans ?_, f6.trans ?_, ?_⟩
  · rw [hC.1, hC.2.1, hp.self]; rfl
  · rw [hC.1, hC.2.2.1, hp.gs, ← gst_gsA]; rfl
  · rw [hC.1, hC.2.2.2.1]; rfl
  · rw [hC.1, hC.2.2.2.2.1]; rfl
  · rw [hC.1, hC.2.2.2.2.2.1]
    show _ = clkU u.clk u.nn (fun j => cntF (va_up u.by_ u.nn r) (va_up u.app (100 * r + u.nn) true) r j (u.nn + 1)) 3
    refine clk_VU 3 (fun j hj => ?_)
    rw [cnt_by2, hp.self_c hj, hp.self]
  · exact okL_rec hC.2.2.2.2.2.2 hp.ok.self (by rw [hp.gs]; omega) ht hch (by rw [hC.1]; exact hn) (by omega) hsn
theorem iss_inv (hI : INV x y u) (hr : r < 3) (hn : u.nn < 100) (okw : okM (walked u r xs)) (ht : t ≤ u.nn) (ht2 : 0 < t → 0 < u.let_ (t - 1) ∧ rowF u.app r (t - 1) = true) (hc : ch = 0 → 0 < t) (hch : ch < 65536) (hpl : 0 < ch → ∃ ib, plP (rec5 x (y r).self ((y r).gs + 1) t ch ((y r).seen (y r).self)) x.cnt ib k) : INV (isuL x (y r) t ch k) (va_up y r (isuR x (y r) t ch k)) (issM (walked u r xs) r ch t) := by
  have hC' := cl_iss (xs := xs) (k := k) hI hr hn (show t ≤ 100 by omega) hch
  obtain ⟨hL, hC, hO, hA⟩ := hI
  have hp := hA r hr
  have hE := ext_iss u r ch t xs
  have ok' := okM_iss (t := t) hL.ok hL hr hn hch (by omega) okw
  have hL' := ext_log hE hL hp.row hr ok' ht ht2 hc
  have hX : (ch = 0 ∧ (isuL x (y r) t ch k).ord = x.ord ∧ (isuL x (y r) t ch k).el = x.el) ∨ (0 < ch ∧ (isuL x (y r) t ch k).ord = va_up (shU x.ord x.el k) k u.nn ∧ (isuL x (y r) t ch k).el = x.el + 1) := by
    unfold isuL recL
    by_cases hz : ch = 0
    · rw [if_pos hz]; exact Or.inl ⟨hz, rfl, rfl⟩
    · rw [if_neg hz, ← hC.1]; exact Or.inr ⟨by omega, rfl, rfl⟩
  have hO' : OrdC (isuL x (y r) t ch k) (issM (walked u r xs) r ch t) ∧ ((0 < ch) → k ≤ x.el) := by
    rcases hX with ⟨h1, h2, h3⟩ | ⟨h1, h2, h3⟩
    · exact ⟨ord_ers hE hO h1 h2 h3, fun z => by omega⟩
    · obtain ⟨ib, p1, p2, p3, p4, p5⟩ := hpl h1
      have e5 : ∀ a b, gofL (rec5 x (y r).self ((y r).gs + 1) t ch ((y r).seen (y r).self)) a b = snM (issM (walked u r xs) r ch t) a b := by
        intro a b
        have f := rec_f x (y r).self ((y r).gs + 1) t ch ((y r).seen (y r).self) k
        have g1 : (rec5 x (y r).self ((y r).gs + 1) t ch ((y r).seen (y r).self)).stp = (issM (walked u r xs) r ch t).stp := f.2.2.1.symm.trans hC'.2.2.1
        have g2 : (rec5 x (y r).self ((y r).gs + 1) t ch ((y r).seen (y r).self)).iss = (issM (walked u r xs) r ch t).by_ := f.2.1.symm.trans hC'.2.1
        unfold gofL snM
        rw [g1, g2]
      have et : (rec5 x (y r).self ((y r).gs + 1) t ch ((y r).seen (y r).self)).tgt x.cnt = t := va_up_self _ _ _
      have hib : XO x.ord ib = t := by
        rw [et] at p1
        rcases p1 with ⟨q1, q2⟩ | ⟨i, q1, q2, q3, q4⟩
        · rw [q1, q2]; rfl
        · rw [q4, XO_s]; exact q3
      refine ⟨ord_isr hE hL' hO h1 h2 h3 hib p2 p3 (fun j j1 j2 => ?_) (fun z => ?_), fun _ => p3⟩
      · rw [← e5, ← hC.1]; exact p4 j j1 j2
      · rw [← e5, ← hC.1]; exact p5 z
  refine ⟨hL', hC', hO'.1, fun q hq => ?_⟩
  have hrow : rowF (issM (walked u r xs) r ch t).app r = va_up (rowF u.app r) u.nn true := row_up u.app r u.nn true
  have hcg : ∀ o, o < u.nn → rowF u.app r o = va_up (rowF u.app r) u.nn true o := fun o ho => (va_up_ne _ _ (by omega)).symm
  have hpo := hp.out (Nat.le_refl _) hn
  by_cases hqr : q = r
  · rw [hqr, va_up_self, hrow]
    have hR0 := hp.row.congr hcg (fun o ho => rfl)
    have hB : va_up (rowF u.app r) u.nn true u.nn = true ↔ r = r := ⟨fun _ => rfl, fun _ => va_up_self _ _ _⟩
    have hR := ext_row hE hL hr hp.row hR0 hB (fun _ => hcg) hpo.2.1
    have hc1 := ext_cri hE hL hL' hC' hp.cr hpo.2.1 hpo.2.2 hc
    have he : isuR x (y r) t ch k = rwR (isuL x (y r) t ch k) (applyR (isuL x (y r) t ch k) (y r) u.nn) := by unfold isuR; rw [hC.1]
    rw [he]
    refine ⟨hR, ext_qui hE hL hR0 hB (hp.qui.congr (Nat.le_refl _) hcg (fun o ho => rfl)) hpo.2.1, fun o h1 h2 => ?_, fun o h1 h2 => ?_, hc1.rw hC'.2.2.2.2.2.2, ?_⟩
    · have h1' : u.nn + 1 ≤ o := h1
      rw [va_up_ne _ _ (by omega)]
      exact hp.out (by omega) h2
    · have h1' : o < u.nn + 1 := h1
      by_cases hz : o = u.nn
      · rw [hz, va_up_self]
      · rw [va_up_ne _ _ hz]; exact hp.ga (by omega) h2
    · exact rw_tc hO'.1 (fun o ho => has_eq hC' hL' hc1 hR ho) (fun f => hc1.er f)
  · rw [va_up_ne _ _ hqr]
    have hq0 := hA q hq
    have hqo := hq0.out (Nat.le_refl _) hn
    have hB : rowF u.app q u.nn = true ↔ q = r := ⟨fun z => absurd (hqo.1.symm.trans z) (by decide), fun z => absurd z hqr⟩
    have hR := ext_row hE hL hr hp.row hq0.row hB (fun z => absurd z hqr) hqo.2.1
    have hd : hdL (isuL x (y r) t ch k) (rowF u.app q) = hdL x (rowF u.app q) := by
      rcases hX with ⟨h1, h2, h3⟩ | ⟨h1, h2, h3⟩
      · unfold hdL; rw [h2, h3]
      · exact hd_ins h2 h3 (hO'.2 h1) hqo.1
    have hrep : RepP (isuL x (y r) t ch k) (y q) (issM (walked u r xs) r ch t) q (rowF u.app q) (rowF u.wts q) (rowF u.gon q) := by
      refine ⟨hR, ext_qui hE hL hq0.row hB hq0.qui hqo.2.1, fun o h1 h2 => ?_, fun o h1 h2 => ?_, ext_cr hE hq0.cr hqo.1 hqo.2.1, tc_ext hE hqo.1 hd hq0.tc⟩
      · have h1' : u.nn + 1 ≤ o := h1
        exact hq0.out (by omega) h2
      · have h1' : o < u.nn + 1 := h1
        by_cases hz : o = u.nn
        · rw [hz, hqo.2.2] at h2; cases h2
        · exact hq0.ga (by omega) h2
    exact hrep.congr hL' hO'.1 (fun o ho => (row_up2 u.app true hqr hn ho).symm) (fun o ho => rfl) (fun o ho => rfl)
/-- where a new element goes -/
theorem tc_at (hI : INV x y u) (hr : r < 3) {p : Nat} (hp : p < (y r).tl) : ∃ i, i < x.el ∧ (y r).txt p = x.ord i ∧ rowF u.app r (x.ord i) = true ∧ x.ord i < u.nn ∧ 0 < u.let_ (x.ord i) := by
  obtain ⟨hL, hC, hO, hA⟩ := hI
  have hT := (hA r hr).tc
  have h1 := hT.1
  obtain ⟨i, i1, i2, i3⟩ := tx_P (A := rowF u.app r) hO (show p < (TX x u (rowF u.app r)).1 by omega)
  have e := hO.2.1 i i1
  exact ⟨i, i1, by rw [hT.2 p hp, i2], i3, e.1, e.2⟩
theorem pl_ex (hI : INV x y u) (hr : r < 3) (ch : Nat) {p : Nat} (hp : p ≤ (y r).tl) : ∃ ib kp, plP (rec5 x (y r).self ((y r).gs + 1) (befR (y r) p) ch ((y r).seen (y r).self)) x.cnt ib kp := by
  have hib : ∃ ib, ib ≤ x.el ∧ ibP (rec5 x (y r).self ((y r).gs + 1) (befR (y r) p) ch ((y r).seen (y r).self)) (befR (y r) p) ib := by
    unfold befR
    by_cases hz : p = 0
    · rw [if_pos hz]; exact ⟨0, Nat.zero_le _, Or.inl ⟨rfl, rfl⟩⟩
    · rw [if_neg hz]
      obtain ⟨i, i1, i2, -, -, -⟩ := tc_at hI hr (show p - 1 < (y r).tl by omega)
      refine ⟨i + 1, by omega, Or.inr ⟨i, i1, fun k hk q => ?_, ?_, rfl⟩⟩
      · rw [i2] at q
        have q2 : x.ord k + 1 = x.ord i + 1 := q
        have := hI.2.2.1.1.2.1 (k + 1) (i + 1) (by omega) (by omega) (by rw [XO_s, XO_s]; exact q2)
        omega
      · show x.ord i + 1 = _
        rw [i2]
  obtain ⟨ib, h1, h2⟩ := hib
  obtain ⟨kp, k1, k2⟩ := pk_least (fun k => ib ≤ k ∧ (k = x.el ∨ gofL (rec5 x (y r).self ((y r).gs + 1) (befR (y r) p) ch ((y r).seen (y r).self)) (x.ord k) x.cnt = false)) ⟨x.el, h1, Or.inl rfl⟩
  have hkl : kp ≤ x.el := by
    by_cases hq : kp ≤ x.el
    · exact hq
    · exact absurd ⟨h1, Or.inl rfl⟩ (k2 x.el (by omega))
  have et : (rec5 x (y r).self ((y r).gs + 1) (befR (y r) p) ch ((y r).seen (y r).self)).tgt x.cnt = befR (y r) p := va_up_self _ _ _
  refine ⟨ib, kp, by rw [et]; exact h2, k1.1, hkl, fun j j1 j2 => ?_, fun hlt => ?_⟩
  · cases hg : gofL (rec5 x (y r).self ((y r).gs + 1) (befR (y r) p) ch ((y r).seen (y r).self)) (x.ord j) x.cnt with
    | true => exact hg
    | false => exact absurd ⟨j1, Or.inr hg⟩ (k2 j j2)
  · rcases k1.2 with q | q
    · have hlt2 : kp < x.el := hlt
      omega
    · exact q
end ISS
/-! the start -/
theorem inv_init : INV initL initR initM := by
  have hok : okM initM := okM_mk (by decide) (by decide) (fun _ => by decide) (fun _ => by decide) (fun _ => by decide) (fun _ => by decide) (fun _ => by decide) (fun _ => by decide) (fun _ => by decide) (fun _ => by decide)
  have hnn : initM.nn = 0 := rfl
  refine ⟨⟨hok, fun o ho => absurd ho (Nat.not_lt_zero o)⟩, ⟨rfl, rfl, rfl, rfl, rfl, rfl, okL_mk (by decide) (by decide) (fun _ => by decide) (fun _ => by decide) (fun _ => by decide) (fun _ => by decide) (fun _ => by decide) (fun _ => by decide)⟩, ⟨⟨rfl, fun i j hi hj _ => ?_, fun i h1 h2 => ?_, fun i k j h1 h2 h3 q => ?_, fun i j h1 h2 => ?_⟩, fun i hi => absurd hi (Nat.not_lt_zero i), fun o ho => absurd ho (Nat.not_lt_zero o), rfl⟩, fun r hr => ?_⟩
  · have h1 : i ≤ 0 := hi
    have h2 : j ≤ 0 := hj
    omega
  · have h2' : i ≤ 0 := h2
    omega
  · have h3' : j ≤ 0 := h3
    have e1 : i = 0 := by omega
    have e2 : k = 0 := by omega
    rw [e1, e2]
    exact anc_refl _ _
  · have h2' : i ≤ 0 := h2
    omega
  · refine ⟨fun o ho => absurd ho (Nat.not_lt_zero o), fun o ho => absurd ho (Nat.not_lt_zero o), fun o _ _ => ⟨rfl, rfl, rfl⟩, fun o ho => absurd ho (Nat.not_lt_zero o), ⟨okR_mk hr (by decide) (by decide) (by decide) (by decide) (fun _ _ => by decide) (fun _ => by decide), rfl, fun i j hi hj => ?_, fun _ _ _ => rfl, fun o ho => rfl, fun o _ => rfl, rfl, fun f => rfl, fun o ho => absurd ho (Nat.not_lt_zero o), fun o _ => rfl, rfl, rfl⟩, ⟨rfl, fun k hk => absurd hk (Nat.not_lt_zero k)⟩⟩
    show 0 = if i = r then 0 else 0
    split <;> rfl
