/-! collect -/
section COL
variable {x : LgS} {y : RpS} {u : MS} {r : Nat} {A W G : Nat → Bool}
theorem stb_iff (hL : LogP u) {o : Nat} : stbM u r o 3 = true ↔ rowF u.app r o = true ∧ ∀ i, i < 3 → u.line o ≤ knA u (rowF u.app r) r i (u.by_ o) := by
  unfold stbM
  rw [andF_iff]
  refine ⟨fun h => ⟨h.1, fun i hi => ?_⟩, fun h => ⟨h.1, fun i hi => ?_⟩⟩
  · have := of_decide_eq_true (h.2 i hi)
    rw [knM_knA hL] at this
    exact this
  · exact decide_eq_true (by rw [knM_knA hL]; exact h.2 i hi)
theorem set_stb (hC : CL x u) (hL : LogP u) (h : CR u y r (rowF u.app r) W G) (hR : RowP u r (rowF u.app r) W) {o : Nat} (ho : o < u.nn) : setL x y o = stbM u r o 3 := by
  rw [Bool.eq_iff_iff, set_eq hC hL h ho, stb_iff hL]
  refine ⟨fun q => ⟨(hR.a ho).mpr ?_, q⟩, fun q => q.2⟩
  have := q r h.r3
  unfold knA at this
  rw [if_pos rfl] at this
  exact this
theorem g1_sp (hC : CL x u) (hL : LogP u) : ∀ k, k ≤ u.nn → ∀ e, e < k → (mkG1 x y k e = true ↔ ∃ o, o < k ∧ u.let_ o = 0 ∧ setL x y o = true ∧ u.oth o = e + 1)
  | 0, _, e, he => absurd he (Nat.not_lt_zero e)
  | k + 1, hk, e, he => by
    have ih := g1_sp hC hL k (by omega)
    have hot := hL.ot (show k < u.nn by omega)
    rw [mkG1, hC.2.2.2.2.1, hC.2.2.2.1]
    by_cases c : u.let_ k = 0 ∧ setL x y k = true
    · rw [if_pos c]
      have hpos := hL.er (show k < u.nn by omega) c.1
      by_cases he1 : e = u.oth k - 1
      · rw [he1, va_up_self]
        exact ⟨fun _ => ⟨k, by omega, c.1, c.2, by omega⟩, fun _ => rfl⟩
      · rw [va_up_ne _ _ he1]
        by_cases hek : e = k
        · rw [hek, va_up_self]
          refine ⟨fun z => absurd z (by decide), fun ⟨o, h1, h2, h3, h4⟩ => ?_⟩
          have := hL.ot (show o < u.nn by omega)
          omega
        · rw [va_up_ne _ _ hek, ih e (by omega)]
          refine ⟨fun ⟨o, h1, h2, h3, h4⟩ => ⟨o, by omega, h2, h3, h4⟩, fun ⟨o, h1, h2, h3, h4⟩ => ?_⟩
          by_cases hok : o = k
          · rw [hok] at h4; omega
          · exact ⟨o, by omega, h2, h3, h4⟩
    · rw [if_neg c]
      by_cases hek : e = k
      · rw [hek, va_up_self]
        refine ⟨fun z => absurd z (by decide), fun ⟨o, h1, h2, h3, h4⟩ => ?_⟩
        have := hL.ot (show o < u.nn by omega)
        omega
      · rw [va_up_ne _ _ hek, ih e (by omega)]
        refine ⟨fun ⟨o, h1, h2, h3, h4⟩ => ⟨o, by omega, h2, h3, h4⟩, fun ⟨o, h1, h2, h3, h4⟩ => ?_⟩
        by_cases hok : o = k
        · rw [hok] at h2 h3; exact absurd ⟨h2, h3⟩ c
        · exact ⟨o, by omega, h2, h3, h4⟩
theorem g2_sp (hC : CL x u) (e : Nat) : ∀ k, (mkG2 x y k e = true ↔ mkG1 x y x.cnt e = true ∧ ∀ o, o < k → hldL x y o = true → u.oth o ≠ e + 1)
  | 0 => ⟨fun h => ⟨h, fun o ho => absurd ho (Nat.not_lt_zero o)⟩, fun h => h.1⟩
  | k + 1 => by
    have ih := g2_sp hC e k
    rw [mkG2]
    by_cases c : hldL x y k = true
    · rw [if_pos c]
      have ht := hld_tgt c
      rw [hC.2.2.2.1] at ht ⊢
      by_cases he : e = u.oth k - 1
      · rw [he, va_up_self]
        exact ⟨fun z => absurd z (by decide), fun z => absurd (show u.oth k = u.oth k - 1 + 1 by omega) (z.2 k (by omega) c)⟩
      · rw [va_up_ne _ _ he, ih]
        refine ⟨fun z => ⟨z.1, fun o ho hh => ?_⟩, fun z => ⟨z.1, fun o ho => z.2 o (by omega)⟩⟩
        by_cases hok : o = k
        · rw [hok]; omega
        · exact z.2 o (by omega) hh
    · rw [if_neg c, ih]
      refine ⟨fun z => ⟨z.1, fun o ho hh => ?_⟩, fun z => ⟨z.1, fun o ho => z.2 o (by omega)⟩⟩
      by_cases hok : o = k
      · rw [hok] at hh; exact absurd hh c
      · exact z.2 o (by omega) hh
theorem g2_idl (hC : CL x u) (hL : LogP u) (h : CR u y r (rowF u.app r) W G) (hR : RowP u r (rowF u.app r) W) {e : Nat} (he : e < u.nn) : mkG2 x y x.cnt e = idlM u r e := by
  rw [Bool.eq_iff_iff, g2_sp hC e x.cnt, hC.1, g1_sp hC hL u.nn (Nat.le_refl _) e he]
  unfold idlM ideM idrM
  rw [Bool.and_eq_true, orF_iff, andF_iff]
  refine and_congr ⟨fun ⟨o, h1, h2, h3, h4⟩ => ⟨o, h1, ?_⟩, fun ⟨o, h1, h2⟩ => ⟨o, h1, ?_⟩⟩ ⟨fun z => ⟨rfl, fun o ho => ?_⟩, fun z o ho hh q => ?_⟩
  · rw [set_stb hC hL h hR h1] at h3
    have ha := ((stb_iff hL).mp h3).1
    simp only [Bool.and_eq_true, decide_eq_true_eq]
    exact ⟨h4, ha, h2, h3⟩
  · simp only [Bool.and_eq_true, decide_eq_true_eq] at h2
    exact ⟨h2.2.2.1, by rw [set_stb hC hL h hR h1]; exact h2.2.2.2, h2.1⟩
  · have hz := z o ho
    unfold hldL at hz
    rw [hC.2.2.2.2.1, hC.2.2.2.1, has_eq hC hL h hR ho, set_stb hC hL h hR ho] at hz
    by_cases c1 : u.oth o = e + 1
    · have hn : ¬ (!decide (u.let_ o = 0) && (!decide (u.oth o = 0) && (rowF u.app r o && !stbM u r o 3))) = true := fun q => hz q c1
      rw [decide_eq_false (show ¬ u.oth o = 0 by omega)] at hn
      rw [decide_eq_true c1]
      have er : u.app (100 * r + o) = rowF u.app r o := rfl
      rw [er]
      cases h1 : decide (u.let_ o = 0) <;> cases h2 : rowF u.app r o <;> cases h3 : stbM u r o 3 <;> rw [h1, h2, h3] at hn <;> first | rfl | exact absurd rfl hn
    · rw [decide_eq_false c1]; rfl
  · have hz := z.2 o ho
    unfold hldL at hh
    rw [hC.2.2.2.2.1, hC.2.2.2.1, has_eq hC hL h hR ho, set_stb hC hL h hR ho] at hh
    simp only [Bool.and_eq_true, Bool.not_eq_true', decide_eq_false_iff_not] at hh
    have er : u.app (100 * r + o) = rowF u.app r o := rfl
    rw [decide_eq_true q, er, hh.2.2.1, hh.2.2.2, decide_eq_false hh.1] at hz
    cases hz
theorem col_all (hC : CL x u) (hL : LogP u) (hp : RepP x y u r (rowF u.app r) (rowF u.wts r) (rowF u.gon r)) : ∀ k, k ≤ u.nn →
    (drF (mkG2 x y x.cnt) y.kpt k).2 = (colF u r k).2 ∧ (∀ o, o < u.nn → (drF (mkG2 x y x.cnt) y.kpt k).1 o = kpA u (rowF u.app r) (rowF (colF u r k).1 r) o) ∧ (∀ o, u.nn ≤ o → (drF (mkG2 x y x.cnt) y.kpt k).1 o = false) ∧
    (∀ i, (∀ o, o < u.nn → i ≠ 100 * r + o) → (colF u r k).1 i = u.gon i) ∧ numF (kpA u (rowF u.app r) (rowF (colF u r k).1 r)) u.nn + (colF u r k).2 = numF (kpA u (rowF u.app r) (rowF u.gon r)) u.nn ∧
    (∀ o, o < u.nn → rowF (colF u r k).1 r o = true → rowF u.app r o = true)
  | 0, _ => ⟨rfl, fun o ho => hp.cr.kp ho, fun o ho => hp.cr.k0 ho, fun _ _ => rfl, rfl, fun o ho q => hp.ga ho q⟩
  | k + 1, hk => by
    obtain ⟨h1, h2, h3, h4, h5, h6⟩ := col_all hC hL hp k (by omega)
    have hkn : k < u.nn := by omega
    have eg := g2_idl hC hL hp.cr hp.row hkn
    have ek : kpsM (gnM u (colF u r k).1) r k = (drF (mkG2 x y x.cnt) y.kpt k).1 k := (h2 k hkn).symm
    have ei : idlM (gnM u (colF u r k).1) r k = mkG2 x y x.cnt k := eg.symm
    by_cases c : mkG2 x y x.cnt k = true ∧ (drF (mkG2 x y x.cnt) y.kpt k).1 k = true
    · rw [drF_t c.1 c.2, colF_t (ek.trans c.2) (ei.trans c.1)]
      have hkp : kpA u (rowF u.app r) (rowF (colF u r k).1 r) k = true := (h2 k hkn).symm.trans c.2
      have hka : rowF u.app r k = true := by
        unfold kpA at hkp
        simp only [Bool.and_eq_true] at hkp
        exact hkp.2.1
      have hnew : ∀ o, kpA u (rowF u.app r) (rowF (va_up (colF u r k).1 (100 * r + k) true) r) o = va_up (kpA u (rowF u.app r) (rowF (colF u r k).1 r)) k false o := by
        intro o
        rw [row_up]
        unfold kpA va_up
        by_cases hok : o = k
        · rw [if_pos hok, if_pos hok]; simp
        · rw [if_neg hok, if_neg hok]
      refine ⟨by show _ + 1 = _ + 1; rw [h1], fun o ho => ?_, fun o ho => ?_, fun i hi => ?_, ?_, fun o ho q => ?_⟩
      · show va_up (drF (mkG2 x y x.cnt) y.kpt k).1 k false o = kpA u (rowF u.app r) (rowF (va_up (colF u r k).1 (100 * r + k) true) r) o
        rw [hnew]
        unfold va_up
        split
        · rfl
        · exact h2 o ho
      · show va_up (drF (mkG2 x y x.cnt) y.kpt k).1 k false o = false
        rw [va_up_ne _ _ (by omega)]
        exact h3 o ho
      · show va_up (colF u r k).1 (100 * r + k) true i = _
        rw [va_up_ne _ _ (hi k hkn)]
        exact h4 i hi
      · show numF (kpA u (rowF u.app r) (rowF (va_up (colF u r k).1 (100 * r + k) true) r)) u.nn + ((colF u r k).2 + 1) = _
        rw [← h5, numF_congr (fun o ho => hnew o), ← numF_upf hkn hkp]
        omega
      · have q2 : rowF (va_up (colF u r k).1 (100 * r + k) true) r o = true := q
        rw [row_up] at q2
        by_cases hok : o = k
        · rw [hok]; exact hka
        · rw [va_up_ne _ _ hok] at q2
          exact h6 o ho q2
    · have e1 : drF (mkG2 x y x.cnt) y.kpt (k + 1) = drF (mkG2 x y x.cnt) y.kpt k := by rw [drF, if_neg c]
      have e2 : colF u r (k + 1) = colF u r k := by
        rw [colF, if_neg (fun q => c ⟨ei.symm.trans q.2, ek.symm.trans q.1⟩)]
      rw [e1, e2]
      exact ⟨h1, h2, h3, h4, h5, h6⟩
theorem lt_gn (g : Nat → Bool) (i j : Nat) : ∀ n, ltA (gnM u g) A i j n = ltA u A i j n
  | 0 => rfl
  | n + 1 => by rw [ltA, ltA, lt_gn g i j n]; rfl
theorem gs_gn (g : Nat → Bool) : ∀ n, gsA (gnM u g) A n = gsA u A n
  | 0 => rfl
  | n + 1 => by rw [gsA, gsA, gs_gn g n]; rfl
theorem rep_gn (g : Nat → Bool) : RepP x y (gnM u g) r A W G = RepP x y u r A W G := by
  have e : CR (gnM u g) y r A W G = CR u y r A W G := by
    unfold CR knA
    simp only [lt_gn, gs_gn]
    rfl
  unfold RepP
  rw [e]
  rfl
theorem col_inv {y : Nat → RpS} (hI : INV x y u) (hr : r < 3) : (drF (mkG2 x (y r) x.cnt) (y r).kpt x.cnt).2 = (colF u r u.nn).2 ∧ (drF (mkG2 x (y r) x.cnt) (y r).kpt x.cnt).2 ≤ (y r).kc ∧ INV x (va_up y r (drR x (y r))) (gnM u (colF u r u.nn).1) := by
  obtain ⟨hL, hC, hO, hA⟩ := hI
  have hp := hA r hr
  have hn := hL.ok.n
  obtain ⟨h1, h2, h3, h4, h5, h6⟩ := col_all hC hL hp u.nn (Nat.le_refl _)
  have hcn : (drF (mkG2 x (y r) x.cnt) (y r).kpt x.cnt) = (drF (mkG2 x (y r) x.cnt) (y r).kpt u.nn) := by rw [hC.1]
  have hkc := hp.cr.kc
  refine ⟨by rw [hcn]; exact h1, by rw [hcn]; omega, hL, hC, hO, fun q hq => ?_⟩
  rw [rep_gn]
  by_cases hqr : q = r
  · rw [hqr, va_up_self]
    refine ⟨hp.row, hp.qui, fun o q1 q2 => ?_, fun o q1 q2 => h6 o q1 q2, ⟨?_, hp.cr.self, fun _ _ hi hj => hp.cr.sn hi hj, fun _ _ hj => hp.cr.s0 hj, fun _ ho => hp.cr.wt ho, fun _ ho => hp.cr.w0 ho, hp.cr.wc, fun f => hp.cr.er f, fun o ho => ?_, fun o ho => ?_, ?_, hp.cr.gs⟩, hp.tc⟩
    · have z := hp.out q1 q2
      exact ⟨z.1, z.2.1, (h4 (100 * r + o) (fun o' ho' => by omega)).trans z.2.2⟩
    · have k := hp.cr.ok
      exact okR_mk k.self k.tl (Nat.lt_of_le_of_lt (Nat.sub_le _ _) k.kc) k.wc k.gs k.seen3 k.txt100
    · show (drF (mkG2 x (y r) x.cnt) (y r).kpt x.cnt).1 o = _
      rw [hcn]; exact h2 o ho
    · show (drF (mkG2 x (y r) x.cnt) (y r).kpt x.cnt).1 o = _
      rw [hcn]; exact h3 o ho
    · show (y r).kc - (drF (mkG2 x (y r) x.cnt) (y r).kpt x.cnt).2 = numF (kpA u (rowF u.app r) (rowF (colF u r u.nn).1 r)) u.nn
      rw [hcn]
      omega
  · rw [va_up_ne _ _ hqr]
    refine (hA q hq).congr hL hO (fun o ho => rfl) (fun o ho => rfl) (fun o ho => ?_)
    exact (h4 (100 * q + o) (fun o' ho' => by omega)).symm
end COL
