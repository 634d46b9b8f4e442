/-! AN OPERATION MORE in the log -/
def ExtP (u u' : MS) (r ch t : Nat) (A : Nat → Bool) : Prop :=
  u'.nn = u.nn + 1 ∧ (∀ o, o < u.nn → u'.by_ o = u.by_ o ∧ u'.line o = u.line o ∧ u'.stp o = u.stp o ∧ u'.let_ o = u.let_ o ∧ u'.oth o = u.oth o ∧ ∀ j, j < 3 → u'.clk (3 * o + j) = u.clk (3 * o + j)) ∧
  u'.by_ u.nn = r ∧ u'.line u.nn = cA u A r + 1 ∧ u'.stp u.nn = gsA u A u.nn + 1 ∧ u'.let_ u.nn = ch ∧ u'.oth u.nn = t ∧ ∀ j, j < 3 → u'.clk (3 * u.nn + j) = cA u A j + if j = r then 1 else 0
theorem clkU_at (c : Nat → Nat) (o : Nat) (g : Nat → Nat) : ∀ n i, clkU c o g n i = if 3 * o ≤ i ∧ i < 3 * o + n then g (i - 3 * o) else c i
  | 0, i => by rw [if_neg (by omega)]; rfl
  | n + 1, i => by
    show va_up (clkU c o g n) (3 * o + n) (g n) i = _
    by_cases h : i = 3 * o + n
    · rw [h, va_up_self, if_pos (by omega), Nat.add_sub_cancel_left]
    · rw [va_up_ne _ _ h, clkU_at c o g n i]
      by_cases hq : 3 * o ≤ i ∧ i < 3 * o + n
      · rw [if_pos hq, if_pos (by omega)]
      · rw [if_neg hq, if_neg (by omega)]
theorem clk_VU {c : Nat → Nat} {o : Nat} {g g2 : Nat → Nat} : ∀ n, (∀ j, j < n → g j = g2 j) → clkV c o g n = clkU c o g2 n
  | 0, _ => rfl
  | n + 1, h => by
    show va_up (clkV c o g n) (o * 3 + n) (g n) = va_up (clkU c o g2 n) (3 * o + n) (g2 n)
    rw [clk_VU n (fun j hj => h j (by omega)), h n (by omega), Nat.mul_comm]
theorem cnt_by {u : MS} {r j : Nat} : cntF (va_up u.by_ u.nn r) u.app r j u.nn = cA u (rowF u.app r) j := by
  rw [cntF_num]
  exact numF_congr (fun k hk => by rw [va_up_ne _ _ (by omega)])
theorem cnt_by2 {u : MS} {r j : Nat} : cntF (va_up u.by_ u.nn r) (va_up u.app (100 * r + u.nn) true) r j (u.nn + 1) = cA u (rowF u.app r) j + if j = r then 1 else 0 := by
  rw [cntF_num, numF, row_up, va_up_self, va_up_self]
  have e : numF (fun o => decide (va_up u.by_ u.nn r o = j) && va_up (rowF u.app r) u.nn true o) u.nn = cA u (rowF u.app r) j := numF_congr (fun k hk => by rw [va_up_ne _ _ (by omega), va_up_ne _ _ (by omega)])
  rw [e]
  by_cases h : j = r
  · rw [if_pos h, if_pos (by rw [decide_eq_true h.symm]; rfl)]
  · rw [if_neg h, if_neg (fun q => by rw [decide_eq_false (fun z => h z.symm)] at q; cases q)]; rfl
theorem ext_iss (u : MS) (r ch t : Nat) (xs : List Nat) : ExtP u (issM (walked u r xs) r ch t) r ch t (rowF u.app r) := by
  refine ⟨rfl, fun o ho => ⟨?_, ?_, ?_, ?_, ?_, fun j hj => ?_⟩, ?_, ?_, ?_, ?_, ?_, fun j hj => ?_⟩
  · exact va_up_ne _ _ (Nat.ne_of_lt ho)
  · exact va_up_ne _ _ (Nat.ne_of_lt ho)
  · exact va_up_ne _ _ (Nat.ne_of_lt ho)
  · exact va_up_ne _ _ (Nat.ne_of_lt ho)
  · exact va_up_ne _ _ (Nat.ne_of_lt ho)
  · show clkU u.clk u.nn _ 3 (3 * o + j) = _
    rw [clkU_at, if_neg (by omega)]
  · exact va_up_self _ _ _
  · show va_up u.line u.nn _ u.nn = _
    rw [va_up_self]
    show cntF (va_up u.by_ u.nn r) u.app r r u.nn + 1 = _
    rw [cnt_by]
  · show va_up u.stp u.nn (gstM u r u.nn + 1) u.nn = _
    rw [va_up_self, gst_gsA]
  · exact va_up_self _ _ _
  · exact va_up_self _ _ _
  · show clkU u.clk u.nn (fun j => cntF (va_up u.by_ u.nn r) (va_up u.app (100 * r + u.nn) true) r j (u.nn + 1)) 3 (3 * u.nn + j) = _
    rw [clkU_at, if_pos (by omega), Nat.add_sub_cancel_left, cnt_by2]
section EXT
variable {u u' : MS} {r ch t : Nat} {A B W G : Nat → Bool} {q : Nat}
theorem ExtP.nn (h : ExtP u u' r ch t A) : u'.nn = u.nn + 1 := h.1
theorem ExtP.by_ (h : ExtP u u' r ch t A) {o : Nat} (ho : o < u.nn) : u'.by_ o = u.by_ o := (h.2.1 o ho).1
theorem ExtP.line (h : ExtP u u' r ch t A) {o : Nat} (ho : o < u.nn) : u'.line o = u.line o := (h.2.1 o ho).2.1
theorem ExtP.stp (h : ExtP u u' r ch t A) {o : Nat} (ho : o < u.nn) : u'.stp o = u.stp o := (h.2.1 o ho).2.2.1
theorem ExtP.let_ (h : ExtP u u' r ch t A) {o : Nat} (ho : o < u.nn) : u'.let_ o = u.let_ o := (h.2.1 o ho).2.2.2.1
theorem ExtP.oth (h : ExtP u u' r ch t A) {o : Nat} (ho : o < u.nn) : u'.oth o = u.oth o := (h.2.1 o ho).2.2.2.2.1
theorem ExtP.clk (h : ExtP u u' r ch t A) {o j : Nat} (ho : o < u.nn) (hj : j < 3) : u'.clk (3 * o + j) = u.clk (3 * o + j) := (h.2.1 o ho).2.2.2.2.2 j hj
theorem ExtP.nby (h : ExtP u u' r ch t A) : u'.by_ u.nn = r := h.2.2.1
theorem ExtP.nline (h : ExtP u u' r ch t A) : u'.line u.nn = cA u A r + 1 := h.2.2.2.1
theorem ExtP.nstp (h : ExtP u u' r ch t A) : u'.stp u.nn = gsA u A u.nn + 1 := h.2.2.2.2.1
theorem ExtP.nlet (h : ExtP u u' r ch t A) : u'.let_ u.nn = ch := h.2.2.2.2.2.1
theorem ExtP.noth (h : ExtP u u' r ch t A) : u'.oth u.nn = t := h.2.2.2.2.2.2.1
theorem ExtP.nclk (h : ExtP u u' r ch t A) {j : Nat} (hj : j < 3) : u'.clk (3 * u.nn + j) = cA u A j + if j = r then 1 else 0 := h.2.2.2.2.2.2.2 j hj
theorem ext_nb (h : ExtP u u' r ch t A) {j k : Nat} (hk : k ≤ u.nn) : nbM u' j k = nbM u j k := numF_congr (fun o ho => by rw [h.by_ (show o < u.nn by omega)])
theorem ext_cA (h : ExtP u u' r ch t A) (j : Nat) : cA u' B j = cA u B j + if j = r ∧ B u.nn = true then 1 else 0 := by
  unfold cA
  rw [h.nn, numF, h.nby, numF_congr (h := fun o => decide (u.by_ o = j) && B o) (fun o ho => by rw [h.by_ ho])]
  by_cases c : j = r ∧ B u.nn = true
  · rw [if_pos c, if_pos (by rw [decide_eq_true c.1.symm]; exact c.2)]
  · rw [if_neg c, if_neg (fun z => c (by
      rw [Bool.and_eq_true, decide_eq_true_eq] at z
      exact ⟨z.1.symm, z.2⟩))]
    rfl
theorem own_all (hR : RowP u r A W) : cA u A r = nbM u r u.nn := by
  refine numF_congr (fun o ho => ?_)
  by_cases hb : u.by_ o = r
  · rw [hR.me ho hb, Bool.and_true]
  · rw [decide_eq_false hb, Bool.false_and]
theorem cA_le (j : Nat) : cA u B j ≤ nbM u j u.nn := numF_imp (fun o ho z => by
  rw [Bool.and_eq_true] at z
  exact z.1)
theorem ext_log (h : ExtP u u' r ch t A) (hL : LogP u) (hR : RowP u r A W) (hr : r < 3) (ok : okM u') (ht : t ≤ u.nn) (ht2 : 0 < t → 0 < u.let_ (t - 1) ∧ A (t - 1) = true) (hc : ch = 0 → 0 < t) : LogP u' := by
  have hown := own_all hR
  refine ⟨ok, fun o ho => ?_⟩
  rw [h.nn] at ho
  by_cases hz : o = u.nn
  · subst hz
    have hck : ∀ p, p < u.nn → dP u' p u.nn → A p = true := by
      intro p hp hd
      unfold dP at hd
      rw [h.line hp, h.by_ hp, h.nclk (hL.ok.by3 p)] at hd
      refine (hR.a hp).mpr ?_
      by_cases hb : u.by_ p = r
      · have := (hR.a hp).mp (hR.me hp hb)
        exact this
      · rw [if_neg hb] at hd; exact hd
    rw [h.nby, h.nline, h.nclk hr, if_pos rfl, ext_nb h (Nat.le_refl _), h.noth, h.nlet, h.nstp]
    refine ⟨rfl, by rw [hown], fun j hj hn => ?_, fun p hp hd => ⟨fun j hj => ?_, fun hn => ?_⟩, ht, fun h0 => ?_, hc, ?_⟩
    · rw [h.nclk hj, if_neg hn, ext_nb h (Nat.le_refl _)]
      exact cA_le j
    · rw [h.nn] at hp
      by_cases hpn : p = u.nn
      · rw [hpn]; exact Nat.le_refl _
      · have hp2 : p < u.nn := by omega
        have := hR.k hp2 (hck p hp2 hd) hj
        rw [h.clk hp2 hj, h.nclk hj]
        omega
    · rw [h.nn] at hp
      have hp2 : p < u.nn := by omega
      have := gsA_ge (u := u) (hck p hp2 hd) hp2
      rw [h.stp hp2]
      omega
    · have := ht2 h0
      have hp : t - 1 < u.nn := by omega
      rw [h.let_ hp]
      refine ⟨this.1, ?_⟩
      unfold dP
      rw [h.line hp, h.by_ hp, h.nclk (hL.ok.by3 _)]
      have := (hR.a hp).mp this.2
      omega
    · have := gsA_le hL A u.nn (Nat.le_refl _)
      omega
  · have hon : o < u.nn := by omega
    rw [h.by_ hon, h.line hon, h.clk hon (hL.ok.by3 o), ext_nb h (show o ≤ u.nn by omega), h.oth hon, h.let_ hon, h.stp hon]
    refine ⟨hL.lc hon, hL.ln hon, fun j hj hn => ?_, fun p hp hd => ?_, hL.ot hon, fun h0 => ?_, hL.er hon, hL.s1 hon⟩
    · rw [h.clk hon hj, ext_nb h (show o ≤ u.nn by omega)]
      exact hL.ck hon hj hn
    · rw [h.nn] at hp
      by_cases hpn : p = u.nn
      · exfalso
        subst hpn
        unfold dP at hd
        rw [h.nline, h.nby, h.clk hon hr, hown] at hd
        by_cases hb : r = u.by_ o
        · have h1 := hL.lc hon
          have h2 := hL.ln hon
          have h3 := nb_lt (u := u) hon
          rw [hb] at hd
          omega
        · have h1 := hL.ck hon hr hb
          have h2 := nb_mono (u := u) (j := r) (show o ≤ u.nn by omega)
          omega
      · have hp2 : p < u.nn := by omega
        have hd2 : dP u p o := by
          unfold dP at hd ⊢
          rw [h.line hp2, h.by_ hp2, h.clk hon (hL.ok.by3 p)] at hd
          exact hd
        refine ⟨fun j hj => ?_, fun hn => ?_⟩
        · rw [h.clk hp2 hj, h.clk hon hj]; exact hL.tr hp2 hon hd2 hj
        · rw [h.stp hp2]; exact hL.st hp2 hon hd2 hn
    · have h1 := hL.ot hon
      have h2 := hL.pr hon h0
      have hp : u.oth o - 1 < u.nn := by omega
      rw [h.let_ hp]
      refine ⟨h2.1, ?_⟩
      have h3 := h2.2
      unfold dP at h3 ⊢
      rw [h.line hp, h.by_ hp, h.clk hon (hL.ok.by3 _)]
      exact h3
theorem ext_row (h : ExtP u u' r ch t A) (hL : LogP u) (hr : r < 3) (hRr : RowP u r A W) {W2 : Nat → Bool} (hR : RowP u q B W2) (hB : B u.nn = true ↔ q = r) (hAB : q = r → ∀ o, o < u.nn → A o = B o) (hW : W2 u.nn = false) : RowP u' q B W2 := by
  have hown := own_all hRr
  intro o ho
  rw [h.nn] at ho
  rw [ext_cA h]
  by_cases hz : o = u.nn
  · subst hz
    rw [h.nline, h.nby, hW]
    refine ⟨?_, fun hb j hj => ?_, fun z => hB.mpr z.symm, fun z => by cases z⟩
    · by_cases hq : q = r
      · rw [if_pos ⟨rfl, hB.mpr hq⟩, cA_congr (hAB hq)]
        exact ⟨fun _ => Nat.le_refl _, fun _ => hB.mpr hq⟩
      · rw [if_neg (fun z => hq (hB.mp z.2)), hown]
        have := cA_le (u := u) (B := B) r
        exact ⟨fun z => absurd (hB.mp z) hq, fun z => by omega⟩
    · have hq := hB.mp hb
      rw [h.nclk hj, ext_cA h, cA_congr (hAB hq)]
      by_cases hjr : j = r
      · rw [if_pos hjr, if_pos ⟨hjr, hb⟩]; exact Nat.le_refl _
      · rw [if_neg hjr]; omega
  · have hon : o < u.nn := by omega
    rw [h.line hon, h.by_ hon]
    refine ⟨?_, fun hb j hj => ?_, fun z => hR.me hon z, fun z => hR.w hon z⟩
    · have h1 := hR.a hon
      by_cases c : u.by_ o = r ∧ B u.nn = true
      · rw [if_pos c]
        have h2 := hR.me hon (c.1.trans (hB.mp c.2).symm)
        have h3 := h1.mp h2
        exact ⟨fun _ => by omega, fun _ => h2⟩
      · rw [if_neg c]; exact h1
    · have := hR.k hon hb hj
      rw [h.clk hon hj, ext_cA h]
      omega
theorem ext_qui (h : ExtP u u' r ch t A) (hL : LogP u) {W2 : Nat → Bool} (hR : RowP u q B W2) (hB : B u.nn = true ↔ q = r) (hq : QuiP u B W2 u.nn) (hW : W2 u.nn = false) : QuiP u' B W2 u'.nn := by
  intro o ho hw hrd
  rw [h.nn] at ho
  by_cases hz : o = u.nn
  · rw [hz, hW] at hw; cases hw
  · have hon : o < u.nn := by omega
    have hb := hR.w hon hw
    unfold rdyP at hrd
    rw [h.by_ hon, h.line hon, ext_cA h] at hrd
    have hne : ¬ (u.by_ o = r ∧ B u.nn = true) := fun z => by
      rw [hR.me hon (z.1.trans (hB.mp z.2).symm)] at hb; cases hb
    rw [if_neg hne] at hrd
    refine hq o hon hw ⟨hrd.1, fun j hj => ?_⟩
    rcases hrd.2 j hj with z | z
    · exact Or.inl z
    · rw [h.clk hon hj, ext_cA h] at z
      by_cases hjb : j = u.by_ o
      · exact Or.inl hjb
      · refine Or.inr ?_
        by_cases c : j = r ∧ B u.nn = true
        · have h1 := hL.ck hon hj hjb
          have h2 := nb_mono (u := u) (j := j) (show o ≤ u.nn by omega)
          have h3 : cA u B j = nbM u j u.nn := by
            rw [c.1]
            have hqr := hB.mp c.2
            exact own_all (hqr ▸ hR)
          omega
        · rw [if_neg c] at z; exact z
theorem ext_lt (h : ExtP u u' r ch t A) (i : Nat) {j : Nat} (hj : j < 3) : ∀ n, n ≤ u.nn → ltA u' B i j n = ltA u B i j n
  | 0, _ => rfl
  | n + 1, hn => by rw [ltA, ltA, ext_lt h i hj n (by omega), h.by_ (show n < u.nn by omega), h.clk (show n < u.nn by omega) hj]
theorem ext_gs (h : ExtP u u' r ch t A) : ∀ n, n ≤ u.nn → gsA u' B n = gsA u B n
  | 0, _ => rfl
  | n + 1, hn => by rw [gsA, gsA, ext_gs h n (by omega), h.stp (show n < u.nn by omega)]
theorem ext_er (h : ExtP u u' r ch t A) (f : Nat) : erA u' B f = (erA u B f || (decide (ch = 0) && (decide (t = f + 1) && B u.nn))) := by
  unfold erA
  rw [h.nn]
  show (orF _ u.nn || (decide (u'.let_ u.nn = 0) && (decide (u'.oth u.nn = f + 1) && B u.nn))) = _
  rw [h.nlet, h.noth]
  congr 1
  rw [Bool.eq_iff_iff, orF_iff, orF_iff]
  refine ⟨fun ⟨i, h1, h2⟩ => ⟨i, h1, ?_⟩, fun ⟨i, h1, h2⟩ => ⟨i, h1, ?_⟩⟩
  · rw [h.let_ h1, h.oth h1] at h2; exact h2
  · rw [h.let_ h1, h.oth h1]; exact h2
theorem ext_kp (h : ExtP u u' r ch t A) {o : Nat} (ho : o < u.nn) : kpA u' B G o = kpA u B G o := by
  unfold kpA
  rw [h.let_ ho]
/-- a replica that has not got it -/
theorem ext_cr {y : RpS} (h : ExtP u u' r ch t A) (hc : CR u y q B W G) (hB : B u.nn = false) (hW : W u.nn = false) : CR u' y q B W G := by
  have hk : kpA u' B G u.nn = false := by unfold kpA; rw [hB]; simp
  refine ⟨hc.ok, hc.self, fun i j hi hj => ?_, fun i j hj => hc.s0 hj, fun o ho => ?_, fun o ho => hc.w0 (by rw [h.nn] at ho; omega), ?_, fun f => ?_, fun o ho => ?_, fun o ho => hc.k0 (by rw [h.nn] at ho; omega), ?_, ?_⟩
  · rw [hc.sn hi hj]
    unfold knA
    rw [ext_cA h, if_neg (fun z : j = r ∧ B u.nn = true => by rw [hB] at z; cases z.2), h.nn, ltA, hB, if_neg (fun z : u'.by_ u.nn = i ∧ false = true => by cases z.2), ext_lt h i hj u.nn (Nat.le_refl _)]
    rfl
  · rw [h.nn] at ho
    by_cases hz : o = u.nn
    · rw [hz, hW]; exact hc.w0 (Nat.le_refl _)
    · exact hc.wt (by omega)
  · rw [hc.wc, h.nn, numF_f hW]
  · rw [hc.er, ext_er h, hB]; simp
  · rw [h.nn] at ho
    by_cases hz : o = u.nn
    · rw [hz, hk]; exact hc.k0 (Nat.le_refl _)
    · rw [ext_kp h (by omega)]; exact hc.kp (by omega)
  · rw [hc.kc, h.nn, numF_f hk]
    exact numF_congr (fun o ho => (ext_kp h ho).symm)
  · rw [hc.gs, h.nn, gsA, hB, if_neg (by decide), ext_gs h u.nn (Nat.le_refl _)]
/-- its issuer -/
theorem ext_cri {x' : LgS} {y : RpS} (h : ExtP u u' r ch t A) (hL : LogP u) (hL' : LogP u') (hC : CL x' u') (hc : CR u y r A W G) (hW : W u.nn = false) (hG : G u.nn = false) (ht : ch = 0 → 0 < t) : CR u' (applyR x' y u.nn) r (va_up A u.nn true) W G := by
  have hn1 : u.nn < u'.nn := by rw [h.nn]; omega
  have hcg : ∀ o, o < u.nn → va_up A u.nn true o = A o := fun o ho => va_up_ne _ _ (by omega)
  have e1 : (applyR x' y u.nn).self = y.self ∧ (applyR x' y u.nn).seen = apSeen x' y u.nn ∧ (applyR x' y u.nn).wts = y.wts ∧ (applyR x' y u.nn).wc = y.wc ∧ (applyR x' y u.nn).gs = max y.gs (x'.stp u.nn) := by
    unfold applyR; split <;> exact ⟨rfl, rfl, rfl, rfl, rfl⟩
  have e2 : (applyR x' y u.nn).ers = if ch = 0 then va_up y.ers (t - 1) true else y.ers := by
    unfold applyR
    rw [hC.2.2.2.2.1, hC.2.2.2.1, h.nlet, h.noth]
    split
    · rfl
    · rfl
  have e3 : (applyR x' y u.nn).kpt = if ch = 0 then y.kpt else va_up y.kpt u.nn true := by
    unfold applyR
    rw [hC.2.2.2.2.1, h.nlet]
    split
    · rfl
    · rfl
  have e4 : (applyR x' y u.nn).kc = y.kc + if ch = 0 then 0 else 1 := by
    unfold applyR
    rw [hC.2.2.2.2.1, h.nlet]
    split
    · rfl
    · rfl
  have hkn : kpA u' (va_up A u.nn true) G u.nn = decide (0 < ch) := by unfold kpA; rw [va_up_self, hG, h.nlet]; simp
  have hko : ∀ o, o < u.nn → kpA u' (va_up A u.nn true) G o = kpA u A G o := fun o ho => by unfold kpA; rw [h.let_ ho, hcg o ho]
  refine ⟨okR_apply hC.2.2.2.2.2.2 hc.ok (hc.kc9 hL), e1.1.trans hc.self, fun i j hi hj => ?_, fun i j hj => ?_, fun k hk => ?_, fun k hk => ?_, ?_, fun f => ?_, fun k hk => ?_, fun k hk => ?_, ?_, ?_⟩
  · rw [e1.2.1, apSeen_eq, hC.pl hL' hn1, hC.2.1, hC.2.2.2.2.2.1, hc.self, h.nby, h.nline, Nat.mul_comm]
    unfold knA
    by_cases hir : i = r
    · rw [if_pos hir, ext_cA h, cA_congr hcg, va_up_self]
      by_cases hjr : j = r
      · rw [if_pos ⟨hir, hjr⟩, if_pos ⟨hjr, rfl⟩, hjr]
      · rw [if_neg (fun z => hjr z.2), if_pos ⟨hir, hj⟩, if_neg (fun z => hjr z.1), h.nclk hj, if_neg hjr]
    · rw [if_neg (fun z => hir z.1), if_neg (fun z => hir z.1), if_neg hir, h.nn, ltA, h.nby, if_neg (fun z => hir z.1.symm), ext_lt h i hj u.nn (Nat.le_refl _), ltA_congr hcg, hc.sn hi hj]
      unfold knA
      rw [if_neg hir]
  · rw [e1.2.1, apSeen_eq, hC.2.1, h.nby]
    have := hc.r3
    rw [if_neg (fun z => by omega), if_neg (fun z => by omega)]
    exact hc.s0 hj
  · rw [e1.2.2.1]
    rw [h.nn] at hk
    by_cases hz : k = u.nn
    · rw [hz, hW]; exact hc.w0 (Nat.le_refl _)
    · exact hc.wt (by omega)
  · rw [e1.2.2.1]
    rw [h.nn] at hk
    exact hc.w0 (by omega)
  · rw [e1.2.2.2.1, hc.wc, h.nn, numF_f hW]
  · rw [e2, ext_er h, va_up_self, Bool.and_true, erA_congr hcg, ← hc.er f]
    by_cases hl : ch = 0
    · have := ht hl
      rw [if_pos hl, decide_eq_true hl, Bool.true_and]
      unfold va_up
      by_cases hf : f = t - 1
      · rw [if_pos hf, decide_eq_true (show t = f + 1 by omega), Bool.or_true]
      · rw [if_neg hf, decide_eq_false (show ¬ t = f + 1 by omega), Bool.or_false]
    · rw [if_neg hl, decide_eq_false hl, Bool.false_and, Bool.or_false]
  · rw [e3]
    rw [h.nn] at hk
    by_cases hz : k = u.nn
    · rw [hz, hkn]
      by_cases hl : ch = 0
      · rw [if_pos hl, decide_eq_false (by omega)]; exact hc.k0 (Nat.le_refl _)
      · rw [if_neg hl, va_up_self, decide_eq_true (by omega)]
    · rw [hko k (by omega)]
      split
      · exact hc.kp (by omega)
      · rw [va_up_ne _ _ hz]; exact hc.kp (by omega)
  · rw [e3]
    rw [h.nn] at hk
    split
    · exact hc.k0 (by omega)
    · rw [va_up_ne _ _ (by omega)]; exact hc.k0 (by omega)
  · rw [e4, hc.kc, h.nn, numF, hkn, numF_congr hko]
    by_cases hl : ch = 0
    · rw [if_pos hl, decide_eq_false (by omega), if_neg (by decide)]; rfl
    · rw [if_neg hl, decide_eq_true (by omega), if_pos rfl]
  · rw [e1.2.2.2.2, hC.2.2.1, hc.gs, h.nn, gsA, va_up_self, if_pos rfl, ext_gs h u.nn (Nat.le_refl _), gsA_congr hcg]
end EXT
