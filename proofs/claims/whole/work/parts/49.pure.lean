/-! EVERY CALL keeps the invariant, and both answer alike -/
section PU
variable {x : LgS} {y : Nat → RpS} {u : MS} {r : Nat} {A W G : Nat → Bool}
def wkM (u : MS) (n : Nat) (t s : Nat → Nat) : MS := mkM u.nn u.by_ u.line u.stp u.let_ u.oth u.clk u.app u.wts u.gon n t s
theorem lt_wk (n : Nat) (t s : Nat → Nat) (i j : Nat) : ∀ k, ltA (wkM u n t s) A i j k = ltA u A i j k
  | 0 => rfl
  | k + 1 => by rw [ltA, ltA, lt_wk n t s i j k]; rfl
theorem gs_wk (n : Nat) (t s : Nat → Nat) : ∀ k, gsA (wkM u n t s) A k = gsA u A k
  | 0 => rfl
  | k + 1 => by rw [gsA, gsA, gs_wk n t s k]; rfl
theorem rep_wk {y : RpS} (n : Nat) (t s : Nat → Nat) : RepP x y (wkM u n t s) r A W G = RepP x y u r A W G := by
  have e : CR (wkM u n t s) y r A W G = CR u y r A W G := by
    unfold CR knA
    simp only [lt_wk, gs_wk]
    rfl
  unfold RepP
  rw [e]
  rfl
theorem inv_wk (hI : INV x y u) {n : Nat} {t s : Nat → Nat} (ok : okM (wkM u n t s)) : INV x y (wkM u n t s) := by
  obtain ⟨hL, hC, hO, hA⟩ := hI
  refine ⟨⟨ok, hL.2⟩, hC, hO, fun r hr => ?_⟩
  rw [rep_wk]
  exact hA r hr
theorem ok_xs (hI : INV x y u) (hr : r < 3) {xs : Nat → List Nat} (hx : xsOK u xs) : okM (walked u r (xs r)) := okM_walked hI.1.ok (hx r hr).2.1 (hx r hr).2.2
theorem inv_wal (hI : INV x y u) (hr : r < 3) {xs : Nat → List Nat} (hx : xsOK u xs) : INV x y (walked u r (xs r)) := inv_wk hI (ok_xs hI hr hx)
theorem inv_same {v : MS} (hI : INV x y v) : INV (x, y r).1 (va_up y r (x, y r).2) v := by
  show INV x (va_up y r (y r)) v
  rw [up_same]
  exact hI
/-- both texts -/
theorem txt_eq (hI : INV x y u) (hr : r < 3) {xs : Nat → List Nat} (hx : xsOK u xs) : (walked u r (xs r)).len = (y r).tl ∧ ∀ k, k < (y r).tl → (walked u r (xs r)).txt k = (y r).txt k := by
  obtain ⟨hL, hC, hO, hA⟩ := hI
  have hp := hA r hr
  obtain ⟨h1, h2⟩ := walk_tc hL hO hp.row (hx r hr).1
  have hT := hp.tc
  refine ⟨h1.trans hT.1.symm, fun k hk => ?_⟩
  rw [hT.2 k hk]
  exact h2 k (by rw [h1, ← hT.1]; exact hk)
theorem bef_eq (hI : INV x y u) (hr : r < 3) {xs : Nat → List Nat} (hx : xsOK u xs) {p : Nat} (hp : p ≤ (y r).tl) : befM (walked u r (xs r)) p = befR (y r) p := by
  have h := txt_eq hI hr hx
  unfold befM befR
  split
  · rfl
  · rw [h.2 (p - 1) (by omega)]
theorem tl_le (hI : INV x y u) (hr : r < 3) : (y r).tl ≤ 100 := (hI.2.2.2 r hr).cr.ok.tl
theorem bef_ok (hI : INV x y u) (hr : r < 3) {p : Nat} (hp : p ≤ (y r).tl) : befR (y r) p ≤ u.nn ∧ (0 < befR (y r) p → 0 < u.let_ (befR (y r) p - 1) ∧ rowF u.app r (befR (y r) p - 1) = true) := by
  unfold befR
  by_cases hz : p = 0
  · rw [if_pos hz]; exact ⟨Nat.zero_le _, fun q => absurd q (by omega)⟩
  · rw [if_neg hz]
    obtain ⟨i, i1, i2, i3, i4, i5⟩ := tc_at hI hr (show p - 1 < (y r).tl by omega)
    rw [i2, Nat.add_sub_cancel]
    exact ⟨i4, fun _ => ⟨i5, i3⟩⟩
theorem p_ins {xs : Nat → List Nat} {kp ib : Nat → Nat} {z1 z2 : Int32} {k : Nat} {v v' : Int32} {w : LRp} {u' : MS} (hI : INV x y u) (hr : r < 3) (hx : xsOK u xs) (hpl : ∀ p, p ≤ (y r).tl → plP (rec5 x (y r).self ((y r).gs + 1) (befR (y r) p) k ((y r).seen (y r).self)) x.cnt (ib p) (kp p)) (hk : k < 65536) (hc : RC_insert x (y r) r kp z1 z2 k v w) (hm : RM_insert u xs z1 z2 k v' u') : StepP INV y r v v' w u' := by
  have hcn : x.cnt = u.nn := hI.2.1.1
  have ht := txt_eq hI hr hx
  have htl := tl_le hI hr
  have hn := hI.1.ok.n
  rcases hc with ⟨c1, rfl, rfl⟩ | ⟨rfl, c2, c3, hc⟩
  · rcases hm with ⟨m1, rfl, rfl⟩ | ⟨r', m1, rfl, m2, m3, hm⟩
    · exact ⟨rfl, inv_same hI⟩
    · rw [isRep_N m1] at c1
      rcases c1 with q | q | q
      · cases q
      · omega
      · omega
  · rcases hm with ⟨m1, rfl, rfl⟩ | ⟨r', m1, m2, m3, m4, hm⟩
    · rw [isRep_N hr] at m1
      rcases m1 with q | q | q
      · cases q
      · omega
      · omega
    · have e : r = r' := (nI_eq (by omega) (by omega)).mp m2
      subst e
      rcases hc with ⟨c4, rfl, rfl⟩ | ⟨p, p1, rfl, hc⟩
      · rcases hm with ⟨m5, rfl, rfl⟩ | ⟨p', p1', rfl, hm⟩
        · exact ⟨rfl, inv_same (inv_wal hI hr hx)⟩
        · rw [ht.1] at p1'
          rcases c4 with q | q
          · exact absurd q (nI_pos (by omega))
          · exact absurd (nI_le p1' (by omega)) q
      · rcases hm with ⟨m5, rfl, rfl⟩ | ⟨p', p1', p2', hm⟩
        · rw [ht.1] at m5
          rcases m5 with q | q
          · exact absurd q (nI_pos (by omega))
          · exact absurd (nI_le p1 (by omega)) q
        · rw [ht.1] at p1'
          have e : p = p' := (nI_eq (by omega) (by omega)).mp p2'
          subst e
          rcases hc with ⟨c5, rfl, rfl⟩ | ⟨c5, rfl, rfl⟩
          · rcases hm with ⟨m6, rfl, rfl⟩ | ⟨m6, -, -⟩
            · exact ⟨rfl, inv_same (inv_wal hI hr hx)⟩
            · omega
          · rcases hm with ⟨m6, -, -⟩ | ⟨m6, rfl, rfl⟩
            · omega
            · refine ⟨by rw [hcn], ?_⟩
              rw [bef_eq hI hr hx p1]
              have hb := bef_ok hI hr p1
              exact iss_inv hI hr m6 (ok_xs hI hr hx) hb.1 hb.2 (fun q => by omega) hk (fun _ => ⟨ib p, hpl p p1⟩)
theorem p_ers {xs : Nat → List Nat} {ve : Nat} {z1 z2 v v' : Int32} {w : LRp} {u' : MS} (hI : INV x y u) (hr : r < 3) (hx : xsOK u xs) (he : eatP (y r) z2 ve) (hc : RC_erase x (y r) r ve z1 v w) (hm : RM_erase u xs z1 z2 v' u') : StepP INV y r v v' w u' := by
  have hcn : x.cnt = u.nn := hI.2.1.1
  have ht := txt_eq hI hr hx
  have htl := tl_le hI hr
  have hn := hI.1.ok.n
  rcases hc with ⟨c1, rfl, rfl⟩ | ⟨rfl, hc⟩
  · rcases hm with ⟨m1, rfl, rfl⟩ | ⟨r', m1, rfl, hm⟩
    · exact ⟨rfl, inv_same hI⟩
    · rw [isRep_N m1] at c1; cases c1
  · rcases hm with ⟨m1, rfl, rfl⟩ | ⟨r', m1, m2, hm⟩
    · rw [isRep_N hr] at m1; cases m1
    · have e : r = r' := (nI_eq (by omega) (by omega)).mp m2
      subst e
      rcases he with ⟨rfl, he⟩ | ⟨p, p1, rfl, rfl⟩
      · rcases hc with ⟨-, rfl, rfl⟩ | ⟨c1, -⟩
        · rcases hm with ⟨m5, rfl, rfl⟩ | ⟨p', p1', rfl, hm⟩
          · exact ⟨rfl, inv_same (inv_wal hI hr hx)⟩
          · rw [ht.1] at p1'
            rcases he with q | q
            · exact absurd q (nI_pos (by omega))
            · exact absurd q (nI_ge p1' (by omega))
        · omega
      · rcases hc with ⟨c1, -⟩ | ⟨-, hc⟩
        · omega
        · rcases hm with ⟨m5, -, -⟩ | ⟨p', p1', p2', hm⟩
          · rw [ht.1] at m5
            rcases m5 with q | q
            · exact absurd q (nI_pos (by omega))
            · exact absurd q (nI_ge p1 (by omega))
          · rw [ht.1] at p1'
            have e : p = p' := (nI_eq (by omega) (by omega)).mp p2'
            subst e
            rcases hc with ⟨c5, rfl, rfl⟩ | ⟨c5, rfl, rfl⟩
            · rcases hm with ⟨m6, rfl, rfl⟩ | ⟨m6, -, -⟩
              · exact ⟨rfl, inv_same (inv_wal hI hr hx)⟩
              · omega
            · rcases hm with ⟨m6, -, -⟩ | ⟨m6, rfl, rfl⟩
              · omega
              · refine ⟨by rw [hcn], ?_⟩
                rw [ht.2 p p1]
                obtain ⟨i, i1, i2, i3, i4, i5⟩ := tc_at hI hr p1
                exact iss_inv hI hr m6 (ok_xs hI hr hx) (by rw [i2]; exact i4) (fun _ => by rw [i2, Nat.add_sub_cancel]; exact ⟨i5, i3⟩) (fun _ => Nat.succ_pos _) (by decide) (fun q => absurd q (by decide))
theorem p_dlv {z1 z2 v v' : Int32} {w : LRp} {u' : MS} (hI : INV x y u) (hr : r < 3) (hc : RC_deliver x (y r) r z1 z2 v w) (hm : RM_deliver u z1 z2 v' u') : StepP INV y r v v' w u' := by
  have hcn : x.cnt = u.nn := hI.2.1.1
  have hn := hI.1.ok.n
  rcases hc with ⟨c1, rfl, rfl⟩ | ⟨rfl, o, o1, rfl, rfl, rfl⟩
  · rcases hm with ⟨m1, rfl, rfl⟩ | ⟨r', o, m1, rfl, m2, rfl, m3, m4⟩
    · exact ⟨rfl, inv_same hI⟩
    · rw [isRep_N m1, hcn, isOp_N m2 (by omega)] at c1
      rcases c1 with q | q <;> cases q
  · rw [hcn] at o1
    obtain ⟨m1, m2⟩ := RM_deliver_N hm hr o1
    have h := dlv_inv hI hr o1
    rw [m1, m2]
    exact ⟨by rw [h.1], h.2⟩
theorem p_syn {t : Nat} {z1 z2 v v' : Int32} {w : LRp} {u' : MS} (hI : INV x y u) (hr : r < 3) (ht : t < 3) (hc : RC_sync x (y r) (y t) r t z1 z2 v w) (hm : RM_sync u z1 z2 v' u') : StepP INV y r v v' w u' := by
  rcases hc with ⟨c1, rfl, rfl⟩ | ⟨rfl, rfl, rfl, rfl⟩
  · rcases hm with ⟨m1, rfl, rfl⟩ | ⟨r', t', m1, rfl, m2, rfl, m3, m4⟩
    · exact ⟨rfl, inv_same hI⟩
    · rw [isRep_N m1, isRep_N m2] at c1
      rcases c1 with q | q <;> cases q
  · rcases hm with ⟨m1, -, -⟩ | ⟨r', t', m1, m2, m3, m4, rfl, rfl⟩
    · rw [isRep_N hr, isRep_N ht] at m1
      rcases m1 with q | q <;> cases q
    · have e : r = r' := (nI_eq (by omega) (by omega)).mp m2
      have e2 : t = t' := (nI_eq (by omega) (by omega)).mp m4
      subst e; subst e2
      have h := syn_inv hI hr ht
      exact ⟨by rw [h.1], h.2⟩
theorem p_col {z1 v v' : Int32} {w : LRp} {u' : MS} (hI : INV x y u) (hr : r < 3) (hc : RC_collect x (y r) r z1 v w) (hm : RM_collect u z1 v' u') : StepP INV y r v v' w u' := by
  rcases hc with ⟨c1, rfl, rfl⟩ | ⟨rfl, rfl, rfl⟩
  · rcases hm with ⟨m1, rfl, rfl⟩ | ⟨r', m1, rfl, m3, m4⟩
    · exact ⟨rfl, inv_same hI⟩
    · rw [isRep_N m1] at c1; cases c1
  · rcases hm with ⟨m1, -, -⟩ | ⟨r', m1, m2, rfl, rfl⟩
    · rw [isRep_N hr] at m1; cases m1
    · have e : r = r' := (nI_eq (by omega) (by omega)).mp m2
      subst e
      have h := col_inv hI hr
      exact ⟨by rw [h.1], h.2.2⟩
theorem p_len {xs : Nat → List Nat} {z1 v v' : Int32} {w : LRp} {u' : MS} (hI : INV x y u) (hr : r < 3) (hx : xsOK u xs) (hc : RC_num (y r).tl x (y r) r z1 v w) (hm : RM_length u xs z1 v' u') : StepP INV y r v v' w u' := by
  rcases hc with ⟨c1, rfl, rfl⟩ | ⟨rfl, rfl, rfl⟩
  · rcases hm with ⟨m1, rfl, rfl⟩ | ⟨r', m1, rfl, m3, m4⟩
    · exact ⟨rfl, inv_same hI⟩
    · rw [isRep_N m1] at c1; cases c1
  · rcases hm with ⟨m1, -, -⟩ | ⟨r', m1, m2, rfl, rfl⟩
    · rw [isRep_N hr] at m1; cases m1
    · have e : r = r' := (nI_eq (by omega) (by omega)).mp m2
      subst e
      exact ⟨by rw [(txt_eq hI hr hx).1], inv_same (inv_wal hI hr hx)⟩
theorem p_at {xs : Nat → List Nat} {ve : Nat} {z1 z2 v v' : Int32} {w : LRp} {u' : MS} (hI : INV x y u) (hr : r < 3) (hx : xsOK u xs) (he : eatP (y r) z2 ve) (hc : RC_at x (y r) r ve z1 v w) (hm : RM_at u xs z1 z2 v' u') : StepP INV y r v v' w u' := by
  have ht := txt_eq hI hr hx
  have htl := tl_le hI hr
  rcases hc with ⟨c1, rfl, rfl⟩ | ⟨rfl, rfl, hc⟩
  · rcases hm with ⟨m1, rfl, rfl⟩ | ⟨r', m1, rfl, m3⟩
    · exact ⟨rfl, inv_same hI⟩
    · rw [isRep_N m1] at c1; cases c1
  · rcases he with ⟨rfl, he⟩ | ⟨p, p1, rfl, rfl⟩
    · rcases hc with ⟨-, rfl⟩ | ⟨c1, -⟩
      · rcases hm with ⟨-, rfl, rfl⟩ | ⟨r', m1, m2, m3, rfl, hm⟩
        · exact ⟨rfl, inv_same hI⟩
        · have e : r = r' := (nI_eq (by omega) (by omega)).mp m2
          subst e
          rcases hm with ⟨-, rfl⟩ | ⟨p, p1, rfl, -⟩
          · exact ⟨rfl, inv_same (inv_wal hI hr hx)⟩
          · rw [ht.1] at p1
            rcases he with q | q
            · exact absurd q (nI_pos (by omega))
            · exact absurd q (nI_ge p1 (by omega))
      · omega
    · rcases hc with ⟨c1, -⟩ | ⟨-, rfl⟩
      · omega
      · rcases hm with ⟨m1, -, -⟩ | ⟨r', m1, m2, m3, rfl, hm⟩
        · rw [isRep_N hr] at m1
          rcases m1 with q | q
          · cases q
          · exact absurd (nI_pos' (by omega)) q
        · have e : r = r' := (nI_eq (by omega) (by omega)).mp m2
          subst e
          rcases hm with ⟨q, -⟩ | ⟨p', p1', p2', rfl⟩
          · rw [ht.1] at q; exact absurd q (nI_ge p1 (by omega))
          · rw [ht.1] at p1'
            have e : p = p' := (nI_eq (by omega) (by omega)).mp p2'
            subst e
            refine ⟨?_, inv_same (inv_wal hI hr hx)⟩
            rw [ht.2 p p1, Nat.add_sub_cancel, hI.2.1.2.2.2.2.1]
theorem pos_0 {t : Nat → Nat} {o : Nat} : ∀ n, (∀ k, k < n → t k ≠ o) → posF t o n = 0
  | 0, _ => rfl
  | n + 1, h => by rw [posF_f (h n (by omega))]; exact pos_0 n (fun k hk => h k (by omega))
theorem pos_i {t : Nat → Nat} {o i : Nat} (hi : t i = o) : ∀ n, i < n → (∀ k, k < n → t k = o → k = i) → posF t o n = i + 1
  | 0, h, _ => absurd h (Nat.not_lt_zero i)
  | n + 1, h, h2 => by
    by_cases hn : t n = o
    · rw [posF_t hn, h2 n (by omega) hn]
    · rw [posF_f hn]
      refine pos_i hi n ?_ (fun k hk => h2 k (by omega))
      by_cases hz : i = n
      · rw [hz] at hi; exact absurd hi hn
      · omega
theorem txt_inj (hI : INV x y u) (hr : r < 3) {k k2 : Nat} (hk : k < (y r).tl) (hk2 : k2 < (y r).tl) (q : (y r).txt k = (y r).txt k2) : k = k2 := by
  have hT := (hI.2.2.2 r hr).tc
  rw [hT.2 k hk, hT.2 k2 hk2] at q
  exact tx_inj (A := rowF u.app r) hI.2.2.1 (by rw [← hT.1]; exact hk) (by rw [← hT.1]; exact hk2) q
theorem p_pos {xs : Nat → List Nat} {vp : Nat} {z1 z2 v v' : Int32} {w : LRp} {u' : MS} (hI : INV x y u) (hr : r < 3) (hx : xsOK u xs) (he : ridP (y r) z2 vp) (hc : RC_position x (y r) r vp z1 v w) (hm : RM_position u xs z1 z2 v' u') : StepP INV y r v v' w u' := by
  have ht := txt_eq hI hr hx
  have hn := hI.1.ok.n
  have h100 := (hI.2.2.2 r hr).cr.ok.txt100
  rcases hc with ⟨c1, rfl, rfl⟩ | ⟨rfl, rfl, rfl⟩
  · rcases hm with ⟨m1, rfl, rfl⟩ | ⟨r', o, m1, rfl, m3⟩
    · exact ⟨rfl, inv_same hI⟩
    · rw [isRep_N m1] at c1; cases c1
  · rcases hm with ⟨m1, rfl, rfl⟩ | ⟨r', o, m1, m2, m3, rfl, rfl, rfl⟩
    · refine ⟨?_, inv_same hI⟩
      rw [isRep_N hr] at m1
      rcases m1 with q | q
      · cases q
      · rcases he with ⟨rfl, -⟩ | ⟨i, i1, -, i2, -⟩
        · exact sI_0
        · exfalso
          obtain ⟨j, j1, j2, j3, j4, j5⟩ := tc_at hI hr i1
          rw [← i2, isOp_N (by rw [j2]; exact j4) (by omega)] at q
          cases q
    · have e : r = r' := (nI_eq (by omega) (by omega)).mp m2
      subst e
      refine ⟨?_, inv_same (inv_wal hI hr hx)⟩
      rw [ht.1]
      rcases he with ⟨rfl, h0⟩ | ⟨i, i1, rfl, i2, -⟩
      · rw [pos_0 (y r).tl (fun k hk q => h0 k hk (by rw [← ht.2 k hk, q]))]
      · have hi : (y r).txt i = o := (nI_eq (by have := h100 i; omega) (by omega)).mp i2
        rw [pos_i (i := i) (by rw [ht.2 i i1]; exact hi) (y r).tl i1 (fun k hk q => txt_inj hI hr hk i1 (by rw [← ht.2 k hk, q, hi]))]
theorem spr_at (s0 f : Nat → Nat) {k : Nat} : ∀ n, k < n → sprU s0 f n k = f k
  | 0, h => absurd h (Nat.not_lt_zero k)
  | n + 1, h => by
    show va_up (sprU s0 f n) n (f n) k = f k
    by_cases hz : k = n
    · rw [hz, va_up_self]
    · rw [va_up_ne _ _ hz]; exact spr_at s0 f n (by omega)
theorem ok_sm (hI : INV x y u) (hr : r < 3) {xs : Nat → List Nat} (hx : xsOK u xs) : okM (smM u xs r) := by
  have ok := hI.1.ok
  have o2 := ok_xs hI hr hx
  exact okM_mk ok.n o2.len ok.by3 ok.line3 ok.stp3 ok.let5 ok.oth100 ok.clk3 o2.txt100 (sprU_lt ok.spr5 (fun k => ok.let5 _) _)
theorem p_sam {t : Nat} {xs : Nat → List Nat} {z1 z2 v v' : Int32} {w : LRp} {u' : MS} (hI : INV x y u) (hr : r < 3) (ht : t < 3) (hx : xsOK u xs) (hc : RC_same x (y r) (y t) r t z1 z2 v w) (hm : RM_same u xs z1 z2 v' u') : StepP INV y r v v' w u' := by
  rcases hc with ⟨c1, rfl, rfl⟩ | ⟨rfl, rfl, rfl, rfl⟩
  · rcases hm with ⟨m1, rfl, rfl⟩ | ⟨r', t', m1, rfl, m2, rfl, m3, m4⟩
    · exact ⟨rfl, inv_same hI⟩
    · rw [isRep_N m1, isRep_N m2] at c1
      rcases c1 with q | q <;> cases q
  · rcases hm with ⟨m1, -, -⟩ | ⟨r', t', m1, m2, m3, m4, rfl, rfl⟩
    · rw [isRep_N hr, isRep_N ht] at m1
      rcases m1 with q | q <;> cases q
    · have e : r = r' := (nI_eq (by omega) (by omega)).mp m2
      have e2 : t = t' := (nI_eq (by omega) (by omega)).mp m4
      subst e; subst e2
      have hI2 : INV x y (smM u xs r) := inv_wk hI (ok_sm hI hr hx)
      have hx2 : xsOK (smM u xs r) xs := hx
      have h1 := txt_eq hI hr hx
      have h2 := txt_eq hI2 ht hx2
      refine ⟨?_, inv_same (inv_wal hI2 ht hx2)⟩
      congr 1
      have hchr : x.chr = u.let_ := hI.2.1.2.2.2.2.1
      unfold rdlA smA
      rw [Bool.eq_iff_iff, andF_iff, andF_iff, h1.1, h2.1, hchr]
      refine and_congr_right (fun hl => forall_congr' (fun k => forall_congr' (fun hk => ?_)))
      have hl2 := of_decide_eq_true hl
      have e1 : (walked (smM u xs r) t (xs t)).spr k = u.let_ ((walked u r (xs r)).txt k) := by
        show sprU u.spr (fun k => u.let_ ((walked u r (xs r)).txt k)) (walked u r (xs r)).len k = _
        rw [spr_at _ _ _ (by rw [h1.1]; exact hk)]
      rw [e1, h1.2 k hk, h2.2 k (by omega)]
theorem p_stp {z1 v v' : Int32} {w : LRp} {u' : MS} (hI : INV x y u) (hr : r < 3) (hc : RC_stamp x (y r) z1 v w) (hm : RM_stamp u z1 v' u') : StepP INV y r v v' w u' := by
  have hcn : x.cnt = u.nn := hI.2.1.1
  have hn := hI.1.ok.n
  rcases hc with ⟨c1, rfl, rfl⟩ | ⟨o, o1, rfl, rfl, rfl⟩
  · rcases hm with ⟨m1, rfl, rfl⟩ | ⟨o, o1, rfl, m3⟩
    · exact ⟨rfl, inv_same hI⟩
    · rw [hcn, isOp_N o1 (by omega)] at c1; cases c1
  · rcases hm with ⟨m1, -, -⟩ | ⟨o', o1', m2, rfl, rfl⟩
    · rw [← hcn, isOp_N o1 (by omega)] at m1; cases m1
    · have e : o = o' := (nI_eq (by omega) (by omega)).mp m2
      subst e
      exact ⟨by rw [hI.2.1.2.2.1, hI.2.1.2.1], inv_same hI⟩
theorem p_knw {z1 z2 z3 v v' : Int32} {w : LRp} {u' : MS} (hI : INV x y u) (hr : r < 3) (hc : RC_known x (y r) r z1 z2 z3 v w) (hm : RM_known u z1 z2 z3 v' u') : StepP INV y r v v' w u' := by
  rcases hc with ⟨c1, rfl, rfl⟩ | ⟨rfl, i, j, i1, rfl, j1, rfl, rfl, rfl⟩
  · rcases hm with ⟨m1, rfl, rfl⟩ | ⟨r', i, j, m1, rfl, m2, rfl, m3, rfl, m4⟩
    · exact ⟨rfl, inv_same hI⟩
    · rw [isRep_N m1, isRep_N m2, isRep_N m3] at c1
      rcases c1 with q | q | q <;> cases q
  · rcases hm with ⟨m1, -, -⟩ | ⟨r', i', j', m1, m2, m3, m4, m5, m6, rfl, rfl⟩
    · rw [isRep_N hr, isRep_N i1, isRep_N j1] at m1
      rcases m1 with q | q | q <;> cases q
    · have e : r = r' := (nI_eq (by omega) (by omega)).mp m2
      have e2 : i = i' := (nI_eq (by omega) (by omega)).mp m4
      have e3 : j = j' := (nI_eq (by omega) (by omega)).mp m6
      subst e; subst e2; subst e3
      exact ⟨by rw [knM_knA hI.1, (hI.2.2.2 r hr).cr.sn i1 j1], inv_same hI⟩
theorem p_stb {z1 z2 v v' : Int32} {w : LRp} {u' : MS} (hI : INV x y u) (hr : r < 3) (hc : RC_stable x (y r) r z1 z2 v w) (hm : RM_stable u z1 z2 v' u') : StepP INV y r v v' w u' := by
  have hcn : x.cnt = u.nn := hI.2.1.1
  have hn := hI.1.ok.n
  rcases hc with ⟨c1, rfl, rfl⟩ | ⟨rfl, o, o1, rfl, rfl, rfl⟩
  · rcases hm with ⟨m1, rfl, rfl⟩ | ⟨r', o, m1, rfl, m2, rfl, m3, m4⟩
    · exact ⟨rfl, inv_same hI⟩
    · rw [isRep_N m1, hcn, isOp_N m2 (by omega)] at c1
      rcases c1 with q | q <;> cases q
  · rcases hm with ⟨m1, -, -⟩ | ⟨r', o', m1, m2, m3, m4, rfl, rfl⟩
    · rw [isRep_N hr, ← hcn, isOp_N o1 (by omega)] at m1
      rcases m1 with q | q <;> cases q
    · have e : r = r' := (nI_eq (by omega) (by omega)).mp m2
      have e2 : o = o' := (nI_eq (by omega) (by omega)).mp m4
      subst e; subst e2
      have hp := hI.2.2.2 r hr
      exact ⟨by rw [set_stb hI.2.1 hI.1 hp.cr hp.row m3], inv_same hI⟩
theorem p_num {n : Nat} {g : Nat → Nat → Bool} {z1 v v' : Int32} {w : LRp} {u' : MS} (hI : INV x y u) (hr : r < 3) (hg : n = numF (g r) u.nn) (hc : RC_num n x (y r) r z1 v w) (hm : RM_num g u z1 v' u') : StepP INV y r v v' w u' := by
  rcases hc with ⟨c1, rfl, rfl⟩ | ⟨rfl, rfl, rfl⟩
  · rcases hm with ⟨m1, rfl, rfl⟩ | ⟨r', m1, rfl, m3, m4⟩
    · exact ⟨rfl, inv_same hI⟩
    · rw [isRep_N m1] at c1; cases c1
  · rcases hm with ⟨m1, -, -⟩ | ⟨r', m1, m2, rfl, rfl⟩
    · rw [isRep_N hr] at m1; cases m1
    · have e : r = r' := (nI_eq (by omega) (by omega)).mp m2
      subst e
      exact ⟨by rw [hg], inv_same hI⟩
/-! what the calls need -/
theorem base_C (hI : INV x y u) : BaseC x y := by
  obtain ⟨hL, hC, hO, hA⟩ := id hI
  have hn := hL.ok.n
  have hel := el_le hO
  have hcn : x.cnt = u.nn := hC.1
  refine ⟨hC.2.2.2.2.2.2, fun q => by omega, fun o ho q => ?_, fun o ho => ?_, fun r hr => ?_, fun r hr o ho => ?_, fun r hr t ht => ?_, fun r hr k p hp => pl_ex hI hr k hp⟩
  · rw [hC.2.2.2.2.1] at q
    rw [hC.2.2.2.1]
    exact hL.er (by omega) q
  · rw [hC.pl hL (by omega), hL.ln (by omega)]
    omega
  · have hp := hA r hr
    refine ⟨hp.cr.ok, ?_, hp.cr.kc9 hL, fun k => ?_, (col_inv hI hr).2.1⟩
    · rw [hp.cr.gs]
      have := gsA_le hL (rowF u.app r) u.nn (Nat.le_refl _)
      omega
    · by_cases hj : k < 3
      · rw [hp.cr.self_c hj]
        have := numF_le (fun o => decide (u.by_ o = k) && rowF u.app r o) u.nn
        unfold cA
        omega
      · rw [hp.cr.s0 (by omega)]; decide
  · have hp := hA r hr
    obtain ⟨c1, -, -⟩ := rcv_cr hC hL hp.row hp.cr (show o < u.nn by omega)
    refine ⟨c1.ok, fun k hk => ?_⟩
    exact ap_ok (a := u.app) (w := unR r (rcW (rowF u.app r) (rowF u.wts r) o)) hC hL (by rw [row_un]; exact rcW_row hp.row) (by rw [row_un]; exact c1) (fun o h1 h2 => hp.ga h1 h2) (by omega)
  · have hp := hA r hr
    have hpt := hA t ht
    refine ⟨fun o ho => (rca_cr hC hL hp.row hp.cr hpt.row hpt.cr o (by omega)).1.ok, fun k hk => ?_⟩
    have c1 := (rca_cr hC hL hp.row hp.cr hpt.row hpt.cr x.cnt (by omega)).1
    exact ap_ok (a := u.app) (w := unR r (rcS (rowF u.app r) (rowF u.app t) (rowF u.wts r) x.cnt)) hC hL (by rw [row_un]; exact rcS_row hp.row _) (by rw [row_un]; exact c1) (fun o h1 h2 => hp.ga h1 h2) (by omega)
theorem base_M (hI : INV x y u) : BaseM u := by
  obtain ⟨hL, hC, hO, hA⟩ := id hI
  have hn := hL.ok.n
  have hel := el_le hO
  refine ⟨hL.ok, fun k hk => hL.ot hk, fun r hr => ?_, fun k hk => by rw [hL.ln hk]; omega, fun r o hr ho => idl_of hL (hA r hr).row, fun r t o hr ht ho => ?_, fun r => hdL x (rowF u.app r), fun r hr => ⟨hd_chain hL hO (hA r hr).row, ?_, fun v hv => ?_⟩⟩
  · rw [gst_gsA]
    have := gsA_le hL (rowF u.app r) u.nn (Nat.le_refl _)
    omega
  · have hp := hA r hr
    obtain ⟨s1, s2, s3, s4, s5, s6⟩ := syn_all (t := t) hL hp.row hp.qui o ho
    have hLv : LogP (synF u r t o).1 := by rw [s1.log]; exact hL
    refine ⟨hLv.ok, s1.nn, fun k hk => by rw [hLv.ln hk]; omega, fun r' hr' o' ho' => idl_of hLv ?_⟩
    rw [s1.row]
    by_cases hq : r' = r
    · rw [hq]; exact s2
    · refine (hA r' hr').row.congr (fun k hk => ?_) (fun k hk => ?_)
      · exact (s5 (100 * r' + k) (fun o' ho' => by omega)).1.symm
      · exact (s5 (100 * r' + k) (fun o' ho' => by omega)).2.symm
  · have := held_len (X := XO x.ord) (G := hdG (rowF u.app r)) x.el 0
    show (heldL (XO x.ord) (hdG (rowF u.app r)) x.el 0).length ≤ 100
    omega
  · obtain ⟨i, i1, i2, -⟩ := hd_mem hO hv
    have := (hO.2.1 i i1).1
    omega
end PU
theorem pure_inv : PureP INV := by
  refine ⟨inv_init, fun x y u hI => ⟨base_C hI, base_M hI⟩, ?_, ?_, ?_, ?_, ?_, ?_, ?_, ?_, ?_, fun x y u hI => hI.2.1.1, ?_, ?_, ?_, ?_, ?_, fun x y u r hI hr => by rw [up_same]; exact hI⟩
  · intro x y u r xs kp ib z1 z2 k v v' w u' hI hr hx hpl hk hc hm; exact p_ins hI hr hx hpl hk hc hm
  · intro x y u r xs ve z1 z2 v v' w u' hI hr hx he hc hm; exact p_ers hI hr hx he hc hm
  · intro x y u r z1 z2 v v' w u' hI hr hc hm; exact p_dlv hI hr hc hm
  · intro x y u r t z1 z2 v v' w u' hI hr ht hc hm; exact p_syn hI hr ht hc hm
  · intro x y u r z1 v v' w u' hI hr hc hm; exact p_col hI hr hc hm
  · intro x y u r xs z1 v v' w u' hI hr hx hc hm; exact p_len hI hr hx hc hm
  · intro x y u r xs ve z1 z2 v v' w u' hI hr hx he hc hm; exact p_at hI hr hx he hc hm
  · intro x y u r xs vp z1 z2 v v' w u' hI hr hx he hc hm; exact p_pos hI hr hx he hc hm
  · intro x y u r t xs z1 z2 v v' w u' hI hr ht hx hc hm; exact p_sam hI hr ht hx hc hm
  · intro x y u r z1 v v' w u' hI hr hc hm; exact p_stp hI hr hc hm
  · intro x y u r z1 z2 z3 v v' w u' hI hr hc hm; exact p_knw hI hr hc hm
  · intro x y u r z1 z2 v v' w u' hI hr hc hm; exact p_stb hI hr hc hm
  · intro x y u r z1 v v' w u' hI hr hc hm; exact p_num hI hr ((hI.2.2.2 r hr).cr.kc) hc hm
  · intro x y u r z1 v v' w u' hI hr hc hm; exact p_num hI hr ((hI.2.2.2 r hr).cr.wc) hc hm
