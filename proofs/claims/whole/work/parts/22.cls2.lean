def rmL_indexBehind : Room := { frames := 1, cells := 0, slots := 0, locals := 21 }
set_option maxHeartbeats 4000000 in
set_option maxRecDepth 100000 in
theorem kL_indexBehind {l : Launch} (D : va_G) (cc : Nat → ClassId) (a : Nat → Nat) (x : LgS) (t ib : Nat) (ht : t ≤ 100) (hib : ibP x t ib) (ok : okL x) : Met l yL_indexBehind wsL_indexBehind rmL_indexBehind (va_Pc [.ref (a 0), .int (sI (t))] (fun U => va_P D vwCl (wL cc a x) U.heap ∧ EN D cc U)) (QcRead (nI ib)) 0 0 (fun _ => False) := by
  refine rd_met RL [.ref (a 0), .int (sI (t))] _ _ (by decide) rfl rfl (Nat.le_of_ble_eq_true rfl) (vp_nar_int _) ?_
  intro p e s m args below meth c Q S hB kx ls hl
  obtain ⟨hx, hb, hml, hown, hts⟩ := id S
  obtain ⟨hP, hE⟩ := hB
  have hK := hE.1
  have hts := hE.ts args
  have S : CallFix p m c cL_indexBehind 3 s args wAll RL := ⟨hx, hb, hml, hown, hts⟩
  have hn := ok.n
  have he := ok.e
  have hl : lv_has ls 3 [(0, .ref (a 0)), (1, .int (sI (t)))] := hl
  have L7 : ∀ (n : Nat) (k : Nat)  (ls : Array Slot) (h0 : ¬ t = 0) (h1 : ∀ j, j < k → x.ord j + 1 ≠ t) (h2 : x.el - k < n), lv_has ls 3 [(0, .ref (a 0)), (1, .int (sI (t))), (2, .int (nI (k)))] → W p l e rmL_indexBehind s m args below meth c s.heap [] 0 0 Q (F0 m 7 ls []) := by
    intro n
    induction n with
    | zero => intro k ls h0 h1 h2 hl; exact absurd h2 (Nat.not_lt_zero _)
    | succ n ih =>
      intro k ls h0 h1 h2 hl
      obtain ⟨i, hi1, hne, hi3, hi4⟩ := hib.resolve_left (fun q => h0 q.1)
      have h3 : k ≤ i := Nat.le_of_not_lt (fun q => h1 i q hi3)
      refine lv_iload_n hx hb dL_indexBehind_7 rfl (lv_at hl 2 rfl) ?_
      refine lv_aload_n hx hb dL_indexBehind_8 rfl (lv_at hl 0 rfl) ?_
      refine va_get (D := D) (ci := 0) (v := .int (nI (x.el))) (C := RL) (T := TL) (N := 8) hx hb hts in_L hown hK hP 0 rfl rfl 7 (by decide) (hts _ wm_26) (fun _ h9 => h9) rfl dL_indexBehind_9 ?_
      refine r_ge (by omega) (Nat.lt_of_le_of_lt ok.e (by decide)) (tgt := 31) hx hb dL_indexBehind_12 (by decide) (fun c_12 => absurd c_12 (by omega)) (fun c_12 => ?_)
      refine lv_aload_n hx hb dL_indexBehind_15 rfl (lv_at hl 0 rfl) ?_
      refine va_get (D := D) (ci := 0) (v := .ref (a 6)) (C := RL) (T := TL) (N := 8) hx hb hts in_L hown hK hP 0 rfl rfl 5 (by decide) (hts _ wm_24) (fun _ h9 => h9) rfl dL_indexBehind_16 ?_
      refine lv_iload_n hx hb dL_indexBehind_19 rfl (lv_at hl 2 rfl) ?_
      refine r_iald (q0 := 6) (t0 := 0) hx hb hK hP rfl rfl (by omega) (by decide) dL_indexBehind_20 ?_
      refine lv_iload_n hx hb dL_indexBehind_21 rfl (lv_at hl 1 rfl) ?_
      refine r_top2 (y := sI (x.ord k + 1)) (sI_s _).symm ?_
      refine r_eqS (by have := ok.ord100 k; omega) (by omega) (tgt := 31) hx hb dL_indexBehind_22 (by decide) (fun c_22 => ?_) (fun c_22 => ?_)
      · refine lv_iload_n hx hb dL_indexBehind_31 rfl (lv_at hl 2 rfl) ?_
        refine lv_iconst (v := nI (1)) hx hb dL_indexBehind_32 (by decide) ?_
        refine r_add hx hb dL_indexBehind_33 ?_
        refine lv_aload_n hx hb dL_indexBehind_34 rfl (lv_at hl 0 rfl) ?_
        refine va_get (D := D) (ci := 0) (v := .int (nI (x.el))) (C := RL) (T := TL) (N := 8) hx hb hts in_L hown hK hP 0 rfl rfl 7 (by decide) (hts _ wm_26) (fun _ h9 => h9) rfl dL_indexBehind_35 ?_
        refine va_mmin hx hb (hml.trans hl.1.symm) hown (hts _ wm_102) (hts _ wm_103) (hts _ wm_5) (hts _ wm_104) (Nat.le_of_ble_eq_true rfl) (Nat.le_of_ble_eq_true rfl) (Nat.le_of_ble_eq_true rfl) (Nat.le_of_ble_eq_true rfl) dL_indexBehind_38 ?_
        refine r_top (y := nI (k + 1)) (if_neg (nI_nlt (by omega) (by omega))) ?_
        refine lv_istore_n (lv' := [(2, .int (nI (k + 1))), (0, .ref (a 0)), (1, .int (sI (t)))]) hx hb dL_indexBehind_41 rfl hl (by decide) rfl (fun ls hl => ?_)
        refine lv_iload_n hx hb dL_indexBehind_42 rfl (lv_at hl 0 rfl) ?_
        exact kx _ _ _ dL_indexBehind_43 (by first | (rcases hib with ⟨-, q⟩ | ⟨i, -, -, h2, -⟩ <;> first | (rw [q]; done) | (exfalso; omega)) | (rw [hi4, (show k = i from (Nat.lt_or_ge k i).elim (fun z => absurd c_22 (hne k z)) (fun z => Nat.le_antisymm h3 z))]))
      · refine lv_iinc (v := nI (k + 1)) (lv' := [(2, .int (nI (k + 1))), (0, .ref (a 0)), (1, .int (sI (t)))]) hx hb dL_indexBehind_25 hl (k := 2) rfl (nI_1 _) (by decide) rfl (fun ls hl => ?_)
        refine lv_goto (tgt := 7) hx hb dL_indexBehind_28 (by decide) ?_
        exact ih  (k + 1)  ls (by first | exact c_4 | exact h0) (by first | exact (fun j hj => absurd hj (Nat.not_lt_zero j)) | exact lt_s h1 c_22) (by omega) (lv_sub hl [1, 2, 0] rfl)
  refine lv_iconst (v := nI (0)) hx hb dL_indexBehind_0 (by decide) ?_
  refine lv_istore_n (lv' := [(2, .int (nI (0))), (0, .ref (a 0)), (1, .int (sI (t)))]) hx hb dL_indexBehind_1 rfl hl (by decide) rfl (fun ls hl => ?_)
  refine lv_iload_n hx hb dL_indexBehind_2 rfl (lv_at hl 2 rfl) ?_
  refine lv_iconst (v := sI (0)) hx hb dL_indexBehind_3 (by decide) ?_
  refine r_eqS (by omega) (by omega) (tgt := 42) hx hb dL_indexBehind_4 (by decide) (fun c_4 => ?_) (fun c_4 => ?_)
  · refine lv_iload_n hx hb dL_indexBehind_42 rfl (lv_at hl 0 rfl) ?_
    exact kx _ _ _ dL_indexBehind_43 (by first | (rcases hib with ⟨-, q⟩ | ⟨i, -, -, h2, -⟩ <;> first | (rw [q]; done) | (exfalso; omega)) | (rw [hi4, (show k = i from (Nat.lt_or_ge k i).elim (fun z => absurd c_22 (hne k z)) (fun z => Nat.le_antisymm h3 z))]))
  · exact L7 (x.el + 1) (0)  ls (by first | exact c_4 | exact h0) (by first | exact (fun j hj => absurd hj (Nat.not_lt_zero j)) | exact lt_s h1 c_22) (by omega) (lv_sub hl [1, 2, 0] rfl)

def rmL_putInOrder : Room := { frames := 2, cells := 0, slots := 0, locals := 43 }
set_option maxHeartbeats 4000000 in
set_option maxRecDepth 100000 in
theorem kL_putInOrder {l : Launch} (D : va_G) (cc : Nat → ClassId) (a : Nat → Nat) (x : LgS) (sz : Nat) (o ib k : Nat) (ho : o < 100) (hel : x.el < 100) (hpl : plP x o ib k) (ok : okL x) : Met l yL_putInOrder wsL_putInOrder rmL_putInOrder (va_Pc [.ref (a 0), .int (nI (o))] (WP D cc (wL cc a (x)) sz)) (va_Qv (fun _ : Unit => True) (WQ D cc (va_A (wL cc a (x)) sz) (fun _ : Unit => wL cc a (pioL x k o))) (va_A (wL cc a (x)) sz)) 0 0 (va_A (wL cc a (x)) sz) := by
  refine wr_metv RL [.ref (a 0), .int (nI (o))] D cc (wL cc a (x)) sz (fun _ : Unit => wL cc a (pioL x k o)) _ (by decide) rfl rfl (Nat.le_of_ble_eq_true rfl) ?_
  intro p e s m args below meth c Q A S hP hE hD hA kx ls hl
  obtain ⟨hx, hb, hml, hown, hts⟩ := id S
  have hK := hE.1
  have hts := hE.ts args
  have S : CallFix p m c cL_putInOrder 4 s args wAll RL := ⟨hx, hb, hml, hown, hts⟩
  have hS : va_S A s.heap s.heap [] := va_S.rf
  have hn := ok.n
  have he := ok.e
  obtain ⟨hpl1, hpl2, hpl3, hpl4, hpl5⟩ := id hpl
  have hl : lv_has ls 4 [(0, .ref (a 0)), (1, .int (nI (o)))] := hl
  have L44 : ∀ (n : Nat) (i : Nat) (H : Heap) (locs : List Loc) (hP : va_P D vwCl (wL cc a (mkL x.cnt x.el x.iss x.stp x.tgt x.chr x.clk (shU x.ord x.el i))) H) (hD : va_D A (wL cc a (mkL x.cnt x.el x.iss x.stp x.tgt x.chr x.clk (shU x.ord x.el i)))) (hS : va_S A s.heap H locs) (ls : Array Slot) (h1 : k ≤ i) (h2 : i ≤ x.el) (h3 : i < n), lv_has ls 4 [(0, .ref (a 0)), (1, .int (nI (o))), (2, .int (nI (k))), (3, .int (nI (i)))] → W p l e rmL_putInOrder s m args below meth c H locs 0 0 Q (F0 m 44 ls []) := by
    intro n
    induction n with
    | zero => intro i H locs hP hD hS ls h1 h2 h3 hl; exact absurd h3 (Nat.not_lt_zero _)
    | succ n ih2 =>
      intro i H locs hP hD hS ls h1 h2 h3 hl
      have ok4 : okL (mkL x.cnt x.el x.iss x.stp x.tgt x.chr x.clk (shU x.ord x.el i)) := okL_mk ok.n ok.e ok.iss0 ok.stp3 ok.tgt100 ok.chr5 ok.clk3 (shU_lt ok.ord100 i)
      refine lv_iload_n hx hb dL_putInOrder_44 rfl (lv_at hl 3 rfl) ?_
      refine lv_iload_n hx hb dL_putInOrder_45 rfl (lv_at hl 2 rfl) ?_
      refine r_le (by omega) (by omega) (tgt := 69) hx hb dL_putInOrder_46 (by decide) (fun c_46 => ?_) (fun c_46 => ?_)
      · obtain rfl : k = i := by omega
        refine lv_aload_n hx hb dL_putInOrder_69 rfl (lv_at hl 0 rfl) ?_
        refine va_get (D := D) (ci := 0) (v := .ref (a 6)) (C := RL) (T := TL) (N := 8) hx hb hts in_L hown hK hP 0 rfl rfl 5 (by decide) (hts _ wm_24) (fun _ h9 => h9) rfl dL_putInOrder_70 ?_
        refine lv_iload_n hx hb dL_putInOrder_73 rfl (lv_at hl 2 rfl) ?_
        refine lv_iload_n hx hb dL_putInOrder_74 rfl (lv_at hl 1 rfl) ?_
        refine r_iast nI ((shU x.ord x.el k)) (o) (q0 := 6) (t0 := 0) hx hb hK hP hD hS rfl rfl (by omega) (by decide) dL_putInOrder_75 (fun H locs hP hD hS => ?_)
        have hP : va_P D vwCl (wL cc a (mkL x.cnt x.el x.iss x.stp x.tgt x.chr x.clk (va_up (shU x.ord x.el k) k o))) H := hP
        have hD : va_D A (wL cc a (mkL x.cnt x.el x.iss x.stp x.tgt x.chr x.clk (va_up (shU x.ord x.el k) k o))) := hD
        have ok5 : okL (mkL x.cnt x.el x.iss x.stp x.tgt x.chr x.clk (va_up (shU x.ord x.el k) k o)) := okL_mk ok.n ok.e ok.iss0 ok.stp3 ok.tgt100 ok.chr5 ok.clk3 (up_lt (shU_lt ok.ord100 k) ho)
        refine lv_aload_n hx hb dL_putInOrder_76 rfl (lv_at hl 0 rfl) ?_
        refine lv_dup hx hb dL_putInOrder_77 rfl ?_
        refine va_get (D := D) (ci := 0) (v := .int (nI (x.el))) (C := RL) (T := TL) (N := 8) hx hb hts in_L hown hK hP 0 rfl rfl 7 (by decide) (hts _ wm_26) (fun _ h9 => h9) rfl dL_putInOrder_78 ?_
        refine lv_iconst (v := nI (1)) hx hb dL_putInOrder_81 (by decide) ?_
        refine r_add hx hb dL_putInOrder_82 ?_
        refine va_put (D := D) (ci := 0) (v := .int (nI (x.el + 1))) (ty := .int) (C := RL) (T := TL) (N := 8) hx hb hts in_L tyL tyL_ok nmL hown hK hP hD hS 0 rfl rfl 7 (by decide) (hts _ wm_26) (fun _ h9 => h9) rfl (by decide +kernel) rfl rfl (Nat.le_of_ble_eq_true rfl) dL_putInOrder_83 (fun H locs hP hD hS => ?_)
        have hP : va_P D vwCl (wL cc a (mkL x.cnt (x.el + 1) x.iss x.stp x.tgt x.chr x.clk (va_up (shU x.ord x.el k) k o))) H := hP
        have hD : va_D A (wL cc a (mkL x.cnt (x.el + 1) x.iss x.stp x.tgt x.chr x.clk (va_up (shU x.ord x.el k) k o))) := hD
        exact kx _ _ _ _ (()) dL_putInOrder_86 hS hP hD (trivial)
      · refine lv_aload_n hx hb dL_putInOrder_49 rfl (lv_at hl 0 rfl) ?_
        refine va_get (D := D) (ci := 0) (v := .ref (a 6)) (C := RL) (T := TL) (N := 8) hx hb hts in_L hown hK hP 0 rfl rfl 5 (by decide) (hts _ wm_24) (fun _ h9 => h9) rfl dL_putInOrder_50 ?_
        refine lv_iload_n hx hb dL_putInOrder_53 rfl (lv_at hl 3 rfl) ?_
        refine lv_aload_n hx hb dL_putInOrder_54 rfl (lv_at hl 0 rfl) ?_
        refine va_get (D := D) (ci := 0) (v := .ref (a 6)) (C := RL) (T := TL) (N := 8) hx hb hts in_L hown hK hP 0 rfl rfl 5 (by decide) (hts _ wm_24) (fun _ h9 => h9) rfl dL_putInOrder_55 ?_
        refine lv_iload_n hx hb dL_putInOrder_58 rfl (lv_at hl 3 rfl) ?_
        refine lv_iconst (v := nI (1)) hx hb dL_putInOrder_59 (by decide) ?_
        refine r_sub (by omega) hx hb dL_putInOrder_60 ?_
        refine r_iald (q0 := 6) (t0 := 0) hx hb hK hP rfl rfl (by omega) (by decide) dL_putInOrder_61 ?_
        refine r_iast nI ((shU x.ord x.el i)) ((shU x.ord x.el i) (i - 1)) (q0 := 6) (t0 := 0) hx hb hK hP hD hS rfl rfl (by omega) (by decide) dL_putInOrder_62 (fun H locs hP hD hS => ?_)
        have hP : va_P D vwCl (wL cc a (mkL x.cnt x.el x.iss x.stp x.tgt x.chr x.clk (va_up (shU x.ord x.el i) i ((shU x.ord x.el i) (i - 1))))) H := hP
        have hD : va_D A (wL cc a (mkL x.cnt x.el x.iss x.stp x.tgt x.chr x.clk (va_up (shU x.ord x.el i) i ((shU x.ord x.el i) (i - 1))))) := hD
        refine lv_iinc (v := nI (i - 1)) (lv' := [(3, .int (nI (i - 1))), (0, .ref (a 0)), (1, .int (nI (o))), (2, .int (nI (k)))]) hx hb dL_putInOrder_63 hl (k := 3) rfl (by exact nI_dec (by omega)) (by decide) rfl (fun ls hl => ?_)
        refine lv_goto (tgt := 44) hx hb dL_putInOrder_66 (by decide) ?_
        have hP : va_P D vwCl (wL cc a (mkL x.cnt x.el x.iss x.stp x.tgt x.chr x.clk (shU x.ord x.el (i - 1)))) H := by rw [← shU_step (by omega) (by omega)]; exact hP
        have hD : va_D A (wL cc a (mkL x.cnt x.el x.iss x.stp x.tgt x.chr x.clk (shU x.ord x.el (i - 1)))) := by rw [← shU_step (by omega) (by omega)]; exact hD
        exact ih2  (i - 1) H locs hP hD hS ls (by omega) (by omega) (by omega) (lv_sub hl [1, 2, 3, 0] rfl)
  have L11 : ∀ (n : Nat) (j : Nat) (H : Heap) (locs : List Loc) (hP : va_P D vwCl (wL cc a (x)) H) (hD : va_D A (wL cc a (x))) (hS : va_S A s.heap H locs) (ls : Array Slot) (h0 : ib ≤ j) (h1 : j ≤ k) (h2 : x.el - j < n), lv_has ls 4 [(0, .ref (a 0)), (1, .int (nI (o))), (2, .int (nI (j)))] → W p l e rmL_putInOrder s m args below meth c H locs 0 0 Q (F0 m 11 ls []) := by
    intro n
    induction n with
    | zero => intro j H locs hP hD hS ls h0 h1 h2 hl; exact absurd h2 (Nat.not_lt_zero _)
    | succ n ih =>
      intro j H locs hP hD hS ls h0 h1 h2 hl
      refine lv_iload_n hx hb dL_putInOrder_11 rfl (lv_at hl 2 rfl) ?_
      refine lv_aload_n hx hb dL_putInOrder_12 rfl (lv_at hl 0 rfl) ?_
      refine va_get (D := D) (ci := 0) (v := .int (nI (x.el))) (C := RL) (T := TL) (N := 8) hx hb hts in_L hown hK hP 0 rfl rfl 7 (by decide) (hts _ wm_26) (fun _ h9 => h9) rfl dL_putInOrder_13 ?_
      refine r_ge (by omega) (Nat.lt_of_le_of_lt ok.e (by decide)) (tgt := 39) hx hb dL_putInOrder_16 (by decide) (fun c_16 => ?_) (fun c_16 => ?_)
      · obtain rfl : k = j := Eq.symm (by first | exact Nat.le_antisymm h1 (Nat.le_of_not_lt fun q => Nat.not_lt.mpr c_16 (Nat.lt_of_lt_of_le q hpl3)) | exact Nat.le_antisymm h1 (Nat.le_of_not_lt fun q => by rw [hpl4 j h0 q] at c_30; cases c_30))
        refine lv_aload_n hx hb dL_putInOrder_39 rfl (lv_at hl 0 rfl) ?_
        refine va_get (D := D) (ci := 0) (v := .int (nI (x.el))) (C := RL) (T := TL) (N := 8) hx hb hts in_L hown hK hP 0 rfl rfl 7 (by decide) (hts _ wm_26) (fun _ h9 => h9) rfl dL_putInOrder_40 ?_
        refine lv_istore_n (lv' := [(3, .int (nI (x.el))), (0, .ref (a 0)), (1, .int (nI (o))), (2, .int (nI (k)))]) hx hb dL_putInOrder_43 rfl hl (by decide) rfl (fun ls hl => ?_)
        have hP : va_P D vwCl (wL cc a (mkL x.cnt x.el x.iss x.stp x.tgt x.chr x.clk (shU x.ord x.el x.el))) H := by rw [shU_el]; exact hP
        have hD : va_D A (wL cc a (mkL x.cnt x.el x.iss x.stp x.tgt x.chr x.clk (shU x.ord x.el x.el))) := by rw [shU_el]; exact hD
        exact L44 (x.el + 1) (x.el) H locs hP hD hS ls (by omega) (by omega) (by omega) (lv_sub hl [1, 2, 3, 0] rfl)
      · refine lv_aload_n hx hb dL_putInOrder_19 rfl (lv_at hl 0 rfl) ?_
        refine lv_aload_n hx hb dL_putInOrder_20 rfl (lv_at hl 0 rfl) ?_
        refine va_get (D := D) (ci := 0) (v := .ref (a 6)) (C := RL) (T := TL) (N := 8) hx hb hts in_L hown hK hP 0 rfl rfl 5 (by decide) (hts _ wm_24) (fun _ h9 => h9) rfl dL_putInOrder_21 ?_
        refine lv_iload_n hx hb dL_putInOrder_24 rfl (lv_at hl 2 rfl) ?_
        refine r_iald (q0 := 6) (t0 := 0) hx hb hK hP rfl rfl (by omega) (by decide) dL_putInOrder_25 ?_
        refine lv_iload_n hx hb dL_putInOrder_26 rfl (lv_at hl 1 rfl) ?_
        refine W.callR (W.runV (As := [.int (nI (x.ord j)), .int (nI (o))]) (rest := []) S (kL_goesFirst D cc a x (x.ord j) (o) (ok.ord100 _) (by omega) ok) (cwV 2 hts (gd_V wm_105 wm_106 wm_373 wm_2 wm_107) rfl rfl rfl (by decide +kernel) ⟨Nat.le_of_ble_eq_true rfl, Nat.le_of_ble_eq_true rfl⟩) (rd_preV (q0 := 0) hP hE rfl rfl) rfl rfl hl.1 rfl (lv_room (Nat.le_of_ble_eq_true rfl)) dL_putInOrder_27 ⟨Nat.le_of_ble_eq_true rfl, Nat.le_of_ble_eq_true rfl⟩) ?_
        refine W.eq (g2 := F0 m 30 ls [.int (bI (gofL x (x.ord j) (o)))]) rfl ?_
        refine r_eqB (tgt := 39) hx hb dL_putInOrder_30 (by decide) (fun c_30 => ?_) (fun c_30 => ?_)
        · obtain rfl : k = j := Eq.symm (by first | exact Nat.le_antisymm h1 (Nat.le_of_not_lt fun q => Nat.not_lt.mpr c_16 (Nat.lt_of_lt_of_le q hpl3)) | exact Nat.le_antisymm h1 (Nat.le_of_not_lt fun q => by rw [hpl4 j h0 q] at c_30; cases c_30))
          refine lv_aload_n hx hb dL_putInOrder_39 rfl (lv_at hl 0 rfl) ?_
          refine va_get (D := D) (ci := 0) (v := .int (nI (x.el))) (C := RL) (T := TL) (N := 8) hx hb hts in_L hown hK hP 0 rfl rfl 7 (by decide) (hts _ wm_26) (fun _ h9 => h9) rfl dL_putInOrder_40 ?_
          refine lv_istore_n (lv' := [(3, .int (nI (x.el))), (0, .ref (a 0)), (1, .int (nI (o))), (2, .int (nI (k)))]) hx hb dL_putInOrder_43 rfl hl (by decide) rfl (fun ls hl => ?_)
          have hP : va_P D vwCl (wL cc a (mkL x.cnt x.el x.iss x.stp x.tgt x.chr x.clk (shU x.ord x.el x.el))) H := by rw [shU_el]; exact hP
          have hD : va_D A (wL cc a (mkL x.cnt x.el x.iss x.stp x.tgt x.chr x.clk (shU x.ord x.el x.el))) := by rw [shU_el]; exact hD
          exact L44 (x.el + 1) (x.el) H locs hP hD hS ls (by omega) (by omega) (by omega) (lv_sub hl [1, 2, 3, 0] rfl)
        · refine lv_iinc (v := nI (j + 1)) (lv' := [(2, .int (nI (j + 1))), (0, .ref (a 0)), (1, .int (nI (o)))]) hx hb dL_putInOrder_33 hl (k := 2) rfl (nI_1 _) (by decide) rfl (fun ls hl => ?_)
          refine lv_goto (tgt := 11) hx hb dL_putInOrder_36 (by decide) ?_
          exact ih  (j + 1) H locs hP hD hS ls (by omega) (by first | exact hpl2 | exact Nat.lt_of_le_of_ne h1 (fun q => by rw [q] at c_30 c_16; rw [hpl5 c_16] at c_30; cases c_30)) (by omega) (lv_sub hl [1, 2, 0] rfl)
  refine lv_aload_n hx hb dL_putInOrder_0 rfl (lv_at hl 0 rfl) ?_
  refine lv_aload_n hx hb dL_putInOrder_1 rfl (lv_at hl 0 rfl) ?_
  refine va_get (D := D) (ci := 0) (v := .ref (a 3)) (C := RL) (T := TL) (N := 8) hx hb hts in_L hown hK hP 0 rfl rfl 2 (by decide) (hts _ wm_21) (fun _ h9 => h9) rfl dL_putInOrder_2 ?_
  refine lv_iload_n hx hb dL_putInOrder_5 rfl (lv_at hl 1 rfl) ?_
  refine r_iald (q0 := 3) (t0 := 0) hx hb hK hP rfl rfl (by omega) (by decide) dL_putInOrder_6 ?_
  refine W.callR (W.runV (As := [.int (sI (x.tgt o))]) (rest := []) S (kL_indexBehind D cc a x (x.tgt o) (ib) (ok.tgt100 _) (hpl.1) ok) (cwV 1 hts (gd_V wm_99 wm_100 wm_372 wm_2 wm_101) rfl rfl rfl (by decide +kernel) ⟨Nat.le_of_ble_eq_true rfl, Nat.le_of_ble_eq_true rfl⟩) (rd_preV (q0 := 0) hP hE rfl rfl) rfl rfl hl.1 rfl (lv_room (Nat.le_of_ble_eq_true rfl)) dL_putInOrder_7 ⟨Nat.le_of_ble_eq_true rfl, Nat.le_of_ble_eq_true rfl⟩) ?_
  refine W.eq (g2 := F0 m 10 ls [.int (nI (ib))]) rfl ?_
  refine lv_istore_n (lv' := [(2, .int (nI (ib))), (0, .ref (a 0)), (1, .int (nI (o)))]) hx hb dL_putInOrder_10 rfl hl (by decide) rfl (fun ls hl => ?_)
  exact L11 (x.el + 1) (ib) s.heap [] hP hD hS ls (by omega) (by first | exact hpl2 | exact Nat.lt_of_le_of_ne h1 (fun q => by rw [q] at c_30 c_16; rw [hpl5 c_16] at c_30; cases c_30)) (by omega) (lv_sub hl [1, 2, 0] rfl)
