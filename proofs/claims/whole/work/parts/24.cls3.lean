def rmL_record : Room := { frames := 3, cells := 0, slots := 0, locals := 66 }
set_option maxHeartbeats 4000000 in
set_option maxRecDepth 100000 in
theorem kL_record {l : Launch} (D : va_G) (cc : Nat → ClassId) (a : Nat → Nat) (x : LgS) (rw_ : Nat) (f : Nat → Nat) (hf : ∀ k, f k < 900) (sz : Nat) (i sv t ch ib k : Nat) (hi : i < 3) (hsv : sv < 1000) (ht : t ≤ 100) (hch : ch < 65536) (hc : x.cnt < 100) (hel : x.el < 100) (hpl : ¬ ch = 0 → plP (rec5 x i sv t ch f) x.cnt ib k) (ok : okL x) : Met l yL_record wsL_record rmL_record (va_Pc [.ref (a 0), .int (nI (i)), .int (nI (sv)), .ref (rw_), .int (sI (t)), .int (nI (ch))] (WP D cc (wLw cc a (x) rw_ f) sz)) (va_Qi (fun v (_ : Unit) => v = nI x.cnt) (WQ D cc (va_A (wLw cc a (x) rw_ f) sz) (fun _ : Unit => wLw cc a (recL x i sv t ch f k) rw_ f)) (va_A (wLw cc a (x) rw_ f) sz)) 0 0 (va_A (wLw cc a (x) rw_ f) sz) := by
  refine wr_meti RL [.ref (a 0), .int (nI (i)), .int (nI (sv)), .ref (rw_), .int (sI (t)), .int (nI (ch))] D cc (wLw cc a (x) rw_ f) sz (fun _ : Unit => wLw cc a (recL x i sv t ch f k) rw_ f) _ (by decide) rfl rfl (Nat.le_of_ble_eq_true rfl) (fun v _ _ => vp_nar_int v) ?_
  intro p e s m args below meth c Q A S hP hE hD hA kx ls hl
  obtain ⟨hx, hb, hml, hown, hts⟩ := id S
  have hK := hE.1
  have hts := hE.ts args
  have S : CallFix p m c cL_record 8 s args wAll RL := ⟨hx, hb, hml, hown, hts⟩
  have hS : va_S A s.heap s.heap [] := va_S.rf
  have hn := ok.n
  have he := ok.e
  have hl : lv_has ls 8 [(0, .ref (a 0)), (1, .int (nI (i))), (2, .int (nI (sv))), (3, .ref (rw_)), (4, .int (sI (t))), (5, .int (nI (ch)))] := hl
  have L53 : ∀ (n : Nat) (j : Nat) (H : Heap) (locs : List Loc) (hP : va_P D vwCl (wLw cc a (mkL (x.cnt + 1) x.el (va_up x.iss x.cnt i) (va_up x.stp x.cnt sv) (va_up x.tgt x.cnt t) (va_up x.chr x.cnt ch) (clkV x.clk x.cnt (fun j => f j + if j = i then 1 else 0) j) x.ord) rw_ f) H) (hD : va_D A (wLw cc a (mkL (x.cnt + 1) x.el (va_up x.iss x.cnt i) (va_up x.stp x.cnt sv) (va_up x.tgt x.cnt t) (va_up x.chr x.cnt ch) (clkV x.clk x.cnt (fun j => f j + if j = i then 1 else 0) j) x.ord) rw_ f)) (hS : va_S A s.heap H locs) (ls : Array Slot) (h1 : j ≤ 3) (h2 : 3 - j < n), lv_has ls 8 [(0, .ref (a 0)), (1, .int (nI (i))), (2, .int (nI (sv))), (3, .ref (rw_)), (4, .int (sI (t))), (5, .int (nI (ch))), (6, .int (nI (x.cnt))), (7, .int (nI (j)))] → W p l e rmL_record s m args below meth c H locs 0 0 Q (F0 m 53 ls []) := by
    intro n
    induction n with
    | zero => intro j H locs hP hD hS ls h1 h2 hl; exact absurd h2 (Nat.not_lt_zero _)
    | succ n ih =>
      intro j H locs hP hD hS ls h1 h2 hl
      have ok6 : okL (mkL (x.cnt + 1) x.el (va_up x.iss x.cnt i) (va_up x.stp x.cnt sv) (va_up x.tgt x.cnt t) (va_up x.chr x.cnt ch) (clkV x.clk x.cnt (fun j => f j + if j = i then 1 else 0) j) x.ord) := okL_mk (by omega) ok.e (up_lt ok.iss0 hi) (up_lt ok.stp3 hsv) (up_le ok.tgt100 ht) (up_lt ok.chr5 hch) (clkV_lt ok.clk3 (fun j => by have := hf j; split <;> omega) j) ok.ord100
      refine lv_iload hx hb dL_record_53 (lv_at hl 7 rfl) ?_
      refine lv_iconst (v := nI (3)) hx hb dL_record_55 (by decide) ?_
      refine r_ge (by omega) (by decide) (tgt := 93) hx hb dL_record_56 (by decide) (fun c_56 => ?_) (fun c_56 => ?_)
      · obtain rfl : j = 3 := by omega
        have hP : va_P D vwCl (wLw cc a (rec5 x i sv t ch f) rw_ f) H := hP
        have hD : va_D A (wLw cc a (rec5 x i sv t ch f) rw_ f) := hD
        have ok7 : okL (rec5 x i sv t ch f) := okL_mk (by omega) ok.e (up_lt ok.iss0 hi) (up_lt ok.stp3 hsv) (up_le ok.tgt100 ht) (up_lt ok.chr5 hch) (clkV_lt ok.clk3 (fun j => by have := hf j; split <;> omega) 3) ok.ord100
        refine lv_iload hx hb dL_record_93 (lv_at hl 5 rfl) ?_
        refine r_eqN (by omega) (tgt := 104) hx hb dL_record_95 (by decide) (fun c_95 => ?_) (fun c_95 => ?_)
        · refine lv_iload hx hb dL_record_104 (lv_at hl 6 rfl) ?_
          exact kx _ _ _ _ _ (()) dL_record_106 hS (by unfold recL; first | (rw [if_pos c_95]; exact hP) | (rw [if_neg c_95]; exact hP)) (by unfold recL; first | (rw [if_pos c_95]; exact hD) | (rw [if_neg c_95]; exact hD)) (rfl)
        · refine lv_aload_n hx hb dL_record_98 rfl (lv_at hl 0 rfl) ?_
          refine lv_iload hx hb dL_record_99 (lv_at hl 6 rfl) ?_
          refine wr_callv (w2 := [(rw_, .inl (cc 0, 3, .inl (fun k => nI (f k))))]) (va_runV (As := [.int (nI (x.cnt))]) (rest := []) S (kL_putInOrder D cc a (rec5 x i sv t ch f) (H.size) x.cnt ib k (by omega) hel (hpl c_95) ok7) (cwV 1 hts (gd_V wm_96 wm_97 wm_371 wm_2 wm_98) rfl rfl rfl (by decide +kernel) ⟨Nat.le_of_ble_eq_true rfl, Nat.le_of_ble_eq_true rfl⟩) (wr_preV (q0 := 0) (P_left hP) hE (D_left hD) rfl rfl) rfl rfl hl.1 rfl (lv_room (Nat.le_of_ble_eq_true rfl)) dL_record_101 ⟨Nat.le_of_ble_eq_true rfl, Nat.le_of_ble_eq_true rfl⟩) hP hD hS hA (fun u H locs hpo hP hD hS => ?_)
          have hP : va_P D vwCl (wLw cc a (pioL (rec5 x i sv t ch f) k x.cnt) rw_ f) H := hP
          have hD : va_D A (wLw cc a (pioL (rec5 x i sv t ch f) k x.cnt) rw_ f) := hD
          refine lv_iload hx hb dL_record_104 (lv_at hl 6 rfl) ?_
          exact kx _ _ _ _ _ (()) dL_record_106 hS (by unfold recL; first | (rw [if_pos c_95]; exact hP) | (rw [if_neg c_95]; exact hP)) (by unfold recL; first | (rw [if_pos c_95]; exact hD) | (rw [if_neg c_95]; exact hD)) (rfl)
      · refine lv_aload_n hx hb dL_record_59 rfl (lv_at hl 0 rfl) ?_
        refine va_get (D := D) (ci := 0) (v := .ref (a 5)) (C := RL) (T := TL) (N := 8) hx hb hts in_L hown hK hP 0 rfl rfl 4 (by decide) (hts _ wm_23) (fun _ h9 => h9) rfl dL_record_60 ?_
        refine lv_iload hx hb dL_record_63 (lv_at hl 6 rfl) ?_
        refine lv_iconst (v := nI (3)) hx hb dL_record_65 (by decide) ?_
        refine r_mul hx hb dL_record_66 ?_
        refine lv_iload hx hb dL_record_67 (lv_at hl 7 rfl) ?_
        refine r_add hx hb dL_record_69 ?_
        refine lv_aload_n hx hb dL_record_70 rfl (lv_at hl 3 rfl) ?_
        refine lv_iload hx hb dL_record_71 (lv_at hl 7 rfl) ?_
        refine r_iald (q0 := 7) (t0 := 0) hx hb hK hP rfl rfl (by omega) (by decide) dL_record_73 ?_
        refine lv_iload hx hb dL_record_74 (lv_at hl 7 rfl) ?_
        refine lv_iload_n hx hb dL_record_76 rfl (lv_at hl 1 rfl) ?_
        refine r_ne (by omega) (by omega) (tgt := 84) hx hb dL_record_77 (by decide) (fun c_77 => ?_) (fun c_77 => ?_)
        · refine lv_iconst (v := nI (0)) hx hb dL_record_84 (by decide) ?_
          refine r_add hx hb dL_record_85 ?_
          refine r_iast nI ((clkV x.clk x.cnt (fun j => f j + if j = i then 1 else 0) j)) ((f j) + 0) (q0 := 5) (t0 := 0) hx hb hK hP hD hS rfl rfl (by omega) (by decide) dL_record_86 (fun H locs hP hD hS => ?_)
          have hP : va_P D vwCl (wLw cc a (mkL (x.cnt + 1) x.el (va_up x.iss x.cnt i) (va_up x.stp x.cnt sv) (va_up x.tgt x.cnt t) (va_up x.chr x.cnt ch) (va_up (clkV x.clk x.cnt (fun j => f j + if j = i then 1 else 0) j) (x.cnt * 3 + j) ((f j) + 0)) x.ord) rw_ f) H := hP
          have hD : va_D A (wLw cc a (mkL (x.cnt + 1) x.el (va_up x.iss x.cnt i) (va_up x.stp x.cnt sv) (va_up x.tgt x.cnt t) (va_up x.chr x.cnt ch) (va_up (clkV x.clk x.cnt (fun j => f j + if j = i then 1 else 0) j) (x.cnt * 3 + j) ((f j) + 0)) x.ord) rw_ f) := hD
          refine lv_iinc (v := nI (j + 1)) (lv' := [(7, .int (nI (j + 1))), (0, .ref (a 0)), (1, .int (nI (i))), (2, .int (nI (sv))), (3, .ref (rw_)), (4, .int (sI (t))), (5, .int (nI (ch))), (6, .int (nI (x.cnt)))]) hx hb dL_record_87 hl (k := 7) rfl (nI_1 _) (by decide) rfl (fun ls hl => ?_)
          refine lv_goto (tgt := 53) hx hb dL_record_90 (by decide) ?_
          have hP : va_P D vwCl (wLw cc a (mkL (x.cnt + 1) x.el (va_up x.iss x.cnt i) (va_up x.stp x.cnt sv) (va_up x.tgt x.cnt t) (va_up x.chr x.cnt ch) (clkV x.clk x.cnt (fun j => f j + if j = i then 1 else 0) (j + 1)) x.ord) rw_ f) H := by first | (rw [← clkV_e (g := (fun j => f j + if j = i then 1 else 0)) (j := j) (show f j + (if j = i then 1 else 0) = f j + 1 by rw [if_pos c_77])]; exact hP) | (rw [← clkV_e (g := (fun j => f j + if j = i then 1 else 0)) (j := j) (show f j + (if j = i then 1 else 0) = f j + 0 by rw [if_neg c_77])]; exact hP)
          have hD : va_D A (wLw cc a (mkL (x.cnt + 1) x.el (va_up x.iss x.cnt i) (va_up x.stp x.cnt sv) (va_up x.tgt x.cnt t) (va_up x.chr x.cnt ch) (clkV x.clk x.cnt (fun j => f j + if j = i then 1 else 0) (j + 1)) x.ord) rw_ f) := by first | (rw [← clkV_e (g := (fun j => f j + if j = i then 1 else 0)) (j := j) (show f j + (if j = i then 1 else 0) = f j + 1 by rw [if_pos c_77])]; exact hD) | (rw [← clkV_e (g := (fun j => f j + if j = i then 1 else 0)) (j := j) (show f j + (if j = i then 1 else 0) = f j + 0 by rw [if_neg c_77])]; exact hD)
          exact ih  (j + 1) H locs hP hD hS ls (by omega) (by omega) (lv_sub hl [1, 2, 3, 4, 5, 6, 7, 0] rfl)
        · refine lv_iconst (v := nI (1)) hx hb dL_record_80 (by decide) ?_
          refine lv_goto (tgt := 85) hx hb dL_record_81 (by decide) ?_
          refine r_add hx hb dL_record_85 ?_
          refine r_iast nI ((clkV x.clk x.cnt (fun j => f j + if j = i then 1 else 0) j)) ((f j) + 1) (q0 := 5) (t0 := 0) hx hb hK hP hD hS rfl rfl (by omega) (by decide) dL_record_86 (fun H locs hP hD hS => ?_)
          have hP : va_P D vwCl (wLw cc a (mkL (x.cnt + 1) x.el (va_up x.iss x.cnt i) (va_up x.stp x.cnt sv) (va_up x.tgt x.cnt t) (va_up x.chr x.cnt ch) (va_up (clkV x.clk x.cnt (fun j => f j + if j = i then 1 else 0) j) (x.cnt * 3 + j) ((f j) + 1)) x.ord) rw_ f) H := hP
          have hD : va_D A (wLw cc a (mkL (x.cnt + 1) x.el (va_up x.iss x.cnt i) (va_up x.stp x.cnt sv) (va_up x.tgt x.cnt t) (va_up x.chr x.cnt ch) (va_up (clkV x.clk x.cnt (fun j => f j + if j = i then 1 else 0) j) (x.cnt * 3 + j) ((f j) + 1)) x.ord) rw_ f) := hD
          refine lv_iinc (v := nI (j + 1)) (lv' := [(7, .int (nI (j + 1))), (0, .ref (a 0)), (1, .int (nI (i))), (2, .int (nI (sv))), (3, .ref (rw_)), (4, .int (sI (t))), (5, .int (nI (ch))), (6, .int (nI (x.cnt)))]) hx hb dL_record_87 hl (k := 7) rfl (nI_1 _) (by decide) rfl (fun ls hl => ?_)
          refine lv_goto (tgt := 53) hx hb dL_record_90 (by decide) ?_
          have hP : va_P D vwCl (wLw cc a (mkL (x.cnt + 1) x.el (va_up x.iss x.cnt i) (va_up x.stp x.cnt sv) (va_up x.tgt x.cnt t) (va_up x.chr x.cnt ch) (clkV x.clk x.cnt (fun j => f j + if j = i then 1 else 0) (j + 1)) x.ord) rw_ f) H := by first | (rw [← clkV_e (g := (fun j => f j + if j = i then 1 else 0)) (j := j) (show f j + (if j = i then 1 else 0) = f j + 1 by rw [if_pos c_77])]; exact hP) | (rw [← clkV_e (g := (fun j => f j + if j = i then 1 else 0)) (j := j) (show f j + (if j = i then 1 else 0) = f j + 0 by rw [if_neg c_77])]; exact hP)
          have hD : va_D A (wLw cc a (mkL (x.cnt + 1) x.el (va_up x.iss x.cnt i) (va_up x.stp x.cnt sv) (va_up x.tgt x.cnt t) (va_up x.chr x.cnt ch) (clkV x.clk x.cnt (fun j => f j + if j = i then 1 else 0) (j + 1)) x.ord) rw_ f) := by first | (rw [← clkV_e (g := (fun j => f j + if j = i then 1 else 0)) (j := j) (show f j + (if j = i then 1 else 0) = f j + 1 by rw [if_pos c_77])]; exact hD) | (rw [← clkV_e (g := (fun j => f j + if j = i then 1 else 0)) (j := j) (show f j + (if j = i then 1 else 0) = f j + 0 by rw [if_neg c_77])]; exact hD)
          exact ih  (j + 1) H locs hP hD hS ls (by omega) (by omega) (lv_sub hl [1, 2, 3, 4, 5, 6, 7, 0] rfl)
  refine lv_aload_n hx hb dL_record_0 rfl (lv_at hl 0 rfl) ?_
  refine va_get (D := D) (ci := 0) (v := .int (nI (x.cnt))) (C := RL) (T := TL) (N := 8) hx hb hts in_L hown hK hP 0 rfl rfl 6 (by decide) (hts _ wm_25) (fun _ h9 => h9) rfl dL_record_1 ?_
  refine lv_istore (lv' := [(6, .int (nI (x.cnt))), (0, .ref (a 0)), (1, .int (nI (i))), (2, .int (nI (sv))), (3, .ref (rw_)), (4, .int (sI (t))), (5, .int (nI (ch)))]) hx hb dL_record_4 hl (by decide) rfl (fun ls hl => ?_)
  refine lv_aload_n hx hb dL_record_6 rfl (lv_at hl 1 rfl) ?_
  refine lv_dup hx hb dL_record_7 rfl ?_
  refine va_get (D := D) (ci := 0) (v := .int (nI (x.cnt))) (C := RL) (T := TL) (N := 8) hx hb hts in_L hown hK hP 0 rfl rfl 6 (by decide) (hts _ wm_25) (fun _ h9 => h9) rfl dL_record_8 ?_
  refine lv_iconst (v := nI (1)) hx hb dL_record_11 (by decide) ?_
  refine r_add hx hb dL_record_12 ?_
  refine va_put (D := D) (ci := 0) (v := .int (nI (x.cnt + 1))) (ty := .int) (C := RL) (T := TL) (N := 8) hx hb hts in_L tyL tyL_ok nmL hown hK hP hD hS 0 rfl rfl 6 (by decide) (hts _ wm_25) (fun _ h9 => h9) rfl (by decide +kernel) rfl rfl (Nat.le_of_ble_eq_true rfl) dL_record_13 (fun H locs hP hD hS => ?_)
  have hP : va_P D vwCl (wLw cc a (mkL (x.cnt + 1) x.el x.iss x.stp x.tgt x.chr x.clk x.ord) rw_ f) H := hP
  have hD : va_D A (wLw cc a (mkL (x.cnt + 1) x.el x.iss x.stp x.tgt x.chr x.clk x.ord) rw_ f) := hD
  refine lv_aload_n hx hb dL_record_16 rfl (lv_at hl 1 rfl) ?_
  refine va_get (D := D) (ci := 0) (v := .ref (a 1)) (C := RL) (T := TL) (N := 8) hx hb hts in_L hown hK hP 0 rfl rfl 0 (by decide) (hts _ wm_19) (fun _ h9 => h9) rfl dL_record_17 ?_
  refine lv_iload hx hb dL_record_20 (lv_at hl 0 rfl) ?_
  refine lv_iload_n hx hb dL_record_22 rfl (lv_at hl 2 rfl) ?_
  refine r_iast nI x.iss (i) (q0 := 1) (t0 := 0) hx hb hK hP hD hS rfl rfl (by omega) (by decide) dL_record_23 (fun H locs hP hD hS => ?_)
  have hP : va_P D vwCl (wLw cc a (mkL (x.cnt + 1) x.el (va_up x.iss x.cnt i) x.stp x.tgt x.chr x.clk x.ord) rw_ f) H := hP
  have hD : va_D A (wLw cc a (mkL (x.cnt + 1) x.el (va_up x.iss x.cnt i) x.stp x.tgt x.chr x.clk x.ord) rw_ f) := hD
  refine lv_aload_n hx hb dL_record_24 rfl (lv_at hl 1 rfl) ?_
  refine va_get (D := D) (ci := 0) (v := .ref (a 2)) (C := RL) (T := TL) (N := 8) hx hb hts in_L hown hK hP 0 rfl rfl 1 (by decide) (hts _ wm_20) (fun _ h9 => h9) rfl dL_record_25 ?_
  refine lv_iload hx hb dL_record_28 (lv_at hl 0 rfl) ?_
  refine lv_iload_n hx hb dL_record_30 rfl (lv_at hl 3 rfl) ?_
  refine r_iast nI x.stp (sv) (q0 := 2) (t0 := 0) hx hb hK hP hD hS rfl rfl (by omega) (by decide) dL_record_31 (fun H locs hP hD hS => ?_)
  have hP : va_P D vwCl (wLw cc a (mkL (x.cnt + 1) x.el (va_up x.iss x.cnt i) (va_up x.stp x.cnt sv) x.tgt x.chr x.clk x.ord) rw_ f) H := hP
  have hD : va_D A (wLw cc a (mkL (x.cnt + 1) x.el (va_up x.iss x.cnt i) (va_up x.stp x.cnt sv) x.tgt x.chr x.clk x.ord) rw_ f) := hD
  refine lv_aload_n hx hb dL_record_32 rfl (lv_at hl 1 rfl) ?_
  refine va_get (D := D) (ci := 0) (v := .ref (a 3)) (C := RL) (T := TL) (N := 8) hx hb hts in_L hown hK hP 0 rfl rfl 2 (by decide) (hts _ wm_21) (fun _ h9 => h9) rfl dL_record_33 ?_
  refine lv_iload hx hb dL_record_36 (lv_at hl 0 rfl) ?_
  refine lv_iload hx hb dL_record_38 (lv_at hl 5 rfl) ?_
  refine r_iast sI x.tgt (t) (q0 := 3) (t0 := 0) hx hb hK hP hD hS rfl rfl (by omega) (by decide) dL_record_40 (fun H locs hP hD hS => ?_)
  have hP : va_P D vwCl (wLw cc a (mkL (x.cnt + 1) x.el (va_up x.iss x.cnt i) (va_up x.stp x.cnt sv) (va_up x.tgt x.cnt t) x.chr x.clk x.ord) rw_ f) H := hP
  have hD : va_D A (wLw cc a (mkL (x.cnt + 1) x.el (va_up x.iss x.cnt i) (va_up x.stp x.cnt sv) (va_up x.tgt x.cnt t) x.chr x.clk x.ord) rw_ f) := hD
  refine lv_aload_n hx hb dL_record_41 rfl (lv_at hl 1 rfl) ?_
  refine va_get (D := D) (ci := 0) (v := .ref (a 4)) (C := RL) (T := TL) (N := 8) hx hb hts in_L hown hK hP 0 rfl rfl 3 (by decide) (hts _ wm_22) (fun _ h9 => h9) rfl dL_record_42 ?_
  refine lv_iload hx hb dL_record_45 (lv_at hl 0 rfl) ?_
  refine lv_iload hx hb dL_record_47 (lv_at hl 6 rfl) ?_
  refine r_cast x.chr (ch) (hch) (q0 := 4) (t0 := 2) hx hb hK hP hD hS rfl rfl (by omega) (by decide) dL_record_49 (fun H locs hP hD hS => ?_)
  have hP : va_P D vwCl (wLw cc a (mkL (x.cnt + 1) x.el (va_up x.iss x.cnt i) (va_up x.stp x.cnt sv) (va_up x.tgt x.cnt t) (va_up x.chr x.cnt ch) x.clk x.ord) rw_ f) H := hP
  have hD : va_D A (wLw cc a (mkL (x.cnt + 1) x.el (va_up x.iss x.cnt i) (va_up x.stp x.cnt sv) (va_up x.tgt x.cnt t) (va_up x.chr x.cnt ch) x.clk x.ord) rw_ f) := hD
  refine lv_iconst (v := nI (0)) hx hb dL_record_50 (by decide) ?_
  refine lv_istore (lv' := [(7, .int (nI (0))), (6, .int (nI (x.cnt))), (0, .ref (a 0)), (1, .int (nI (i))), (2, .int (nI (sv))), (3, .ref (rw_)), (4, .int (sI (t))), (5, .int (nI (ch)))]) hx hb dL_record_51 hl (by decide) rfl (fun ls hl => ?_)
  exact L53 (4) (0) H locs hP hD hS ls (by omega) (by omega) (lv_sub hl [2, 3, 4, 5, 6, 7, 1, 0] rfl)

def rmP_apply : Room := { frames := 2, cells := 0, slots := 0, locals := 43 }
set_option maxHeartbeats 4000000 in
set_option maxRecDepth 100000 in
theorem kP_apply {l : Launch} (D : va_G) (cc : Nat → ClassId) (a b : Nat → Nat) (x : LgS) (y : RpS) (sz : Nat) (o : Nat) (ho : o < 100) (ht : x.chr o = 0 → 0 < x.tgt o) (ok : okL x) (kr : okR y) : Met l yP_apply wsP_apply rmP_apply (va_Pc [.ref (b 0), .int (nI (o))] (WP D cc (wLR cc a b (x) (y)) sz)) (va_Qv (fun _ : Unit => True) (WQ D cc (va_A (wLR cc a b (x) (y)) sz) (fun _ : Unit => wLR cc a b x (applyR x y o))) (va_A (wLR cc a b (x) (y)) sz)) 0 0 (va_A (wLR cc a b (x) (y)) sz) := by
  refine wr_metv RP [.ref (b 0), .int (nI (o))] D cc (wLR cc a b (x) (y)) sz (fun _ : Unit => wLR cc a b x (applyR x y o)) _ (by decide) rfl rfl (Nat.le_of_ble_eq_true rfl) ?_
  intro p e s m args below meth c Q A S hP hE hD hA kx ls hl
  obtain ⟨hx, hb, hml, hown, hts⟩ := id S
  have hK := hE.1
  have hts := hE.ts args
  have S : CallFix p m c cP_apply 4 s args wAll RP := ⟨hx, hb, hml, hown, hts⟩
  have hS : va_S A s.heap s.heap [] := va_S.rf
  have hn := ok.n
  have he := ok.e
  have hself := kr.self
  have htl := kr.tl
  have hi3 := ok.iss3 o
  have hl : lv_has ls 4 [(0, .ref (b 0)), (1, .int (nI (o)))] := hl
  have L12 : ∀ (n : Nat) (j : Nat) (H : Heap) (locs : List Loc) (hP : va_P D vwCl (wLR cc a b (x) (mkR y.self (sU y.seen (x.iss o) (fun j => x.clk (o * 3 + j)) j) y.wts y.ers y.kpt y.mgo y.txt y.tl y.kc y.wc y.gs)) H) (hD : va_D A (wLR cc a b (x) (mkR y.self (sU y.seen (x.iss o) (fun j => x.clk (o * 3 + j)) j) y.wts y.ers y.kpt y.mgo y.txt y.tl y.kc y.wc y.gs))) (hS : va_S A s.heap H locs) (ls : Array Slot) (h1 : j ≤ 3) (h2 : 3 - j < n), lv_has ls 4 [(0, .ref (b 0)), (1, .int (nI (o))), (2, .int (nI (x.iss o))), (3, .int (nI (j)))] → W p l e rmP_apply s m args below meth c H locs 0 0 Q (F0 m 12 ls []) := by
    intro n
    induction n with
    | zero => intro j H locs hP hD hS ls h1 h2 hl; exact absurd h2 (Nat.not_lt_zero _)
    | succ n ih =>
      intro j H locs hP hD hS ls h1 h2 hl
      refine lv_iload_n hx hb dP_apply_12 rfl (lv_at hl 3 rfl) ?_
      refine lv_iconst (v := nI (3)) hx hb dP_apply_13 (by decide) ?_
      refine r_ge (by omega) (by decide) (tgt := 40) hx hb dP_apply_14 (by decide) (fun c_14 => ?_) (fun c_14 => ?_)
      · obtain rfl : j = 3 := by omega
        refine lv_aload_n hx hb dP_apply_40 rfl (lv_at hl 0 rfl) ?_
        refine va_get (D := D) (ci := 1) (v := .ref (b 1)) (C := RP) (T := TP) (N := 12) hx hb hts in_P hown hK hP 7 rfl rfl 2 (by decide) (hts _ wm_46) (fun _ h9 => h9) rfl dP_apply_41 ?_
        refine lv_aload_n hx hb dP_apply_44 rfl (lv_at hl 0 rfl) ?_
        refine va_get (D := D) (ci := 1) (v := .int (nI (y.self))) (C := RP) (T := TP) (N := 12) hx hb hts in_P hown hK hP 7 rfl rfl 0 (by decide) (hts _ wm_44) (fun _ h9 => h9) rfl dP_apply_45 ?_
        refine r_aald (q0 := 8) (t0 := 3) (f := (fun j => b (2 + j))) hx hb hK hP rfl rfl (by omega) (by decide) dP_apply_48 ?_
        refine lv_iload_n hx hb dP_apply_49 rfl (lv_at hl 2 rfl) ?_
        refine lv_aload_n hx hb dP_apply_50 rfl (lv_at hl 0 rfl) ?_
        refine va_get (D := D) (ci := 1) (v := .ref (a 0)) (C := RP) (T := TP) (N := 12) hx hb hts in_P hown hK hP 7 rfl rfl 1 (by decide) (hts _ wm_45) (fun _ h9 => h9) rfl dP_apply_51 ?_
        refine lv_iload_n hx hb dP_apply_54 rfl (lv_at hl 1 rfl) ?_
        refine W.callR (W.runV (As := [.int (nI (o))]) (rest := [.int (nI (x.iss o)), .ref (b (2 + (y.self)))]) S (kL_placeInLine D cc a x (o) (by omega) ok) (cwV 1 hts (gd_V wm_115 wm_116 wm_117 wm_2 wm_118) rfl rfl rfl (by decide +kernel) ⟨Nat.le_of_ble_eq_true rfl, Nat.le_of_ble_eq_true rfl⟩) (rd_preV (q0 := 0) (P_left hP) hE rfl rfl) rfl rfl hl.1 rfl (lv_room (Nat.le_of_ble_eq_true rfl)) dP_apply_55 ⟨Nat.le_of_ble_eq_true rfl, Nat.le_of_ble_eq_true rfl⟩) ?_
        refine W.eq (g2 := F0 m 58 ls [.int (nI (plc x (o))), .int (nI (x.iss o)), .ref (b (2 + (y.self)))]) rfl ?_
        refine r_iast nI ((sU y.seen (x.iss o) (fun j => x.clk (o * 3 + j)) 3) (y.self)) (plc x (o)) (q0 := 9 + (y.self)) (t0 := 0) hx hb hK hP hD hS (at_seen (by omega)) rfl (by omega) (by decide) dP_apply_58 (fun H locs hP hD hS => ?_)
        rw [set_seen (by omega)] at hP hD
        have hP : va_P D vwCl (wLR cc a b (x) (mkR y.self (apSeen x y o) y.wts y.ers y.kpt y.mgo y.txt y.tl y.kc y.wc y.gs)) H := hP
        have hD : va_D A (wLR cc a b (x) (mkR y.self (apSeen x y o) y.wts y.ers y.kpt y.mgo y.txt y.tl y.kc y.wc y.gs)) := hD
        refine lv_aload_n hx hb dP_apply_59 rfl (lv_at hl 0 rfl) ?_
        refine lv_aload_n hx hb dP_apply_60 rfl (lv_at hl 0 rfl) ?_
        refine va_get (D := D) (ci := 1) (v := .int (nI (y.gs))) (C := RP) (T := TP) (N := 12) hx hb hts in_P hown hK hP 7 rfl rfl 11 (by decide) (hts _ wm_55) (fun _ h9 => h9) rfl dP_apply_61 ?_
        refine lv_aload_n hx hb dP_apply_64 rfl (lv_at hl 0 rfl) ?_
        refine va_get (D := D) (ci := 1) (v := .ref (a 0)) (C := RP) (T := TP) (N := 12) hx hb hts in_P hown hK hP 7 rfl rfl 1 (by decide) (hts _ wm_45) (fun _ h9 => h9) rfl dP_apply_65 ?_
        refine va_getN (D := D) (ci := 0) (v := .ref (a 2)) (C := RL) (T := TL) (N := 8) hx hb hts in_L hown hK hP 0 rfl rfl 1 (by decide) (hE.f nf_3) (fun _ h9 => h9) rfl dP_apply_68 ?_
        refine lv_iload_n hx hb dP_apply_71 rfl (lv_at hl 1 rfl) ?_
        refine r_iald (q0 := 2) (t0 := 0) hx hb hK hP rfl rfl (by omega) (by decide) dP_apply_72 ?_
        refine va_mmax hx hb (hml.trans hl.1.symm) hown (hts _ wm_120) (hts _ wm_121) (hts _ wm_5) (hts _ wm_122) (Nat.le_of_ble_eq_true rfl) (Nat.le_of_ble_eq_true rfl) (Nat.le_of_ble_eq_true rfl) (Nat.le_of_ble_eq_true rfl) dP_apply_73 ?_
        refine r_top (y := nI (max y.gs (x.stp o))) (nI_max (by have := kr.gs; omega) (ok.stp _)) ?_
        refine va_put (D := D) (ci := 1) (v := .int (nI (max y.gs (x.stp o)))) (ty := .int) (C := RP) (T := TP) (N := 12) hx hb hts in_P tyP tyP_ok nmP hown hK hP hD hS 7 rfl rfl 11 (by decide) (hts _ wm_55) (fun _ h9 => h9) rfl (by decide +kernel) rfl rfl (Nat.le_of_ble_eq_true rfl) dP_apply_76 (fun H locs hP hD hS => ?_)
        have hP : va_P D vwCl (wLR cc a b (x) (mkR y.self (apSeen x y o) y.wts y.ers y.kpt y.mgo y.txt y.tl y.kc y.wc (max y.gs (x.stp o)))) H := hP
        have hD : va_D A (wLR cc a b (x) (mkR y.self (apSeen x y o) y.wts y.ers y.kpt y.mgo y.txt y.tl y.kc y.wc (max y.gs (x.stp o)))) := hD
        refine lv_aload_n hx hb dP_apply_79 rfl (lv_at hl 0 rfl) ?_
        refine va_get (D := D) (ci := 1) (v := .ref (a 0)) (C := RP) (T := TP) (N := 12) hx hb hts in_P hown hK hP 7 rfl rfl 1 (by decide) (hts _ wm_45) (fun _ h9 => h9) rfl dP_apply_80 ?_
        refine lv_iload_n hx hb dP_apply_83 rfl (lv_at hl 1 rfl) ?_
        refine W.callR (W.runV (As := [.int (nI (o))]) (rest := []) S (kL_isErase D cc a x (o) (by omega) ok) (cwV 1 hts (gd_V wm_123 wm_124 wm_125 wm_2 wm_126) rfl rfl rfl (by decide +kernel) ⟨Nat.le_of_ble_eq_true rfl, Nat.le_of_ble_eq_true rfl⟩) (rd_preV (q0 := 0) (P_left hP) hE rfl rfl) rfl rfl hl.1 rfl (lv_room (Nat.le_of_ble_eq_true rfl)) dP_apply_84 ⟨Nat.le_of_ble_eq_true rfl, Nat.le_of_ble_eq_true rfl⟩) ?_
        refine W.eq (g2 := F0 m 87 ls [.int (bI (decide (x.chr (o) = 0)))]) rfl ?_
        refine r_eqB (tgt := 108) hx hb dP_apply_87 (by decide) (fun c_87 => ?_) (fun c_87 => ?_)
        · refine lv_aload_n hx hb dP_apply_108 rfl (lv_at hl 0 rfl) ?_
          refine va_get (D := D) (ci := 1) (v := .ref (b 7)) (C := RP) (T := TP) (N := 12) hx hb hts in_P hown hK hP 7 rfl rfl 5 (by decide) (hts _ wm_49) (fun _ h9 => h9) rfl dP_apply_109 ?_
          refine lv_iload_n hx hb dP_apply_112 rfl (lv_at hl 1 rfl) ?_
          refine lv_iconst (v := bI (true)) hx hb dP_apply_113 (by decide) ?_
          refine r_zast y.kpt (true) (q0 := 14) (t0 := 1) hx hb hK hP hD hS rfl rfl (by omega) (by decide) dP_apply_114 (fun H locs hP hD hS => ?_)
          have hP : va_P D vwCl (wLR cc a b (x) (mkR y.self (apSeen x y o) y.wts y.ers (va_up y.kpt o true) y.mgo y.txt y.tl y.kc y.wc (max y.gs (x.stp o)))) H := hP
          have hD : va_D A (wLR cc a b (x) (mkR y.self (apSeen x y o) y.wts y.ers (va_up y.kpt o true) y.mgo y.txt y.tl y.kc y.wc (max y.gs (x.stp o)))) := hD
          refine lv_aload_n hx hb dP_apply_115 rfl (lv_at hl 0 rfl) ?_
          refine lv_dup hx hb dP_apply_116 rfl ?_
          refine va_get (D := D) (ci := 1) (v := .int (nI (y.kc))) (C := RP) (T := TP) (N := 12) hx hb hts in_P hown hK hP 7 rfl rfl 9 (by decide) (hts _ wm_53) (fun _ h9 => h9) rfl dP_apply_117 ?_
          refine lv_iconst (v := nI (1)) hx hb dP_apply_120 (by decide) ?_
          refine r_add hx hb dP_apply_121 ?_
          refine va_put (D := D) (ci := 1) (v := .int (nI (y.kc + 1))) (ty := .int) (C := RP) (T := TP) (N := 12) hx hb hts in_P tyP tyP_ok nmP hown hK hP hD hS 7 rfl rfl 9 (by decide) (hts _ wm_53) (fun _ h9 => h9) rfl (by decide +kernel) rfl rfl (Nat.le_of_ble_eq_true rfl) dP_apply_122 (fun H locs hP hD hS => ?_)
          have hP : va_P D vwCl (wLR cc a b (x) (mkR y.self (apSeen x y o) y.wts y.ers (va_up y.kpt o true) y.mgo y.txt y.tl (y.kc + 1) y.wc (max y.gs (x.stp o)))) H := hP
          have hD : va_D A (wLR cc a b (x) (mkR y.self (apSeen x y o) y.wts y.ers (va_up y.kpt o true) y.mgo y.txt y.tl (y.kc + 1) y.wc (max y.gs (x.stp o)))) := hD
          exact kx _ _ _ _ (()) dP_apply_125 hS (by unfold applyR; first | (rw [if_pos (of_decide_eq_true c_87)]; exact hP) | (rw [if_neg (of_decide_eq_false c_87)]; exact hP)) (by unfold applyR; first | (rw [if_pos (of_decide_eq_true c_87)]; exact hD) | (rw [if_neg (of_decide_eq_false c_87)]; exact hD)) (trivial)
        · refine lv_aload_n hx hb dP_apply_90 rfl (lv_at hl 0 rfl) ?_
          refine va_get (D := D) (ci := 1) (v := .ref (b 6)) (C := RP) (T := TP) (N := 12) hx hb hts in_P hown hK hP 7 rfl rfl 4 (by decide) (hts _ wm_48) (fun _ h9 => h9) rfl dP_apply_91 ?_
          refine lv_aload_n hx hb dP_apply_94 rfl (lv_at hl 0 rfl) ?_
          refine va_get (D := D) (ci := 1) (v := .ref (a 0)) (C := RP) (T := TP) (N := 12) hx hb hts in_P hown hK hP 7 rfl rfl 1 (by decide) (hts _ wm_45) (fun _ h9 => h9) rfl dP_apply_95 ?_
          refine va_getN (D := D) (ci := 0) (v := .ref (a 3)) (C := RL) (T := TL) (N := 8) hx hb hts in_L hown hK hP 0 rfl rfl 2 (by decide) (hE.f nf_4) (fun _ h9 => h9) rfl dP_apply_98 ?_
          refine lv_iload_n hx hb dP_apply_101 rfl (lv_at hl 1 rfl) ?_
          refine r_iald (q0 := 3) (t0 := 0) hx hb hK hP rfl rfl (by omega) (by decide) dP_apply_102 ?_
          refine r_top (y := nI ((x.tgt o) - 1)) (sI_p (ht (of_decide_eq_true c_87))) ?_
          refine lv_iconst (v := bI (true)) hx hb dP_apply_103 (by decide) ?_
          refine r_zast y.ers (true) (q0 := 13) (t0 := 1) hx hb hK hP hD hS rfl rfl (by have := ok.tgt100 o; have := ht (of_decide_eq_true c_87); omega) (by decide) dP_apply_104 (fun H locs hP hD hS => ?_)
          have hP : va_P D vwCl (wLR cc a b (x) (mkR y.self (apSeen x y o) y.wts (va_up y.ers (x.tgt o - 1) true) y.kpt y.mgo y.txt y.tl y.kc y.wc (max y.gs (x.stp o)))) H := hP
          have hD : va_D A (wLR cc a b (x) (mkR y.self (apSeen x y o) y.wts (va_up y.ers (x.tgt o - 1) true) y.kpt y.mgo y.txt y.tl y.kc y.wc (max y.gs (x.stp o)))) := hD
          refine lv_goto (tgt := 125) hx hb dP_apply_105 (by decide) ?_
          exact kx _ _ _ _ (()) dP_apply_125 hS (by unfold applyR; first | (rw [if_pos (of_decide_eq_true c_87)]; exact hP) | (rw [if_neg (of_decide_eq_false c_87)]; exact hP)) (by unfold applyR; first | (rw [if_pos (of_decide_eq_true c_87)]; exact hD) | (rw [if_neg (of_decide_eq_false c_87)]; exact hD)) (trivial)
      · refine lv_aload_n hx hb dP_apply_17 rfl (lv_at hl 0 rfl) ?_
        refine va_get (D := D) (ci := 1) (v := .ref (b 1)) (C := RP) (T := TP) (N := 12) hx hb hts in_P hown hK hP 7 rfl rfl 2 (by decide) (hts _ wm_46) (fun _ h9 => h9) rfl dP_apply_18 ?_
        refine lv_iload_n hx hb dP_apply_21 rfl (lv_at hl 2 rfl) ?_
        refine r_aald (q0 := 8) (t0 := 3) (f := (fun j => b (2 + j))) hx hb hK hP rfl rfl (by omega) (by decide) dP_apply_22 ?_
        refine lv_iload_n hx hb dP_apply_23 rfl (lv_at hl 3 rfl) ?_
        refine lv_aload_n hx hb dP_apply_24 rfl (lv_at hl 0 rfl) ?_
        refine va_get (D := D) (ci := 1) (v := .ref (a 0)) (C := RP) (T := TP) (N := 12) hx hb hts in_P hown hK hP 7 rfl rfl 1 (by decide) (hts _ wm_45) (fun _ h9 => h9) rfl dP_apply_25 ?_
        refine lv_iload_n hx hb dP_apply_28 rfl (lv_at hl 1 rfl) ?_
        refine lv_iload_n hx hb dP_apply_29 rfl (lv_at hl 3 rfl) ?_
        refine W.callR (W.runV (As := [.int (nI (o)), .int (nI (j))]) (rest := [.int (nI (j)), .ref (b (2 + (x.iss o)))]) S (kL_clockOf D cc a x (o) (j) (by omega) (by omega) ok) (cwV 2 hts (gd_V wm_111 wm_112 wm_113 wm_2 wm_114) rfl rfl rfl (by decide +kernel) ⟨Nat.le_of_ble_eq_true rfl, Nat.le_of_ble_eq_true rfl⟩) (rd_preV (q0 := 0) (P_left hP) hE rfl rfl) rfl rfl hl.1 rfl (lv_room (Nat.le_of_ble_eq_true rfl)) dP_apply_30 ⟨Nat.le_of_ble_eq_true rfl, Nat.le_of_ble_eq_true rfl⟩) ?_
        refine W.eq (g2 := F0 m 33 ls [.int (nI (x.clk ((o) * 3 + (j)))), .int (nI (j)), .ref (b (2 + (x.iss o)))]) rfl ?_
        refine r_iast nI ((sU y.seen (x.iss o) (fun j => x.clk (o * 3 + j)) j) (x.iss o)) (x.clk ((o) * 3 + (j))) (q0 := 9 + (x.iss o)) (t0 := 0) hx hb hK hP hD hS (at_seen (by omega)) rfl (by omega) (by decide) dP_apply_33 (fun H locs hP hD hS => ?_)
        rw [set_seen (by omega)] at hP hD
        have hP : va_P D vwCl (wLR cc a b (x) (mkR y.self (sU y.seen (x.iss o) (fun j => x.clk (o * 3 + j)) (j + 1)) y.wts y.ers y.kpt y.mgo y.txt y.tl y.kc y.wc y.gs)) H := hP
        have hD : va_D A (wLR cc a b (x) (mkR y.self (sU y.seen (x.iss o) (fun j => x.clk (o * 3 + j)) (j + 1)) y.wts y.ers y.kpt y.mgo y.txt y.tl y.kc y.wc y.gs)) := hD
        refine lv_iinc (v := nI (j + 1)) (lv' := [(3, .int (nI (j + 1))), (0, .ref (b 0)), (1, .int (nI (o))), (2, .int (nI (x.iss o)))]) hx hb dP_apply_34 hl (k := 3) rfl (nI_1 _) (by decide) rfl (fun ls hl => ?_)
        refine lv_goto (tgt := 12) hx hb dP_apply_37 (by decide) ?_
        exact ih  (j + 1) H locs hP hD hS ls (by omega) (by omega) (lv_sub hl [1, 2, 3, 0] rfl)
  refine lv_aload_n hx hb dP_apply_0 rfl (lv_at hl 0 rfl) ?_
  refine va_get (D := D) (ci := 1) (v := .ref (a 0)) (C := RP) (T := TP) (N := 12) hx hb hts in_P hown hK hP 7 rfl rfl 1 (by decide) (hts _ wm_45) (fun _ h9 => h9) rfl dP_apply_1 ?_
  refine va_getN (D := D) (ci := 0) (v := .ref (a 1)) (C := RL) (T := TL) (N := 8) hx hb hts in_L hown hK hP 0 rfl rfl 0 (by decide) (hE.f nf_0) (fun _ h9 => h9) rfl dP_apply_4 ?_
  refine lv_iload_n hx hb dP_apply_7 rfl (lv_at hl 1 rfl) ?_
  refine r_iald (q0 := 1) (t0 := 0) hx hb hK hP rfl rfl (by omega) (by decide) dP_apply_8 ?_
  refine lv_istore_n (lv' := [(2, .int (nI (x.iss o))), (0, .ref (b 0)), (1, .int (nI (o)))]) hx hb dP_apply_9 rfl hl (by decide) rfl (fun ls hl => ?_)
  refine lv_iconst (v := nI (0)) hx hb dP_apply_10 (by decide) ?_
  refine lv_istore_n (lv' := [(3, .int (nI (0))), (2, .int (nI (x.iss o))), (0, .ref (b 0)), (1, .int (nI (o)))]) hx hb dP_apply_11 rfl hl (by decide) rfl (fun ls hl => ?_)
  exact L12 (4) (0) s.heap [] hP hD hS ls (by omega) (by omega) (lv_sub hl [2, 3, 1, 0] rfl)

def rmP_rewriteText : Room := { frames := 3, cells := 0, slots := 0, locals := 64 }
set_option maxHeartbeats 4000000 in
set_option maxRecDepth 100000 in
theorem kP_rewriteText {l : Launch} (D : va_G) (cc : Nat → ClassId) (a b : Nat → Nat) (x : LgS) (y : RpS) (sz : Nat) (ok : okL x) (kr : okR y) : Met l yP_rewriteText wsP_rewriteText rmP_rewriteText (va_Pc [.ref (b 0)] (WP D cc (wLR cc a b (x) (y)) sz)) (va_Qv (fun _ : Unit => True) (WQ D cc (va_A (wLR cc a b (x) (y)) sz) (fun _ : Unit => wLR cc a b x (rwR x y))) (va_A (wLR cc a b (x) (y)) sz)) 0 0 (va_A (wLR cc a b (x) (y)) sz) := by
  refine wr_metv RP [.ref (b 0)] D cc (wLR cc a b (x) (y)) sz (fun _ : Unit => wLR cc a b x (rwR x y)) _ (by decide) rfl rfl (Nat.le_of_ble_eq_true rfl) ?_
  intro p e s m args below meth c Q A S hP hE hD hA kx ls hl
  obtain ⟨hx, hb, hml, hown, hts⟩ := id S
  have hK := hE.1
  have hts := hE.ts args
  have S : CallFix p m c cP_rewriteText 3 s args wAll RP := ⟨hx, hb, hml, hown, hts⟩
  have hS : va_S A s.heap s.heap [] := va_S.rf
  have hn := ok.n
  have he := ok.e
  have hself := kr.self
  have htl := kr.tl
  have hl : lv_has ls 3 [(0, .ref (b 0))] := hl
  have L7 : ∀ (n : Nat) (i : Nat) (H : Heap) (locs : List Loc) (hP : va_P D vwCl (wLR cc a b (x) (mkR y.self y.seen y.wts y.ers y.kpt y.mgo ((rwF x y i).2) ((rwF x y i).1) y.kc y.wc y.gs)) H) (hD : va_D A (wLR cc a b (x) (mkR y.self y.seen y.wts y.ers y.kpt y.mgo ((rwF x y i).2) ((rwF x y i).1) y.kc y.wc y.gs))) (hS : va_S A s.heap H locs) (ls : Array Slot) (h1 : i ≤ x.el) (h2 : x.el - i < n), lv_has ls 3 [(0, .ref (b 0)), (1, .int (nI (i)))] → W p l e rmP_rewriteText s m args below meth c H locs 0 0 Q (F0 m 7 ls []) := by
    intro n
    induction n with
    | zero => intro i H locs hP hD hS ls h1 h2 hl; exact absurd h2 (Nat.not_lt_zero _)
    | succ n ih =>
      intro i H locs hP hD hS ls h1 h2 hl
      have kr2 : okR (mkR y.self y.seen y.wts y.ers y.kpt y.mgo ((rwF x y i).2) ((rwF x y i).1) y.kc y.wc y.gs) := okR_mk kr.self (by have := rwF_le x y i; omega) kr.kc kr.wc kr.gs kr.seen3 (rwF_lt ok kr i)
      refine lv_iload_n hx hb dP_rewriteText_7 rfl (lv_at hl 1 rfl) ?_
      refine lv_aload_n hx hb dP_rewriteText_8 rfl (lv_at hl 0 rfl) ?_
      refine va_get (D := D) (ci := 1) (v := .ref (a 0)) (C := RP) (T := TP) (N := 12) hx hb hts in_P hown hK hP 7 rfl rfl 1 (by decide) (hts _ wm_45) (fun _ h9 => h9) rfl dP_rewriteText_9 ?_
      refine va_getN (D := D) (ci := 0) (v := .int (nI (x.el))) (C := RL) (T := TL) (N := 8) hx hb hts in_L hown hK hP 0 rfl rfl 7 (by decide) (hE.f nf_10) (fun _ h9 => h9) rfl dP_rewriteText_12 ?_
      refine r_ge (by omega) (Nat.lt_of_le_of_lt ok.e (by decide)) (tgt := 71) hx hb dP_rewriteText_15 (by decide) (fun c_15 => ?_) (fun c_15 => ?_)
      · obtain rfl : i = x.el := by omega
        exact kx _ _ _ _ (()) dP_rewriteText_71 hS hP hD (trivial)
      · refine lv_aload_n hx hb dP_rewriteText_18 rfl (lv_at hl 0 rfl) ?_
        refine va_get (D := D) (ci := 1) (v := .ref (a 0)) (C := RP) (T := TP) (N := 12) hx hb hts in_P hown hK hP 7 rfl rfl 1 (by decide) (hts _ wm_45) (fun _ h9 => h9) rfl dP_rewriteText_19 ?_
        refine va_getN (D := D) (ci := 0) (v := .ref (a 6)) (C := RL) (T := TL) (N := 8) hx hb hts in_L hown hK hP 0 rfl rfl 5 (by decide) (hE.f nf_7) (fun _ h9 => h9) rfl dP_rewriteText_22 ?_
        refine lv_iload_n hx hb dP_rewriteText_25 rfl (lv_at hl 1 rfl) ?_
        refine r_iald (q0 := 6) (t0 := 0) hx hb hK hP rfl rfl (by omega) (by decide) dP_rewriteText_26 ?_
        refine lv_istore_n (lv' := [(2, .int (nI (x.ord i))), (0, .ref (b 0)), (1, .int (nI (i)))]) hx hb dP_rewriteText_27 rfl hl (by decide) rfl (fun ls hl => ?_)
        refine lv_aload_n hx hb dP_rewriteText_28 rfl (lv_at hl 1 rfl) ?_
        refine lv_iload_n hx hb dP_rewriteText_29 rfl (lv_at hl 0 rfl) ?_
        refine W.callR (W.runV (As := [.int (nI (x.ord i))]) (rest := []) S (kP_hasApplied D cc a b x (mkR y.self y.seen y.wts y.ers y.kpt y.mgo ((rwF x y i).2) ((rwF x y i).1) y.kc y.wc y.gs) (x.ord i) (ok.ord100 _) ok kr2) (cwV 1 hts (gd_V wm_130 wm_131 wm_132 wm_3 wm_133) rfl rfl rfl (by decide +kernel) ⟨Nat.le_of_ble_eq_true rfl, Nat.le_of_ble_eq_true rfl⟩) (rd_preV (q0 := 7) hP hE rfl rfl) rfl rfl hl.1 rfl (lv_room (Nat.le_of_ble_eq_true rfl)) dP_rewriteText_30 ⟨Nat.le_of_ble_eq_true rfl, Nat.le_of_ble_eq_true rfl⟩) ?_
        refine W.eq (g2 := F0 m 33 ls [.int (bI (hasL x (mkR y.self y.seen y.wts y.ers y.kpt y.mgo ((rwF x y i).2) ((rwF x y i).1) y.kc y.wc y.gs) (x.ord i)))]) rfl ?_
        refine r_top (y := bI (hasL x y (x.ord i))) rfl ?_
        refine r_eqB (tgt := 65) hx hb dP_rewriteText_33 (by decide) (fun c_33 => ?_) (fun c_33 => ?_)
        · refine lv_iinc (v := nI (i + 1)) (lv' := [(1, .int (nI (i + 1))), (2, .int (nI (x.ord i))), (0, .ref (b 0))]) hx hb dP_rewriteText_65 hl (k := 2) rfl (nI_1 _) (by decide) rfl (fun ls hl => ?_)
          refine lv_goto (tgt := 7) hx hb dP_rewriteText_68 (by decide) ?_
          have hP : va_P D vwCl (wLR cc a b x (mkR y.self y.seen y.wts y.ers y.kpt y.mgo ((rwF x y (i + 1)).2) ((rwF x y (i + 1)).1) y.kc y.wc y.gs)) H := by first | (rw [rwF_t (x := x) (y := y) (i := i) c_33 c_42]; exact hP) | (rw [rwF_f1 (x := x) (y := y) (i := i) c_33]; exact hP) | (rw [rwF_f2 (x := x) (y := y) (i := i) c_42]; exact hP)
          have hD : va_D A (wLR cc a b x (mkR y.self y.seen y.wts y.ers y.kpt y.mgo ((rwF x y (i + 1)).2) ((rwF x y (i + 1)).1) y.kc y.wc y.gs)) := by first | (rw [rwF_t (x := x) (y := y) (i := i) c_33 c_42]; exact hD) | (rw [rwF_f1 (x := x) (y := y) (i := i) c_33]; exact hD) | (rw [rwF_f2 (x := x) (y := y) (i := i) c_42]; exact hD)
          exact ih  (i + 1) H locs hP hD hS ls (by omega) (by omega) (lv_sub hl [2, 0] rfl)
        · refine lv_aload_n hx hb dP_rewriteText_36 rfl (lv_at hl 1 rfl) ?_
          refine va_get (D := D) (ci := 1) (v := .ref (b 6)) (C := RP) (T := TP) (N := 12) hx hb hts in_P hown hK hP 7 rfl rfl 4 (by decide) (hts _ wm_48) (fun _ h9 => h9) rfl dP_rewriteText_37 ?_
          refine lv_iload_n hx hb dP_rewriteText_40 rfl (lv_at hl 0 rfl) ?_
          refine r_zald (q0 := 13) (t0 := 1) hx hb hK hP rfl rfl (ok.ord100 _) (by decide) dP_rewriteText_41 ?_
          refine r_neB (tgt := 65) hx hb dP_rewriteText_42 (by decide) (fun c_42 => ?_) (fun c_42 => ?_)
          · refine lv_iinc (v := nI (i + 1)) (lv' := [(1, .int (nI (i + 1))), (2, .int (nI (x.ord i))), (0, .ref (b 0))]) hx hb dP_rewriteText_65 hl (k := 2) rfl (nI_1 _) (by decide) rfl (fun ls hl => ?_)
            refine lv_goto (tgt := 7) hx hb dP_rewriteText_68 (by decide) ?_
            have hP : va_P D vwCl (wLR cc a b x (mkR y.self y.seen y.wts y.ers y.kpt y.mgo ((rwF x y (i + 1)).2) ((rwF x y (i + 1)).1) y.kc y.wc y.gs)) H := by first | (rw [rwF_t (x := x) (y := y) (i := i) c_33 c_42]; exact hP) | (rw [rwF_f1 (x := x) (y := y) (i := i) c_33]; exact hP) | (rw [rwF_f2 (x := x) (y := y) (i := i) c_42]; exact hP)
            have hD : va_D A (wLR cc a b x (mkR y.self y.seen y.wts y.ers y.kpt y.mgo ((rwF x y (i + 1)).2) ((rwF x y (i + 1)).1) y.kc y.wc y.gs)) := by first | (rw [rwF_t (x := x) (y := y) (i := i) c_33 c_42]; exact hD) | (rw [rwF_f1 (x := x) (y := y) (i := i) c_33]; exact hD) | (rw [rwF_f2 (x := x) (y := y) (i := i) c_42]; exact hD)
            exact ih  (i + 1) H locs hP hD hS ls (by omega) (by omega) (lv_sub hl [2, 0] rfl)
          · refine lv_aload_n hx hb dP_rewriteText_45 rfl (lv_at hl 1 rfl) ?_
            refine va_get (D := D) (ci := 1) (v := .ref (b 9)) (C := RP) (T := TP) (N := 12) hx hb hts in_P hown hK hP 7 rfl rfl 7 (by decide) (hts _ wm_51) (fun _ h9 => h9) rfl dP_rewriteText_46 ?_
            refine lv_aload_n hx hb dP_rewriteText_49 rfl (lv_at hl 1 rfl) ?_
            refine va_get (D := D) (ci := 1) (v := .int (nI ((rwF x y i).1))) (C := RP) (T := TP) (N := 12) hx hb hts in_P hown hK hP 7 rfl rfl 8 (by decide) (hts _ wm_52) (fun _ h9 => h9) rfl dP_rewriteText_50 ?_
            refine lv_iload_n hx hb dP_rewriteText_53 rfl (lv_at hl 0 rfl) ?_
            refine r_iast nI (((rwF x y i).2)) (x.ord i) (q0 := 16) (t0 := 0) hx hb hK hP hD hS rfl rfl (by have := rwF_le x y i; omega) (by decide) dP_rewriteText_54 (fun H locs hP hD hS => ?_)
            have hP : va_P D vwCl (wLR cc a b (x) (mkR y.self y.seen y.wts y.ers y.kpt y.mgo (va_up (rwF x y i).2 (rwF x y i).1 (x.ord i)) ((rwF x y i).1) y.kc y.wc y.gs)) H := hP
            have hD : va_D A (wLR cc a b (x) (mkR y.self y.seen y.wts y.ers y.kpt y.mgo (va_up (rwF x y i).2 (rwF x y i).1 (x.ord i)) ((rwF x y i).1) y.kc y.wc y.gs)) := hD
            refine lv_aload_n hx hb dP_rewriteText_55 rfl (lv_at hl 1 rfl) ?_
            refine lv_dup hx hb dP_rewriteText_56 rfl ?_
            refine va_get (D := D) (ci := 1) (v := .int (nI ((rwF x y i).1))) (C := RP) (T := TP) (N := 12) hx hb hts in_P hown hK hP 7 rfl rfl 8 (by decide) (hts _ wm_52) (fun _ h9 => h9) rfl dP_rewriteText_57 ?_
            refine lv_iconst (v := nI (1)) hx hb dP_rewriteText_60 (by decide) ?_
            refine r_add hx hb dP_rewriteText_61 ?_
            refine va_put (D := D) (ci := 1) (v := .int (nI (((rwF x y i).1) + 1))) (ty := .int) (C := RP) (T := TP) (N := 12) hx hb hts in_P tyP tyP_ok nmP hown hK hP hD hS 7 rfl rfl 8 (by decide) (hts _ wm_52) (fun _ h9 => h9) rfl (by decide +kernel) rfl rfl (Nat.le_of_ble_eq_true rfl) dP_rewriteText_62 (fun H locs hP hD hS => ?_)
            have hP : va_P D vwCl (wLR cc a b (x) (mkR y.self y.seen y.wts y.ers y.kpt y.mgo (va_up (rwF x y i).2 (rwF x y i).1 (x.ord i)) ((rwF x y i).1 + 1) y.kc y.wc y.gs)) H := hP
            have hD : va_D A (wLR cc a b (x) (mkR y.self y.seen y.wts y.ers y.kpt y.mgo (va_up (rwF x y i).2 (rwF x y i).1 (x.ord i)) ((rwF x y i).1 + 1) y.kc y.wc y.gs)) := hD
            refine lv_iinc (v := nI (i + 1)) (lv' := [(1, .int (nI (i + 1))), (2, .int (nI (x.ord i))), (0, .ref (b 0))]) hx hb dP_rewriteText_65 hl (k := 2) rfl (nI_1 _) (by decide) rfl (fun ls hl => ?_)
            refine lv_goto (tgt := 7) hx hb dP_rewriteText_68 (by decide) ?_
            have hP : va_P D vwCl (wLR cc a b x (mkR y.self y.seen y.wts y.ers y.kpt y.mgo ((rwF x y (i + 1)).2) ((rwF x y (i + 1)).1) y.kc y.wc y.gs)) H := by first | (rw [rwF_t (x := x) (y := y) (i := i) c_33 c_42]; exact hP) | (rw [rwF_f1 (x := x) (y := y) (i := i) c_33]; exact hP) | (rw [rwF_f2 (x := x) (y := y) (i := i) c_42]; exact hP)
            have hD : va_D A (wLR cc a b x (mkR y.self y.seen y.wts y.ers y.kpt y.mgo ((rwF x y (i + 1)).2) ((rwF x y (i + 1)).1) y.kc y.wc y.gs)) := by first | (rw [rwF_t (x := x) (y := y) (i := i) c_33 c_42]; exact hD) | (rw [rwF_f1 (x := x) (y := y) (i := i) c_33]; exact hD) | (rw [rwF_f2 (x := x) (y := y) (i := i) c_42]; exact hD)
            exact ih  (i + 1) H locs hP hD hS ls (by omega) (by omega) (lv_sub hl [2, 0] rfl)
  refine lv_aload_n hx hb dP_rewriteText_0 rfl (lv_at hl 0 rfl) ?_
  refine lv_iconst (v := nI (0)) hx hb dP_rewriteText_1 (by decide) ?_
  refine va_put (D := D) (ci := 1) (v := .int (nI (0))) (ty := .int) (C := RP) (T := TP) (N := 12) hx hb hts in_P tyP tyP_ok nmP hown hK hP hD hS 7 rfl rfl 8 (by decide) (hts _ wm_52) (fun _ h9 => h9) rfl (by decide +kernel) rfl rfl (Nat.le_of_ble_eq_true rfl) dP_rewriteText_2 (fun H locs hP hD hS => ?_)
  have hP : va_P D vwCl (wLR cc a b (x) (mkR y.self y.seen y.wts y.ers y.kpt y.mgo y.txt 0 y.kc y.wc y.gs)) H := hP
  have hD : va_D A (wLR cc a b (x) (mkR y.self y.seen y.wts y.ers y.kpt y.mgo y.txt 0 y.kc y.wc y.gs)) := hD
  refine lv_iconst (v := nI (0)) hx hb dP_rewriteText_5 (by decide) ?_
  refine lv_istore_n (lv' := [(1, .int (nI (0))), (0, .ref (b 0))]) hx hb dP_rewriteText_6 rfl hl (by decide) rfl (fun ls hl => ?_)
  exact L7 (x.el + 1) (0) H locs hP hD hS ls (by omega) (by omega) (lv_sub hl [1, 0] rfl)

def rmP_receive : Room := { frames := 3, cells := 0, slots := 0, locals := 64 }
set_option maxHeartbeats 4000000 in
set_option maxRecDepth 100000 in
theorem kP_receive {l : Launch} (D : va_G) (cc : Nat → ClassId) (a b : Nat → Nat) (x : LgS) (y : RpS) (sz : Nat) (o : Nat) (ho : o < 100) (ok : okL x) (kr : okR y) : Met l yP_receive wsP_receive rmP_receive (va_Pc [.ref (b 0), .int (nI (o))] (WP D cc (wLR cc a b (x) (y)) sz)) (va_Qv (fun _ : Unit => True) (WQ D cc (va_A (wLR cc a b (x) (y)) sz) (fun _ : Unit => wLR cc a b x (rcvR x y o))) (va_A (wLR cc a b (x) (y)) sz)) 0 0 (va_A (wLR cc a b (x) (y)) sz) := by
  refine wr_metv RP [.ref (b 0), .int (nI (o))] D cc (wLR cc a b (x) (y)) sz (fun _ : Unit => wLR cc a b x (rcvR x y o)) _ (by decide) rfl rfl (Nat.le_of_ble_eq_true rfl) ?_
  intro p e s m args below meth c Q A S hP hE hD hA kx ls hl
  obtain ⟨hx, hb, hml, hown, hts⟩ := id S
  have hK := hE.1
  have hts := hE.ts args
  have S : CallFix p m c cP_receive 2 s args wAll RP := ⟨hx, hb, hml, hown, hts⟩
  have hS : va_S A s.heap s.heap [] := va_S.rf
  have hn := ok.n
  have he := ok.e
  have hself := kr.self
  have htl := kr.tl
  have hl : lv_has ls 2 [(0, .ref (b 0)), (1, .int (nI (o)))] := hl
  refine lv_aload_n hx hb dP_receive_0 rfl (lv_at hl 0 rfl) ?_
  refine lv_iload_n hx hb dP_receive_1 rfl (lv_at hl 1 rfl) ?_
  refine W.callR (W.runV (As := [.int (nI (o))]) (rest := []) S (kP_hasApplied D cc a b x y (o) (by omega) ok kr) (cwV 1 hts (gd_V wm_130 wm_131 wm_132 wm_3 wm_133) rfl rfl rfl (by decide +kernel) ⟨Nat.le_of_ble_eq_true rfl, Nat.le_of_ble_eq_true rfl⟩) (rd_preV (q0 := 7) hP hE rfl rfl) rfl rfl hl.1 rfl (lv_room (Nat.le_of_ble_eq_true rfl)) dP_receive_2 ⟨Nat.le_of_ble_eq_true rfl, Nat.le_of_ble_eq_true rfl⟩) ?_
  refine W.eq (g2 := F0 m 5 ls [.int (bI (hasL x y (o)))]) rfl ?_
  refine r_neB (tgt := 34) hx hb dP_receive_5 (by decide) (fun c_5 => ?_) (fun c_5 => ?_)
  · exact kx _ _ _ _ (()) dP_receive_34 hS (by unfold rcvR; first | (rw [if_pos ⟨c_5, c_14⟩]; exact hP) | (rw [if_neg (show ¬ (hasL x y o = false ∧ y.wts o = false) from fun q => Bool.noConfusion (c_5.symm.trans q.1))]; exact hP) | (rw [if_neg (show ¬ (hasL x y o = false ∧ y.wts o = false) from fun q => Bool.noConfusion (c_14.symm.trans q.2))]; exact hP)) (by unfold rcvR; first | (rw [if_pos ⟨c_5, c_14⟩]; exact hD) | (rw [if_neg (show ¬ (hasL x y o = false ∧ y.wts o = false) from fun q => Bool.noConfusion (c_5.symm.trans q.1))]; exact hD) | (rw [if_neg (show ¬ (hasL x y o = false ∧ y.wts o = false) from fun q => Bool.noConfusion (c_14.symm.trans q.2))]; exact hD)) (trivial)
  · refine lv_aload_n hx hb dP_receive_8 rfl (lv_at hl 0 rfl) ?_
    refine va_get (D := D) (ci := 1) (v := .ref (b 5)) (C := RP) (T := TP) (N := 12) hx hb hts in_P hown hK hP 7 rfl rfl 3 (by decide) (hts _ wm_47) (fun _ h9 => h9) rfl dP_receive_9 ?_
    refine lv_iload_n hx hb dP_receive_12 rfl (lv_at hl 1 rfl) ?_
    refine r_zald (q0 := 12) (t0 := 1) hx hb hK hP rfl rfl (by omega) (by decide) dP_receive_13 ?_
    refine r_neB (tgt := 34) hx hb dP_receive_14 (by decide) (fun c_14 => ?_) (fun c_14 => ?_)
    · exact kx _ _ _ _ (()) dP_receive_34 hS (by unfold rcvR; first | (rw [if_pos ⟨c_5, c_14⟩]; exact hP) | (rw [if_neg (show ¬ (hasL x y o = false ∧ y.wts o = false) from fun q => Bool.noConfusion (c_5.symm.trans q.1))]; exact hP) | (rw [if_neg (show ¬ (hasL x y o = false ∧ y.wts o = false) from fun q => Bool.noConfusion (c_14.symm.trans q.2))]; exact hP)) (by unfold rcvR; first | (rw [if_pos ⟨c_5, c_14⟩]; exact hD) | (rw [if_neg (show ¬ (hasL x y o = false ∧ y.wts o = false) from fun q => Bool.noConfusion (c_5.symm.trans q.1))]; exact hD) | (rw [if_neg (show ¬ (hasL x y o = false ∧ y.wts o = false) from fun q => Bool.noConfusion (c_14.symm.trans q.2))]; exact hD)) (trivial)
    · refine lv_aload_n hx hb dP_receive_17 rfl (lv_at hl 0 rfl) ?_
      refine va_get (D := D) (ci := 1) (v := .ref (b 5)) (C := RP) (T := TP) (N := 12) hx hb hts in_P hown hK hP 7 rfl rfl 3 (by decide) (hts _ wm_47) (fun _ h9 => h9) rfl dP_receive_18 ?_
      refine lv_iload_n hx hb dP_receive_21 rfl (lv_at hl 1 rfl) ?_
      refine lv_iconst (v := bI (true)) hx hb dP_receive_22 (by decide) ?_
      refine r_zast y.wts (true) (q0 := 12) (t0 := 1) hx hb hK hP hD hS rfl rfl (by omega) (by decide) dP_receive_23 (fun H locs hP hD hS => ?_)
      have hP : va_P D vwCl (wLR cc a b (x) (mkR y.self y.seen (va_up y.wts o true) y.ers y.kpt y.mgo y.txt y.tl y.kc y.wc y.gs)) H := hP
      have hD : va_D A (wLR cc a b (x) (mkR y.self y.seen (va_up y.wts o true) y.ers y.kpt y.mgo y.txt y.tl y.kc y.wc y.gs)) := hD
      refine lv_aload_n hx hb dP_receive_24 rfl (lv_at hl 0 rfl) ?_
      refine lv_dup hx hb dP_receive_25 rfl ?_
      refine va_get (D := D) (ci := 1) (v := .int (nI (y.wc))) (C := RP) (T := TP) (N := 12) hx hb hts in_P hown hK hP 7 rfl rfl 10 (by decide) (hts _ wm_54) (fun _ h9 => h9) rfl dP_receive_26 ?_
      refine lv_iconst (v := nI (1)) hx hb dP_receive_29 (by decide) ?_
      refine r_add hx hb dP_receive_30 ?_
      refine va_put (D := D) (ci := 1) (v := .int (nI (y.wc + 1))) (ty := .int) (C := RP) (T := TP) (N := 12) hx hb hts in_P tyP tyP_ok nmP hown hK hP hD hS 7 rfl rfl 10 (by decide) (hts _ wm_54) (fun _ h9 => h9) rfl (by decide +kernel) rfl rfl (Nat.le_of_ble_eq_true rfl) dP_receive_31 (fun H locs hP hD hS => ?_)
      have hP : va_P D vwCl (wLR cc a b (x) (mkR y.self y.seen (va_up y.wts o true) y.ers y.kpt y.mgo y.txt y.tl y.kc (y.wc + 1) y.gs)) H := hP
      have hD : va_D A (wLR cc a b (x) (mkR y.self y.seen (va_up y.wts o true) y.ers y.kpt y.mgo y.txt y.tl y.kc (y.wc + 1) y.gs)) := hD
      exact kx _ _ _ _ (()) dP_receive_34 hS (by unfold rcvR; first | (rw [if_pos ⟨c_5, c_14⟩]; exact hP) | (rw [if_neg (show ¬ (hasL x y o = false ∧ y.wts o = false) from fun q => Bool.noConfusion (c_5.symm.trans q.1))]; exact hP) | (rw [if_neg (show ¬ (hasL x y o = false ∧ y.wts o = false) from fun q => Bool.noConfusion (c_14.symm.trans q.2))]; exact hP)) (by unfold rcvR; first | (rw [if_pos ⟨c_5, c_14⟩]; exact hD) | (rw [if_neg (show ¬ (hasL x y o = false ∧ y.wts o = false) from fun q => Bool.noConfusion (c_5.symm.trans q.1))]; exact hD) | (rw [if_neg (show ¬ (hasL x y o = false ∧ y.wts o = false) from fun q => Bool.noConfusion (c_14.symm.trans q.2))]; exact hD)) (trivial)
