def rmM_issue : Room := { frames := 2, cells := 0, slots := 0, locals := 46 }
set_option maxHeartbeats 4000000 in
set_option maxRecDepth 100000 in
theorem kM_issue {l : Launch} (D : va_G) (cc : Nat → ClassId) (q : Nat → Nat) (x : MS) (sz : Nat) (r ch t : Nat) (hr : r < 3) (hch : ch < 65536) (ht : t ≤ 100) (hnn : x.nn < 100) (hg : gstM x r x.nn < 999) (ok : okM x) : Met l yM_issue wsM_issue rmM_issue (va_Pc [.ref (q 0), .int (nI (r)), .int (nI (ch)), .int (sI (t))] (WP D cc (wM cc q x) sz)) (va_Qi (fun v (_ : Unit) => v = nI x.nn) (WQ D cc (va_A (wM cc q x) sz) (fun _ : Unit => wM cc q (issM x r ch t))) (va_A (wM cc q x) sz)) 0 0 (va_A (wM cc q x) sz) := by
  refine wr_meti RM [.ref (q 0), .int (nI (r)), .int (nI (ch)), .int (sI (t))] D cc (wM cc q x) sz (fun _ : Unit => wM cc q (issM x r ch t)) _ (by decide) rfl rfl (Nat.le_of_ble_eq_true rfl) (fun v _ _ => vp_nar_int v) ?_
  intro p e s m args below meth c Q A S hP hE hD hA kx ls hl
  obtain ⟨hx, hb, hml, hown, hts⟩ := id S
  have hK := hE.1
  have hts := hE.ts args
  have S : CallFix p m c cM_issue 7 s args wAll RM := ⟨hx, hb, hml, hown, hts⟩
  have hS : va_S A s.heap s.heap [] := va_S.rf
  have hn := ok.n
  have hl : lv_has ls 7 [(0, .ref (q 0)), (1, .int (nI (r))), (2, .int (nI (ch))), (3, .int (sI (t)))] := hl
  have L137 : ∀ (n : Nat) (j : Nat) (H : Heap) (locs : List Loc) (hP : va_P D vwCl (wM cc q (mkM (x.nn + 1) (va_up x.by_ x.nn r) (va_up x.line x.nn (cntF (va_up x.by_ x.nn r) x.app r r x.nn + 1)) (va_up x.stp x.nn (gstM x r x.nn + 1)) (va_up x.let_ x.nn ch) (va_up x.oth x.nn t) (clkU x.clk x.nn (fun j => cntF (va_up x.by_ x.nn r) (va_up x.app (100 * r + x.nn) true) r j (x.nn + 1)) j) (va_up x.app (100 * r + x.nn) true) x.wts x.gon x.len x.txt x.spr)) H) (hD : va_D A (wM cc q (mkM (x.nn + 1) (va_up x.by_ x.nn r) (va_up x.line x.nn (cntF (va_up x.by_ x.nn r) x.app r r x.nn + 1)) (va_up x.stp x.nn (gstM x r x.nn + 1)) (va_up x.let_ x.nn ch) (va_up x.oth x.nn t) (clkU x.clk x.nn (fun j => cntF (va_up x.by_ x.nn r) (va_up x.app (100 * r + x.nn) true) r j (x.nn + 1)) j) (va_up x.app (100 * r + x.nn) true) x.wts x.gon x.len x.txt x.spr))) (hS : va_S A s.heap H locs) (ls : Array Slot) (h1 : j ≤ 3) (h2 : 3 - j < n), lv_has ls 7 [(0, .ref (q 0)), (1, .int (nI (r))), (2, .int (nI (ch))), (3, .int (sI (t))), (4, .int (nI (x.nn))), (6, .int (nI (j)))] → W p l e rmM_issue s m args below meth c H locs 0 0 Q (F0 m 137 ls []) := by
    intro n
    induction n with
    | zero => intro j H locs hP hD hS ls h1 h2 hl; exact absurd h2 (Nat.not_lt_zero _)
    | succ n ih2 =>
      intro j H locs hP hD hS ls h1 h2 hl
      have ok8 := (show okM (mkM (x.nn + 1) (va_up x.by_ x.nn r) (va_up x.line x.nn (cntF (va_up x.by_ x.nn r) x.app r r x.nn + 1)) (va_up x.stp x.nn (gstM x r x.nn + 1)) (va_up x.let_ x.nn ch) (va_up x.oth x.nn t) (clkU x.clk x.nn (fun j => cntF (va_up x.by_ x.nn r) (va_up x.app (100 * r + x.nn) true) r j (x.nn + 1)) j) (va_up x.app (100 * r + x.nn) true) x.wts x.gon x.len x.txt x.spr) from okM_mk (by omega) ok.len (up_lt ok.by3 hr) (up_lt ok.line3 (by have := cntF_le (va_up x.by_ x.nn r) x.app r r x.nn; omega)) (up_lt ok.stp3 (by omega)) (up_lt ok.let5 hch) (up_le ok.oth100 ht) (clkU_lt ok.clk3 (fun j => by have := cntF_le (va_up x.by_ x.nn r) (va_up x.app (100 * r + x.nn) true) r j (x.nn + 1); omega) j) ok.txt100 ok.spr5)
      refine lv_iload hx hb dM_issue_137 (lv_at hl 5 rfl) ?_
      refine lv_iconst (v := nI (3)) hx hb dM_issue_139 (by decide) ?_
      refine r_ge (by omega) (by decide) (tgt := 168) hx hb dM_issue_140 (by decide) (fun c_140 => ?_) (fun c_140 => ?_)
      · refine lv_iload hx hb dM_issue_168 (lv_at hl 4 rfl) ?_
        obtain rfl : j = 3 := by omega
        exact kx _ _ _ _ _ () dM_issue_170 hS hP hD rfl
      · refine lv_aload_n hx hb dM_issue_143 rfl (lv_at hl 0 rfl) ?_
        refine va_get (D := D) (ci := 3) (v := .ref (q 6)) (C := RM) (T := TM) (N := 13) hx hb hts in_M hown hK hP 0 rfl rfl 6 (by decide) (hts _ wm_249) (fun _ h9 => h9) rfl dM_issue_144 ?_
        refine lv_iconst (v := nI (3)) hx hb dM_issue_147 (by decide) ?_
        refine lv_iload hx hb dM_issue_148 (lv_at hl 4 rfl) ?_
        refine r_mul hx hb dM_issue_150 ?_
        refine lv_iload hx hb dM_issue_151 (lv_at hl 5 rfl) ?_
        refine r_add hx hb dM_issue_153 ?_
        refine lv_aload_n hx hb dM_issue_154 rfl (lv_at hl 0 rfl) ?_
        refine lv_iload_n hx hb dM_issue_155 rfl (lv_at hl 1 rfl) ?_
        refine lv_iload hx hb dM_issue_156 (lv_at hl 5 rfl) ?_
        refine W.callR (W.runV (As := [.int (nI (r)), .int (nI (j))]) (rest := [.int (nI ((3 * x.nn) + j)), .ref (q 6)]) S (kM_count D cc q (mkM (x.nn + 1) (va_up x.by_ x.nn r) (va_up x.line x.nn (cntF (va_up x.by_ x.nn r) x.app r r x.nn + 1)) (va_up x.stp x.nn (gstM x r x.nn + 1)) (va_up x.let_ x.nn ch) (va_up x.oth x.nn t) (clkU x.clk x.nn (fun j => cntF (va_up x.by_ x.nn r) (va_up x.app (100 * r + x.nn) true) r j (x.nn + 1)) j) (va_up x.app (100 * r + x.nn) true) x.wts x.gon x.len x.txt x.spr) (r) (j) (by omega) (by omega) ok8) (cwV 2 hts (gd_V wm_297 wm_298 wm_386 wm_4 wm_299) rfl rfl rfl (by decide +kernel) ⟨Nat.le_of_ble_eq_true rfl, Nat.le_of_ble_eq_true rfl⟩) (rd_preV (q0 := 0) hP hE rfl rfl) rfl rfl hl.1 rfl (lv_room (Nat.le_of_ble_eq_true rfl)) dM_issue_158 ⟨Nat.le_of_ble_eq_true rfl, Nat.le_of_ble_eq_true rfl⟩) ?_
        refine W.eq (g2 := F0 m 161 ls [.int (nI (cntM (mkM (x.nn + 1) (va_up x.by_ x.nn r) (va_up x.line x.nn (cntF (va_up x.by_ x.nn r) x.app r r x.nn + 1)) (va_up x.stp x.nn (gstM x r x.nn + 1)) (va_up x.let_ x.nn ch) (va_up x.oth x.nn t) (clkU x.clk x.nn (fun j => cntF (va_up x.by_ x.nn r) (va_up x.app (100 * r + x.nn) true) r j (x.nn + 1)) j) (va_up x.app (100 * r + x.nn) true) x.wts x.gon x.len x.txt x.spr) (r) (j) (mkM (x.nn + 1) (va_up x.by_ x.nn r) (va_up x.line x.nn (cntF (va_up x.by_ x.nn r) x.app r r x.nn + 1)) (va_up x.stp x.nn (gstM x r x.nn + 1)) (va_up x.let_ x.nn ch) (va_up x.oth x.nn t) (clkU x.clk x.nn (fun j => cntF (va_up x.by_ x.nn r) (va_up x.app (100 * r + x.nn) true) r j (x.nn + 1)) j) (va_up x.app (100 * r + x.nn) true) x.wts x.gon x.len x.txt x.spr).nn)), .int (nI ((3 * x.nn) + j)), .ref (q 6)]) rfl ?_
        refine r_top (y := nI (cntF (va_up x.by_ x.nn r) (va_up x.app (100 * r + x.nn) true) r j (x.nn + 1))) rfl ?_
        refine r_iast nI ((clkU x.clk x.nn (fun j => cntF (va_up x.by_ x.nn r) (va_up x.app (100 * r + x.nn) true) r j (x.nn + 1)) j)) (cntF (va_up x.by_ x.nn r) (va_up x.app (100 * r + x.nn) true) r j (x.nn + 1)) (q0 := 6) (t0 := 0) hx hb hK hP hD hS rfl rfl (by omega) (by decide) dM_issue_161 (fun H locs hP hD hS => ?_)
        have hP : va_P D vwCl (wM cc q (mkM (x.nn + 1) (va_up x.by_ x.nn r) (va_up x.line x.nn (cntF (va_up x.by_ x.nn r) x.app r r x.nn + 1)) (va_up x.stp x.nn (gstM x r x.nn + 1)) (va_up x.let_ x.nn ch) (va_up x.oth x.nn t) (clkU x.clk x.nn (fun j => cntF (va_up x.by_ x.nn r) (va_up x.app (100 * r + x.nn) true) r j (x.nn + 1)) (j + 1)) (va_up x.app (100 * r + x.nn) true) x.wts x.gon x.len x.txt x.spr)) H := hP
        have hD : va_D A (wM cc q (mkM (x.nn + 1) (va_up x.by_ x.nn r) (va_up x.line x.nn (cntF (va_up x.by_ x.nn r) x.app r r x.nn + 1)) (va_up x.stp x.nn (gstM x r x.nn + 1)) (va_up x.let_ x.nn ch) (va_up x.oth x.nn t) (clkU x.clk x.nn (fun j => cntF (va_up x.by_ x.nn r) (va_up x.app (100 * r + x.nn) true) r j (x.nn + 1)) (j + 1)) (va_up x.app (100 * r + x.nn) true) x.wts x.gon x.len x.txt x.spr)) := hD
        refine lv_iinc (v := nI (j + 1)) (lv' := [(6, .int (nI (j + 1))), (0, .ref (q 0)), (1, .int (nI (r))), (2, .int (nI (ch))), (3, .int (sI (t))), (4, .int (nI (x.nn)))]) hx hb dM_issue_162 hl (k := 5) rfl (nI_1 _) (by decide) rfl (fun ls hl => ?_)
        refine lv_goto (tgt := 137) hx hb dM_issue_165 (by decide) ?_
        exact ih2  (j + 1) H locs hP hD hS ls (by omega) (by omega) (lv_sub hl [1, 2, 3, 4, 5, 0] rfl)
  have L12 : ∀ (n : Nat) (g : Nat) (k : Nat) (H : Heap) (locs : List Loc) (hP : va_P D vwCl (wM cc q (x)) H) (hD : va_D A (wM cc q (x))) (hS : va_S A s.heap H locs) (ls : Array Slot) (h1 : k ≤ x.nn) (h2 : x.nn - k < n) (h3 : g = gstM x r k), lv_has ls 7 [(0, .ref (q 0)), (1, .int (nI (r))), (2, .int (nI (ch))), (3, .int (sI (t))), (4, .int (nI (x.nn))), (5, .int (nI (g))), (6, .int (nI (k)))] → W p l e rmM_issue s m args below meth c H locs 0 0 Q (F0 m 12 ls []) := by
    intro n
    induction n with
    | zero => intro g k H locs hP hD hS ls h1 h2 h3 hl; exact absurd h2 (Nat.not_lt_zero _)
    | succ n ih =>
      intro g k H locs hP hD hS ls h1 h2 h3 hl
      have hgl := gstM_lt ok r k
      rw [← h3] at hgl
      refine lv_iload hx hb dM_issue_12 (lv_at hl 6 rfl) ?_
      refine lv_iload hx hb dM_issue_14 (lv_at hl 4 rfl) ?_
      refine r_ge (by omega) (by omega) (tgt := 61) hx hb dM_issue_16 (by decide) (fun c_16 => ?_) (fun c_16 => ?_)
      · obtain rfl : k = x.nn := by omega
        subst h3
        refine lv_aload_n hx hb dM_issue_61 rfl (lv_at hl 0 rfl) ?_
        refine va_get (D := D) (ci := 3) (v := .ref (q 1)) (C := RM) (T := TM) (N := 13) hx hb hts in_M hown hK hP 0 rfl rfl 1 (by decide) (hts _ wm_244) (fun _ h9 => h9) rfl dM_issue_62 ?_
        refine lv_iload hx hb dM_issue_65 (lv_at hl 4 rfl) ?_
        refine lv_iload_n hx hb dM_issue_67 rfl (lv_at hl 1 rfl) ?_
        refine r_iast nI x.by_ (r) (q0 := 1) (t0 := 0) hx hb hK hP hD hS rfl rfl (by omega) (by decide) dM_issue_68 (fun H locs hP hD hS => ?_)
        have hP : va_P D vwCl (wM cc q (mkM x.nn (va_up x.by_ x.nn r) x.line x.stp x.let_ x.oth x.clk x.app x.wts x.gon x.len x.txt x.spr)) H := hP
        have hD : va_D A (wM cc q (mkM x.nn (va_up x.by_ x.nn r) x.line x.stp x.let_ x.oth x.clk x.app x.wts x.gon x.len x.txt x.spr)) := hD
        refine lv_aload_n hx hb dM_issue_69 rfl (lv_at hl 0 rfl) ?_
        refine va_get (D := D) (ci := 3) (v := .ref (q 3)) (C := RM) (T := TM) (N := 13) hx hb hts in_M hown hK hP 0 rfl rfl 3 (by decide) (hts _ wm_246) (fun _ h9 => h9) rfl dM_issue_70 ?_
        refine lv_iload hx hb dM_issue_73 (lv_at hl 4 rfl) ?_
        refine lv_iload hx hb dM_issue_75 (lv_at hl 5 rfl) ?_
        refine lv_iconst (v := nI (1)) hx hb dM_issue_77 (by decide) ?_
        refine r_add hx hb dM_issue_78 ?_
        refine r_iast nI x.stp ((gstM x r x.nn) + 1) (q0 := 3) (t0 := 0) hx hb hK hP hD hS rfl rfl (by omega) (by decide) dM_issue_79 (fun H locs hP hD hS => ?_)
        have hP : va_P D vwCl (wM cc q (mkM x.nn (va_up x.by_ x.nn r) x.line (va_up x.stp x.nn (gstM x r x.nn + 1)) x.let_ x.oth x.clk x.app x.wts x.gon x.len x.txt x.spr)) H := hP
        have hD : va_D A (wM cc q (mkM x.nn (va_up x.by_ x.nn r) x.line (va_up x.stp x.nn (gstM x r x.nn + 1)) x.let_ x.oth x.clk x.app x.wts x.gon x.len x.txt x.spr)) := hD
        refine lv_aload_n hx hb dM_issue_80 rfl (lv_at hl 0 rfl) ?_
        refine va_get (D := D) (ci := 3) (v := .ref (q 4)) (C := RM) (T := TM) (N := 13) hx hb hts in_M hown hK hP 0 rfl rfl 4 (by decide) (hts _ wm_247) (fun _ h9 => h9) rfl dM_issue_81 ?_
        refine lv_iload hx hb dM_issue_84 (lv_at hl 4 rfl) ?_
        refine lv_iload_n hx hb dM_issue_86 rfl (lv_at hl 2 rfl) ?_
        refine r_iast nI x.let_ (ch) (q0 := 4) (t0 := 0) hx hb hK hP hD hS rfl rfl (by omega) (by decide) dM_issue_87 (fun H locs hP hD hS => ?_)
        have hP : va_P D vwCl (wM cc q (mkM x.nn (va_up x.by_ x.nn r) x.line (va_up x.stp x.nn (gstM x r x.nn + 1)) (va_up x.let_ x.nn ch) x.oth x.clk x.app x.wts x.gon x.len x.txt x.spr)) H := hP
        have hD : va_D A (wM cc q (mkM x.nn (va_up x.by_ x.nn r) x.line (va_up x.stp x.nn (gstM x r x.nn + 1)) (va_up x.let_ x.nn ch) x.oth x.clk x.app x.wts x.gon x.len x.txt x.spr)) := hD
        refine lv_aload_n hx hb dM_issue_88 rfl (lv_at hl 0 rfl) ?_
        refine va_get (D := D) (ci := 3) (v := .ref (q 5)) (C := RM) (T := TM) (N := 13) hx hb hts in_M hown hK hP 0 rfl rfl 5 (by decide) (hts _ wm_248) (fun _ h9 => h9) rfl dM_issue_89 ?_
        refine lv_iload hx hb dM_issue_92 (lv_at hl 4 rfl) ?_
        refine lv_iload_n hx hb dM_issue_94 rfl (lv_at hl 3 rfl) ?_
        refine r_iast sI x.oth (t) (q0 := 5) (t0 := 0) hx hb hK hP hD hS rfl rfl (by omega) (by decide) dM_issue_95 (fun H locs hP hD hS => ?_)
        have hP : va_P D vwCl (wM cc q (mkM x.nn (va_up x.by_ x.nn r) x.line (va_up x.stp x.nn (gstM x r x.nn + 1)) (va_up x.let_ x.nn ch) (va_up x.oth x.nn t) x.clk x.app x.wts x.gon x.len x.txt x.spr)) H := hP
        have hD : va_D A (wM cc q (mkM x.nn (va_up x.by_ x.nn r) x.line (va_up x.stp x.nn (gstM x r x.nn + 1)) (va_up x.let_ x.nn ch) (va_up x.oth x.nn t) x.clk x.app x.wts x.gon x.len x.txt x.spr)) := hD
        have ok4 : okM (mkM x.nn (va_up x.by_ x.nn r) x.line (va_up x.stp x.nn (gstM x r x.nn + 1)) (va_up x.let_ x.nn ch) (va_up x.oth x.nn t) x.clk x.app x.wts x.gon x.len x.txt x.spr) := okM_mk ok.n ok.len (up_lt ok.by3 hr) ok.line3 (up_lt ok.stp3 (by omega)) (up_lt ok.let5 hch) (up_le ok.oth100 ht) ok.clk3 ok.txt100 ok.spr5
        refine lv_aload_n hx hb dM_issue_96 rfl (lv_at hl 0 rfl) ?_
        refine va_get (D := D) (ci := 3) (v := .ref (q 2)) (C := RM) (T := TM) (N := 13) hx hb hts in_M hown hK hP 0 rfl rfl 2 (by decide) (hts _ wm_245) (fun _ h9 => h9) rfl dM_issue_97 ?_
        refine lv_iload hx hb dM_issue_100 (lv_at hl 4 rfl) ?_
        refine lv_aload_n hx hb dM_issue_102 rfl (lv_at hl 0 rfl) ?_
        refine lv_iload_n hx hb dM_issue_103 rfl (lv_at hl 1 rfl) ?_
        refine lv_iload_n hx hb dM_issue_104 rfl (lv_at hl 1 rfl) ?_
        refine W.callR (W.runV (As := [.int (nI (r)), .int (nI (r))]) (rest := [.int (nI (x.nn)), .ref (q 2)]) S (kM_count D cc q (mkM x.nn (va_up x.by_ x.nn r) x.line (va_up x.stp x.nn (gstM x r x.nn + 1)) (va_up x.let_ x.nn ch) (va_up x.oth x.nn t) x.clk x.app x.wts x.gon x.len x.txt x.spr) (r) (r) (by omega) (by omega) ok4) (cwV 2 hts (gd_V wm_297 wm_298 wm_386 wm_4 wm_299) rfl rfl rfl (by decide +kernel) ⟨Nat.le_of_ble_eq_true rfl, Nat.le_of_ble_eq_true rfl⟩) (rd_preV (q0 := 0) hP hE rfl rfl) rfl rfl hl.1 rfl (lv_room (Nat.le_of_ble_eq_true rfl)) dM_issue_105 ⟨Nat.le_of_ble_eq_true rfl, Nat.le_of_ble_eq_true rfl⟩) ?_
        refine W.eq (g2 := F0 m 108 ls [.int (nI (cntM (mkM x.nn (va_up x.by_ x.nn r) x.line (va_up x.stp x.nn (gstM x r x.nn + 1)) (va_up x.let_ x.nn ch) (va_up x.oth x.nn t) x.clk x.app x.wts x.gon x.len x.txt x.spr) (r) (r) (mkM x.nn (va_up x.by_ x.nn r) x.line (va_up x.stp x.nn (gstM x r x.nn + 1)) (va_up x.let_ x.nn ch) (va_up x.oth x.nn t) x.clk x.app x.wts x.gon x.len x.txt x.spr).nn)), .int (nI (x.nn)), .ref (q 2)]) rfl ?_
        refine r_top (y := nI (cntF (va_up x.by_ x.nn r) x.app r r x.nn)) rfl ?_
        refine lv_iconst (v := nI (1)) hx hb dM_issue_108 (by decide) ?_
        refine r_add hx hb dM_issue_109 ?_
        refine r_iast nI x.line ((cntF (va_up x.by_ x.nn r) x.app r r x.nn) + 1) (q0 := 2) (t0 := 0) hx hb hK hP hD hS rfl rfl (by omega) (by decide) dM_issue_110 (fun H locs hP hD hS => ?_)
        have hP : va_P D vwCl (wM cc q (mkM x.nn (va_up x.by_ x.nn r) (va_up x.line x.nn (cntF (va_up x.by_ x.nn r) x.app r r x.nn + 1)) (va_up x.stp x.nn (gstM x r x.nn + 1)) (va_up x.let_ x.nn ch) (va_up x.oth x.nn t) x.clk x.app x.wts x.gon x.len x.txt x.spr)) H := hP
        have hD : va_D A (wM cc q (mkM x.nn (va_up x.by_ x.nn r) (va_up x.line x.nn (cntF (va_up x.by_ x.nn r) x.app r r x.nn + 1)) (va_up x.stp x.nn (gstM x r x.nn + 1)) (va_up x.let_ x.nn ch) (va_up x.oth x.nn t) x.clk x.app x.wts x.gon x.len x.txt x.spr)) := hD
        refine lv_aload_n hx hb dM_issue_111 rfl (lv_at hl 0 rfl) ?_
        refine lv_dup hx hb dM_issue_112 rfl ?_
        refine va_get (D := D) (ci := 3) (v := .int (nI (x.nn))) (C := RM) (T := TM) (N := 13) hx hb hts in_M hown hK hP 0 rfl rfl 0 (by decide) (hts _ wm_243) (fun _ h9 => h9) rfl dM_issue_113 ?_
        refine lv_iconst (v := nI (1)) hx hb dM_issue_116 (by decide) ?_
        refine r_add hx hb dM_issue_117 ?_
        refine va_put (D := D) (ci := 3) (v := .int (nI (x.nn + 1))) (ty := .int) (C := RM) (T := TM) (N := 13) hx hb hts in_M tyM tyM_ok nmM hown hK hP hD hS 0 rfl rfl 0 (by decide) (hts _ wm_243) (fun _ h9 => h9) rfl (by decide +kernel) rfl rfl (Nat.le_of_ble_eq_true rfl) dM_issue_118 (fun H locs hP hD hS => ?_)
        have hP : va_P D vwCl (wM cc q (mkM (x.nn + 1) (va_up x.by_ x.nn r) (va_up x.line x.nn (cntF (va_up x.by_ x.nn r) x.app r r x.nn + 1)) (va_up x.stp x.nn (gstM x r x.nn + 1)) (va_up x.let_ x.nn ch) (va_up x.oth x.nn t) x.clk x.app x.wts x.gon x.len x.txt x.spr)) H := hP
        have hD : va_D A (wM cc q (mkM (x.nn + 1) (va_up x.by_ x.nn r) (va_up x.line x.nn (cntF (va_up x.by_ x.nn r) x.app r r x.nn + 1)) (va_up x.stp x.nn (gstM x r x.nn + 1)) (va_up x.let_ x.nn ch) (va_up x.oth x.nn t) x.clk x.app x.wts x.gon x.len x.txt x.spr)) := hD
        refine lv_aload_n hx hb dM_issue_121 rfl (lv_at hl 0 rfl) ?_
        refine va_get (D := D) (ci := 3) (v := .ref (q 7)) (C := RM) (T := TM) (N := 13) hx hb hts in_M hown hK hP 0 rfl rfl 7 (by decide) (hts _ wm_250) (fun _ h9 => h9) rfl dM_issue_122 ?_
        refine lv_bipush (v := nI (100)) hx hb dM_issue_125 (by decide) ?_
        refine lv_iload_n hx hb dM_issue_127 rfl (lv_at hl 1 rfl) ?_
        refine r_mul hx hb dM_issue_128 ?_
        refine lv_iload hx hb dM_issue_129 (lv_at hl 4 rfl) ?_
        refine r_add hx hb dM_issue_131 ?_
        refine lv_iconst (v := nI (1)) hx hb dM_issue_132 (by decide) ?_
        refine r_top (y := bI (true)) (by decide) ?_
        refine r_zast x.app (true) (q0 := 7) (t0 := 1) hx hb hK hP hD hS rfl rfl (by omega) (by decide) dM_issue_133 (fun H locs hP hD hS => ?_)
        have hP : va_P D vwCl (wM cc q (mkM (x.nn + 1) (va_up x.by_ x.nn r) (va_up x.line x.nn (cntF (va_up x.by_ x.nn r) x.app r r x.nn + 1)) (va_up x.stp x.nn (gstM x r x.nn + 1)) (va_up x.let_ x.nn ch) (va_up x.oth x.nn t) x.clk (va_up x.app (100 * r + x.nn) true) x.wts x.gon x.len x.txt x.spr)) H := hP
        have hD : va_D A (wM cc q (mkM (x.nn + 1) (va_up x.by_ x.nn r) (va_up x.line x.nn (cntF (va_up x.by_ x.nn r) x.app r r x.nn + 1)) (va_up x.stp x.nn (gstM x r x.nn + 1)) (va_up x.let_ x.nn ch) (va_up x.oth x.nn t) x.clk (va_up x.app (100 * r + x.nn) true) x.wts x.gon x.len x.txt x.spr)) := hD
        have ok7 : okM (mkM (x.nn + 1) (va_up x.by_ x.nn r) (va_up x.line x.nn (cntF (va_up x.by_ x.nn r) x.app r r x.nn + 1)) (va_up x.stp x.nn (gstM x r x.nn + 1)) (va_up x.let_ x.nn ch) (va_up x.oth x.nn t) x.clk (va_up x.app (100 * r + x.nn) true) x.wts x.gon x.len x.txt x.spr) := okM_mk (by omega) ok.len (up_lt ok.by3 hr) (up_lt ok.line3 (by have := cntF_le (va_up x.by_ x.nn r) x.app r r x.nn; omega)) (up_lt ok.stp3 (by omega)) (up_lt ok.let5 hch) (up_le ok.oth100 ht) ok.clk3 ok.txt100 ok.spr5
        refine lv_iconst (v := nI (0)) hx hb dM_issue_134 (by decide) ?_
        refine lv_istore (lv' := [(6, .int (nI (0))), (0, .ref (q 0)), (1, .int (nI (r))), (2, .int (nI (ch))), (3, .int (sI (t))), (4, .int (nI (x.nn))), (5, .int (nI (gstM x r x.nn)))]) hx hb dM_issue_135 hl (by decide) rfl (fun ls hl => ?_)
        exact L137 (4) (0) H locs hP hD hS ls (by omega) (by omega) (lv_sub hl [1, 2, 3, 4, 5, 0] rfl)
      · refine lv_aload_n hx hb dM_issue_19 rfl (lv_at hl 0 rfl) ?_
        refine lv_iload_n hx hb dM_issue_20 rfl (lv_at hl 1 rfl) ?_
        refine lv_iload hx hb dM_issue_21 (lv_at hl 6 rfl) ?_
        refine W.callR (W.runV (As := [.int (nI (r)), .int (nI (k))]) (rest := []) S (kM_has D cc q x (r) (k) (by omega) (by omega)) (cwV 2 hts (gd_V wm_285 wm_286 wm_382 wm_4 wm_287) rfl rfl rfl (by decide +kernel) ⟨Nat.le_of_ble_eq_true rfl, Nat.le_of_ble_eq_true rfl⟩) (rd_preV (q0 := 0) hP hE rfl rfl) rfl rfl hl.1 rfl (lv_room (Nat.le_of_ble_eq_true rfl)) dM_issue_23 ⟨Nat.le_of_ble_eq_true rfl, Nat.le_of_ble_eq_true rfl⟩) ?_
        refine W.eq (g2 := F0 m 26 ls [.int (bI (x.app (100 * (r) + (k))))]) rfl ?_
        refine r_eqB (tgt := 51) hx hb dM_issue_26 (by decide) (fun c_26 => ?_) (fun c_26 => ?_)
        · refine lv_iload hx hb dM_issue_51 (lv_at hl 5 rfl) ?_
          refine lv_istore (lv' := [(5, .int (nI (g))), (0, .ref (q 0)), (1, .int (nI (r))), (2, .int (nI (ch))), (3, .int (sI (t))), (4, .int (nI (x.nn))), (6, .int (nI (k)))]) hx hb dM_issue_53 hl (by decide) rfl (fun ls hl => ?_)
          refine lv_iinc (v := nI (k + 1)) (lv' := [(6, .int (nI (k + 1))), (5, .int (nI (g))), (0, .ref (q 0)), (1, .int (nI (r))), (2, .int (nI (ch))), (3, .int (sI (t))), (4, .int (nI (x.nn)))]) hx hb dM_issue_55 hl (k := 6) rfl (nI_1 _) (by decide) rfl (fun ls hl => ?_)
          refine lv_goto (tgt := 12) hx hb dM_issue_58 (by decide) ?_
          exact ih  (g) (k + 1) H locs hP hD hS ls (by omega) (by omega) (by first | rfl | (rw [gstM_t (x := x) (r := r) (n := k) c_26 (by rw [← h3]; exact c_38)]; done) | (rw [gstM_f1 (x := x) (r := r) (n := k) c_26]; exact h3) | (rw [gstM_f2 (x := x) (r := r) (n := k) (by rw [← h3]; exact c_38)]; exact h3)) (lv_sub hl [2, 3, 4, 5, 6, 1, 0] rfl)
        · refine lv_aload_n hx hb dM_issue_29 rfl (lv_at hl 0 rfl) ?_
          refine va_get (D := D) (ci := 3) (v := .ref (q 3)) (C := RM) (T := TM) (N := 13) hx hb hts in_M hown hK hP 0 rfl rfl 3 (by decide) (hts _ wm_246) (fun _ h9 => h9) rfl dM_issue_30 ?_
          refine lv_iload hx hb dM_issue_33 (lv_at hl 6 rfl) ?_
          refine r_iald (q0 := 3) (t0 := 0) hx hb hK hP rfl rfl (by omega) (by decide) dM_issue_35 ?_
          refine lv_iload hx hb dM_issue_36 (lv_at hl 5 rfl) ?_
          refine r_le (ok.stp (k)) (by omega) (tgt := 51) hx hb dM_issue_38 (by decide) (fun c_38 => ?_) (fun c_38 => ?_)
          · refine lv_iload hx hb dM_issue_51 (lv_at hl 5 rfl) ?_
            refine lv_istore (lv' := [(5, .int (nI (g))), (0, .ref (q 0)), (1, .int (nI (r))), (2, .int (nI (ch))), (3, .int (sI (t))), (4, .int (nI (x.nn))), (6, .int (nI (k)))]) hx hb dM_issue_53 hl (by decide) rfl (fun ls hl => ?_)
            refine lv_iinc (v := nI (k + 1)) (lv' := [(6, .int (nI (k + 1))), (5, .int (nI (g))), (0, .ref (q 0)), (1, .int (nI (r))), (2, .int (nI (ch))), (3, .int (sI (t))), (4, .int (nI (x.nn)))]) hx hb dM_issue_55 hl (k := 6) rfl (nI_1 _) (by decide) rfl (fun ls hl => ?_)
            refine lv_goto (tgt := 12) hx hb dM_issue_58 (by decide) ?_
            exact ih  (g) (k + 1) H locs hP hD hS ls (by omega) (by omega) (by first | rfl | (rw [gstM_t (x := x) (r := r) (n := k) c_26 (by rw [← h3]; exact c_38)]; done) | (rw [gstM_f1 (x := x) (r := r) (n := k) c_26]; exact h3) | (rw [gstM_f2 (x := x) (r := r) (n := k) (by rw [← h3]; exact c_38)]; exact h3)) (lv_sub hl [2, 3, 4, 5, 6, 1, 0] rfl)
          · refine lv_aload_n hx hb dM_issue_41 rfl (lv_at hl 0 rfl) ?_
            refine va_get (D := D) (ci := 3) (v := .ref (q 3)) (C := RM) (T := TM) (N := 13) hx hb hts in_M hown hK hP 0 rfl rfl 3 (by decide) (hts _ wm_246) (fun _ h9 => h9) rfl dM_issue_42 ?_
            refine lv_iload hx hb dM_issue_45 (lv_at hl 6 rfl) ?_
            refine r_iald (q0 := 3) (t0 := 0) hx hb hK hP rfl rfl (by omega) (by decide) dM_issue_47 ?_
            refine lv_goto (tgt := 53) hx hb dM_issue_48 (by decide) ?_
            refine lv_istore (lv' := [(5, .int (nI (x.stp k))), (0, .ref (q 0)), (1, .int (nI (r))), (2, .int (nI (ch))), (3, .int (sI (t))), (4, .int (nI (x.nn))), (6, .int (nI (k)))]) hx hb dM_issue_53 hl (by decide) rfl (fun ls hl => ?_)
            refine lv_iinc (v := nI (k + 1)) (lv' := [(6, .int (nI (k + 1))), (5, .int (nI (x.stp k))), (0, .ref (q 0)), (1, .int (nI (r))), (2, .int (nI (ch))), (3, .int (sI (t))), (4, .int (nI (x.nn)))]) hx hb dM_issue_55 hl (k := 6) rfl (nI_1 _) (by decide) rfl (fun ls hl => ?_)
            refine lv_goto (tgt := 12) hx hb dM_issue_58 (by decide) ?_
            exact ih  (x.stp k) (k + 1) H locs hP hD hS ls (by omega) (by omega) (by first | rfl | (rw [gstM_t (x := x) (r := r) (n := k) c_26 (by rw [← h3]; exact c_38)]; done) | (rw [gstM_f1 (x := x) (r := r) (n := k) c_26]; exact h3) | (rw [gstM_f2 (x := x) (r := r) (n := k) (by rw [← h3]; exact c_38)]; exact h3)) (lv_sub hl [2, 3, 4, 5, 6, 1, 0] rfl)
  refine lv_aload_n hx hb dM_issue_0 rfl (lv_at hl 0 rfl) ?_
  refine va_get (D := D) (ci := 3) (v := .int (nI (x.nn))) (C := RM) (T := TM) (N := 13) hx hb hts in_M hown hK hP 0 rfl rfl 0 (by decide) (hts _ wm_243) (fun _ h9 => h9) rfl dM_issue_1 ?_
  refine lv_istore (lv' := [(4, .int (nI (x.nn))), (0, .ref (q 0)), (1, .int (nI (r))), (2, .int (nI (ch))), (3, .int (sI (t)))]) hx hb dM_issue_4 hl (by decide) rfl (fun ls hl => ?_)
  refine lv_iconst (v := nI (0)) hx hb dM_issue_6 (by decide) ?_
  refine lv_istore (lv' := [(5, .int (nI (0))), (4, .int (nI (x.nn))), (0, .ref (q 0)), (1, .int (nI (r))), (2, .int (nI (ch))), (3, .int (sI (t)))]) hx hb dM_issue_7 hl (by decide) rfl (fun ls hl => ?_)
  refine lv_iconst (v := nI (0)) hx hb dM_issue_9 (by decide) ?_
  refine lv_istore (lv' := [(6, .int (nI (0))), (5, .int (nI (0))), (4, .int (nI (x.nn))), (0, .ref (q 0)), (1, .int (nI (r))), (2, .int (nI (ch))), (3, .int (sI (t)))]) hx hb dM_issue_10 hl (by decide) rfl (fun ls hl => ?_)
  exact L12 (x.nn + 1) (0) (0) s.heap [] hP hD hS ls (by omega) (by omega) (by first | rfl | (rw [gstM_t (x := x) (r := r) (n := k) c_26 (by rw [← h3]; exact c_38)]; done) | (rw [gstM_f1 (x := x) (r := r) (n := k) c_26]; exact h3) | (rw [gstM_f2 (x := x) (r := r) (n := k) (by rw [← h3]; exact c_38)]; exact h3)) (lv_sub hl [3, 4, 5, 6, 2, 1, 0] rfl)
