theorem nxtM_wt (x : MS) (n r v : Nat) (t : Nat → Nat) : nxtM (mkM x.nn x.by_ x.line x.stp x.let_ x.oth x.clk x.app x.wts x.gon n t x.spr) r v = nxtM x r v := rfl
theorem ersM_wt (x : MS) (n r v k : Nat) (t : Nat → Nat) : ersM (mkM x.nn x.by_ x.line x.stp x.let_ x.oth x.clk x.app x.wts x.gon n t x.spr) r v k = ersM x r v k := rfl
theorem tst_2 (cc : Nat → ClassId) (q : Nat → Nat) (x : MS) (n v : Nat) (t : Nat → Nat) : (wM cc q (mkM x.nn x.by_ x.line x.stp x.let_ x.oth x.clk x.app x.wts x.gon n t x.spr)).set 10 (q 10, .inl (cc 0, 100, .inl (fun j => nI (va_up t n v j)))) = wM cc q (mkM x.nn x.by_ x.line x.stp x.let_ x.oth x.clk x.app x.wts x.gon n (va_up t n v) x.spr) := rfl
def rmM_walk : Room := { frames := 3, cells := 0, slots := 0, locals := 72 }
set_option maxHeartbeats 4000000 in
set_option maxRecDepth 100000 in
theorem kM_walk {l : Launch} (D : va_G) (cc : Nat → ClassId) (q : Nat → Nat) (x : MS) (sz : Nat) (r : Nat) (xs : List Nat) (hr : r < 3) (hpar : ∀ k, k < x.nn → x.oth k ≤ k) (ok : okM x) (hch : chainP (nxtM x r) 0 xs) (hlen : xs.length ≤ 100) (hle : ∀ v ∈ xs, v ≤ x.nn) : Met l yM_walk wsM_walk rmM_walk (va_Pc [.ref (q 0), .int (nI (r))] (WP D cc (wM cc q x) sz)) (va_Qv (fun _ : Unit => True) (WQ D cc (va_A (wM cc q x) sz) (fun _ : Unit => wM cc q (walked x r xs))) (va_A (wM cc q x) sz)) 0 0 (va_A (wM cc q x) sz) := by
  refine wr_metv RM [.ref (q 0), .int (nI (r))] D cc (wM cc q x) sz (fun _ : Unit => wM cc q (walked x r xs)) _ (by decide) rfl rfl (Nat.le_of_ble_eq_true rfl) ?_
  intro p e s m args below meth c Q A S hP hE hD hA kx ls hl
  obtain ⟨hx, hb, hml, hown, hts⟩ := id S
  have hK := hE.1
  have hts := hE.ts args
  have S : CallFix p m c cM_walk 3 s args wAll RM := ⟨hx, hb, hml, hown, hts⟩
  have hS : va_S A s.heap s.heap [] := va_S.rf
  have hn := ok.n
  have hv0 := ch_next hch
  have hl : lv_has ls 3 [(0, .ref (q 0)), (1, .int (nI (r)))] := hl
  have L12 : ∀ (n : Nat) (v : Nat) (ys : List Nat) (ln : Nat) (t : Nat → Nat) (H : Heap) (locs : List Loc) (hP : va_P D vwCl (wM cc q (mkM x.nn x.by_ x.line x.stp x.let_ x.oth x.clk x.app x.wts x.gon ln t x.spr)) H) (hD : va_D A (wM cc q (mkM x.nn x.by_ x.line x.stp x.let_ x.oth x.clk x.app x.wts x.gon ln t x.spr))) (hS : va_S A s.heap H locs) (ls : Array Slot) (h0 : v ≤ x.nn) (hv : (v = 0 ∧ ys = []) ∨ ∃ zs, ys = v :: zs ∧ v ≠ 0 ∧ chainP (nxtM x r) v zs) (h2 : ys.length < n) (h3 : ln + ys.length ≤ 100) (h4 : wrtF (fun f => ersM x r f x.nn) ys (ln, t) = wrtF (fun f => ersM x r f x.nn) xs (0, x.txt)) (h5 : ∀ z ∈ ys, z ≤ x.nn) (h6 : ∀ k, t k < 100), lv_has ls 3 [(0, .ref (q 0)), (1, .int (nI (r))), (2, .int (sI (v)))] → W p l e rmM_walk s m args below meth c H locs 0 0 Q (F0 m 12 ls []) := by
    intro n
    induction n with
    | zero => intro v ys ln t H locs hP hD hS ls h0 hv h2 h3 h4 h5 h6 hl; exact absurd h2 (Nat.not_lt_zero _)
    | succ n ih =>
      intro v ys ln t H locs hP hD hS ls h0 hv h2 h3 h4 h5 h6 hl
      have ok2 : okM (mkM x.nn x.by_ x.line x.stp x.let_ x.oth x.clk x.app x.wts x.gon ln t x.spr) := okM_wt ok (by omega) h6
      refine lv_iload_n hx hb dM_walk_12 rfl (lv_at hl 2 rfl) ?_
      refine r_ltS (by omega) (tgt := 55) hx hb dM_walk_13 (by decide) (fun c_13 => ?_) (fun c_13 => ?_)
      · exact kx _ _ _ _ () dM_walk_55 hS (by rw [← wk_end hv c_13 h4]; exact hP) (by rw [← wk_end hv c_13 h4]; exact hD) trivial
      · obtain ⟨zs, rfl, hz2, hz3⟩ := hv.resolve_left (fun q => by omega)
        refine lv_aload_n hx hb dM_walk_16 rfl (lv_at hl 0 rfl) ?_
        refine lv_iload_n hx hb dM_walk_17 rfl (lv_at hl 1 rfl) ?_
        refine lv_iload_n hx hb dM_walk_18 rfl (lv_at hl 2 rfl) ?_
        refine r_top (y := nI (v - 1)) (sI_p c_13) ?_
        refine W.callR (W.runV (As := [.int (nI (r)), .int (nI (v - 1))]) (rest := []) S (kM_erased D cc q (mkM x.nn x.by_ x.line x.stp x.let_ x.oth x.clk x.app x.wts x.gon ln t x.spr) (r) (v - 1) (by omega) (by omega) ok2) (cwV 2 hts (gd_V wm_291 wm_292 wm_384 wm_4 wm_293) rfl rfl rfl (by decide +kernel) ⟨Nat.le_of_ble_eq_true rfl, Nat.le_of_ble_eq_true rfl⟩) (rd_preV (q0 := 0) hP hE rfl rfl) rfl rfl hl.1 rfl (lv_room (Nat.le_of_ble_eq_true rfl)) dM_walk_19 ⟨Nat.le_of_ble_eq_true rfl, Nat.le_of_ble_eq_true rfl⟩) ?_
        refine W.eq (g2 := F0 m 22 ls [.int (bI (ersM (mkM x.nn x.by_ x.line x.stp x.let_ x.oth x.clk x.app x.wts x.gon ln t x.spr) (r) (v - 1) (mkM x.nn x.by_ x.line x.stp x.let_ x.oth x.clk x.app x.wts x.gon ln t x.spr).nn))]) rfl ?_
        refine r_top (y := bI (ersM x (r) (v - 1) x.nn)) rfl ?_
        refine r_neB (tgt := 45) hx hb dM_walk_22 (by decide) (fun c_22 => ?_) (fun c_22 => ?_)
        · refine lv_aload_n hx hb dM_walk_45 rfl (lv_at hl 0 rfl) ?_
          refine lv_iload_n hx hb dM_walk_46 rfl (lv_at hl 1 rfl) ?_
          refine lv_iload_n hx hb dM_walk_47 rfl (lv_at hl 2 rfl) ?_
          refine W.callR (W.runV (As := [.int (nI (r)), .int (sI (v))]) (rest := []) S (kM_next D cc q (mkM x.nn x.by_ x.line x.stp x.let_ x.oth x.clk x.app x.wts x.gon ln t x.spr) (r) (v) (by omega) (h0) hpar ok2) (cwV 2 hts (gd_V wm_279 wm_280 wm_380 wm_4 wm_281) rfl rfl rfl (by decide +kernel) ⟨Nat.le_of_ble_eq_true rfl, Nat.le_of_ble_eq_true rfl⟩) (rd_preV (q0 := 0) hP hE rfl rfl) rfl rfl hl.1 rfl (lv_room (Nat.le_of_ble_eq_true rfl)) dM_walk_48 ⟨Nat.le_of_ble_eq_true rfl, Nat.le_of_ble_eq_true rfl⟩) ?_
          refine W.eq (g2 := F0 m 51 ls [.int (sI (nxtM (mkM x.nn x.by_ x.line x.stp x.let_ x.oth x.clk x.app x.wts x.gon ln t x.spr) (r) (v)))]) rfl ?_
          refine r_top (y := sI (nxtM x (r) (v))) rfl ?_
          refine lv_istore_n (lv' := [(2, .int (sI (nxtM x (r) (v)))), (0, .ref (q 0)), (1, .int (nI (r)))]) hx hb dM_walk_51 rfl hl (by decide) rfl (fun ls hl => ?_)
          refine lv_goto (tgt := 12) hx hb dM_walk_52 (by decide) ?_
          exact ih  (nxtM x (r) (v)) (zs) (ln) (t) H locs hP hD hS ls (by first | exact ch_le hv0 hle (Nat.zero_le _) | exact ch_le (ch_next hz3) (fun z hz => h5 z (List.mem_cons_of_mem _ hz)) (Nat.zero_le _)) (by first | exact hv0 | exact ch_next hz3) (by first | exact Nat.lt_succ_self _ | (simp only [List.length_cons] at h2; omega)) (by first | (rw [Nat.zero_add]; exact hlen) | (simp only [List.length_cons] at h3; omega)) (by first | rfl | (rw [← h4, wrtF_t c_22]; done) | (rw [← h4, wrtF_f c_22]; done)) (by first | exact hle | exact (fun z hz => h5 z (List.mem_cons_of_mem _ hz))) (by first | exact ok.txt100 | exact h6 | exact up_lt100 h6 (by omega)) (lv_sub hl [1, 2, 0] rfl)
        · refine lv_aload_n hx hb dM_walk_25 rfl (lv_at hl 0 rfl) ?_
          refine va_get (D := D) (ci := 3) (v := .ref (q 10)) (C := RM) (T := TM) (N := 13) hx hb hts in_M hown hK hP 0 rfl rfl 11 (by decide) (hts _ wm_254) (fun _ h9 => h9) rfl dM_walk_26 ?_
          refine lv_aload_n hx hb dM_walk_29 rfl (lv_at hl 0 rfl) ?_
          refine va_get (D := D) (ci := 3) (v := .int (nI (ln))) (C := RM) (T := TM) (N := 13) hx hb hts in_M hown hK hP 0 rfl rfl 10 (by decide) (hts _ wm_253) (fun _ h9 => h9) rfl dM_walk_30 ?_
          refine lv_iload_n hx hb dM_walk_33 rfl (lv_at hl 2 rfl) ?_
          refine r_top (y := nI (v - 1)) (sI_p c_13) ?_
          refine r_iast nI t (v - 1) (q0 := 10) (t0 := 0) hx hb hK hP hD hS rfl rfl (by have := h3; simp only [List.length_cons] at this; show ln < 100; omega) (by decide) dM_walk_34 (fun H locs hP hD hS => ?_)
          have hP : va_P D vwCl (wM cc q (mkM x.nn x.by_ x.line x.stp x.let_ x.oth x.clk x.app x.wts x.gon ln (va_up t ln (v - 1)) x.spr)) H := hP
          have hD : va_D A (wM cc q (mkM x.nn x.by_ x.line x.stp x.let_ x.oth x.clk x.app x.wts x.gon ln (va_up t ln (v - 1)) x.spr)) := hD
          have ok3 : okM (mkM x.nn x.by_ x.line x.stp x.let_ x.oth x.clk x.app x.wts x.gon ln (va_up t ln (v - 1)) x.spr) := okM_wt ok (by omega) (up_lt100 h6 (by omega))
          refine lv_aload_n hx hb dM_walk_35 rfl (lv_at hl 0 rfl) ?_
          refine lv_dup hx hb dM_walk_36 rfl ?_
          refine va_get (D := D) (ci := 3) (v := .int (nI (ln))) (C := RM) (T := TM) (N := 13) hx hb hts in_M hown hK hP 0 rfl rfl 10 (by decide) (hts _ wm_253) (fun _ h9 => h9) rfl dM_walk_37 ?_
          refine lv_iconst (v := nI (1)) hx hb dM_walk_40 (by decide) ?_
          refine r_add hx hb dM_walk_41 ?_
          refine va_put (D := D) (ci := 3) (v := .int (nI (ln + 1))) (ty := .int) (C := RM) (T := TM) (N := 13) hx hb hts in_M tyM tyM_ok nmM hown hK hP hD hS 0 rfl rfl 10 (by decide) (hts _ wm_253) (fun _ h9 => h9) rfl (by decide +kernel) rfl rfl (Nat.le_of_ble_eq_true rfl) dM_walk_42 (fun H locs hP hD hS => ?_)
          have hP : va_P D vwCl (wM cc q (mkM x.nn x.by_ x.line x.stp x.let_ x.oth x.clk x.app x.wts x.gon (ln + 1) (va_up t ln (v - 1)) x.spr)) H := hP
          have hD : va_D A (wM cc q (mkM x.nn x.by_ x.line x.stp x.let_ x.oth x.clk x.app x.wts x.gon (ln + 1) (va_up t ln (v - 1)) x.spr)) := hD
          have ok4 : okM (mkM x.nn x.by_ x.line x.stp x.let_ x.oth x.clk x.app x.wts x.gon (ln + 1) (va_up t ln (v - 1)) x.spr) := okM_wt ok (by have := h3; simp only [List.length_cons] at this; omega) (up_lt100 h6 (by omega))
          refine lv_aload_n hx hb dM_walk_45 rfl (lv_at hl 0 rfl) ?_
          refine lv_iload_n hx hb dM_walk_46 rfl (lv_at hl 1 rfl) ?_
          refine lv_iload_n hx hb dM_walk_47 rfl (lv_at hl 2 rfl) ?_
          refine W.callR (W.runV (As := [.int (nI (r)), .int (sI (v))]) (rest := []) S (kM_next D cc q (mkM x.nn x.by_ x.line x.stp x.let_ x.oth x.clk x.app x.wts x.gon (ln + 1) (va_up t ln (v - 1)) x.spr) (r) (v) (by omega) (h0) hpar ok4) (cwV 2 hts (gd_V wm_279 wm_280 wm_380 wm_4 wm_281) rfl rfl rfl (by decide +kernel) ⟨Nat.le_of_ble_eq_true rfl, Nat.le_of_ble_eq_true rfl⟩) (rd_preV (q0 := 0) hP hE rfl rfl) rfl rfl hl.1 rfl (lv_room (Nat.le_of_ble_eq_true rfl)) dM_walk_48 ⟨Nat.le_of_ble_eq_true rfl, Nat.le_of_ble_eq_true rfl⟩) ?_
          refine W.eq (g2 := F0 m 51 ls [.int (sI (nxtM (mkM x.nn x.by_ x.line x.stp x.let_ x.oth x.clk x.app x.wts x.gon (ln + 1) (va_up t ln (v - 1)) x.spr) (r) (v)))]) rfl ?_
          refine r_top (y := sI (nxtM x (r) (v))) rfl ?_
          refine lv_istore_n (lv' := [(2, .int (sI (nxtM x (r) (v)))), (0, .ref (q 0)), (1, .int (nI (r)))]) hx hb dM_walk_51 rfl hl (by decide) rfl (fun ls hl => ?_)
          refine lv_goto (tgt := 12) hx hb dM_walk_52 (by decide) ?_
          exact ih  (nxtM x (r) (v)) (zs) (ln + 1) (va_up t ln (v - 1)) H locs hP hD hS ls (by first | exact ch_le hv0 hle (Nat.zero_le _) | exact ch_le (ch_next hz3) (fun z hz => h5 z (List.mem_cons_of_mem _ hz)) (Nat.zero_le _)) (by first | exact hv0 | exact ch_next hz3) (by first | exact Nat.lt_succ_self _ | (simp only [List.length_cons] at h2; omega)) (by first | (rw [Nat.zero_add]; exact hlen) | (simp only [List.length_cons] at h3; omega)) (by first | rfl | (rw [← h4, wrtF_t c_22]; done) | (rw [← h4, wrtF_f c_22]; done)) (by first | exact hle | exact (fun z hz => h5 z (List.mem_cons_of_mem _ hz))) (by first | exact ok.txt100 | exact h6 | exact up_lt100 h6 (by omega)) (lv_sub hl [1, 2, 0] rfl)
  refine lv_aload_n hx hb dM_walk_0 rfl (lv_at hl 0 rfl) ?_
  refine lv_iconst (v := nI (0)) hx hb dM_walk_1 (by decide) ?_
  refine va_put (D := D) (ci := 3) (v := .int (nI (0))) (ty := .int) (C := RM) (T := TM) (N := 13) hx hb hts in_M tyM tyM_ok nmM hown hK hP hD hS 0 rfl rfl 10 (by decide) (hts _ wm_253) (fun _ h9 => h9) rfl (by decide +kernel) rfl rfl (Nat.le_of_ble_eq_true rfl) dM_walk_2 (fun H locs hP hD hS => ?_)
  have hP : va_P D vwCl (wM cc q (mkM x.nn x.by_ x.line x.stp x.let_ x.oth x.clk x.app x.wts x.gon 0 x.txt x.spr)) H := hP
  have hD : va_D A (wM cc q (mkM x.nn x.by_ x.line x.stp x.let_ x.oth x.clk x.app x.wts x.gon 0 x.txt x.spr)) := hD
  have ok1 : okM (mkM x.nn x.by_ x.line x.stp x.let_ x.oth x.clk x.app x.wts x.gon 0 x.txt x.spr) := okM_wt ok (by decide) ok.txt100
  refine lv_aload_n hx hb dM_walk_5 rfl (lv_at hl 0 rfl) ?_
  refine lv_iload_n hx hb dM_walk_6 rfl (lv_at hl 1 rfl) ?_
  refine lv_iconst (v := sI (0)) hx hb dM_walk_7 (by decide) ?_
  refine W.callR (W.runV (As := [.int (nI (r)), .int (sI (0))]) (rest := []) S (kM_next D cc q (mkM x.nn x.by_ x.line x.stp x.let_ x.oth x.clk x.app x.wts x.gon 0 x.txt x.spr) (r) (0) (by omega) (Nat.zero_le _) hpar ok1) (cwV 2 hts (gd_V wm_279 wm_280 wm_380 wm_4 wm_281) rfl rfl rfl (by decide +kernel) ⟨Nat.le_of_ble_eq_true rfl, Nat.le_of_ble_eq_true rfl⟩) (rd_preV (q0 := 0) hP hE rfl rfl) rfl rfl hl.1 rfl (lv_room (Nat.le_of_ble_eq_true rfl)) dM_walk_8 ⟨Nat.le_of_ble_eq_true rfl, Nat.le_of_ble_eq_true rfl⟩) ?_
  refine W.eq (g2 := F0 m 11 ls [.int (sI (nxtM (mkM x.nn x.by_ x.line x.stp x.let_ x.oth x.clk x.app x.wts x.gon 0 x.txt x.spr) (r) (0)))]) rfl ?_
  refine r_top (y := sI (nxtM x (r) (0))) rfl ?_
  refine lv_istore_n (lv' := [(2, .int (sI (nxtM x (r) (0)))), (0, .ref (q 0)), (1, .int (nI (r)))]) hx hb dM_walk_11 rfl hl (by decide) rfl (fun ls hl => ?_)
  exact L12 (xs.length + 1) (nxtM x (r) (0)) (xs) (0) (x.txt) H locs hP hD hS ls (by first | exact ch_le hv0 hle (Nat.zero_le _) | exact ch_le (ch_next hz3) (fun z hz => h5 z (List.mem_cons_of_mem _ hz)) (Nat.zero_le _)) (by first | exact hv0 | exact ch_next hz3) (by first | exact Nat.lt_succ_self _ | (simp only [List.length_cons] at h2; omega)) (by first | (rw [Nat.zero_add]; exact hlen) | (simp only [List.length_cons] at h3; omega)) (by first | rfl | (rw [← h4, wrtF_t c_22]; done) | (rw [← h4, wrtF_f c_22]; done)) (by first | exact hle | exact (fun z hz => h5 z (List.mem_cons_of_mem _ hz))) (by first | exact ok.txt100 | exact h6 | exact up_lt100 h6 (by omega)) (lv_sub hl [1, 2, 0] rfl)
