def rmM_sync : Room := { frames := 4, cells := 0, slots := 0, locals := 95 }
set_option maxHeartbeats 4000000 in
set_option maxRecDepth 100000 in
theorem kM_sync {l : Launch} (D : va_G) (cc : Nat → ClassId) (q : Nat → Nat) (x : MS) (sz : Nat) (z1 z2 : Int32) (hsy : ∀ r t o, r < 3 → t < 3 → o ≤ x.nn → syOK x r t o) (ok : okM x) : Met l yM_sync wsM_sync rmM_sync (va_Pc [.ref (q 0), .int (z1), .int (z2)] (WP D cc (wM cc q x) sz)) (va_Qi (RM_sync x z1 z2) (WQ D cc (va_A (wM cc q x) sz) (fun u : MS => wM cc q u)) (va_A (wM cc q x) sz)) 0 0 (va_A (wM cc q x) sz) := by
  refine wr_meti RM [.ref (q 0), .int (z1), .int (z2)] D cc (wM cc q x) sz (fun u : MS => wM cc q u) _ (by decide) rfl rfl (Nat.le_of_ble_eq_true rfl) (fun v _ _ => vp_nar_int v) ?_
  intro p e s m args below meth c Q A S hP hE hD hA kx ls hl
  obtain ⟨hx, hb, hml, hown, hts⟩ := id S
  have hK := hE.1
  have hts := hE.ts args
  have S : CallFix p m c cM_sync 5 s args wAll RM := ⟨hx, hb, hml, hown, hts⟩
  have hS : va_S A s.heap s.heap [] := va_S.rf
  have hn := ok.n
  have hl : lv_has ls 5 [(0, .ref (q 0)), (1, .int (z1)), (2, .int (z2))] := hl
  refine lv_iload_n hx hb dM_sync_0 rfl (lv_at hl 1 rfl) ?_
  refine W.callR (W.runS (As := [.int (z1)]) (rest := []) S (kM_isReplica ((z1))) (va_cwS 1 hts (gd_S wm_273 wm_274 wm_4 wm_275) rfl rfl rfl (by decide +kernel) ⟨Nat.le_of_ble_eq_true rfl, Nat.le_of_ble_eq_true rfl⟩) preT rfl rfl hl.1 rfl (lv_room (Nat.le_of_ble_eq_true rfl)) dM_sync_1 ⟨Nat.le_of_ble_eq_true rfl, Nat.le_of_ble_eq_true rfl⟩) ?_
  refine W.eq (g2 := F0 m 4 ls [.int (bI (isRep ((z1))))]) rfl ?_
  refine r_eqB (tgt := 14) hx hb dM_sync_4 (by decide) (fun c_4 => ?_) (fun c_4 => ?_)
  · refine lv_iconst (v := sI (0)) hx hb dM_sync_14 (by decide) ?_
    exact kx _ _ _ _ _ (x) dM_sync_15 hS hP hD (by first | exact Or.inl ⟨Or.inl c_4, sI_0, rfl⟩ | exact Or.inl ⟨Or.inr c_11, sI_0, rfl⟩)
  · obtain ⟨r, hr_r, rfl⟩ := isRep_of c_4
    refine lv_iload_n hx hb dM_sync_7 rfl (lv_at hl 2 rfl) ?_
    refine W.callR (W.runS (As := [.int (z2)]) (rest := []) S (kM_isReplica ((z2))) (va_cwS 1 hts (gd_S wm_273 wm_274 wm_4 wm_275) rfl rfl rfl (by decide +kernel) ⟨Nat.le_of_ble_eq_true rfl, Nat.le_of_ble_eq_true rfl⟩) preT rfl rfl hl.1 rfl (lv_room (Nat.le_of_ble_eq_true rfl)) dM_sync_8 ⟨Nat.le_of_ble_eq_true rfl, Nat.le_of_ble_eq_true rfl⟩) ?_
    refine W.eq (g2 := F0 m 11 ls [.int (bI (isRep ((z2))))]) rfl ?_
    refine r_neB (tgt := 16) hx hb dM_sync_11 (by decide) (fun c_11 => ?_) (fun c_11 => ?_)
    · obtain ⟨t, hr_t, rfl⟩ := isRep_of c_11
      have L21 : ∀ (n : Nat) (c2 : Nat) (o : Nat) (H : Heap) (locs : List Loc) (hP : va_P D vwCl (wM cc q ((synF x r t o).1)) H) (hD : va_D A (wM cc q ((synF x r t o).1))) (hS : va_S A s.heap H locs) (ls : Array Slot) (h1 : o ≤ x.nn) (h2 : x.nn - o < n) (g1 : c2 = (synF x r t o).2), lv_has ls 5 [(0, .ref (q 0)), (1, .int (nI (r))), (2, .int (nI (t))), (3, .int (nI (c2))), (4, .int (nI (o)))] → W p l e rmM_sync s m args below meth c H locs 0 0 Q (F0 m 21 ls []) := by
        intro n
        induction n with
        | zero => intro c2 o H locs hP hD hS ls h1 h2 g1 hl; exact absurd h2 (Nat.not_lt_zero _)
        | succ n ih =>
          intro c2 o H locs hP hD hS ls h1 h2 g1 hl
          have hy := hsy r t o hr_r hr_t h1
          have ok2 := hy.1
          have hnn := hy.2.1
          refine lv_iload hx hb dM_sync_21 (lv_at hl 4 rfl) ?_
          refine lv_aload_n hx hb dM_sync_23 rfl (lv_at hl 0 rfl) ?_
          refine va_get (D := D) (ci := 3) (v := .int (nI (((synF x r t o).1).nn))) (C := RM) (T := TM) (N := 13) hx hb hts in_M hown hK hP 0 rfl rfl 0 (by decide) (hts _ wm_243) (fun _ h9 => h9) rfl dM_sync_24 ?_
          refine r_ge (by omega) (Nat.lt_of_le_of_lt ok2.n (by decide)) (tgt := 60) hx hb dM_sync_27 (by decide) (fun c_27 => ?_) (fun c_27 => ?_)
          · refine lv_iload_n hx hb dM_sync_60 rfl (lv_at hl 3 rfl) ?_
            obtain rfl : o = x.nn := by omega
            exact kx _ _ _ _ _ ((synF x r t x.nn).1) dM_sync_61 hS hP hD (Or.inr ⟨r, t, hr_r, rfl, hr_t, rfl, by rw [g1], rfl⟩)
          · refine lv_iload_n hx hb dM_sync_30 rfl (lv_at hl 3 rfl) ?_
            refine lv_aload_n hx hb dM_sync_31 rfl (lv_at hl 0 rfl) ?_
            refine lv_iload_n hx hb dM_sync_32 rfl (lv_at hl 2 rfl) ?_
            refine lv_iload hx hb dM_sync_33 (lv_at hl 4 rfl) ?_
            refine W.callR (W.runV (As := [.int (nI (t)), .int (nI (o))]) (rest := [.int (nI (c2))]) S (kM_has D cc q ((synF x r t o).1) (t) (o) (by omega) (by omega)) (cwV 2 hts (gd_V wm_285 wm_286 wm_382 wm_4 wm_287) rfl rfl rfl (by decide +kernel) ⟨Nat.le_of_ble_eq_true rfl, Nat.le_of_ble_eq_true rfl⟩) (rd_preV (q0 := 0) hP hE rfl rfl) rfl rfl hl.1 rfl (lv_room (Nat.le_of_ble_eq_true rfl)) dM_sync_35 ⟨Nat.le_of_ble_eq_true rfl, Nat.le_of_ble_eq_true rfl⟩) ?_
            refine W.eq (g2 := F0 m 38 ls [.int (bI (((synF x r t o).1).app (100 * (t) + (o)))), .int (nI (c2))]) rfl ?_
            refine r_eqB (tgt := 51) hx hb dM_sync_38 (by decide) (fun c_38 => ?_) (fun c_38 => ?_)
            · refine lv_iconst (v := nI (0)) hx hb dM_sync_51 (by decide) ?_
              refine r_add hx hb dM_sync_52 ?_
              refine lv_istore_n (lv' := [(3, .int (nI (c2 + 0))), (0, .ref (q 0)), (1, .int (nI (r))), (2, .int (nI (t))), (4, .int (nI (o)))]) hx hb dM_sync_53 rfl hl (by decide) rfl (fun ls hl => ?_)
              refine lv_iinc (v := nI (o + 1)) (lv' := [(4, .int (nI (o + 1))), (3, .int (nI (c2 + 0))), (0, .ref (q 0)), (1, .int (nI (r))), (2, .int (nI (t)))]) hx hb dM_sync_54 hl (k := 4) rfl (nI_1 _) (by decide) rfl (fun ls hl => ?_)
              refine lv_goto (tgt := 21) hx hb dM_sync_57 (by decide) ?_
              have hP : va_P D vwCl (wM cc q ((synF x r t (o + 1)).1)) H := by first | (rw [synF_t c_38]; exact hP) | (rw [synF_f c_38]; exact hP)
              have hD : va_D A (wM cc q ((synF x r t (o + 1)).1)) := by first | (rw [synF_t c_38]; exact hD) | (rw [synF_f c_38]; exact hD)
              exact ih  (c2 + 0) (o + 1) H locs hP hD hS ls (by omega) (by omega) (by first | rfl | (rw [synF_t c_38, g1]; done) | (rw [synF_f c_38]; exact g1)) (lv_sub hl [2, 3, 4, 1, 0] rfl)
            · refine lv_aload_n hx hb dM_sync_41 rfl (lv_at hl 0 rfl) ?_
              refine lv_iload_n hx hb dM_sync_42 rfl (lv_at hl 1 rfl) ?_
              refine lv_iload hx hb dM_sync_43 (lv_at hl 4 rfl) ?_
              refine wr_calli (w2 := []) (va_runV (As := [.int (nI (r)), .int (nI (o))]) (rest := [.int (nI (c2))]) S (kM_deliver D cc q ((synF x r t o).1) (H.size) (nI (r)) (nI (o)) (hy.2.2.1) (fun r o h1 h2 => hy.2.2.2 r h1 o h2) (hy.1)) (cwV 2 hts (gd_V wm_318 wm_305 wm_306 wm_4 wm_307) rfl rfl rfl (by decide +kernel) ⟨Nat.le_of_ble_eq_true rfl, Nat.le_of_ble_eq_true rfl⟩) (wr_preV (q0 := 0) hP hE hD rfl rfl) rfl rfl hl.1 rfl (lv_room (Nat.le_of_ble_eq_true rfl)) dM_sync_45 ⟨Nat.le_of_ble_eq_true rfl, Nat.le_of_ble_eq_true rfl⟩) (by rw [List.append_nil]; exact hP) (by rw [List.append_nil]; exact hD) hS hA (fun v_45 u H locs hpo hP hD hS => ?_)
              rw [List.append_nil] at hP hD
              obtain ⟨rfl, rfl⟩ := RM_deliver_N hpo hr_r (by omega)
              have hP : va_P D vwCl (wM cc q ((dlvM ((synF x r t o).1) r o).1)) H := hP
              have hD : va_D A (wM cc q ((dlvM ((synF x r t o).1) r o).1)) := hD
              refine lv_goto (tgt := 52) hx hb dM_sync_48 (by decide) ?_
              refine r_add hx hb dM_sync_52 ?_
              refine lv_istore_n (lv' := [(3, .int (nI (c2 + ((dlvM ((synF x r t o).1) r o).2)))), (0, .ref (q 0)), (1, .int (nI (r))), (2, .int (nI (t))), (4, .int (nI (o)))]) hx hb dM_sync_53 rfl hl (by decide) rfl (fun ls hl => ?_)
              refine lv_iinc (v := nI (o + 1)) (lv' := [(4, .int (nI (o + 1))), (3, .int (nI (c2 + ((dlvM ((synF x r t o).1) r o).2)))), (0, .ref (q 0)), (1, .int (nI (r))), (2, .int (nI (t)))]) hx hb dM_sync_54 hl (k := 4) rfl (nI_1 _) (by decide) rfl (fun ls hl => ?_)
              refine lv_goto (tgt := 21) hx hb dM_sync_57 (by decide) ?_
              have hP : va_P D vwCl (wM cc q ((synF x r t (o + 1)).1)) H := by first | (rw [synF_t c_38]; exact hP) | (rw [synF_f c_38]; exact hP)
              have hD : va_D A (wM cc q ((synF x r t (o + 1)).1)) := by first | (rw [synF_t c_38]; exact hD) | (rw [synF_f c_38]; exact hD)
              exact ih  (c2 + ((dlvM ((synF x r t o).1) r o).2)) (o + 1) H locs hP hD hS ls (by omega) (by omega) (by first | rfl | (rw [synF_t c_38, g1]; done) | (rw [synF_f c_38]; exact g1)) (lv_sub hl [2, 3, 4, 1, 0] rfl)
      refine lv_iconst (v := nI (0)) hx hb dM_sync_16 (by decide) ?_
      refine lv_istore_n (lv' := [(3, .int (nI (0))), (0, .ref (q 0)), (1, .int (nI (r))), (2, .int (nI (t)))]) hx hb dM_sync_17 rfl hl (by decide) rfl (fun ls hl => ?_)
      refine lv_iconst (v := nI (0)) hx hb dM_sync_18 (by decide) ?_
      refine lv_istore (lv' := [(4, .int (nI (0))), (3, .int (nI (0))), (0, .ref (q 0)), (1, .int (nI (r))), (2, .int (nI (t)))]) hx hb dM_sync_19 hl (by decide) rfl (fun ls hl => ?_)
      exact L21 (x.nn + 1) (0) (0) s.heap [] hP hD hS ls (by omega) (by omega) (by first | rfl | (rw [synF_t c_38, g1]; done) | (rw [synF_f c_38]; exact g1)) (lv_sub hl [2, 3, 4, 1, 0] rfl)
    · refine lv_iconst (v := sI (0)) hx hb dM_sync_14 (by decide) ?_
      exact kx _ _ _ _ _ (x) dM_sync_15 hS hP hD (by first | exact Or.inl ⟨Or.inl c_4, sI_0, rfl⟩ | exact Or.inl ⟨Or.inr c_11, sI_0, rfl⟩)

def rmM_collect : Room := { frames := 5, cells := 0, slots := 0, locals := 121 }
set_option maxHeartbeats 4000000 in
set_option maxRecDepth 100000 in
theorem kM_collect {l : Launch} (D : va_G) (cc : Nat → ClassId) (q : Nat → Nat) (x : MS) (sz : Nat) (z1 : Int32) (ok : okM x) : Met l yM_collect wsM_collect rmM_collect (va_Pc [.ref (q 0), .int (z1)] (WP D cc (wM cc q x) sz)) (va_Qi (RM_collect x z1) (WQ D cc (va_A (wM cc q x) sz) (fun u : MS => wM cc q u)) (va_A (wM cc q x) sz)) 0 0 (va_A (wM cc q x) sz) := by
  refine wr_meti RM [.ref (q 0), .int (z1)] D cc (wM cc q x) sz (fun u : MS => wM cc q u) _ (by decide) rfl rfl (Nat.le_of_ble_eq_true rfl) (fun v _ _ => vp_nar_int v) ?_
  intro p e s m args below meth c Q A S hP hE hD hA kx ls hl
  obtain ⟨hx, hb, hml, hown, hts⟩ := id S
  have hK := hE.1
  have hts := hE.ts args
  have S : CallFix p m c cM_collect 4 s args wAll RM := ⟨hx, hb, hml, hown, hts⟩
  have hS : va_S A s.heap s.heap [] := va_S.rf
  have hn := ok.n
  have hl : lv_has ls 4 [(0, .ref (q 0)), (1, .int (z1))] := hl
  refine lv_iload_n hx hb dM_collect_0 rfl (lv_at hl 1 rfl) ?_
  refine W.callR (W.runS (As := [.int (z1)]) (rest := []) S (kM_isReplica ((z1))) (va_cwS 1 hts (gd_S wm_273 wm_274 wm_4 wm_275) rfl rfl rfl (by decide +kernel) ⟨Nat.le_of_ble_eq_true rfl, Nat.le_of_ble_eq_true rfl⟩) preT rfl rfl hl.1 rfl (lv_room (Nat.le_of_ble_eq_true rfl)) dM_collect_1 ⟨Nat.le_of_ble_eq_true rfl, Nat.le_of_ble_eq_true rfl⟩) ?_
  refine W.eq (g2 := F0 m 4 ls [.int (bI (isRep ((z1))))]) rfl ?_
  refine r_neB (tgt := 9) hx hb dM_collect_4 (by decide) (fun c_4 => ?_) (fun c_4 => ?_)
  · obtain ⟨r, hr_r, rfl⟩ := isRep_of c_4
    have L13 : ∀ (n : Nat) (c2 : Nat) (o : Nat) (H : Heap) (locs : List Loc) (hP : va_P D vwCl (wM cc q (mkM x.nn x.by_ x.line x.stp x.let_ x.oth x.clk x.app x.wts ((colF x r o).1) x.len x.txt x.spr)) H) (hD : va_D A (wM cc q (mkM x.nn x.by_ x.line x.stp x.let_ x.oth x.clk x.app x.wts ((colF x r o).1) x.len x.txt x.spr))) (hS : va_S A s.heap H locs) (ls : Array Slot) (h1 : o ≤ x.nn) (h2 : x.nn - o < n) (g1 : c2 = (colF x r o).2), lv_has ls 4 [(0, .ref (q 0)), (1, .int (nI (r))), (2, .int (nI (c2))), (3, .int (nI (o)))] → W p l e rmM_collect s m args below meth c H locs 0 0 Q (F0 m 13 ls []) := by
      intro n
      induction n with
      | zero => intro c2 o H locs hP hD hS ls h1 h2 g1 hl; exact absurd h2 (Nat.not_lt_zero _)
      | succ n ih =>
        intro c2 o H locs hP hD hS ls h1 h2 g1 hl
        have ok2 : okM (mkM x.nn x.by_ x.line x.stp x.let_ x.oth x.clk x.app x.wts ((colF x r o).1) x.len x.txt x.spr) := ok
        refine lv_iload_n hx hb dM_collect_13 rfl (lv_at hl 3 rfl) ?_
        refine lv_aload_n hx hb dM_collect_14 rfl (lv_at hl 0 rfl) ?_
        refine va_get (D := D) (ci := 3) (v := .int (nI (x.nn))) (C := RM) (T := TM) (N := 13) hx hb hts in_M hown hK hP 0 rfl rfl 0 (by decide) (hts _ wm_243) (fun _ h9 => h9) rfl dM_collect_15 ?_
        refine r_ge (by omega) (Nat.lt_of_le_of_lt ok2.n (by decide)) (tgt := 60) hx hb dM_collect_18 (by decide) (fun c_18 => ?_) (fun c_18 => ?_)
        · refine lv_iload_n hx hb dM_collect_60 rfl (lv_at hl 2 rfl) ?_
          obtain rfl : o = x.nn := by omega
          exact kx _ _ _ _ _ (gnM x (colF x r x.nn).1) dM_collect_61 hS hP hD (Or.inr ⟨r, hr_r, rfl, by rw [g1], rfl⟩)
        · refine lv_aload_n hx hb dM_collect_21 rfl (lv_at hl 0 rfl) ?_
          refine lv_iload_n hx hb dM_collect_22 rfl (lv_at hl 1 rfl) ?_
          refine lv_iload_n hx hb dM_collect_23 rfl (lv_at hl 3 rfl) ?_
          refine W.callR (W.runV (As := [.int (nI (r)), .int (nI (o))]) (rest := []) S (kM_keeps D cc q (mkM x.nn x.by_ x.line x.stp x.let_ x.oth x.clk x.app x.wts ((colF x r o).1) x.len x.txt x.spr) (r) (o) (by omega) (by omega) ok2) (cwV 2 hts (gd_V wm_332 wm_333 wm_389 wm_4 wm_334) rfl rfl rfl (by decide +kernel) ⟨Nat.le_of_ble_eq_true rfl, Nat.le_of_ble_eq_true rfl⟩) (rd_preV (q0 := 0) hP hE rfl rfl) rfl rfl hl.1 rfl (lv_room (Nat.le_of_ble_eq_true rfl)) dM_collect_24 ⟨Nat.le_of_ble_eq_true rfl, Nat.le_of_ble_eq_true rfl⟩) ?_
          refine W.eq (g2 := F0 m 27 ls [.int (bI (kpsM (mkM x.nn x.by_ x.line x.stp x.let_ x.oth x.clk x.app x.wts ((colF x r o).1) x.len x.txt x.spr) (r) (o)))]) rfl ?_
          refine r_eqB (tgt := 54) hx hb dM_collect_27 (by decide) (fun c_27 => ?_) (fun c_27 => ?_)
          · refine lv_iinc (v := nI (o + 1)) (lv' := [(3, .int (nI (o + 1))), (0, .ref (q 0)), (1, .int (nI (r))), (2, .int (nI (c2)))]) hx hb dM_collect_54 hl (k := 3) rfl (nI_1 _) (by decide) rfl (fun ls hl => ?_)
            refine lv_goto (tgt := 13) hx hb dM_collect_57 (by decide) ?_
            have hP : va_P D vwCl (wM cc q (mkM x.nn x.by_ x.line x.stp x.let_ x.oth x.clk x.app x.wts ((colF x r (o + 1)).1) x.len x.txt x.spr)) H := by first | (rw [colF_t c_27 c_36]; exact hP) | (rw [colF_f1 c_27]; exact hP) | (rw [colF_f2 c_36]; exact hP)
            have hD : va_D A (wM cc q (mkM x.nn x.by_ x.line x.stp x.let_ x.oth x.clk x.app x.wts ((colF x r (o + 1)).1) x.len x.txt x.spr)) := by first | (rw [colF_t c_27 c_36]; exact hD) | (rw [colF_f1 c_27]; exact hD) | (rw [colF_f2 c_36]; exact hD)
            exact ih  (c2) (o + 1) H locs hP hD hS ls (by omega) (by omega) (by first | rfl | (rw [colF_t c_27 c_36, g1]; done) | (rw [colF_f1 c_27]; exact g1) | (rw [colF_f2 c_36]; exact g1)) (lv_sub hl [1, 2, 3, 0] rfl)
          · refine lv_aload_n hx hb dM_collect_30 rfl (lv_at hl 0 rfl) ?_
            refine lv_iload_n hx hb dM_collect_31 rfl (lv_at hl 1 rfl) ?_
            refine lv_iload_n hx hb dM_collect_32 rfl (lv_at hl 3 rfl) ?_
            refine W.callR (W.runV (As := [.int (nI (r)), .int (nI (o))]) (rest := []) S (kM_idle D cc q (mkM x.nn x.by_ x.line x.stp x.let_ x.oth x.clk x.app x.wts ((colF x r o).1) x.len x.txt x.spr) (r) (o) (by omega) (by omega) ok2) (cwV 2 hts (gd_V wm_335 wm_336 wm_390 wm_4 wm_337) rfl rfl rfl (by decide +kernel) ⟨Nat.le_of_ble_eq_true rfl, Nat.le_of_ble_eq_true rfl⟩) (rd_preV (q0 := 0) hP hE rfl rfl) rfl rfl hl.1 rfl (lv_room (Nat.le_of_ble_eq_true rfl)) dM_collect_33 ⟨Nat.le_of_ble_eq_true rfl, Nat.le_of_ble_eq_true rfl⟩) ?_
            refine W.eq (g2 := F0 m 36 ls [.int (bI (idlM (mkM x.nn x.by_ x.line x.stp x.let_ x.oth x.clk x.app x.wts ((colF x r o).1) x.len x.txt x.spr) (r) (o)))]) rfl ?_
            refine r_eqB (tgt := 54) hx hb dM_collect_36 (by decide) (fun c_36 => ?_) (fun c_36 => ?_)
            · refine lv_iinc (v := nI (o + 1)) (lv' := [(3, .int (nI (o + 1))), (0, .ref (q 0)), (1, .int (nI (r))), (2, .int (nI (c2)))]) hx hb dM_collect_54 hl (k := 3) rfl (nI_1 _) (by decide) rfl (fun ls hl => ?_)
              refine lv_goto (tgt := 13) hx hb dM_collect_57 (by decide) ?_
              have hP : va_P D vwCl (wM cc q (mkM x.nn x.by_ x.line x.stp x.let_ x.oth x.clk x.app x.wts ((colF x r (o + 1)).1) x.len x.txt x.spr)) H := by first | (rw [colF_t c_27 c_36]; exact hP) | (rw [colF_f1 c_27]; exact hP) | (rw [colF_f2 c_36]; exact hP)
              have hD : va_D A (wM cc q (mkM x.nn x.by_ x.line x.stp x.let_ x.oth x.clk x.app x.wts ((colF x r (o + 1)).1) x.len x.txt x.spr)) := by first | (rw [colF_t c_27 c_36]; exact hD) | (rw [colF_f1 c_27]; exact hD) | (rw [colF_f2 c_36]; exact hD)
              exact ih  (c2) (o + 1) H locs hP hD hS ls (by omega) (by omega) (by first | rfl | (rw [colF_t c_27 c_36, g1]; done) | (rw [colF_f1 c_27]; exact g1) | (rw [colF_f2 c_36]; exact g1)) (lv_sub hl [1, 2, 3, 0] rfl)
            · refine lv_aload_n hx hb dM_collect_39 rfl (lv_at hl 0 rfl) ?_
              refine va_get (D := D) (ci := 3) (v := .ref (q 9)) (C := RM) (T := TM) (N := 13) hx hb hts in_M hown hK hP 0 rfl rfl 9 (by decide) (hts _ wm_252) (fun _ h9 => h9) rfl dM_collect_40 ?_
              refine lv_bipush (v := nI (100)) hx hb dM_collect_43 (by decide) ?_
              refine lv_iload_n hx hb dM_collect_45 rfl (lv_at hl 1 rfl) ?_
              refine r_mul hx hb dM_collect_46 ?_
              refine lv_iload_n hx hb dM_collect_47 rfl (lv_at hl 3 rfl) ?_
              refine r_add hx hb dM_collect_48 ?_
              refine lv_iconst (v := nI (1)) hx hb dM_collect_49 (by decide) ?_
              refine r_top (y := bI (true)) (by decide) ?_
              refine r_zast (((colF x r o).1)) (true) (q0 := 9) (t0 := 1) hx hb hK hP hD hS rfl rfl (by omega) (by decide) dM_collect_50 (fun H locs hP hD hS => ?_)
              have hP : va_P D vwCl (wM cc q (mkM x.nn x.by_ x.line x.stp x.let_ x.oth x.clk x.app x.wts (va_up (colF x r o).1 (100 * r + o) true) x.len x.txt x.spr)) H := hP
              have hD : va_D A (wM cc q (mkM x.nn x.by_ x.line x.stp x.let_ x.oth x.clk x.app x.wts (va_up (colF x r o).1 (100 * r + o) true) x.len x.txt x.spr)) := hD
              refine lv_iinc (v := nI (c2 + 1)) (lv' := [(2, .int (nI (c2 + 1))), (0, .ref (q 0)), (1, .int (nI (r))), (3, .int (nI (o)))]) hx hb dM_collect_51 hl (k := 2) rfl (nI_1 _) (by decide) rfl (fun ls hl => ?_)
              refine lv_iinc (v := nI (o + 1)) (lv' := [(3, .int (nI (o + 1))), (2, .int (nI (c2 + 1))), (0, .ref (q 0)), (1, .int (nI (r)))]) hx hb dM_collect_54 hl (k := 3) rfl (nI_1 _) (by decide) rfl (fun ls hl => ?_)
              refine lv_goto (tgt := 13) hx hb dM_collect_57 (by decide) ?_
              have hP : va_P D vwCl (wM cc q (mkM x.nn x.by_ x.line x.stp x.let_ x.oth x.clk x.app x.wts ((colF x r (o + 1)).1) x.len x.txt x.spr)) H := by first | (rw [colF_t c_27 c_36]; exact hP) | (rw [colF_f1 c_27]; exact hP) | (rw [colF_f2 c_36]; exact hP)
              have hD : va_D A (wM cc q (mkM x.nn x.by_ x.line x.stp x.let_ x.oth x.clk x.app x.wts ((colF x r (o + 1)).1) x.len x.txt x.spr)) := by first | (rw [colF_t c_27 c_36]; exact hD) | (rw [colF_f1 c_27]; exact hD) | (rw [colF_f2 c_36]; exact hD)
              exact ih  (c2 + 1) (o + 1) H locs hP hD hS ls (by omega) (by omega) (by first | rfl | (rw [colF_t c_27 c_36, g1]; done) | (rw [colF_f1 c_27]; exact g1) | (rw [colF_f2 c_36]; exact g1)) (lv_sub hl [2, 3, 1, 0] rfl)
    refine lv_iconst (v := nI (0)) hx hb dM_collect_9 (by decide) ?_
    refine lv_istore_n (lv' := [(2, .int (nI (0))), (0, .ref (q 0)), (1, .int (nI (r)))]) hx hb dM_collect_10 rfl hl (by decide) rfl (fun ls hl => ?_)
    refine lv_iconst (v := nI (0)) hx hb dM_collect_11 (by decide) ?_
    refine lv_istore_n (lv' := [(3, .int (nI (0))), (2, .int (nI (0))), (0, .ref (q 0)), (1, .int (nI (r)))]) hx hb dM_collect_12 rfl hl (by decide) rfl (fun ls hl => ?_)
    exact L13 (x.nn + 1) (0) (0) s.heap [] hP hD hS ls (by omega) (by omega) (by first | rfl | (rw [colF_t c_27 c_36, g1]; done) | (rw [colF_f1 c_27]; exact g1) | (rw [colF_f2 c_36]; exact g1)) (lv_sub hl [2, 3, 1, 0] rfl)
  · refine lv_iconst (v := sI (0)) hx hb dM_collect_7 (by decide) ?_
    exact kx _ _ _ _ _ (x) dM_collect_8 hS hP hD (Or.inl ⟨c_4, sI_0, rfl⟩)

def rmM_kept : Room := { frames := 2, cells := 0, slots := 0, locals := 44 }
set_option maxHeartbeats 4000000 in
set_option maxRecDepth 100000 in
theorem kM_kept {l : Launch} (D : va_G) (cc : Nat → ClassId) (q : Nat → Nat) (x : MS) (sz : Nat) (z1 : Int32) (ok : okM x) : Met l yM_kept wsM_kept rmM_kept (va_Pc [.ref (q 0), .int (z1)] (WP D cc (wM cc q x) sz)) (va_Qi (RM_num (fun r o => kpsM x r o) x z1) (WQ D cc (va_A (wM cc q x) sz) (fun u : MS => wM cc q u)) (va_A (wM cc q x) sz)) 0 0 (va_A (wM cc q x) sz) := by
  refine wr_meti RM [.ref (q 0), .int (z1)] D cc (wM cc q x) sz (fun u : MS => wM cc q u) _ (by decide) rfl rfl (Nat.le_of_ble_eq_true rfl) (fun v _ _ => vp_nar_int v) ?_
  intro p e s m args below meth c Q A S hP hE hD hA kx ls hl
  obtain ⟨hx, hb, hml, hown, hts⟩ := id S
  have hK := hE.1
  have hts := hE.ts args
  have S : CallFix p m c cM_kept 4 s args wAll RM := ⟨hx, hb, hml, hown, hts⟩
  have hS : va_S A s.heap s.heap [] := va_S.rf
  have hn := ok.n
  have hl : lv_has ls 4 [(0, .ref (q 0)), (1, .int (z1))] := hl
  refine lv_iload_n hx hb dM_kept_0 rfl (lv_at hl 1 rfl) ?_
  refine W.callR (W.runS (As := [.int (z1)]) (rest := []) S (kM_isReplica ((z1))) (va_cwS 1 hts (gd_S wm_273 wm_274 wm_4 wm_275) rfl rfl rfl (by decide +kernel) ⟨Nat.le_of_ble_eq_true rfl, Nat.le_of_ble_eq_true rfl⟩) preT rfl rfl hl.1 rfl (lv_room (Nat.le_of_ble_eq_true rfl)) dM_kept_1 ⟨Nat.le_of_ble_eq_true rfl, Nat.le_of_ble_eq_true rfl⟩) ?_
  refine W.eq (g2 := F0 m 4 ls [.int (bI (isRep ((z1))))]) rfl ?_
  refine r_neB (tgt := 9) hx hb dM_kept_4 (by decide) (fun c_4 => ?_) (fun c_4 => ?_)
  · obtain ⟨r, hr_r, rfl⟩ := isRep_of c_4
    have L13 : ∀ (n : Nat) (c2 : Nat) (o : Nat) (H : Heap) (locs : List Loc) (hP : va_P D vwCl (wM cc q (x)) H) (hD : va_D A (wM cc q (x))) (hS : va_S A s.heap H locs) (ls : Array Slot) (h1 : o ≤ x.nn) (h2 : x.nn - o < n) (g1 : c2 = numF (fun o => kpsM x r o) o), lv_has ls 4 [(0, .ref (q 0)), (1, .int (nI (r))), (2, .int (nI (c2))), (3, .int (nI (o)))] → W p l e rmM_kept s m args below meth c H locs 0 0 Q (F0 m 13 ls []) := by
      intro n
      induction n with
      | zero => intro c2 o H locs hP hD hS ls h1 h2 g1 hl; exact absurd h2 (Nat.not_lt_zero _)
      | succ n ih =>
        intro c2 o H locs hP hD hS ls h1 h2 g1 hl
        refine lv_iload_n hx hb dM_kept_13 rfl (lv_at hl 3 rfl) ?_
        refine lv_aload_n hx hb dM_kept_14 rfl (lv_at hl 0 rfl) ?_
        refine va_get (D := D) (ci := 3) (v := .int (nI (x.nn))) (C := RM) (T := TM) (N := 13) hx hb hts in_M hown hK hP 0 rfl rfl 0 (by decide) (hts _ wm_243) (fun _ h9 => h9) rfl dM_kept_15 ?_
        refine r_ge (by omega) (Nat.lt_of_le_of_lt ok.n (by decide)) (tgt := 44) hx hb dM_kept_18 (by decide) (fun c_18 => ?_) (fun c_18 => ?_)
        · refine lv_iload_n hx hb dM_kept_44 rfl (lv_at hl 2 rfl) ?_
          obtain rfl : o = x.nn := by omega
          exact kx _ _ _ _ _ (x) dM_kept_45 hS hP hD (Or.inr ⟨r, hr_r, rfl, by rw [g1], rfl⟩)
        · refine lv_aload_n hx hb dM_kept_21 rfl (lv_at hl 0 rfl) ?_
          refine lv_iload_n hx hb dM_kept_22 rfl (lv_at hl 1 rfl) ?_
          refine lv_iload_n hx hb dM_kept_23 rfl (lv_at hl 3 rfl) ?_
          refine W.callR (W.runV (As := [.int (nI (r)), .int (nI (o))]) (rest := []) S (kM_keeps D cc q x (r) (o) (by omega) (by omega) ok) (cwV 2 hts (gd_V wm_332 wm_333 wm_389 wm_4 wm_334) rfl rfl rfl (by decide +kernel) ⟨Nat.le_of_ble_eq_true rfl, Nat.le_of_ble_eq_true rfl⟩) (rd_preV (q0 := 0) hP hE rfl rfl) rfl rfl hl.1 rfl (lv_room (Nat.le_of_ble_eq_true rfl)) dM_kept_24 ⟨Nat.le_of_ble_eq_true rfl, Nat.le_of_ble_eq_true rfl⟩) ?_
          refine W.eq (g2 := F0 m 27 ls [.int (bI (kpsM x (r) (o)))]) rfl ?_
          refine r_eqB (tgt := 36) hx hb dM_kept_27 (by decide) (fun c_27 => ?_) (fun c_27 => ?_)
          · refine lv_iload_n hx hb dM_kept_36 rfl (lv_at hl 2 rfl) ?_
            refine lv_istore_n (lv' := [(2, .int (nI (c2))), (0, .ref (q 0)), (1, .int (nI (r))), (3, .int (nI (o)))]) hx hb dM_kept_37 rfl hl (by decide) rfl (fun ls hl => ?_)
            refine lv_iinc (v := nI (o + 1)) (lv' := [(3, .int (nI (o + 1))), (2, .int (nI (c2))), (0, .ref (q 0)), (1, .int (nI (r)))]) hx hb dM_kept_38 hl (k := 3) rfl (nI_1 _) (by decide) rfl (fun ls hl => ?_)
            refine lv_goto (tgt := 13) hx hb dM_kept_41 (by decide) ?_
            exact ih  (c2) (o + 1) H locs hP hD hS ls (by omega) (by omega) (by first | rfl | (rw [numF_t (g := fun o => kpsM x r o) c_27, g1]; done) | (rw [numF_f (g := fun o => kpsM x r o) c_27, g1]; done)) (lv_sub hl [2, 3, 1, 0] rfl)
          · refine lv_iload_n hx hb dM_kept_30 rfl (lv_at hl 2 rfl) ?_
            refine lv_iconst (v := nI (1)) hx hb dM_kept_31 (by decide) ?_
            refine r_add hx hb dM_kept_32 ?_
            refine lv_goto (tgt := 37) hx hb dM_kept_33 (by decide) ?_
            refine lv_istore_n (lv' := [(2, .int (nI (c2 + 1))), (0, .ref (q 0)), (1, .int (nI (r))), (3, .int (nI (o)))]) hx hb dM_kept_37 rfl hl (by decide) rfl (fun ls hl => ?_)
            refine lv_iinc (v := nI (o + 1)) (lv' := [(3, .int (nI (o + 1))), (2, .int (nI (c2 + 1))), (0, .ref (q 0)), (1, .int (nI (r)))]) hx hb dM_kept_38 hl (k := 3) rfl (nI_1 _) (by decide) rfl (fun ls hl => ?_)
            refine lv_goto (tgt := 13) hx hb dM_kept_41 (by decide) ?_
            exact ih  (c2 + 1) (o + 1) H locs hP hD hS ls (by omega) (by omega) (by first | rfl | (rw [numF_t (g := fun o => kpsM x r o) c_27, g1]; done) | (rw [numF_f (g := fun o => kpsM x r o) c_27, g1]; done)) (lv_sub hl [2, 3, 1, 0] rfl)
    refine lv_iconst (v := nI (0)) hx hb dM_kept_9 (by decide) ?_
    refine lv_istore_n (lv' := [(2, .int (nI (0))), (0, .ref (q 0)), (1, .int (nI (r)))]) hx hb dM_kept_10 rfl hl (by decide) rfl (fun ls hl => ?_)
    refine lv_iconst (v := nI (0)) hx hb dM_kept_11 (by decide) ?_
    refine lv_istore_n (lv' := [(3, .int (nI (0))), (2, .int (nI (0))), (0, .ref (q 0)), (1, .int (nI (r)))]) hx hb dM_kept_12 rfl hl (by decide) rfl (fun ls hl => ?_)
    exact L13 (x.nn + 1) (0) (0) s.heap [] hP hD hS ls (by omega) (by omega) (by first | rfl | (rw [numF_t (g := fun o => kpsM x r o) c_27, g1]; done) | (rw [numF_f (g := fun o => kpsM x r o) c_27, g1]; done)) (lv_sub hl [2, 3, 1, 0] rfl)
  · refine lv_iconst (v := sI (0)) hx hb dM_kept_7 (by decide) ?_
    exact kx _ _ _ _ _ (x) dM_kept_8 hS hP hD (Or.inl ⟨c_4, sI_0, rfl⟩)

def rmM_waiting : Room := { frames := 1, cells := 0, slots := 0, locals := 20 }
set_option maxHeartbeats 4000000 in
set_option maxRecDepth 100000 in
theorem kM_waiting {l : Launch} (D : va_G) (cc : Nat → ClassId) (q : Nat → Nat) (x : MS) (sz : Nat) (z1 : Int32) (ok : okM x) : Met l yM_waiting wsM_waiting rmM_waiting (va_Pc [.ref (q 0), .int (z1)] (WP D cc (wM cc q x) sz)) (va_Qi (RM_num (fun r o => x.wts (100 * r + o)) x z1) (WQ D cc (va_A (wM cc q x) sz) (fun u : MS => wM cc q u)) (va_A (wM cc q x) sz)) 0 0 (va_A (wM cc q x) sz) := by
  refine wr_meti RM [.ref (q 0), .int (z1)] D cc (wM cc q x) sz (fun u : MS => wM cc q u) _ (by decide) rfl rfl (Nat.le_of_ble_eq_true rfl) (fun v _ _ => vp_nar_int v) ?_
  intro p e s m args below meth c Q A S hP hE hD hA kx ls hl
  obtain ⟨hx, hb, hml, hown, hts⟩ := id S
  have hK := hE.1
  have hts := hE.ts args
  have S : CallFix p m c cM_waiting 4 s args wAll RM := ⟨hx, hb, hml, hown, hts⟩
  have hS : va_S A s.heap s.heap [] := va_S.rf
  have hn := ok.n
  have hl : lv_has ls 4 [(0, .ref (q 0)), (1, .int (z1))] := hl
  refine lv_iload_n hx hb dM_waiting_0 rfl (lv_at hl 1 rfl) ?_
  refine W.callR (W.runS (As := [.int (z1)]) (rest := []) S (kM_isReplica ((z1))) (va_cwS 1 hts (gd_S wm_273 wm_274 wm_4 wm_275) rfl rfl rfl (by decide +kernel) ⟨Nat.le_of_ble_eq_true rfl, Nat.le_of_ble_eq_true rfl⟩) preT rfl rfl hl.1 rfl (lv_room (Nat.le_of_ble_eq_true rfl)) dM_waiting_1 ⟨Nat.le_of_ble_eq_true rfl, Nat.le_of_ble_eq_true rfl⟩) ?_
  refine W.eq (g2 := F0 m 4 ls [.int (bI (isRep ((z1))))]) rfl ?_
  refine r_neB (tgt := 9) hx hb dM_waiting_4 (by decide) (fun c_4 => ?_) (fun c_4 => ?_)
  · obtain ⟨r, hr_r, rfl⟩ := isRep_of c_4
    have L13 : ∀ (n : Nat) (c2 : Nat) (o : Nat) (H : Heap) (locs : List Loc) (hP : va_P D vwCl (wM cc q (x)) H) (hD : va_D A (wM cc q (x))) (hS : va_S A s.heap H locs) (ls : Array Slot) (h1 : o ≤ x.nn) (h2 : x.nn - o < n) (g1 : c2 = numF (fun o => x.wts (100 * r + o)) o), lv_has ls 4 [(0, .ref (q 0)), (1, .int (nI (r))), (2, .int (nI (c2))), (3, .int (nI (o)))] → W p l e rmM_waiting s m args below meth c H locs 0 0 Q (F0 m 13 ls []) := by
      intro n
      induction n with
      | zero => intro c2 o H locs hP hD hS ls h1 h2 g1 hl; exact absurd h2 (Nat.not_lt_zero _)
      | succ n ih =>
        intro c2 o H locs hP hD hS ls h1 h2 g1 hl
        refine lv_iload_n hx hb dM_waiting_13 rfl (lv_at hl 3 rfl) ?_
        refine lv_aload_n hx hb dM_waiting_14 rfl (lv_at hl 0 rfl) ?_
        refine va_get (D := D) (ci := 3) (v := .int (nI (x.nn))) (C := RM) (T := TM) (N := 13) hx hb hts in_M hown hK hP 0 rfl rfl 0 (by decide) (hts _ wm_243) (fun _ h9 => h9) rfl dM_waiting_15 ?_
        refine r_ge (by omega) (Nat.lt_of_le_of_lt ok.n (by decide)) (tgt := 49) hx hb dM_waiting_18 (by decide) (fun c_18 => ?_) (fun c_18 => ?_)
        · refine lv_iload_n hx hb dM_waiting_49 rfl (lv_at hl 2 rfl) ?_
          obtain rfl : o = x.nn := by omega
          exact kx _ _ _ _ _ (x) dM_waiting_50 hS hP hD (Or.inr ⟨r, hr_r, rfl, by rw [g1], rfl⟩)
        · refine lv_aload_n hx hb dM_waiting_21 rfl (lv_at hl 0 rfl) ?_
          refine va_get (D := D) (ci := 3) (v := .ref (q 8)) (C := RM) (T := TM) (N := 13) hx hb hts in_M hown hK hP 0 rfl rfl 8 (by decide) (hts _ wm_251) (fun _ h9 => h9) rfl dM_waiting_22 ?_
          refine lv_bipush (v := nI (100)) hx hb dM_waiting_25 (by decide) ?_
          refine lv_iload_n hx hb dM_waiting_27 rfl (lv_at hl 1 rfl) ?_
          refine r_mul hx hb dM_waiting_28 ?_
          refine lv_iload_n hx hb dM_waiting_29 rfl (lv_at hl 3 rfl) ?_
          refine r_add hx hb dM_waiting_30 ?_
          refine r_zald (q0 := 8) (t0 := 1) hx hb hK hP rfl rfl (by omega) (by decide) dM_waiting_31 ?_
          refine r_eqB (tgt := 41) hx hb dM_waiting_32 (by decide) (fun c_32 => ?_) (fun c_32 => ?_)
          · refine lv_iload_n hx hb dM_waiting_41 rfl (lv_at hl 2 rfl) ?_
            refine lv_istore_n (lv' := [(2, .int (nI (c2))), (0, .ref (q 0)), (1, .int (nI (r))), (3, .int (nI (o)))]) hx hb dM_waiting_42 rfl hl (by decide) rfl (fun ls hl => ?_)
            refine lv_iinc (v := nI (o + 1)) (lv' := [(3, .int (nI (o + 1))), (2, .int (nI (c2))), (0, .ref (q 0)), (1, .int (nI (r)))]) hx hb dM_waiting_43 hl (k := 3) rfl (nI_1 _) (by decide) rfl (fun ls hl => ?_)
            refine lv_goto (tgt := 13) hx hb dM_waiting_46 (by decide) ?_
            exact ih  (c2) (o + 1) H locs hP hD hS ls (by omega) (by omega) (by first | rfl | (rw [numF_t (g := fun o => x.wts (100 * r + o)) c_32, g1]; done) | (rw [numF_f (g := fun o => x.wts (100 * r + o)) c_32, g1]; done)) (lv_sub hl [2, 3, 1, 0] rfl)
          · refine lv_iload_n hx hb dM_waiting_35 rfl (lv_at hl 2 rfl) ?_
            refine lv_iconst (v := nI (1)) hx hb dM_waiting_36 (by decide) ?_
            refine r_add hx hb dM_waiting_37 ?_
            refine lv_goto (tgt := 42) hx hb dM_waiting_38 (by decide) ?_
            refine lv_istore_n (lv' := [(2, .int (nI (c2 + 1))), (0, .ref (q 0)), (1, .int (nI (r))), (3, .int (nI (o)))]) hx hb dM_waiting_42 rfl hl (by decide) rfl (fun ls hl => ?_)
            refine lv_iinc (v := nI (o + 1)) (lv' := [(3, .int (nI (o + 1))), (2, .int (nI (c2 + 1))), (0, .ref (q 0)), (1, .int (nI (r)))]) hx hb dM_waiting_43 hl (k := 3) rfl (nI_1 _) (by decide) rfl (fun ls hl => ?_)
            refine lv_goto (tgt := 13) hx hb dM_waiting_46 (by decide) ?_
            exact ih  (c2 + 1) (o + 1) H locs hP hD hS ls (by omega) (by omega) (by first | rfl | (rw [numF_t (g := fun o => x.wts (100 * r + o)) c_32, g1]; done) | (rw [numF_f (g := fun o => x.wts (100 * r + o)) c_32, g1]; done)) (lv_sub hl [2, 3, 1, 0] rfl)
    refine lv_iconst (v := nI (0)) hx hb dM_waiting_9 (by decide) ?_
    refine lv_istore_n (lv' := [(2, .int (nI (0))), (0, .ref (q 0)), (1, .int (nI (r)))]) hx hb dM_waiting_10 rfl hl (by decide) rfl (fun ls hl => ?_)
    refine lv_iconst (v := nI (0)) hx hb dM_waiting_11 (by decide) ?_
    refine lv_istore_n (lv' := [(3, .int (nI (0))), (2, .int (nI (0))), (0, .ref (q 0)), (1, .int (nI (r)))]) hx hb dM_waiting_12 rfl hl (by decide) rfl (fun ls hl => ?_)
    exact L13 (x.nn + 1) (0) (0) s.heap [] hP hD hS ls (by omega) (by omega) (by first | rfl | (rw [numF_t (g := fun o => x.wts (100 * r + o)) c_32, g1]; done) | (rw [numF_f (g := fun o => x.wts (100 * r + o)) c_32, g1]; done)) (lv_sub hl [2, 3, 1, 0] rfl)
  · refine lv_iconst (v := sI (0)) hx hb dM_waiting_7 (by decide) ?_
    exact kx _ _ _ _ _ (x) dM_waiting_8 hS hP hD (Or.inl ⟨c_4, sI_0, rfl⟩)

set_option maxHeartbeats 4000000 in
set_option maxRecDepth 100000 in
theorem kM_operations_p {l : Launch} (D : va_G) (cc : Nat → ClassId) (q : Nat → Nat) (x : MS) (sz : Nat) (ok : okM x) : Met l yM_operations wsM_operations rmM_operations (va_Pc [.ref (q 0)] (WP D cc (wM cc q x) sz)) (va_Qi (fun v u => v = nI x.nn ∧ u = x) (WQ D cc (va_A (wM cc q x) sz) (fun u : MS => wM cc q u)) (va_A (wM cc q x) sz)) 0 0 (va_A (wM cc q x) sz) := by
  refine wr_meti RM [.ref (q 0)] D cc (wM cc q x) sz (fun u : MS => wM cc q u) _ (by decide) rfl rfl (Nat.le_of_ble_eq_true rfl) (fun v _ _ => vp_nar_int v) ?_
  intro p e s m args below meth c Q A S hP hE hD hA kx ls hl
  obtain ⟨hx, hb, hml, hown, hts⟩ := id S
  have hK := hE.1
  have hts := hE.ts args
  have S : CallFix p m c cM_operations 1 s args wAll RM := ⟨hx, hb, hml, hown, hts⟩
  have hS : va_S A s.heap s.heap [] := va_S.rf
  have hn := ok.n
  have hl : lv_has ls 1 [(0, .ref (q 0))] := hl
  refine lv_aload_n hx hb dM_operations_0 rfl (lv_at hl 0 rfl) ?_
  refine va_get (D := D) (ci := 3) (v := .int (nI (x.nn))) (C := RM) (T := TM) (N := 13) hx hb hts in_M hown hK hP 0 rfl rfl 0 (by decide) (hts _ wm_243) (fun _ h9 => h9) rfl dM_operations_1 ?_
  exact kx _ _ _ _ _ (x) dM_operations_4 hS hP hD (⟨rfl, rfl⟩)

def rmM_stamp : Room := { frames := 1, cells := 0, slots := 0, locals := 21 }
set_option maxHeartbeats 4000000 in
set_option maxRecDepth 100000 in
theorem kM_stamp {l : Launch} (D : va_G) (cc : Nat → ClassId) (q : Nat → Nat) (x : MS) (sz : Nat) (z1 : Int32) (ok : okM x) : Met l yM_stamp wsM_stamp rmM_stamp (va_Pc [.ref (q 0), .int (z1)] (WP D cc (wM cc q x) sz)) (va_Qi (RM_stamp x z1) (WQ D cc (va_A (wM cc q x) sz) (fun u : MS => wM cc q u)) (va_A (wM cc q x) sz)) 0 0 (va_A (wM cc q x) sz) := by
  refine wr_meti RM [.ref (q 0), .int (z1)] D cc (wM cc q x) sz (fun u : MS => wM cc q u) _ (by decide) rfl rfl (Nat.le_of_ble_eq_true rfl) (fun v _ _ => vp_nar_int v) ?_
  intro p e s m args below meth c Q A S hP hE hD hA kx ls hl
  obtain ⟨hx, hb, hml, hown, hts⟩ := id S
  have hK := hE.1
  have hts := hE.ts args
  have S : CallFix p m c cM_stamp 2 s args wAll RM := ⟨hx, hb, hml, hown, hts⟩
  have hS : va_S A s.heap s.heap [] := va_S.rf
  have hn := ok.n
  have hl : lv_has ls 2 [(0, .ref (q 0)), (1, .int (z1))] := hl
  refine lv_aload_n hx hb dM_stamp_0 rfl (lv_at hl 0 rfl) ?_
  refine lv_iload_n hx hb dM_stamp_1 rfl (lv_at hl 1 rfl) ?_
  refine W.callR (W.runV (As := [.int (z1)]) (rest := []) S (kM_isOperation D cc q x ((z1)) ok) (cwV 1 hts (gd_V wm_308 wm_309 wm_387 wm_4 wm_310) rfl rfl rfl (by decide +kernel) ⟨Nat.le_of_ble_eq_true rfl, Nat.le_of_ble_eq_true rfl⟩) (rd_preV (q0 := 0) hP hE rfl rfl) rfl rfl hl.1 rfl (lv_room (Nat.le_of_ble_eq_true rfl)) dM_stamp_2 ⟨Nat.le_of_ble_eq_true rfl, Nat.le_of_ble_eq_true rfl⟩) ?_
  refine W.eq (g2 := F0 m 5 ls [.int (bI (isOp x.nn ((z1))))]) rfl ?_
  refine r_eqB (tgt := 26) hx hb dM_stamp_5 (by decide) (fun c_5 => ?_) (fun c_5 => ?_)
  · refine lv_iconst (v := sI (0)) hx hb dM_stamp_26 (by decide) ?_
    exact kx _ _ _ _ _ (x) dM_stamp_27 hS hP hD (by first | exact Or.inl ⟨c_5, sI_0, rfl⟩ | exact Or.inr ⟨o, ho_o, rfl, rfl, rfl⟩)
  · obtain ⟨o, ho_o, rfl⟩ := isOp_of c_5
    refine lv_iconst (v := nI (4)) hx hb dM_stamp_8 (by decide) ?_
    refine lv_aload_n hx hb dM_stamp_9 rfl (lv_at hl 0 rfl) ?_
    refine va_get (D := D) (ci := 3) (v := .ref (q 3)) (C := RM) (T := TM) (N := 13) hx hb hts in_M hown hK hP 0 rfl rfl 3 (by decide) (hts _ wm_246) (fun _ h9 => h9) rfl dM_stamp_10 ?_
    refine lv_iload_n hx hb dM_stamp_13 rfl (lv_at hl 1 rfl) ?_
    refine r_iald (q0 := 3) (t0 := 0) hx hb hK hP rfl rfl (by omega) (by decide) dM_stamp_14 ?_
    refine r_mul hx hb dM_stamp_15 ?_
    refine lv_aload_n hx hb dM_stamp_16 rfl (lv_at hl 0 rfl) ?_
    refine va_get (D := D) (ci := 3) (v := .ref (q 1)) (C := RM) (T := TM) (N := 13) hx hb hts in_M hown hK hP 0 rfl rfl 1 (by decide) (hts _ wm_244) (fun _ h9 => h9) rfl dM_stamp_17 ?_
    refine lv_iload_n hx hb dM_stamp_20 rfl (lv_at hl 1 rfl) ?_
    refine r_iald (q0 := 1) (t0 := 0) hx hb hK hP rfl rfl (by omega) (by decide) dM_stamp_21 ?_
    refine r_add hx hb dM_stamp_22 ?_
    refine lv_goto (tgt := 27) hx hb dM_stamp_23 (by decide) ?_
    exact kx _ _ _ _ _ (x) dM_stamp_27 hS hP hD (by first | exact Or.inl ⟨c_5, sI_0, rfl⟩ | exact Or.inr ⟨o, ho_o, rfl, rfl, rfl⟩)

set_option maxHeartbeats 4000000 in
set_option maxRecDepth 100000 in
theorem kM_known_p {l : Launch} (D : va_G) (cc : Nat → ClassId) (q : Nat → Nat) (x : MS) (sz : Nat) (z1 z2 z3 : Int32) (ok : okM x) : Met l yM_known wsM_known rmM_known (va_Pc [.ref (q 0), .int (z1), .int (z2), .int (z3)] (WP D cc (wM cc q x) sz)) (va_Qi (RM_known x z1 z2 z3) (WQ D cc (va_A (wM cc q x) sz) (fun u : MS => wM cc q u)) (va_A (wM cc q x) sz)) 0 0 (va_A (wM cc q x) sz) := by
  refine wr_meti RM [.ref (q 0), .int (z1), .int (z2), .int (z3)] D cc (wM cc q x) sz (fun u : MS => wM cc q u) _ (by decide) rfl rfl (Nat.le_of_ble_eq_true rfl) (fun v _ _ => vp_nar_int v) ?_
  intro p e s m args below meth c Q A S hP hE hD hA kx ls hl
  obtain ⟨hx, hb, hml, hown, hts⟩ := id S
  have hK := hE.1
  have hts := hE.ts args
  have S : CallFix p m c cM_known 7 s args wAll RM := ⟨hx, hb, hml, hown, hts⟩
  have hS : va_S A s.heap s.heap [] := va_S.rf
  have hn := ok.n
  have hl : lv_has ls 7 [(0, .ref (q 0)), (1, .int (z1)), (2, .int (z2)), (3, .int (z3))] := hl
  refine lv_iload_n hx hb dM_known_0 rfl (lv_at hl 1 rfl) ?_
  refine W.callR (W.runS (As := [.int (z1)]) (rest := []) S (kM_isReplica ((z1))) (va_cwS 1 hts (gd_S wm_273 wm_274 wm_4 wm_275) rfl rfl rfl (by decide +kernel) ⟨Nat.le_of_ble_eq_true rfl, Nat.le_of_ble_eq_true rfl⟩) preT rfl rfl hl.1 rfl (lv_room (Nat.le_of_ble_eq_true rfl)) dM_known_1 ⟨Nat.le_of_ble_eq_true rfl, Nat.le_of_ble_eq_true rfl⟩) ?_
  refine W.eq (g2 := F0 m 4 ls [.int (bI (isRep ((z1))))]) rfl ?_
  refine r_eqB (tgt := 21) hx hb dM_known_4 (by decide) (fun c_4 => ?_) (fun c_4 => ?_)
  · refine lv_iconst (v := sI (0)) hx hb dM_known_21 (by decide) ?_
    exact kx _ _ _ _ _ (x) dM_known_22 hS hP hD (by first | exact Or.inl ⟨Or.inl c_4, sI_0, rfl⟩ | exact Or.inl ⟨Or.inr (Or.inl c_11), sI_0, rfl⟩ | exact Or.inl ⟨Or.inr (Or.inr c_18), sI_0, rfl⟩)
  · obtain ⟨r, hr_r, rfl⟩ := isRep_of c_4
    refine lv_iload_n hx hb dM_known_7 rfl (lv_at hl 2 rfl) ?_
    refine W.callR (W.runS (As := [.int (z2)]) (rest := []) S (kM_isReplica ((z2))) (va_cwS 1 hts (gd_S wm_273 wm_274 wm_4 wm_275) rfl rfl rfl (by decide +kernel) ⟨Nat.le_of_ble_eq_true rfl, Nat.le_of_ble_eq_true rfl⟩) preT rfl rfl hl.1 rfl (lv_room (Nat.le_of_ble_eq_true rfl)) dM_known_8 ⟨Nat.le_of_ble_eq_true rfl, Nat.le_of_ble_eq_true rfl⟩) ?_
    refine W.eq (g2 := F0 m 11 ls [.int (bI (isRep ((z2))))]) rfl ?_
    refine r_eqB (tgt := 21) hx hb dM_known_11 (by decide) (fun c_11 => ?_) (fun c_11 => ?_)
    · refine lv_iconst (v := sI (0)) hx hb dM_known_21 (by decide) ?_
      exact kx _ _ _ _ _ (x) dM_known_22 hS hP hD (by first | exact Or.inl ⟨Or.inl c_4, sI_0, rfl⟩ | exact Or.inl ⟨Or.inr (Or.inl c_11), sI_0, rfl⟩ | exact Or.inl ⟨Or.inr (Or.inr c_18), sI_0, rfl⟩)
    · obtain ⟨i, hr_i, rfl⟩ := isRep_of c_11
      refine lv_iload_n hx hb dM_known_14 rfl (lv_at hl 3 rfl) ?_
      refine W.callR (W.runS (As := [.int (z3)]) (rest := []) S (kM_isReplica ((z3))) (va_cwS 1 hts (gd_S wm_273 wm_274 wm_4 wm_275) rfl rfl rfl (by decide +kernel) ⟨Nat.le_of_ble_eq_true rfl, Nat.le_of_ble_eq_true rfl⟩) preT rfl rfl hl.1 rfl (lv_room (Nat.le_of_ble_eq_true rfl)) dM_known_15 ⟨Nat.le_of_ble_eq_true rfl, Nat.le_of_ble_eq_true rfl⟩) ?_
      refine W.eq (g2 := F0 m 18 ls [.int (bI (isRep ((z3))))]) rfl ?_
      refine r_neB (tgt := 23) hx hb dM_known_18 (by decide) (fun c_18 => ?_) (fun c_18 => ?_)
      · obtain ⟨j, hr_j, rfl⟩ := isRep_of c_18
        refine lv_iload_n hx hb dM_known_23 rfl (lv_at hl 2 rfl) ?_
        refine lv_iload_n hx hb dM_known_24 rfl (lv_at hl 1 rfl) ?_
        refine r_ne (by omega) (by omega) (tgt := 35) hx hb dM_known_25 (by decide) (fun c_25 => ?_) (fun c_25 => ?_)
        · have L44 : ∀ (n : Nat) (v : Nat) (w : Nat) (o : Nat) (H : Heap) (locs : List Loc) (hP : va_P D vwCl (wM cc q (x)) H) (hD : va_D A (wM cc q (x))) (hS : va_S A s.heap H locs) (ls : Array Slot) (h0 : i ≠ r) (h1 : o ≤ x.nn) (h2 : x.nn - o < n) (h3 : v = (knwM x r i j o).2) (h4 : w = (knwM x r i j o).1), lv_has ls 7 [(0, .ref (q 0)), (1, .int (nI (r))), (2, .int (nI (i))), (3, .int (nI (j))), (4, .int (nI (v))), (5, .int (nI (w))), (6, .int (nI (o)))] → W p l e rmM_known s m args below meth c H locs 0 0 Q (F0 m 44 ls []) := by
            intro n
            induction n with
            | zero => intro v w o H locs hP hD hS ls h0 h1 h2 h3 h4 hl; exact absurd h2 (Nat.not_lt_zero _)
            | succ n ih =>
              intro v w o H locs hP hD hS ls h0 h1 h2 h3 h4 hl
              have hw := knwM_lt ok r i j o
              rw [← h4] at hw
              refine lv_iload hx hb dM_known_44 (lv_at hl 6 rfl) ?_
              refine lv_aload_n hx hb dM_known_46 rfl (lv_at hl 0 rfl) ?_
              refine va_get (D := D) (ci := 3) (v := .int (nI (x.nn))) (C := RM) (T := TM) (N := 13) hx hb hts in_M hown hK hP 0 rfl rfl 0 (by decide) (hts _ wm_243) (fun _ h9 => h9) rfl dM_known_47 ?_
              refine r_ge (by omega) (Nat.lt_of_le_of_lt ok.n (by decide)) (tgt := 114) hx hb dM_known_50 (by decide) (fun c_50 => ?_) (fun c_50 => ?_)
              · refine lv_iload hx hb dM_known_114 (lv_at hl 4 rfl) ?_
                exact kx _ _ _ _ _ (x) dM_known_116 hS hP hD (Or.inr ⟨r, i, j, hr_r, rfl, hr_i, rfl, hr_j, rfl, by unfold knM; rw [if_neg h0, h3, show o = x.nn by omega], rfl⟩)
              · refine lv_aload_n hx hb dM_known_53 rfl (lv_at hl 0 rfl) ?_
                refine va_get (D := D) (ci := 3) (v := .ref (q 1)) (C := RM) (T := TM) (N := 13) hx hb hts in_M hown hK hP 0 rfl rfl 1 (by decide) (hts _ wm_244) (fun _ h9 => h9) rfl dM_known_54 ?_
                refine lv_iload hx hb dM_known_57 (lv_at hl 6 rfl) ?_
                refine r_iald (q0 := 1) (t0 := 0) hx hb hK hP rfl rfl (by omega) (by decide) dM_known_59 ?_
                refine lv_iload_n hx hb dM_known_60 rfl (lv_at hl 2 rfl) ?_
                refine r_ne (ok.by_ (o)) (by omega) (tgt := 108) hx hb dM_known_61 (by decide) (fun c_61 => ?_) (fun c_61 => ?_)
                · refine lv_iinc (v := nI (o + 1)) (lv' := [(6, .int (nI (o + 1))), (0, .ref (q 0)), (1, .int (nI (r))), (2, .int (nI (i))), (3, .int (nI (j))), (4, .int (nI (v))), (5, .int (nI (w)))]) hx hb dM_known_108 hl (k := 6) rfl (nI_1 _) (by decide) rfl (fun ls hl => ?_)
                  refine lv_goto (tgt := 44) hx hb dM_known_111 (by decide) ?_
                  exact ih  (v) (w) (o + 1) H locs hP hD hS ls (by first | exact h0 | exact c_25) (by omega) (by omega) (by first | rfl | (rw [knwM_t (x := x) (r := r) (i := i) (j := j) (n := o) c_61 c_71 (by rw [← h4]; exact c_83)]; done) | (rw [knwM_f c_61]; exact h3) | (rw [knwM_f2 c_71]; exact h3) | (rw [knwM_f3 (x := x) (r := r) (i := i) (j := j) (n := o) (by rw [← h4]; exact c_83)]; exact h3)) (by first | rfl | (rw [knwM_t (x := x) (r := r) (i := i) (j := j) (n := o) c_61 c_71 (by rw [← h4]; exact c_83)]; done) | (rw [knwM_f c_61]; exact h4) | (rw [knwM_f2 c_71]; exact h4) | (rw [knwM_f3 (x := x) (r := r) (i := i) (j := j) (n := o) (by rw [← h4]; exact c_83)]; exact h4)) (lv_sub hl [1, 2, 3, 4, 5, 6, 0] rfl)
                · refine lv_aload_n hx hb dM_known_64 rfl (lv_at hl 0 rfl) ?_
                  refine lv_iload_n hx hb dM_known_65 rfl (lv_at hl 1 rfl) ?_
                  refine lv_iload hx hb dM_known_66 (lv_at hl 6 rfl) ?_
                  refine W.callR (W.runV (As := [.int (nI (r)), .int (nI (o))]) (rest := []) S (kM_has D cc q x (r) (o) (by omega) (by omega)) (cwV 2 hts (gd_V wm_285 wm_286 wm_382 wm_4 wm_287) rfl rfl rfl (by decide +kernel) ⟨Nat.le_of_ble_eq_true rfl, Nat.le_of_ble_eq_true rfl⟩) (rd_preV (q0 := 0) hP hE rfl rfl) rfl rfl hl.1 rfl (lv_room (Nat.le_of_ble_eq_true rfl)) dM_known_68 ⟨Nat.le_of_ble_eq_true rfl, Nat.le_of_ble_eq_true rfl⟩) ?_
                  refine W.eq (g2 := F0 m 71 ls [.int (bI (x.app (100 * (r) + (o))))]) rfl ?_
                  refine r_eqB (tgt := 108) hx hb dM_known_71 (by decide) (fun c_71 => ?_) (fun c_71 => ?_)
                  · refine lv_iinc (v := nI (o + 1)) (lv' := [(6, .int (nI (o + 1))), (0, .ref (q 0)), (1, .int (nI (r))), (2, .int (nI (i))), (3, .int (nI (j))), (4, .int (nI (v))), (5, .int (nI (w)))]) hx hb dM_known_108 hl (k := 6) rfl (nI_1 _) (by decide) rfl (fun ls hl => ?_)
                    refine lv_goto (tgt := 44) hx hb dM_known_111 (by decide) ?_
                    exact ih  (v) (w) (o + 1) H locs hP hD hS ls (by first | exact h0 | exact c_25) (by omega) (by omega) (by first | rfl | (rw [knwM_t (x := x) (r := r) (i := i) (j := j) (n := o) c_61 c_71 (by rw [← h4]; exact c_83)]; done) | (rw [knwM_f c_61]; exact h3) | (rw [knwM_f2 c_71]; exact h3) | (rw [knwM_f3 (x := x) (r := r) (i := i) (j := j) (n := o) (by rw [← h4]; exact c_83)]; exact h3)) (by first | rfl | (rw [knwM_t (x := x) (r := r) (i := i) (j := j) (n := o) c_61 c_71 (by rw [← h4]; exact c_83)]; done) | (rw [knwM_f c_61]; exact h4) | (rw [knwM_f2 c_71]; exact h4) | (rw [knwM_f3 (x := x) (r := r) (i := i) (j := j) (n := o) (by rw [← h4]; exact c_83)]; exact h4)) (lv_sub hl [1, 2, 3, 4, 5, 6, 0] rfl)
                  · refine lv_aload_n hx hb dM_known_74 rfl (lv_at hl 0 rfl) ?_
                    refine va_get (D := D) (ci := 3) (v := .ref (q 2)) (C := RM) (T := TM) (N := 13) hx hb hts in_M hown hK hP 0 rfl rfl 2 (by decide) (hts _ wm_245) (fun _ h9 => h9) rfl dM_known_75 ?_
                    refine lv_iload hx hb dM_known_78 (lv_at hl 6 rfl) ?_
                    refine r_iald (q0 := 2) (t0 := 0) hx hb hK hP rfl rfl (by omega) (by decide) dM_known_80 ?_
                    refine lv_iload hx hb dM_known_81 (lv_at hl 5 rfl) ?_
                    refine r_le (ok.line (o)) (by omega) (tgt := 108) hx hb dM_known_83 (by decide) (fun c_83 => ?_) (fun c_83 => ?_)
                    · refine lv_iinc (v := nI (o + 1)) (lv' := [(6, .int (nI (o + 1))), (0, .ref (q 0)), (1, .int (nI (r))), (2, .int (nI (i))), (3, .int (nI (j))), (4, .int (nI (v))), (5, .int (nI (w)))]) hx hb dM_known_108 hl (k := 6) rfl (nI_1 _) (by decide) rfl (fun ls hl => ?_)
                      refine lv_goto (tgt := 44) hx hb dM_known_111 (by decide) ?_
                      exact ih  (v) (w) (o + 1) H locs hP hD hS ls (by first | exact h0 | exact c_25) (by omega) (by omega) (by first | rfl | (rw [knwM_t (x := x) (r := r) (i := i) (j := j) (n := o) c_61 c_71 (by rw [← h4]; exact c_83)]; done) | (rw [knwM_f c_61]; exact h3) | (rw [knwM_f2 c_71]; exact h3) | (rw [knwM_f3 (x := x) (r := r) (i := i) (j := j) (n := o) (by rw [← h4]; exact c_83)]; exact h3)) (by first | rfl | (rw [knwM_t (x := x) (r := r) (i := i) (j := j) (n := o) c_61 c_71 (by rw [← h4]; exact c_83)]; done) | (rw [knwM_f c_61]; exact h4) | (rw [knwM_f2 c_71]; exact h4) | (rw [knwM_f3 (x := x) (r := r) (i := i) (j := j) (n := o) (by rw [← h4]; exact c_83)]; exact h4)) (lv_sub hl [1, 2, 3, 4, 5, 6, 0] rfl)
                    · refine lv_aload_n hx hb dM_known_86 rfl (lv_at hl 0 rfl) ?_
                      refine va_get (D := D) (ci := 3) (v := .ref (q 2)) (C := RM) (T := TM) (N := 13) hx hb hts in_M hown hK hP 0 rfl rfl 2 (by decide) (hts _ wm_245) (fun _ h9 => h9) rfl dM_known_87 ?_
                      refine lv_iload hx hb dM_known_90 (lv_at hl 6 rfl) ?_
                      refine r_iald (q0 := 2) (t0 := 0) hx hb hK hP rfl rfl (by omega) (by decide) dM_known_92 ?_
                      refine lv_istore (lv' := [(5, .int (nI (x.line o))), (0, .ref (q 0)), (1, .int (nI (r))), (2, .int (nI (i))), (3, .int (nI (j))), (4, .int (nI (v))), (6, .int (nI (o)))]) hx hb dM_known_93 hl (by decide) rfl (fun ls hl => ?_)
                      refine lv_aload_n hx hb dM_known_95 rfl (lv_at hl 1 rfl) ?_
                      refine va_get (D := D) (ci := 3) (v := .ref (q 6)) (C := RM) (T := TM) (N := 13) hx hb hts in_M hown hK hP 0 rfl rfl 6 (by decide) (hts _ wm_249) (fun _ h9 => h9) rfl dM_known_96 ?_
                      refine lv_iconst (v := nI (3)) hx hb dM_known_99 (by decide) ?_
                      refine lv_iload hx hb dM_known_100 (lv_at hl 6 rfl) ?_
                      refine r_mul hx hb dM_known_102 ?_
                      refine lv_iload_n hx hb dM_known_103 rfl (lv_at hl 4 rfl) ?_
                      refine r_add hx hb dM_known_104 ?_
                      refine r_iald (q0 := 6) (t0 := 0) hx hb hK hP rfl rfl (by omega) (by decide) dM_known_105 ?_
                      refine lv_istore (lv' := [(4, .int (nI (x.clk ((3 * o) + j)))), (5, .int (nI (x.line o))), (0, .ref (q 0)), (1, .int (nI (r))), (2, .int (nI (i))), (3, .int (nI (j))), (6, .int (nI (o)))]) hx hb dM_known_106 hl (by decide) rfl (fun ls hl => ?_)
                      refine lv_iinc (v := nI (o + 1)) (lv' := [(6, .int (nI (o + 1))), (4, .int (nI (x.clk ((3 * o) + j)))), (5, .int (nI (x.line o))), (0, .ref (q 0)), (1, .int (nI (r))), (2, .int (nI (i))), (3, .int (nI (j)))]) hx hb dM_known_108 hl (k := 6) rfl (nI_1 _) (by decide) rfl (fun ls hl => ?_)
                      refine lv_goto (tgt := 44) hx hb dM_known_111 (by decide) ?_
                      exact ih  (x.clk ((3 * o) + j)) (x.line o) (o + 1) H locs hP hD hS ls (by first | exact h0 | exact c_25) (by omega) (by omega) (by first | rfl | (rw [knwM_t (x := x) (r := r) (i := i) (j := j) (n := o) c_61 c_71 (by rw [← h4]; exact c_83)]; done) | (rw [knwM_f c_61]; exact h3) | (rw [knwM_f2 c_71]; exact h3) | (rw [knwM_f3 (x := x) (r := r) (i := i) (j := j) (n := o) (by rw [← h4]; exact c_83)]; exact h3)) (by first | rfl | (rw [knwM_t (x := x) (r := r) (i := i) (j := j) (n := o) c_61 c_71 (by rw [← h4]; exact c_83)]; done) | (rw [knwM_f c_61]; exact h4) | (rw [knwM_f2 c_71]; exact h4) | (rw [knwM_f3 (x := x) (r := r) (i := i) (j := j) (n := o) (by rw [← h4]; exact c_83)]; exact h4)) (lv_sub hl [3, 4, 5, 6, 1, 2, 0] rfl)
          refine lv_iconst (v := nI (0)) hx hb dM_known_35 (by decide) ?_
          refine lv_istore (lv' := [(4, .int (nI (0))), (0, .ref (q 0)), (1, .int (nI (r))), (2, .int (nI (i))), (3, .int (nI (j)))]) hx hb dM_known_36 hl (by decide) rfl (fun ls hl => ?_)
          refine lv_iconst (v := nI (0)) hx hb dM_known_38 (by decide) ?_
          refine lv_istore (lv' := [(5, .int (nI (0))), (4, .int (nI (0))), (0, .ref (q 0)), (1, .int (nI (r))), (2, .int (nI (i))), (3, .int (nI (j)))]) hx hb dM_known_39 hl (by decide) rfl (fun ls hl => ?_)
          refine lv_iconst (v := nI (0)) hx hb dM_known_41 (by decide) ?_
          refine lv_istore (lv' := [(6, .int (nI (0))), (5, .int (nI (0))), (4, .int (nI (0))), (0, .ref (q 0)), (1, .int (nI (r))), (2, .int (nI (i))), (3, .int (nI (j)))]) hx hb dM_known_42 hl (by decide) rfl (fun ls hl => ?_)
          exact L44 (x.nn + 1) (0) (0) (0) s.heap [] hP hD hS ls (by first | exact h0 | exact c_25) (by omega) (by omega) (by first | rfl | (rw [knwM_t (x := x) (r := r) (i := i) (j := j) (n := o) c_61 c_71 (by rw [← h4]; exact c_83)]; done) | (rw [knwM_f c_61]; exact h3) | (rw [knwM_f2 c_71]; exact h3) | (rw [knwM_f3 (x := x) (r := r) (i := i) (j := j) (n := o) (by rw [← h4]; exact c_83)]; exact h3)) (by first | rfl | (rw [knwM_t (x := x) (r := r) (i := i) (j := j) (n := o) c_61 c_71 (by rw [← h4]; exact c_83)]; done) | (rw [knwM_f c_61]; exact h4) | (rw [knwM_f2 c_71]; exact h4) | (rw [knwM_f3 (x := x) (r := r) (i := i) (j := j) (n := o) (by rw [← h4]; exact c_83)]; exact h4)) (lv_sub hl [3, 4, 5, 6, 2, 1, 0] rfl)
        · refine lv_aload_n hx hb dM_known_28 rfl (lv_at hl 0 rfl) ?_
          refine lv_iload_n hx hb dM_known_29 rfl (lv_at hl 1 rfl) ?_
          refine lv_iload_n hx hb dM_known_30 rfl (lv_at hl 3 rfl) ?_
          refine W.callR (W.runV (As := [.int (nI (r)), .int (nI (j))]) (rest := []) S (kM_count D cc q x (r) (j) (by omega) (by omega) ok) (cwV 2 hts (gd_V wm_297 wm_298 wm_386 wm_4 wm_299) rfl rfl rfl (by decide +kernel) ⟨Nat.le_of_ble_eq_true rfl, Nat.le_of_ble_eq_true rfl⟩) (rd_preV (q0 := 0) hP hE rfl rfl) rfl rfl hl.1 rfl (lv_room (Nat.le_of_ble_eq_true rfl)) dM_known_31 ⟨Nat.le_of_ble_eq_true rfl, Nat.le_of_ble_eq_true rfl⟩) ?_
          refine W.eq (g2 := F0 m 34 ls [.int (nI (cntM x (r) (j) x.nn))]) rfl ?_
          exact kx _ _ _ _ _ (x) dM_known_34 hS hP hD (Or.inr ⟨r, i, j, hr_r, rfl, hr_i, rfl, hr_j, rfl, by unfold knM; rw [if_pos c_25], rfl⟩)
      · refine lv_iconst (v := sI (0)) hx hb dM_known_21 (by decide) ?_
        exact kx _ _ _ _ _ (x) dM_known_22 hS hP hD (by first | exact Or.inl ⟨Or.inl c_4, sI_0, rfl⟩ | exact Or.inl ⟨Or.inr (Or.inl c_11), sI_0, rfl⟩ | exact Or.inl ⟨Or.inr (Or.inr c_18), sI_0, rfl⟩)

set_option maxHeartbeats 4000000 in
set_option maxRecDepth 100000 in
theorem kM_stable_p {l : Launch} (D : va_G) (cc : Nat → ClassId) (q : Nat → Nat) (x : MS) (sz : Nat) (z1 z2 : Int32) (ok : okM x) : Met l yM_stable wsM_stable rmM_stable (va_Pc [.ref (q 0), .int (z1), .int (z2)] (WP D cc (wM cc q x) sz)) (va_Qi (RM_stable x z1 z2) (WQ D cc (va_A (wM cc q x) sz) (fun u : MS => wM cc q u)) (va_A (wM cc q x) sz)) 0 0 (va_A (wM cc q x) sz) := by
  refine wr_meti RM [.ref (q 0), .int (z1), .int (z2)] D cc (wM cc q x) sz (fun u : MS => wM cc q u) _ (by decide) rfl rfl (Nat.le_of_ble_eq_true rfl) (fun v u h => by rcases h with ⟨-, rfl, -⟩ | ⟨_, _, _, _, _, _, rfl, -⟩ <;> exact bI_z _) ?_
  intro p e s m args below meth c Q A S hP hE hD hA kx ls hl
  obtain ⟨hx, hb, hml, hown, hts⟩ := id S
  have hK := hE.1
  have hts := hE.ts args
  have S : CallFix p m c cM_stable 5 s args wAll RM := ⟨hx, hb, hml, hown, hts⟩
  have hS : va_S A s.heap s.heap [] := va_S.rf
  have hn := ok.n
  have hl : lv_has ls 5 [(0, .ref (q 0)), (1, .int (z1)), (2, .int (z2))] := hl
  refine lv_iload_n hx hb dM_stable_0 rfl (lv_at hl 1 rfl) ?_
  refine W.callR (W.runS (As := [.int (z1)]) (rest := []) S (kM_isReplica ((z1))) (va_cwS 1 hts (gd_S wm_273 wm_274 wm_4 wm_275) rfl rfl rfl (by decide +kernel) ⟨Nat.le_of_ble_eq_true rfl, Nat.le_of_ble_eq_true rfl⟩) preT rfl rfl hl.1 rfl (lv_room (Nat.le_of_ble_eq_true rfl)) dM_stable_1 ⟨Nat.le_of_ble_eq_true rfl, Nat.le_of_ble_eq_true rfl⟩) ?_
  refine W.eq (g2 := F0 m 4 ls [.int (bI (isRep ((z1))))]) rfl ?_
  refine r_eqB (tgt := 24) hx hb dM_stable_4 (by decide) (fun c_4 => ?_) (fun c_4 => ?_)
  · refine lv_iconst (v := bI (false)) hx hb dM_stable_24 (by decide) ?_
    exact kx _ _ _ _ _ (x) dM_stable_25 hS hP hD (by first | exact Or.inl ⟨Or.inl c_4, rfl, rfl⟩ | exact Or.inl ⟨Or.inr c_12, rfl, rfl⟩ | exact Or.inr ⟨r, o, hr_r, rfl, ho_o, rfl, by rw [stbM_no c_21], rfl⟩)
  · obtain ⟨r, hr_r, rfl⟩ := isRep_of c_4
    refine lv_aload_n hx hb dM_stable_7 rfl (lv_at hl 0 rfl) ?_
    refine lv_iload_n hx hb dM_stable_8 rfl (lv_at hl 2 rfl) ?_
    refine W.callR (W.runV (As := [.int (z2)]) (rest := []) S (kM_isOperation D cc q x ((z2)) ok) (cwV 1 hts (gd_V wm_308 wm_309 wm_387 wm_4 wm_310) rfl rfl rfl (by decide +kernel) ⟨Nat.le_of_ble_eq_true rfl, Nat.le_of_ble_eq_true rfl⟩) (rd_preV (q0 := 0) hP hE rfl rfl) rfl rfl hl.1 rfl (lv_room (Nat.le_of_ble_eq_true rfl)) dM_stable_9 ⟨Nat.le_of_ble_eq_true rfl, Nat.le_of_ble_eq_true rfl⟩) ?_
    refine W.eq (g2 := F0 m 12 ls [.int (bI (isOp x.nn ((z2))))]) rfl ?_
    refine r_eqB (tgt := 24) hx hb dM_stable_12 (by decide) (fun c_12 => ?_) (fun c_12 => ?_)
    · refine lv_iconst (v := bI (false)) hx hb dM_stable_24 (by decide) ?_
      exact kx _ _ _ _ _ (x) dM_stable_25 hS hP hD (by first | exact Or.inl ⟨Or.inl c_4, rfl, rfl⟩ | exact Or.inl ⟨Or.inr c_12, rfl, rfl⟩ | exact Or.inr ⟨r, o, hr_r, rfl, ho_o, rfl, by rw [stbM_no c_21], rfl⟩)
    · obtain ⟨o, ho_o, rfl⟩ := isOp_of c_12
      refine lv_aload_n hx hb dM_stable_15 rfl (lv_at hl 0 rfl) ?_
      refine lv_iload_n hx hb dM_stable_16 rfl (lv_at hl 1 rfl) ?_
      refine lv_iload_n hx hb dM_stable_17 rfl (lv_at hl 2 rfl) ?_
      refine W.callR (W.runV (As := [.int (nI (r)), .int (nI (o))]) (rest := []) S (kM_has D cc q x (r) (o) (by omega) (by omega)) (cwV 2 hts (gd_V wm_285 wm_286 wm_382 wm_4 wm_287) rfl rfl rfl (by decide +kernel) ⟨Nat.le_of_ble_eq_true rfl, Nat.le_of_ble_eq_true rfl⟩) (rd_preV (q0 := 0) hP hE rfl rfl) rfl rfl hl.1 rfl (lv_room (Nat.le_of_ble_eq_true rfl)) dM_stable_18 ⟨Nat.le_of_ble_eq_true rfl, Nat.le_of_ble_eq_true rfl⟩) ?_
      refine W.eq (g2 := F0 m 21 ls [.int (bI (x.app (100 * (r) + (o))))]) rfl ?_
      refine r_neB (tgt := 26) hx hb dM_stable_21 (by decide) (fun c_21 => ?_) (fun c_21 => ?_)
      · have L31 : ∀ (n : Nat) (j : Nat) (z : Bool) (H : Heap) (locs : List Loc) (hP : va_P D vwCl (wM cc q (x)) H) (hD : va_D A (wM cc q (x))) (hS : va_S A s.heap H locs) (ls : Array Slot) (h1 : j ≤ 3) (h2 : 3 - j < n) (h3 : z = stbM x r o j), lv_has ls 5 [(0, .ref (q 0)), (1, .int (nI (r))), (2, .int (nI (o))), (3, .int (bI (z))), (4, .int (nI (j)))] → W p l e rmM_stable s m args below meth c H locs 0 0 Q (F0 m 31 ls []) := by
          intro n
          induction n with
          | zero => intro j z H locs hP hD hS ls h1 h2 h3 hl; exact absurd h2 (Nat.not_lt_zero _)
          | succ n ih =>
            intro j z H locs hP hD hS ls h1 h2 h3 hl
            refine lv_iload hx hb dM_stable_31 (lv_at hl 4 rfl) ?_
            refine lv_iconst (v := nI (3)) hx hb dM_stable_33 (by decide) ?_
            refine r_ge (by omega) (by decide) (tgt := 75) hx hb dM_stable_34 (by decide) (fun c_34 => ?_) (fun c_34 => ?_)
            · refine lv_iload_n hx hb dM_stable_75 rfl (lv_at hl 3 rfl) ?_
              exact kx _ _ _ _ _ (x) dM_stable_76 hS hP hD (Or.inr ⟨r, o, hr_r, rfl, ho_o, rfl, by rw [h3, show j = 3 by omega], rfl⟩)
            · refine lv_iload_n hx hb dM_stable_37 rfl (lv_at hl 3 rfl) ?_
              refine r_eqB (tgt := 67) hx hb dM_stable_38 (by decide) (fun c_38 => ?_) (fun c_38 => ?_)
              · refine lv_iconst (v := bI (false)) hx hb dM_stable_67 (by decide) ?_
                refine lv_istore_n (lv' := [(3, .int (bI (false))), (0, .ref (q 0)), (1, .int (nI (r))), (2, .int (nI (o))), (4, .int (nI (j)))]) hx hb dM_stable_68 rfl hl (by decide) rfl (fun ls hl => ?_)
                refine lv_iinc (v := nI (j + 1)) (lv' := [(4, .int (nI (j + 1))), (3, .int (bI (false))), (0, .ref (q 0)), (1, .int (nI (r))), (2, .int (nI (o)))]) hx hb dM_stable_69 hl (k := 4) rfl (nI_1 _) (by decide) rfl (fun ls hl => ?_)
                refine lv_goto (tgt := 31) hx hb dM_stable_72 (by decide) ?_
                exact ih  (j + 1) (false) H locs hP hD hS ls (by omega) (by omega) (by first | exact c_21.symm | (rw [stbM_s, ← h3]; first | (simp [c_38]; done) | (simp [c_38, c_60]; done) | (simp [c_38, show ¬ x.line o ≤ knM x r j (x.by_ o) by omega]; done))) (lv_sub hl [2, 3, 4, 1, 0] rfl)
              · refine lv_aload_n hx hb dM_stable_41 rfl (lv_at hl 0 rfl) ?_
                refine lv_iload_n hx hb dM_stable_42 rfl (lv_at hl 1 rfl) ?_
                refine lv_iload hx hb dM_stable_43 (lv_at hl 4 rfl) ?_
                refine lv_aload_n hx hb dM_stable_45 rfl (lv_at hl 0 rfl) ?_
                refine va_get (D := D) (ci := 3) (v := .ref (q 1)) (C := RM) (T := TM) (N := 13) hx hb hts in_M hown hK hP 0 rfl rfl 1 (by decide) (hts _ wm_244) (fun _ h9 => h9) rfl dM_stable_46 ?_
                refine lv_iload_n hx hb dM_stable_49 rfl (lv_at hl 2 rfl) ?_
                refine r_iald (q0 := 1) (t0 := 0) hx hb hK hP rfl rfl (by omega) (by decide) dM_stable_50 ?_
                refine W.callR (W.runV (As := [.int (nI (r)), .int (nI (j)), .int (nI (x.by_ o))]) (rest := []) S (kM_known D cc q x (r) (j) (x.by_ o) (by omega) (by omega) (ok.by3 _) ok) (cwV 3 hts (gd_V wm_327 wm_320 wm_321 wm_4 wm_322) rfl rfl rfl (by decide +kernel) ⟨Nat.le_of_ble_eq_true rfl, Nat.le_of_ble_eq_true rfl⟩) (rd_preV (q0 := 0) hP hE rfl rfl) rfl rfl hl.1 rfl (lv_room (Nat.le_of_ble_eq_true rfl)) dM_stable_51 ⟨Nat.le_of_ble_eq_true rfl, Nat.le_of_ble_eq_true rfl⟩) ?_
                refine W.eq (g2 := F0 m 54 ls [.int (nI (knM x (r) (j) (x.by_ o)))]) rfl ?_
                refine lv_aload_n hx hb dM_stable_54 rfl (lv_at hl 0 rfl) ?_
                refine va_get (D := D) (ci := 3) (v := .ref (q 2)) (C := RM) (T := TM) (N := 13) hx hb hts in_M hown hK hP 0 rfl rfl 2 (by decide) (hts _ wm_245) (fun _ h9 => h9) rfl dM_stable_55 ?_
                refine lv_iload_n hx hb dM_stable_58 rfl (lv_at hl 2 rfl) ?_
                refine r_iald (q0 := 2) (t0 := 0) hx hb hK hP rfl rfl (by omega) (by decide) dM_stable_59 ?_
                refine r_lt (knM_lt ok _ _ _) (ok.line (o)) (tgt := 67) hx hb dM_stable_60 (by decide) (fun c_60 => ?_) (fun c_60 => ?_)
                · refine lv_iconst (v := bI (false)) hx hb dM_stable_67 (by decide) ?_
                  refine lv_istore_n (lv' := [(3, .int (bI (false))), (0, .ref (q 0)), (1, .int (nI (r))), (2, .int (nI (o))), (4, .int (nI (j)))]) hx hb dM_stable_68 rfl hl (by decide) rfl (fun ls hl => ?_)
                  refine lv_iinc (v := nI (j + 1)) (lv' := [(4, .int (nI (j + 1))), (3, .int (bI (false))), (0, .ref (q 0)), (1, .int (nI (r))), (2, .int (nI (o)))]) hx hb dM_stable_69 hl (k := 4) rfl (nI_1 _) (by decide) rfl (fun ls hl => ?_)
                  refine lv_goto (tgt := 31) hx hb dM_stable_72 (by decide) ?_
                  exact ih  (j + 1) (false) H locs hP hD hS ls (by omega) (by omega) (by first | exact c_21.symm | (rw [stbM_s, ← h3]; first | (simp [c_38]; done) | (simp [c_38, c_60]; done) | (simp [c_38, show ¬ x.line o ≤ knM x r j (x.by_ o) by omega]; done))) (lv_sub hl [2, 3, 4, 1, 0] rfl)
                · refine lv_iconst (v := bI (true)) hx hb dM_stable_63 (by decide) ?_
                  refine lv_goto (tgt := 68) hx hb dM_stable_64 (by decide) ?_
                  refine lv_istore_n (lv' := [(3, .int (bI (true))), (0, .ref (q 0)), (1, .int (nI (r))), (2, .int (nI (o))), (4, .int (nI (j)))]) hx hb dM_stable_68 rfl hl (by decide) rfl (fun ls hl => ?_)
                  refine lv_iinc (v := nI (j + 1)) (lv' := [(4, .int (nI (j + 1))), (3, .int (bI (true))), (0, .ref (q 0)), (1, .int (nI (r))), (2, .int (nI (o)))]) hx hb dM_stable_69 hl (k := 4) rfl (nI_1 _) (by decide) rfl (fun ls hl => ?_)
                  refine lv_goto (tgt := 31) hx hb dM_stable_72 (by decide) ?_
                  exact ih  (j + 1) (true) H locs hP hD hS ls (by omega) (by omega) (by first | exact c_21.symm | (rw [stbM_s, ← h3]; first | (simp [c_38]; done) | (simp [c_38, c_60]; done) | (simp [c_38, show ¬ x.line o ≤ knM x r j (x.by_ o) by omega]; done))) (lv_sub hl [2, 3, 4, 1, 0] rfl)
        refine lv_iconst (v := bI (true)) hx hb dM_stable_26 (by decide) ?_
        refine lv_istore_n (lv' := [(3, .int (bI (true))), (0, .ref (q 0)), (1, .int (nI (r))), (2, .int (nI (o)))]) hx hb dM_stable_27 rfl hl (by decide) rfl (fun ls hl => ?_)
        refine lv_iconst (v := nI (0)) hx hb dM_stable_28 (by decide) ?_
        refine lv_istore (lv' := [(4, .int (nI (0))), (3, .int (bI (true))), (0, .ref (q 0)), (1, .int (nI (r))), (2, .int (nI (o)))]) hx hb dM_stable_29 hl (by decide) rfl (fun ls hl => ?_)
        exact L31 (4) (0) (true) s.heap [] hP hD hS ls (by omega) (by omega) (by first | exact c_21.symm | (rw [stbM_s, ← h3]; first | (simp [c_38]; done) | (simp [c_38, c_60]; done) | (simp [c_38, show ¬ x.line o ≤ knM x r j (x.by_ o) by omega]; done))) (lv_sub hl [2, 3, 4, 1, 0] rfl)
      · refine lv_iconst (v := bI (false)) hx hb dM_stable_24 (by decide) ?_
        exact kx _ _ _ _ _ (x) dM_stable_25 hS hP hD (by first | exact Or.inl ⟨Or.inl c_4, rfl, rfl⟩ | exact Or.inl ⟨Or.inr c_12, rfl, rfl⟩ | exact Or.inr ⟨r, o, hr_r, rfl, ho_o, rfl, by rw [stbM_no c_21], rfl⟩)
