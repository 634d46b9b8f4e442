def rmP_dropErased : Room := { frames := 5, cells := 0, slots := 0, locals := 109 }
set_option maxHeartbeats 4000000 in
set_option maxRecDepth 100000 in
theorem kP_dropErased {l : Launch} (D : va_G) (cc : Nat → ClassId) (a b : Nat → Nat) (x : LgS) (y : RpS) (sz : Nat) (ht : ∀ o, o < x.cnt → x.chr o = 0 → 0 < x.tgt o) (hkc : (drF (mkG2 x y x.cnt) y.kpt x.cnt).2 ≤ y.kc) (ok : okL x) (kr : okR y) : Met l yP_dropErased wsP_dropErased rmP_dropErased (va_Pc [.ref (b 0)] (WP D cc (wLR cc a b (x) (y)) sz)) (va_Qi (fun v (_ : Unit) => v = nI (drF (mkG2 x y x.cnt) y.kpt x.cnt).2) (WQ D cc (va_A (wLR cc a b (x) (y)) sz) (fun _ : Unit => wLR cc a b x (drR x y))) (va_A (wLR cc a b (x) (y)) sz)) 0 0 (va_A (wLR cc a b (x) (y)) sz) := by
  refine wr_meti RP [.ref (b 0)] D cc (wLR cc a b (x) (y)) sz (fun _ : Unit => wLR cc a b x (drR x y)) _ (by decide) rfl rfl (Nat.le_of_ble_eq_true rfl) (fun v _ _ => vp_nar_int v) ?_
  intro p e s m args below meth c Q A S hP hE hD hA kx ls hl
  obtain ⟨hx, hb, hml, hown, hts⟩ := id S
  have hK := hE.1
  have hts := hE.ts args
  have S : CallFix p m c cP_dropErased 3 s args wAll RP := ⟨hx, hb, hml, hown, hts⟩
  have hS : va_S A s.heap s.heap [] := va_S.rf
  have hn := ok.n
  have he := ok.e
  have hself := kr.self
  have htl := kr.tl
  have hl : lv_has ls 3 [(0, .ref (b 0))] := hl
  have L8 : ∀ (n : Nat) (nd : Nat) (o : Nat) (H : Heap) (locs : List Loc) (hP : va_P D vwCl (wLR cc a b (x) (mkR y.self y.seen y.wts y.ers ((drF (mkG2 x y x.cnt) y.kpt o).1) ((mkG2 x y x.cnt)) y.txt y.tl y.kc y.wc y.gs)) H) (hD : va_D A (wLR cc a b (x) (mkR y.self y.seen y.wts y.ers ((drF (mkG2 x y x.cnt) y.kpt o).1) ((mkG2 x y x.cnt)) y.txt y.tl y.kc y.wc y.gs))) (hS : va_S A s.heap H locs) (ls : Array Slot) (h1 : o ≤ x.cnt) (h2 : x.cnt - o < n) (g1 : nd = (drF (mkG2 x y x.cnt) y.kpt o).2), lv_has ls 3 [(0, .ref (b 0)), (1, .int (nI (nd))), (2, .int (nI (o)))] → W p l e rmP_dropErased s m args below meth c H locs 0 0 Q (F0 m 8 ls []) := by
    intro n
    induction n with
    | zero => intro nd o H locs hP hD hS ls h1 h2 g1 hl; exact absurd h2 (Nat.not_lt_zero _)
    | succ n ih =>
      intro nd o H locs hP hD hS ls h1 h2 g1 hl
      have hdl := drF_le (mkG2 x y x.cnt) y.kpt o
      refine lv_iload_n hx hb dP_dropErased_8 rfl (lv_at hl 2 rfl) ?_
      refine lv_aload_n hx hb dP_dropErased_9 rfl (lv_at hl 0 rfl) ?_
      refine va_get (D := D) (ci := 1) (v := .ref (a 0)) (C := RP) (T := TP) (N := 12) hx hb hts in_P hown hK hP 7 rfl rfl 1 (by decide) (hts _ wm_45) (fun _ h9 => h9) rfl dP_dropErased_10 ?_
      refine va_getN (D := D) (ci := 0) (v := .int (nI (x.cnt))) (C := RL) (T := TL) (N := 8) hx hb hts in_L hown hK hP 0 rfl rfl 6 (by decide) (hE.f nf_8) (fun _ h9 => h9) rfl dP_dropErased_13 ?_
      refine r_ge (by omega) (Nat.lt_of_le_of_lt ok.n (by decide)) (tgt := 53) hx hb dP_dropErased_16 (by decide) (fun c_16 => ?_) (fun c_16 => ?_)
      · obtain rfl : o = x.cnt := by omega
        refine lv_aload_n hx hb dP_dropErased_53 rfl (lv_at hl 0 rfl) ?_
        refine lv_dup hx hb dP_dropErased_54 rfl ?_
        refine va_get (D := D) (ci := 1) (v := .int (nI (y.kc))) (C := RP) (T := TP) (N := 12) hx hb hts in_P hown hK hP 7 rfl rfl 9 (by decide) (hts _ wm_53) (fun _ h9 => h9) rfl dP_dropErased_55 ?_
        refine lv_iload_n hx hb dP_dropErased_58 rfl (lv_at hl 1 rfl) ?_
        refine r_sub (by rw [g1]; exact hkc) hx hb dP_dropErased_59 ?_
        refine va_put (D := D) (ci := 1) (v := .int (nI (y.kc - nd))) (ty := .int) (C := RP) (T := TP) (N := 12) hx hb hts in_P tyP tyP_ok nmP hown hK hP hD hS 7 rfl rfl 9 (by decide) (hts _ wm_53) (fun _ h9 => h9) rfl (by decide +kernel) rfl rfl (Nat.le_of_ble_eq_true rfl) dP_dropErased_60 (fun H locs hP hD hS => ?_)
        have hP : va_P D vwCl (wLR cc a b (x) (mkR y.self y.seen y.wts y.ers ((drF (mkG2 x y x.cnt) y.kpt x.cnt).1) ((mkG2 x y x.cnt)) y.txt y.tl (y.kc - nd) y.wc y.gs)) H := hP
        have hD : va_D A (wLR cc a b (x) (mkR y.self y.seen y.wts y.ers ((drF (mkG2 x y x.cnt) y.kpt x.cnt).1) ((mkG2 x y x.cnt)) y.txt y.tl (y.kc - nd) y.wc y.gs)) := hD
        refine lv_iload_n hx hb dP_dropErased_63 rfl (lv_at hl 1 rfl) ?_
        exact kx _ _ _ _ _ (()) dP_dropErased_64 hS (by rw [g1] at hP; exact hP) (by rw [g1] at hD; exact hD) (by rw [g1])
      · refine lv_aload_n hx hb dP_dropErased_19 rfl (lv_at hl 0 rfl) ?_
        refine va_get (D := D) (ci := 1) (v := .ref (b 8)) (C := RP) (T := TP) (N := 12) hx hb hts in_P hown hK hP 7 rfl rfl 6 (by decide) (hts _ wm_50) (fun _ h9 => h9) rfl dP_dropErased_20 ?_
        refine lv_iload_n hx hb dP_dropErased_23 rfl (lv_at hl 2 rfl) ?_
        refine r_zald (q0 := 15) (t0 := 1) hx hb hK hP rfl rfl (by omega) (by decide) dP_dropErased_24 ?_
        refine r_eqB (tgt := 47) hx hb dP_dropErased_25 (by decide) (fun c_25 => ?_) (fun c_25 => ?_)
        · refine lv_iinc (v := nI (o + 1)) (lv' := [(2, .int (nI (o + 1))), (0, .ref (b 0)), (1, .int (nI (nd)))]) hx hb dP_dropErased_47 hl (k := 2) rfl (nI_1 _) (by decide) rfl (fun ls hl => ?_)
          refine lv_goto (tgt := 8) hx hb dP_dropErased_50 (by decide) ?_
          have hP : va_P D vwCl (wLR cc a b x (mkR y.self y.seen y.wts y.ers ((drF (mkG2 x y x.cnt) y.kpt (o + 1)).1) ((mkG2 x y x.cnt)) y.txt y.tl y.kc y.wc y.gs)) H := by first | (rw [drF_t (g := mkG2 x y x.cnt) (k := y.kpt) (o := o) c_25 c_34]; exact hP) | (rw [drF_f1 (g := mkG2 x y x.cnt) (k := y.kpt) (o := o) c_25]; exact hP) | (rw [drF_f2 (g := mkG2 x y x.cnt) (k := y.kpt) (o := o) c_34]; exact hP)
          have hD : va_D A (wLR cc a b x (mkR y.self y.seen y.wts y.ers ((drF (mkG2 x y x.cnt) y.kpt (o + 1)).1) ((mkG2 x y x.cnt)) y.txt y.tl y.kc y.wc y.gs)) := by first | (rw [drF_t (g := mkG2 x y x.cnt) (k := y.kpt) (o := o) c_25 c_34]; exact hD) | (rw [drF_f1 (g := mkG2 x y x.cnt) (k := y.kpt) (o := o) c_25]; exact hD) | (rw [drF_f2 (g := mkG2 x y x.cnt) (k := y.kpt) (o := o) c_34]; exact hD)
          exact ih  (nd) (o + 1) H locs hP hD hS ls (by omega) (by omega) (by first | rfl | (rw [drF_t (g := mkG2 x y x.cnt) (k := y.kpt) (o := o) c_25 c_34, g1]; done) | (rw [drF_f1 (g := mkG2 x y x.cnt) (k := y.kpt) (o := o) c_25]; exact g1) | (rw [drF_f2 (g := mkG2 x y x.cnt) (k := y.kpt) (o := o) c_34]; exact g1)) (lv_sub hl [1, 2, 0] rfl)
        · refine lv_aload_n hx hb dP_dropErased_28 rfl (lv_at hl 0 rfl) ?_
          refine va_get (D := D) (ci := 1) (v := .ref (b 7)) (C := RP) (T := TP) (N := 12) hx hb hts in_P hown hK hP 7 rfl rfl 5 (by decide) (hts _ wm_49) (fun _ h9 => h9) rfl dP_dropErased_29 ?_
          refine lv_iload_n hx hb dP_dropErased_32 rfl (lv_at hl 2 rfl) ?_
          refine r_zald (q0 := 14) (t0 := 1) hx hb hK hP rfl rfl (by omega) (by decide) dP_dropErased_33 ?_
          refine r_eqB (tgt := 47) hx hb dP_dropErased_34 (by decide) (fun c_34 => ?_) (fun c_34 => ?_)
          · refine lv_iinc (v := nI (o + 1)) (lv' := [(2, .int (nI (o + 1))), (0, .ref (b 0)), (1, .int (nI (nd)))]) hx hb dP_dropErased_47 hl (k := 2) rfl (nI_1 _) (by decide) rfl (fun ls hl => ?_)
            refine lv_goto (tgt := 8) hx hb dP_dropErased_50 (by decide) ?_
            have hP : va_P D vwCl (wLR cc a b x (mkR y.self y.seen y.wts y.ers ((drF (mkG2 x y x.cnt) y.kpt (o + 1)).1) ((mkG2 x y x.cnt)) y.txt y.tl y.kc y.wc y.gs)) H := by first | (rw [drF_t (g := mkG2 x y x.cnt) (k := y.kpt) (o := o) c_25 c_34]; exact hP) | (rw [drF_f1 (g := mkG2 x y x.cnt) (k := y.kpt) (o := o) c_25]; exact hP) | (rw [drF_f2 (g := mkG2 x y x.cnt) (k := y.kpt) (o := o) c_34]; exact hP)
            have hD : va_D A (wLR cc a b x (mkR y.self y.seen y.wts y.ers ((drF (mkG2 x y x.cnt) y.kpt (o + 1)).1) ((mkG2 x y x.cnt)) y.txt y.tl y.kc y.wc y.gs)) := by first | (rw [drF_t (g := mkG2 x y x.cnt) (k := y.kpt) (o := o) c_25 c_34]; exact hD) | (rw [drF_f1 (g := mkG2 x y x.cnt) (k := y.kpt) (o := o) c_25]; exact hD) | (rw [drF_f2 (g := mkG2 x y x.cnt) (k := y.kpt) (o := o) c_34]; exact hD)
            exact ih  (nd) (o + 1) H locs hP hD hS ls (by omega) (by omega) (by first | rfl | (rw [drF_t (g := mkG2 x y x.cnt) (k := y.kpt) (o := o) c_25 c_34, g1]; done) | (rw [drF_f1 (g := mkG2 x y x.cnt) (k := y.kpt) (o := o) c_25]; exact g1) | (rw [drF_f2 (g := mkG2 x y x.cnt) (k := y.kpt) (o := o) c_34]; exact g1)) (lv_sub hl [1, 2, 0] rfl)
          · refine lv_aload_n hx hb dP_dropErased_37 rfl (lv_at hl 0 rfl) ?_
            refine va_get (D := D) (ci := 1) (v := .ref (b 7)) (C := RP) (T := TP) (N := 12) hx hb hts in_P hown hK hP 7 rfl rfl 5 (by decide) (hts _ wm_49) (fun _ h9 => h9) rfl dP_dropErased_38 ?_
            refine lv_iload_n hx hb dP_dropErased_41 rfl (lv_at hl 2 rfl) ?_
            refine lv_iconst (v := bI (false)) hx hb dP_dropErased_42 (by decide) ?_
            refine r_zast (((drF (mkG2 x y x.cnt) y.kpt o).1)) (false) (q0 := 14) (t0 := 1) hx hb hK hP hD hS rfl rfl (by omega) (by decide) dP_dropErased_43 (fun H locs hP hD hS => ?_)
            have hP : va_P D vwCl (wLR cc a b (x) (mkR y.self y.seen y.wts y.ers (va_up (drF (mkG2 x y x.cnt) y.kpt o).1 o false) ((mkG2 x y x.cnt)) y.txt y.tl y.kc y.wc y.gs)) H := hP
            have hD : va_D A (wLR cc a b (x) (mkR y.self y.seen y.wts y.ers (va_up (drF (mkG2 x y x.cnt) y.kpt o).1 o false) ((mkG2 x y x.cnt)) y.txt y.tl y.kc y.wc y.gs)) := hD
            refine lv_iinc (v := nI (nd + 1)) (lv' := [(1, .int (nI (nd + 1))), (0, .ref (b 0)), (2, .int (nI (o)))]) hx hb dP_dropErased_44 hl (k := 1) rfl (nI_1 _) (by decide) rfl (fun ls hl => ?_)
            refine lv_iinc (v := nI (o + 1)) (lv' := [(2, .int (nI (o + 1))), (1, .int (nI (nd + 1))), (0, .ref (b 0))]) hx hb dP_dropErased_47 hl (k := 2) rfl (nI_1 _) (by decide) rfl (fun ls hl => ?_)
            refine lv_goto (tgt := 8) hx hb dP_dropErased_50 (by decide) ?_
            have hP : va_P D vwCl (wLR cc a b x (mkR y.self y.seen y.wts y.ers ((drF (mkG2 x y x.cnt) y.kpt (o + 1)).1) ((mkG2 x y x.cnt)) y.txt y.tl y.kc y.wc y.gs)) H := by first | (rw [drF_t (g := mkG2 x y x.cnt) (k := y.kpt) (o := o) c_25 c_34]; exact hP) | (rw [drF_f1 (g := mkG2 x y x.cnt) (k := y.kpt) (o := o) c_25]; exact hP) | (rw [drF_f2 (g := mkG2 x y x.cnt) (k := y.kpt) (o := o) c_34]; exact hP)
            have hD : va_D A (wLR cc a b x (mkR y.self y.seen y.wts y.ers ((drF (mkG2 x y x.cnt) y.kpt (o + 1)).1) ((mkG2 x y x.cnt)) y.txt y.tl y.kc y.wc y.gs)) := by first | (rw [drF_t (g := mkG2 x y x.cnt) (k := y.kpt) (o := o) c_25 c_34]; exact hD) | (rw [drF_f1 (g := mkG2 x y x.cnt) (k := y.kpt) (o := o) c_25]; exact hD) | (rw [drF_f2 (g := mkG2 x y x.cnt) (k := y.kpt) (o := o) c_34]; exact hD)
            exact ih  (nd + 1) (o + 1) H locs hP hD hS ls (by omega) (by omega) (by first | rfl | (rw [drF_t (g := mkG2 x y x.cnt) (k := y.kpt) (o := o) c_25 c_34, g1]; done) | (rw [drF_f1 (g := mkG2 x y x.cnt) (k := y.kpt) (o := o) c_25]; exact g1) | (rw [drF_f2 (g := mkG2 x y x.cnt) (k := y.kpt) (o := o) c_34]; exact g1)) (lv_sub hl [2, 1, 0] rfl)
  refine lv_aload_n hx hb dP_dropErased_0 rfl (lv_at hl 0 rfl) ?_
  refine wr_callv (w2 := []) (va_runV (As := []) (rest := []) S (kP_markWhatMayGo D cc a b x (y) (s.heap.size) ht ok kr) (cwV 0 hts (gd_V wm_178 wm_179 wm_377 wm_3 wm_180) rfl rfl rfl (by decide +kernel) ⟨Nat.le_of_ble_eq_true rfl, Nat.le_of_ble_eq_true rfl⟩) (wr_preV (q0 := 7) hP hE hD rfl rfl) rfl rfl hl.1 rfl (lv_room (Nat.le_of_ble_eq_true rfl)) dP_dropErased_1 ⟨Nat.le_of_ble_eq_true rfl, Nat.le_of_ble_eq_true rfl⟩) (by rw [List.append_nil]; exact hP) (by rw [List.append_nil]; exact hD) hS hA (fun u H locs hpo hP hD hS => ?_)
  rw [List.append_nil] at hP hD
  have hP : va_P D vwCl (wLR cc a b (x) (mkR y.self y.seen y.wts y.ers y.kpt ((mkG2 x y x.cnt)) y.txt y.tl y.kc y.wc y.gs)) H := hP
  have hD : va_D A (wLR cc a b (x) (mkR y.self y.seen y.wts y.ers y.kpt ((mkG2 x y x.cnt)) y.txt y.tl y.kc y.wc y.gs)) := hD
  refine lv_iconst (v := nI (0)) hx hb dP_dropErased_4 (by decide) ?_
  refine lv_istore_n (lv' := [(1, .int (nI (0))), (0, .ref (b 0))]) hx hb dP_dropErased_5 rfl hl (by decide) rfl (fun ls hl => ?_)
  refine lv_iconst (v := nI (0)) hx hb dP_dropErased_6 (by decide) ?_
  refine lv_istore_n (lv' := [(2, .int (nI (0))), (1, .int (nI (0))), (0, .ref (b 0))]) hx hb dP_dropErased_7 rfl hl (by decide) rfl (fun ls hl => ?_)
  exact L8 (x.cnt + 1) (0) (0) H locs hP hD hS ls (by omega) (by omega) (by first | rfl | (rw [drF_t (g := mkG2 x y x.cnt) (k := y.kpt) (o := o) c_25 c_34, g1]; done) | (rw [drF_f1 (g := mkG2 x y x.cnt) (k := y.kpt) (o := o) c_25]; exact g1) | (rw [drF_f2 (g := mkG2 x y x.cnt) (k := y.kpt) (o := o) c_34]; exact g1)) (lv_sub hl [2, 1, 0] rfl)

def rmP_applyReady : Room := { frames := 4, cells := 0, slots := 0, locals := 86 }
set_option maxHeartbeats 4000000 in
set_option maxRecDepth 100000 in
theorem kP_applyReady {l : Launch} (D : va_G) (cc : Nat → ClassId) (a b : Nat → Nat) (x : LgS) (y : RpS) (sz : Nat) (ht : ∀ o, o < x.cnt → x.chr o = 0 → 0 < x.tgt o) (hp1 : ∀ o, o < x.cnt → 1 ≤ plc x o) (hap : ∀ o, o ≤ x.cnt → apOK x y o) (ok : okL x) (kr : okR y) : Met l yP_applyReady wsP_applyReady rmP_applyReady (va_Pc [.ref (b 0)] (WP D cc (wLR cc a b (x) (y)) sz)) (va_Qi (fun v (_ : Unit) => v = nI (aprF x y x.cnt).2) (WQ D cc (va_A (wLR cc a b (x) (y)) sz) (fun _ : Unit => wLR cc a b x (aprR x y))) (va_A (wLR cc a b (x) (y)) sz)) 0 0 (va_A (wLR cc a b (x) (y)) sz) := by
  refine wr_meti RP [.ref (b 0)] D cc (wLR cc a b (x) (y)) sz (fun _ : Unit => wLR cc a b x (aprR x y)) _ (by decide) rfl rfl (Nat.le_of_ble_eq_true rfl) (fun v _ _ => vp_nar_int v) ?_
  intro p e s m args below meth c Q A S hP hE hD hA kx ls hl
  obtain ⟨hx, hb, hml, hown, hts⟩ := id S
  have hK := hE.1
  have hts := hE.ts args
  have S : CallFix p m c cP_applyReady 3 s args wAll RP := ⟨hx, hb, hml, hown, hts⟩
  have hS : va_S A s.heap s.heap [] := va_S.rf
  have hn := ok.n
  have he := ok.e
  have hself := kr.self
  have htl := kr.tl
  have hl : lv_has ls 3 [(0, .ref (b 0))] := hl
  have L4 : ∀ (n : Nat) (nd : Nat) (o : Nat) (H : Heap) (locs : List Loc) (hP : va_P D vwCl (wLR cc a b (x) ((aprF x y o).1)) H) (hD : va_D A (wLR cc a b (x) ((aprF x y o).1))) (hS : va_S A s.heap H locs) (ls : Array Slot) (h1 : o ≤ x.cnt) (h2 : x.cnt - o < n) (g1 : nd = (aprF x y o).2), lv_has ls 3 [(0, .ref (b 0)), (1, .int (nI (nd))), (2, .int (nI (o)))] → W p l e rmP_applyReady s m args below meth c H locs 0 0 Q (F0 m 4 ls []) := by
    intro n
    induction n with
    | zero => intro nd o H locs hP hD hS ls h1 h2 g1 hl; exact absurd h2 (Nat.not_lt_zero _)
    | succ n ih =>
      intro nd o H locs hP hD hS ls h1 h2 g1 hl
      obtain ⟨kr3, hkc3, hy2⟩ := hap o h1
      have hdl := aprF_le x y o
      refine lv_iload_n hx hb dP_applyReady_4 rfl (lv_at hl 2 rfl) ?_
      refine lv_aload_n hx hb dP_applyReady_5 rfl (lv_at hl 0 rfl) ?_
      refine va_get (D := D) (ci := 1) (v := .ref (a 0)) (C := RP) (T := TP) (N := 12) hx hb hts in_P hown hK hP 7 rfl rfl 1 (by decide) (hts _ wm_45) (fun _ h9 => h9) rfl dP_applyReady_6 ?_
      refine va_getN (D := D) (ci := 0) (v := .int (nI (x.cnt))) (C := RL) (T := TL) (N := 8) hx hb hts in_L hown hK hP 0 rfl rfl 6 (by decide) (hE.f nf_8) (fun _ h9 => h9) rfl dP_applyReady_9 ?_
      refine r_ge (by omega) (Nat.lt_of_le_of_lt ok.n (by decide)) (tgt := 63) hx hb dP_applyReady_12 (by decide) (fun c_12 => ?_) (fun c_12 => ?_)
      · obtain rfl : o = x.cnt := by omega
        refine lv_iload_n hx hb dP_applyReady_63 rfl (lv_at hl 1 rfl) ?_
        refine r_leN (by omega) (tgt := 71) hx hb dP_applyReady_64 (by decide) (fun c_64 => ?_) (fun c_64 => ?_)
        · refine lv_iload_n hx hb dP_applyReady_71 rfl (lv_at hl 1 rfl) ?_
          exact kx _ _ _ _ _ (()) dP_applyReady_72 hS (by unfold aprR; first | (rw [if_neg (show ¬ 0 < (aprF x y x.cnt).2 by omega)]; exact hP) | (rw [if_pos (show 0 < (aprF x y x.cnt).2 by omega)]; exact hP)) (by unfold aprR; first | (rw [if_neg (show ¬ 0 < (aprF x y x.cnt).2 by omega)]; exact hD) | (rw [if_pos (show 0 < (aprF x y x.cnt).2 by omega)]; exact hD)) (by rw [g1])
        · refine lv_aload_n hx hb dP_applyReady_67 rfl (lv_at hl 0 rfl) ?_
          refine wr_callv (w2 := []) (va_runV (As := []) (rest := []) S (kP_rewriteText D cc a b x (aprF x y x.cnt).1 (H.size) ok (hap x.cnt (Nat.le_refl _)).1) (cwV 0 hts (gd_V wm_127 wm_128 wm_375 wm_3 wm_129) rfl rfl rfl (by decide +kernel) ⟨Nat.le_of_ble_eq_true rfl, Nat.le_of_ble_eq_true rfl⟩) (wr_preV (q0 := 7) hP hE hD rfl rfl) rfl rfl hl.1 rfl (lv_room (Nat.le_of_ble_eq_true rfl)) dP_applyReady_68 ⟨Nat.le_of_ble_eq_true rfl, Nat.le_of_ble_eq_true rfl⟩) (by rw [List.append_nil]; exact hP) (by rw [List.append_nil]; exact hD) hS hA (fun u H locs hpo hP hD hS => ?_)
          rw [List.append_nil] at hP hD
          have hP : va_P D vwCl (wLR cc a b (x) (rwR x (aprF x y x.cnt).1)) H := hP
          have hD : va_D A (wLR cc a b (x) (rwR x (aprF x y x.cnt).1)) := hD
          refine lv_iload_n hx hb dP_applyReady_71 rfl (lv_at hl 1 rfl) ?_
          exact kx _ _ _ _ _ (()) dP_applyReady_72 hS (by unfold aprR; first | (rw [if_neg (show ¬ 0 < (aprF x y x.cnt).2 by omega)]; exact hP) | (rw [if_pos (show 0 < (aprF x y x.cnt).2 by omega)]; exact hP)) (by unfold aprR; first | (rw [if_neg (show ¬ 0 < (aprF x y x.cnt).2 by omega)]; exact hD) | (rw [if_pos (show 0 < (aprF x y x.cnt).2 by omega)]; exact hD)) (by rw [g1])
      · refine lv_aload_n hx hb dP_applyReady_15 rfl (lv_at hl 0 rfl) ?_
        refine va_get (D := D) (ci := 1) (v := .ref (b 5)) (C := RP) (T := TP) (N := 12) hx hb hts in_P hown hK hP 7 rfl rfl 3 (by decide) (hts _ wm_47) (fun _ h9 => h9) rfl dP_applyReady_16 ?_
        refine lv_iload_n hx hb dP_applyReady_19 rfl (lv_at hl 2 rfl) ?_
        refine r_zald (q0 := 12) (t0 := 1) hx hb hK hP rfl rfl (by omega) (by decide) dP_applyReady_20 ?_
        refine r_eqB (tgt := 57) hx hb dP_applyReady_21 (by decide) (fun c_21 => ?_) (fun c_21 => ?_)
        · refine lv_iinc (v := nI (o + 1)) (lv' := [(2, .int (nI (o + 1))), (0, .ref (b 0)), (1, .int (nI (nd)))]) hx hb dP_applyReady_57 hl (k := 2) rfl (nI_1 _) (by decide) rfl (fun ls hl => ?_)
          refine lv_goto (tgt := 4) hx hb dP_applyReady_60 (by decide) ?_
          have hP : va_P D vwCl (wLR cc a b x (aprF x y (o + 1)).1) H := by first | (rw [aprF_t c_21 c_29]; exact hP) | (rw [aprF_f1 c_21]; exact hP) | (rw [aprF_f2 c_29]; exact hP)
          have hD : va_D A (wLR cc a b x (aprF x y (o + 1)).1) := by first | (rw [aprF_t c_21 c_29]; exact hD) | (rw [aprF_f1 c_21]; exact hD) | (rw [aprF_f2 c_29]; exact hD)
          exact ih  (nd) (o + 1) H locs hP hD hS ls (by omega) (by omega) (by first | rfl | (rw [aprF_t c_21 c_29, g1]; done) | (rw [aprF_f1 c_21]; exact g1) | (rw [aprF_f2 c_29]; exact g1)) (lv_sub hl [1, 2, 0] rfl)
        · refine lv_aload_n hx hb dP_applyReady_24 rfl (lv_at hl 0 rfl) ?_
          refine lv_iload_n hx hb dP_applyReady_25 rfl (lv_at hl 2 rfl) ?_
          refine W.callR (W.runV (As := [.int (nI (o))]) (rest := []) S (kP_isReady D cc a b x ((aprF x y o).1) (o) (by omega) (hp1 _ (by omega)) ok kr3) (cwV 1 hts (gd_V wm_158 wm_159 wm_376 wm_3 wm_160) rfl rfl rfl (by decide +kernel) ⟨Nat.le_of_ble_eq_true rfl, Nat.le_of_ble_eq_true rfl⟩) (rd_preV (q0 := 7) hP hE rfl rfl) rfl rfl hl.1 rfl (lv_room (Nat.le_of_ble_eq_true rfl)) dP_applyReady_26 ⟨Nat.le_of_ble_eq_true rfl, Nat.le_of_ble_eq_true rfl⟩) ?_
          refine W.eq (g2 := F0 m 29 ls [.int (bI (rdyL x ((aprF x y o).1) (o)))]) rfl ?_
          refine r_eqB (tgt := 57) hx hb dP_applyReady_29 (by decide) (fun c_29 => ?_) (fun c_29 => ?_)
          · refine lv_iinc (v := nI (o + 1)) (lv' := [(2, .int (nI (o + 1))), (0, .ref (b 0)), (1, .int (nI (nd)))]) hx hb dP_applyReady_57 hl (k := 2) rfl (nI_1 _) (by decide) rfl (fun ls hl => ?_)
            refine lv_goto (tgt := 4) hx hb dP_applyReady_60 (by decide) ?_
            have hP : va_P D vwCl (wLR cc a b x (aprF x y (o + 1)).1) H := by first | (rw [aprF_t c_21 c_29]; exact hP) | (rw [aprF_f1 c_21]; exact hP) | (rw [aprF_f2 c_29]; exact hP)
            have hD : va_D A (wLR cc a b x (aprF x y (o + 1)).1) := by first | (rw [aprF_t c_21 c_29]; exact hD) | (rw [aprF_f1 c_21]; exact hD) | (rw [aprF_f2 c_29]; exact hD)
            exact ih  (nd) (o + 1) H locs hP hD hS ls (by omega) (by omega) (by first | rfl | (rw [aprF_t c_21 c_29, g1]; done) | (rw [aprF_f1 c_21]; exact g1) | (rw [aprF_f2 c_29]; exact g1)) (lv_sub hl [1, 2, 0] rfl)
          · refine lv_aload_n hx hb dP_applyReady_32 rfl (lv_at hl 0 rfl) ?_
            refine va_get (D := D) (ci := 1) (v := .ref (b 5)) (C := RP) (T := TP) (N := 12) hx hb hts in_P hown hK hP 7 rfl rfl 3 (by decide) (hts _ wm_47) (fun _ h9 => h9) rfl dP_applyReady_33 ?_
            refine lv_iload_n hx hb dP_applyReady_36 rfl (lv_at hl 2 rfl) ?_
            refine lv_iconst (v := bI (false)) hx hb dP_applyReady_37 (by decide) ?_
            refine r_zast ((((aprF x y o).1).wts)) (false) (q0 := 12) (t0 := 1) hx hb hK hP hD hS rfl rfl (by omega) (by decide) dP_applyReady_38 (fun H locs hP hD hS => ?_)
            have hP : va_P D vwCl (wLR cc a b (x) (mkR (((aprF x y o).1).self) (((aprF x y o).1).seen) (va_up (aprF x y o).1.wts o false) (((aprF x y o).1).ers) (((aprF x y o).1).kpt) (((aprF x y o).1).mgo) (((aprF x y o).1).txt) (((aprF x y o).1).tl) (((aprF x y o).1).kc) (((aprF x y o).1).wc) (((aprF x y o).1).gs))) H := hP
            have hD : va_D A (wLR cc a b (x) (mkR (((aprF x y o).1).self) (((aprF x y o).1).seen) (va_up (aprF x y o).1.wts o false) (((aprF x y o).1).ers) (((aprF x y o).1).kpt) (((aprF x y o).1).mgo) (((aprF x y o).1).txt) (((aprF x y o).1).tl) (((aprF x y o).1).kc) (((aprF x y o).1).wc) (((aprF x y o).1).gs))) := hD
            refine lv_aload_n hx hb dP_applyReady_39 rfl (lv_at hl 0 rfl) ?_
            refine lv_dup hx hb dP_applyReady_40 rfl ?_
            refine va_get (D := D) (ci := 1) (v := .int (nI (((aprF x y o).1).wc))) (C := RP) (T := TP) (N := 12) hx hb hts in_P hown hK hP 7 rfl rfl 10 (by decide) (hts _ wm_54) (fun _ h9 => h9) rfl dP_applyReady_41 ?_
            refine lv_iconst (v := nI (1)) hx hb dP_applyReady_44 (by decide) ?_
            refine r_sub (hy2 c_21) hx hb dP_applyReady_45 ?_
            refine va_put (D := D) (ci := 1) (v := .int (nI ((((aprF x y o).1).wc) - 1))) (ty := .int) (C := RP) (T := TP) (N := 12) hx hb hts in_P tyP tyP_ok nmP hown hK hP hD hS 7 rfl rfl 10 (by decide) (hts _ wm_54) (fun _ h9 => h9) rfl (by decide +kernel) rfl rfl (Nat.le_of_ble_eq_true rfl) dP_applyReady_46 (fun H locs hP hD hS => ?_)
            have hP : va_P D vwCl (wLR cc a b (x) (mkR (((aprF x y o).1).self) (((aprF x y o).1).seen) (va_up (aprF x y o).1.wts o false) (((aprF x y o).1).ers) (((aprF x y o).1).kpt) (((aprF x y o).1).mgo) (((aprF x y o).1).txt) (((aprF x y o).1).tl) (((aprF x y o).1).kc) ((aprF x y o).1.wc - 1) (((aprF x y o).1).gs))) H := hP
            have hD : va_D A (wLR cc a b (x) (mkR (((aprF x y o).1).self) (((aprF x y o).1).seen) (va_up (aprF x y o).1.wts o false) (((aprF x y o).1).ers) (((aprF x y o).1).kpt) (((aprF x y o).1).mgo) (((aprF x y o).1).txt) (((aprF x y o).1).tl) (((aprF x y o).1).kc) ((aprF x y o).1.wc - 1) (((aprF x y o).1).gs))) := hD
            have hP : va_P D vwCl (wLR cc a b (x) (wtR (aprF x y o).1 o)) H := hP
            have hD : va_D A (wLR cc a b (x) (wtR (aprF x y o).1 o)) := hD
            refine lv_aload_n hx hb dP_applyReady_49 rfl (lv_at hl 0 rfl) ?_
            refine lv_iload_n hx hb dP_applyReady_50 rfl (lv_at hl 2 rfl) ?_
            refine wr_callv (w2 := []) (va_runV (As := [.int (nI (o))]) (rest := []) S (kP_apply D cc a b x (wtR (aprF x y o).1 o) (H.size) o (by omega) (ht o (by omega)) ok (okR_wt kr3)) (cwV 1 hts (gd_V wm_108 wm_109 wm_374 wm_3 wm_110) rfl rfl rfl (by decide +kernel) ⟨Nat.le_of_ble_eq_true rfl, Nat.le_of_ble_eq_true rfl⟩) (wr_preV (q0 := 7) hP hE hD rfl rfl) rfl rfl hl.1 rfl (lv_room (Nat.le_of_ble_eq_true rfl)) dP_applyReady_51 ⟨Nat.le_of_ble_eq_true rfl, Nat.le_of_ble_eq_true rfl⟩) (by rw [List.append_nil]; exact hP) (by rw [List.append_nil]; exact hD) hS hA (fun u H locs hpo hP hD hS => ?_)
            rw [List.append_nil] at hP hD
            have hP : va_P D vwCl (wLR cc a b (x) (applyR x (wtR (aprF x y o).1 o) o)) H := hP
            have hD : va_D A (wLR cc a b (x) (applyR x (wtR (aprF x y o).1 o) o)) := hD
            refine lv_iinc (v := nI (nd + 1)) (lv' := [(1, .int (nI (nd + 1))), (0, .ref (b 0)), (2, .int (nI (o)))]) hx hb dP_applyReady_54 hl (k := 1) rfl (nI_1 _) (by decide) rfl (fun ls hl => ?_)
            refine lv_iinc (v := nI (o + 1)) (lv' := [(2, .int (nI (o + 1))), (1, .int (nI (nd + 1))), (0, .ref (b 0))]) hx hb dP_applyReady_57 hl (k := 2) rfl (nI_1 _) (by decide) rfl (fun ls hl => ?_)
            refine lv_goto (tgt := 4) hx hb dP_applyReady_60 (by decide) ?_
            have hP : va_P D vwCl (wLR cc a b x (aprF x y (o + 1)).1) H := by first | (rw [aprF_t c_21 c_29]; exact hP) | (rw [aprF_f1 c_21]; exact hP) | (rw [aprF_f2 c_29]; exact hP)
            have hD : va_D A (wLR cc a b x (aprF x y (o + 1)).1) := by first | (rw [aprF_t c_21 c_29]; exact hD) | (rw [aprF_f1 c_21]; exact hD) | (rw [aprF_f2 c_29]; exact hD)
            exact ih  (nd + 1) (o + 1) H locs hP hD hS ls (by omega) (by omega) (by first | rfl | (rw [aprF_t c_21 c_29, g1]; done) | (rw [aprF_f1 c_21]; exact g1) | (rw [aprF_f2 c_29]; exact g1)) (lv_sub hl [2, 1, 0] rfl)
  refine lv_iconst (v := nI (0)) hx hb dP_applyReady_0 (by decide) ?_
  refine lv_istore_n (lv' := [(1, .int (nI (0))), (0, .ref (b 0))]) hx hb dP_applyReady_1 rfl hl (by decide) rfl (fun ls hl => ?_)
  refine lv_iconst (v := nI (0)) hx hb dP_applyReady_2 (by decide) ?_
  refine lv_istore_n (lv' := [(2, .int (nI (0))), (1, .int (nI (0))), (0, .ref (b 0))]) hx hb dP_applyReady_3 rfl hl (by decide) rfl (fun ls hl => ?_)
  exact L4 (x.cnt + 1) (0) (0) s.heap [] hP hD hS ls (by omega) (by omega) (by first | rfl | (rw [aprF_t c_21 c_29, g1]; done) | (rw [aprF_f1 c_21]; exact g1) | (rw [aprF_f2 c_29]; exact g1)) (lv_sub hl [2, 1, 0] rfl)

def rmP_issue : Room := { frames := 4, cells := 0, slots := 0, locals := 93 }
set_option maxHeartbeats 4000000 in
set_option maxRecDepth 100000 in
theorem kP_issue {l : Launch} (D : va_G) (cc : Nat → ClassId) (a b : Nat → Nat) (x : LgS) (y : RpS) (sz : Nat) (t ch ib k : Nat) (ht : t ≤ 100) (hch : ch < 65536) (htc : ch = 0 → 0 < t) (hc : x.cnt < 100) (hel : x.el < 100) (hgs : y.gs < 900) (hkc : y.kc < 900) (hsn : ∀ k, y.seen y.self k < 900) (hpl : ¬ ch = 0 → plP (rec5 x y.self (y.gs + 1) t ch (y.seen y.self)) x.cnt ib k) (ok : okL x) (kr : okR y) : Met l yP_issue wsP_issue rmP_issue (va_Pc [.ref (b 0), .int (sI (t)), .int (nI (ch))] (WP D cc (wLR cc a b (x) (y)) sz)) (va_Qi (fun v (_ : Unit) => v = nI x.cnt) (WQ D cc (va_A (wLR cc a b (x) (y)) sz) (fun _ : Unit => wLR cc a b (isuL x y t ch k) (isuR x y t ch k))) (va_A (wLR cc a b (x) (y)) sz)) 0 0 (va_A (wLR cc a b (x) (y)) sz) := by
  refine wr_meti RP [.ref (b 0), .int (sI (t)), .int (nI (ch))] D cc (wLR cc a b (x) (y)) sz (fun _ : Unit => wLR cc a b (isuL x y t ch k) (isuR x y t ch k)) _ (by decide) rfl rfl (Nat.le_of_ble_eq_true rfl) (fun v _ _ => vp_nar_int v) ?_
  intro p e s m args below meth c Q A S hP hE hD hA kx ls hl
  obtain ⟨hx, hb, hml, hown, hts⟩ := id S
  have hK := hE.1
  have hts := hE.ts args
  have S : CallFix p m c cP_issue 4 s args wAll RP := ⟨hx, hb, hml, hown, hts⟩
  have hS : va_S A s.heap s.heap [] := va_S.rf
  have hn := ok.n
  have he := ok.e
  have hself := kr.self
  have htl := kr.tl
  have hl : lv_has ls 4 [(0, .ref (b 0)), (1, .int (sI (t))), (2, .int (nI (ch)))] := hl
  refine lv_aload_n hx hb dP_issue_0 rfl (lv_at hl 0 rfl) ?_
  refine va_get (D := D) (ci := 1) (v := .ref (a 0)) (C := RP) (T := TP) (N := 12) hx hb hts in_P hown hK hP 7 rfl rfl 1 (by decide) (hts _ wm_45) (fun _ h9 => h9) rfl dP_issue_1 ?_
  refine lv_aload_n hx hb dP_issue_4 rfl (lv_at hl 0 rfl) ?_
  refine va_get (D := D) (ci := 1) (v := .int (nI (y.self))) (C := RP) (T := TP) (N := 12) hx hb hts in_P hown hK hP 7 rfl rfl 0 (by decide) (hts _ wm_44) (fun _ h9 => h9) rfl dP_issue_5 ?_
  refine lv_aload_n hx hb dP_issue_8 rfl (lv_at hl 0 rfl) ?_
  refine va_get (D := D) (ci := 1) (v := .int (nI (y.gs))) (C := RP) (T := TP) (N := 12) hx hb hts in_P hown hK hP 7 rfl rfl 11 (by decide) (hts _ wm_55) (fun _ h9 => h9) rfl dP_issue_9 ?_
  refine lv_iconst (v := nI (1)) hx hb dP_issue_12 (by decide) ?_
  refine r_add hx hb dP_issue_13 ?_
  refine lv_aload_n hx hb dP_issue_14 rfl (lv_at hl 0 rfl) ?_
  refine va_get (D := D) (ci := 1) (v := .ref (b 1)) (C := RP) (T := TP) (N := 12) hx hb hts in_P hown hK hP 7 rfl rfl 2 (by decide) (hts _ wm_46) (fun _ h9 => h9) rfl dP_issue_15 ?_
  refine lv_aload_n hx hb dP_issue_18 rfl (lv_at hl 0 rfl) ?_
  refine va_get (D := D) (ci := 1) (v := .int (nI (y.self))) (C := RP) (T := TP) (N := 12) hx hb hts in_P hown hK hP 7 rfl rfl 0 (by decide) (hts _ wm_44) (fun _ h9 => h9) rfl dP_issue_19 ?_
  refine r_aald (q0 := 8) (t0 := 3) (f := (fun j => b (2 + j))) hx hb hK hP rfl rfl (by omega) (by decide) dP_issue_22 ?_
  refine lv_iload_n hx hb dP_issue_23 rfl (lv_at hl 1 rfl) ?_
  refine lv_iload_n hx hb dP_issue_24 rfl (lv_at hl 2 rfl) ?_
  have hPx := lr_P (i := y.self) kr.self hP
  have hDx := lr_D (i := y.self) kr.self hD
  refine wr_calli (w2 := wRx cc (a 0) b y y.self) (va_runV (As := [.int (nI (y.self)), .int (nI (y.gs + 1)), .ref (b (2 + (y.self))), .int (sI (t)), .int (nI (ch))]) (rest := []) S (kL_record D cc a x (b (2 + y.self)) (y.seen y.self) hsn (s.heap.size) y.self (y.gs + 1) t ch ib k kr.self (by have := kr.gs; omega) ht hch hc hel hpl ok) (cwV 5 hts (gd_V wm_92 wm_93 wm_94 wm_2 wm_95) rfl rfl rfl (by decide +kernel) ⟨Nat.le_of_ble_eq_true rfl, Nat.le_of_ble_eq_true rfl⟩) (wr_preV (q0 := 0) (P_left hPx) hE (D_left hDx) rfl rfl) rfl rfl hl.1 rfl (lv_room (Nat.le_of_ble_eq_true rfl)) dP_issue_25 ⟨Nat.le_of_ble_eq_true rfl, Nat.le_of_ble_eq_true rfl⟩) hPx hDx hS hA (fun v_25 u H locs hpo hP hD hS => ?_)
  subst hpo
  have hP : va_P D vwCl (wLR cc a b (isuL x y t ch k) (y)) H := lr_P' kr.self hP
  have hD : va_D A (wLR cc a b (isuL x y t ch k) (y)) := lr_D' kr.self hD
  have ok2 : okL (isuL x y t ch k) := okL_rec ok kr.self (by have := kr.gs; omega) ht hch hc hel hsn
  refine lv_istore_n (lv' := [(3, .int (nI (x.cnt))), (0, .ref (b 0)), (1, .int (sI (t))), (2, .int (nI (ch)))]) hx hb dP_issue_28 rfl hl (by decide) rfl (fun ls hl => ?_)
  refine lv_aload_n hx hb dP_issue_29 rfl (lv_at hl 1 rfl) ?_
  refine lv_iload_n hx hb dP_issue_30 rfl (lv_at hl 0 rfl) ?_
  refine wr_callv (w2 := []) (va_runV (As := [.int (nI (x.cnt))]) (rest := []) S (kP_apply D cc a b (isuL x y t ch k) y (H.size) x.cnt (by omega) (fun q => by rw [show (isuL x y t ch k).tgt x.cnt = t from rec_tgt _ _ _ _ _ _ _]; exact htc ((rec_chr _ _ _ _ _ _ _).symm.trans q)) ok2 kr) (cwV 1 hts (gd_V wm_108 wm_109 wm_374 wm_3 wm_110) rfl rfl rfl (by decide +kernel) ⟨Nat.le_of_ble_eq_true rfl, Nat.le_of_ble_eq_true rfl⟩) (wr_preV (q0 := 7) hP hE hD rfl rfl) rfl rfl hl.1 rfl (lv_room (Nat.le_of_ble_eq_true rfl)) dP_issue_31 ⟨Nat.le_of_ble_eq_true rfl, Nat.le_of_ble_eq_true rfl⟩) (by rw [List.append_nil]; exact hP) (by rw [List.append_nil]; exact hD) hS hA (fun u H locs hpo hP hD hS => ?_)
  rw [List.append_nil] at hP hD
  have hP : va_P D vwCl (wLR cc a b (isuL x y t ch k) (applyR (isuL x y t ch k) y x.cnt)) H := hP
  have hD : va_D A (wLR cc a b (isuL x y t ch k) (applyR (isuL x y t ch k) y x.cnt)) := hD
  have kr2 : okR (applyR (isuL x y t ch k) y x.cnt) := okR_apply ok2 kr hkc
  refine lv_aload_n hx hb dP_issue_34 rfl (lv_at hl 1 rfl) ?_
  refine wr_callv (w2 := []) (va_runV (As := []) (rest := []) S (kP_rewriteText D cc a b (isuL x y t ch k) (applyR (isuL x y t ch k) y x.cnt) (H.size) ok2 kr2) (cwV 0 hts (gd_V wm_127 wm_128 wm_375 wm_3 wm_129) rfl rfl rfl (by decide +kernel) ⟨Nat.le_of_ble_eq_true rfl, Nat.le_of_ble_eq_true rfl⟩) (wr_preV (q0 := 7) hP hE hD rfl rfl) rfl rfl hl.1 rfl (lv_room (Nat.le_of_ble_eq_true rfl)) dP_issue_35 ⟨Nat.le_of_ble_eq_true rfl, Nat.le_of_ble_eq_true rfl⟩) (by rw [List.append_nil]; exact hP) (by rw [List.append_nil]; exact hD) hS hA (fun u H locs hpo hP hD hS => ?_)
  rw [List.append_nil] at hP hD
  have hP : va_P D vwCl (wLR cc a b (isuL x y t ch k) (isuR x y t ch k)) H := hP
  have hD : va_D A (wLR cc a b (isuL x y t ch k) (isuR x y t ch k)) := hD
  refine lv_iload_n hx hb dP_issue_38 rfl (lv_at hl 0 rfl) ?_
  exact kx _ _ _ _ _ (()) dP_issue_39 hS hP hD (rfl)
