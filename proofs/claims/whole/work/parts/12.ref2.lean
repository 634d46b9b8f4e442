def rmM_ready : Room := { frames := 2, cells := 0, slots := 0, locals := 46 }
set_option maxHeartbeats 4000000 in
set_option maxRecDepth 100000 in
theorem kM_ready {l : Launch} (D : va_G) (cc : Nat → ClassId) (q : Nat → Nat) (x : MS) (r o : Nat) (hr : r < 3) (ho : o < 100) (hl1 : 1 ≤ x.line o) (ok : okM x) : Met l yM_ready wsM_ready rmM_ready (va_Pc [.ref (q 0), .int (nI (r)), .int (nI (o))] (fun U => va_P D vwCl (wM cc q x) U.heap ∧ EN D cc U)) (QcRead (bI (rdyM x r o 3))) 0 0 (fun _ => False) := by
  refine rd_met RM [.ref (q 0), .int (nI (r)), .int (nI (o))] _ _ (by decide) rfl rfl (Nat.le_of_ble_eq_true rfl) (bI_z _) ?_
  intro p e s m args below meth c Q S hB kx ls hl
  obtain ⟨hx, hb, hml, hown, hts⟩ := id S
  obtain ⟨hP, hE⟩ := hB
  have hK := hE.1
  have hts := hE.ts args
  have S : CallFix p m c cM_ready 5 s args wAll RM := ⟨hx, hb, hml, hown, hts⟩
  have hn := ok.n
  have hlo := ok.line o
  have hl : lv_has ls 5 [(0, .ref (q 0)), (1, .int (nI (r))), (2, .int (nI (o)))] := hl
  have L31 : ∀ (n : Nat) (j : Nat) (z : Bool)  (ls : Array Slot) (h1 : j ≤ 3) (h2 : 3 - j < n) (h3 : z = rdyM x r o j), lv_has ls 5 [(0, .ref (q 0)), (1, .int (nI (r))), (2, .int (nI (o))), (3, .int (bI (z))), (4, .int (nI (j)))] → W p l e rmM_ready s m args below meth c s.heap [] 0 0 Q (F0 m 31 ls []) := by
    intro n
    induction n with
    | zero => intro j z ls h1 h2 h3 hl; exact absurd h2 (Nat.not_lt_zero _)
    | succ n ih =>
      intro j z ls h1 h2 h3 hl
      refine lv_iload hx hb dM_ready_31 (lv_at hl 4 rfl) ?_
      refine lv_iconst (v := nI (3)) hx hb dM_ready_33 (by decide) ?_
      refine r_ge (by omega) (by decide) (tgt := 85) hx hb dM_ready_34 (by decide) (fun c_34 => ?_) (fun c_34 => ?_)
      · refine lv_iload_n hx hb dM_ready_85 rfl (lv_at hl 3 rfl) ?_
        exact kx _ _ _ dM_ready_86 (by rw [h3, show j = 3 by omega])
      · refine lv_iload_n hx hb dM_ready_37 rfl (lv_at hl 3 rfl) ?_
        refine r_eqB (tgt := 77) hx hb dM_ready_38 (by decide) (fun c_38 => ?_) (fun c_38 => ?_)
        · refine lv_iconst (v := bI (false)) hx hb dM_ready_77 (by decide) ?_
          refine lv_istore_n (lv' := [(3, .int (bI (false))), (0, .ref (q 0)), (1, .int (nI (r))), (2, .int (nI (o))), (4, .int (nI (j)))]) hx hb dM_ready_78 rfl hl (by decide) rfl (fun ls hl => ?_)
          refine lv_iinc (v := nI (j + 1)) (lv' := [(4, .int (nI (j + 1))), (3, .int (bI (false))), (0, .ref (q 0)), (1, .int (nI (r))), (2, .int (nI (o)))]) hx hb dM_ready_79 hl (k := 4) rfl (nI_1 _) (by decide) rfl (fun ls hl => ?_)
          refine lv_goto (tgt := 31) hx hb dM_ready_82 (by decide) ?_
          exact ih  (j + 1) (false)  ls (by omega) (by omega) (by first | (exact (decide_eq_true c_19).symm) | (exact (decide_eq_false c_19).symm) | (rw [rdyM_s, ← h3]; first | (simp [c_38]; done) | (simp [c_38, c_49]; done) | (simp [c_38, c_49, c_70]; done) | (simp [c_38, c_49, show ¬ x.clk (3 * o + j) ≤ cntM x r j x.nn by omega]; done))) (lv_sub hl [2, 3, 4, 1, 0] rfl)
        · refine lv_iload hx hb dM_ready_41 (lv_at hl 4 rfl) ?_
          refine lv_aload_n hx hb dM_ready_43 rfl (lv_at hl 0 rfl) ?_
          refine va_get (D := D) (ci := 3) (v := .ref (q 1)) (C := RM) (T := TM) (N := 13) hx hb hts in_M hown hK hP 0 rfl rfl 1 (by decide) (hts _ wm_244) (fun _ h9 => h9) rfl dM_ready_44 ?_
          refine lv_iload_n hx hb dM_ready_47 rfl (lv_at hl 2 rfl) ?_
          refine r_iald (q0 := 1) (t0 := 0) hx hb hK hP rfl rfl (by omega) (by decide) dM_ready_48 ?_
          refine r_eq (by omega) (ok.by_ (o)) (tgt := 73) hx hb dM_ready_49 (by decide) (fun c_49 => ?_) (fun c_49 => ?_)
          · refine lv_iconst (v := bI (true)) hx hb dM_ready_73 (by decide) ?_
            refine lv_goto (tgt := 78) hx hb dM_ready_74 (by decide) ?_
            refine lv_istore_n (lv' := [(3, .int (bI (true))), (0, .ref (q 0)), (1, .int (nI (r))), (2, .int (nI (o))), (4, .int (nI (j)))]) hx hb dM_ready_78 rfl hl (by decide) rfl (fun ls hl => ?_)
            refine lv_iinc (v := nI (j + 1)) (lv' := [(4, .int (nI (j + 1))), (3, .int (bI (true))), (0, .ref (q 0)), (1, .int (nI (r))), (2, .int (nI (o)))]) hx hb dM_ready_79 hl (k := 4) rfl (nI_1 _) (by decide) rfl (fun ls hl => ?_)
            refine lv_goto (tgt := 31) hx hb dM_ready_82 (by decide) ?_
            exact ih  (j + 1) (true)  ls (by omega) (by omega) (by first | (exact (decide_eq_true c_19).symm) | (exact (decide_eq_false c_19).symm) | (rw [rdyM_s, ← h3]; first | (simp [c_38]; done) | (simp [c_38, c_49]; done) | (simp [c_38, c_49, c_70]; done) | (simp [c_38, c_49, show ¬ x.clk (3 * o + j) ≤ cntM x r j x.nn by omega]; done))) (lv_sub hl [2, 3, 4, 1, 0] rfl)
          · refine lv_aload_n hx hb dM_ready_52 rfl (lv_at hl 0 rfl) ?_
            refine lv_iload_n hx hb dM_ready_53 rfl (lv_at hl 1 rfl) ?_
            refine lv_iload hx hb dM_ready_54 (lv_at hl 4 rfl) ?_
            refine W.callR (W.runV (As := [.int (nI (r)), .int (nI (j))]) (rest := []) S (kM_count D cc q x (r) (j) (by omega) (by omega) ok) (cwV 2 hts (gd_V wm_297 wm_298 wm_386 wm_4 wm_299) rfl rfl rfl (by decide +kernel) ⟨Nat.le_of_ble_eq_true rfl, Nat.le_of_ble_eq_true rfl⟩) (rd_preV (q0 := 0) hP hE rfl rfl) rfl rfl hl.1 rfl (lv_room (Nat.le_of_ble_eq_true rfl)) dM_ready_56 ⟨Nat.le_of_ble_eq_true rfl, Nat.le_of_ble_eq_true rfl⟩) ?_
            refine W.eq (g2 := F0 m 59 ls [.int (nI (cntM x (r) (j) x.nn))]) rfl ?_
            refine lv_aload_n hx hb dM_ready_59 rfl (lv_at hl 0 rfl) ?_
            refine va_get (D := D) (ci := 3) (v := .ref (q 6)) (C := RM) (T := TM) (N := 13) hx hb hts in_M hown hK hP 0 rfl rfl 6 (by decide) (hts _ wm_249) (fun _ h9 => h9) rfl dM_ready_60 ?_
            refine lv_iconst (v := nI (3)) hx hb dM_ready_63 (by decide) ?_
            refine lv_iload_n hx hb dM_ready_64 rfl (lv_at hl 2 rfl) ?_
            refine r_mul hx hb dM_ready_65 ?_
            refine lv_iload hx hb dM_ready_66 (lv_at hl 4 rfl) ?_
            refine r_add hx hb dM_ready_68 ?_
            refine r_iald (q0 := 6) (t0 := 0) hx hb hK hP rfl rfl (by omega) (by decide) dM_ready_69 ?_
            refine r_lt (Nat.lt_of_le_of_lt (Nat.le_trans (cntM_le _ _ _ _) ok.n) (by decide)) (ok.clk ((3 * o) + j)) (tgt := 77) hx hb dM_ready_70 (by decide) (fun c_70 => ?_) (fun c_70 => ?_)
            · refine lv_iconst (v := bI (false)) hx hb dM_ready_77 (by decide) ?_
              refine lv_istore_n (lv' := [(3, .int (bI (false))), (0, .ref (q 0)), (1, .int (nI (r))), (2, .int (nI (o))), (4, .int (nI (j)))]) hx hb dM_ready_78 rfl hl (by decide) rfl (fun ls hl => ?_)
              refine lv_iinc (v := nI (j + 1)) (lv' := [(4, .int (nI (j + 1))), (3, .int (bI (false))), (0, .ref (q 0)), (1, .int (nI (r))), (2, .int (nI (o)))]) hx hb dM_ready_79 hl (k := 4) rfl (nI_1 _) (by decide) rfl (fun ls hl => ?_)
              refine lv_goto (tgt := 31) hx hb dM_ready_82 (by decide) ?_
              exact ih  (j + 1) (false)  ls (by omega) (by omega) (by first | (exact (decide_eq_true c_19).symm) | (exact (decide_eq_false c_19).symm) | (rw [rdyM_s, ← h3]; first | (simp [c_38]; done) | (simp [c_38, c_49]; done) | (simp [c_38, c_49, c_70]; done) | (simp [c_38, c_49, show ¬ x.clk (3 * o + j) ≤ cntM x r j x.nn by omega]; done))) (lv_sub hl [2, 3, 4, 1, 0] rfl)
            · refine lv_iconst (v := bI (true)) hx hb dM_ready_73 (by decide) ?_
              refine lv_goto (tgt := 78) hx hb dM_ready_74 (by decide) ?_
              refine lv_istore_n (lv' := [(3, .int (bI (true))), (0, .ref (q 0)), (1, .int (nI (r))), (2, .int (nI (o))), (4, .int (nI (j)))]) hx hb dM_ready_78 rfl hl (by decide) rfl (fun ls hl => ?_)
              refine lv_iinc (v := nI (j + 1)) (lv' := [(4, .int (nI (j + 1))), (3, .int (bI (true))), (0, .ref (q 0)), (1, .int (nI (r))), (2, .int (nI (o)))]) hx hb dM_ready_79 hl (k := 4) rfl (nI_1 _) (by decide) rfl (fun ls hl => ?_)
              refine lv_goto (tgt := 31) hx hb dM_ready_82 (by decide) ?_
              exact ih  (j + 1) (true)  ls (by omega) (by omega) (by first | (exact (decide_eq_true c_19).symm) | (exact (decide_eq_false c_19).symm) | (rw [rdyM_s, ← h3]; first | (simp [c_38]; done) | (simp [c_38, c_49]; done) | (simp [c_38, c_49, c_70]; done) | (simp [c_38, c_49, show ¬ x.clk (3 * o + j) ≤ cntM x r j x.nn by omega]; done))) (lv_sub hl [2, 3, 4, 1, 0] rfl)
  refine lv_aload_n hx hb dM_ready_0 rfl (lv_at hl 0 rfl) ?_
  refine lv_iload_n hx hb dM_ready_1 rfl (lv_at hl 1 rfl) ?_
  refine lv_aload_n hx hb dM_ready_2 rfl (lv_at hl 0 rfl) ?_
  refine va_get (D := D) (ci := 3) (v := .ref (q 1)) (C := RM) (T := TM) (N := 13) hx hb hts in_M hown hK hP 0 rfl rfl 1 (by decide) (hts _ wm_244) (fun _ h9 => h9) rfl dM_ready_3 ?_
  refine lv_iload_n hx hb dM_ready_6 rfl (lv_at hl 2 rfl) ?_
  refine r_iald (q0 := 1) (t0 := 0) hx hb hK hP rfl rfl (by omega) (by decide) dM_ready_7 ?_
  refine W.callR (W.runV (As := [.int (nI (r)), .int (nI (x.by_ o))]) (rest := []) S (kM_count D cc q x (r) (x.by_ o) (by omega) (ok.by3 _) ok) (cwV 2 hts (gd_V wm_297 wm_298 wm_386 wm_4 wm_299) rfl rfl rfl (by decide +kernel) ⟨Nat.le_of_ble_eq_true rfl, Nat.le_of_ble_eq_true rfl⟩) (rd_preV (q0 := 0) hP hE rfl rfl) rfl rfl hl.1 rfl (lv_room (Nat.le_of_ble_eq_true rfl)) dM_ready_8 ⟨Nat.le_of_ble_eq_true rfl, Nat.le_of_ble_eq_true rfl⟩) ?_
  refine W.eq (g2 := F0 m 11 ls [.int (nI (cntM x (r) (x.by_ o) x.nn))]) rfl ?_
  refine lv_aload_n hx hb dM_ready_11 rfl (lv_at hl 0 rfl) ?_
  refine va_get (D := D) (ci := 3) (v := .ref (q 2)) (C := RM) (T := TM) (N := 13) hx hb hts in_M hown hK hP 0 rfl rfl 2 (by decide) (hts _ wm_245) (fun _ h9 => h9) rfl dM_ready_12 ?_
  refine lv_iload_n hx hb dM_ready_15 rfl (lv_at hl 2 rfl) ?_
  refine r_iald (q0 := 2) (t0 := 0) hx hb hK hP rfl rfl (by omega) (by decide) dM_ready_16 ?_
  refine lv_iconst (v := nI (1)) hx hb dM_ready_17 (by decide) ?_
  refine r_sub (hl1) hx hb dM_ready_18 ?_
  refine r_ne (Nat.lt_of_le_of_lt (Nat.le_trans (cntM_le _ _ _ _) ok.n) (by decide)) (by omega) (tgt := 26) hx hb dM_ready_19 (by decide) (fun c_19 => ?_) (fun c_19 => ?_)
  · refine lv_iconst (v := bI (false)) hx hb dM_ready_26 (by decide) ?_
    refine lv_istore_n (lv' := [(3, .int (bI (false))), (0, .ref (q 0)), (1, .int (nI (r))), (2, .int (nI (o)))]) hx hb dM_ready_27 rfl hl (by decide) rfl (fun ls hl => ?_)
    refine lv_iconst (v := nI (0)) hx hb dM_ready_28 (by decide) ?_
    refine lv_istore (lv' := [(4, .int (nI (0))), (3, .int (bI (false))), (0, .ref (q 0)), (1, .int (nI (r))), (2, .int (nI (o)))]) hx hb dM_ready_29 hl (by decide) rfl (fun ls hl => ?_)
    exact L31 (4) (0) (false)  ls (by omega) (by omega) (by first | (exact (decide_eq_true c_19).symm) | (exact (decide_eq_false c_19).symm) | (rw [rdyM_s, ← h3]; first | (simp [c_38]; done) | (simp [c_38, c_49]; done) | (simp [c_38, c_49, c_70]; done) | (simp [c_38, c_49, show ¬ x.clk (3 * o + j) ≤ cntM x r j x.nn by omega]; done))) (lv_sub hl [2, 3, 4, 1, 0] rfl)
  · refine lv_iconst (v := bI (true)) hx hb dM_ready_22 (by decide) ?_
    refine lv_goto (tgt := 27) hx hb dM_ready_23 (by decide) ?_
    refine lv_istore_n (lv' := [(3, .int (bI (true))), (0, .ref (q 0)), (1, .int (nI (r))), (2, .int (nI (o)))]) hx hb dM_ready_27 rfl hl (by decide) rfl (fun ls hl => ?_)
    refine lv_iconst (v := nI (0)) hx hb dM_ready_28 (by decide) ?_
    refine lv_istore (lv' := [(4, .int (nI (0))), (3, .int (bI (true))), (0, .ref (q 0)), (1, .int (nI (r))), (2, .int (nI (o)))]) hx hb dM_ready_29 hl (by decide) rfl (fun ls hl => ?_)
    exact L31 (4) (0) (true)  ls (by omega) (by omega) (by first | (exact (decide_eq_true c_19).symm) | (exact (decide_eq_false c_19).symm) | (rw [rdyM_s, ← h3]; first | (simp [c_38]; done) | (simp [c_38, c_49]; done) | (simp [c_38, c_49, c_70]; done) | (simp [c_38, c_49, show ¬ x.clk (3 * o + j) ≤ cntM x r j x.nn by omega]; done))) (lv_sub hl [2, 3, 4, 1, 0] rfl)

def rmM_known : Room := { frames := 2, cells := 0, slots := 0, locals := 46 }
set_option maxHeartbeats 4000000 in
set_option maxRecDepth 100000 in
theorem kM_known {l : Launch} (D : va_G) (cc : Nat → ClassId) (q : Nat → Nat) (x : MS) (r i j : Nat) (hr : r < 3) (hi : i < 3) (hj : j < 3) (ok : okM x) : Met l yM_known wsM_known rmM_known (va_Pc [.ref (q 0), .int (nI (r)), .int (nI (i)), .int (nI (j))] (fun U => va_P D vwCl (wM cc q x) U.heap ∧ EN D cc U)) (QcRead (nI (knM x r i j))) 0 0 (fun _ => False) := by
  refine rd_met RM [.ref (q 0), .int (nI (r)), .int (nI (i)), .int (nI (j))] _ _ (by decide) rfl rfl (Nat.le_of_ble_eq_true rfl) (vp_nar_int _) ?_
  intro p e s m args below meth c Q S hB kx ls hl
  obtain ⟨hx, hb, hml, hown, hts⟩ := id S
  obtain ⟨hP, hE⟩ := hB
  have hK := hE.1
  have hts := hE.ts args
  have S : CallFix p m c cM_known 7 s args wAll RM := ⟨hx, hb, hml, hown, hts⟩
  have hn := ok.n
  have hl : lv_has ls 7 [(0, .ref (q 0)), (1, .int (nI (r))), (2, .int (nI (i))), (3, .int (nI (j)))] := hl
  have L44 : ∀ (n : Nat) (v : Nat) (w : Nat) (o : Nat)  (ls : Array Slot) (h0 : i ≠ r) (h1 : o ≤ x.nn) (h2 : x.nn - o < n) (h3 : v = (knwM x r i j o).2) (h4 : w = (knwM x r i j o).1), lv_has ls 7 [(0, .ref (q 0)), (1, .int (nI (r))), (2, .int (nI (i))), (3, .int (nI (j))), (4, .int (nI (v))), (5, .int (nI (w))), (6, .int (nI (o)))] → W p l e rmM_known s m args below meth c s.heap [] 0 0 Q (F0 m 44 ls []) := by
    intro n
    induction n with
    | zero => intro v w o ls h0 h1 h2 h3 h4 hl; exact absurd h2 (Nat.not_lt_zero _)
    | succ n ih =>
      intro v w o ls h0 h1 h2 h3 h4 hl
      have hw := knwM_lt ok r i j o
      rw [← h4] at hw
      refine lv_iload hx hb dM_known_44 (lv_at hl 6 rfl) ?_
      refine lv_aload_n hx hb dM_known_46 rfl (lv_at hl 0 rfl) ?_
      refine va_get (D := D) (ci := 3) (v := .int (nI (x.nn))) (C := RM) (T := TM) (N := 13) hx hb hts in_M hown hK hP 0 rfl rfl 0 (by decide) (hts _ wm_243) (fun _ h9 => h9) rfl dM_known_47 ?_
      refine r_ge (by omega) (Nat.lt_of_le_of_lt ok.n (by decide)) (tgt := 114) hx hb dM_known_50 (by decide) (fun c_50 => ?_) (fun c_50 => ?_)
      · refine lv_iload hx hb dM_known_114 (lv_at hl 4 rfl) ?_
        exact kx _ _ _ dM_known_116 (by unfold knM; rw [if_neg h0, h3, show o = x.nn by omega])
      · refine lv_aload_n hx hb dM_known_53 rfl (lv_at hl 0 rfl) ?_
        refine va_get (D := D) (ci := 3) (v := .ref (q 1)) (C := RM) (T := TM) (N := 13) hx hb hts in_M hown hK hP 0 rfl rfl 1 (by decide) (hts _ wm_244) (fun _ h9 => h9) rfl dM_known_54 ?_
        refine lv_iload hx hb dM_known_57 (lv_at hl 6 rfl) ?_
        refine r_iald (q0 := 1) (t0 := 0) hx hb hK hP rfl rfl (by omega) (by decide) dM_known_59 ?_
        refine lv_iload_n hx hb dM_known_60 rfl (lv_at hl 2 rfl) ?_
        refine r_ne (ok.by_ (o)) (by omega) (tgt := 108) hx hb dM_known_61 (by decide) (fun c_61 => ?_) (fun c_61 => ?_)
        · refine lv_iinc (v := nI (o + 1)) (lv' := [(6, .int (nI (o + 1))), (0, .ref (q 0)), (1, .int (nI (r))), (2, .int (nI (i))), (3, .int (nI (j))), (4, .int (nI (v))), (5, .int (nI (w)))]) hx hb dM_known_108 hl (k := 6) rfl (nI_1 _) (by decide) rfl (fun ls hl => ?_)
          refine lv_goto (tgt := 44) hx hb dM_known_111 (by decide) ?_
          exact ih  (v) (w) (o + 1)  ls (by first | exact h0 | exact c_25) (by omega) (by omega) (by first | rfl | (rw [knwM_t (x := x) (r := r) (i := i) (j := j) (n := o) c_61 c_71 (by rw [← h4]; exact c_83)]; done) | (rw [knwM_f c_61]; exact h3) | (rw [knwM_f2 c_71]; exact h3) | (rw [knwM_f3 (x := x) (r := r) (i := i) (j := j) (n := o) (by rw [← h4]; exact c_83)]; exact h3)) (by first | rfl | (rw [knwM_t (x := x) (r := r) (i := i) (j := j) (n := o) c_61 c_71 (by rw [← h4]; exact c_83)]; done) | (rw [knwM_f c_61]; exact h4) | (rw [knwM_f2 c_71]; exact h4) | (rw [knwM_f3 (x := x) (r := r) (i := i) (j := j) (n := o) (by rw [← h4]; exact c_83)]; exact h4)) (lv_sub hl [1, 2, 3, 4, 5, 6, 0] rfl)
        · refine lv_aload_n hx hb dM_known_64 rfl (lv_at hl 0 rfl) ?_
          refine lv_iload_n hx hb dM_known_65 rfl (lv_at hl 1 rfl) ?_
          refine lv_iload hx hb dM_known_66 (lv_at hl 6 rfl) ?_
          refine W.callR (W.runV (As := [.int (nI (r)), .int (nI (o))]) (rest := []) S (kM_has D cc q x (r) (o) (by omega) (by omega)) (cwV 2 hts (gd_V wm_285 wm_286 wm_382 wm_4 wm_287) rfl rfl rfl (by decide +kernel) ⟨Nat.le_of_ble_eq_true rfl, Nat.le_of_ble_eq_true rfl⟩) (rd_preV (q0 := 0) hP hE rfl rfl) rfl rfl hl.1 rfl (lv_room (Nat.le_of_ble_eq_true rfl)) dM_known_68 ⟨Nat.le_of_ble_eq_true rfl, Nat.le_of_ble_eq_true rfl⟩) ?_
          refine W.eq (g2 := F0 m 71 ls [.int (bI (x.app (100 * (r) + (o))))]) rfl ?_
          refine r_eqB (tgt := 108) hx hb dM_known_71 (by decide) (fun c_71 => ?_) (fun c_71 => ?_)
          · refine lv_iinc (v := nI (o + 1)) (lv' := [(6, .int (nI (o + 1))), (0, .ref (q 0)), (1, .int (nI (r))), (2, .int (nI (i))), (3, .int (nI (j))), (4, .int (nI (v))), (5, .int (nI (w)))]) hx hb dM_known_108 hl (k := 6) rfl (nI_1 _) (by decide) rfl (fun ls hl => ?_)
            refine lv_goto (tgt := 44) hx hb dM_known_111 (by decide) ?_
            exact ih  (v) (w) (o + 1)  ls (by first | exact h0 | exact c_25) (by omega) (by omega) (by first | rfl | (rw [knwM_t (x := x) (r := r) (i := i) (j := j) (n := o) c_61 c_71 (by rw [← h4]; exact c_83)]; done) | (rw [knwM_f c_61]; exact h3) | (rw [knwM_f2 c_71]; exact h3) | (rw [knwM_f3 (x := x) (r := r) (i := i) (j := j) (n := o) (by rw [← h4]; exact c_83)]; exact h3)) (by first | rfl | (rw [knwM_t (x := x) (r := r) (i := i) (j := j) (n := o) c_61 c_71 (by rw [← h4]; exact c_83)]; done) | (rw [knwM_f c_61]; exact h4) | (rw [knwM_f2 c_71]; exact h4) | (rw [knwM_f3 (x := x) (r := r) (i := i) (j := j) (n := o) (by rw [← h4]; exact c_83)]; exact h4)) (lv_sub hl [1, 2, 3, 4, 5, 6, 0] rfl)
          · refine lv_aload_n hx hb dM_known_74 rfl (lv_at hl 0 rfl) ?_
            refine va_get (D := D) (ci := 3) (v := .ref (q 2)) (C := RM) (T := TM) (N := 13) hx hb hts in_M hown hK hP 0 rfl rfl 2 (by decide) (hts _ wm_245) (fun _ h9 => h9) rfl dM_known_75 ?_
            refine lv_iload hx hb dM_known_78 (lv_at hl 6 rfl) ?_
            refine r_iald (q0 := 2) (t0 := 0) hx hb hK hP rfl rfl (by omega) (by decide) dM_known_80 ?_
            refine lv_iload hx hb dM_known_81 (lv_at hl 5 rfl) ?_
            refine r_le (ok.line (o)) (by omega) (tgt := 108) hx hb dM_known_83 (by decide) (fun c_83 => ?_) (fun c_83 => ?_)
            · refine lv_iinc (v := nI (o + 1)) (lv' := [(6, .int (nI (o + 1))), (0, .ref (q 0)), (1, .int (nI (r))), (2, .int (nI (i))), (3, .int (nI (j))), (4, .int (nI (v))), (5, .int (nI (w)))]) hx hb dM_known_108 hl (k := 6) rfl (nI_1 _) (by decide) rfl (fun ls hl => ?_)
              refine lv_goto (tgt := 44) hx hb dM_known_111 (by decide) ?_
              exact ih  (v) (w) (o + 1)  ls (by first | exact h0 | exact c_25) (by omega) (by omega) (by first | rfl | (rw [knwM_t (x := x) (r := r) (i := i) (j := j) (n := o) c_61 c_71 (by rw [← h4]; exact c_83)]; done) | (rw [knwM_f c_61]; exact h3) | (rw [knwM_f2 c_71]; exact h3) | (rw [knwM_f3 (x := x) (r := r) (i := i) (j := j) (n := o) (by rw [← h4]; exact c_83)]; exact h3)) (by first | rfl | (rw [knwM_t (x := x) (r := r) (i := i) (j := j) (n := o) c_61 c_71 (by rw [← h4]; exact c_83)]; done) | (rw [knwM_f c_61]; exact h4) | (rw [knwM_f2 c_71]; exact h4) | (rw [knwM_f3 (x := x) (r := r) (i := i) (j := j) (n := o) (by rw [← h4]; exact c_83)]; exact h4)) (lv_sub hl [1, 2, 3, 4, 5, 6, 0] rfl)
            · refine lv_aload_n hx hb dM_known_86 rfl (lv_at hl 0 rfl) ?_
              refine va_get (D := D) (ci := 3) (v := .ref (q 2)) (C := RM) (T := TM) (N := 13) hx hb hts in_M hown hK hP 0 rfl rfl 2 (by decide) (hts _ wm_245) (fun _ h9 => h9) rfl dM_known_87 ?_
              refine lv_iload hx hb dM_known_90 (lv_at hl 6 rfl) ?_
              refine r_iald (q0 := 2) (t0 := 0) hx hb hK hP rfl rfl (by omega) (by decide) dM_known_92 ?_
              refine lv_istore (lv' := [(5, .int (nI (x.line o))), (0, .ref (q 0)), (1, .int (nI (r))), (2, .int (nI (i))), (3, .int (nI (j))), (4, .int (nI (v))), (6, .int (nI (o)))]) hx hb dM_known_93 hl (by decide) rfl (fun ls hl => ?_)
              refine lv_aload_n hx hb dM_known_95 rfl (lv_at hl 1 rfl) ?_
              refine va_get (D := D) (ci := 3) (v := .ref (q 6)) (C := RM) (T := TM) (N := 13) hx hb hts in_M hown hK hP 0 rfl rfl 6 (by decide) (hts _ wm_249) (fun _ h9 => h9) rfl dM_known_96 ?_
              refine lv_iconst (v := nI (3)) hx hb dM_known_99 (by decide) ?_
              refine lv_iload hx hb dM_known_100 (lv_at hl 6 rfl) ?_
              refine r_mul hx hb dM_known_102 ?_
              refine lv_iload_n hx hb dM_known_103 rfl (lv_at hl 4 rfl) ?_
              refine r_add hx hb dM_known_104 ?_
              refine r_iald (q0 := 6) (t0 := 0) hx hb hK hP rfl rfl (by omega) (by decide) dM_known_105 ?_
              refine lv_istore (lv' := [(4, .int (nI (x.clk ((3 * o) + j)))), (5, .int (nI (x.line o))), (0, .ref (q 0)), (1, .int (nI (r))), (2, .int (nI (i))), (3, .int (nI (j))), (6, .int (nI (o)))]) hx hb dM_known_106 hl (by decide) rfl (fun ls hl => ?_)
              refine lv_iinc (v := nI (o + 1)) (lv' := [(6, .int (nI (o + 1))), (4, .int (nI (x.clk ((3 * o) + j)))), (5, .int (nI (x.line o))), (0, .ref (q 0)), (1, .int (nI (r))), (2, .int (nI (i))), (3, .int (nI (j)))]) hx hb dM_known_108 hl (k := 6) rfl (nI_1 _) (by decide) rfl (fun ls hl => ?_)
              refine lv_goto (tgt := 44) hx hb dM_known_111 (by decide) ?_
              exact ih  (x.clk ((3 * o) + j)) (x.line o) (o + 1)  ls (by first | exact h0 | exact c_25) (by omega) (by omega) (by first | rfl | (rw [knwM_t (x := x) (r := r) (i := i) (j := j) (n := o) c_61 c_71 (by rw [← h4]; exact c_83)]; done) | (rw [knwM_f c_61]; exact h3) | (rw [knwM_f2 c_71]; exact h3) | (rw [knwM_f3 (x := x) (r := r) (i := i) (j := j) (n := o) (by rw [← h4]; exact c_83)]; exact h3)) (by first | rfl | (rw [knwM_t (x := x) (r := r) (i := i) (j := j) (n := o) c_61 c_71 (by rw [← h4]; exact c_83)]; done) | (rw [knwM_f c_61]; exact h4) | (rw [knwM_f2 c_71]; exact h4) | (rw [knwM_f3 (x := x) (r := r) (i := i) (j := j) (n := o) (by rw [← h4]; exact c_83)]; exact h4)) (lv_sub hl [3, 4, 5, 6, 1, 2, 0] rfl)
  refine lv_iload_n hx hb dM_known_0 rfl (lv_at hl 1 rfl) ?_
  refine W.callR (W.runS (As := [.int (nI (r))]) (rest := []) S (kM_isReplica (nI (r))) (va_cwS 1 hts (gd_S wm_273 wm_274 wm_4 wm_275) rfl rfl rfl (by decide +kernel) ⟨Nat.le_of_ble_eq_true rfl, Nat.le_of_ble_eq_true rfl⟩) preT rfl rfl hl.1 rfl (lv_room (Nat.le_of_ble_eq_true rfl)) dM_known_1 ⟨Nat.le_of_ble_eq_true rfl, Nat.le_of_ble_eq_true rfl⟩) ?_
  refine W.eq (g2 := F0 m 4 ls [.int (bI (isRep (nI (r))))]) rfl ?_
  refine r_eqB (tgt := 21) hx hb dM_known_4 (by decide) (fun c_4 => absurd c_4 (by rw [isRep_N (show r < 3 by omega)]; decide)) (fun c_4 => ?_)
  refine lv_iload_n hx hb dM_known_7 rfl (lv_at hl 2 rfl) ?_
  refine W.callR (W.runS (As := [.int (nI (i))]) (rest := []) S (kM_isReplica (nI (i))) (va_cwS 1 hts (gd_S wm_273 wm_274 wm_4 wm_275) rfl rfl rfl (by decide +kernel) ⟨Nat.le_of_ble_eq_true rfl, Nat.le_of_ble_eq_true rfl⟩) preT rfl rfl hl.1 rfl (lv_room (Nat.le_of_ble_eq_true rfl)) dM_known_8 ⟨Nat.le_of_ble_eq_true rfl, Nat.le_of_ble_eq_true rfl⟩) ?_
  refine W.eq (g2 := F0 m 11 ls [.int (bI (isRep (nI (i))))]) rfl ?_
  refine r_eqB (tgt := 21) hx hb dM_known_11 (by decide) (fun c_11 => absurd c_11 (by rw [isRep_N (show i < 3 by omega)]; decide)) (fun c_11 => ?_)
  refine lv_iload_n hx hb dM_known_14 rfl (lv_at hl 3 rfl) ?_
  refine W.callR (W.runS (As := [.int (nI (j))]) (rest := []) S (kM_isReplica (nI (j))) (va_cwS 1 hts (gd_S wm_273 wm_274 wm_4 wm_275) rfl rfl rfl (by decide +kernel) ⟨Nat.le_of_ble_eq_true rfl, Nat.le_of_ble_eq_true rfl⟩) preT rfl rfl hl.1 rfl (lv_room (Nat.le_of_ble_eq_true rfl)) dM_known_15 ⟨Nat.le_of_ble_eq_true rfl, Nat.le_of_ble_eq_true rfl⟩) ?_
  refine W.eq (g2 := F0 m 18 ls [.int (bI (isRep (nI (j))))]) rfl ?_
  refine r_neB (tgt := 23) hx hb dM_known_18 (by decide) (fun c_18 => ?_) (fun c_18 => absurd c_18 (by rw [isRep_N (show j < 3 by omega)]; decide))
  refine lv_iload_n hx hb dM_known_23 rfl (lv_at hl 2 rfl) ?_
  refine lv_iload_n hx hb dM_known_24 rfl (lv_at hl 1 rfl) ?_
  refine r_ne (by omega) (by omega) (tgt := 35) hx hb dM_known_25 (by decide) (fun c_25 => ?_) (fun c_25 => ?_)
  · refine lv_iconst (v := nI (0)) hx hb dM_known_35 (by decide) ?_
    refine lv_istore (lv' := [(4, .int (nI (0))), (0, .ref (q 0)), (1, .int (nI (r))), (2, .int (nI (i))), (3, .int (nI (j)))]) hx hb dM_known_36 hl (by decide) rfl (fun ls hl => ?_)
    refine lv_iconst (v := nI (0)) hx hb dM_known_38 (by decide) ?_
    refine lv_istore (lv' := [(5, .int (nI (0))), (4, .int (nI (0))), (0, .ref (q 0)), (1, .int (nI (r))), (2, .int (nI (i))), (3, .int (nI (j)))]) hx hb dM_known_39 hl (by decide) rfl (fun ls hl => ?_)
    refine lv_iconst (v := nI (0)) hx hb dM_known_41 (by decide) ?_
    refine lv_istore (lv' := [(6, .int (nI (0))), (5, .int (nI (0))), (4, .int (nI (0))), (0, .ref (q 0)), (1, .int (nI (r))), (2, .int (nI (i))), (3, .int (nI (j)))]) hx hb dM_known_42 hl (by decide) rfl (fun ls hl => ?_)
    exact L44 (x.nn + 1) (0) (0) (0)  ls (by first | exact h0 | exact c_25) (by omega) (by omega) (by first | rfl | (rw [knwM_t (x := x) (r := r) (i := i) (j := j) (n := o) c_61 c_71 (by rw [← h4]; exact c_83)]; done) | (rw [knwM_f c_61]; exact h3) | (rw [knwM_f2 c_71]; exact h3) | (rw [knwM_f3 (x := x) (r := r) (i := i) (j := j) (n := o) (by rw [← h4]; exact c_83)]; exact h3)) (by first | rfl | (rw [knwM_t (x := x) (r := r) (i := i) (j := j) (n := o) c_61 c_71 (by rw [← h4]; exact c_83)]; done) | (rw [knwM_f c_61]; exact h4) | (rw [knwM_f2 c_71]; exact h4) | (rw [knwM_f3 (x := x) (r := r) (i := i) (j := j) (n := o) (by rw [← h4]; exact c_83)]; exact h4)) (lv_sub hl [3, 4, 5, 6, 2, 1, 0] rfl)
  · refine lv_aload_n hx hb dM_known_28 rfl (lv_at hl 0 rfl) ?_
    refine lv_iload_n hx hb dM_known_29 rfl (lv_at hl 1 rfl) ?_
    refine lv_iload_n hx hb dM_known_30 rfl (lv_at hl 3 rfl) ?_
    refine W.callR (W.runV (As := [.int (nI (r)), .int (nI (j))]) (rest := []) S (kM_count D cc q x (r) (j) (by omega) (by omega) ok) (cwV 2 hts (gd_V wm_297 wm_298 wm_386 wm_4 wm_299) rfl rfl rfl (by decide +kernel) ⟨Nat.le_of_ble_eq_true rfl, Nat.le_of_ble_eq_true rfl⟩) (rd_preV (q0 := 0) hP hE rfl rfl) rfl rfl hl.1 rfl (lv_room (Nat.le_of_ble_eq_true rfl)) dM_known_31 ⟨Nat.le_of_ble_eq_true rfl, Nat.le_of_ble_eq_true rfl⟩) ?_
    refine W.eq (g2 := F0 m 34 ls [.int (nI (cntM x (r) (j) x.nn))]) rfl ?_
    exact kx _ _ _ dM_known_34 (by unfold knM; rw [if_pos c_25])

def rmM_stable : Room := { frames := 3, cells := 0, slots := 0, locals := 72 }
set_option maxHeartbeats 4000000 in
set_option maxRecDepth 100000 in
theorem kM_stable {l : Launch} (D : va_G) (cc : Nat → ClassId) (q : Nat → Nat) (x : MS) (r o : Nat) (hr : r < 3) (ho : o < x.nn) (ok : okM x) : Met l yM_stable wsM_stable rmM_stable (va_Pc [.ref (q 0), .int (nI (r)), .int (nI (o))] (fun U => va_P D vwCl (wM cc q x) U.heap ∧ EN D cc U)) (QcRead (bI (stbM x r o 3))) 0 0 (fun _ => False) := by
  refine rd_met RM [.ref (q 0), .int (nI (r)), .int (nI (o))] _ _ (by decide) rfl rfl (Nat.le_of_ble_eq_true rfl) (bI_z _) ?_
  intro p e s m args below meth c Q S hB kx ls hl
  obtain ⟨hx, hb, hml, hown, hts⟩ := id S
  obtain ⟨hP, hE⟩ := hB
  have hK := hE.1
  have hts := hE.ts args
  have S : CallFix p m c cM_stable 5 s args wAll RM := ⟨hx, hb, hml, hown, hts⟩
  have hn := ok.n
  have hl : lv_has ls 5 [(0, .ref (q 0)), (1, .int (nI (r))), (2, .int (nI (o)))] := hl
  have L31 : ∀ (n : Nat) (j : Nat) (z : Bool)  (ls : Array Slot) (h1 : j ≤ 3) (h2 : 3 - j < n) (h3 : z = stbM x r o j), lv_has ls 5 [(0, .ref (q 0)), (1, .int (nI (r))), (2, .int (nI (o))), (3, .int (bI (z))), (4, .int (nI (j)))] → W p l e rmM_stable s m args below meth c s.heap [] 0 0 Q (F0 m 31 ls []) := by
    intro n
    induction n with
    | zero => intro j z ls h1 h2 h3 hl; exact absurd h2 (Nat.not_lt_zero _)
    | succ n ih =>
      intro j z ls h1 h2 h3 hl
      refine lv_iload hx hb dM_stable_31 (lv_at hl 4 rfl) ?_
      refine lv_iconst (v := nI (3)) hx hb dM_stable_33 (by decide) ?_
      refine r_ge (by omega) (by decide) (tgt := 75) hx hb dM_stable_34 (by decide) (fun c_34 => ?_) (fun c_34 => ?_)
      · refine lv_iload_n hx hb dM_stable_75 rfl (lv_at hl 3 rfl) ?_
        exact kx _ _ _ dM_stable_76 (by rw [h3, show j = 3 by omega])
      · refine lv_iload_n hx hb dM_stable_37 rfl (lv_at hl 3 rfl) ?_
        refine r_eqB (tgt := 67) hx hb dM_stable_38 (by decide) (fun c_38 => ?_) (fun c_38 => ?_)
        · refine lv_iconst (v := bI (false)) hx hb dM_stable_67 (by decide) ?_
          refine lv_istore_n (lv' := [(3, .int (bI (false))), (0, .ref (q 0)), (1, .int (nI (r))), (2, .int (nI (o))), (4, .int (nI (j)))]) hx hb dM_stable_68 rfl hl (by decide) rfl (fun ls hl => ?_)
          refine lv_iinc (v := nI (j + 1)) (lv' := [(4, .int (nI (j + 1))), (3, .int (bI (false))), (0, .ref (q 0)), (1, .int (nI (r))), (2, .int (nI (o)))]) hx hb dM_stable_69 hl (k := 4) rfl (nI_1 _) (by decide) rfl (fun ls hl => ?_)
          refine lv_goto (tgt := 31) hx hb dM_stable_72 (by decide) ?_
          exact ih  (j + 1) (false)  ls (by omega) (by omega) (by first | exact c_21.symm | (rw [stbM_s, ← h3]; first | (simp [c_38]; done) | (simp [c_38, c_60]; done) | (simp [c_38, show ¬ x.line o ≤ knM x r j (x.by_ o) by omega]; done))) (lv_sub hl [2, 3, 4, 1, 0] rfl)
        · refine lv_aload_n hx hb dM_stable_41 rfl (lv_at hl 0 rfl) ?_
          refine lv_iload_n hx hb dM_stable_42 rfl (lv_at hl 1 rfl) ?_
          refine lv_iload hx hb dM_stable_43 (lv_at hl 4 rfl) ?_
          refine lv_aload_n hx hb dM_stable_45 rfl (lv_at hl 0 rfl) ?_
          refine va_get (D := D) (ci := 3) (v := .ref (q 1)) (C := RM) (T := TM) (N := 13) hx hb hts in_M hown hK hP 0 rfl rfl 1 (by decide) (hts _ wm_244) (fun _ h9 => h9) rfl dM_stable_46 ?_
          refine lv_iload_n hx hb dM_stable_49 rfl (lv_at hl 2 rfl) ?_
          refine r_iald (q0 := 1) (t0 := 0) hx hb hK hP rfl rfl (by omega) (by decide) dM_stable_50 ?_
          refine W.callR (W.runV (As := [.int (nI (r)), .int (nI (j)), .int (nI (x.by_ o))]) (rest := []) S (kM_known D cc q x (r) (j) (x.by_ o) (by omega) (by omega) (ok.by3 _) ok) (cwV 3 hts (gd_V wm_327 wm_320 wm_321 wm_4 wm_322) rfl rfl rfl (by decide +kernel) ⟨Nat.le_of_ble_eq_true rfl, Nat.le_of_ble_eq_true rfl⟩) (rd_preV (q0 := 0) hP hE rfl rfl) rfl rfl hl.1 rfl (lv_room (Nat.le_of_ble_eq_true rfl)) dM_stable_51 ⟨Nat.le_of_ble_eq_true rfl, Nat.le_of_ble_eq_true rfl⟩) ?_
          refine W.eq (g2 := F0 m 54 ls [.int (nI (knM x (r) (j) (x.by_ o)))]) rfl ?_
          refine lv_aload_n hx hb dM_stable_54 rfl (lv_at hl 0 rfl) ?_
          refine va_get (D := D) (ci := 3) (v := .ref (q 2)) (C := RM) (T := TM) (N := 13) hx hb hts in_M hown hK hP 0 rfl rfl 2 (by decide) (hts _ wm_245) (fun _ h9 => h9) rfl dM_stable_55 ?_
          refine lv_iload_n hx hb dM_stable_58 rfl (lv_at hl 2 rfl) ?_
          refine r_iald (q0 := 2) (t0 := 0) hx hb hK hP rfl rfl (by omega) (by decide) dM_stable_59 ?_
          refine r_lt (knM_lt ok _ _ _) (ok.line (o)) (tgt := 67) hx hb dM_stable_60 (by decide) (fun c_60 => ?_) (fun c_60 => ?_)
          · refine lv_iconst (v := bI (false)) hx hb dM_stable_67 (by decide) ?_
            refine lv_istore_n (lv' := [(3, .int (bI (false))), (0, .ref (q 0)), (1, .int (nI (r))), (2, .int (nI (o))), (4, .int (nI (j)))]) hx hb dM_stable_68 rfl hl (by decide) rfl (fun ls hl => ?_)
            refine lv_iinc (v := nI (j + 1)) (lv' := [(4, .int (nI (j + 1))), (3, .int (bI (false))), (0, .ref (q 0)), (1, .int (nI (r))), (2, .int (nI (o)))]) hx hb dM_stable_69 hl (k := 4) rfl (nI_1 _) (by decide) rfl (fun ls hl => ?_)
            refine lv_goto (tgt := 31) hx hb dM_stable_72 (by decide) ?_
            exact ih  (j + 1) (false)  ls (by omega) (by omega) (by first | exact c_21.symm | (rw [stbM_s, ← h3]; first | (simp [c_38]; done) | (simp [c_38, c_60]; done) | (simp [c_38, show ¬ x.line o ≤ knM x r j (x.by_ o) by omega]; done))) (lv_sub hl [2, 3, 4, 1, 0] rfl)
          · refine lv_iconst (v := bI (true)) hx hb dM_stable_63 (by decide) ?_
            refine lv_goto (tgt := 68) hx hb dM_stable_64 (by decide) ?_
            refine lv_istore_n (lv' := [(3, .int (bI (true))), (0, .ref (q 0)), (1, .int (nI (r))), (2, .int (nI (o))), (4, .int (nI (j)))]) hx hb dM_stable_68 rfl hl (by decide) rfl (fun ls hl => ?_)
            refine lv_iinc (v := nI (j + 1)) (lv' := [(4, .int (nI (j + 1))), (3, .int (bI (true))), (0, .ref (q 0)), (1, .int (nI (r))), (2, .int (nI (o)))]) hx hb dM_stable_69 hl (k := 4) rfl (nI_1 _) (by decide) rfl (fun ls hl => ?_)
            refine lv_goto (tgt := 31) hx hb dM_stable_72 (by decide) ?_
            exact ih  (j + 1) (true)  ls (by omega) (by omega) (by first | exact c_21.symm | (rw [stbM_s, ← h3]; first | (simp [c_38]; done) | (simp [c_38, c_60]; done) | (simp [c_38, show ¬ x.line o ≤ knM x r j (x.by_ o) by omega]; done))) (lv_sub hl [2, 3, 4, 1, 0] rfl)
  refine lv_iload_n hx hb dM_stable_0 rfl (lv_at hl 1 rfl) ?_
  refine W.callR (W.runS (As := [.int (nI (r))]) (rest := []) S (kM_isReplica (nI (r))) (va_cwS 1 hts (gd_S wm_273 wm_274 wm_4 wm_275) rfl rfl rfl (by decide +kernel) ⟨Nat.le_of_ble_eq_true rfl, Nat.le_of_ble_eq_true rfl⟩) preT rfl rfl hl.1 rfl (lv_room (Nat.le_of_ble_eq_true rfl)) dM_stable_1 ⟨Nat.le_of_ble_eq_true rfl, Nat.le_of_ble_eq_true rfl⟩) ?_
  refine W.eq (g2 := F0 m 4 ls [.int (bI (isRep (nI (r))))]) rfl ?_
  refine r_eqB (tgt := 24) hx hb dM_stable_4 (by decide) (fun c_4 => absurd c_4 (by rw [isRep_N (show r < 3 by omega)]; decide)) (fun c_4 => ?_)
  refine lv_aload_n hx hb dM_stable_7 rfl (lv_at hl 0 rfl) ?_
  refine lv_iload_n hx hb dM_stable_8 rfl (lv_at hl 2 rfl) ?_
  refine W.callR (W.runV (As := [.int (nI (o))]) (rest := []) S (kM_isOperation D cc q x (nI (o)) ok) (cwV 1 hts (gd_V wm_308 wm_309 wm_387 wm_4 wm_310) rfl rfl rfl (by decide +kernel) ⟨Nat.le_of_ble_eq_true rfl, Nat.le_of_ble_eq_true rfl⟩) (rd_preV (q0 := 0) hP hE rfl rfl) rfl rfl hl.1 rfl (lv_room (Nat.le_of_ble_eq_true rfl)) dM_stable_9 ⟨Nat.le_of_ble_eq_true rfl, Nat.le_of_ble_eq_true rfl⟩) ?_
  refine W.eq (g2 := F0 m 12 ls [.int (bI (isOp x.nn (nI (o))))]) rfl ?_
  refine r_eqB (tgt := 24) hx hb dM_stable_12 (by decide) (fun c_12 => absurd c_12 (by rw [isOp_N ho (by omega)]; decide)) (fun c_12 => ?_)
  refine lv_aload_n hx hb dM_stable_15 rfl (lv_at hl 0 rfl) ?_
  refine lv_iload_n hx hb dM_stable_16 rfl (lv_at hl 1 rfl) ?_
  refine lv_iload_n hx hb dM_stable_17 rfl (lv_at hl 2 rfl) ?_
  refine W.callR (W.runV (As := [.int (nI (r)), .int (nI (o))]) (rest := []) S (kM_has D cc q x (r) (o) (by omega) (by omega)) (cwV 2 hts (gd_V wm_285 wm_286 wm_382 wm_4 wm_287) rfl rfl rfl (by decide +kernel) ⟨Nat.le_of_ble_eq_true rfl, Nat.le_of_ble_eq_true rfl⟩) (rd_preV (q0 := 0) hP hE rfl rfl) rfl rfl hl.1 rfl (lv_room (Nat.le_of_ble_eq_true rfl)) dM_stable_18 ⟨Nat.le_of_ble_eq_true rfl, Nat.le_of_ble_eq_true rfl⟩) ?_
  refine W.eq (g2 := F0 m 21 ls [.int (bI (x.app (100 * (r) + (o))))]) rfl ?_
  refine r_neB (tgt := 26) hx hb dM_stable_21 (by decide) (fun c_21 => ?_) (fun c_21 => ?_)
  · refine lv_iconst (v := bI (true)) hx hb dM_stable_26 (by decide) ?_
    refine lv_istore_n (lv' := [(3, .int (bI (true))), (0, .ref (q 0)), (1, .int (nI (r))), (2, .int (nI (o)))]) hx hb dM_stable_27 rfl hl (by decide) rfl (fun ls hl => ?_)
    refine lv_iconst (v := nI (0)) hx hb dM_stable_28 (by decide) ?_
    refine lv_istore (lv' := [(4, .int (nI (0))), (3, .int (bI (true))), (0, .ref (q 0)), (1, .int (nI (r))), (2, .int (nI (o)))]) hx hb dM_stable_29 hl (by decide) rfl (fun ls hl => ?_)
    exact L31 (4) (0) (true)  ls (by omega) (by omega) (by first | exact c_21.symm | (rw [stbM_s, ← h3]; first | (simp [c_38]; done) | (simp [c_38, c_60]; done) | (simp [c_38, show ¬ x.line o ≤ knM x r j (x.by_ o) by omega]; done))) (lv_sub hl [2, 3, 4, 1, 0] rfl)
  · refine lv_iconst (v := bI (false)) hx hb dM_stable_24 (by decide) ?_
    exact kx _ _ _ dM_stable_25 (by rw [stbM_no c_21])

def rmM_idle : Room := { frames := 4, cells := 0, slots := 0, locals := 96 }
set_option maxHeartbeats 4000000 in
set_option maxRecDepth 100000 in
theorem kM_idle {l : Launch} (D : va_G) (cc : Nat → ClassId) (q : Nat → Nat) (x : MS) (r f : Nat) (hr : r < 3) (hf : f < 100) (ok : okM x) : Met l yM_idle wsM_idle rmM_idle (va_Pc [.ref (q 0), .int (nI (r)), .int (nI (f))] (fun U => va_P D vwCl (wM cc q x) U.heap ∧ EN D cc U)) (QcRead (bI (idlM x r f))) 0 0 (fun _ => False) := by
  refine rd_met RM [.ref (q 0), .int (nI (r)), .int (nI (f))] _ _ (by decide) rfl rfl (Nat.le_of_ble_eq_true rfl) (bI_z _) ?_
  intro p e s m args below meth c Q S hB kx ls hl
  obtain ⟨hx, hb, hml, hown, hts⟩ := id S
  obtain ⟨hP, hE⟩ := hB
  have hK := hE.1
  have hts := hE.ts args
  have S : CallFix p m c cM_idle 6 s args wAll RM := ⟨hx, hb, hml, hown, hts⟩
  have hn := ok.n
  have hl : lv_has ls 6 [(0, .ref (q 0)), (1, .int (nI (r))), (2, .int (nI (f)))] := hl
  have L8 : ∀ (n : Nat) (z : Bool) (w : Bool) (o : Nat)  (ls : Array Slot) (h1 : o ≤ x.nn) (h2 : x.nn - o < n) (h3 : z = ideM x r f o) (h4 : w = idrM x r f o), lv_has ls 6 [(0, .ref (q 0)), (1, .int (nI (r))), (2, .int (nI (f))), (3, .int (bI (z))), (4, .int (bI (w))), (5, .int (nI (o)))] → W p l e rmM_idle s m args below meth c s.heap [] 0 0 Q (F0 m 8 ls []) := by
    intro n
    induction n with
    | zero => intro z w o ls h1 h2 h3 h4 hl; exact absurd h2 (Nat.not_lt_zero _)
    | succ n ih =>
      intro z w o ls h1 h2 h3 h4 hl
      have J68 : ∀ (z2 : Bool)  (ls : Array Slot) (ho : o < x.nn) (g2 : x.oth o = f + 1) (g3 : x.app (100 * r + o) = true) (g1 : z2 = ideM x r f (o + 1)), lv_has ls 6 [(0, .ref (q 0)), (1, .int (nI (r))), (2, .int (nI (f))), (3, .int (bI (z2))), (4, .int (bI (w))), (5, .int (nI (o)))] → W p l e rmM_idle s m args below meth c s.heap [] 0 0 Q (F0 m 68 ls []) := by
        intro z2 ls ho g2 g3 g1 hl
        refine lv_iload hx hb dM_idle_68 (lv_at hl 4 rfl) ?_
        refine r_eqB (tgt := 97) hx hb dM_idle_70 (by decide) (fun c_70 => ?_) (fun c_70 => ?_)
        · refine lv_iconst (v := bI (false)) hx hb dM_idle_97 (by decide) ?_
          refine lv_istore (lv' := [(4, .int (bI (false))), (0, .ref (q 0)), (1, .int (nI (r))), (2, .int (nI (f))), (3, .int (bI (z2))), (5, .int (nI (o)))]) hx hb dM_idle_98 hl (by decide) rfl (fun ls hl => ?_)
          refine lv_iinc (v := nI (o + 1)) (lv' := [(5, .int (nI (o + 1))), (4, .int (bI (false))), (0, .ref (q 0)), (1, .int (nI (r))), (2, .int (nI (f))), (3, .int (bI (z2)))]) hx hb dM_idle_100 hl (k := 5) rfl (nI_1 _) (by decide) rfl (fun ls hl => ?_)
          refine lv_goto (tgt := 8) hx hb dM_idle_103 (by decide) ?_
          exact ih  (z2) (false) (o + 1)  ls (by omega) (by omega) (by first | rfl | exact g1 | (rw [ideM_s, ← h3]; first | (simp [c_25]; done) | (simp [c_25, c_35]; done))) (by first | rfl | (rw [idrM_s, ← h4]; first | (simp [c_25]; done) | (simp [c_25, c_35]; done) | (simp [c_70]; done) | (simp [c_70, g2, g3, c_80]; done) | (simp [c_70, g2, g3, c_80, c_90]; done))) (lv_sub hl [2, 3, 4, 5, 1, 0] rfl)
        · refine lv_aload_n hx hb dM_idle_73 rfl (lv_at hl 0 rfl) ?_
          refine va_get (D := D) (ci := 3) (v := .ref (q 4)) (C := RM) (T := TM) (N := 13) hx hb hts in_M hown hK hP 0 rfl rfl 4 (by decide) (hts _ wm_247) (fun _ h9 => h9) rfl dM_idle_74 ?_
          refine lv_iload hx hb dM_idle_77 (lv_at hl 5 rfl) ?_
          refine r_iald (q0 := 4) (t0 := 0) hx hb hK hP rfl rfl (by omega) (by decide) dM_idle_79 ?_
          refine r_eqN (ok.let_ (o)) (tgt := 93) hx hb dM_idle_80 (by decide) (fun c_80 => ?_) (fun c_80 => ?_)
          · refine lv_iconst (v := bI (true)) hx hb dM_idle_93 (by decide) ?_
            refine lv_goto (tgt := 98) hx hb dM_idle_94 (by decide) ?_
            refine lv_istore (lv' := [(4, .int (bI (true))), (0, .ref (q 0)), (1, .int (nI (r))), (2, .int (nI (f))), (3, .int (bI (z2))), (5, .int (nI (o)))]) hx hb dM_idle_98 hl (by decide) rfl (fun ls hl => ?_)
            refine lv_iinc (v := nI (o + 1)) (lv' := [(5, .int (nI (o + 1))), (4, .int (bI (true))), (0, .ref (q 0)), (1, .int (nI (r))), (2, .int (nI (f))), (3, .int (bI (z2)))]) hx hb dM_idle_100 hl (k := 5) rfl (nI_1 _) (by decide) rfl (fun ls hl => ?_)
            refine lv_goto (tgt := 8) hx hb dM_idle_103 (by decide) ?_
            exact ih  (z2) (true) (o + 1)  ls (by omega) (by omega) (by first | rfl | exact g1 | (rw [ideM_s, ← h3]; first | (simp [c_25]; done) | (simp [c_25, c_35]; done))) (by first | rfl | (rw [idrM_s, ← h4]; first | (simp [c_25]; done) | (simp [c_25, c_35]; done) | (simp [c_70]; done) | (simp [c_70, g2, g3, c_80]; done) | (simp [c_70, g2, g3, c_80, c_90]; done))) (lv_sub hl [2, 3, 4, 5, 1, 0] rfl)
          · refine lv_aload_n hx hb dM_idle_83 rfl (lv_at hl 0 rfl) ?_
            refine lv_iload_n hx hb dM_idle_84 rfl (lv_at hl 1 rfl) ?_
            refine lv_iload hx hb dM_idle_85 (lv_at hl 5 rfl) ?_
            refine W.callR (W.runV (As := [.int (nI (r)), .int (nI (o))]) (rest := []) S (kM_stable D cc q x (r) (o) (by omega) (by omega) ok) (cwV 2 hts (gd_V wm_338 wm_324 wm_325 wm_4 wm_326) rfl rfl rfl (by decide +kernel) ⟨Nat.le_of_ble_eq_true rfl, Nat.le_of_ble_eq_true rfl⟩) (rd_preV (q0 := 0) hP hE rfl rfl) rfl rfl hl.1 rfl (lv_room (Nat.le_of_ble_eq_true rfl)) dM_idle_87 ⟨Nat.le_of_ble_eq_true rfl, Nat.le_of_ble_eq_true rfl⟩) ?_
            refine W.eq (g2 := F0 m 90 ls [.int (bI (stbM x (r) (o) 3))]) rfl ?_
            refine r_eqB (tgt := 97) hx hb dM_idle_90 (by decide) (fun c_90 => ?_) (fun c_90 => ?_)
            · refine lv_iconst (v := bI (false)) hx hb dM_idle_97 (by decide) ?_
              refine lv_istore (lv' := [(4, .int (bI (false))), (0, .ref (q 0)), (1, .int (nI (r))), (2, .int (nI (f))), (3, .int (bI (z2))), (5, .int (nI (o)))]) hx hb dM_idle_98 hl (by decide) rfl (fun ls hl => ?_)
              refine lv_iinc (v := nI (o + 1)) (lv' := [(5, .int (nI (o + 1))), (4, .int (bI (false))), (0, .ref (q 0)), (1, .int (nI (r))), (2, .int (nI (f))), (3, .int (bI (z2)))]) hx hb dM_idle_100 hl (k := 5) rfl (nI_1 _) (by decide) rfl (fun ls hl => ?_)
              refine lv_goto (tgt := 8) hx hb dM_idle_103 (by decide) ?_
              exact ih  (z2) (false) (o + 1)  ls (by omega) (by omega) (by first | rfl | exact g1 | (rw [ideM_s, ← h3]; first | (simp [c_25]; done) | (simp [c_25, c_35]; done))) (by first | rfl | (rw [idrM_s, ← h4]; first | (simp [c_25]; done) | (simp [c_25, c_35]; done) | (simp [c_70]; done) | (simp [c_70, g2, g3, c_80]; done) | (simp [c_70, g2, g3, c_80, c_90]; done))) (lv_sub hl [2, 3, 4, 5, 1, 0] rfl)
            · refine lv_iconst (v := bI (true)) hx hb dM_idle_93 (by decide) ?_
              refine lv_goto (tgt := 98) hx hb dM_idle_94 (by decide) ?_
              refine lv_istore (lv' := [(4, .int (bI (true))), (0, .ref (q 0)), (1, .int (nI (r))), (2, .int (nI (f))), (3, .int (bI (z2))), (5, .int (nI (o)))]) hx hb dM_idle_98 hl (by decide) rfl (fun ls hl => ?_)
              refine lv_iinc (v := nI (o + 1)) (lv' := [(5, .int (nI (o + 1))), (4, .int (bI (true))), (0, .ref (q 0)), (1, .int (nI (r))), (2, .int (nI (f))), (3, .int (bI (z2)))]) hx hb dM_idle_100 hl (k := 5) rfl (nI_1 _) (by decide) rfl (fun ls hl => ?_)
              refine lv_goto (tgt := 8) hx hb dM_idle_103 (by decide) ?_
              exact ih  (z2) (true) (o + 1)  ls (by omega) (by omega) (by first | rfl | exact g1 | (rw [ideM_s, ← h3]; first | (simp [c_25]; done) | (simp [c_25, c_35]; done))) (by first | rfl | (rw [idrM_s, ← h4]; first | (simp [c_25]; done) | (simp [c_25, c_35]; done) | (simp [c_70]; done) | (simp [c_70, g2, g3, c_80]; done) | (simp [c_70, g2, g3, c_80, c_90]; done))) (lv_sub hl [2, 3, 4, 5, 1, 0] rfl)
      refine lv_iload hx hb dM_idle_8 (lv_at hl 5 rfl) ?_
      refine lv_aload_n hx hb dM_idle_10 rfl (lv_at hl 0 rfl) ?_
      refine va_get (D := D) (ci := 3) (v := .int (nI (x.nn))) (C := RM) (T := TM) (N := 13) hx hb hts in_M hown hK hP 0 rfl rfl 0 (by decide) (hts _ wm_243) (fun _ h9 => h9) rfl dM_idle_11 ?_
      refine r_ge (by omega) (Nat.lt_of_le_of_lt ok.n (by decide)) (tgt := 106) hx hb dM_idle_14 (by decide) (fun c_14 => ?_) (fun c_14 => ?_)
      · refine lv_iload_n hx hb dM_idle_106 rfl (lv_at hl 3 rfl) ?_
        refine r_eqB (tgt := 119) hx hb dM_idle_107 (by decide) (fun c_107 => ?_) (fun c_107 => ?_)
        · refine lv_iconst (v := bI (false)) hx hb dM_idle_119 (by decide) ?_
          exact kx _ _ _ dM_idle_120 (by unfold idlM; rw [show x.nn = o by omega, ← h3, ← h4]; first | (simp [c_107]; done) | (simp [c_107, c_112]; done))
        · refine lv_iload hx hb dM_idle_110 (lv_at hl 4 rfl) ?_
          refine r_eqB (tgt := 119) hx hb dM_idle_112 (by decide) (fun c_112 => ?_) (fun c_112 => ?_)
          · refine lv_iconst (v := bI (false)) hx hb dM_idle_119 (by decide) ?_
            exact kx _ _ _ dM_idle_120 (by unfold idlM; rw [show x.nn = o by omega, ← h3, ← h4]; first | (simp [c_107]; done) | (simp [c_107, c_112]; done))
          · refine lv_iconst (v := bI (true)) hx hb dM_idle_115 (by decide) ?_
            refine lv_goto (tgt := 120) hx hb dM_idle_116 (by decide) ?_
            exact kx _ _ _ dM_idle_120 (by unfold idlM; rw [show x.nn = o by omega, ← h3, ← h4]; first | (simp [c_107]; done) | (simp [c_107, c_112]; done))
      · refine lv_aload_n hx hb dM_idle_17 rfl (lv_at hl 0 rfl) ?_
        refine va_get (D := D) (ci := 3) (v := .ref (q 5)) (C := RM) (T := TM) (N := 13) hx hb hts in_M hown hK hP 0 rfl rfl 5 (by decide) (hts _ wm_248) (fun _ h9 => h9) rfl dM_idle_18 ?_
        refine lv_iload hx hb dM_idle_21 (lv_at hl 5 rfl) ?_
        refine r_iald (q0 := 5) (t0 := 0) hx hb hK hP rfl rfl (by omega) (by decide) dM_idle_23 ?_
        refine lv_iload_n hx hb dM_idle_24 rfl (lv_at hl 2 rfl) ?_
        refine r_top (y := sI (f + 1)) (sI_s _).symm ?_
        refine r_neS (ok.oth (o)) (by omega) (tgt := 100) hx hb dM_idle_25 (by decide) (fun c_25 => ?_) (fun c_25 => ?_)
        · refine lv_iinc (v := nI (o + 1)) (lv' := [(5, .int (nI (o + 1))), (0, .ref (q 0)), (1, .int (nI (r))), (2, .int (nI (f))), (3, .int (bI (z))), (4, .int (bI (w)))]) hx hb dM_idle_100 hl (k := 5) rfl (nI_1 _) (by decide) rfl (fun ls hl => ?_)
          refine lv_goto (tgt := 8) hx hb dM_idle_103 (by decide) ?_
          exact ih  (z) (w) (o + 1)  ls (by omega) (by omega) (by first | rfl | exact g1 | (rw [ideM_s, ← h3]; first | (simp [c_25]; done) | (simp [c_25, c_35]; done))) (by first | rfl | (rw [idrM_s, ← h4]; first | (simp [c_25]; done) | (simp [c_25, c_35]; done) | (simp [c_70]; done) | (simp [c_70, g2, g3, c_80]; done) | (simp [c_70, g2, g3, c_80, c_90]; done))) (lv_sub hl [1, 2, 3, 4, 5, 0] rfl)
        · refine lv_aload_n hx hb dM_idle_28 rfl (lv_at hl 0 rfl) ?_
          refine lv_iload_n hx hb dM_idle_29 rfl (lv_at hl 1 rfl) ?_
          refine lv_iload hx hb dM_idle_30 (lv_at hl 5 rfl) ?_
          refine W.callR (W.runV (As := [.int (nI (r)), .int (nI (o))]) (rest := []) S (kM_has D cc q x (r) (o) (by omega) (by omega)) (cwV 2 hts (gd_V wm_285 wm_286 wm_382 wm_4 wm_287) rfl rfl rfl (by decide +kernel) ⟨Nat.le_of_ble_eq_true rfl, Nat.le_of_ble_eq_true rfl⟩) (rd_preV (q0 := 0) hP hE rfl rfl) rfl rfl hl.1 rfl (lv_room (Nat.le_of_ble_eq_true rfl)) dM_idle_32 ⟨Nat.le_of_ble_eq_true rfl, Nat.le_of_ble_eq_true rfl⟩) ?_
          refine W.eq (g2 := F0 m 35 ls [.int (bI (x.app (100 * (r) + (o))))]) rfl ?_
          refine r_eqB (tgt := 100) hx hb dM_idle_35 (by decide) (fun c_35 => ?_) (fun c_35 => ?_)
          · refine lv_iinc (v := nI (o + 1)) (lv' := [(5, .int (nI (o + 1))), (0, .ref (q 0)), (1, .int (nI (r))), (2, .int (nI (f))), (3, .int (bI (z))), (4, .int (bI (w)))]) hx hb dM_idle_100 hl (k := 5) rfl (nI_1 _) (by decide) rfl (fun ls hl => ?_)
            refine lv_goto (tgt := 8) hx hb dM_idle_103 (by decide) ?_
            exact ih  (z) (w) (o + 1)  ls (by omega) (by omega) (by first | rfl | exact g1 | (rw [ideM_s, ← h3]; first | (simp [c_25]; done) | (simp [c_25, c_35]; done))) (by first | rfl | (rw [idrM_s, ← h4]; first | (simp [c_25]; done) | (simp [c_25, c_35]; done) | (simp [c_70]; done) | (simp [c_70, g2, g3, c_80]; done) | (simp [c_70, g2, g3, c_80, c_90]; done))) (lv_sub hl [1, 2, 3, 4, 5, 0] rfl)
          · refine lv_iload_n hx hb dM_idle_38 rfl (lv_at hl 3 rfl) ?_
            refine r_neB (tgt := 62) hx hb dM_idle_39 (by decide) (fun c_39 => ?_) (fun c_39 => ?_)
            · refine lv_iconst (v := bI (true)) hx hb dM_idle_62 (by decide) ?_
              refine lv_goto (tgt := 67) hx hb dM_idle_63 (by decide) ?_
              refine lv_istore_n (lv' := [(3, .int (bI (true))), (0, .ref (q 0)), (1, .int (nI (r))), (2, .int (nI (f))), (4, .int (bI (w))), (5, .int (nI (o)))]) hx hb dM_idle_67 rfl hl (by decide) rfl (fun ls hl => ?_)
              exact J68  (true)  ls (by omega) (c_25) (c_35) (by rw [ideM_s, ← h3]; first | (simp [c_39]; done) | (simp [c_39, c_25, c_35, c_49]; done) | (simp [c_39, c_25, c_35, c_49, c_59]; done)) (lv_sub hl [1, 2, 3, 0, 4, 5] rfl)
            · refine lv_aload_n hx hb dM_idle_42 rfl (lv_at hl 0 rfl) ?_
              refine va_get (D := D) (ci := 3) (v := .ref (q 4)) (C := RM) (T := TM) (N := 13) hx hb hts in_M hown hK hP 0 rfl rfl 4 (by decide) (hts _ wm_247) (fun _ h9 => h9) rfl dM_idle_43 ?_
              refine lv_iload hx hb dM_idle_46 (lv_at hl 5 rfl) ?_
              refine r_iald (q0 := 4) (t0 := 0) hx hb hK hP rfl rfl (by omega) (by decide) dM_idle_48 ?_
              refine r_neN (ok.let_ (o)) (tgt := 66) hx hb dM_idle_49 (by decide) (fun c_49 => ?_) (fun c_49 => ?_)
              · refine lv_iconst (v := bI (false)) hx hb dM_idle_66 (by decide) ?_
                refine lv_istore_n (lv' := [(3, .int (bI (false))), (0, .ref (q 0)), (1, .int (nI (r))), (2, .int (nI (f))), (4, .int (bI (w))), (5, .int (nI (o)))]) hx hb dM_idle_67 rfl hl (by decide) rfl (fun ls hl => ?_)
                exact J68  (false)  ls (by omega) (c_25) (c_35) (by rw [ideM_s, ← h3]; first | (simp [c_39]; done) | (simp [c_39, c_25, c_35, c_49]; done) | (simp [c_39, c_25, c_35, c_49, c_59]; done)) (lv_sub hl [1, 2, 3, 0, 4, 5] rfl)
              · refine lv_aload_n hx hb dM_idle_52 rfl (lv_at hl 0 rfl) ?_
                refine lv_iload_n hx hb dM_idle_53 rfl (lv_at hl 1 rfl) ?_
                refine lv_iload hx hb dM_idle_54 (lv_at hl 5 rfl) ?_
                refine W.callR (W.runV (As := [.int (nI (r)), .int (nI (o))]) (rest := []) S (kM_stable D cc q x (r) (o) (by omega) (by omega) ok) (cwV 2 hts (gd_V wm_338 wm_324 wm_325 wm_4 wm_326) rfl rfl rfl (by decide +kernel) ⟨Nat.le_of_ble_eq_true rfl, Nat.le_of_ble_eq_true rfl⟩) (rd_preV (q0 := 0) hP hE rfl rfl) rfl rfl hl.1 rfl (lv_room (Nat.le_of_ble_eq_true rfl)) dM_idle_56 ⟨Nat.le_of_ble_eq_true rfl, Nat.le_of_ble_eq_true rfl⟩) ?_
                refine W.eq (g2 := F0 m 59 ls [.int (bI (stbM x (r) (o) 3))]) rfl ?_
                refine r_eqB (tgt := 66) hx hb dM_idle_59 (by decide) (fun c_59 => ?_) (fun c_59 => ?_)
                · refine lv_iconst (v := bI (false)) hx hb dM_idle_66 (by decide) ?_
                  refine lv_istore_n (lv' := [(3, .int (bI (false))), (0, .ref (q 0)), (1, .int (nI (r))), (2, .int (nI (f))), (4, .int (bI (w))), (5, .int (nI (o)))]) hx hb dM_idle_67 rfl hl (by decide) rfl (fun ls hl => ?_)
                  exact J68  (false)  ls (by omega) (c_25) (c_35) (by rw [ideM_s, ← h3]; first | (simp [c_39]; done) | (simp [c_39, c_25, c_35, c_49]; done) | (simp [c_39, c_25, c_35, c_49, c_59]; done)) (lv_sub hl [1, 2, 3, 0, 4, 5] rfl)
                · refine lv_iconst (v := bI (true)) hx hb dM_idle_62 (by decide) ?_
                  refine lv_goto (tgt := 67) hx hb dM_idle_63 (by decide) ?_
                  refine lv_istore_n (lv' := [(3, .int (bI (true))), (0, .ref (q 0)), (1, .int (nI (r))), (2, .int (nI (f))), (4, .int (bI (w))), (5, .int (nI (o)))]) hx hb dM_idle_67 rfl hl (by decide) rfl (fun ls hl => ?_)
                  exact J68  (true)  ls (by omega) (c_25) (c_35) (by rw [ideM_s, ← h3]; first | (simp [c_39]; done) | (simp [c_39, c_25, c_35, c_49]; done) | (simp [c_39, c_25, c_35, c_49, c_59]; done)) (lv_sub hl [1, 2, 3, 0, 4, 5] rfl)
  refine lv_iconst (v := bI (false)) hx hb dM_idle_0 (by decide) ?_
  refine lv_istore_n (lv' := [(3, .int (bI (false))), (0, .ref (q 0)), (1, .int (nI (r))), (2, .int (nI (f)))]) hx hb dM_idle_1 rfl hl (by decide) rfl (fun ls hl => ?_)
  refine lv_iconst (v := bI (true)) hx hb dM_idle_2 (by decide) ?_
  refine lv_istore (lv' := [(4, .int (bI (true))), (3, .int (bI (false))), (0, .ref (q 0)), (1, .int (nI (r))), (2, .int (nI (f)))]) hx hb dM_idle_3 hl (by decide) rfl (fun ls hl => ?_)
  refine lv_iconst (v := nI (0)) hx hb dM_idle_5 (by decide) ?_
  refine lv_istore (lv' := [(5, .int (nI (0))), (4, .int (bI (true))), (3, .int (bI (false))), (0, .ref (q 0)), (1, .int (nI (r))), (2, .int (nI (f)))]) hx hb dM_idle_6 hl (by decide) rfl (fun ls hl => ?_)
  exact L8 (x.nn + 1) (false) (true) (0)  ls (by omega) (by omega) (by first | rfl | exact g1 | (rw [ideM_s, ← h3]; first | (simp [c_25]; done) | (simp [c_25, c_35]; done))) (by first | rfl | (rw [idrM_s, ← h4]; first | (simp [c_25]; done) | (simp [c_25, c_35]; done) | (simp [c_70]; done) | (simp [c_70, g2, g3, c_80]; done) | (simp [c_70, g2, g3, c_80, c_90]; done))) (lv_sub hl [3, 4, 5, 2, 1, 0] rfl)

def rmM_keeps : Room := { frames := 1, cells := 0, slots := 0, locals := 22 }
set_option maxHeartbeats 4000000 in
set_option maxRecDepth 100000 in
theorem kM_keeps {l : Launch} (D : va_G) (cc : Nat → ClassId) (q : Nat → Nat) (x : MS) (r o : Nat) (hr : r < 3) (ho : o < 100) (ok : okM x) : Met l yM_keeps wsM_keeps rmM_keeps (va_Pc [.ref (q 0), .int (nI (r)), .int (nI (o))] (fun U => va_P D vwCl (wM cc q x) U.heap ∧ EN D cc U)) (QcRead (bI (kpsM x r o))) 0 0 (fun _ => False) := by
  refine rd_met RM [.ref (q 0), .int (nI (r)), .int (nI (o))] _ _ (by decide) rfl rfl (Nat.le_of_ble_eq_true rfl) (bI_z _) ?_
  intro p e s m args below meth c Q S hB kx ls hl
  obtain ⟨hx, hb, hml, hown, hts⟩ := id S
  obtain ⟨hP, hE⟩ := hB
  have hK := hE.1
  have hts := hE.ts args
  have S : CallFix p m c cM_keeps 3 s args wAll RM := ⟨hx, hb, hml, hown, hts⟩
  have hn := ok.n
  have hl : lv_has ls 3 [(0, .ref (q 0)), (1, .int (nI (r))), (2, .int (nI (o)))] := hl
  refine lv_aload_n hx hb dM_keeps_0 rfl (lv_at hl 0 rfl) ?_
  refine va_get (D := D) (ci := 3) (v := .ref (q 4)) (C := RM) (T := TM) (N := 13) hx hb hts in_M hown hK hP 0 rfl rfl 4 (by decide) (hts _ wm_247) (fun _ h9 => h9) rfl dM_keeps_1 ?_
  refine lv_iload_n hx hb dM_keeps_4 rfl (lv_at hl 2 rfl) ?_
  refine r_iald (q0 := 4) (t0 := 0) hx hb hK hP rfl rfl (by omega) (by decide) dM_keeps_5 ?_
  refine r_leN (ok.let_ (o)) (tgt := 36) hx hb dM_keeps_6 (by decide) (fun c_6 => ?_) (fun c_6 => ?_)
  · refine lv_iconst (v := bI (false)) hx hb dM_keeps_36 (by decide) ?_
    exact kx _ _ _ dM_keeps_37 (by unfold kpsM; first | (simp [c_6]; done) | (simp [c_6, c_15]; done) | (simp [c_6, c_15, c_29]; done))
  · refine lv_aload_n hx hb dM_keeps_9 rfl (lv_at hl 0 rfl) ?_
    refine lv_iload_n hx hb dM_keeps_10 rfl (lv_at hl 1 rfl) ?_
    refine lv_iload_n hx hb dM_keeps_11 rfl (lv_at hl 2 rfl) ?_
    refine W.callR (W.runV (As := [.int (nI (r)), .int (nI (o))]) (rest := []) S (kM_has D cc q x (r) (o) (by omega) (by omega)) (cwV 2 hts (gd_V wm_285 wm_286 wm_382 wm_4 wm_287) rfl rfl rfl (by decide +kernel) ⟨Nat.le_of_ble_eq_true rfl, Nat.le_of_ble_eq_true rfl⟩) (rd_preV (q0 := 0) hP hE rfl rfl) rfl rfl hl.1 rfl (lv_room (Nat.le_of_ble_eq_true rfl)) dM_keeps_12 ⟨Nat.le_of_ble_eq_true rfl, Nat.le_of_ble_eq_true rfl⟩) ?_
    refine W.eq (g2 := F0 m 15 ls [.int (bI (x.app (100 * (r) + (o))))]) rfl ?_
    refine r_eqB (tgt := 36) hx hb dM_keeps_15 (by decide) (fun c_15 => ?_) (fun c_15 => ?_)
    · refine lv_iconst (v := bI (false)) hx hb dM_keeps_36 (by decide) ?_
      exact kx _ _ _ dM_keeps_37 (by unfold kpsM; first | (simp [c_6]; done) | (simp [c_6, c_15]; done) | (simp [c_6, c_15, c_29]; done))
    · refine lv_aload_n hx hb dM_keeps_18 rfl (lv_at hl 0 rfl) ?_
      refine va_get (D := D) (ci := 3) (v := .ref (q 9)) (C := RM) (T := TM) (N := 13) hx hb hts in_M hown hK hP 0 rfl rfl 9 (by decide) (hts _ wm_252) (fun _ h9 => h9) rfl dM_keeps_19 ?_
      refine lv_bipush (v := nI (100)) hx hb dM_keeps_22 (by decide) ?_
      refine lv_iload_n hx hb dM_keeps_24 rfl (lv_at hl 1 rfl) ?_
      refine r_mul hx hb dM_keeps_25 ?_
      refine lv_iload_n hx hb dM_keeps_26 rfl (lv_at hl 2 rfl) ?_
      refine r_add hx hb dM_keeps_27 ?_
      refine r_zald (q0 := 9) (t0 := 1) hx hb hK hP rfl rfl (by omega) (by decide) dM_keeps_28 ?_
      refine r_neB (tgt := 36) hx hb dM_keeps_29 (by decide) (fun c_29 => ?_) (fun c_29 => ?_)
      · refine lv_iconst (v := bI (false)) hx hb dM_keeps_36 (by decide) ?_
        exact kx _ _ _ dM_keeps_37 (by unfold kpsM; first | (simp [c_6]; done) | (simp [c_6, c_15]; done) | (simp [c_6, c_15, c_29]; done))
      · refine lv_iconst (v := bI (true)) hx hb dM_keeps_32 (by decide) ?_
        refine lv_goto (tgt := 37) hx hb dM_keeps_33 (by decide) ?_
        exact kx _ _ _ dM_keeps_37 (by unfold kpsM; first | (simp [c_6]; done) | (simp [c_6, c_15]; done) | (simp [c_6, c_15, c_29]; done))

def rmM_operations : Room := { frames := 0, cells := 0, slots := 0, locals := 0 }
set_option maxHeartbeats 4000000 in
set_option maxRecDepth 100000 in
theorem kM_operations {l : Launch} (D : va_G) (cc : Nat → ClassId) (q : Nat → Nat) (x : MS) (ok : okM x) : Met l yM_operations wsM_operations rmM_operations (va_Pc [.ref (q 0)] (fun U => va_P D vwCl (wM cc q x) U.heap ∧ EN D cc U)) (QcRead (nI x.nn)) 0 0 (fun _ => False) := by
  refine rd_met RM [.ref (q 0)] _ _ (by decide) rfl rfl (Nat.le_of_ble_eq_true rfl) (vp_nar_int _) ?_
  intro p e s m args below meth c Q S hB kx ls hl
  obtain ⟨hx, hb, hml, hown, hts⟩ := id S
  obtain ⟨hP, hE⟩ := hB
  have hK := hE.1
  have hts := hE.ts args
  have S : CallFix p m c cM_operations 1 s args wAll RM := ⟨hx, hb, hml, hown, hts⟩
  have hn := ok.n
  have hl : lv_has ls 1 [(0, .ref (q 0))] := hl
  refine lv_aload_n hx hb dM_operations_0 rfl (lv_at hl 0 rfl) ?_
  refine va_get (D := D) (ci := 3) (v := .int (nI (x.nn))) (C := RM) (T := TM) (N := 13) hx hb hts in_M hown hK hP 0 rfl rfl 0 (by decide) (hts _ wm_243) (fun _ h9 => h9) rfl dM_operations_1 ?_
  exact kx _ _ _ dM_operations_4 (rfl)
