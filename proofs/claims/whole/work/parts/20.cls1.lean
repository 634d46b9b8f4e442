def rmL_isFull : Room := { frames := 0, cells := 0, slots := 0, locals := 0 }
set_option maxHeartbeats 4000000 in
set_option maxRecDepth 100000 in
theorem kL_isFull {l : Launch} (D : va_G) (cc : Nat → ClassId) (a : Nat → Nat) (x : LgS) (ok : okL x) : Met l yL_isFull wsL_isFull rmL_isFull (va_Pc [.ref (a 0)] (fun U => va_P D vwCl (wL cc a x) U.heap ∧ EN D cc U)) (QcRead (bI (decide (100 ≤ x.cnt)))) 0 0 (fun _ => False) := by
  refine rd_met RL [.ref (a 0)] _ _ (by decide) rfl rfl (Nat.le_of_ble_eq_true rfl) (bI_z _) ?_
  intro p e s m args below meth c Q S hB kx ls hl
  obtain ⟨hx, hb, hml, hown, hts⟩ := id S
  obtain ⟨hP, hE⟩ := hB
  have hK := hE.1
  have hts := hE.ts args
  have S : CallFix p m c cL_isFull 1 s args wAll RL := ⟨hx, hb, hml, hown, hts⟩
  have hn := ok.n
  have he := ok.e
  have hl : lv_has ls 1 [(0, .ref (a 0))] := hl
  refine lv_aload_n hx hb dL_isFull_0 rfl (lv_at hl 0 rfl) ?_
  refine va_get (D := D) (ci := 0) (v := .int (nI (x.cnt))) (C := RL) (T := TL) (N := 8) hx hb hts in_L hown hK hP 0 rfl rfl 6 (by decide) (hts _ wm_25) (fun _ h9 => h9) rfl dL_isFull_1 ?_
  refine lv_bipush (v := nI (100)) hx hb dL_isFull_4 (by decide) ?_
  refine r_lt (Nat.lt_of_le_of_lt ok.n (by decide)) (by decide) (tgt := 13) hx hb dL_isFull_6 (by decide) (fun c_6 => ?_) (fun c_6 => ?_)
  · refine lv_iconst (v := bI (false)) hx hb dL_isFull_13 (by decide) ?_
    exact kx _ _ _ dL_isFull_14 (by first | exact congrArg bI (decide_eq_true c_6).symm | exact congrArg bI (decide_eq_false (by omega)).symm)
  · refine lv_iconst (v := bI (true)) hx hb dL_isFull_9 (by decide) ?_
    refine lv_goto (tgt := 14) hx hb dL_isFull_10 (by decide) ?_
    exact kx _ _ _ dL_isFull_14 (by first | exact congrArg bI (decide_eq_true c_6).symm | exact congrArg bI (decide_eq_false (by omega)).symm)

def rmL_isIssued : Room := { frames := 0, cells := 0, slots := 0, locals := 0 }
set_option maxHeartbeats 4000000 in
set_option maxRecDepth 100000 in
theorem kL_isIssued {l : Launch} (D : va_G) (cc : Nat → ClassId) (a : Nat → Nat) (x : LgS) (z : Int32) (ok : okL x) : Met l yL_isIssued wsL_isIssued rmL_isIssued (va_Pc [.ref (a 0), .int (z)] (fun U => va_P D vwCl (wL cc a x) U.heap ∧ EN D cc U)) (QcRead (bI (isOp x.cnt z))) 0 0 (fun _ => False) := by
  refine rd_met RL [.ref (a 0), .int (z)] _ _ (by decide) rfl rfl (Nat.le_of_ble_eq_true rfl) (bI_z _) ?_
  intro p e s m args below meth c Q S hB kx ls hl
  obtain ⟨hx, hb, hml, hown, hts⟩ := id S
  obtain ⟨hP, hE⟩ := hB
  have hK := hE.1
  have hts := hE.ts args
  have S : CallFix p m c cL_isIssued 2 s args wAll RL := ⟨hx, hb, hml, hown, hts⟩
  have hn := ok.n
  have he := ok.e
  have hl : lv_has ls 2 [(0, .ref (a 0)), (1, .int (z))] := hl
  refine lv_iload_n hx hb dL_isIssued_0 rfl (lv_at hl 1 rfl) ?_
  refine lv_if_lt (tgt := 16) hx hb dL_isIssued_1 (by decide) (fun c_1 => ?_) (fun c_1 => ?_)
  · refine lv_iconst (v := bI (false)) hx hb dL_isIssued_16 (by decide) ?_
    exact kx _ _ _ dL_isIssued_17 (by unfold isOp; first | (rw [decide_eq_true (show ¬ z < 0 ∧ ¬ nI x.cnt ≤ z from ⟨c_1, c_9⟩)]; done) | (rw [decide_eq_false (show ¬ (¬ z < 0 ∧ ¬ nI x.cnt ≤ z) from fun h => h.1 c_1)]; done) | (rw [decide_eq_false (show ¬ (¬ z < 0 ∧ ¬ nI x.cnt ≤ z) from fun h => h.2 c_9)]; done))
  · refine lv_iload_n hx hb dL_isIssued_4 rfl (lv_at hl 1 rfl) ?_
    refine lv_aload_n hx hb dL_isIssued_5 rfl (lv_at hl 0 rfl) ?_
    refine va_get (D := D) (ci := 0) (v := .int (nI (x.cnt))) (C := RL) (T := TL) (N := 8) hx hb hts in_L hown hK hP 0 rfl rfl 6 (by decide) (hts _ wm_25) (fun _ h9 => h9) rfl dL_isIssued_6 ?_
    refine lv_icmp_ge (tgt := 16) hx hb dL_isIssued_9 (by decide) (fun c_9 => ?_) (fun c_9 => ?_)
    · refine lv_iconst (v := bI (false)) hx hb dL_isIssued_16 (by decide) ?_
      exact kx _ _ _ dL_isIssued_17 (by unfold isOp; first | (rw [decide_eq_true (show ¬ z < 0 ∧ ¬ nI x.cnt ≤ z from ⟨c_1, c_9⟩)]; done) | (rw [decide_eq_false (show ¬ (¬ z < 0 ∧ ¬ nI x.cnt ≤ z) from fun h => h.1 c_1)]; done) | (rw [decide_eq_false (show ¬ (¬ z < 0 ∧ ¬ nI x.cnt ≤ z) from fun h => h.2 c_9)]; done))
    · refine lv_iconst (v := bI (true)) hx hb dL_isIssued_12 (by decide) ?_
      refine lv_goto (tgt := 17) hx hb dL_isIssued_13 (by decide) ?_
      exact kx _ _ _ dL_isIssued_17 (by unfold isOp; first | (rw [decide_eq_true (show ¬ z < 0 ∧ ¬ nI x.cnt ≤ z from ⟨c_1, c_9⟩)]; done) | (rw [decide_eq_false (show ¬ (¬ z < 0 ∧ ¬ nI x.cnt ≤ z) from fun h => h.1 c_1)]; done) | (rw [decide_eq_false (show ¬ (¬ z < 0 ∧ ¬ nI x.cnt ≤ z) from fun h => h.2 c_9)]; done))

def rmL_isErase : Room := { frames := 0, cells := 0, slots := 0, locals := 0 }
set_option maxHeartbeats 4000000 in
set_option maxRecDepth 100000 in
theorem kL_isErase {l : Launch} (D : va_G) (cc : Nat → ClassId) (a : Nat → Nat) (x : LgS) (o : Nat) (ho : o < 100) (ok : okL x) : Met l yL_isErase wsL_isErase rmL_isErase (va_Pc [.ref (a 0), .int (nI (o))] (fun U => va_P D vwCl (wL cc a x) U.heap ∧ EN D cc U)) (QcRead (bI (decide (x.chr o = 0)))) 0 0 (fun _ => False) := by
  refine rd_met RL [.ref (a 0), .int (nI (o))] _ _ (by decide) rfl rfl (Nat.le_of_ble_eq_true rfl) (bI_z _) ?_
  intro p e s m args below meth c Q S hB kx ls hl
  obtain ⟨hx, hb, hml, hown, hts⟩ := id S
  obtain ⟨hP, hE⟩ := hB
  have hK := hE.1
  have hts := hE.ts args
  have S : CallFix p m c cL_isErase 2 s args wAll RL := ⟨hx, hb, hml, hown, hts⟩
  have hn := ok.n
  have he := ok.e
  have hl : lv_has ls 2 [(0, .ref (a 0)), (1, .int (nI (o)))] := hl
  refine lv_aload_n hx hb dL_isErase_0 rfl (lv_at hl 0 rfl) ?_
  refine va_get (D := D) (ci := 0) (v := .ref (a 4)) (C := RL) (T := TL) (N := 8) hx hb hts in_L hown hK hP 0 rfl rfl 3 (by decide) (hts _ wm_22) (fun _ h9 => h9) rfl dL_isErase_1 ?_
  refine lv_iload_n hx hb dL_isErase_4 rfl (lv_at hl 1 rfl) ?_
  refine r_cald (q0 := 4) (t0 := 2) hx hb hK hP rfl rfl (by omega) (by decide) dL_isErase_5 ?_
  refine r_neN (ok.chr (o)) (tgt := 13) hx hb dL_isErase_6 (by decide) (fun c_6 => ?_) (fun c_6 => ?_)
  · refine lv_iconst (v := bI (false)) hx hb dL_isErase_13 (by decide) ?_
    exact kx _ _ _ dL_isErase_14 (by first | exact congrArg bI (decide_eq_true c_6).symm | exact congrArg bI (decide_eq_false c_6).symm)
  · refine lv_iconst (v := bI (true)) hx hb dL_isErase_9 (by decide) ?_
    refine lv_goto (tgt := 14) hx hb dL_isErase_10 (by decide) ?_
    exact kx _ _ _ dL_isErase_14 (by first | exact congrArg bI (decide_eq_true c_6).symm | exact congrArg bI (decide_eq_false c_6).symm)

def rmL_clockOf : Room := { frames := 0, cells := 0, slots := 0, locals := 0 }
set_option maxHeartbeats 4000000 in
set_option maxRecDepth 100000 in
theorem kL_clockOf {l : Launch} (D : va_G) (cc : Nat → ClassId) (a : Nat → Nat) (x : LgS) (o j : Nat) (ho : o < 100) (hj : j < 3) (ok : okL x) : Met l yL_clockOf wsL_clockOf rmL_clockOf (va_Pc [.ref (a 0), .int (nI (o)), .int (nI (j))] (fun U => va_P D vwCl (wL cc a x) U.heap ∧ EN D cc U)) (QcRead (nI (x.clk (o * 3 + j)))) 0 0 (fun _ => False) := by
  refine rd_met RL [.ref (a 0), .int (nI (o)), .int (nI (j))] _ _ (by decide) rfl rfl (Nat.le_of_ble_eq_true rfl) (vp_nar_int _) ?_
  intro p e s m args below meth c Q S hB kx ls hl
  obtain ⟨hx, hb, hml, hown, hts⟩ := id S
  obtain ⟨hP, hE⟩ := hB
  have hK := hE.1
  have hts := hE.ts args
  have S : CallFix p m c cL_clockOf 3 s args wAll RL := ⟨hx, hb, hml, hown, hts⟩
  have hn := ok.n
  have he := ok.e
  have hl : lv_has ls 3 [(0, .ref (a 0)), (1, .int (nI (o))), (2, .int (nI (j)))] := hl
  refine lv_aload_n hx hb dL_clockOf_0 rfl (lv_at hl 0 rfl) ?_
  refine va_get (D := D) (ci := 0) (v := .ref (a 5)) (C := RL) (T := TL) (N := 8) hx hb hts in_L hown hK hP 0 rfl rfl 4 (by decide) (hts _ wm_23) (fun _ h9 => h9) rfl dL_clockOf_1 ?_
  refine lv_iload_n hx hb dL_clockOf_4 rfl (lv_at hl 1 rfl) ?_
  refine lv_iconst (v := nI (3)) hx hb dL_clockOf_5 (by decide) ?_
  refine r_mul hx hb dL_clockOf_6 ?_
  refine lv_iload_n hx hb dL_clockOf_7 rfl (lv_at hl 2 rfl) ?_
  refine r_add hx hb dL_clockOf_8 ?_
  refine r_iald (q0 := 5) (t0 := 0) hx hb hK hP rfl rfl (by omega) (by decide) dL_clockOf_9 ?_
  exact kx _ _ _ dL_clockOf_10 (rfl)

def rmL_placeInLine : Room := { frames := 1, cells := 0, slots := 0, locals := 22 }
set_option maxHeartbeats 4000000 in
set_option maxRecDepth 100000 in
theorem kL_placeInLine {l : Launch} (D : va_G) (cc : Nat → ClassId) (a : Nat → Nat) (x : LgS) (o : Nat) (ho : o < 100) (ok : okL x) : Met l yL_placeInLine wsL_placeInLine rmL_placeInLine (va_Pc [.ref (a 0), .int (nI (o))] (fun U => va_P D vwCl (wL cc a x) U.heap ∧ EN D cc U)) (QcRead (nI (plc x o))) 0 0 (fun _ => False) := by
  refine rd_met RL [.ref (a 0), .int (nI (o))] _ _ (by decide) rfl rfl (Nat.le_of_ble_eq_true rfl) (vp_nar_int _) ?_
  intro p e s m args below meth c Q S hB kx ls hl
  obtain ⟨hx, hb, hml, hown, hts⟩ := id S
  obtain ⟨hP, hE⟩ := hB
  have hK := hE.1
  have hts := hE.ts args
  have S : CallFix p m c cL_placeInLine 2 s args wAll RL := ⟨hx, hb, hml, hown, hts⟩
  have hn := ok.n
  have he := ok.e
  have hl : lv_has ls 2 [(0, .ref (a 0)), (1, .int (nI (o)))] := hl
  refine lv_aload_n hx hb dL_placeInLine_0 rfl (lv_at hl 0 rfl) ?_
  refine lv_iload_n hx hb dL_placeInLine_1 rfl (lv_at hl 1 rfl) ?_
  refine lv_aload_n hx hb dL_placeInLine_2 rfl (lv_at hl 0 rfl) ?_
  refine va_get (D := D) (ci := 0) (v := .ref (a 1)) (C := RL) (T := TL) (N := 8) hx hb hts in_L hown hK hP 0 rfl rfl 0 (by decide) (hts _ wm_19) (fun _ h9 => h9) rfl dL_placeInLine_3 ?_
  refine lv_iload_n hx hb dL_placeInLine_6 rfl (lv_at hl 1 rfl) ?_
  refine r_iald (q0 := 1) (t0 := 0) hx hb hK hP rfl rfl (by omega) (by decide) dL_placeInLine_7 ?_
  refine W.callR (W.runV (As := [.int (nI (o)), .int (nI (x.iss o))]) (rest := []) S (kL_clockOf D cc a x (o) (x.iss o) (by omega) (ok.iss3 _) ok) (cwV 2 hts (gd_V wm_119 wm_112 wm_113 wm_2 wm_114) rfl rfl rfl (by decide +kernel) ⟨Nat.le_of_ble_eq_true rfl, Nat.le_of_ble_eq_true rfl⟩) (rd_preV (q0 := 0) hP hE rfl rfl) rfl rfl hl.1 rfl (lv_room (Nat.le_of_ble_eq_true rfl)) dL_placeInLine_8 ⟨Nat.le_of_ble_eq_true rfl, Nat.le_of_ble_eq_true rfl⟩) ?_
  refine W.eq (g2 := F0 m 11 ls [.int (nI (x.clk ((o) * 3 + (x.iss o))))]) rfl ?_
  exact kx _ _ _ dL_placeInLine_11 (rfl)

def rmL_goesFirst : Room := { frames := 0, cells := 0, slots := 0, locals := 0 }
set_option maxHeartbeats 4000000 in
set_option maxRecDepth 100000 in
theorem kL_goesFirst {l : Launch} (D : va_G) (cc : Nat → ClassId) (a : Nat → Nat) (x : LgS) (u v : Nat) (hu : u < 100) (hv : v < 100) (ok : okL x) : Met l yL_goesFirst wsL_goesFirst rmL_goesFirst (va_Pc [.ref (a 0), .int (nI (u)), .int (nI (v))] (fun U => va_P D vwCl (wL cc a x) U.heap ∧ EN D cc U)) (QcRead (bI (gofL x u v))) 0 0 (fun _ => False) := by
  refine rd_met RL [.ref (a 0), .int (nI (u)), .int (nI (v))] _ _ (by decide) rfl rfl (Nat.le_of_ble_eq_true rfl) (bI_z _) ?_
  intro p e s m args below meth c Q S hB kx ls hl
  obtain ⟨hx, hb, hml, hown, hts⟩ := id S
  obtain ⟨hP, hE⟩ := hB
  have hK := hE.1
  have hts := hE.ts args
  have S : CallFix p m c cL_goesFirst 3 s args wAll RL := ⟨hx, hb, hml, hown, hts⟩
  have hn := ok.n
  have he := ok.e
  have hl : lv_has ls 3 [(0, .ref (a 0)), (1, .int (nI (u))), (2, .int (nI (v)))] := hl
  refine lv_aload_n hx hb dL_goesFirst_0 rfl (lv_at hl 0 rfl) ?_
  refine va_get (D := D) (ci := 0) (v := .ref (a 2)) (C := RL) (T := TL) (N := 8) hx hb hts in_L hown hK hP 0 rfl rfl 1 (by decide) (hts _ wm_20) (fun _ h9 => h9) rfl dL_goesFirst_1 ?_
  refine lv_iload_n hx hb dL_goesFirst_4 rfl (lv_at hl 1 rfl) ?_
  refine r_iald (q0 := 2) (t0 := 0) hx hb hK hP rfl rfl (by omega) (by decide) dL_goesFirst_5 ?_
  refine lv_aload_n hx hb dL_goesFirst_6 rfl (lv_at hl 0 rfl) ?_
  refine va_get (D := D) (ci := 0) (v := .ref (a 2)) (C := RL) (T := TL) (N := 8) hx hb hts in_L hown hK hP 0 rfl rfl 1 (by decide) (hts _ wm_20) (fun _ h9 => h9) rfl dL_goesFirst_7 ?_
  refine lv_iload_n hx hb dL_goesFirst_10 rfl (lv_at hl 2 rfl) ?_
  refine r_iald (q0 := 2) (t0 := 0) hx hb hK hP rfl rfl (by omega) (by decide) dL_goesFirst_11 ?_
  refine r_eq (ok.stp (u)) (ok.stp (v)) (tgt := 36) hx hb dL_goesFirst_12 (by decide) (fun c_12 => ?_) (fun c_12 => ?_)
  · refine lv_aload_n hx hb dL_goesFirst_36 rfl (lv_at hl 0 rfl) ?_
    refine va_get (D := D) (ci := 0) (v := .ref (a 1)) (C := RL) (T := TL) (N := 8) hx hb hts in_L hown hK hP 0 rfl rfl 0 (by decide) (hts _ wm_19) (fun _ h9 => h9) rfl dL_goesFirst_37 ?_
    refine lv_iload_n hx hb dL_goesFirst_40 rfl (lv_at hl 1 rfl) ?_
    refine r_iald (q0 := 1) (t0 := 0) hx hb hK hP rfl rfl (by omega) (by decide) dL_goesFirst_41 ?_
    refine lv_aload_n hx hb dL_goesFirst_42 rfl (lv_at hl 0 rfl) ?_
    refine va_get (D := D) (ci := 0) (v := .ref (a 1)) (C := RL) (T := TL) (N := 8) hx hb hts in_L hown hK hP 0 rfl rfl 0 (by decide) (hts _ wm_19) (fun _ h9 => h9) rfl dL_goesFirst_43 ?_
    refine lv_iload_n hx hb dL_goesFirst_46 rfl (lv_at hl 2 rfl) ?_
    refine r_iald (q0 := 1) (t0 := 0) hx hb hK hP rfl rfl (by omega) (by decide) dL_goesFirst_47 ?_
    refine r_le (ok.iss (u)) (ok.iss (v)) (tgt := 55) hx hb dL_goesFirst_48 (by decide) (fun c_48 => ?_) (fun c_48 => ?_)
    · refine lv_iconst (v := bI (false)) hx hb dL_goesFirst_55 (by decide) ?_
      exact kx _ _ _ dL_goesFirst_56 (by unfold gofL; exact congrArg bI (Eq.symm (by first | exact decide_eq_true (by omega) | exact decide_eq_false (by omega))))
    · refine lv_iconst (v := bI (true)) hx hb dL_goesFirst_51 (by decide) ?_
      refine lv_goto (tgt := 56) hx hb dL_goesFirst_52 (by decide) ?_
      exact kx _ _ _ dL_goesFirst_56 (by unfold gofL; exact congrArg bI (Eq.symm (by first | exact decide_eq_true (by omega) | exact decide_eq_false (by omega))))
  · refine lv_aload_n hx hb dL_goesFirst_15 rfl (lv_at hl 0 rfl) ?_
    refine va_get (D := D) (ci := 0) (v := .ref (a 2)) (C := RL) (T := TL) (N := 8) hx hb hts in_L hown hK hP 0 rfl rfl 1 (by decide) (hts _ wm_20) (fun _ h9 => h9) rfl dL_goesFirst_16 ?_
    refine lv_iload_n hx hb dL_goesFirst_19 rfl (lv_at hl 1 rfl) ?_
    refine r_iald (q0 := 2) (t0 := 0) hx hb hK hP rfl rfl (by omega) (by decide) dL_goesFirst_20 ?_
    refine lv_aload_n hx hb dL_goesFirst_21 rfl (lv_at hl 0 rfl) ?_
    refine va_get (D := D) (ci := 0) (v := .ref (a 2)) (C := RL) (T := TL) (N := 8) hx hb hts in_L hown hK hP 0 rfl rfl 1 (by decide) (hts _ wm_20) (fun _ h9 => h9) rfl dL_goesFirst_22 ?_
    refine lv_iload_n hx hb dL_goesFirst_25 rfl (lv_at hl 2 rfl) ?_
    refine r_iald (q0 := 2) (t0 := 0) hx hb hK hP rfl rfl (by omega) (by decide) dL_goesFirst_26 ?_
    refine r_le (ok.stp (u)) (ok.stp (v)) (tgt := 34) hx hb dL_goesFirst_27 (by decide) (fun c_27 => ?_) (fun c_27 => ?_)
    · refine lv_iconst (v := bI (false)) hx hb dL_goesFirst_34 (by decide) ?_
      exact kx _ _ _ dL_goesFirst_35 (by unfold gofL; exact congrArg bI (Eq.symm (by first | exact decide_eq_true (by omega) | exact decide_eq_false (by omega))))
    · refine lv_iconst (v := bI (true)) hx hb dL_goesFirst_30 (by decide) ?_
      refine lv_goto (tgt := 35) hx hb dL_goesFirst_31 (by decide) ?_
      exact kx _ _ _ dL_goesFirst_35 (by unfold gofL; exact congrArg bI (Eq.symm (by first | exact decide_eq_true (by omega) | exact decide_eq_false (by omega))))

def rmP_elementAt : Room := { frames := 0, cells := 0, slots := 0, locals := 0 }
set_option maxHeartbeats 4000000 in
set_option maxRecDepth 100000 in
theorem kP_elementAt {l : Launch} (D : va_G) (cc : Nat → ClassId) (a b : Nat → Nat) (x : LgS) (y : RpS) (k : Nat) (hk : k < y.tl) (kr : okR y) : Met l yP_elementAt wsP_elementAt rmP_elementAt (va_Pc [.ref (b 0), .int (nI (k))] (fun U => va_P D vwCl (wLR cc a b x y) U.heap ∧ EN D cc U)) (QcRead (nI (y.txt k))) 0 0 (fun _ => False) := by
  refine rd_met RP [.ref (b 0), .int (nI (k))] _ _ (by decide) rfl rfl (Nat.le_of_ble_eq_true rfl) (vp_nar_int _) ?_
  intro p e s m args below meth c Q S hB kx ls hl
  obtain ⟨hx, hb, hml, hown, hts⟩ := id S
  obtain ⟨hP, hE⟩ := hB
  have hK := hE.1
  have hts := hE.ts args
  have S : CallFix p m c cP_elementAt 2 s args wAll RP := ⟨hx, hb, hml, hown, hts⟩
  have hself := kr.self
  have htl := kr.tl
  have hl : lv_has ls 2 [(0, .ref (b 0)), (1, .int (nI (k)))] := hl
  refine lv_iload_n hx hb dP_elementAt_0 rfl (lv_at hl 1 rfl) ?_
  refine r_ltN (by omega) (tgt := 21) hx hb dP_elementAt_1 (by decide) ?_
  refine lv_iload_n hx hb dP_elementAt_4 rfl (lv_at hl 1 rfl) ?_
  refine lv_aload_n hx hb dP_elementAt_5 rfl (lv_at hl 0 rfl) ?_
  refine va_get (D := D) (ci := 1) (v := .int (nI (y.tl))) (C := RP) (T := TP) (N := 12) hx hb hts in_P hown hK hP 7 rfl rfl 8 (by decide) (hts _ wm_52) (fun _ h9 => h9) rfl dP_elementAt_6 ?_
  refine r_ge (by omega) (Nat.lt_of_le_of_lt kr.tl (by decide)) (tgt := 21) hx hb dP_elementAt_9 (by decide) (fun c_9 => absurd c_9 (by omega)) (fun c_9 => ?_)
  refine lv_aload_n hx hb dP_elementAt_12 rfl (lv_at hl 0 rfl) ?_
  refine va_get (D := D) (ci := 1) (v := .ref (b 9)) (C := RP) (T := TP) (N := 12) hx hb hts in_P hown hK hP 7 rfl rfl 7 (by decide) (hts _ wm_51) (fun _ h9 => h9) rfl dP_elementAt_13 ?_
  refine lv_iload_n hx hb dP_elementAt_16 rfl (lv_at hl 1 rfl) ?_
  refine r_iald (q0 := 16) (t0 := 0) hx hb hK hP rfl rfl (by omega) (by decide) dP_elementAt_17 ?_
  refine lv_goto (tgt := 22) hx hb dP_elementAt_18 (by decide) ?_
  exact kx _ _ _ dP_elementAt_22 (rfl)

def rmP_elementBefore : Room := { frames := 0, cells := 0, slots := 0, locals := 0 }
set_option maxHeartbeats 4000000 in
set_option maxRecDepth 100000 in
theorem kP_elementBefore {l : Launch} (D : va_G) (cc : Nat → ClassId) (a b : Nat → Nat) (x : LgS) (y : RpS) (k : Nat) (hk : k ≤ y.tl) (kr : okR y) : Met l yP_elementBefore wsP_elementBefore rmP_elementBefore (va_Pc [.ref (b 0), .int (nI (k))] (fun U => va_P D vwCl (wLR cc a b x y) U.heap ∧ EN D cc U)) (QcRead (sI (befR y k))) 0 0 (fun _ => False) := by
  refine rd_met RP [.ref (b 0), .int (nI (k))] _ _ (by decide) rfl rfl (Nat.le_of_ble_eq_true rfl) (vp_nar_int _) ?_
  intro p e s m args below meth c Q S hB kx ls hl
  obtain ⟨hx, hb, hml, hown, hts⟩ := id S
  obtain ⟨hP, hE⟩ := hB
  have hK := hE.1
  have hts := hE.ts args
  have S : CallFix p m c cP_elementBefore 2 s args wAll RP := ⟨hx, hb, hml, hown, hts⟩
  have hself := kr.self
  have htl := kr.tl
  have hl : lv_has ls 2 [(0, .ref (b 0)), (1, .int (nI (k)))] := hl
  refine lv_iload_n hx hb dP_elementBefore_0 rfl (lv_at hl 1 rfl) ?_
  refine r_neN (by omega) (tgt := 8) hx hb dP_elementBefore_1 (by decide) (fun c_1 => ?_) (fun c_1 => ?_)
  · refine lv_aload_n hx hb dP_elementBefore_8 rfl (lv_at hl 0 rfl) ?_
    refine va_get (D := D) (ci := 1) (v := .ref (b 9)) (C := RP) (T := TP) (N := 12) hx hb hts in_P hown hK hP 7 rfl rfl 7 (by decide) (hts _ wm_51) (fun _ h9 => h9) rfl dP_elementBefore_9 ?_
    refine lv_iload_n hx hb dP_elementBefore_12 rfl (lv_at hl 1 rfl) ?_
    refine lv_iconst (v := nI (1)) hx hb dP_elementBefore_13 (by decide) ?_
    refine r_sub (by omega) hx hb dP_elementBefore_14 ?_
    refine r_iald (q0 := 16) (t0 := 0) hx hb hK hP rfl rfl (by omega) (by decide) dP_elementBefore_15 ?_
    exact kx _ _ _ dP_elementBefore_16 (by unfold befR; first | (rw [if_pos c_1]; done) | (rw [if_neg c_1, sI_s]; done))
  · refine lv_iconst (v := sI (0)) hx hb dP_elementBefore_4 (by decide) ?_
    refine lv_goto (tgt := 16) hx hb dP_elementBefore_5 (by decide) ?_
    exact kx _ _ _ dP_elementBefore_16 (by unfold befR; first | (rw [if_pos c_1]; done) | (rw [if_neg c_1, sI_s]; done))

def rmP_hasApplied : Room := { frames := 2, cells := 0, slots := 0, locals := 43 }
set_option maxHeartbeats 4000000 in
set_option maxRecDepth 100000 in
theorem kP_hasApplied {l : Launch} (D : va_G) (cc : Nat → ClassId) (a b : Nat → Nat) (x : LgS) (y : RpS) (o : Nat) (ho : o < 100) (ok : okL x) (kr : okR y) : Met l yP_hasApplied wsP_hasApplied rmP_hasApplied (va_Pc [.ref (b 0), .int (nI (o))] (fun U => va_P D vwCl (wLR cc a b x y) U.heap ∧ EN D cc U)) (QcRead (bI (hasL x y o))) 0 0 (fun _ => False) := by
  refine rd_met RP [.ref (b 0), .int (nI (o))] _ _ (by decide) rfl rfl (Nat.le_of_ble_eq_true rfl) (bI_z _) ?_
  intro p e s m args below meth c Q S hB kx ls hl
  obtain ⟨hx, hb, hml, hown, hts⟩ := id S
  obtain ⟨hP, hE⟩ := hB
  have hK := hE.1
  have hts := hE.ts args
  have S : CallFix p m c cP_hasApplied 2 s args wAll RP := ⟨hx, hb, hml, hown, hts⟩
  have hn := ok.n
  have he := ok.e
  have hself := kr.self
  have htl := kr.tl
  have hi3 := ok.iss3 o
  have hl : lv_has ls 2 [(0, .ref (b 0)), (1, .int (nI (o)))] := hl
  refine lv_aload_n hx hb dP_hasApplied_0 rfl (lv_at hl 0 rfl) ?_
  refine va_get (D := D) (ci := 1) (v := .ref (a 0)) (C := RP) (T := TP) (N := 12) hx hb hts in_P hown hK hP 7 rfl rfl 1 (by decide) (hts _ wm_45) (fun _ h9 => h9) rfl dP_hasApplied_1 ?_
  refine lv_iload_n hx hb dP_hasApplied_4 rfl (lv_at hl 1 rfl) ?_
  refine W.callR (W.runV (As := [.int (nI (o))]) (rest := []) S (kL_placeInLine D cc a x (o) (by omega) ok) (cwV 1 hts (gd_V wm_115 wm_116 wm_117 wm_2 wm_118) rfl rfl rfl (by decide +kernel) ⟨Nat.le_of_ble_eq_true rfl, Nat.le_of_ble_eq_true rfl⟩) (rd_preV (q0 := 0) (P_left hP) hE rfl rfl) rfl rfl hl.1 rfl (lv_room (Nat.le_of_ble_eq_true rfl)) dP_hasApplied_5 ⟨Nat.le_of_ble_eq_true rfl, Nat.le_of_ble_eq_true rfl⟩) ?_
  refine W.eq (g2 := F0 m 8 ls [.int (nI (plc x (o)))]) rfl ?_
  refine lv_aload_n hx hb dP_hasApplied_8 rfl (lv_at hl 0 rfl) ?_
  refine va_get (D := D) (ci := 1) (v := .ref (b 1)) (C := RP) (T := TP) (N := 12) hx hb hts in_P hown hK hP 7 rfl rfl 2 (by decide) (hts _ wm_46) (fun _ h9 => h9) rfl dP_hasApplied_9 ?_
  refine lv_aload_n hx hb dP_hasApplied_12 rfl (lv_at hl 0 rfl) ?_
  refine va_get (D := D) (ci := 1) (v := .int (nI (y.self))) (C := RP) (T := TP) (N := 12) hx hb hts in_P hown hK hP 7 rfl rfl 0 (by decide) (hts _ wm_44) (fun _ h9 => h9) rfl dP_hasApplied_13 ?_
  refine r_aald (q0 := 8) (t0 := 3) (f := (fun j => b (2 + j))) hx hb hK hP rfl rfl (by omega) (by decide) dP_hasApplied_16 ?_
  refine lv_aload_n hx hb dP_hasApplied_17 rfl (lv_at hl 0 rfl) ?_
  refine va_get (D := D) (ci := 1) (v := .ref (a 0)) (C := RP) (T := TP) (N := 12) hx hb hts in_P hown hK hP 7 rfl rfl 1 (by decide) (hts _ wm_45) (fun _ h9 => h9) rfl dP_hasApplied_18 ?_
  refine va_getN (D := D) (ci := 0) (v := .ref (a 1)) (C := RL) (T := TL) (N := 8) hx hb hts in_L hown hK hP 0 rfl rfl 0 (by decide) (hE.f nf_0) (fun _ h9 => h9) rfl dP_hasApplied_21 ?_
  refine lv_iload_n hx hb dP_hasApplied_24 rfl (lv_at hl 1 rfl) ?_
  refine r_iald (q0 := 1) (t0 := 0) hx hb hK hP rfl rfl (by omega) (by decide) dP_hasApplied_25 ?_
  refine r_iald (q0 := 9 + (y.self)) (t0 := 0) hx hb hK hP (at_seen (by omega)) rfl (by omega) (by decide) dP_hasApplied_26 ?_
  refine r_gt (ok.clk _) (kr.seen (y.self) (x.iss o)) (tgt := 34) hx hb dP_hasApplied_27 (by decide) (fun c_27 => ?_) (fun c_27 => ?_)
  · refine lv_iconst (v := bI (false)) hx hb dP_hasApplied_34 (by decide) ?_
    exact kx _ _ _ dP_hasApplied_35 (by unfold hasL; first | exact congrArg bI (decide_eq_true c_27).symm | exact congrArg bI (decide_eq_false (by omega)).symm)
  · refine lv_iconst (v := bI (true)) hx hb dP_hasApplied_30 (by decide) ?_
    refine lv_goto (tgt := 35) hx hb dP_hasApplied_31 (by decide) ?_
    exact kx _ _ _ dP_hasApplied_35 (by unfold hasL; first | exact congrArg bI (decide_eq_true c_27).symm | exact congrArg bI (decide_eq_false (by omega)).symm)

def rmP_isSettled : Room := { frames := 2, cells := 0, slots := 0, locals := 43 }
set_option maxHeartbeats 4000000 in
set_option maxRecDepth 100000 in
theorem kP_isSettled {l : Launch} (D : va_G) (cc : Nat → ClassId) (a b : Nat → Nat) (x : LgS) (y : RpS) (o : Nat) (ho : o < 100) (ok : okL x) (kr : okR y) : Met l yP_isSettled wsP_isSettled rmP_isSettled (va_Pc [.ref (b 0), .int (nI (o))] (fun U => va_P D vwCl (wLR cc a b x y) U.heap ∧ EN D cc U)) (QcRead (bI (setL x y o))) 0 0 (fun _ => False) := by
  refine rd_met RP [.ref (b 0), .int (nI (o))] _ _ (by decide) rfl rfl (Nat.le_of_ble_eq_true rfl) (bI_z _) ?_
  intro p e s m args below meth c Q S hB kx ls hl
  obtain ⟨hx, hb, hml, hown, hts⟩ := id S
  obtain ⟨hP, hE⟩ := hB
  have hK := hE.1
  have hts := hE.ts args
  have S : CallFix p m c cP_isSettled 5 s args wAll RP := ⟨hx, hb, hml, hown, hts⟩
  have hn := ok.n
  have he := ok.e
  have hself := kr.self
  have htl := kr.tl
  have hi3 := ok.iss3 o
  have hl : lv_has ls 5 [(0, .ref (b 0)), (1, .int (nI (o)))] := hl
  have L22 : ∀ (n : Nat) (i : Nat)  (ls : Array Slot) (h1 : i ≤ 3) (h2 : 3 - i < n) (h3 : ∀ k, k < i → plc x o ≤ y.seen k (x.iss o)), lv_has ls 5 [(0, .ref (b 0)), (1, .int (nI (o))), (2, .int (nI (x.iss o))), (3, .int (nI (plc x o))), (4, .int (nI (i)))] → W p l e rmP_isSettled s m args below meth c s.heap [] 0 0 Q (F0 m 22 ls []) := by
    intro n
    induction n with
    | zero => intro i ls h1 h2 h3 hl; exact absurd h2 (Nat.not_lt_zero _)
    | succ n ih =>
      intro i ls h1 h2 h3 hl
      refine lv_iload hx hb dP_isSettled_22 (lv_at hl 4 rfl) ?_
      refine lv_iconst (v := nI (3)) hx hb dP_isSettled_24 (by decide) ?_
      refine r_ge (by omega) (by decide) (tgt := 49) hx hb dP_isSettled_25 (by decide) (fun c_25 => ?_) (fun c_25 => ?_)
      · refine lv_iconst (v := bI (true)) hx hb dP_isSettled_49 (by decide) ?_
        exact kx _ _ _ dP_isSettled_50 (by unfold setL; rw [andF_t rfl (fun k hk => decide_eq_true (h3 k (by omega)))])
      · refine lv_aload_n hx hb dP_isSettled_28 rfl (lv_at hl 0 rfl) ?_
        refine va_get (D := D) (ci := 1) (v := .ref (b 1)) (C := RP) (T := TP) (N := 12) hx hb hts in_P hown hK hP 7 rfl rfl 2 (by decide) (hts _ wm_46) (fun _ h9 => h9) rfl dP_isSettled_29 ?_
        refine lv_iload hx hb dP_isSettled_32 (lv_at hl 4 rfl) ?_
        refine r_aald (q0 := 8) (t0 := 3) (f := (fun j => b (2 + j))) hx hb hK hP rfl rfl (by omega) (by decide) dP_isSettled_34 ?_
        refine lv_iload_n hx hb dP_isSettled_35 rfl (lv_at hl 2 rfl) ?_
        refine r_iald (q0 := 9 + i) (t0 := 0) hx hb hK hP (at_seen (by omega)) rfl (by omega) (by decide) dP_isSettled_36 ?_
        refine lv_iload_n hx hb dP_isSettled_37 rfl (lv_at hl 3 rfl) ?_
        refine r_ge (kr.seen i (x.iss o)) (ok.clk _) (tgt := 43) hx hb dP_isSettled_38 (by decide) (fun c_38 => ?_) (fun c_38 => ?_)
        · refine lv_iinc (v := nI (i + 1)) (lv' := [(4, .int (nI (i + 1))), (0, .ref (b 0)), (1, .int (nI (o))), (2, .int (nI (x.iss o))), (3, .int (nI (plc x o)))]) hx hb dP_isSettled_43 hl (k := 4) rfl (nI_1 _) (by decide) rfl (fun ls hl => ?_)
          refine lv_goto (tgt := 22) hx hb dP_isSettled_46 (by decide) ?_
          exact ih  (i + 1)  ls (by omega) (by omega) (by first | exact (fun k hk => absurd hk (Nat.not_lt_zero k)) | exact lt_s h3 c_38) (lv_sub hl [1, 2, 3, 4, 0] rfl)
        · refine lv_iconst (v := bI (false)) hx hb dP_isSettled_41 (by decide) ?_
          exact kx _ _ _ dP_isSettled_42 (by unfold setL; rw [andF_f (i := i) (by omega) (decide_eq_false (by omega))])
  refine lv_aload_n hx hb dP_isSettled_0 rfl (lv_at hl 0 rfl) ?_
  refine va_get (D := D) (ci := 1) (v := .ref (a 0)) (C := RP) (T := TP) (N := 12) hx hb hts in_P hown hK hP 7 rfl rfl 1 (by decide) (hts _ wm_45) (fun _ h9 => h9) rfl dP_isSettled_1 ?_
  refine va_getN (D := D) (ci := 0) (v := .ref (a 1)) (C := RL) (T := TL) (N := 8) hx hb hts in_L hown hK hP 0 rfl rfl 0 (by decide) (hE.f nf_0) (fun _ h9 => h9) rfl dP_isSettled_4 ?_
  refine lv_iload_n hx hb dP_isSettled_7 rfl (lv_at hl 1 rfl) ?_
  refine r_iald (q0 := 1) (t0 := 0) hx hb hK hP rfl rfl (by omega) (by decide) dP_isSettled_8 ?_
  refine lv_istore_n (lv' := [(2, .int (nI (x.iss o))), (0, .ref (b 0)), (1, .int (nI (o)))]) hx hb dP_isSettled_9 rfl hl (by decide) rfl (fun ls hl => ?_)
  refine lv_aload_n hx hb dP_isSettled_10 rfl (lv_at hl 1 rfl) ?_
  refine va_get (D := D) (ci := 1) (v := .ref (a 0)) (C := RP) (T := TP) (N := 12) hx hb hts in_P hown hK hP 7 rfl rfl 1 (by decide) (hts _ wm_45) (fun _ h9 => h9) rfl dP_isSettled_11 ?_
  refine lv_iload_n hx hb dP_isSettled_14 rfl (lv_at hl 2 rfl) ?_
  refine W.callR (W.runV (As := [.int (nI (o))]) (rest := []) S (kL_placeInLine D cc a x (o) (by omega) ok) (cwV 1 hts (gd_V wm_115 wm_116 wm_117 wm_2 wm_118) rfl rfl rfl (by decide +kernel) ⟨Nat.le_of_ble_eq_true rfl, Nat.le_of_ble_eq_true rfl⟩) (rd_preV (q0 := 0) (P_left hP) hE rfl rfl) rfl rfl hl.1 rfl (lv_room (Nat.le_of_ble_eq_true rfl)) dP_isSettled_15 ⟨Nat.le_of_ble_eq_true rfl, Nat.le_of_ble_eq_true rfl⟩) ?_
  refine W.eq (g2 := F0 m 18 ls [.int (nI (plc x (o)))]) rfl ?_
  refine lv_istore_n (lv' := [(3, .int (nI (plc x (o)))), (2, .int (nI (x.iss o))), (0, .ref (b 0)), (1, .int (nI (o)))]) hx hb dP_isSettled_18 rfl hl (by decide) rfl (fun ls hl => ?_)
  refine lv_iconst (v := nI (0)) hx hb dP_isSettled_19 (by decide) ?_
  refine lv_istore (lv' := [(4, .int (nI (0))), (3, .int (nI (plc x (o)))), (2, .int (nI (x.iss o))), (0, .ref (b 0)), (1, .int (nI (o)))]) hx hb dP_isSettled_20 hl (by decide) rfl (fun ls hl => ?_)
  exact L22 (4) (0)  ls (by omega) (by omega) (by first | exact (fun k hk => absurd hk (Nat.not_lt_zero k)) | exact lt_s h3 c_38) (lv_sub hl [3, 4, 2, 1, 0] rfl)

def rmP_isReady : Room := { frames := 2, cells := 0, slots := 0, locals := 43 }
set_option maxHeartbeats 4000000 in
set_option maxRecDepth 100000 in
theorem kP_isReady {l : Launch} (D : va_G) (cc : Nat → ClassId) (a b : Nat → Nat) (x : LgS) (y : RpS) (o : Nat) (ho : o < 100) (hp1 : 1 ≤ plc x o) (ok : okL x) (kr : okR y) : Met l yP_isReady wsP_isReady rmP_isReady (va_Pc [.ref (b 0), .int (nI (o))] (fun U => va_P D vwCl (wLR cc a b x y) U.heap ∧ EN D cc U)) (QcRead (bI (rdyL x y o))) 0 0 (fun _ => False) := by
  refine rd_met RP [.ref (b 0), .int (nI (o))] _ _ (by decide) rfl rfl (Nat.le_of_ble_eq_true rfl) (bI_z _) ?_
  intro p e s m args below meth c Q S hB kx ls hl
  obtain ⟨hx, hb, hml, hown, hts⟩ := id S
  obtain ⟨hP, hE⟩ := hB
  have hK := hE.1
  have hts := hE.ts args
  have S : CallFix p m c cP_isReady 4 s args wAll RP := ⟨hx, hb, hml, hown, hts⟩
  have hn := ok.n
  have he := ok.e
  have hself := kr.self
  have htl := kr.tl
  have hi3 := ok.iss3 o
  have hpl : plc x o < 2 ^ 31 := ok.clk _
  have hl : lv_has ls 4 [(0, .ref (b 0)), (1, .int (nI (o)))] := hl
  have L38 : ∀ (n : Nat) (j : Nat)  (ls : Array Slot) (h0 : y.seen y.self (x.iss o) = plc x o - 1) (h1 : j ≤ 3) (h2 : 3 - j < n) (h3 : ∀ k, k < j → k = x.iss o ∨ x.clk (o * 3 + k) ≤ y.seen y.self k), lv_has ls 4 [(0, .ref (b 0)), (1, .int (nI (o))), (2, .int (nI (x.iss o))), (3, .int (nI (j)))] → W p l e rmP_isReady s m args below meth c s.heap [] 0 0 Q (F0 m 38 ls []) := by
    intro n
    induction n with
    | zero => intro j ls h0 h1 h2 h3 hl; exact absurd h2 (Nat.not_lt_zero _)
    | succ n ih =>
      intro j ls h0 h1 h2 h3 hl
      refine lv_iload_n hx hb dP_isReady_38 rfl (lv_at hl 3 rfl) ?_
      refine lv_iconst (v := nI (3)) hx hb dP_isReady_39 (by decide) ?_
      refine r_ge (by omega) (by decide) (tgt := 79) hx hb dP_isReady_40 (by decide) (fun c_40 => ?_) (fun c_40 => ?_)
      · refine lv_iconst (v := bI (true)) hx hb dP_isReady_79 (by decide) ?_
        exact kx _ _ _ dP_isReady_80 (by unfold rdyL; rw [andF_t (decide_eq_true h0) (fun k hk => decide_eq_true (h3 k (by omega)))])
      · refine lv_iload_n hx hb dP_isReady_43 rfl (lv_at hl 3 rfl) ?_
        refine lv_iload_n hx hb dP_isReady_44 rfl (lv_at hl 2 rfl) ?_
        refine r_eq (by omega) (by omega) (tgt := 73) hx hb dP_isReady_45 (by decide) (fun c_45 => ?_) (fun c_45 => ?_)
        · refine lv_iinc (v := nI (j + 1)) (lv' := [(3, .int (nI (j + 1))), (0, .ref (b 0)), (1, .int (nI (o))), (2, .int (nI (x.iss o)))]) hx hb dP_isReady_73 hl (k := 3) rfl (nI_1 _) (by decide) rfl (fun ls hl => ?_)
          refine lv_goto (tgt := 38) hx hb dP_isReady_76 (by decide) ?_
          exact ih  (j + 1)  ls (by first | exact h0 | exact c_31) (by omega) (by omega) (by first | exact (fun k hk => absurd hk (Nat.not_lt_zero k)) | exact lt_s h3 (Or.inl c_45) | exact lt_s h3 (Or.inr c_68)) (lv_sub hl [1, 2, 3, 0] rfl)
        · refine lv_aload_n hx hb dP_isReady_48 rfl (lv_at hl 0 rfl) ?_
          refine va_get (D := D) (ci := 1) (v := .ref (b 1)) (C := RP) (T := TP) (N := 12) hx hb hts in_P hown hK hP 7 rfl rfl 2 (by decide) (hts _ wm_46) (fun _ h9 => h9) rfl dP_isReady_49 ?_
          refine lv_aload_n hx hb dP_isReady_52 rfl (lv_at hl 0 rfl) ?_
          refine va_get (D := D) (ci := 1) (v := .int (nI (y.self))) (C := RP) (T := TP) (N := 12) hx hb hts in_P hown hK hP 7 rfl rfl 0 (by decide) (hts _ wm_44) (fun _ h9 => h9) rfl dP_isReady_53 ?_
          refine r_aald (q0 := 8) (t0 := 3) (f := (fun j => b (2 + j))) hx hb hK hP rfl rfl (by omega) (by decide) dP_isReady_56 ?_
          refine lv_iload_n hx hb dP_isReady_57 rfl (lv_at hl 3 rfl) ?_
          refine r_iald (q0 := 9 + (y.self)) (t0 := 0) hx hb hK hP (at_seen (by omega)) rfl (by omega) (by decide) dP_isReady_58 ?_
          refine lv_aload_n hx hb dP_isReady_59 rfl (lv_at hl 0 rfl) ?_
          refine va_get (D := D) (ci := 1) (v := .ref (a 0)) (C := RP) (T := TP) (N := 12) hx hb hts in_P hown hK hP 7 rfl rfl 1 (by decide) (hts _ wm_45) (fun _ h9 => h9) rfl dP_isReady_60 ?_
          refine lv_iload_n hx hb dP_isReady_63 rfl (lv_at hl 1 rfl) ?_
          refine lv_iload_n hx hb dP_isReady_64 rfl (lv_at hl 3 rfl) ?_
          refine W.callR (W.runV (As := [.int (nI (o)), .int (nI (j))]) (rest := [.int (nI (y.seen (y.self) j))]) S (kL_clockOf D cc a x (o) (j) (by omega) (by omega) ok) (cwV 2 hts (gd_V wm_111 wm_112 wm_113 wm_2 wm_114) rfl rfl rfl (by decide +kernel) ⟨Nat.le_of_ble_eq_true rfl, Nat.le_of_ble_eq_true rfl⟩) (rd_preV (q0 := 0) (P_left hP) hE rfl rfl) rfl rfl hl.1 rfl (lv_room (Nat.le_of_ble_eq_true rfl)) dP_isReady_65 ⟨Nat.le_of_ble_eq_true rfl, Nat.le_of_ble_eq_true rfl⟩) ?_
          refine W.eq (g2 := F0 m 68 ls [.int (nI (x.clk ((o) * 3 + (j)))), .int (nI (y.seen (y.self) j))]) rfl ?_
          refine r_ge (kr.seen (y.self) (j)) (ok.clk _) (tgt := 73) hx hb dP_isReady_68 (by decide) (fun c_68 => ?_) (fun c_68 => ?_)
          · refine lv_iinc (v := nI (j + 1)) (lv' := [(3, .int (nI (j + 1))), (0, .ref (b 0)), (1, .int (nI (o))), (2, .int (nI (x.iss o)))]) hx hb dP_isReady_73 hl (k := 3) rfl (nI_1 _) (by decide) rfl (fun ls hl => ?_)
            refine lv_goto (tgt := 38) hx hb dP_isReady_76 (by decide) ?_
            exact ih  (j + 1)  ls (by first | exact h0 | exact c_31) (by omega) (by omega) (by first | exact (fun k hk => absurd hk (Nat.not_lt_zero k)) | exact lt_s h3 (Or.inl c_45) | exact lt_s h3 (Or.inr c_68)) (lv_sub hl [1, 2, 3, 0] rfl)
          · refine lv_iconst (v := bI (false)) hx hb dP_isReady_71 (by decide) ?_
            exact kx _ _ _ dP_isReady_72 (by unfold rdyL; rw [andF_f (i := j) (by omega) (decide_eq_false (by omega))])
  refine lv_aload_n hx hb dP_isReady_0 rfl (lv_at hl 0 rfl) ?_
  refine va_get (D := D) (ci := 1) (v := .ref (a 0)) (C := RP) (T := TP) (N := 12) hx hb hts in_P hown hK hP 7 rfl rfl 1 (by decide) (hts _ wm_45) (fun _ h9 => h9) rfl dP_isReady_1 ?_
  refine va_getN (D := D) (ci := 0) (v := .ref (a 1)) (C := RL) (T := TL) (N := 8) hx hb hts in_L hown hK hP 0 rfl rfl 0 (by decide) (hE.f nf_0) (fun _ h9 => h9) rfl dP_isReady_4 ?_
  refine lv_iload_n hx hb dP_isReady_7 rfl (lv_at hl 1 rfl) ?_
  refine r_iald (q0 := 1) (t0 := 0) hx hb hK hP rfl rfl (by omega) (by decide) dP_isReady_8 ?_
  refine lv_istore_n (lv' := [(2, .int (nI (x.iss o))), (0, .ref (b 0)), (1, .int (nI (o)))]) hx hb dP_isReady_9 rfl hl (by decide) rfl (fun ls hl => ?_)
  refine lv_aload_n hx hb dP_isReady_10 rfl (lv_at hl 1 rfl) ?_
  refine va_get (D := D) (ci := 1) (v := .ref (b 1)) (C := RP) (T := TP) (N := 12) hx hb hts in_P hown hK hP 7 rfl rfl 2 (by decide) (hts _ wm_46) (fun _ h9 => h9) rfl dP_isReady_11 ?_
  refine lv_aload_n hx hb dP_isReady_14 rfl (lv_at hl 1 rfl) ?_
  refine va_get (D := D) (ci := 1) (v := .int (nI (y.self))) (C := RP) (T := TP) (N := 12) hx hb hts in_P hown hK hP 7 rfl rfl 0 (by decide) (hts _ wm_44) (fun _ h9 => h9) rfl dP_isReady_15 ?_
  refine r_aald (q0 := 8) (t0 := 3) (f := (fun j => b (2 + j))) hx hb hK hP rfl rfl (by omega) (by decide) dP_isReady_18 ?_
  refine lv_iload_n hx hb dP_isReady_19 rfl (lv_at hl 0 rfl) ?_
  refine r_iald (q0 := 9 + (y.self)) (t0 := 0) hx hb hK hP (at_seen (by omega)) rfl (by omega) (by decide) dP_isReady_20 ?_
  refine lv_aload_n hx hb dP_isReady_21 rfl (lv_at hl 1 rfl) ?_
  refine va_get (D := D) (ci := 1) (v := .ref (a 0)) (C := RP) (T := TP) (N := 12) hx hb hts in_P hown hK hP 7 rfl rfl 1 (by decide) (hts _ wm_45) (fun _ h9 => h9) rfl dP_isReady_22 ?_
  refine lv_iload_n hx hb dP_isReady_25 rfl (lv_at hl 2 rfl) ?_
  refine W.callR (W.runV (As := [.int (nI (o))]) (rest := [.int (nI (y.seen (y.self) (x.iss o)))]) S (kL_placeInLine D cc a x (o) (by omega) ok) (cwV 1 hts (gd_V wm_115 wm_116 wm_117 wm_2 wm_118) rfl rfl rfl (by decide +kernel) ⟨Nat.le_of_ble_eq_true rfl, Nat.le_of_ble_eq_true rfl⟩) (rd_preV (q0 := 0) (P_left hP) hE rfl rfl) rfl rfl hl.1 rfl (lv_room (Nat.le_of_ble_eq_true rfl)) dP_isReady_26 ⟨Nat.le_of_ble_eq_true rfl, Nat.le_of_ble_eq_true rfl⟩) ?_
  refine W.eq (g2 := F0 m 29 ls [.int (nI (plc x (o))), .int (nI (y.seen (y.self) (x.iss o)))]) rfl ?_
  refine lv_iconst (v := nI (1)) hx hb dP_isReady_29 (by decide) ?_
  refine r_sub (hp1) hx hb dP_isReady_30 ?_
  refine r_eq (kr.seen (y.self) (x.iss o)) (by omega) (tgt := 36) hx hb dP_isReady_31 (by decide) (fun c_31 => ?_) (fun c_31 => ?_)
  · refine lv_iconst (v := nI (0)) hx hb dP_isReady_36 (by decide) ?_
    refine lv_istore_n (lv' := [(3, .int (nI (0))), (2, .int (nI (x.iss o))), (0, .ref (b 0)), (1, .int (nI (o)))]) hx hb dP_isReady_37 rfl hl (by decide) rfl (fun ls hl => ?_)
    exact L38 (4) (0)  ls (by first | exact h0 | exact c_31) (by omega) (by omega) (by first | exact (fun k hk => absurd hk (Nat.not_lt_zero k)) | exact lt_s h3 (Or.inl c_45) | exact lt_s h3 (Or.inr c_68)) (lv_sub hl [2, 3, 1, 0] rfl)
  · refine lv_iconst (v := bI (false)) hx hb dP_isReady_34 (by decide) ?_
    exact kx _ _ _ dP_isReady_35 (by unfold rdyL; rw [decide_eq_false c_31, andF_fb])

def rmP_holdsItsTarget : Room := { frames := 3, cells := 0, slots := 0, locals := 67 }
set_option maxHeartbeats 4000000 in
set_option maxRecDepth 100000 in
theorem kP_holdsItsTarget {l : Launch} (D : va_G) (cc : Nat → ClassId) (a b : Nat → Nat) (x : LgS) (y : RpS) (o : Nat) (ho : o < 100) (ok : okL x) (kr : okR y) : Met l yP_holdsItsTarget wsP_holdsItsTarget rmP_holdsItsTarget (va_Pc [.ref (b 0), .int (nI (o))] (fun U => va_P D vwCl (wLR cc a b x y) U.heap ∧ EN D cc U)) (QcRead (bI (hldL x y o))) 0 0 (fun _ => False) := by
  refine rd_met RP [.ref (b 0), .int (nI (o))] _ _ (by decide) rfl rfl (Nat.le_of_ble_eq_true rfl) (bI_z _) ?_
  intro p e s m args below meth c Q S hB kx ls hl
  obtain ⟨hx, hb, hml, hown, hts⟩ := id S
  obtain ⟨hP, hE⟩ := hB
  have hK := hE.1
  have hts := hE.ts args
  have S : CallFix p m c cP_holdsItsTarget 2 s args wAll RP := ⟨hx, hb, hml, hown, hts⟩
  have hn := ok.n
  have he := ok.e
  have hself := kr.self
  have htl := kr.tl
  have z31 : (0 : Nat) < 2 ^ 31 := by decide
  have hl : lv_has ls 2 [(0, .ref (b 0)), (1, .int (nI (o)))] := hl
  refine lv_aload_n hx hb dP_holdsItsTarget_0 rfl (lv_at hl 0 rfl) ?_
  refine va_get (D := D) (ci := 1) (v := .ref (a 0)) (C := RP) (T := TP) (N := 12) hx hb hts in_P hown hK hP 7 rfl rfl 1 (by decide) (hts _ wm_45) (fun _ h9 => h9) rfl dP_holdsItsTarget_1 ?_
  refine lv_iload_n hx hb dP_holdsItsTarget_4 rfl (lv_at hl 1 rfl) ?_
  refine W.callR (W.runV (As := [.int (nI (o))]) (rest := []) S (kL_isErase D cc a x (o) (by omega) ok) (cwV 1 hts (gd_V wm_123 wm_124 wm_125 wm_2 wm_126) rfl rfl rfl (by decide +kernel) ⟨Nat.le_of_ble_eq_true rfl, Nat.le_of_ble_eq_true rfl⟩) (rd_preV (q0 := 0) (P_left hP) hE rfl rfl) rfl rfl hl.1 rfl (lv_room (Nat.le_of_ble_eq_true rfl)) dP_holdsItsTarget_5 ⟨Nat.le_of_ble_eq_true rfl, Nat.le_of_ble_eq_true rfl⟩) ?_
  refine W.eq (g2 := F0 m 8 ls [.int (bI (decide (x.chr (o) = 0)))]) rfl ?_
  refine r_neB (tgt := 44) hx hb dP_holdsItsTarget_8 (by decide) (fun c_8 => ?_) (fun c_8 => ?_)
  · refine lv_iconst (v := bI (false)) hx hb dP_holdsItsTarget_44 (by decide) ?_
    exact kx _ _ _ dP_holdsItsTarget_45 (by unfold hldL; first | (simp [c_8]; done) | (simp [c_8, c_21]; done) | (simp [c_8, c_21, c_29]; done) | (simp [c_8, c_21, c_29, c_37]; done))
  · refine lv_aload_n hx hb dP_holdsItsTarget_11 rfl (lv_at hl 0 rfl) ?_
    refine va_get (D := D) (ci := 1) (v := .ref (a 0)) (C := RP) (T := TP) (N := 12) hx hb hts in_P hown hK hP 7 rfl rfl 1 (by decide) (hts _ wm_45) (fun _ h9 => h9) rfl dP_holdsItsTarget_12 ?_
    refine va_getN (D := D) (ci := 0) (v := .ref (a 3)) (C := RL) (T := TL) (N := 8) hx hb hts in_L hown hK hP 0 rfl rfl 2 (by decide) (hE.f nf_4) (fun _ h9 => h9) rfl dP_holdsItsTarget_15 ?_
    refine lv_iload_n hx hb dP_holdsItsTarget_18 rfl (lv_at hl 1 rfl) ?_
    refine r_iald (q0 := 3) (t0 := 0) hx hb hK hP rfl rfl (by omega) (by decide) dP_holdsItsTarget_19 ?_
    refine lv_iconst (v := sI (0)) hx hb dP_holdsItsTarget_20 (by decide) ?_
    refine r_eqS (ok.tgt (o)) (by omega) (tgt := 44) hx hb dP_holdsItsTarget_21 (by decide) (fun c_21 => ?_) (fun c_21 => ?_)
    · refine lv_iconst (v := bI (false)) hx hb dP_holdsItsTarget_44 (by decide) ?_
      exact kx _ _ _ dP_holdsItsTarget_45 (by unfold hldL; first | (simp [c_8]; done) | (simp [c_8, c_21]; done) | (simp [c_8, c_21, c_29]; done) | (simp [c_8, c_21, c_29, c_37]; done))
    · refine lv_aload_n hx hb dP_holdsItsTarget_24 rfl (lv_at hl 0 rfl) ?_
      refine lv_iload_n hx hb dP_holdsItsTarget_25 rfl (lv_at hl 1 rfl) ?_
      refine W.callR (W.runV (As := [.int (nI (o))]) (rest := []) S (kP_hasApplied D cc a b x y (o) (by omega) ok kr) (cwV 1 hts (gd_V wm_130 wm_131 wm_132 wm_3 wm_133) rfl rfl rfl (by decide +kernel) ⟨Nat.le_of_ble_eq_true rfl, Nat.le_of_ble_eq_true rfl⟩) (rd_preV (q0 := 7) hP hE rfl rfl) rfl rfl hl.1 rfl (lv_room (Nat.le_of_ble_eq_true rfl)) dP_holdsItsTarget_26 ⟨Nat.le_of_ble_eq_true rfl, Nat.le_of_ble_eq_true rfl⟩) ?_
      refine W.eq (g2 := F0 m 29 ls [.int (bI (hasL x y (o)))]) rfl ?_
      refine r_eqB (tgt := 44) hx hb dP_holdsItsTarget_29 (by decide) (fun c_29 => ?_) (fun c_29 => ?_)
      · refine lv_iconst (v := bI (false)) hx hb dP_holdsItsTarget_44 (by decide) ?_
        exact kx _ _ _ dP_holdsItsTarget_45 (by unfold hldL; first | (simp [c_8]; done) | (simp [c_8, c_21]; done) | (simp [c_8, c_21, c_29]; done) | (simp [c_8, c_21, c_29, c_37]; done))
      · refine lv_aload_n hx hb dP_holdsItsTarget_32 rfl (lv_at hl 0 rfl) ?_
        refine lv_iload_n hx hb dP_holdsItsTarget_33 rfl (lv_at hl 1 rfl) ?_
        refine W.callR (W.runV (As := [.int (nI (o))]) (rest := []) S (kP_isSettled D cc a b x y (o) (by omega) ok kr) (cwV 1 hts (gd_V wm_181 wm_182 wm_183 wm_3 wm_184) rfl rfl rfl (by decide +kernel) ⟨Nat.le_of_ble_eq_true rfl, Nat.le_of_ble_eq_true rfl⟩) (rd_preV (q0 := 7) hP hE rfl rfl) rfl rfl hl.1 rfl (lv_room (Nat.le_of_ble_eq_true rfl)) dP_holdsItsTarget_34 ⟨Nat.le_of_ble_eq_true rfl, Nat.le_of_ble_eq_true rfl⟩) ?_
        refine W.eq (g2 := F0 m 37 ls [.int (bI (setL x y (o)))]) rfl ?_
        refine r_neB (tgt := 44) hx hb dP_holdsItsTarget_37 (by decide) (fun c_37 => ?_) (fun c_37 => ?_)
        · refine lv_iconst (v := bI (false)) hx hb dP_holdsItsTarget_44 (by decide) ?_
          exact kx _ _ _ dP_holdsItsTarget_45 (by unfold hldL; first | (simp [c_8]; done) | (simp [c_8, c_21]; done) | (simp [c_8, c_21, c_29]; done) | (simp [c_8, c_21, c_29, c_37]; done))
        · refine lv_iconst (v := bI (true)) hx hb dP_holdsItsTarget_40 (by decide) ?_
          refine lv_goto (tgt := 45) hx hb dP_holdsItsTarget_41 (by decide) ?_
          exact kx _ _ _ dP_holdsItsTarget_45 (by unfold hldL; first | (simp [c_8]; done) | (simp [c_8, c_21]; done) | (simp [c_8, c_21, c_29]; done) | (simp [c_8, c_21, c_29, c_37]; done))
