def rmM_isReplica : Room := { frames := 0, cells := 0, slots := 0, locals := 0 }
set_option maxHeartbeats 4000000 in
set_option maxRecDepth 100000 in
theorem kM_isReplica {l : Launch} (z : Int32) : Met l yM_isReplica wsM_isReplica rmM_isReplica (va_Pc [.int (z)] (fun _ => True)) (QcRead (bI (isRep z))) 0 0 (fun _ => False) := by
  refine rd_met RM [.int (z)] _ _ (by decide) rfl rfl (Nat.le_of_ble_eq_true rfl) (bI_z _) ?_
  intro p e s m args below meth c Q S hB kx ls hl
  obtain ⟨hx, hb, hml, hown, hts⟩ := id S
  have hl : lv_has ls 1 [(0, .int (z))] := hl
  refine lv_iload_n hx hb dM_isReplica_0 rfl (lv_at hl 0 rfl) ?_
  refine lv_if_lt (tgt := 13) hx hb dM_isReplica_1 (by decide) (fun c_1 => ?_) (fun c_1 => ?_)
  · refine lv_iconst (v := bI (false)) hx hb dM_isReplica_13 (by decide) ?_
    exact kx _ _ _ dM_isReplica_14 (by unfold isRep; first | (rw [decide_eq_true (show ¬ z < 0 ∧ ¬ nI 3 ≤ z from ⟨c_1, c_6⟩)]; done) | (rw [decide_eq_false (show ¬ (¬ z < 0 ∧ ¬ nI 3 ≤ z) from fun h => h.1 c_1)]; done) | (rw [decide_eq_false (show ¬ (¬ z < 0 ∧ ¬ nI 3 ≤ z) from fun h => h.2 c_6)]; done))
  · refine lv_iload_n hx hb dM_isReplica_4 rfl (lv_at hl 0 rfl) ?_
    refine lv_iconst (v := nI (3)) hx hb dM_isReplica_5 (by decide) ?_
    refine lv_icmp_ge (tgt := 13) hx hb dM_isReplica_6 (by decide) (fun c_6 => ?_) (fun c_6 => ?_)
    · refine lv_iconst (v := bI (false)) hx hb dM_isReplica_13 (by decide) ?_
      exact kx _ _ _ dM_isReplica_14 (by unfold isRep; first | (rw [decide_eq_true (show ¬ z < 0 ∧ ¬ nI 3 ≤ z from ⟨c_1, c_6⟩)]; done) | (rw [decide_eq_false (show ¬ (¬ z < 0 ∧ ¬ nI 3 ≤ z) from fun h => h.1 c_1)]; done) | (rw [decide_eq_false (show ¬ (¬ z < 0 ∧ ¬ nI 3 ≤ z) from fun h => h.2 c_6)]; done))
    · refine lv_iconst (v := bI (true)) hx hb dM_isReplica_9 (by decide) ?_
      refine lv_goto (tgt := 14) hx hb dM_isReplica_10 (by decide) ?_
      exact kx _ _ _ dM_isReplica_14 (by unfold isRep; first | (rw [decide_eq_true (show ¬ z < 0 ∧ ¬ nI 3 ≤ z from ⟨c_1, c_6⟩)]; done) | (rw [decide_eq_false (show ¬ (¬ z < 0 ∧ ¬ nI 3 ≤ z) from fun h => h.1 c_1)]; done) | (rw [decide_eq_false (show ¬ (¬ z < 0 ∧ ¬ nI 3 ≤ z) from fun h => h.2 c_6)]; done))

def rmM_isOperation : Room := { frames := 0, cells := 0, slots := 0, locals := 0 }
set_option maxHeartbeats 4000000 in
set_option maxRecDepth 100000 in
theorem kM_isOperation {l : Launch} (D : va_G) (cc : Nat → ClassId) (q : Nat → Nat) (x : MS) (z : Int32) (ok : okM x) : Met l yM_isOperation wsM_isOperation rmM_isOperation (va_Pc [.ref (q 0), .int (z)] (fun U => va_P D vwCl (wM cc q x) U.heap ∧ EN D cc U)) (QcRead (bI (isOp x.nn z))) 0 0 (fun _ => False) := by
  refine rd_met RM [.ref (q 0), .int (z)] _ _ (by decide) rfl rfl (Nat.le_of_ble_eq_true rfl) (bI_z _) ?_
  intro p e s m args below meth c Q S hB kx ls hl
  obtain ⟨hx, hb, hml, hown, hts⟩ := id S
  obtain ⟨hP, hE⟩ := hB
  have hK := hE.1
  have hts := hE.ts args
  have S : CallFix p m c cM_isOperation 2 s args wAll RM := ⟨hx, hb, hml, hown, hts⟩
  have hn := ok.n
  have hl : lv_has ls 2 [(0, .ref (q 0)), (1, .int (z))] := hl
  refine lv_iload_n hx hb dM_isOperation_0 rfl (lv_at hl 1 rfl) ?_
  refine lv_if_lt (tgt := 16) hx hb dM_isOperation_1 (by decide) (fun c_1 => ?_) (fun c_1 => ?_)
  · refine lv_iconst (v := bI (false)) hx hb dM_isOperation_16 (by decide) ?_
    exact kx _ _ _ dM_isOperation_17 (by unfold isOp; first | (rw [decide_eq_true (show ¬ z < 0 ∧ ¬ nI x.nn ≤ z from ⟨c_1, c_9⟩)]; done) | (rw [decide_eq_false (show ¬ (¬ z < 0 ∧ ¬ nI x.nn ≤ z) from fun h => h.1 c_1)]; done) | (rw [decide_eq_false (show ¬ (¬ z < 0 ∧ ¬ nI x.nn ≤ z) from fun h => h.2 c_9)]; done))
  · refine lv_iload_n hx hb dM_isOperation_4 rfl (lv_at hl 1 rfl) ?_
    refine lv_aload_n hx hb dM_isOperation_5 rfl (lv_at hl 0 rfl) ?_
    refine va_get (D := D) (ci := 3) (v := .int (nI (x.nn))) (C := RM) (T := TM) (N := 13) hx hb hts in_M hown hK hP 0 rfl rfl 0 (by decide) (hts _ wm_243) (fun _ h9 => h9) rfl dM_isOperation_6 ?_
    refine lv_icmp_ge (tgt := 16) hx hb dM_isOperation_9 (by decide) (fun c_9 => ?_) (fun c_9 => ?_)
    · refine lv_iconst (v := bI (false)) hx hb dM_isOperation_16 (by decide) ?_
      exact kx _ _ _ dM_isOperation_17 (by unfold isOp; first | (rw [decide_eq_true (show ¬ z < 0 ∧ ¬ nI x.nn ≤ z from ⟨c_1, c_9⟩)]; done) | (rw [decide_eq_false (show ¬ (¬ z < 0 ∧ ¬ nI x.nn ≤ z) from fun h => h.1 c_1)]; done) | (rw [decide_eq_false (show ¬ (¬ z < 0 ∧ ¬ nI x.nn ≤ z) from fun h => h.2 c_9)]; done))
    · refine lv_iconst (v := bI (true)) hx hb dM_isOperation_12 (by decide) ?_
      refine lv_goto (tgt := 17) hx hb dM_isOperation_13 (by decide) ?_
      exact kx _ _ _ dM_isOperation_17 (by unfold isOp; first | (rw [decide_eq_true (show ¬ z < 0 ∧ ¬ nI x.nn ≤ z from ⟨c_1, c_9⟩)]; done) | (rw [decide_eq_false (show ¬ (¬ z < 0 ∧ ¬ nI x.nn ≤ z) from fun h => h.1 c_1)]; done) | (rw [decide_eq_false (show ¬ (¬ z < 0 ∧ ¬ nI x.nn ≤ z) from fun h => h.2 c_9)]; done))

def rmM_has : Room := { frames := 0, cells := 0, slots := 0, locals := 0 }
set_option maxHeartbeats 4000000 in
set_option maxRecDepth 100000 in
theorem kM_has {l : Launch} (D : va_G) (cc : Nat → ClassId) (q : Nat → Nat) (x : MS) (r o : Nat) (hr : r < 3) (ho : o < 100) : Met l yM_has wsM_has rmM_has (va_Pc [.ref (q 0), .int (nI (r)), .int (nI (o))] (fun U => va_P D vwCl (wM cc q x) U.heap ∧ EN D cc U)) (QcRead (bI (x.app (100 * r + o)))) 0 0 (fun _ => False) := by
  refine rd_met RM [.ref (q 0), .int (nI (r)), .int (nI (o))] _ _ (by decide) rfl rfl (Nat.le_of_ble_eq_true rfl) (bI_z _) ?_
  intro p e s m args below meth c Q S hB kx ls hl
  obtain ⟨hx, hb, hml, hown, hts⟩ := id S
  obtain ⟨hP, hE⟩ := hB
  have hK := hE.1
  have hts := hE.ts args
  have S : CallFix p m c cM_has 3 s args wAll RM := ⟨hx, hb, hml, hown, hts⟩
  have hl : lv_has ls 3 [(0, .ref (q 0)), (1, .int (nI (r))), (2, .int (nI (o)))] := hl
  refine lv_aload_n hx hb dM_has_0 rfl (lv_at hl 0 rfl) ?_
  refine va_get (D := D) (ci := 3) (v := .ref (q 7)) (C := RM) (T := TM) (N := 13) hx hb hts in_M hown hK hP 0 rfl rfl 7 (by decide) (hts _ wm_250) (fun _ h9 => h9) rfl dM_has_1 ?_
  refine lv_bipush (v := nI (100)) hx hb dM_has_4 (by decide) ?_
  refine lv_iload_n hx hb dM_has_6 rfl (lv_at hl 1 rfl) ?_
  refine r_mul hx hb dM_has_7 ?_
  refine lv_iload_n hx hb dM_has_8 rfl (lv_at hl 2 rfl) ?_
  refine r_add hx hb dM_has_9 ?_
  refine r_zald (q0 := 7) (t0 := 1) hx hb hK hP rfl rfl (by omega) (by decide) dM_has_10 ?_
  exact kx _ _ _ dM_has_11 (rfl)

def rmM_count : Room := { frames := 1, cells := 0, slots := 0, locals := 22 }
set_option maxHeartbeats 4000000 in
set_option maxRecDepth 100000 in
theorem kM_count {l : Launch} (D : va_G) (cc : Nat → ClassId) (q : Nat → Nat) (x : MS) (r j : Nat) (hr : r < 3) (hj : j < 3) (ok : okM x) : Met l yM_count wsM_count rmM_count (va_Pc [.ref (q 0), .int (nI (r)), .int (nI (j))] (fun U => va_P D vwCl (wM cc q x) U.heap ∧ EN D cc U)) (QcRead (nI (cntM x r j x.nn))) 0 0 (fun _ => False) := by
  refine rd_met RM [.ref (q 0), .int (nI (r)), .int (nI (j))] _ _ (by decide) rfl rfl (Nat.le_of_ble_eq_true rfl) (vp_nar_int _) ?_
  intro p e s m args below meth c Q S hB kx ls hl
  obtain ⟨hx, hb, hml, hown, hts⟩ := id S
  obtain ⟨hP, hE⟩ := hB
  have hK := hE.1
  have hts := hE.ts args
  have S : CallFix p m c cM_count 5 s args wAll RM := ⟨hx, hb, hml, hown, hts⟩
  have hn := ok.n
  have hl : lv_has ls 5 [(0, .ref (q 0)), (1, .int (nI (r))), (2, .int (nI (j)))] := hl
  have L5 : ∀ (n : Nat) (o : Nat) (a : Nat)  (ls : Array Slot) (h1 : o ≤ x.nn) (h2 : x.nn - o < n) (h3 : a = cntM x r j o), lv_has ls 5 [(0, .ref (q 0)), (1, .int (nI (r))), (2, .int (nI (j))), (3, .int (nI (a))), (4, .int (nI (o)))] → W p l e rmM_count s m args below meth c s.heap [] 0 0 Q (F0 m 5 ls []) := by
    intro n
    induction n with
    | zero => intro o a ls h1 h2 h3 hl; exact absurd h2 (Nat.not_lt_zero _)
    | succ n ih =>
      intro o a ls h1 h2 h3 hl
      refine lv_iload hx hb dM_count_5 (lv_at hl 4 rfl) ?_
      refine lv_aload_n hx hb dM_count_7 rfl (lv_at hl 0 rfl) ?_
      refine va_get (D := D) (ci := 3) (v := .int (nI (x.nn))) (C := RM) (T := TM) (N := 13) hx hb hts in_M hown hK hP 0 rfl rfl 0 (by decide) (hts _ wm_243) (fun _ h9 => h9) rfl dM_count_8 ?_
      refine r_ge (by omega) (Nat.lt_of_le_of_lt ok.n (by decide)) (tgt := 49) hx hb dM_count_11 (by decide) (fun c_11 => ?_) (fun c_11 => ?_)
      · refine lv_iload_n hx hb dM_count_49 rfl (lv_at hl 3 rfl) ?_
        exact kx _ _ _ dM_count_50 (by rw [h3, show o = x.nn by omega])
      · refine lv_aload_n hx hb dM_count_14 rfl (lv_at hl 0 rfl) ?_
        refine va_get (D := D) (ci := 3) (v := .ref (q 1)) (C := RM) (T := TM) (N := 13) hx hb hts in_M hown hK hP 0 rfl rfl 1 (by decide) (hts _ wm_244) (fun _ h9 => h9) rfl dM_count_15 ?_
        refine lv_iload hx hb dM_count_18 (lv_at hl 4 rfl) ?_
        refine r_iald (q0 := 1) (t0 := 0) hx hb hK hP rfl rfl (by omega) (by decide) dM_count_20 ?_
        refine lv_iload_n hx hb dM_count_21 rfl (lv_at hl 2 rfl) ?_
        refine r_ne (ok.by_ (o)) (by omega) (tgt := 41) hx hb dM_count_22 (by decide) (fun c_22 => ?_) (fun c_22 => ?_)
        · refine lv_iload_n hx hb dM_count_41 rfl (lv_at hl 3 rfl) ?_
          refine lv_istore_n (lv' := [(3, .int (nI (a))), (0, .ref (q 0)), (1, .int (nI (r))), (2, .int (nI (j))), (4, .int (nI (o)))]) hx hb dM_count_42 rfl hl (by decide) rfl (fun ls hl => ?_)
          refine lv_iinc (v := nI (o + 1)) (lv' := [(4, .int (nI (o + 1))), (3, .int (nI (a))), (0, .ref (q 0)), (1, .int (nI (r))), (2, .int (nI (j)))]) hx hb dM_count_43 hl (k := 4) rfl (nI_1 _) (by decide) rfl (fun ls hl => ?_)
          refine lv_goto (tgt := 5) hx hb dM_count_46 (by decide) ?_
          exact ih  (o + 1) (a)  ls (by omega) (by omega) (by first | rfl | (rw [cntM_t c_22 c_32, h3]; done) | (rw [cntM_f1 c_22, h3]; done) | (rw [cntM_f2 c_32, h3]; done)) (lv_sub hl [2, 3, 4, 1, 0] rfl)
        · refine lv_aload_n hx hb dM_count_25 rfl (lv_at hl 0 rfl) ?_
          refine lv_iload_n hx hb dM_count_26 rfl (lv_at hl 1 rfl) ?_
          refine lv_iload hx hb dM_count_27 (lv_at hl 4 rfl) ?_
          refine W.callR (W.runV (As := [.int (nI (r)), .int (nI (o))]) (rest := []) S (kM_has D cc q x (r) (o) (by omega) (by omega)) (cwV 2 hts (gd_V wm_285 wm_286 wm_382 wm_4 wm_287) rfl rfl rfl (by decide +kernel) ⟨Nat.le_of_ble_eq_true rfl, Nat.le_of_ble_eq_true rfl⟩) (rd_preV (q0 := 0) hP hE rfl rfl) rfl rfl hl.1 rfl (lv_room (Nat.le_of_ble_eq_true rfl)) dM_count_29 ⟨Nat.le_of_ble_eq_true rfl, Nat.le_of_ble_eq_true rfl⟩) ?_
          refine W.eq (g2 := F0 m 32 ls [.int (bI (x.app (100 * (r) + (o))))]) rfl ?_
          refine r_eqB (tgt := 41) hx hb dM_count_32 (by decide) (fun c_32 => ?_) (fun c_32 => ?_)
          · refine lv_iload_n hx hb dM_count_41 rfl (lv_at hl 3 rfl) ?_
            refine lv_istore_n (lv' := [(3, .int (nI (a))), (0, .ref (q 0)), (1, .int (nI (r))), (2, .int (nI (j))), (4, .int (nI (o)))]) hx hb dM_count_42 rfl hl (by decide) rfl (fun ls hl => ?_)
            refine lv_iinc (v := nI (o + 1)) (lv' := [(4, .int (nI (o + 1))), (3, .int (nI (a))), (0, .ref (q 0)), (1, .int (nI (r))), (2, .int (nI (j)))]) hx hb dM_count_43 hl (k := 4) rfl (nI_1 _) (by decide) rfl (fun ls hl => ?_)
            refine lv_goto (tgt := 5) hx hb dM_count_46 (by decide) ?_
            exact ih  (o + 1) (a)  ls (by omega) (by omega) (by first | rfl | (rw [cntM_t c_22 c_32, h3]; done) | (rw [cntM_f1 c_22, h3]; done) | (rw [cntM_f2 c_32, h3]; done)) (lv_sub hl [2, 3, 4, 1, 0] rfl)
          · refine lv_iload_n hx hb dM_count_35 rfl (lv_at hl 3 rfl) ?_
            refine lv_iconst (v := nI (1)) hx hb dM_count_36 (by decide) ?_
            refine r_add hx hb dM_count_37 ?_
            refine lv_goto (tgt := 42) hx hb dM_count_38 (by decide) ?_
            refine lv_istore_n (lv' := [(3, .int (nI (a + 1))), (0, .ref (q 0)), (1, .int (nI (r))), (2, .int (nI (j))), (4, .int (nI (o)))]) hx hb dM_count_42 rfl hl (by decide) rfl (fun ls hl => ?_)
            refine lv_iinc (v := nI (o + 1)) (lv' := [(4, .int (nI (o + 1))), (3, .int (nI (a + 1))), (0, .ref (q 0)), (1, .int (nI (r))), (2, .int (nI (j)))]) hx hb dM_count_43 hl (k := 4) rfl (nI_1 _) (by decide) rfl (fun ls hl => ?_)
            refine lv_goto (tgt := 5) hx hb dM_count_46 (by decide) ?_
            exact ih  (o + 1) (a + 1)  ls (by omega) (by omega) (by first | rfl | (rw [cntM_t c_22 c_32, h3]; done) | (rw [cntM_f1 c_22, h3]; done) | (rw [cntM_f2 c_32, h3]; done)) (lv_sub hl [2, 3, 4, 1, 0] rfl)
  refine lv_iconst (v := nI (0)) hx hb dM_count_0 (by decide) ?_
  refine lv_istore_n (lv' := [(3, .int (nI (0))), (0, .ref (q 0)), (1, .int (nI (r))), (2, .int (nI (j)))]) hx hb dM_count_1 rfl hl (by decide) rfl (fun ls hl => ?_)
  refine lv_iconst (v := nI (0)) hx hb dM_count_2 (by decide) ?_
  refine lv_istore (lv' := [(4, .int (nI (0))), (3, .int (nI (0))), (0, .ref (q 0)), (1, .int (nI (r))), (2, .int (nI (j)))]) hx hb dM_count_3 hl (by decide) rfl (fun ls hl => ?_)
  exact L5 (x.nn + 1) (0) (0)  ls (by omega) (by omega) (by first | rfl | (rw [cntM_t c_22 c_32, h3]; done) | (rw [cntM_f1 c_22, h3]; done) | (rw [cntM_f2 c_32, h3]; done)) (lv_sub hl [2, 3, 4, 1, 0] rfl)

def rmM_sooner : Room := { frames := 0, cells := 0, slots := 0, locals := 0 }
set_option maxHeartbeats 4000000 in
set_option maxRecDepth 100000 in
theorem kM_sooner {l : Launch} (D : va_G) (cc : Nat → ClassId) (q : Nat → Nat) (x : MS) (a b : Nat) (ha : a < 100) (hb0 : b < 100) (ok : okM x) : Met l yM_sooner wsM_sooner rmM_sooner (va_Pc [.ref (q 0), .int (nI (a)), .int (nI (b))] (fun U => va_P D vwCl (wM cc q x) U.heap ∧ EN D cc U)) (QcRead (bI (snM x a b))) 0 0 (fun _ => False) := by
  refine rd_met RM [.ref (q 0), .int (nI (a)), .int (nI (b))] _ _ (by decide) rfl rfl (Nat.le_of_ble_eq_true rfl) (bI_z _) ?_
  intro p e s m args below meth c Q S hB kx ls hl
  obtain ⟨hx, hb, hml, hown, hts⟩ := id S
  obtain ⟨hP, hE⟩ := hB
  have hK := hE.1
  have hts := hE.ts args
  have S : CallFix p m c cM_sooner 3 s args wAll RM := ⟨hx, hb, hml, hown, hts⟩
  have hn := ok.n
  have hl : lv_has ls 3 [(0, .ref (q 0)), (1, .int (nI (a))), (2, .int (nI (b)))] := hl
  refine lv_aload_n hx hb dM_sooner_0 rfl (lv_at hl 0 rfl) ?_
  refine va_get (D := D) (ci := 3) (v := .ref (q 3)) (C := RM) (T := TM) (N := 13) hx hb hts in_M hown hK hP 0 rfl rfl 3 (by decide) (hts _ wm_246) (fun _ h9 => h9) rfl dM_sooner_1 ?_
  refine lv_iload_n hx hb dM_sooner_4 rfl (lv_at hl 1 rfl) ?_
  refine r_iald (q0 := 3) (t0 := 0) hx hb hK hP rfl rfl (by omega) (by decide) dM_sooner_5 ?_
  refine lv_aload_n hx hb dM_sooner_6 rfl (lv_at hl 0 rfl) ?_
  refine va_get (D := D) (ci := 3) (v := .ref (q 3)) (C := RM) (T := TM) (N := 13) hx hb hts in_M hown hK hP 0 rfl rfl 3 (by decide) (hts _ wm_246) (fun _ h9 => h9) rfl dM_sooner_7 ?_
  refine lv_iload_n hx hb dM_sooner_10 rfl (lv_at hl 2 rfl) ?_
  refine r_iald (q0 := 3) (t0 := 0) hx hb hK hP rfl rfl (by omega) (by decide) dM_sooner_11 ?_
  refine r_gt (ok.stp (a)) (ok.stp (b)) (tgt := 45) hx hb dM_sooner_12 (by decide) (fun c_12 => ?_) (fun c_12 => ?_)
  · refine lv_iconst (v := bI (true)) hx hb dM_sooner_45 (by decide) ?_
    refine lv_goto (tgt := 50) hx hb dM_sooner_46 (by decide) ?_
    exact kx _ _ _ dM_sooner_50 (by unfold snM; exact congrArg bI (Eq.symm (by first | exact decide_eq_true (by omega) | exact decide_eq_false (by omega))))
  · refine lv_aload_n hx hb dM_sooner_15 rfl (lv_at hl 0 rfl) ?_
    refine va_get (D := D) (ci := 3) (v := .ref (q 3)) (C := RM) (T := TM) (N := 13) hx hb hts in_M hown hK hP 0 rfl rfl 3 (by decide) (hts _ wm_246) (fun _ h9 => h9) rfl dM_sooner_16 ?_
    refine lv_iload_n hx hb dM_sooner_19 rfl (lv_at hl 1 rfl) ?_
    refine r_iald (q0 := 3) (t0 := 0) hx hb hK hP rfl rfl (by omega) (by decide) dM_sooner_20 ?_
    refine lv_aload_n hx hb dM_sooner_21 rfl (lv_at hl 0 rfl) ?_
    refine va_get (D := D) (ci := 3) (v := .ref (q 3)) (C := RM) (T := TM) (N := 13) hx hb hts in_M hown hK hP 0 rfl rfl 3 (by decide) (hts _ wm_246) (fun _ h9 => h9) rfl dM_sooner_22 ?_
    refine lv_iload_n hx hb dM_sooner_25 rfl (lv_at hl 2 rfl) ?_
    refine r_iald (q0 := 3) (t0 := 0) hx hb hK hP rfl rfl (by omega) (by decide) dM_sooner_26 ?_
    refine r_ne (ok.stp (a)) (ok.stp (b)) (tgt := 49) hx hb dM_sooner_27 (by decide) (fun c_27 => ?_) (fun c_27 => ?_)
    · refine lv_iconst (v := bI (false)) hx hb dM_sooner_49 (by decide) ?_
      exact kx _ _ _ dM_sooner_50 (by unfold snM; exact congrArg bI (Eq.symm (by first | exact decide_eq_true (by omega) | exact decide_eq_false (by omega))))
    · refine lv_aload_n hx hb dM_sooner_30 rfl (lv_at hl 0 rfl) ?_
      refine va_get (D := D) (ci := 3) (v := .ref (q 1)) (C := RM) (T := TM) (N := 13) hx hb hts in_M hown hK hP 0 rfl rfl 1 (by decide) (hts _ wm_244) (fun _ h9 => h9) rfl dM_sooner_31 ?_
      refine lv_iload_n hx hb dM_sooner_34 rfl (lv_at hl 1 rfl) ?_
      refine r_iald (q0 := 1) (t0 := 0) hx hb hK hP rfl rfl (by omega) (by decide) dM_sooner_35 ?_
      refine lv_aload_n hx hb dM_sooner_36 rfl (lv_at hl 0 rfl) ?_
      refine va_get (D := D) (ci := 3) (v := .ref (q 1)) (C := RM) (T := TM) (N := 13) hx hb hts in_M hown hK hP 0 rfl rfl 1 (by decide) (hts _ wm_244) (fun _ h9 => h9) rfl dM_sooner_37 ?_
      refine lv_iload_n hx hb dM_sooner_40 rfl (lv_at hl 2 rfl) ?_
      refine r_iald (q0 := 1) (t0 := 0) hx hb hK hP rfl rfl (by omega) (by decide) dM_sooner_41 ?_
      refine r_le (ok.by_ (a)) (ok.by_ (b)) (tgt := 49) hx hb dM_sooner_42 (by decide) (fun c_42 => ?_) (fun c_42 => ?_)
      · refine lv_iconst (v := bI (false)) hx hb dM_sooner_49 (by decide) ?_
        exact kx _ _ _ dM_sooner_50 (by unfold snM; exact congrArg bI (Eq.symm (by first | exact decide_eq_true (by omega) | exact decide_eq_false (by omega))))
      · refine lv_iconst (v := bI (true)) hx hb dM_sooner_45 (by decide) ?_
        refine lv_goto (tgt := 50) hx hb dM_sooner_46 (by decide) ?_
        exact kx _ _ _ dM_sooner_50 (by unfold snM; exact congrArg bI (Eq.symm (by first | exact decide_eq_true (by omega) | exact decide_eq_false (by omega))))

def rmM_first : Room := { frames := 1, cells := 0, slots := 0, locals := 22 }
set_option maxHeartbeats 4000000 in
set_option maxRecDepth 100000 in
theorem kM_first {l : Launch} (D : va_G) (cc : Nat → ClassId) (q : Nat → Nat) (x : MS) (r a b : Nat) (hr : r < 3) (ha : a ≤ 100) (hb0 : b ≤ 100) (ok : okM x) : Met l yM_first wsM_first rmM_first (va_Pc [.ref (q 0), .int (nI (r)), .int (sI (a)), .int (sI (b))] (fun U => va_P D vwCl (wM cc q x) U.heap ∧ EN D cc U)) (QcRead (sI (fstM x r a b x.nn))) 0 0 (fun _ => False) := by
  refine rd_met RM [.ref (q 0), .int (nI (r)), .int (sI (a)), .int (sI (b))] _ _ (by decide) rfl rfl (Nat.le_of_ble_eq_true rfl) (vp_nar_int _) ?_
  intro p e s m args below meth c Q S hB kx ls hl
  obtain ⟨hx, hb, hml, hown, hts⟩ := id S
  obtain ⟨hP, hE⟩ := hB
  have hK := hE.1
  have hts := hE.ts args
  have S : CallFix p m c cM_first 7 s args wAll RM := ⟨hx, hb, hml, hown, hts⟩
  have hn := ok.n
  have hl : lv_has ls 7 [(0, .ref (q 0)), (1, .int (nI (r))), (2, .int (sI (a))), (3, .int (sI (b)))] := hl
  have L6 : ∀ (n : Nat) (o : Nat) (v : Nat)  (ls : Array Slot) (h1 : o ≤ x.nn) (h2 : x.nn - o < n) (h3 : v = fstM x r a b o), lv_has ls 7 [(0, .ref (q 0)), (1, .int (nI (r))), (2, .int (sI (a))), (3, .int (sI (b))), (4, .int (sI (v))), (5, .int (nI (o)))] → W p l e rmM_first s m args below meth c s.heap [] 0 0 Q (F0 m 6 ls []) := by
    intro n
    induction n with
    | zero => intro o v ls h1 h2 h3 hl; exact absurd h2 (Nat.not_lt_zero _)
    | succ n ih =>
      intro o v ls h1 h2 h3 hl
      have hv : v ≤ o := h3 ▸ fstM_le x r a b o
      have J65 : ∀ (f : Bool)  (ls : Array Slot) (ho : o < x.nn) (hf : f = fitM x r a b o), lv_has ls 7 [(0, .ref (q 0)), (1, .int (nI (r))), (2, .int (sI (a))), (3, .int (sI (b))), (4, .int (sI (v))), (5, .int (nI (o)))] → W p l e rmM_first s m args below meth c s.heap [] 0 0 Q (F0 m 65 ls [.int (bI (f))]) := by
        intro f ls ho hf hl
        refine lv_istore (lv' := [(6, .int (bI (f))), (0, .ref (q 0)), (1, .int (nI (r))), (2, .int (sI (a))), (3, .int (sI (b))), (4, .int (sI (v))), (5, .int (nI (o)))]) hx hb dM_first_65 hl (by decide) rfl (fun ls hl => ?_)
        refine lv_iload hx hb dM_first_67 (lv_at hl 0 rfl) ?_
        refine r_eqB (tgt := 93) hx hb dM_first_69 (by decide) (fun c_69 => ?_) (fun c_69 => ?_)
        · refine lv_iload hx hb dM_first_93 (lv_at hl 5 rfl) ?_
          refine lv_istore (lv' := [(4, .int (sI (v))), (6, .int (bI (f))), (0, .ref (q 0)), (1, .int (nI (r))), (2, .int (sI (a))), (3, .int (sI (b))), (5, .int (nI (o)))]) hx hb dM_first_95 hl (by decide) rfl (fun ls hl => ?_)
          refine lv_iinc (v := nI (o + 1)) (lv' := [(5, .int (nI (o + 1))), (4, .int (sI (v))), (6, .int (bI (f))), (0, .ref (q 0)), (1, .int (nI (r))), (2, .int (sI (a))), (3, .int (sI (b)))]) hx hb dM_first_97 hl (k := 6) rfl (nI_1 _) (by decide) rfl (fun ls hl => ?_)
          refine lv_goto (tgt := 6) hx hb dM_first_100 (by decide) ?_
          exact ih  (o + 1) (v)  ls (by omega) (by omega) (by first | rfl | (rw [fstM_t (x := x) (r := r) (a := a) (b := b) (n := o) (by rw [← hf]; exact c_69) (Or.inl (by rw [← h3]; exact c_74))]; done) | (rw [fstM_t (x := x) (r := r) (a := a) (b := b) (n := o) (by rw [← hf]; exact c_69) (Or.inr (by rw [← h3]; exact c_85))]; done) | (rw [fstM_f1 (x := x) (r := r) (a := a) (b := b) (n := o) (by rw [← hf]; exact c_69)]; exact h3) | (rw [fstM_f2 (x := x) (r := r) (a := a) (b := b) (n := o) (by rw [← h3]; exact c_74) (by rw [← h3]; exact c_85)]; exact h3)) (lv_sub hl [3, 4, 5, 6, 1, 0] rfl)
        · refine lv_iload hx hb dM_first_72 (lv_at hl 5 rfl) ?_
          refine r_ltS (by omega) (tgt := 88) hx hb dM_first_74 (by decide) (fun c_74 => ?_) (fun c_74 => ?_)
          · refine lv_iload hx hb dM_first_88 (lv_at hl 6 rfl) ?_
            refine lv_goto (tgt := 95) hx hb dM_first_90 (by decide) ?_
            refine r_top (y := sI (o + 1)) ((sI_s _).symm) ?_
            refine lv_istore (lv' := [(4, .int (sI (o + 1))), (6, .int (bI (f))), (0, .ref (q 0)), (1, .int (nI (r))), (2, .int (sI (a))), (3, .int (sI (b))), (5, .int (nI (o)))]) hx hb dM_first_95 hl (by decide) rfl (fun ls hl => ?_)
            refine lv_iinc (v := nI (o + 1)) (lv' := [(5, .int (nI (o + 1))), (4, .int (sI (o + 1))), (6, .int (bI (f))), (0, .ref (q 0)), (1, .int (nI (r))), (2, .int (sI (a))), (3, .int (sI (b)))]) hx hb dM_first_97 hl (k := 6) rfl (nI_1 _) (by decide) rfl (fun ls hl => ?_)
            refine lv_goto (tgt := 6) hx hb dM_first_100 (by decide) ?_
            exact ih  (o + 1) (o + 1)  ls (by omega) (by omega) (by first | rfl | (rw [fstM_t (x := x) (r := r) (a := a) (b := b) (n := o) (by rw [← hf]; exact c_69) (Or.inl (by rw [← h3]; exact c_74))]; done) | (rw [fstM_t (x := x) (r := r) (a := a) (b := b) (n := o) (by rw [← hf]; exact c_69) (Or.inr (by rw [← h3]; exact c_85))]; done) | (rw [fstM_f1 (x := x) (r := r) (a := a) (b := b) (n := o) (by rw [← hf]; exact c_69)]; exact h3) | (rw [fstM_f2 (x := x) (r := r) (a := a) (b := b) (n := o) (by rw [← h3]; exact c_74) (by rw [← h3]; exact c_85)]; exact h3)) (lv_sub hl [3, 4, 5, 6, 1, 0] rfl)
          · refine lv_aload_n hx hb dM_first_77 rfl (lv_at hl 1 rfl) ?_
            refine lv_iload hx hb dM_first_78 (lv_at hl 6 rfl) ?_
            refine lv_iload hx hb dM_first_80 (lv_at hl 5 rfl) ?_
            refine r_top (y := nI (v - 1)) (sI_p c_74) ?_
            refine W.callR (W.runV (As := [.int (nI (o)), .int (nI (v - 1))]) (rest := []) S (kM_sooner D cc q x (o) (v - 1) (by omega) (by omega) ok) (cwV 2 hts (gd_V wm_288 wm_289 wm_383 wm_4 wm_290) rfl rfl rfl (by decide +kernel) ⟨Nat.le_of_ble_eq_true rfl, Nat.le_of_ble_eq_true rfl⟩) (rd_preV (q0 := 0) hP hE rfl rfl) rfl rfl hl.1 rfl (lv_room (Nat.le_of_ble_eq_true rfl)) dM_first_82 ⟨Nat.le_of_ble_eq_true rfl, Nat.le_of_ble_eq_true rfl⟩) ?_
            refine W.eq (g2 := F0 m 85 ls [.int (bI (snM x (o) (v - 1)))]) rfl ?_
            refine r_eqB (tgt := 93) hx hb dM_first_85 (by decide) (fun c_85 => ?_) (fun c_85 => ?_)
            · refine lv_iload hx hb dM_first_93 (lv_at hl 5 rfl) ?_
              refine lv_istore (lv' := [(4, .int (sI (v))), (6, .int (bI (f))), (0, .ref (q 0)), (1, .int (nI (r))), (2, .int (sI (a))), (3, .int (sI (b))), (5, .int (nI (o)))]) hx hb dM_first_95 hl (by decide) rfl (fun ls hl => ?_)
              refine lv_iinc (v := nI (o + 1)) (lv' := [(5, .int (nI (o + 1))), (4, .int (sI (v))), (6, .int (bI (f))), (0, .ref (q 0)), (1, .int (nI (r))), (2, .int (sI (a))), (3, .int (sI (b)))]) hx hb dM_first_97 hl (k := 6) rfl (nI_1 _) (by decide) rfl (fun ls hl => ?_)
              refine lv_goto (tgt := 6) hx hb dM_first_100 (by decide) ?_
              exact ih  (o + 1) (v)  ls (by omega) (by omega) (by first | rfl | (rw [fstM_t (x := x) (r := r) (a := a) (b := b) (n := o) (by rw [← hf]; exact c_69) (Or.inl (by rw [← h3]; exact c_74))]; done) | (rw [fstM_t (x := x) (r := r) (a := a) (b := b) (n := o) (by rw [← hf]; exact c_69) (Or.inr (by rw [← h3]; exact c_85))]; done) | (rw [fstM_f1 (x := x) (r := r) (a := a) (b := b) (n := o) (by rw [← hf]; exact c_69)]; exact h3) | (rw [fstM_f2 (x := x) (r := r) (a := a) (b := b) (n := o) (by rw [← h3]; exact c_74) (by rw [← h3]; exact c_85)]; exact h3)) (lv_sub hl [3, 4, 5, 6, 1, 0] rfl)
            · refine lv_iload hx hb dM_first_88 (lv_at hl 6 rfl) ?_
              refine lv_goto (tgt := 95) hx hb dM_first_90 (by decide) ?_
              refine r_top (y := sI (o + 1)) ((sI_s _).symm) ?_
              refine lv_istore (lv' := [(4, .int (sI (o + 1))), (6, .int (bI (f))), (0, .ref (q 0)), (1, .int (nI (r))), (2, .int (sI (a))), (3, .int (sI (b))), (5, .int (nI (o)))]) hx hb dM_first_95 hl (by decide) rfl (fun ls hl => ?_)
              refine lv_iinc (v := nI (o + 1)) (lv' := [(5, .int (nI (o + 1))), (4, .int (sI (o + 1))), (6, .int (bI (f))), (0, .ref (q 0)), (1, .int (nI (r))), (2, .int (sI (a))), (3, .int (sI (b)))]) hx hb dM_first_97 hl (k := 6) rfl (nI_1 _) (by decide) rfl (fun ls hl => ?_)
              refine lv_goto (tgt := 6) hx hb dM_first_100 (by decide) ?_
              exact ih  (o + 1) (o + 1)  ls (by omega) (by omega) (by first | rfl | (rw [fstM_t (x := x) (r := r) (a := a) (b := b) (n := o) (by rw [← hf]; exact c_69) (Or.inl (by rw [← h3]; exact c_74))]; done) | (rw [fstM_t (x := x) (r := r) (a := a) (b := b) (n := o) (by rw [← hf]; exact c_69) (Or.inr (by rw [← h3]; exact c_85))]; done) | (rw [fstM_f1 (x := x) (r := r) (a := a) (b := b) (n := o) (by rw [← hf]; exact c_69)]; exact h3) | (rw [fstM_f2 (x := x) (r := r) (a := a) (b := b) (n := o) (by rw [← h3]; exact c_74) (by rw [← h3]; exact c_85)]; exact h3)) (lv_sub hl [3, 4, 5, 6, 1, 0] rfl)
      refine lv_iload hx hb dM_first_6 (lv_at hl 5 rfl) ?_
      refine lv_aload_n hx hb dM_first_8 rfl (lv_at hl 0 rfl) ?_
      refine va_get (D := D) (ci := 3) (v := .int (nI (x.nn))) (C := RM) (T := TM) (N := 13) hx hb hts in_M hown hK hP 0 rfl rfl 0 (by decide) (hts _ wm_243) (fun _ h9 => h9) rfl dM_first_9 ?_
      refine r_ge (by omega) (Nat.lt_of_le_of_lt ok.n (by decide)) (tgt := 103) hx hb dM_first_12 (by decide) (fun c_12 => ?_) (fun c_12 => ?_)
      · refine lv_iload hx hb dM_first_103 (lv_at hl 4 rfl) ?_
        exact kx _ _ _ dM_first_105 (by rw [h3, show o = x.nn by omega])
      · refine lv_aload_n hx hb dM_first_15 rfl (lv_at hl 0 rfl) ?_
        refine lv_iload_n hx hb dM_first_16 rfl (lv_at hl 1 rfl) ?_
        refine lv_iload hx hb dM_first_17 (lv_at hl 5 rfl) ?_
        refine W.callR (W.runV (As := [.int (nI (r)), .int (nI (o))]) (rest := []) S (kM_has D cc q x (r) (o) (by omega) (by omega)) (cwV 2 hts (gd_V wm_285 wm_286 wm_382 wm_4 wm_287) rfl rfl rfl (by decide +kernel) ⟨Nat.le_of_ble_eq_true rfl, Nat.le_of_ble_eq_true rfl⟩) (rd_preV (q0 := 0) hP hE rfl rfl) rfl rfl hl.1 rfl (lv_room (Nat.le_of_ble_eq_true rfl)) dM_first_19 ⟨Nat.le_of_ble_eq_true rfl, Nat.le_of_ble_eq_true rfl⟩) ?_
        refine W.eq (g2 := F0 m 22 ls [.int (bI (x.app (100 * (r) + (o))))]) rfl ?_
        refine r_eqB (tgt := 64) hx hb dM_first_22 (by decide) (fun c_22 => ?_) (fun c_22 => ?_)
        · refine lv_iconst (v := bI (false)) hx hb dM_first_64 (by decide) ?_
          exact J65  (false)  ls (by omega) (by unfold fitM; first | (simp [c_22]; done) | (simp [c_22, show ¬ 0 < x.let_ o by omega]; done) | (simp [c_22, c_43]; done) | (simp [c_22, c_32, c_43, c_47]; done) | (simp [c_22, c_32, c_43, c_57, show ¬ b = 0 by omega]; done)) (lv_sub hl [0, 1, 2, 3, 4, 5] rfl)
        · refine lv_aload_n hx hb dM_first_25 rfl (lv_at hl 0 rfl) ?_
          refine va_get (D := D) (ci := 3) (v := .ref (q 4)) (C := RM) (T := TM) (N := 13) hx hb hts in_M hown hK hP 0 rfl rfl 4 (by decide) (hts _ wm_247) (fun _ h9 => h9) rfl dM_first_26 ?_
          refine lv_iload hx hb dM_first_29 (lv_at hl 5 rfl) ?_
          refine r_iald (q0 := 4) (t0 := 0) hx hb hK hP rfl rfl (by omega) (by decide) dM_first_31 ?_
          refine r_leN (ok.let_ (o)) (tgt := 64) hx hb dM_first_32 (by decide) (fun c_32 => ?_) (fun c_32 => ?_)
          · refine lv_iconst (v := bI (false)) hx hb dM_first_64 (by decide) ?_
            exact J65  (false)  ls (by omega) (by unfold fitM; first | (simp [c_22]; done) | (simp [c_22, show ¬ 0 < x.let_ o by omega]; done) | (simp [c_22, c_43]; done) | (simp [c_22, c_32, c_43, c_47]; done) | (simp [c_22, c_32, c_43, c_57, show ¬ b = 0 by omega]; done)) (lv_sub hl [0, 1, 2, 3, 4, 5] rfl)
          · refine lv_aload_n hx hb dM_first_35 rfl (lv_at hl 0 rfl) ?_
            refine va_get (D := D) (ci := 3) (v := .ref (q 5)) (C := RM) (T := TM) (N := 13) hx hb hts in_M hown hK hP 0 rfl rfl 5 (by decide) (hts _ wm_248) (fun _ h9 => h9) rfl dM_first_36 ?_
            refine lv_iload hx hb dM_first_39 (lv_at hl 5 rfl) ?_
            refine r_iald (q0 := 5) (t0 := 0) hx hb hK hP rfl rfl (by omega) (by decide) dM_first_41 ?_
            refine lv_iload_n hx hb dM_first_42 rfl (lv_at hl 2 rfl) ?_
            refine r_neS (ok.oth (o)) (by omega) (tgt := 64) hx hb dM_first_43 (by decide) (fun c_43 => ?_) (fun c_43 => ?_)
            · refine lv_iconst (v := bI (false)) hx hb dM_first_64 (by decide) ?_
              exact J65  (false)  ls (by omega) (by unfold fitM; first | (simp [c_22]; done) | (simp [c_22, show ¬ 0 < x.let_ o by omega]; done) | (simp [c_22, c_43]; done) | (simp [c_22, c_32, c_43, c_47]; done) | (simp [c_22, c_32, c_43, c_57, show ¬ b = 0 by omega]; done)) (lv_sub hl [0, 1, 2, 3, 4, 5] rfl)
            · refine lv_iload_n hx hb dM_first_46 rfl (lv_at hl 3 rfl) ?_
              refine r_ltS (by omega) (tgt := 60) hx hb dM_first_47 (by decide) (fun c_47 => ?_) (fun c_47 => ?_)
              · refine lv_iconst (v := bI (true)) hx hb dM_first_60 (by decide) ?_
                refine lv_goto (tgt := 65) hx hb dM_first_61 (by decide) ?_
                exact J65  (true)  ls (by omega) (by unfold fitM; first | (simp [c_22]; done) | (simp [c_22, show ¬ 0 < x.let_ o by omega]; done) | (simp [c_22, c_43]; done) | (simp [c_22, c_32, c_43, c_47]; done) | (simp [c_22, c_32, c_43, c_57, show ¬ b = 0 by omega]; done)) (lv_sub hl [0, 1, 2, 3, 4, 5] rfl)
              · refine lv_aload_n hx hb dM_first_50 rfl (lv_at hl 0 rfl) ?_
                refine lv_iload_n hx hb dM_first_51 rfl (lv_at hl 3 rfl) ?_
                refine r_top (y := nI (b - 1)) (sI_p c_47) ?_
                refine lv_iload hx hb dM_first_52 (lv_at hl 5 rfl) ?_
                refine W.callR (W.runV (As := [.int (nI (b - 1)), .int (nI (o))]) (rest := []) S (kM_sooner D cc q x (b - 1) (o) (by omega) (by omega) ok) (cwV 2 hts (gd_V wm_288 wm_289 wm_383 wm_4 wm_290) rfl rfl rfl (by decide +kernel) ⟨Nat.le_of_ble_eq_true rfl, Nat.le_of_ble_eq_true rfl⟩) (rd_preV (q0 := 0) hP hE rfl rfl) rfl rfl hl.1 rfl (lv_room (Nat.le_of_ble_eq_true rfl)) dM_first_54 ⟨Nat.le_of_ble_eq_true rfl, Nat.le_of_ble_eq_true rfl⟩) ?_
                refine W.eq (g2 := F0 m 57 ls [.int (bI (snM x (b - 1) (o)))]) rfl ?_
                refine r_eqB (tgt := 64) hx hb dM_first_57 (by decide) (fun c_57 => ?_) (fun c_57 => ?_)
                · refine lv_iconst (v := bI (false)) hx hb dM_first_64 (by decide) ?_
                  exact J65  (false)  ls (by omega) (by unfold fitM; first | (simp [c_22]; done) | (simp [c_22, show ¬ 0 < x.let_ o by omega]; done) | (simp [c_22, c_43]; done) | (simp [c_22, c_32, c_43, c_47]; done) | (simp [c_22, c_32, c_43, c_57, show ¬ b = 0 by omega]; done)) (lv_sub hl [0, 1, 2, 3, 4, 5] rfl)
                · refine lv_iconst (v := bI (true)) hx hb dM_first_60 (by decide) ?_
                  refine lv_goto (tgt := 65) hx hb dM_first_61 (by decide) ?_
                  exact J65  (true)  ls (by omega) (by unfold fitM; first | (simp [c_22]; done) | (simp [c_22, show ¬ 0 < x.let_ o by omega]; done) | (simp [c_22, c_43]; done) | (simp [c_22, c_32, c_43, c_47]; done) | (simp [c_22, c_32, c_43, c_57, show ¬ b = 0 by omega]; done)) (lv_sub hl [0, 1, 2, 3, 4, 5] rfl)
  refine lv_iconst (v := sI (0)) hx hb dM_first_0 (by decide) ?_
  refine lv_istore (lv' := [(4, .int (sI (0))), (0, .ref (q 0)), (1, .int (nI (r))), (2, .int (sI (a))), (3, .int (sI (b)))]) hx hb dM_first_1 hl (by decide) rfl (fun ls hl => ?_)
  refine lv_iconst (v := nI (0)) hx hb dM_first_3 (by decide) ?_
  refine lv_istore (lv' := [(5, .int (nI (0))), (4, .int (sI (0))), (0, .ref (q 0)), (1, .int (nI (r))), (2, .int (sI (a))), (3, .int (sI (b)))]) hx hb dM_first_4 hl (by decide) rfl (fun ls hl => ?_)
  exact L6 (x.nn + 1) (0) (0)  ls (by omega) (by omega) (by first | rfl | (rw [fstM_t (x := x) (r := r) (a := a) (b := b) (n := o) (by rw [← hf]; exact c_69) (Or.inl (by rw [← h3]; exact c_74))]; done) | (rw [fstM_t (x := x) (r := r) (a := a) (b := b) (n := o) (by rw [← hf]; exact c_69) (Or.inr (by rw [← h3]; exact c_85))]; done) | (rw [fstM_f1 (x := x) (r := r) (a := a) (b := b) (n := o) (by rw [← hf]; exact c_69)]; exact h3) | (rw [fstM_f2 (x := x) (r := r) (a := a) (b := b) (n := o) (by rw [← h3]; exact c_74) (by rw [← h3]; exact c_85)]; exact h3)) (lv_sub hl [2, 3, 4, 5, 1, 0] rfl)

def rmM_erased : Room := { frames := 1, cells := 0, slots := 0, locals := 22 }
set_option maxHeartbeats 4000000 in
set_option maxRecDepth 100000 in
theorem kM_erased {l : Launch} (D : va_G) (cc : Nat → ClassId) (q : Nat → Nat) (x : MS) (r f : Nat) (hr : r < 3) (hf : f < 100) (ok : okM x) : Met l yM_erased wsM_erased rmM_erased (va_Pc [.ref (q 0), .int (nI (r)), .int (nI (f))] (fun U => va_P D vwCl (wM cc q x) U.heap ∧ EN D cc U)) (QcRead (bI (ersM x r f x.nn))) 0 0 (fun _ => False) := by
  refine rd_met RM [.ref (q 0), .int (nI (r)), .int (nI (f))] _ _ (by decide) rfl rfl (Nat.le_of_ble_eq_true rfl) (bI_z _) ?_
  intro p e s m args below meth c Q S hB kx ls hl
  obtain ⟨hx, hb, hml, hown, hts⟩ := id S
  obtain ⟨hP, hE⟩ := hB
  have hK := hE.1
  have hts := hE.ts args
  have S : CallFix p m c cM_erased 5 s args wAll RM := ⟨hx, hb, hml, hown, hts⟩
  have hn := ok.n
  have hl : lv_has ls 5 [(0, .ref (q 0)), (1, .int (nI (r))), (2, .int (nI (f)))] := hl
  have L5 : ∀ (n : Nat) (o : Nat) (z : Bool)  (ls : Array Slot) (h1 : o ≤ x.nn) (h2 : x.nn - o < n) (h3 : z = ersM x r f o), lv_has ls 5 [(0, .ref (q 0)), (1, .int (nI (r))), (2, .int (nI (f))), (3, .int (bI (z))), (4, .int (nI (o)))] → W p l e rmM_erased s m args below meth c s.heap [] 0 0 Q (F0 m 5 ls []) := by
    intro n
    induction n with
    | zero => intro o z ls h1 h2 h3 hl; exact absurd h2 (Nat.not_lt_zero _)
    | succ n ih =>
      intro o z ls h1 h2 h3 hl
      refine lv_iload hx hb dM_erased_5 (lv_at hl 4 rfl) ?_
      refine lv_aload_n hx hb dM_erased_7 rfl (lv_at hl 0 rfl) ?_
      refine va_get (D := D) (ci := 3) (v := .int (nI (x.nn))) (C := RM) (T := TM) (N := 13) hx hb hts in_M hown hK hP 0 rfl rfl 0 (by decide) (hts _ wm_243) (fun _ h9 => h9) rfl dM_erased_8 ?_
      refine r_ge (by omega) (Nat.lt_of_le_of_lt ok.n (by decide)) (tgt := 61) hx hb dM_erased_11 (by decide) (fun c_11 => ?_) (fun c_11 => ?_)
      · refine lv_iload_n hx hb dM_erased_61 rfl (lv_at hl 3 rfl) ?_
        exact kx _ _ _ dM_erased_62 (by rw [h3, show o = x.nn by omega])
      · refine lv_iload_n hx hb dM_erased_14 rfl (lv_at hl 3 rfl) ?_
        refine r_neB (tgt := 49) hx hb dM_erased_15 (by decide) (fun c_15 => ?_) (fun c_15 => ?_)
        · refine lv_iconst (v := bI (true)) hx hb dM_erased_49 (by decide) ?_
          refine lv_goto (tgt := 54) hx hb dM_erased_50 (by decide) ?_
          refine lv_istore_n (lv' := [(3, .int (bI (true))), (0, .ref (q 0)), (1, .int (nI (r))), (2, .int (nI (f))), (4, .int (nI (o)))]) hx hb dM_erased_54 rfl hl (by decide) rfl (fun ls hl => ?_)
          refine lv_iinc (v := nI (o + 1)) (lv' := [(4, .int (nI (o + 1))), (3, .int (bI (true))), (0, .ref (q 0)), (1, .int (nI (r))), (2, .int (nI (f)))]) hx hb dM_erased_55 hl (k := 4) rfl (nI_1 _) (by decide) rfl (fun ls hl => ?_)
          refine lv_goto (tgt := 5) hx hb dM_erased_58 (by decide) ?_
          exact ih  (o + 1) (true)  ls (by omega) (by omega) (by first | rfl | (rw [ersM_s, ← h3]; first | (simp [c_15]; done) | (simp [c_15, c_25]; done) | (simp [c_15, c_25, c_36]; done) | (simp [c_15, c_25, c_36, c_46]; done))) (lv_sub hl [2, 3, 4, 1, 0] rfl)
        · refine lv_aload_n hx hb dM_erased_18 rfl (lv_at hl 0 rfl) ?_
          refine va_get (D := D) (ci := 3) (v := .ref (q 4)) (C := RM) (T := TM) (N := 13) hx hb hts in_M hown hK hP 0 rfl rfl 4 (by decide) (hts _ wm_247) (fun _ h9 => h9) rfl dM_erased_19 ?_
          refine lv_iload hx hb dM_erased_22 (lv_at hl 4 rfl) ?_
          refine r_iald (q0 := 4) (t0 := 0) hx hb hK hP rfl rfl (by omega) (by decide) dM_erased_24 ?_
          refine r_neN (ok.let_ (o)) (tgt := 53) hx hb dM_erased_25 (by decide) (fun c_25 => ?_) (fun c_25 => ?_)
          · refine lv_iconst (v := bI (false)) hx hb dM_erased_53 (by decide) ?_
            refine lv_istore_n (lv' := [(3, .int (bI (false))), (0, .ref (q 0)), (1, .int (nI (r))), (2, .int (nI (f))), (4, .int (nI (o)))]) hx hb dM_erased_54 rfl hl (by decide) rfl (fun ls hl => ?_)
            refine lv_iinc (v := nI (o + 1)) (lv' := [(4, .int (nI (o + 1))), (3, .int (bI (false))), (0, .ref (q 0)), (1, .int (nI (r))), (2, .int (nI (f)))]) hx hb dM_erased_55 hl (k := 4) rfl (nI_1 _) (by decide) rfl (fun ls hl => ?_)
            refine lv_goto (tgt := 5) hx hb dM_erased_58 (by decide) ?_
            exact ih  (o + 1) (false)  ls (by omega) (by omega) (by first | rfl | (rw [ersM_s, ← h3]; first | (simp [c_15]; done) | (simp [c_15, c_25]; done) | (simp [c_15, c_25, c_36]; done) | (simp [c_15, c_25, c_36, c_46]; done))) (lv_sub hl [2, 3, 4, 1, 0] rfl)
          · refine lv_aload_n hx hb dM_erased_28 rfl (lv_at hl 0 rfl) ?_
            refine va_get (D := D) (ci := 3) (v := .ref (q 5)) (C := RM) (T := TM) (N := 13) hx hb hts in_M hown hK hP 0 rfl rfl 5 (by decide) (hts _ wm_248) (fun _ h9 => h9) rfl dM_erased_29 ?_
            refine lv_iload hx hb dM_erased_32 (lv_at hl 4 rfl) ?_
            refine r_iald (q0 := 5) (t0 := 0) hx hb hK hP rfl rfl (by omega) (by decide) dM_erased_34 ?_
            refine lv_iload_n hx hb dM_erased_35 rfl (lv_at hl 2 rfl) ?_
            refine r_top (y := sI (f + 1)) (sI_s _).symm ?_
            refine r_neS (ok.oth (o)) (by omega) (tgt := 53) hx hb dM_erased_36 (by decide) (fun c_36 => ?_) (fun c_36 => ?_)
            · refine lv_iconst (v := bI (false)) hx hb dM_erased_53 (by decide) ?_
              refine lv_istore_n (lv' := [(3, .int (bI (false))), (0, .ref (q 0)), (1, .int (nI (r))), (2, .int (nI (f))), (4, .int (nI (o)))]) hx hb dM_erased_54 rfl hl (by decide) rfl (fun ls hl => ?_)
              refine lv_iinc (v := nI (o + 1)) (lv' := [(4, .int (nI (o + 1))), (3, .int (bI (false))), (0, .ref (q 0)), (1, .int (nI (r))), (2, .int (nI (f)))]) hx hb dM_erased_55 hl (k := 4) rfl (nI_1 _) (by decide) rfl (fun ls hl => ?_)
              refine lv_goto (tgt := 5) hx hb dM_erased_58 (by decide) ?_
              exact ih  (o + 1) (false)  ls (by omega) (by omega) (by first | rfl | (rw [ersM_s, ← h3]; first | (simp [c_15]; done) | (simp [c_15, c_25]; done) | (simp [c_15, c_25, c_36]; done) | (simp [c_15, c_25, c_36, c_46]; done))) (lv_sub hl [2, 3, 4, 1, 0] rfl)
            · refine lv_aload_n hx hb dM_erased_39 rfl (lv_at hl 0 rfl) ?_
              refine lv_iload_n hx hb dM_erased_40 rfl (lv_at hl 1 rfl) ?_
              refine lv_iload hx hb dM_erased_41 (lv_at hl 4 rfl) ?_
              refine W.callR (W.runV (As := [.int (nI (r)), .int (nI (o))]) (rest := []) S (kM_has D cc q x (r) (o) (by omega) (by omega)) (cwV 2 hts (gd_V wm_285 wm_286 wm_382 wm_4 wm_287) rfl rfl rfl (by decide +kernel) ⟨Nat.le_of_ble_eq_true rfl, Nat.le_of_ble_eq_true rfl⟩) (rd_preV (q0 := 0) hP hE rfl rfl) rfl rfl hl.1 rfl (lv_room (Nat.le_of_ble_eq_true rfl)) dM_erased_43 ⟨Nat.le_of_ble_eq_true rfl, Nat.le_of_ble_eq_true rfl⟩) ?_
              refine W.eq (g2 := F0 m 46 ls [.int (bI (x.app (100 * (r) + (o))))]) rfl ?_
              refine r_eqB (tgt := 53) hx hb dM_erased_46 (by decide) (fun c_46 => ?_) (fun c_46 => ?_)
              · refine lv_iconst (v := bI (false)) hx hb dM_erased_53 (by decide) ?_
                refine lv_istore_n (lv' := [(3, .int (bI (false))), (0, .ref (q 0)), (1, .int (nI (r))), (2, .int (nI (f))), (4, .int (nI (o)))]) hx hb dM_erased_54 rfl hl (by decide) rfl (fun ls hl => ?_)
                refine lv_iinc (v := nI (o + 1)) (lv' := [(4, .int (nI (o + 1))), (3, .int (bI (false))), (0, .ref (q 0)), (1, .int (nI (r))), (2, .int (nI (f)))]) hx hb dM_erased_55 hl (k := 4) rfl (nI_1 _) (by decide) rfl (fun ls hl => ?_)
                refine lv_goto (tgt := 5) hx hb dM_erased_58 (by decide) ?_
                exact ih  (o + 1) (false)  ls (by omega) (by omega) (by first | rfl | (rw [ersM_s, ← h3]; first | (simp [c_15]; done) | (simp [c_15, c_25]; done) | (simp [c_15, c_25, c_36]; done) | (simp [c_15, c_25, c_36, c_46]; done))) (lv_sub hl [2, 3, 4, 1, 0] rfl)
              · refine lv_iconst (v := bI (true)) hx hb dM_erased_49 (by decide) ?_
                refine lv_goto (tgt := 54) hx hb dM_erased_50 (by decide) ?_
                refine lv_istore_n (lv' := [(3, .int (bI (true))), (0, .ref (q 0)), (1, .int (nI (r))), (2, .int (nI (f))), (4, .int (nI (o)))]) hx hb dM_erased_54 rfl hl (by decide) rfl (fun ls hl => ?_)
                refine lv_iinc (v := nI (o + 1)) (lv' := [(4, .int (nI (o + 1))), (3, .int (bI (true))), (0, .ref (q 0)), (1, .int (nI (r))), (2, .int (nI (f)))]) hx hb dM_erased_55 hl (k := 4) rfl (nI_1 _) (by decide) rfl (fun ls hl => ?_)
                refine lv_goto (tgt := 5) hx hb dM_erased_58 (by decide) ?_
                exact ih  (o + 1) (true)  ls (by omega) (by omega) (by first | rfl | (rw [ersM_s, ← h3]; first | (simp [c_15]; done) | (simp [c_15, c_25]; done) | (simp [c_15, c_25, c_36]; done) | (simp [c_15, c_25, c_36, c_46]; done))) (lv_sub hl [2, 3, 4, 1, 0] rfl)
  refine lv_iconst (v := bI (false)) hx hb dM_erased_0 (by decide) ?_
  refine lv_istore_n (lv' := [(3, .int (bI (false))), (0, .ref (q 0)), (1, .int (nI (r))), (2, .int (nI (f)))]) hx hb dM_erased_1 rfl hl (by decide) rfl (fun ls hl => ?_)
  refine lv_iconst (v := nI (0)) hx hb dM_erased_2 (by decide) ?_
  refine lv_istore (lv' := [(4, .int (nI (0))), (3, .int (bI (false))), (0, .ref (q 0)), (1, .int (nI (r))), (2, .int (nI (f)))]) hx hb dM_erased_3 hl (by decide) rfl (fun ls hl => ?_)
  exact L5 (x.nn + 1) (0) (false)  ls (by omega) (by omega) (by first | rfl | (rw [ersM_s, ← h3]; first | (simp [c_15]; done) | (simp [c_15, c_25]; done) | (simp [c_15, c_25, c_36]; done) | (simp [c_15, c_25, c_36, c_46]; done))) (lv_sub hl [2, 3, 4, 1, 0] rfl)

def rmM_next : Room := { frames := 2, cells := 0, slots := 0, locals := 48 }
set_option maxHeartbeats 4000000 in
set_option maxRecDepth 100000 in
theorem kM_next {l : Launch} (D : va_G) (cc : Nat → ClassId) (q : Nat → Nat) (x : MS) (r f : Nat) (hr : r < 3) (hf : f ≤ x.nn) (hpar : ∀ k, k < x.nn → x.oth k ≤ k) (ok : okM x) : Met l yM_next wsM_next rmM_next (va_Pc [.ref (q 0), .int (nI (r)), .int (sI (f))] (fun U => va_P D vwCl (wM cc q x) U.heap ∧ EN D cc U)) (QcRead (sI (nxtM x r f))) 0 0 (fun _ => False) := by
  refine rd_met RM [.ref (q 0), .int (nI (r)), .int (sI (f))] _ _ (by decide) rfl rfl (Nat.le_of_ble_eq_true rfl) (vp_nar_int _) ?_
  intro p e s m args below meth c Q S hB kx ls hl
  obtain ⟨hx, hb, hml, hown, hts⟩ := id S
  obtain ⟨hP, hE⟩ := hB
  have hK := hE.1
  have hts := hE.ts args
  have S : CallFix p m c cM_next 5 s args wAll RM := ⟨hx, hb, hml, hown, hts⟩
  have hn := ok.n
  have hl : lv_has ls 5 [(0, .ref (q 0)), (1, .int (nI (r))), (2, .int (sI (f)))] := hl
  have L11 : ∀ (n : Nat) (v : Nat) (a : Nat)  (ls : Array Slot) (h0 : v ≤ 100) (h1 : a ≤ x.nn) (h2 : a < n) (h3 : (v ≠ 0 ∧ v = nxtM x r f) ∨ (v = 0 ∧ ∃ k, a ≤ k ∧ upw (parM x) (fun a b => fstM x r a b x.nn) k a = nxtM x r f)), lv_has ls 5 [(0, .ref (q 0)), (1, .int (nI (r))), (2, .int (sI (f))), (3, .int (sI (v))), (4, .int (sI (a)))] → W p l e rmM_next s m args below meth c s.heap [] 0 0 Q (F0 m 11 ls []) := by
    intro n
    induction n with
    | zero => intro v a ls h0 h1 h2 h3 hl; exact absurd h2 (Nat.not_lt_zero _)
    | succ n ih =>
      intro v a ls h0 h1 h2 h3 hl
      refine lv_iload_n hx hb dM_next_11 rfl (lv_at hl 3 rfl) ?_
      refine r_geS (by omega) (tgt := 47) hx hb dM_next_12 (by decide) (fun c_12 => ?_) (fun c_12 => ?_)
      · refine lv_iload_n hx hb dM_next_47 rfl (lv_at hl 3 rfl) ?_
        exact kx _ _ _ dM_next_48 (by first | rw [nx_ret h3 c_12] | rw [nx_end h3 c_12 c_17])
      · refine lv_iload hx hb dM_next_15 (lv_at hl 4 rfl) ?_
        refine r_ltS (by omega) (tgt := 47) hx hb dM_next_17 (by decide) (fun c_17 => ?_) (fun c_17 => ?_)
        · refine lv_iload_n hx hb dM_next_47 rfl (lv_at hl 3 rfl) ?_
          exact kx _ _ _ dM_next_48 (by first | rw [nx_ret h3 c_12] | rw [nx_end h3 c_12 c_17])
        · refine lv_aload_n hx hb dM_next_20 rfl (lv_at hl 0 rfl) ?_
          refine lv_iload_n hx hb dM_next_21 rfl (lv_at hl 1 rfl) ?_
          refine lv_aload_n hx hb dM_next_22 rfl (lv_at hl 0 rfl) ?_
          refine va_get (D := D) (ci := 3) (v := .ref (q 5)) (C := RM) (T := TM) (N := 13) hx hb hts in_M hown hK hP 0 rfl rfl 5 (by decide) (hts _ wm_248) (fun _ h9 => h9) rfl dM_next_23 ?_
          refine lv_iload hx hb dM_next_26 (lv_at hl 4 rfl) ?_
          refine r_top (y := nI (a - 1)) (sI_p c_17) ?_
          refine r_iald (q0 := 5) (t0 := 0) hx hb hK hP rfl rfl (by omega) (by decide) dM_next_28 ?_
          refine lv_iload hx hb dM_next_29 (lv_at hl 4 rfl) ?_
          refine W.callR (W.runV (As := [.int (nI (r)), .int (sI (x.oth (a - 1))), .int (sI (a))]) (rest := []) S (kM_first D cc q x (r) (x.oth (a - 1)) (a) (by omega) (ok.oth100 _) (by omega) ok) (cwV 3 hts (gd_V wm_282 wm_283 wm_381 wm_4 wm_284) rfl rfl rfl (by decide +kernel) ⟨Nat.le_of_ble_eq_true rfl, Nat.le_of_ble_eq_true rfl⟩) (rd_preV (q0 := 0) hP hE rfl rfl) rfl rfl hl.1 rfl (lv_room (Nat.le_of_ble_eq_true rfl)) dM_next_31 ⟨Nat.le_of_ble_eq_true rfl, Nat.le_of_ble_eq_true rfl⟩) ?_
          refine W.eq (g2 := F0 m 34 ls [.int (sI (fstM x (r) (x.oth (a - 1)) (a) x.nn))]) rfl ?_
          refine lv_istore_n (lv' := [(3, .int (sI (fstM x (r) (x.oth (a - 1)) (a) x.nn))), (0, .ref (q 0)), (1, .int (nI (r))), (2, .int (sI (f))), (4, .int (sI (a)))]) hx hb dM_next_34 rfl hl (by decide) rfl (fun ls hl => ?_)
          refine lv_aload_n hx hb dM_next_35 rfl (lv_at hl 1 rfl) ?_
          refine va_get (D := D) (ci := 3) (v := .ref (q 5)) (C := RM) (T := TM) (N := 13) hx hb hts in_M hown hK hP 0 rfl rfl 5 (by decide) (hts _ wm_248) (fun _ h9 => h9) rfl dM_next_36 ?_
          refine lv_iload hx hb dM_next_39 (lv_at hl 4 rfl) ?_
          refine r_top (y := nI (a - 1)) (sI_p c_17) ?_
          refine r_iald (q0 := 5) (t0 := 0) hx hb hK hP rfl rfl (by omega) (by decide) dM_next_41 ?_
          refine lv_istore (lv' := [(4, .int (sI (x.oth (a - 1)))), (3, .int (sI (fstM x (r) (x.oth (a - 1)) (a) x.nn))), (0, .ref (q 0)), (1, .int (nI (r))), (2, .int (sI (f)))]) hx hb dM_next_42 hl (by decide) rfl (fun ls hl => ?_)
          refine lv_goto (tgt := 11) hx hb dM_next_44 (by decide) ?_
          exact ih  (fstM x (r) (x.oth (a - 1)) (a) x.nn) (x.oth (a - 1))  ls (Nat.le_trans (fstM_le _ _ _ _ _) ok.n) (by first | exact hf | (have := hpar (a - 1) (by omega); omega)) (by first | (exact Nat.lt_succ_self f) | (have := hpar (a - 1) (by omega); omega)) (by first | exact nx_step (parM_p c_17) h3 c_12 c_17 (by have := hpar (a - 1) (by omega); omega) | exact nx_start (Nat.le_trans hf ok.n)) (lv_sub hl [2, 3, 4, 1, 0] rfl)
  refine lv_aload_n hx hb dM_next_0 rfl (lv_at hl 0 rfl) ?_
  refine lv_iload_n hx hb dM_next_1 rfl (lv_at hl 1 rfl) ?_
  refine lv_iload_n hx hb dM_next_2 rfl (lv_at hl 2 rfl) ?_
  refine lv_iconst (v := sI (0)) hx hb dM_next_3 (by decide) ?_
  refine W.callR (W.runV (As := [.int (nI (r)), .int (sI (f)), .int (sI (0))]) (rest := []) S (kM_first D cc q x (r) (f) (0) (by omega) (by omega) (by omega) ok) (cwV 3 hts (gd_V wm_282 wm_283 wm_381 wm_4 wm_284) rfl rfl rfl (by decide +kernel) ⟨Nat.le_of_ble_eq_true rfl, Nat.le_of_ble_eq_true rfl⟩) (rd_preV (q0 := 0) hP hE rfl rfl) rfl rfl hl.1 rfl (lv_room (Nat.le_of_ble_eq_true rfl)) dM_next_4 ⟨Nat.le_of_ble_eq_true rfl, Nat.le_of_ble_eq_true rfl⟩) ?_
  refine W.eq (g2 := F0 m 7 ls [.int (sI (fstM x (r) (f) (0) x.nn))]) rfl ?_
  refine lv_istore_n (lv' := [(3, .int (sI (fstM x (r) (f) (0) x.nn))), (0, .ref (q 0)), (1, .int (nI (r))), (2, .int (sI (f)))]) hx hb dM_next_7 rfl hl (by decide) rfl (fun ls hl => ?_)
  refine lv_iload_n hx hb dM_next_8 rfl (lv_at hl 3 rfl) ?_
  refine lv_istore (lv' := [(4, .int (sI (f))), (3, .int (sI (fstM x (r) (f) (0) x.nn))), (0, .ref (q 0)), (1, .int (nI (r))), (2, .int (sI (f)))]) hx hb dM_next_9 hl (by decide) rfl (fun ls hl => ?_)
  exact L11 (f + 1) (fstM x (r) (f) (0) x.nn) (f)  ls (Nat.le_trans (fstM_le _ _ _ _ _) ok.n) (by first | exact hf | (have := hpar (a - 1) (by omega); omega)) (by first | (exact Nat.lt_succ_self f) | (have := hpar (a - 1) (by omega); omega)) (by first | exact nx_step (parM_p c_17) h3 c_12 c_17 (by have := hpar (a - 1) (by omega); omega) | exact nx_start (Nat.le_trans hf ok.n)) (lv_sub hl [2, 3, 4, 1, 0] rfl)
