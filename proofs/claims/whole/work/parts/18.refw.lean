def rmM_insert : Room := { frames := 4, cells := 0, slots := 0, locals := 94 }
set_option maxHeartbeats 4000000 in
set_option maxRecDepth 100000 in
theorem kM_insert {l : Launch} (D : va_G) (cc : Nat → ClassId) (q : Nat → Nat) (x : MS) (sz : Nat) (z1 z2 : Int32) (k : Nat) (hk : k < 65536) (xs : Nat → List Nat) (hxs : xsOK x xs) (hpar : ∀ k, k < x.nn → x.oth k ≤ k) (hg : ∀ r, r < 3 → gstM x r x.nn < 999) (ok : okM x) : Met l yM_insert wsM_insert rmM_insert (va_Pc [.ref (q 0), .int (z1), .int (z2), .int (nI (k))] (WP D cc (wM cc q x) sz)) (va_Qi (RM_insert x xs z1 z2 k) (WQ D cc (va_A (wM cc q x) sz) (fun u : MS => wM cc q u)) (va_A (wM cc q x) sz)) 0 0 (va_A (wM cc q x) sz) := by
  refine wr_meti RM [.ref (q 0), .int (z1), .int (z2), .int (nI (k))] D cc (wM cc q x) sz (fun u : MS => wM cc q u) _ (by decide) rfl rfl (Nat.le_of_ble_eq_true rfl) (fun v _ _ => vp_nar_int v) ?_
  intro p e s m args below meth c Q A S hP hE hD hA kx ls hl
  obtain ⟨hx, hb, hml, hown, hts⟩ := id S
  have hK := hE.1
  have hts := hE.ts args
  have S : CallFix p m c cM_insert 4 s args wAll RM := ⟨hx, hb, hml, hown, hts⟩
  have hS : va_S A s.heap s.heap [] := va_S.rf
  have hn := ok.n
  have hl : lv_has ls 4 [(0, .ref (q 0)), (1, .int (z1)), (2, .int (z2)), (3, .int (nI (k)))] := hl
  refine lv_iload_n hx hb dM_insert_0 rfl (lv_at hl 1 rfl) ?_
  refine W.callR (W.runS (As := [.int (z1)]) (rest := []) S (kM_isReplica ((z1))) (va_cwS 1 hts (gd_S wm_273 wm_274 wm_4 wm_275) rfl rfl rfl (by decide +kernel) ⟨Nat.le_of_ble_eq_true rfl, Nat.le_of_ble_eq_true rfl⟩) preT rfl rfl hl.1 rfl (lv_room (Nat.le_of_ble_eq_true rfl)) dM_insert_1 ⟨Nat.le_of_ble_eq_true rfl, Nat.le_of_ble_eq_true rfl⟩) ?_
  refine W.eq (g2 := F0 m 4 ls [.int (bI (isRep ((z1))))]) rfl ?_
  refine r_eqB (tgt := 19) hx hb dM_insert_4 (by decide) (fun c_4 => ?_) (fun c_4 => ?_)
  · refine lv_iconst (v := sI (0)) hx hb dM_insert_19 (by decide) ?_
    exact kx _ _ _ _ _ (x) dM_insert_20 hS hP hD (by first | exact Or.inl ⟨Or.inl c_4, sI_0, rfl⟩ | exact Or.inl ⟨Or.inr (Or.inl c_10), sI_0, rfl⟩ | exact Or.inl ⟨Or.inr (Or.inr c_16), sI_0, rfl⟩)
  · refine lv_iload_n hx hb dM_insert_7 rfl (lv_at hl 3 rfl) ?_
    refine lv_bipush (v := nI (32)) hx hb dM_insert_8 (by decide) ?_
    refine r_lt (by omega) (by decide) (tgt := 19) hx hb dM_insert_10 (by decide) (fun c_10 => ?_) (fun c_10 => ?_)
    · refine lv_iconst (v := sI (0)) hx hb dM_insert_19 (by decide) ?_
      exact kx _ _ _ _ _ (x) dM_insert_20 hS hP hD (by first | exact Or.inl ⟨Or.inl c_4, sI_0, rfl⟩ | exact Or.inl ⟨Or.inr (Or.inl c_10), sI_0, rfl⟩ | exact Or.inl ⟨Or.inr (Or.inr c_16), sI_0, rfl⟩)
    · refine lv_iload_n hx hb dM_insert_13 rfl (lv_at hl 3 rfl) ?_
      refine lv_bipush (v := nI (126)) hx hb dM_insert_14 (by decide) ?_
      refine r_le (by omega) (by decide) (tgt := 21) hx hb dM_insert_16 (by decide) (fun c_16 => ?_) (fun c_16 => ?_)
      · obtain ⟨r, hr_r, rfl⟩ := isRep_of c_4
        refine lv_aload_n hx hb dM_insert_21 rfl (lv_at hl 0 rfl) ?_
        refine lv_iload_n hx hb dM_insert_22 rfl (lv_at hl 1 rfl) ?_
        refine wr_callv (w2 := []) (va_runV (As := [.int (nI (r))]) (rest := []) S (kM_walk D cc q (x) (s.heap.size) r (xs r) hr_r hpar ok (hxs r hr_r).1 (hxs r hr_r).2.1 (hxs r hr_r).2.2) (cwV 1 hts (gd_V wm_276 wm_277 wm_379 wm_4 wm_278) rfl rfl rfl (by decide +kernel) ⟨Nat.le_of_ble_eq_true rfl, Nat.le_of_ble_eq_true rfl⟩) (wr_preV (q0 := 0) hP hE hD rfl rfl) rfl rfl hl.1 rfl (lv_room (Nat.le_of_ble_eq_true rfl)) dM_insert_23 ⟨Nat.le_of_ble_eq_true rfl, Nat.le_of_ble_eq_true rfl⟩) (by rw [List.append_nil]; exact hP) (by rw [List.append_nil]; exact hD) hS hA (fun u H locs hpo hP hD hS => ?_)
        rw [List.append_nil] at hP hD
        have hP : va_P D vwCl (wM cc q (walked x r (xs r))) H := hP
        have hD : va_D A (wM cc q (walked x r (xs r))) := hD
        have okw : okM (walked x r (xs r)) := okM_walked ok (hxs r hr_r).2.1 (hxs r hr_r).2.2
        refine lv_iload_n hx hb dM_insert_26 rfl (lv_at hl 2 rfl) ?_
        refine lv_if_lt (tgt := 38) hx hb dM_insert_27 (by decide) (fun c_27 => ?_) (fun c_27 => ?_)
        · refine lv_iconst (v := sI (0)) hx hb dM_insert_38 (by decide) ?_
          exact kx _ _ _ _ _ (walked x r (xs r)) dM_insert_39 hS hP hD (by first | exact Or.inr ⟨r, hr_r, rfl, c_10, c_16, Or.inl ⟨Or.inl c_27, sI_0, rfl⟩⟩ | exact Or.inr ⟨r, hr_r, rfl, c_10, c_16, Or.inl ⟨Or.inr c_35, sI_0, rfl⟩⟩)
        · refine lv_iload_n hx hb dM_insert_30 rfl (lv_at hl 2 rfl) ?_
          refine lv_aload_n hx hb dM_insert_31 rfl (lv_at hl 0 rfl) ?_
          refine va_get (D := D) (ci := 3) (v := .int (nI ((walked x r (xs r)).len))) (C := RM) (T := TM) (N := 13) hx hb hts in_M hown hK hP 0 rfl rfl 10 (by decide) (hts _ wm_253) (fun _ h9 => h9) rfl dM_insert_32 ?_
          refine lv_icmp_le (tgt := 40) hx hb dM_insert_35 (by decide) (fun c_35 => ?_) (fun c_35 => ?_)
          · obtain ⟨p, hp_p, rfl⟩ := z_le (c_27) c_35 okw.len
            have hle := okw.len
            refine lv_aload_n hx hb dM_insert_40 rfl (lv_at hl 0 rfl) ?_
            refine va_get (D := D) (ci := 3) (v := .int (nI ((walked x r (xs r)).nn))) (C := RM) (T := TM) (N := 13) hx hb hts in_M hown hK hP 0 rfl rfl 0 (by decide) (hts _ wm_243) (fun _ h9 => h9) rfl dM_insert_41 ?_
            refine lv_bipush (v := nI (100)) hx hb dM_insert_44 (by decide) ?_
            refine r_ne (Nat.lt_of_le_of_lt okw.n (by decide)) (by decide) (tgt := 52) hx hb dM_insert_46 (by decide) (fun c_46 => ?_) (fun c_46 => ?_)
            · refine lv_aload_n hx hb dM_insert_52 rfl (lv_at hl 0 rfl) ?_
              refine lv_iload_n hx hb dM_insert_53 rfl (lv_at hl 1 rfl) ?_
              refine lv_iload_n hx hb dM_insert_54 rfl (lv_at hl 3 rfl) ?_
              refine lv_iload_n hx hb dM_insert_55 rfl (lv_at hl 2 rfl) ?_
              refine r_neN (by omega) (tgt := 63) hx hb dM_insert_56 (by decide) (fun c_56 => ?_) (fun c_56 => ?_)
              · refine lv_aload_n hx hb dM_insert_63 rfl (lv_at hl 0 rfl) ?_
                refine va_get (D := D) (ci := 3) (v := .ref (q 10)) (C := RM) (T := TM) (N := 13) hx hb hts in_M hown hK hP 0 rfl rfl 11 (by decide) (hts _ wm_254) (fun _ h9 => h9) rfl dM_insert_64 ?_
                refine lv_iload_n hx hb dM_insert_67 rfl (lv_at hl 2 rfl) ?_
                refine lv_iconst (v := nI (1)) hx hb dM_insert_68 (by decide) ?_
                refine r_sub (by omega) hx hb dM_insert_69 ?_
                refine r_iald (q0 := 10) (t0 := 0) hx hb hK hP rfl rfl (by have := okw.len; omega) (by decide) dM_insert_70 ?_
                refine r_top (y := sI (((walked x r (xs r)).txt) (p - 1) + 1)) (sI_s _).symm ?_
                refine wr_calli (w2 := []) (va_runV (As := [.int (nI (r)), .int (nI (k)), .int (sI (((walked x r (xs r)).txt) (p - 1) + 1))]) (rest := []) S (kM_issue D cc q (walked x r (xs r)) (H.size) (r) (k) (((walked x r (xs r)).txt) (p - 1) + 1) hr_r (by omega) (by first | exact Nat.zero_le _ | (have := okw.txt100 (p - 1); omega)) (by have := okw.n; omega) (hg r hr_r) okw) (cwV 3 hts (gd_V wm_294 wm_295 wm_385 wm_4 wm_296) rfl rfl rfl (by decide +kernel) ⟨Nat.le_of_ble_eq_true rfl, Nat.le_of_ble_eq_true rfl⟩) (wr_preV (q0 := 0) hP hE hD rfl rfl) rfl rfl hl.1 rfl (lv_room (Nat.le_of_ble_eq_true rfl)) dM_insert_71 ⟨Nat.le_of_ble_eq_true rfl, Nat.le_of_ble_eq_true rfl⟩) (by rw [List.append_nil]; exact hP) (by rw [List.append_nil]; exact hD) hS hA (fun v_71 u H locs hpo hP hD hS => ?_)
                rw [List.append_nil] at hP hD
                subst hpo
                have hP : va_P D vwCl (wM cc q (issM (walked x r (xs r)) (r) (k) (((walked x r (xs r)).txt) (p - 1) + 1))) H := hP
                have hD : va_D A (wM cc q (issM (walked x r (xs r)) (r) (k) (((walked x r (xs r)).txt) (p - 1) + 1))) := hD
                exact kx _ _ _ _ _ (issM (walked x r (xs r)) (r) (k) (((walked x r (xs r)).txt) (p - 1) + 1)) dM_insert_74 hS hP hD (Or.inr ⟨r, hr_r, rfl, c_10, c_16, Or.inr ⟨p, hp_p, rfl, Or.inr ⟨Nat.lt_of_le_of_ne ok.n c_46, rfl, by unfold befM; first | (rw [if_pos c_56]; done) | (rw [if_neg c_56]; done)⟩⟩⟩)
              · refine lv_iconst (v := sI (0)) hx hb dM_insert_59 (by decide) ?_
                refine lv_goto (tgt := 71) hx hb dM_insert_60 (by decide) ?_
                refine wr_calli (w2 := []) (va_runV (As := [.int (nI (r)), .int (nI (k)), .int (sI (0))]) (rest := []) S (kM_issue D cc q (walked x r (xs r)) (H.size) (r) (k) (0) hr_r (by omega) (by first | exact Nat.zero_le _ | (have := okw.txt100 (p - 1); omega)) (by have := okw.n; omega) (hg r hr_r) okw) (cwV 3 hts (gd_V wm_294 wm_295 wm_385 wm_4 wm_296) rfl rfl rfl (by decide +kernel) ⟨Nat.le_of_ble_eq_true rfl, Nat.le_of_ble_eq_true rfl⟩) (wr_preV (q0 := 0) hP hE hD rfl rfl) rfl rfl hl.1 rfl (lv_room (Nat.le_of_ble_eq_true rfl)) dM_insert_71 ⟨Nat.le_of_ble_eq_true rfl, Nat.le_of_ble_eq_true rfl⟩) (by rw [List.append_nil]; exact hP) (by rw [List.append_nil]; exact hD) hS hA (fun v_71 u H locs hpo hP hD hS => ?_)
                rw [List.append_nil] at hP hD
                subst hpo
                have hP : va_P D vwCl (wM cc q (issM (walked x r (xs r)) (r) (k) (0))) H := hP
                have hD : va_D A (wM cc q (issM (walked x r (xs r)) (r) (k) (0))) := hD
                exact kx _ _ _ _ _ (issM (walked x r (xs r)) (r) (k) (0)) dM_insert_74 hS hP hD (Or.inr ⟨r, hr_r, rfl, c_10, c_16, Or.inr ⟨p, hp_p, rfl, Or.inr ⟨Nat.lt_of_le_of_ne ok.n c_46, rfl, by unfold befM; first | (rw [if_pos c_56]; done) | (rw [if_neg c_56]; done)⟩⟩⟩)
            · refine lv_bipush (v := (-2)) hx hb dM_insert_49 (by decide) ?_
              exact kx _ _ _ _ _ (walked x r (xs r)) dM_insert_51 hS hP hD (Or.inr ⟨r, hr_r, rfl, c_10, c_16, Or.inr ⟨p, hp_p, rfl, Or.inl ⟨c_46, rfl, rfl⟩⟩⟩)
          · refine lv_iconst (v := sI (0)) hx hb dM_insert_38 (by decide) ?_
            exact kx _ _ _ _ _ (walked x r (xs r)) dM_insert_39 hS hP hD (by first | exact Or.inr ⟨r, hr_r, rfl, c_10, c_16, Or.inl ⟨Or.inl c_27, sI_0, rfl⟩⟩ | exact Or.inr ⟨r, hr_r, rfl, c_10, c_16, Or.inl ⟨Or.inr c_35, sI_0, rfl⟩⟩)
      · refine lv_iconst (v := sI (0)) hx hb dM_insert_19 (by decide) ?_
        exact kx _ _ _ _ _ (x) dM_insert_20 hS hP hD (by first | exact Or.inl ⟨Or.inl c_4, sI_0, rfl⟩ | exact Or.inl ⟨Or.inr (Or.inl c_10), sI_0, rfl⟩ | exact Or.inl ⟨Or.inr (Or.inr c_16), sI_0, rfl⟩)

def rmM_erase : Room := { frames := 4, cells := 0, slots := 0, locals := 94 }
set_option maxHeartbeats 4000000 in
set_option maxRecDepth 100000 in
theorem kM_erase {l : Launch} (D : va_G) (cc : Nat → ClassId) (q : Nat → Nat) (x : MS) (sz : Nat) (z1 z2 : Int32) (xs : Nat → List Nat) (hxs : xsOK x xs) (hpar : ∀ k, k < x.nn → x.oth k ≤ k) (hg : ∀ r, r < 3 → gstM x r x.nn < 999) (ok : okM x) : Met l yM_erase wsM_erase rmM_erase (va_Pc [.ref (q 0), .int (z1), .int (z2)] (WP D cc (wM cc q x) sz)) (va_Qi (RM_erase x xs z1 z2) (WQ D cc (va_A (wM cc q x) sz) (fun u : MS => wM cc q u)) (va_A (wM cc q x) sz)) 0 0 (va_A (wM cc q x) sz) := by
  refine wr_meti RM [.ref (q 0), .int (z1), .int (z2)] D cc (wM cc q x) sz (fun u : MS => wM cc q u) _ (by decide) rfl rfl (Nat.le_of_ble_eq_true rfl) (fun v _ _ => vp_nar_int v) ?_
  intro p e s m args below meth c Q A S hP hE hD hA kx ls hl
  obtain ⟨hx, hb, hml, hown, hts⟩ := id S
  have hK := hE.1
  have hts := hE.ts args
  have S : CallFix p m c cM_erase 3 s args wAll RM := ⟨hx, hb, hml, hown, hts⟩
  have hS : va_S A s.heap s.heap [] := va_S.rf
  have hn := ok.n
  have hl : lv_has ls 3 [(0, .ref (q 0)), (1, .int (z1)), (2, .int (z2))] := hl
  refine lv_iload_n hx hb dM_erase_0 rfl (lv_at hl 1 rfl) ?_
  refine W.callR (W.runS (As := [.int (z1)]) (rest := []) S (kM_isReplica ((z1))) (va_cwS 1 hts (gd_S wm_273 wm_274 wm_4 wm_275) rfl rfl rfl (by decide +kernel) ⟨Nat.le_of_ble_eq_true rfl, Nat.le_of_ble_eq_true rfl⟩) preT rfl rfl hl.1 rfl (lv_room (Nat.le_of_ble_eq_true rfl)) dM_erase_1 ⟨Nat.le_of_ble_eq_true rfl, Nat.le_of_ble_eq_true rfl⟩) ?_
  refine W.eq (g2 := F0 m 4 ls [.int (bI (isRep ((z1))))]) rfl ?_
  refine r_neB (tgt := 9) hx hb dM_erase_4 (by decide) (fun c_4 => ?_) (fun c_4 => ?_)
  · obtain ⟨r, hr_r, rfl⟩ := isRep_of c_4
    refine lv_aload_n hx hb dM_erase_9 rfl (lv_at hl 0 rfl) ?_
    refine lv_iload_n hx hb dM_erase_10 rfl (lv_at hl 1 rfl) ?_
    refine wr_callv (w2 := []) (va_runV (As := [.int (nI (r))]) (rest := []) S (kM_walk D cc q (x) (s.heap.size) r (xs r) hr_r hpar ok (hxs r hr_r).1 (hxs r hr_r).2.1 (hxs r hr_r).2.2) (cwV 1 hts (gd_V wm_276 wm_277 wm_379 wm_4 wm_278) rfl rfl rfl (by decide +kernel) ⟨Nat.le_of_ble_eq_true rfl, Nat.le_of_ble_eq_true rfl⟩) (wr_preV (q0 := 0) hP hE hD rfl rfl) rfl rfl hl.1 rfl (lv_room (Nat.le_of_ble_eq_true rfl)) dM_erase_11 ⟨Nat.le_of_ble_eq_true rfl, Nat.le_of_ble_eq_true rfl⟩) (by rw [List.append_nil]; exact hP) (by rw [List.append_nil]; exact hD) hS hA (fun u H locs hpo hP hD hS => ?_)
    rw [List.append_nil] at hP hD
    have hP : va_P D vwCl (wM cc q (walked x r (xs r))) H := hP
    have hD : va_D A (wM cc q (walked x r (xs r))) := hD
    have okw : okM (walked x r (xs r)) := okM_walked ok (hxs r hr_r).2.1 (hxs r hr_r).2.2
    refine lv_iload_n hx hb dM_erase_14 rfl (lv_at hl 2 rfl) ?_
    refine lv_if_lt (tgt := 26) hx hb dM_erase_15 (by decide) (fun c_15 => ?_) (fun c_15 => ?_)
    · refine lv_iconst (v := sI (0)) hx hb dM_erase_26 (by decide) ?_
      exact kx _ _ _ _ _ (walked x r (xs r)) dM_erase_27 hS hP hD (by first | exact Or.inr ⟨r, hr_r, rfl, Or.inl ⟨Or.inl c_15, sI_0, rfl⟩⟩ | exact Or.inr ⟨r, hr_r, rfl, Or.inl ⟨Or.inr (Int32.not_lt.mp c_23), sI_0, rfl⟩⟩)
    · refine lv_iload_n hx hb dM_erase_18 rfl (lv_at hl 2 rfl) ?_
      refine lv_aload_n hx hb dM_erase_19 rfl (lv_at hl 0 rfl) ?_
      refine va_get (D := D) (ci := 3) (v := .int (nI ((walked x r (xs r)).len))) (C := RM) (T := TM) (N := 13) hx hb hts in_M hown hK hP 0 rfl rfl 10 (by decide) (hts _ wm_253) (fun _ h9 => h9) rfl dM_erase_20 ?_
      refine lv_icmp_lt (tgt := 28) hx hb dM_erase_23 (by decide) (fun c_23 => ?_) (fun c_23 => ?_)
      · obtain ⟨p, hp_p, rfl⟩ := z_lt (c_15) (Int32.not_le.mpr c_23) okw.len
        have hle := okw.len
        refine lv_aload_n hx hb dM_erase_28 rfl (lv_at hl 0 rfl) ?_
        refine va_get (D := D) (ci := 3) (v := .int (nI ((walked x r (xs r)).nn))) (C := RM) (T := TM) (N := 13) hx hb hts in_M hown hK hP 0 rfl rfl 0 (by decide) (hts _ wm_243) (fun _ h9 => h9) rfl dM_erase_29 ?_
        refine lv_bipush (v := nI (100)) hx hb dM_erase_32 (by decide) ?_
        refine r_ne (Nat.lt_of_le_of_lt okw.n (by decide)) (by decide) (tgt := 40) hx hb dM_erase_34 (by decide) (fun c_34 => ?_) (fun c_34 => ?_)
        · refine lv_aload_n hx hb dM_erase_40 rfl (lv_at hl 0 rfl) ?_
          refine lv_iload_n hx hb dM_erase_41 rfl (lv_at hl 1 rfl) ?_
          refine lv_iconst (v := nI (0)) hx hb dM_erase_42 (by decide) ?_
          refine lv_aload_n hx hb dM_erase_43 rfl (lv_at hl 0 rfl) ?_
          refine va_get (D := D) (ci := 3) (v := .ref (q 10)) (C := RM) (T := TM) (N := 13) hx hb hts in_M hown hK hP 0 rfl rfl 11 (by decide) (hts _ wm_254) (fun _ h9 => h9) rfl dM_erase_44 ?_
          refine lv_iload_n hx hb dM_erase_47 rfl (lv_at hl 2 rfl) ?_
          refine r_iald (q0 := 10) (t0 := 0) hx hb hK hP rfl rfl (by have := okw.len; omega) (by decide) dM_erase_48 ?_
          refine r_top (y := sI (((walked x r (xs r)).txt) p + 1)) (sI_s _).symm ?_
          refine wr_calli (w2 := []) (va_runV (As := [.int (nI (r)), .int (nI (0)), .int (sI (((walked x r (xs r)).txt) p + 1))]) (rest := []) S (kM_issue D cc q (walked x r (xs r)) (H.size) (r) (0) (((walked x r (xs r)).txt) p + 1) hr_r (by omega) (by have := okw.txt100 p; omega) (by have := okw.n; omega) (hg r hr_r) okw) (cwV 3 hts (gd_V wm_294 wm_295 wm_385 wm_4 wm_296) rfl rfl rfl (by decide +kernel) ⟨Nat.le_of_ble_eq_true rfl, Nat.le_of_ble_eq_true rfl⟩) (wr_preV (q0 := 0) hP hE hD rfl rfl) rfl rfl hl.1 rfl (lv_room (Nat.le_of_ble_eq_true rfl)) dM_erase_49 ⟨Nat.le_of_ble_eq_true rfl, Nat.le_of_ble_eq_true rfl⟩) (by rw [List.append_nil]; exact hP) (by rw [List.append_nil]; exact hD) hS hA (fun v_49 u H locs hpo hP hD hS => ?_)
          rw [List.append_nil] at hP hD
          subst hpo
          have hP : va_P D vwCl (wM cc q (issM (walked x r (xs r)) (r) (0) (((walked x r (xs r)).txt) p + 1))) H := hP
          have hD : va_D A (wM cc q (issM (walked x r (xs r)) (r) (0) (((walked x r (xs r)).txt) p + 1))) := hD
          exact kx _ _ _ _ _ (issM (walked x r (xs r)) (r) (0) (((walked x r (xs r)).txt) p + 1)) dM_erase_52 hS hP hD (Or.inr ⟨r, hr_r, rfl, Or.inr ⟨p, hp_p, rfl, Or.inr ⟨Nat.lt_of_le_of_ne ok.n c_34, rfl, rfl⟩⟩⟩)
        · refine lv_bipush (v := (-2)) hx hb dM_erase_37 (by decide) ?_
          exact kx _ _ _ _ _ (walked x r (xs r)) dM_erase_39 hS hP hD (Or.inr ⟨r, hr_r, rfl, Or.inr ⟨p, hp_p, rfl, Or.inl ⟨c_34, rfl, rfl⟩⟩⟩)
      · refine lv_iconst (v := sI (0)) hx hb dM_erase_26 (by decide) ?_
        exact kx _ _ _ _ _ (walked x r (xs r)) dM_erase_27 hS hP hD (by first | exact Or.inr ⟨r, hr_r, rfl, Or.inl ⟨Or.inl c_15, sI_0, rfl⟩⟩ | exact Or.inr ⟨r, hr_r, rfl, Or.inl ⟨Or.inr (Int32.not_lt.mp c_23), sI_0, rfl⟩⟩)
  · refine lv_iconst (v := sI (0)) hx hb dM_erase_7 (by decide) ?_
    exact kx _ _ _ _ _ (x) dM_erase_8 hS hP hD (Or.inl ⟨c_4, sI_0, rfl⟩)

def rmM_length : Room := { frames := 4, cells := 0, slots := 0, locals := 94 }
set_option maxHeartbeats 4000000 in
set_option maxRecDepth 100000 in
theorem kM_length {l : Launch} (D : va_G) (cc : Nat → ClassId) (q : Nat → Nat) (x : MS) (sz : Nat) (z1 : Int32) (xs : Nat → List Nat) (hxs : xsOK x xs) (hpar : ∀ k, k < x.nn → x.oth k ≤ k) (ok : okM x) : Met l yM_length wsM_length rmM_length (va_Pc [.ref (q 0), .int (z1)] (WP D cc (wM cc q x) sz)) (va_Qi (RM_length x xs z1) (WQ D cc (va_A (wM cc q x) sz) (fun u : MS => wM cc q u)) (va_A (wM cc q x) sz)) 0 0 (va_A (wM cc q x) sz) := by
  refine wr_meti RM [.ref (q 0), .int (z1)] D cc (wM cc q x) sz (fun u : MS => wM cc q u) _ (by decide) rfl rfl (Nat.le_of_ble_eq_true rfl) (fun v _ _ => vp_nar_int v) ?_
  intro p e s m args below meth c Q A S hP hE hD hA kx ls hl
  obtain ⟨hx, hb, hml, hown, hts⟩ := id S
  have hK := hE.1
  have hts := hE.ts args
  have S : CallFix p m c cM_length 2 s args wAll RM := ⟨hx, hb, hml, hown, hts⟩
  have hS : va_S A s.heap s.heap [] := va_S.rf
  have hn := ok.n
  have hl : lv_has ls 2 [(0, .ref (q 0)), (1, .int (z1))] := hl
  refine lv_iload_n hx hb dM_length_0 rfl (lv_at hl 1 rfl) ?_
  refine W.callR (W.runS (As := [.int (z1)]) (rest := []) S (kM_isReplica ((z1))) (va_cwS 1 hts (gd_S wm_273 wm_274 wm_4 wm_275) rfl rfl rfl (by decide +kernel) ⟨Nat.le_of_ble_eq_true rfl, Nat.le_of_ble_eq_true rfl⟩) preT rfl rfl hl.1 rfl (lv_room (Nat.le_of_ble_eq_true rfl)) dM_length_1 ⟨Nat.le_of_ble_eq_true rfl, Nat.le_of_ble_eq_true rfl⟩) ?_
  refine W.eq (g2 := F0 m 4 ls [.int (bI (isRep ((z1))))]) rfl ?_
  refine r_neB (tgt := 9) hx hb dM_length_4 (by decide) (fun c_4 => ?_) (fun c_4 => ?_)
  · obtain ⟨r, hr_r, rfl⟩ := isRep_of c_4
    refine lv_aload_n hx hb dM_length_9 rfl (lv_at hl 0 rfl) ?_
    refine lv_iload_n hx hb dM_length_10 rfl (lv_at hl 1 rfl) ?_
    refine wr_callv (w2 := []) (va_runV (As := [.int (nI (r))]) (rest := []) S (kM_walk D cc q (x) (s.heap.size) r (xs r) hr_r hpar ok (hxs r hr_r).1 (hxs r hr_r).2.1 (hxs r hr_r).2.2) (cwV 1 hts (gd_V wm_276 wm_277 wm_379 wm_4 wm_278) rfl rfl rfl (by decide +kernel) ⟨Nat.le_of_ble_eq_true rfl, Nat.le_of_ble_eq_true rfl⟩) (wr_preV (q0 := 0) hP hE hD rfl rfl) rfl rfl hl.1 rfl (lv_room (Nat.le_of_ble_eq_true rfl)) dM_length_11 ⟨Nat.le_of_ble_eq_true rfl, Nat.le_of_ble_eq_true rfl⟩) (by rw [List.append_nil]; exact hP) (by rw [List.append_nil]; exact hD) hS hA (fun u H locs hpo hP hD hS => ?_)
    rw [List.append_nil] at hP hD
    have hP : va_P D vwCl (wM cc q (walked x r (xs r))) H := hP
    have hD : va_D A (wM cc q (walked x r (xs r))) := hD
    have okw : okM (walked x r (xs r)) := okM_walked ok (hxs r hr_r).2.1 (hxs r hr_r).2.2
    refine lv_aload_n hx hb dM_length_14 rfl (lv_at hl 0 rfl) ?_
    refine va_get (D := D) (ci := 3) (v := .int (nI ((walked x r (xs r)).len))) (C := RM) (T := TM) (N := 13) hx hb hts in_M hown hK hP 0 rfl rfl 10 (by decide) (hts _ wm_253) (fun _ h9 => h9) rfl dM_length_15 ?_
    exact kx _ _ _ _ _ (walked x r (xs r)) dM_length_18 hS hP hD (Or.inr ⟨r, hr_r, rfl, rfl, rfl⟩)
  · refine lv_iconst (v := sI (0)) hx hb dM_length_7 (by decide) ?_
    exact kx _ _ _ _ _ (x) dM_length_8 hS hP hD (Or.inl ⟨c_4, sI_0, rfl⟩)

def rmM_at : Room := { frames := 4, cells := 0, slots := 0, locals := 94 }
set_option maxHeartbeats 4000000 in
set_option maxRecDepth 100000 in
theorem kM_at {l : Launch} (D : va_G) (cc : Nat → ClassId) (q : Nat → Nat) (x : MS) (sz : Nat) (z1 z2 : Int32) (xs : Nat → List Nat) (hxs : xsOK x xs) (hpar : ∀ k, k < x.nn → x.oth k ≤ k) (ok : okM x) : Met l yM_at wsM_at rmM_at (va_Pc [.ref (q 0), .int (z1), .int (z2)] (WP D cc (wM cc q x) sz)) (va_Qi (RM_at x xs z1 z2) (WQ D cc (va_A (wM cc q x) sz) (fun u : MS => wM cc q u)) (va_A (wM cc q x) sz)) 0 0 (va_A (wM cc q x) sz) := by
  refine wr_meti RM [.ref (q 0), .int (z1), .int (z2)] D cc (wM cc q x) sz (fun u : MS => wM cc q u) _ (by decide) rfl rfl (Nat.le_of_ble_eq_true rfl) (fun v _ _ => vp_nar_int v) ?_
  intro p e s m args below meth c Q A S hP hE hD hA kx ls hl
  obtain ⟨hx, hb, hml, hown, hts⟩ := id S
  have hK := hE.1
  have hts := hE.ts args
  have S : CallFix p m c cM_at 3 s args wAll RM := ⟨hx, hb, hml, hown, hts⟩
  have hS : va_S A s.heap s.heap [] := va_S.rf
  have hn := ok.n
  have hl : lv_has ls 3 [(0, .ref (q 0)), (1, .int (z1)), (2, .int (z2))] := hl
  refine lv_iload_n hx hb dM_at_0 rfl (lv_at hl 1 rfl) ?_
  refine W.callR (W.runS (As := [.int (z1)]) (rest := []) S (kM_isReplica ((z1))) (va_cwS 1 hts (gd_S wm_273 wm_274 wm_4 wm_275) rfl rfl rfl (by decide +kernel) ⟨Nat.le_of_ble_eq_true rfl, Nat.le_of_ble_eq_true rfl⟩) preT rfl rfl hl.1 rfl (lv_room (Nat.le_of_ble_eq_true rfl)) dM_at_1 ⟨Nat.le_of_ble_eq_true rfl, Nat.le_of_ble_eq_true rfl⟩) ?_
  refine W.eq (g2 := F0 m 4 ls [.int (bI (isRep ((z1))))]) rfl ?_
  refine r_eqB (tgt := 11) hx hb dM_at_4 (by decide) (fun c_4 => ?_) (fun c_4 => ?_)
  · refine lv_iconst (v := sI (0)) hx hb dM_at_11 (by decide) ?_
    exact kx _ _ _ _ _ (x) dM_at_12 hS hP hD (by first | exact Or.inl ⟨Or.inl c_4, sI_0, rfl⟩ | exact Or.inl ⟨Or.inr c_8, sI_0, rfl⟩)
  · refine lv_iload_n hx hb dM_at_7 rfl (lv_at hl 2 rfl) ?_
    refine lv_if_ge (tgt := 13) hx hb dM_at_8 (by decide) (fun c_8 => ?_) (fun c_8 => ?_)
    · obtain ⟨r, hr_r, rfl⟩ := isRep_of c_4
      refine lv_aload_n hx hb dM_at_13 rfl (lv_at hl 0 rfl) ?_
      refine lv_iload_n hx hb dM_at_14 rfl (lv_at hl 1 rfl) ?_
      refine wr_callv (w2 := []) (va_runV (As := [.int (nI (r))]) (rest := []) S (kM_walk D cc q (x) (s.heap.size) r (xs r) hr_r hpar ok (hxs r hr_r).1 (hxs r hr_r).2.1 (hxs r hr_r).2.2) (cwV 1 hts (gd_V wm_276 wm_277 wm_379 wm_4 wm_278) rfl rfl rfl (by decide +kernel) ⟨Nat.le_of_ble_eq_true rfl, Nat.le_of_ble_eq_true rfl⟩) (wr_preV (q0 := 0) hP hE hD rfl rfl) rfl rfl hl.1 rfl (lv_room (Nat.le_of_ble_eq_true rfl)) dM_at_15 ⟨Nat.le_of_ble_eq_true rfl, Nat.le_of_ble_eq_true rfl⟩) (by rw [List.append_nil]; exact hP) (by rw [List.append_nil]; exact hD) hS hA (fun u H locs hpo hP hD hS => ?_)
      rw [List.append_nil] at hP hD
      have hP : va_P D vwCl (wM cc q (walked x r (xs r))) H := hP
      have hD : va_D A (wM cc q (walked x r (xs r))) := hD
      have okw : okM (walked x r (xs r)) := okM_walked ok (hxs r hr_r).2.1 (hxs r hr_r).2.2
      refine lv_iload_n hx hb dM_at_18 rfl (lv_at hl 2 rfl) ?_
      refine lv_aload_n hx hb dM_at_19 rfl (lv_at hl 0 rfl) ?_
      refine va_get (D := D) (ci := 3) (v := .int (nI ((walked x r (xs r)).len))) (C := RM) (T := TM) (N := 13) hx hb hts in_M hown hK hP 0 rfl rfl 10 (by decide) (hts _ wm_253) (fun _ h9 => h9) rfl dM_at_20 ?_
      refine lv_icmp_ge (tgt := 40) hx hb dM_at_23 (by decide) (fun c_23 => ?_) (fun c_23 => ?_)
      · refine lv_iconst (v := sI (0)) hx hb dM_at_40 (by decide) ?_
        exact kx _ _ _ _ _ (walked x r (xs r)) dM_at_41 hS hP hD (by first | exact Or.inr ⟨r, hr_r, rfl, c_8, rfl, Or.inl ⟨c_23, sI_0⟩⟩ | exact Or.inr ⟨r, hr_r, rfl, c_8, rfl, Or.inr ⟨p, hp_p, rfl, rfl⟩⟩)
      · obtain ⟨p, hp_p, rfl⟩ := z_lt (z_ge0 c_8) c_23 okw.len
        have hle := okw.len
        refine lv_aload_n hx hb dM_at_26 rfl (lv_at hl 0 rfl) ?_
        refine va_get (D := D) (ci := 3) (v := .ref (q 4)) (C := RM) (T := TM) (N := 13) hx hb hts in_M hown hK hP 0 rfl rfl 4 (by decide) (hts _ wm_247) (fun _ h9 => h9) rfl dM_at_27 ?_
        refine lv_aload_n hx hb dM_at_30 rfl (lv_at hl 0 rfl) ?_
        refine va_get (D := D) (ci := 3) (v := .ref (q 10)) (C := RM) (T := TM) (N := 13) hx hb hts in_M hown hK hP 0 rfl rfl 11 (by decide) (hts _ wm_254) (fun _ h9 => h9) rfl dM_at_31 ?_
        refine lv_iload_n hx hb dM_at_34 rfl (lv_at hl 2 rfl) ?_
        refine r_iald (q0 := 10) (t0 := 0) hx hb hK hP rfl rfl (by have := okw.len; omega) (by decide) dM_at_35 ?_
        refine r_iald (q0 := 4) (t0 := 0) hx hb hK hP rfl rfl (okw.txt100 _) (by decide) dM_at_36 ?_
        refine lv_goto (tgt := 41) hx hb dM_at_37 (by decide) ?_
        exact kx _ _ _ _ _ (walked x r (xs r)) dM_at_41 hS hP hD (by first | exact Or.inr ⟨r, hr_r, rfl, c_8, rfl, Or.inl ⟨c_23, sI_0⟩⟩ | exact Or.inr ⟨r, hr_r, rfl, c_8, rfl, Or.inr ⟨p, hp_p, rfl, rfl⟩⟩)
    · refine lv_iconst (v := sI (0)) hx hb dM_at_11 (by decide) ?_
      exact kx _ _ _ _ _ (x) dM_at_12 hS hP hD (by first | exact Or.inl ⟨Or.inl c_4, sI_0, rfl⟩ | exact Or.inl ⟨Or.inr c_8, sI_0, rfl⟩)

def rmM_position : Room := { frames := 4, cells := 0, slots := 0, locals := 94 }
set_option maxHeartbeats 4000000 in
set_option maxRecDepth 100000 in
theorem kM_position {l : Launch} (D : va_G) (cc : Nat → ClassId) (q : Nat → Nat) (x : MS) (sz : Nat) (z1 z2 : Int32) (xs : Nat → List Nat) (hxs : xsOK x xs) (hpar : ∀ k, k < x.nn → x.oth k ≤ k) (ok : okM x) : Met l yM_position wsM_position rmM_position (va_Pc [.ref (q 0), .int (z1), .int (z2)] (WP D cc (wM cc q x) sz)) (va_Qi (RM_position x xs z1 z2) (WQ D cc (va_A (wM cc q x) sz) (fun u : MS => wM cc q u)) (va_A (wM cc q x) sz)) 0 0 (va_A (wM cc q x) sz) := by
  refine wr_meti RM [.ref (q 0), .int (z1), .int (z2)] D cc (wM cc q x) sz (fun u : MS => wM cc q u) _ (by decide) rfl rfl (Nat.le_of_ble_eq_true rfl) (fun v _ _ => vp_nar_int v) ?_
  intro p e s m args below meth c Q A S hP hE hD hA kx ls hl
  obtain ⟨hx, hb, hml, hown, hts⟩ := id S
  have hK := hE.1
  have hts := hE.ts args
  have S : CallFix p m c cM_position 5 s args wAll RM := ⟨hx, hb, hml, hown, hts⟩
  have hS : va_S A s.heap s.heap [] := va_S.rf
  have hn := ok.n
  have hl : lv_has ls 5 [(0, .ref (q 0)), (1, .int (z1)), (2, .int (z2))] := hl
  refine lv_iload_n hx hb dM_position_0 rfl (lv_at hl 1 rfl) ?_
  refine W.callR (W.runS (As := [.int (z1)]) (rest := []) S (kM_isReplica ((z1))) (va_cwS 1 hts (gd_S wm_273 wm_274 wm_4 wm_275) rfl rfl rfl (by decide +kernel) ⟨Nat.le_of_ble_eq_true rfl, Nat.le_of_ble_eq_true rfl⟩) preT rfl rfl hl.1 rfl (lv_room (Nat.le_of_ble_eq_true rfl)) dM_position_1 ⟨Nat.le_of_ble_eq_true rfl, Nat.le_of_ble_eq_true rfl⟩) ?_
  refine W.eq (g2 := F0 m 4 ls [.int (bI (isRep ((z1))))]) rfl ?_
  refine r_eqB (tgt := 15) hx hb dM_position_4 (by decide) (fun c_4 => ?_) (fun c_4 => ?_)
  · refine lv_iconst (v := sI (0)) hx hb dM_position_15 (by decide) ?_
    exact kx _ _ _ _ _ (x) dM_position_16 hS hP hD (by first | exact Or.inl ⟨Or.inl c_4, sI_0, rfl⟩ | exact Or.inl ⟨Or.inr c_12, sI_0, rfl⟩)
  · obtain ⟨r, hr_r, rfl⟩ := isRep_of c_4
    refine lv_aload_n hx hb dM_position_7 rfl (lv_at hl 0 rfl) ?_
    refine lv_iload_n hx hb dM_position_8 rfl (lv_at hl 2 rfl) ?_
    refine W.callR (W.runV (As := [.int (z2)]) (rest := []) S (kM_isOperation D cc q x ((z2)) ok) (cwV 1 hts (gd_V wm_308 wm_309 wm_387 wm_4 wm_310) rfl rfl rfl (by decide +kernel) ⟨Nat.le_of_ble_eq_true rfl, Nat.le_of_ble_eq_true rfl⟩) (rd_preV (q0 := 0) hP hE rfl rfl) rfl rfl hl.1 rfl (lv_room (Nat.le_of_ble_eq_true rfl)) dM_position_9 ⟨Nat.le_of_ble_eq_true rfl, Nat.le_of_ble_eq_true rfl⟩) ?_
    refine W.eq (g2 := F0 m 12 ls [.int (bI (isOp x.nn ((z2))))]) rfl ?_
    refine r_neB (tgt := 17) hx hb dM_position_12 (by decide) (fun c_12 => ?_) (fun c_12 => ?_)
    · obtain ⟨o, ho_o, rfl⟩ := isOp_of c_12
      refine lv_aload_n hx hb dM_position_17 rfl (lv_at hl 0 rfl) ?_
      refine lv_iload_n hx hb dM_position_18 rfl (lv_at hl 1 rfl) ?_
      refine wr_callv (w2 := []) (va_runV (As := [.int (nI (r))]) (rest := []) S (kM_walk D cc q (x) (s.heap.size) r (xs r) hr_r hpar ok (hxs r hr_r).1 (hxs r hr_r).2.1 (hxs r hr_r).2.2) (cwV 1 hts (gd_V wm_276 wm_277 wm_379 wm_4 wm_278) rfl rfl rfl (by decide +kernel) ⟨Nat.le_of_ble_eq_true rfl, Nat.le_of_ble_eq_true rfl⟩) (wr_preV (q0 := 0) hP hE hD rfl rfl) rfl rfl hl.1 rfl (lv_room (Nat.le_of_ble_eq_true rfl)) dM_position_19 ⟨Nat.le_of_ble_eq_true rfl, Nat.le_of_ble_eq_true rfl⟩) (by rw [List.append_nil]; exact hP) (by rw [List.append_nil]; exact hD) hS hA (fun u H locs hpo hP hD hS => ?_)
      rw [List.append_nil] at hP hD
      have hP : va_P D vwCl (wM cc q (walked x r (xs r))) H := hP
      have hD : va_D A (wM cc q (walked x r (xs r))) := hD
      have okw : okM (walked x r (xs r)) := okM_walked ok (hxs r hr_r).2.1 (hxs r hr_r).2.2
      have L27 : ∀ (n : Nat) (c2 : Nat) (k : Nat) (H : Heap) (locs : List Loc) (hP : va_P D vwCl (wM cc q (walked x r (xs r))) H) (hD : va_D A (wM cc q (walked x r (xs r)))) (hS : va_S A s.heap H locs) (ls : Array Slot) (h1 : k ≤ (walked x r (xs r)).len) (h2 : (walked x r (xs r)).len - k < n) (g1 : c2 = posF (walked x r (xs r)).txt o k), lv_has ls 5 [(0, .ref (q 0)), (1, .int (nI (r))), (2, .int (nI (o))), (3, .int (sI (c2))), (4, .int (nI (k)))] → W p l e rmM_position s m args below meth c H locs 0 0 Q (F0 m 27 ls []) := by
        intro n
        induction n with
        | zero => intro c2 k H locs hP hD hS ls h1 h2 g1 hl; exact absurd h2 (Nat.not_lt_zero _)
        | succ n ih =>
          intro c2 k H locs hP hD hS ls h1 h2 g1 hl
          have hle := okw.len
          refine lv_iload hx hb dM_position_27 (lv_at hl 4 rfl) ?_
          refine lv_aload_n hx hb dM_position_29 rfl (lv_at hl 0 rfl) ?_
          refine va_get (D := D) (ci := 3) (v := .int (nI ((walked x r (xs r)).len))) (C := RM) (T := TM) (N := 13) hx hb hts in_M hown hK hP 0 rfl rfl 10 (by decide) (hts _ wm_253) (fun _ h9 => h9) rfl dM_position_30 ?_
          refine r_ge (by omega) (Nat.lt_of_le_of_lt okw.len (by decide)) (tgt := 60) hx hb dM_position_33 (by decide) (fun c_33 => ?_) (fun c_33 => ?_)
          · refine lv_iload_n hx hb dM_position_60 rfl (lv_at hl 3 rfl) ?_
            obtain rfl : k = (walked x r (xs r)).len := by omega
            exact kx _ _ _ _ _ (walked x r (xs r)) dM_position_61 hS hP hD (Or.inr ⟨r, o, hr_r, rfl, ho_o, rfl, by rw [g1], rfl⟩)
          · refine lv_aload_n hx hb dM_position_36 rfl (lv_at hl 0 rfl) ?_
            refine va_get (D := D) (ci := 3) (v := .ref (q 10)) (C := RM) (T := TM) (N := 13) hx hb hts in_M hown hK hP 0 rfl rfl 11 (by decide) (hts _ wm_254) (fun _ h9 => h9) rfl dM_position_37 ?_
            refine lv_iload hx hb dM_position_40 (lv_at hl 4 rfl) ?_
            refine r_iald (q0 := 10) (t0 := 0) hx hb hK hP rfl rfl (by have := okw.len; omega) (by decide) dM_position_42 ?_
            refine lv_iload_n hx hb dM_position_43 rfl (lv_at hl 2 rfl) ?_
            refine r_ne (okw.txt (k)) (by omega) (tgt := 52) hx hb dM_position_44 (by decide) (fun c_44 => ?_) (fun c_44 => ?_)
            · refine lv_iload_n hx hb dM_position_52 rfl (lv_at hl 3 rfl) ?_
              refine lv_istore_n (lv' := [(3, .int (sI (c2))), (0, .ref (q 0)), (1, .int (nI (r))), (2, .int (nI (o))), (4, .int (nI (k)))]) hx hb dM_position_53 rfl hl (by decide) rfl (fun ls hl => ?_)
              refine lv_iinc (v := nI (k + 1)) (lv' := [(4, .int (nI (k + 1))), (3, .int (sI (c2))), (0, .ref (q 0)), (1, .int (nI (r))), (2, .int (nI (o)))]) hx hb dM_position_54 hl (k := 4) rfl (nI_1 _) (by decide) rfl (fun ls hl => ?_)
              refine lv_goto (tgt := 27) hx hb dM_position_57 (by decide) ?_
              exact ih  (c2) (k + 1) H locs hP hD hS ls (by omega) (by omega) (by first | rfl | (rw [posF_t c_44]; done) | (rw [posF_f c_44]; exact g1)) (lv_sub hl [2, 3, 4, 1, 0] rfl)
            · refine lv_iload hx hb dM_position_47 (lv_at hl 4 rfl) ?_
              refine lv_goto (tgt := 53) hx hb dM_position_49 (by decide) ?_
              refine r_top (y := sI (k + 1)) ((sI_s _).symm) ?_
              refine lv_istore_n (lv' := [(3, .int (sI (k + 1))), (0, .ref (q 0)), (1, .int (nI (r))), (2, .int (nI (o))), (4, .int (nI (k)))]) hx hb dM_position_53 rfl hl (by decide) rfl (fun ls hl => ?_)
              refine lv_iinc (v := nI (k + 1)) (lv' := [(4, .int (nI (k + 1))), (3, .int (sI (k + 1))), (0, .ref (q 0)), (1, .int (nI (r))), (2, .int (nI (o)))]) hx hb dM_position_54 hl (k := 4) rfl (nI_1 _) (by decide) rfl (fun ls hl => ?_)
              refine lv_goto (tgt := 27) hx hb dM_position_57 (by decide) ?_
              exact ih  (k + 1) (k + 1) H locs hP hD hS ls (by omega) (by omega) (by first | rfl | (rw [posF_t c_44]; done) | (rw [posF_f c_44]; exact g1)) (lv_sub hl [2, 3, 4, 1, 0] rfl)
      refine lv_iconst (v := sI (0)) hx hb dM_position_22 (by decide) ?_
      refine lv_istore_n (lv' := [(3, .int (sI (0))), (0, .ref (q 0)), (1, .int (nI (r))), (2, .int (nI (o)))]) hx hb dM_position_23 rfl hl (by decide) rfl (fun ls hl => ?_)
      refine lv_iconst (v := nI (0)) hx hb dM_position_24 (by decide) ?_
      refine lv_istore (lv' := [(4, .int (nI (0))), (3, .int (sI (0))), (0, .ref (q 0)), (1, .int (nI (r))), (2, .int (nI (o)))]) hx hb dM_position_25 hl (by decide) rfl (fun ls hl => ?_)
      exact L27 ((walked x r (xs r)).len + 1) (0) (0) H locs hP hD hS ls (by omega) (by omega) (by first | rfl | (rw [posF_t c_44]; done) | (rw [posF_f c_44]; exact g1)) (lv_sub hl [2, 3, 4, 1, 0] rfl)
    · refine lv_iconst (v := sI (0)) hx hb dM_position_15 (by decide) ?_
      exact kx _ _ _ _ _ (x) dM_position_16 hS hP hD (by first | exact Or.inl ⟨Or.inl c_4, sI_0, rfl⟩ | exact Or.inl ⟨Or.inr c_12, sI_0, rfl⟩)

def rmM_same : Room := { frames := 4, cells := 0, slots := 0, locals := 94 }
set_option maxHeartbeats 4000000 in
set_option maxRecDepth 100000 in
theorem kM_same {l : Launch} (D : va_G) (cc : Nat → ClassId) (q : Nat → Nat) (x : MS) (sz : Nat) (z1 z2 : Int32) (xs : Nat → List Nat) (hxs : xsOK x xs) (hpar : ∀ k, k < x.nn → x.oth k ≤ k) (ok : okM x) : Met l yM_same wsM_same rmM_same (va_Pc [.ref (q 0), .int (z1), .int (z2)] (WP D cc (wM cc q x) sz)) (va_Qi (RM_same x xs z1 z2) (WQ D cc (va_A (wM cc q x) sz) (fun u : MS => wM cc q u)) (va_A (wM cc q x) sz)) 0 0 (va_A (wM cc q x) sz) := by
  refine wr_meti RM [.ref (q 0), .int (z1), .int (z2)] D cc (wM cc q x) sz (fun u : MS => wM cc q u) _ (by decide) rfl rfl (Nat.le_of_ble_eq_true rfl) (fun v u h => by rcases h with ⟨-, rfl, -⟩ | ⟨_, _, _, _, _, _, rfl, -⟩ <;> exact bI_z _) ?_
  intro p e s m args below meth c Q A S hP hE hD hA kx ls hl
  obtain ⟨hx, hb, hml, hown, hts⟩ := id S
  have hK := hE.1
  have hts := hE.ts args
  have S : CallFix p m c cM_same 6 s args wAll RM := ⟨hx, hb, hml, hown, hts⟩
  have hS : va_S A s.heap s.heap [] := va_S.rf
  have hn := ok.n
  have hl : lv_has ls 6 [(0, .ref (q 0)), (1, .int (z1)), (2, .int (z2))] := hl
  refine lv_iload_n hx hb dM_same_0 rfl (lv_at hl 1 rfl) ?_
  refine W.callR (W.runS (As := [.int (z1)]) (rest := []) S (kM_isReplica ((z1))) (va_cwS 1 hts (gd_S wm_273 wm_274 wm_4 wm_275) rfl rfl rfl (by decide +kernel) ⟨Nat.le_of_ble_eq_true rfl, Nat.le_of_ble_eq_true rfl⟩) preT rfl rfl hl.1 rfl (lv_room (Nat.le_of_ble_eq_true rfl)) dM_same_1 ⟨Nat.le_of_ble_eq_true rfl, Nat.le_of_ble_eq_true rfl⟩) ?_
  refine W.eq (g2 := F0 m 4 ls [.int (bI (isRep ((z1))))]) rfl ?_
  refine r_eqB (tgt := 14) hx hb dM_same_4 (by decide) (fun c_4 => ?_) (fun c_4 => ?_)
  · refine lv_iconst (v := bI (false)) hx hb dM_same_14 (by decide) ?_
    exact kx _ _ _ _ _ (x) dM_same_15 hS hP hD (by first | exact Or.inl ⟨Or.inl c_4, rfl, rfl⟩ | exact Or.inl ⟨Or.inr c_11, rfl, rfl⟩)
  · obtain ⟨r, hr_r, rfl⟩ := isRep_of c_4
    refine lv_iload_n hx hb dM_same_7 rfl (lv_at hl 2 rfl) ?_
    refine W.callR (W.runS (As := [.int (z2)]) (rest := []) S (kM_isReplica ((z2))) (va_cwS 1 hts (gd_S wm_273 wm_274 wm_4 wm_275) rfl rfl rfl (by decide +kernel) ⟨Nat.le_of_ble_eq_true rfl, Nat.le_of_ble_eq_true rfl⟩) preT rfl rfl hl.1 rfl (lv_room (Nat.le_of_ble_eq_true rfl)) dM_same_8 ⟨Nat.le_of_ble_eq_true rfl, Nat.le_of_ble_eq_true rfl⟩) ?_
    refine W.eq (g2 := F0 m 11 ls [.int (bI (isRep ((z2))))]) rfl ?_
    refine r_neB (tgt := 16) hx hb dM_same_11 (by decide) (fun c_11 => ?_) (fun c_11 => ?_)
    · obtain ⟨t, hr_t, rfl⟩ := isRep_of c_11
      refine lv_aload_n hx hb dM_same_16 rfl (lv_at hl 0 rfl) ?_
      refine lv_iload_n hx hb dM_same_17 rfl (lv_at hl 1 rfl) ?_
      refine wr_callv (w2 := []) (va_runV (As := [.int (nI (r))]) (rest := []) S (kM_walk D cc q (x) (s.heap.size) r (xs r) hr_r hpar ok (hxs r hr_r).1 (hxs r hr_r).2.1 (hxs r hr_r).2.2) (cwV 1 hts (gd_V wm_276 wm_277 wm_379 wm_4 wm_278) rfl rfl rfl (by decide +kernel) ⟨Nat.le_of_ble_eq_true rfl, Nat.le_of_ble_eq_true rfl⟩) (wr_preV (q0 := 0) hP hE hD rfl rfl) rfl rfl hl.1 rfl (lv_room (Nat.le_of_ble_eq_true rfl)) dM_same_18 ⟨Nat.le_of_ble_eq_true rfl, Nat.le_of_ble_eq_true rfl⟩) (by rw [List.append_nil]; exact hP) (by rw [List.append_nil]; exact hD) hS hA (fun u H locs hpo hP hD hS => ?_)
      rw [List.append_nil] at hP hD
      have hP : va_P D vwCl (wM cc q (walked x r (xs r))) H := hP
      have hD : va_D A (wM cc q (walked x r (xs r))) := hD
      have okw : okM (walked x r (xs r)) := okM_walked ok (hxs r hr_r).2.1 (hxs r hr_r).2.2
      refine lv_aload_n hx hb dM_same_21 rfl (lv_at hl 0 rfl) ?_
      refine va_get (D := D) (ci := 3) (v := .int (nI ((walked x r (xs r)).len))) (C := RM) (T := TM) (N := 13) hx hb hts in_M hown hK hP 0 rfl rfl 10 (by decide) (hts _ wm_253) (fun _ h9 => h9) rfl dM_same_22 ?_
      refine lv_istore_n (lv' := [(3, .int (nI ((walked x r (xs r)).len))), (0, .ref (q 0)), (1, .int (nI (r))), (2, .int (nI (t)))]) hx hb dM_same_25 rfl hl (by decide) rfl (fun ls hl => ?_)
      have L29 : ∀ (n : Nat) (k : Nat) (H : Heap) (locs : List Loc) (hP : va_P D vwCl (wM cc q (mkM x.nn x.by_ x.line x.stp x.let_ x.oth x.clk x.app x.wts x.gon ((walked x r (xs r)).len) ((walked x r (xs r)).txt) (sprU x.spr (fun k => x.let_ ((walked x r (xs r)).txt k)) k))) H) (hD : va_D A (wM cc q (mkM x.nn x.by_ x.line x.stp x.let_ x.oth x.clk x.app x.wts x.gon ((walked x r (xs r)).len) ((walked x r (xs r)).txt) (sprU x.spr (fun k => x.let_ ((walked x r (xs r)).txt k)) k)))) (hS : va_S A s.heap H locs) (ls : Array Slot) (h1 : k ≤ (walked x r (xs r)).len) (h2 : (walked x r (xs r)).len - k < n), lv_has ls 6 [(0, .ref (q 0)), (1, .int (nI (r))), (2, .int (nI (t))), (3, .int (nI ((walked x r (xs r)).len))), (4, .int (nI (k)))] → W p l e rmM_same s m args below meth c H locs 0 0 Q (F0 m 29 ls []) := by
        intro n
        induction n with
        | zero => intro k H locs hP hD hS ls h1 h2 hl; exact absurd h2 (Nat.not_lt_zero _)
        | succ n ih =>
          intro k H locs hP hD hS ls h1 h2 hl
          have hle := okw.len
          have ok5 : okM (mkM x.nn x.by_ x.line x.stp x.let_ x.oth x.clk x.app x.wts x.gon ((walked x r (xs r)).len) ((walked x r (xs r)).txt) (sprU x.spr (fun k => x.let_ ((walked x r (xs r)).txt k)) k)) := okM_mk ok.n okw.len ok.by3 ok.line3 ok.stp3 ok.let5 ok.oth100 ok.clk3 okw.txt100 (sprU_lt ok.spr5 (fun k => ok.let5 _) k)
          refine lv_iload hx hb dM_same_29 (lv_at hl 4 rfl) ?_
          refine lv_iload_n hx hb dM_same_31 rfl (lv_at hl 3 rfl) ?_
          refine r_ge (by omega) (Nat.lt_of_le_of_lt okw.len (by decide)) (tgt := 60) hx hb dM_same_32 (by decide) (fun c_32 => ?_) (fun c_32 => ?_)
          · obtain rfl : k = (walked x r (xs r)).len := by omega
            have hP : va_P D vwCl (wM cc q (smM x xs r)) H := hP
            have hD : va_D A (wM cc q (smM x xs r)) := hD
            have oks : okM (smM x xs r) := okM_mk ok.n okw.len ok.by3 ok.line3 ok.stp3 ok.let5 ok.oth100 ok.clk3 okw.txt100 (sprU_lt ok.spr5 (fun k => ok.let5 _) _)
            refine lv_aload_n hx hb dM_same_60 rfl (lv_at hl 0 rfl) ?_
            refine lv_iload_n hx hb dM_same_61 rfl (lv_at hl 2 rfl) ?_
            refine wr_callv (w2 := []) (va_runV (As := [.int (nI (t))]) (rest := []) S (kM_walk D cc q (smM x xs r) (H.size) t (xs t) hr_t hpar oks (hxs t hr_t).1 (hxs t hr_t).2.1 (hxs t hr_t).2.2) (cwV 1 hts (gd_V wm_276 wm_277 wm_379 wm_4 wm_278) rfl rfl rfl (by decide +kernel) ⟨Nat.le_of_ble_eq_true rfl, Nat.le_of_ble_eq_true rfl⟩) (wr_preV (q0 := 0) hP hE hD rfl rfl) rfl rfl hl.1 rfl (lv_room (Nat.le_of_ble_eq_true rfl)) dM_same_62 ⟨Nat.le_of_ble_eq_true rfl, Nat.le_of_ble_eq_true rfl⟩) (by rw [List.append_nil]; exact hP) (by rw [List.append_nil]; exact hD) hS hA (fun u H locs hpo hP hD hS => ?_)
            rw [List.append_nil] at hP hD
            have hP : va_P D vwCl (wM cc q (walked (smM x xs r) t (xs t))) H := hP
            have hD : va_D A (wM cc q (walked (smM x xs r) t (xs t))) := hD
            have okv : okM (walked (smM x xs r) t (xs t)) := okM_walked oks (hxs t hr_t).2.1 (hxs t hr_t).2.2
            have L83 : ∀ (n : Nat) (z : Bool) (k2 : Nat) (H : Heap) (locs : List Loc) (hP : va_P D vwCl (wM cc q (walked (smM x xs r) t (xs t))) H) (hD : va_D A (wM cc q (walked (smM x xs r) t (xs t)))) (hS : va_S A s.heap H locs) (ls : Array Slot) (h1 : k2 ≤ (walked x r (xs r)).len) (h3 : (walked x r (xs r)).len - k2 < n) (g1 : z = andF (fun k => decide ((walked (smM x xs r) t (xs t)).spr k = x.let_ ((walked (smM x xs r) t (xs t)).txt k))) (decide ((walked x r (xs r)).len = (walked (smM x xs r) t (xs t)).len)) k2), lv_has ls 6 [(0, .ref (q 0)), (1, .int (nI (r))), (2, .int (nI (t))), (3, .int (nI ((walked x r (xs r)).len))), (4, .int (bI (z))), (5, .int (nI (k2)))] → W p l e rmM_same s m args below meth c H locs 0 0 Q (F0 m 83 ls []) := by
              intro n
              induction n with
              | zero => intro z k2 H locs hP hD hS ls h1 h3 g1 hl; exact absurd h3 (Nat.not_lt_zero _)
              | succ n ih2 =>
                intro z k2 H locs hP hD hS ls h1 h3 g1 hl
                have hle := okw.len
                refine lv_iload hx hb dM_same_83 (lv_at hl 5 rfl) ?_
                refine lv_iload_n hx hb dM_same_85 rfl (lv_at hl 3 rfl) ?_
                refine r_ge (by omega) (Nat.lt_of_le_of_lt okw.len (by decide)) (tgt := 129) hx hb dM_same_86 (by decide) (fun c_86 => ?_) (fun c_86 => ?_)
                · refine lv_iload hx hb dM_same_129 (lv_at hl 4 rfl) ?_
                  exact kx _ _ _ _ _ (walked (smM x xs r) t (xs t)) dM_same_131 hS hP hD (Or.inr ⟨r, t, hr_r, rfl, hr_t, rfl, by unfold smA; first | (rw [g1, show k2 = (walked x r (xs r)).len by omega]; done) | (rw [andF_mono (g1 ▸ c_91) h1, c_91]; done), rfl⟩)
                · refine lv_iload hx hb dM_same_89 (lv_at hl 4 rfl) ?_
                  refine r_eqB (tgt := 129) hx hb dM_same_91 (by decide) (fun c_91 => ?_) (fun c_91 => ?_)
                  · refine lv_iload hx hb dM_same_129 (lv_at hl 4 rfl) ?_
                    exact kx _ _ _ _ _ (walked (smM x xs r) t (xs t)) dM_same_131 hS hP hD (Or.inr ⟨r, t, hr_r, rfl, hr_t, rfl, by unfold smA; first | (rw [g1, show k2 = (walked x r (xs r)).len by omega]; done) | (rw [andF_mono (g1 ▸ c_91) h1, c_91]; done), rfl⟩)
                  · refine lv_aload_n hx hb dM_same_94 rfl (lv_at hl 0 rfl) ?_
                    refine va_get (D := D) (ci := 3) (v := .ref (q 11)) (C := RM) (T := TM) (N := 13) hx hb hts in_M hown hK hP 0 rfl rfl 12 (by decide) (hts _ wm_255) (fun _ h9 => h9) rfl dM_same_95 ?_
                    refine lv_iload hx hb dM_same_98 (lv_at hl 5 rfl) ?_
                    refine r_iald (q0 := 11) (t0 := 0) hx hb hK hP rfl rfl (by have := okw.len; omega) (by decide) dM_same_100 ?_
                    refine lv_aload_n hx hb dM_same_101 rfl (lv_at hl 0 rfl) ?_
                    refine va_get (D := D) (ci := 3) (v := .ref (q 4)) (C := RM) (T := TM) (N := 13) hx hb hts in_M hown hK hP 0 rfl rfl 4 (by decide) (hts _ wm_247) (fun _ h9 => h9) rfl dM_same_102 ?_
                    refine lv_aload_n hx hb dM_same_105 rfl (lv_at hl 0 rfl) ?_
                    refine va_get (D := D) (ci := 3) (v := .ref (q 10)) (C := RM) (T := TM) (N := 13) hx hb hts in_M hown hK hP 0 rfl rfl 11 (by decide) (hts _ wm_254) (fun _ h9 => h9) rfl dM_same_106 ?_
                    refine lv_iload hx hb dM_same_109 (lv_at hl 5 rfl) ?_
                    refine r_iald (q0 := 10) (t0 := 0) hx hb hK hP rfl rfl (by have := okw.len; omega) (by decide) dM_same_111 ?_
                    refine r_iald (q0 := 4) (t0 := 0) hx hb hK hP rfl rfl (okv.txt100 _) (by decide) dM_same_112 ?_
                    refine r_ne (okv.spr (k2)) (okv.let_ (((walked (smM x xs r) t (xs t)).txt) k2)) (tgt := 120) hx hb dM_same_113 (by decide) (fun c_113 => ?_) (fun c_113 => ?_)
                    · refine lv_iconst (v := bI (false)) hx hb dM_same_120 (by decide) ?_
                      refine lv_istore (lv' := [(4, .int (bI (false))), (0, .ref (q 0)), (1, .int (nI (r))), (2, .int (nI (t))), (3, .int (nI ((walked x r (xs r)).len))), (5, .int (nI (k2)))]) hx hb dM_same_121 hl (by decide) rfl (fun ls hl => ?_)
                      refine lv_iinc (v := nI (k2 + 1)) (lv' := [(5, .int (nI (k2 + 1))), (4, .int (bI (false))), (0, .ref (q 0)), (1, .int (nI (r))), (2, .int (nI (t))), (3, .int (nI ((walked x r (xs r)).len)))]) hx hb dM_same_123 hl (k := 5) rfl (nI_1 _) (by decide) rfl (fun ls hl => ?_)
                      refine lv_goto (tgt := 83) hx hb dM_same_126 (by decide) ?_
                      exact ih2  (false) (k2 + 1) H locs hP hD hS ls (by omega) (by omega) (by first | (exact (decide_eq_true c_70).symm) | (exact (decide_eq_false c_70).symm) | (refine (andF_s _ _ _ ).trans ?_ |>.symm; rw [← g1, c_91, Bool.true_and]; first | exact decide_eq_true c_113 | exact decide_eq_false c_113)) (lv_sub hl [2, 3, 4, 5, 1, 0] rfl)
                    · refine lv_iconst (v := bI (true)) hx hb dM_same_116 (by decide) ?_
                      refine lv_goto (tgt := 121) hx hb dM_same_117 (by decide) ?_
                      refine lv_istore (lv' := [(4, .int (bI (true))), (0, .ref (q 0)), (1, .int (nI (r))), (2, .int (nI (t))), (3, .int (nI ((walked x r (xs r)).len))), (5, .int (nI (k2)))]) hx hb dM_same_121 hl (by decide) rfl (fun ls hl => ?_)
                      refine lv_iinc (v := nI (k2 + 1)) (lv' := [(5, .int (nI (k2 + 1))), (4, .int (bI (true))), (0, .ref (q 0)), (1, .int (nI (r))), (2, .int (nI (t))), (3, .int (nI ((walked x r (xs r)).len)))]) hx hb dM_same_123 hl (k := 5) rfl (nI_1 _) (by decide) rfl (fun ls hl => ?_)
                      refine lv_goto (tgt := 83) hx hb dM_same_126 (by decide) ?_
                      exact ih2  (true) (k2 + 1) H locs hP hD hS ls (by omega) (by omega) (by first | (exact (decide_eq_true c_70).symm) | (exact (decide_eq_false c_70).symm) | (refine (andF_s _ _ _ ).trans ?_ |>.symm; rw [← g1, c_91, Bool.true_and]; first | exact decide_eq_true c_113 | exact decide_eq_false c_113)) (lv_sub hl [2, 3, 4, 5, 1, 0] rfl)
            refine lv_iload_n hx hb dM_same_65 rfl (lv_at hl 3 rfl) ?_
            refine lv_aload_n hx hb dM_same_66 rfl (lv_at hl 0 rfl) ?_
            refine va_get (D := D) (ci := 3) (v := .int (nI ((walked (smM x xs r) t (xs t)).len))) (C := RM) (T := TM) (N := 13) hx hb hts in_M hown hK hP 0 rfl rfl 10 (by decide) (hts _ wm_253) (fun _ h9 => h9) rfl dM_same_67 ?_
            refine r_ne (Nat.lt_of_le_of_lt okw.len (by decide)) (Nat.lt_of_le_of_lt okv.len (by decide)) (tgt := 77) hx hb dM_same_70 (by decide) (fun c_70 => ?_) (fun c_70 => ?_)
            · refine lv_iconst (v := bI (false)) hx hb dM_same_77 (by decide) ?_
              refine lv_istore (lv' := [(4, .int (bI (false))), (0, .ref (q 0)), (1, .int (nI (r))), (2, .int (nI (t))), (3, .int (nI ((walked x r (xs r)).len)))]) hx hb dM_same_78 hl (by decide) rfl (fun ls hl => ?_)
              refine lv_iconst (v := nI (0)) hx hb dM_same_80 (by decide) ?_
              refine lv_istore (lv' := [(5, .int (nI (0))), (4, .int (bI (false))), (0, .ref (q 0)), (1, .int (nI (r))), (2, .int (nI (t))), (3, .int (nI ((walked x r (xs r)).len)))]) hx hb dM_same_81 hl (by decide) rfl (fun ls hl => ?_)
              exact L83 ((walked x r (xs r)).len + 1) (false) (0) H locs hP hD hS ls (by omega) (by omega) (by first | (exact (decide_eq_true c_70).symm) | (exact (decide_eq_false c_70).symm) | (refine (andF_s _ _ _ ).trans ?_ |>.symm; rw [← g1, c_91, Bool.true_and]; first | exact decide_eq_true c_113 | exact decide_eq_false c_113)) (lv_sub hl [2, 3, 4, 5, 1, 0] rfl)
            · refine lv_iconst (v := bI (true)) hx hb dM_same_73 (by decide) ?_
              refine lv_goto (tgt := 78) hx hb dM_same_74 (by decide) ?_
              refine lv_istore (lv' := [(4, .int (bI (true))), (0, .ref (q 0)), (1, .int (nI (r))), (2, .int (nI (t))), (3, .int (nI ((walked x r (xs r)).len)))]) hx hb dM_same_78 hl (by decide) rfl (fun ls hl => ?_)
              refine lv_iconst (v := nI (0)) hx hb dM_same_80 (by decide) ?_
              refine lv_istore (lv' := [(5, .int (nI (0))), (4, .int (bI (true))), (0, .ref (q 0)), (1, .int (nI (r))), (2, .int (nI (t))), (3, .int (nI ((walked x r (xs r)).len)))]) hx hb dM_same_81 hl (by decide) rfl (fun ls hl => ?_)
              exact L83 ((walked x r (xs r)).len + 1) (true) (0) H locs hP hD hS ls (by omega) (by omega) (by first | (exact (decide_eq_true c_70).symm) | (exact (decide_eq_false c_70).symm) | (refine (andF_s _ _ _ ).trans ?_ |>.symm; rw [← g1, c_91, Bool.true_and]; first | exact decide_eq_true c_113 | exact decide_eq_false c_113)) (lv_sub hl [2, 3, 4, 5, 1, 0] rfl)
          · refine lv_aload_n hx hb dM_same_35 rfl (lv_at hl 0 rfl) ?_
            refine va_get (D := D) (ci := 3) (v := .ref (q 11)) (C := RM) (T := TM) (N := 13) hx hb hts in_M hown hK hP 0 rfl rfl 12 (by decide) (hts _ wm_255) (fun _ h9 => h9) rfl dM_same_36 ?_
            refine lv_iload hx hb dM_same_39 (lv_at hl 4 rfl) ?_
            refine lv_aload_n hx hb dM_same_41 rfl (lv_at hl 0 rfl) ?_
            refine va_get (D := D) (ci := 3) (v := .ref (q 4)) (C := RM) (T := TM) (N := 13) hx hb hts in_M hown hK hP 0 rfl rfl 4 (by decide) (hts _ wm_247) (fun _ h9 => h9) rfl dM_same_42 ?_
            refine lv_aload_n hx hb dM_same_45 rfl (lv_at hl 0 rfl) ?_
            refine va_get (D := D) (ci := 3) (v := .ref (q 10)) (C := RM) (T := TM) (N := 13) hx hb hts in_M hown hK hP 0 rfl rfl 11 (by decide) (hts _ wm_254) (fun _ h9 => h9) rfl dM_same_46 ?_
            refine lv_iload hx hb dM_same_49 (lv_at hl 4 rfl) ?_
            refine r_iald (q0 := 10) (t0 := 0) hx hb hK hP rfl rfl (by have := okw.len; omega) (by decide) dM_same_51 ?_
            refine r_iald (q0 := 4) (t0 := 0) hx hb hK hP rfl rfl (okw.txt100 _) (by decide) dM_same_52 ?_
            refine r_iast nI ((sprU x.spr (fun k => x.let_ ((walked x r (xs r)).txt k)) k)) (x.let_ (((walked x r (xs r)).txt) k)) (q0 := 11) (t0 := 0) hx hb hK hP hD hS rfl rfl (by have := okw.len; omega) (by decide) dM_same_53 (fun H locs hP hD hS => ?_)
            have hP : va_P D vwCl (wM cc q (mkM x.nn x.by_ x.line x.stp x.let_ x.oth x.clk x.app x.wts x.gon ((walked x r (xs r)).len) ((walked x r (xs r)).txt) (sprU x.spr (fun k => x.let_ ((walked x r (xs r)).txt k)) (k + 1)))) H := hP
            have hD : va_D A (wM cc q (mkM x.nn x.by_ x.line x.stp x.let_ x.oth x.clk x.app x.wts x.gon ((walked x r (xs r)).len) ((walked x r (xs r)).txt) (sprU x.spr (fun k => x.let_ ((walked x r (xs r)).txt k)) (k + 1)))) := hD
            refine lv_iinc (v := nI (k + 1)) (lv' := [(4, .int (nI (k + 1))), (0, .ref (q 0)), (1, .int (nI (r))), (2, .int (nI (t))), (3, .int (nI ((walked x r (xs r)).len)))]) hx hb dM_same_54 hl (k := 4) rfl (nI_1 _) (by decide) rfl (fun ls hl => ?_)
            refine lv_goto (tgt := 29) hx hb dM_same_57 (by decide) ?_
            exact ih  (k + 1) H locs hP hD hS ls (by omega) (by omega) (lv_sub hl [1, 2, 3, 4, 0] rfl)
      refine lv_iconst (v := nI (0)) hx hb dM_same_26 (by decide) ?_
      refine lv_istore (lv' := [(4, .int (nI (0))), (3, .int (nI ((walked x r (xs r)).len))), (0, .ref (q 0)), (1, .int (nI (r))), (2, .int (nI (t)))]) hx hb dM_same_27 hl (by decide) rfl (fun ls hl => ?_)
      exact L29 ((walked x r (xs r)).len + 1) (0) H locs hP hD hS ls (by omega) (by omega) (lv_sub hl [2, 3, 4, 1, 0] rfl)
    · refine lv_iconst (v := bI (false)) hx hb dM_same_14 (by decide) ?_
      exact kx _ _ _ _ _ (x) dM_same_15 hS hP hD (by first | exact Or.inl ⟨Or.inl c_4, rfl, rfl⟩ | exact Or.inl ⟨Or.inr c_11, rfl, rfl⟩)
