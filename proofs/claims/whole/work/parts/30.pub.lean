def rmT_isReplica : Room := { frames := 0, cells := 0, slots := 0, locals := 0 }
set_option maxHeartbeats 4000000 in
set_option maxRecDepth 100000 in
theorem kT_isReplica {l : Launch} (z : Int32) : Met l yT_isReplica wsT_isReplica rmT_isReplica (va_Pc [.int (z)] (fun _ => True)) (QcRead (bI (isRep z))) 0 0 (fun _ => False) := by
  refine rd_met RT [.int (z)] _ _ (by decide) rfl rfl (Nat.le_of_ble_eq_true rfl) (bI_z _) ?_
  intro p e s m args below meth c Q S hB kx ls hl
  obtain ⟨hx, hb, hml, hown, hts⟩ := id S
  have hl : lv_has ls 1 [(0, .int (z))] := hl
  refine lv_iload_n hx hb dT_isReplica_0 rfl (lv_at hl 0 rfl) ?_
  refine lv_if_lt (tgt := 13) hx hb dT_isReplica_1 (by decide) (fun c_1 => ?_) (fun c_1 => ?_)
  · refine lv_iconst (v := bI (false)) hx hb dT_isReplica_13 (by decide) ?_
    exact kx _ _ _ dT_isReplica_14 (by unfold isRep; first | (rw [decide_eq_true (show ¬ z < 0 ∧ ¬ nI 3 ≤ z from ⟨c_1, c_6⟩)]; done) | (rw [decide_eq_false (show ¬ (¬ z < 0 ∧ ¬ nI 3 ≤ z) from fun h => h.1 c_1)]; done) | (rw [decide_eq_false (show ¬ (¬ z < 0 ∧ ¬ nI 3 ≤ z) from fun h => h.2 c_6)]; done))
  · refine lv_iload_n hx hb dT_isReplica_4 rfl (lv_at hl 0 rfl) ?_
    refine lv_iconst (v := nI (3)) hx hb dT_isReplica_5 (by decide) ?_
    refine lv_icmp_ge (tgt := 13) hx hb dT_isReplica_6 (by decide) (fun c_6 => ?_) (fun c_6 => ?_)
    · refine lv_iconst (v := bI (false)) hx hb dT_isReplica_13 (by decide) ?_
      exact kx _ _ _ dT_isReplica_14 (by unfold isRep; first | (rw [decide_eq_true (show ¬ z < 0 ∧ ¬ nI 3 ≤ z from ⟨c_1, c_6⟩)]; done) | (rw [decide_eq_false (show ¬ (¬ z < 0 ∧ ¬ nI 3 ≤ z) from fun h => h.1 c_1)]; done) | (rw [decide_eq_false (show ¬ (¬ z < 0 ∧ ¬ nI 3 ≤ z) from fun h => h.2 c_6)]; done))
    · refine lv_iconst (v := bI (true)) hx hb dT_isReplica_9 (by decide) ?_
      refine lv_goto (tgt := 14) hx hb dT_isReplica_10 (by decide) ?_
      exact kx _ _ _ dT_isReplica_14 (by unfold isRep; first | (rw [decide_eq_true (show ¬ z < 0 ∧ ¬ nI 3 ≤ z from ⟨c_1, c_6⟩)]; done) | (rw [decide_eq_false (show ¬ (¬ z < 0 ∧ ¬ nI 3 ≤ z) from fun h => h.1 c_1)]; done) | (rw [decide_eq_false (show ¬ (¬ z < 0 ∧ ¬ nI 3 ≤ z) from fun h => h.2 c_6)]; done))

def rmT_insert : Room := { frames := 5, cells := 0, slots := 0, locals := 116 }
set_option maxHeartbeats 4000000 in
set_option maxRecDepth 100000 in
theorem kT_insert {l : Launch} (D : va_G) (cc : Nat → ClassId) (a b g : Nat → Nat) (rp : Nat → Nat) (x : LgS) (y : RpS) (sz : Nat) (r : Nat) (hr : r < 3) (hrp : rp r = b 0) (z1 z2 : Int32) (k : Nat) (hk : k < 65536) (hz : isRep z1 = true → z1 = nI r) (hel : x.cnt < 100 → x.el < 100) (hgs : y.gs < 900) (hkc : y.kc < 900) (hsn : ∀ k, y.seen y.self k < 900) (ib kp : Nat → Nat) (hpl : ∀ p, p ≤ y.tl → plP (rec5 x y.self (y.gs + 1) (befR y p) k (y.seen y.self)) x.cnt (ib p) (kp p)) (ok : okL x) (kr : okR y) : Met l yT_insert wsT_insert rmT_insert (va_Pc [.ref (g 0), .int (z1), .int (z2), .int (nI (k))] (WP D cc (wT cc a b g rp (x) (y)) sz)) (va_Qi (RC_insert x y r kp z1 z2 k) (WQ D cc (va_A (wT cc a b g rp (x) (y)) sz) (fun u : LRp => wT cc a b g rp (u.1) (u.2))) (va_A (wT cc a b g rp (x) (y)) sz)) 0 0 (va_A (wT cc a b g rp (x) (y)) sz) := by
  refine wr_meti RT [.ref (g 0), .int (z1), .int (z2), .int (nI (k))] D cc (wT cc a b g rp (x) (y)) sz (fun u : LRp => wT cc a b g rp (u.1) (u.2)) _ (by decide) rfl rfl (Nat.le_of_ble_eq_true rfl) (fun v _ _ => vp_nar_int v) ?_
  intro p e s m args below meth c Q A S hP hE hD hA kx ls hl
  obtain ⟨hx, hb, hml, hown, hts⟩ := id S
  have hK := hE.1
  have hts := hE.ts args
  have S : CallFix p m c cT_insert 5 s args wAll RT := ⟨hx, hb, hml, hown, hts⟩
  have hS : va_S A s.heap s.heap [] := va_S.rf
  have hn := ok.n
  have he := ok.e
  have hself := kr.self
  have htl := kr.tl
  have hl : lv_has ls 5 [(0, .ref (g 0)), (1, .int (z1)), (2, .int (z2)), (3, .int (nI (k)))] := hl
  refine lv_iload_n hx hb dT_insert_0 rfl (lv_at hl 1 rfl) ?_
  refine W.callR (W.runS (As := [.int (z1)]) (rest := []) S (kT_isReplica ((z1))) (va_cwS 1 hts (gd_S wm_77 wm_78 wm_1 wm_79) rfl rfl rfl (by decide +kernel) ⟨Nat.le_of_ble_eq_true rfl, Nat.le_of_ble_eq_true rfl⟩) preT rfl rfl hl.1 rfl (lv_room (Nat.le_of_ble_eq_true rfl)) dT_insert_1 ⟨Nat.le_of_ble_eq_true rfl, Nat.le_of_ble_eq_true rfl⟩) ?_
  refine W.eq (g2 := F0 m 4 ls [.int (bI (isRep ((z1))))]) rfl ?_
  refine r_eqB (tgt := 19) hx hb dT_insert_4 (by decide) (fun c_4 => ?_) (fun c_4 => ?_)
  · refine lv_iconst (v := sI (0)) hx hb dT_insert_19 (by decide) ?_
    exact kx _ _ _ _ _ (x, y) dT_insert_20 hS hP hD (by first | exact Or.inl ⟨Or.inl c_4, sI_0, rfl⟩ | exact Or.inl ⟨Or.inr (Or.inl c_10), sI_0, rfl⟩ | exact Or.inl ⟨Or.inr (Or.inr c_16), sI_0, rfl⟩)
  · refine lv_iload_n hx hb dT_insert_7 rfl (lv_at hl 3 rfl) ?_
    refine lv_bipush (v := nI (32)) hx hb dT_insert_8 (by decide) ?_
    refine r_lt (by omega) (by decide) (tgt := 19) hx hb dT_insert_10 (by decide) (fun c_10 => ?_) (fun c_10 => ?_)
    · refine lv_iconst (v := sI (0)) hx hb dT_insert_19 (by decide) ?_
      exact kx _ _ _ _ _ (x, y) dT_insert_20 hS hP hD (by first | exact Or.inl ⟨Or.inl c_4, sI_0, rfl⟩ | exact Or.inl ⟨Or.inr (Or.inl c_10), sI_0, rfl⟩ | exact Or.inl ⟨Or.inr (Or.inr c_16), sI_0, rfl⟩)
    · refine lv_iload_n hx hb dT_insert_13 rfl (lv_at hl 3 rfl) ?_
      refine lv_bipush (v := nI (126)) hx hb dT_insert_14 (by decide) ?_
      refine r_le (by omega) (by decide) (tgt := 21) hx hb dT_insert_16 (by decide) (fun c_16 => ?_) (fun c_16 => ?_)
      · obtain rfl := hz c_4
        refine lv_aload_n hx hb dT_insert_21 rfl (lv_at hl 0 rfl) ?_
        refine va_get (D := D) (ci := 2) (v := .ref (g 1)) (C := RT) (T := TT) (N := 2) hx hb hts in_T hown hK hP 17 rfl rfl 1 (by decide) (hts _ wm_70) (fun _ h9 => h9) rfl dT_insert_22 ?_
        refine lv_iload_n hx hb dT_insert_25 rfl (lv_at hl 1 rfl) ?_
        refine r_oald (q0 := 18) (t0 := 4) (f := rp) hx hb hK hP rfl rfl (by omega) (by decide) dT_insert_26 ?_
        refine r_topr hrp ?_
        refine lv_astore (lv' := [(4, .ref (b 0)), (0, .ref (g 0)), (1, .int (nI (r))), (2, .int (z2)), (3, .int (nI (k)))]) hx hb dT_insert_27 hl (by decide) rfl (fun ls hl => ?_)
        refine lv_iload_n hx hb dT_insert_29 rfl (lv_at hl 3 rfl) ?_
        refine lv_if_lt (tgt := 42) hx hb dT_insert_30 (by decide) (fun c_30 => ?_) (fun c_30 => ?_)
        · refine lv_iconst (v := sI (0)) hx hb dT_insert_42 (by decide) ?_
          exact kx _ _ _ _ _ (x, y) dT_insert_43 hS hP hD (by first | exact Or.inr ⟨rfl, c_10, c_16, Or.inl ⟨Or.inl c_30, sI_0, rfl⟩⟩ | exact Or.inr ⟨rfl, c_10, c_16, Or.inl ⟨Or.inr c_39, sI_0, rfl⟩⟩)
        · refine lv_iload_n hx hb dT_insert_33 rfl (lv_at hl 3 rfl) ?_
          refine lv_aload hx hb dT_insert_34 (lv_at hl 0 rfl) ?_
          refine va_getN (D := D) (ci := 1) (v := .int (nI (y.tl))) (C := RP) (T := TP) (N := 12) hx hb hts in_P hown hK hP 7 rfl rfl 8 (by decide) (hE.f nf_12) (fun _ h9 => h9) rfl dT_insert_36 ?_
          refine lv_icmp_le (tgt := 44) hx hb dT_insert_39 (by decide) (fun c_39 => ?_) (fun c_39 => ?_)
          · obtain ⟨p, hp_p, rfl⟩ := z_le c_30 c_39 kr.tl
            refine lv_aload_n hx hb dT_insert_44 rfl (lv_at hl 1 rfl) ?_
            refine va_get (D := D) (ci := 2) (v := .ref (a 0)) (C := RT) (T := TT) (N := 2) hx hb hts in_T hown hK hP 17 rfl rfl 0 (by decide) (hts _ wm_69) (fun _ h9 => h9) rfl dT_insert_45 ?_
            refine W.callR (W.runV (As := []) (rest := []) S (kL_isFull D cc a x ok) (cwV 0 hts (gd_V wm_80 wm_81 wm_82 wm_2 wm_83) rfl rfl rfl (by decide +kernel) ⟨Nat.le_of_ble_eq_true rfl, Nat.le_of_ble_eq_true rfl⟩) (rd_preV (q0 := 0) (P_left (P_left hP)) hE rfl rfl) rfl rfl hl.1 rfl (lv_room (Nat.le_of_ble_eq_true rfl)) dT_insert_48 ⟨Nat.le_of_ble_eq_true rfl, Nat.le_of_ble_eq_true rfl⟩) ?_
            refine W.eq (g2 := F0 m 51 ls [.int (bI (decide (100 ≤ x.cnt)))]) rfl ?_
            refine r_eqB (tgt := 59) hx hb dT_insert_51 (by decide) (fun c_51 => ?_) (fun c_51 => ?_)
            · have hcx : x.cnt < 100 := Nat.lt_of_not_le (of_decide_eq_false c_51)
              have hel := hel hcx
              refine lv_aload hx hb dT_insert_59 (lv_at hl 0 rfl) ?_
              refine lv_aload hx hb dT_insert_61 (lv_at hl 0 rfl) ?_
              refine lv_iload_n hx hb dT_insert_63 rfl (lv_at hl 3 rfl) ?_
              refine W.callR (W.runV (As := [.int (nI (p))]) (rest := [.ref (b 0)]) S (kP_elementBefore D cc a b x y (p) hp_p kr) (cwV 1 hts (gd_V wm_84 wm_85 wm_86 wm_3 wm_87) rfl rfl rfl (by decide +kernel) ⟨Nat.le_of_ble_eq_true rfl, Nat.le_of_ble_eq_true rfl⟩) (rd_preV (q0 := 7) (P_left hP) hE rfl rfl) rfl rfl hl.1 rfl (lv_room (Nat.le_of_ble_eq_true rfl)) dT_insert_64 ⟨Nat.le_of_ble_eq_true rfl, Nat.le_of_ble_eq_true rfl⟩) ?_
              refine W.eq (g2 := F0 m 67 ls [.int (sI (befR y (p))), .ref (b 0)]) rfl ?_
              refine lv_iload_n hx hb dT_insert_67 rfl (lv_at hl 4 rfl) ?_
              refine wr_calli (w2 := wTo cc (a 0) g rp) (va_runV (As := [.int (sI (befR y (p))), .int (nI (k))]) (rest := []) S (kP_issue D cc a b x y (s.heap.size) (befR y (p)) (k) (ib p) (kp p) (befR_le kr p) (by omega) (fun q => absurd q (by omega)) (by omega) hel hgs hkc hsn (fun _ => hpl p hp_p) ok kr) (cwV 2 hts (gd_V wm_88 wm_89 wm_90 wm_3 wm_91) rfl rfl rfl (by decide +kernel) ⟨Nat.le_of_ble_eq_true rfl, Nat.le_of_ble_eq_true rfl⟩) (wr_preV (q0 := 7) (P_left hP) hE (D_left hD) rfl rfl) rfl rfl hl.1 rfl (lv_room (Nat.le_of_ble_eq_true rfl)) dT_insert_68 ⟨Nat.le_of_ble_eq_true rfl, Nat.le_of_ble_eq_true rfl⟩) hP hD hS hA (fun v_68 u H locs hpo hP hD hS => ?_)
              subst hpo
              have hP : va_P D vwCl (wT cc a b g rp (isuL x y (befR y (p)) (k) ((kp p))) (isuR x y (befR y (p)) (k) ((kp p)))) H := hP
              have hD : va_D A (wT cc a b g rp (isuL x y (befR y (p)) (k) ((kp p))) (isuR x y (befR y (p)) (k) ((kp p)))) := hD
              exact kx _ _ _ _ _ (isuL x y (befR y (p)) (k) ((kp p)), isuR x y (befR y (p)) (k) ((kp p))) dT_insert_71 hS hP hD (by first | exact Or.inr ⟨rfl, c_10, c_16, Or.inr ⟨p, hp_p, rfl, Or.inl ⟨of_decide_eq_true c_51, rfl, rfl⟩⟩⟩ | exact Or.inr ⟨rfl, c_10, c_16, Or.inr ⟨p, hp_p, rfl, Or.inr ⟨hcx, rfl, rfl⟩⟩⟩)
            · refine lv_bipush (v := (-2)) hx hb dT_insert_54 (by decide) ?_
              refine lv_goto (tgt := 71) hx hb dT_insert_56 (by decide) ?_
              exact kx _ _ _ _ _ (x, y) dT_insert_71 hS hP hD (by first | exact Or.inr ⟨rfl, c_10, c_16, Or.inr ⟨p, hp_p, rfl, Or.inl ⟨of_decide_eq_true c_51, rfl, rfl⟩⟩⟩ | exact Or.inr ⟨rfl, c_10, c_16, Or.inr ⟨p, hp_p, rfl, Or.inr ⟨hcx, rfl, rfl⟩⟩⟩)
          · refine lv_iconst (v := sI (0)) hx hb dT_insert_42 (by decide) ?_
            exact kx _ _ _ _ _ (x, y) dT_insert_43 hS hP hD (by first | exact Or.inr ⟨rfl, c_10, c_16, Or.inl ⟨Or.inl c_30, sI_0, rfl⟩⟩ | exact Or.inr ⟨rfl, c_10, c_16, Or.inl ⟨Or.inr c_39, sI_0, rfl⟩⟩)
      · refine lv_iconst (v := sI (0)) hx hb dT_insert_19 (by decide) ?_
        exact kx _ _ _ _ _ (x, y) dT_insert_20 hS hP hD (by first | exact Or.inl ⟨Or.inl c_4, sI_0, rfl⟩ | exact Or.inl ⟨Or.inr (Or.inl c_10), sI_0, rfl⟩ | exact Or.inl ⟨Or.inr (Or.inr c_16), sI_0, rfl⟩)

def rmT_erase : Room := { frames := 5, cells := 0, slots := 0, locals := 116 }
set_option maxHeartbeats 4000000 in
set_option maxRecDepth 100000 in
theorem kT_erase {l : Launch} (D : va_G) (cc : Nat → ClassId) (a b g : Nat → Nat) (rp : Nat → Nat) (x : LgS) (y : RpS) (sz : Nat) (r : Nat) (hr : r < 3) (hrp : rp r = b 0) (z1 z2 : Int32) (ve : Nat) (hve : eatP y z2 ve) (hve1 : ve ≤ 100) (hz : isRep z1 = true → z1 = nI r) (hel : x.cnt < 100 → x.el < 100) (hgs : y.gs < 900) (hkc : y.kc < 900) (hsn : ∀ k, y.seen y.self k < 900) (ok : okL x) (kr : okR y) : Met l yT_erase wsT_erase rmT_erase (va_Pc [.ref (g 0), .int (z1), .int (z2)] (WP D cc (wT cc a b g rp (x) (y)) sz)) (va_Qi (RC_erase x y r ve z1) (WQ D cc (va_A (wT cc a b g rp (x) (y)) sz) (fun u : LRp => wT cc a b g rp (u.1) (u.2))) (va_A (wT cc a b g rp (x) (y)) sz)) 0 0 (va_A (wT cc a b g rp (x) (y)) sz) := by
  refine wr_meti RT [.ref (g 0), .int (z1), .int (z2)] D cc (wT cc a b g rp (x) (y)) sz (fun u : LRp => wT cc a b g rp (u.1) (u.2)) _ (by decide) rfl rfl (Nat.le_of_ble_eq_true rfl) (fun v _ _ => vp_nar_int v) ?_
  intro p e s m args below meth c Q A S hP hE hD hA kx ls hl
  obtain ⟨hx, hb, hml, hown, hts⟩ := id S
  have hK := hE.1
  have hts := hE.ts args
  have S : CallFix p m c cT_erase 4 s args wAll RT := ⟨hx, hb, hml, hown, hts⟩
  have hS : va_S A s.heap s.heap [] := va_S.rf
  have hn := ok.n
  have he := ok.e
  have hself := kr.self
  have htl := kr.tl
  have hl : lv_has ls 4 [(0, .ref (g 0)), (1, .int (z1)), (2, .int (z2))] := hl
  refine lv_iload_n hx hb dT_erase_0 rfl (lv_at hl 1 rfl) ?_
  refine W.callR (W.runS (As := [.int (z1)]) (rest := []) S (kT_isReplica ((z1))) (va_cwS 1 hts (gd_S wm_77 wm_78 wm_1 wm_79) rfl rfl rfl (by decide +kernel) ⟨Nat.le_of_ble_eq_true rfl, Nat.le_of_ble_eq_true rfl⟩) preT rfl rfl hl.1 rfl (lv_room (Nat.le_of_ble_eq_true rfl)) dT_erase_1 ⟨Nat.le_of_ble_eq_true rfl, Nat.le_of_ble_eq_true rfl⟩) ?_
  refine W.eq (g2 := F0 m 4 ls [.int (bI (isRep ((z1))))]) rfl ?_
  refine r_neB (tgt := 9) hx hb dT_erase_4 (by decide) (fun c_4 => ?_) (fun c_4 => ?_)
  · obtain rfl := hz c_4
    refine lv_aload_n hx hb dT_erase_9 rfl (lv_at hl 0 rfl) ?_
    refine va_get (D := D) (ci := 2) (v := .ref (g 1)) (C := RT) (T := TT) (N := 2) hx hb hts in_T hown hK hP 17 rfl rfl 1 (by decide) (hts _ wm_70) (fun _ h9 => h9) rfl dT_erase_10 ?_
    refine lv_iload_n hx hb dT_erase_13 rfl (lv_at hl 1 rfl) ?_
    refine r_oald (q0 := 18) (t0 := 4) (f := rp) hx hb hK hP rfl rfl (by omega) (by decide) dT_erase_14 ?_
    refine r_topr hrp ?_
    refine lv_iload_n hx hb dT_erase_15 rfl (lv_at hl 2 rfl) ?_
    refine W.callR (W.runV (As := [.int (z2)]) (rest := []) S (kP_elementAt_z D cc a b x y ((z2)) ve hve kr) (cwV 1 hts (gd_V wm_138 wm_139 wm_140 wm_3 wm_141) rfl rfl rfl (by decide +kernel) ⟨Nat.le_of_ble_eq_true rfl, Nat.le_of_ble_eq_true rfl⟩) (rd_preV (q0 := 7) (P_left hP) hE rfl rfl) rfl rfl hl.1 rfl (lv_room (Nat.le_of_ble_eq_true rfl)) dT_erase_16 ⟨Nat.le_of_ble_eq_true rfl, Nat.le_of_ble_eq_true rfl⟩) ?_
    refine W.eq (g2 := F0 m 19 ls [.int (sI (ve))]) rfl ?_
    refine lv_istore_n (lv' := [(3, .int (sI (ve))), (0, .ref (g 0)), (1, .int (nI (r))), (2, .int (z2))]) hx hb dT_erase_19 rfl hl (by decide) rfl (fun ls hl => ?_)
    refine lv_iload_n hx hb dT_erase_20 rfl (lv_at hl 0 rfl) ?_
    refine lv_iconst (v := sI (0)) hx hb dT_erase_21 (by decide) ?_
    refine r_neS (by have := hve1; omega) (by omega) (tgt := 27) hx hb dT_erase_22 (by decide) (fun c_22 => ?_) (fun c_22 => ?_)
    · refine lv_aload_n hx hb dT_erase_27 rfl (lv_at hl 1 rfl) ?_
      refine va_get (D := D) (ci := 2) (v := .ref (a 0)) (C := RT) (T := TT) (N := 2) hx hb hts in_T hown hK hP 17 rfl rfl 0 (by decide) (hts _ wm_69) (fun _ h9 => h9) rfl dT_erase_28 ?_
      refine W.callR (W.runV (As := []) (rest := []) S (kL_isFull D cc a x ok) (cwV 0 hts (gd_V wm_80 wm_81 wm_82 wm_2 wm_83) rfl rfl rfl (by decide +kernel) ⟨Nat.le_of_ble_eq_true rfl, Nat.le_of_ble_eq_true rfl⟩) (rd_preV (q0 := 0) (P_left (P_left hP)) hE rfl rfl) rfl rfl hl.1 rfl (lv_room (Nat.le_of_ble_eq_true rfl)) dT_erase_31 ⟨Nat.le_of_ble_eq_true rfl, Nat.le_of_ble_eq_true rfl⟩) ?_
      refine W.eq (g2 := F0 m 34 ls [.int (bI (decide (100 ≤ x.cnt)))]) rfl ?_
      refine r_eqB (tgt := 42) hx hb dT_erase_34 (by decide) (fun c_34 => ?_) (fun c_34 => ?_)
      · have hcx : x.cnt < 100 := Nat.lt_of_not_le (of_decide_eq_false c_34)
        have hel := hel hcx
        refine lv_aload_n hx hb dT_erase_42 rfl (lv_at hl 1 rfl) ?_
        refine va_get (D := D) (ci := 2) (v := .ref (g 1)) (C := RT) (T := TT) (N := 2) hx hb hts in_T hown hK hP 17 rfl rfl 1 (by decide) (hts _ wm_70) (fun _ h9 => h9) rfl dT_erase_43 ?_
        refine lv_iload_n hx hb dT_erase_46 rfl (lv_at hl 2 rfl) ?_
        refine r_oald (q0 := 18) (t0 := 4) (f := rp) hx hb hK hP rfl rfl (by omega) (by decide) dT_erase_47 ?_
        refine r_topr hrp ?_
        refine lv_iload_n hx hb dT_erase_48 rfl (lv_at hl 0 rfl) ?_
        refine lv_iconst (v := nI (0)) hx hb dT_erase_49 (by decide) ?_
        refine wr_calli (w2 := wTo cc (a 0) g rp) (va_runV (As := [.int (sI (ve)), .int (nI (0))]) (rest := []) S (kP_issue D cc a b x y (s.heap.size) (ve) (0) 0 0 (by omega) (by omega) (fun _ => by omega) (by omega) hel hgs hkc hsn (fun q => absurd rfl q) ok kr) (cwV 2 hts (gd_V wm_88 wm_89 wm_90 wm_3 wm_91) rfl rfl rfl (by decide +kernel) ⟨Nat.le_of_ble_eq_true rfl, Nat.le_of_ble_eq_true rfl⟩) (wr_preV (q0 := 7) (P_left hP) hE (D_left hD) rfl rfl) rfl rfl hl.1 rfl (lv_room (Nat.le_of_ble_eq_true rfl)) dT_erase_50 ⟨Nat.le_of_ble_eq_true rfl, Nat.le_of_ble_eq_true rfl⟩) hP hD hS hA (fun v_50 u H locs hpo hP hD hS => ?_)
        subst hpo
        have hP : va_P D vwCl (wT cc a b g rp (isuL x y (ve) (0) (0)) (isuR x y (ve) (0) (0))) H := hP
        have hD : va_D A (wT cc a b g rp (isuL x y (ve) (0) (0)) (isuR x y (ve) (0) (0))) := hD
        exact kx _ _ _ _ _ (isuL x y (ve) (0) (0), isuR x y (ve) (0) (0)) dT_erase_53 hS hP hD (by first | exact Or.inr ⟨rfl, Or.inr ⟨Nat.pos_of_ne_zero c_22, Or.inl ⟨of_decide_eq_true c_34, rfl, rfl⟩⟩⟩ | exact Or.inr ⟨rfl, Or.inr ⟨Nat.pos_of_ne_zero c_22, Or.inr ⟨hcx, rfl, rfl⟩⟩⟩)
      · refine lv_bipush (v := (-2)) hx hb dT_erase_37 (by decide) ?_
        refine lv_goto (tgt := 53) hx hb dT_erase_39 (by decide) ?_
        exact kx _ _ _ _ _ (x, y) dT_erase_53 hS hP hD (by first | exact Or.inr ⟨rfl, Or.inr ⟨Nat.pos_of_ne_zero c_22, Or.inl ⟨of_decide_eq_true c_34, rfl, rfl⟩⟩⟩ | exact Or.inr ⟨rfl, Or.inr ⟨Nat.pos_of_ne_zero c_22, Or.inr ⟨hcx, rfl, rfl⟩⟩⟩)
    · refine lv_iconst (v := sI (0)) hx hb dT_erase_25 (by decide) ?_
      exact kx _ _ _ _ _ (x, y) dT_erase_26 hS hP hD (Or.inr ⟨rfl, Or.inl ⟨c_22, sI_0, rfl⟩⟩)
  · refine lv_iconst (v := sI (0)) hx hb dT_erase_7 (by decide) ?_
    exact kx _ _ _ _ _ (x, y) dT_erase_8 hS hP hD (Or.inl ⟨c_4, sI_0, rfl⟩)

def rmT_deliver : Room := { frames := 5, cells := 0, slots := 0, locals := 108 }
set_option maxHeartbeats 4000000 in
set_option maxRecDepth 100000 in
theorem kT_deliver {l : Launch} (D : va_G) (cc : Nat → ClassId) (a b g : Nat → Nat) (rp : Nat → Nat) (x : LgS) (y : RpS) (sz : Nat) (r : Nat) (hr : r < 3) (hrp : rp r = b 0) (z1 z2 : Int32) (hz : isRep z1 = true → z1 = nI r) (ht : ∀ o, o < x.cnt → x.chr o = 0 → 0 < x.tgt o) (hp1 : ∀ o, o < x.cnt → 1 ≤ plc x o) (hap : ∀ o, o < x.cnt → okR (rcvR x y o) ∧ ∀ k, k ≤ x.cnt → apOK x (rcvR x y o) k) (ok : okL x) (kr : okR y) : Met l yT_deliver wsT_deliver rmT_deliver (va_Pc [.ref (g 0), .int (z1), .int (z2)] (WP D cc (wT cc a b g rp (x) (y)) sz)) (va_Qi (RC_deliver x y r z1 z2) (WQ D cc (va_A (wT cc a b g rp (x) (y)) sz) (fun u : LRp => wT cc a b g rp (u.1) (u.2))) (va_A (wT cc a b g rp (x) (y)) sz)) 0 0 (va_A (wT cc a b g rp (x) (y)) sz) := by
  refine wr_meti RT [.ref (g 0), .int (z1), .int (z2)] D cc (wT cc a b g rp (x) (y)) sz (fun u : LRp => wT cc a b g rp (u.1) (u.2)) _ (by decide) rfl rfl (Nat.le_of_ble_eq_true rfl) (fun v _ _ => vp_nar_int v) ?_
  intro p e s m args below meth c Q A S hP hE hD hA kx ls hl
  obtain ⟨hx, hb, hml, hown, hts⟩ := id S
  have hK := hE.1
  have hts := hE.ts args
  have S : CallFix p m c cT_deliver 3 s args wAll RT := ⟨hx, hb, hml, hown, hts⟩
  have hS : va_S A s.heap s.heap [] := va_S.rf
  have hn := ok.n
  have he := ok.e
  have hself := kr.self
  have htl := kr.tl
  have hl : lv_has ls 3 [(0, .ref (g 0)), (1, .int (z1)), (2, .int (z2))] := hl
  refine lv_iload_n hx hb dT_deliver_0 rfl (lv_at hl 1 rfl) ?_
  refine W.callR (W.runS (As := [.int (z1)]) (rest := []) S (kT_isReplica ((z1))) (va_cwS 1 hts (gd_S wm_77 wm_78 wm_1 wm_79) rfl rfl rfl (by decide +kernel) ⟨Nat.le_of_ble_eq_true rfl, Nat.le_of_ble_eq_true rfl⟩) preT rfl rfl hl.1 rfl (lv_room (Nat.le_of_ble_eq_true rfl)) dT_deliver_1 ⟨Nat.le_of_ble_eq_true rfl, Nat.le_of_ble_eq_true rfl⟩) ?_
  refine W.eq (g2 := F0 m 4 ls [.int (bI (isRep ((z1))))]) rfl ?_
  refine r_eqB (tgt := 18) hx hb dT_deliver_4 (by decide) (fun c_4 => ?_) (fun c_4 => ?_)
  · refine lv_iconst (v := sI (0)) hx hb dT_deliver_18 (by decide) ?_
    exact kx _ _ _ _ _ (x, y) dT_deliver_19 hS hP hD (by first | exact Or.inl ⟨Or.inl c_4, sI_0, rfl⟩ | exact Or.inl ⟨Or.inr c_15, sI_0, rfl⟩)
  · obtain rfl := hz c_4
    refine lv_aload_n hx hb dT_deliver_7 rfl (lv_at hl 0 rfl) ?_
    refine va_get (D := D) (ci := 2) (v := .ref (a 0)) (C := RT) (T := TT) (N := 2) hx hb hts in_T hown hK hP 17 rfl rfl 0 (by decide) (hts _ wm_69) (fun _ h9 => h9) rfl dT_deliver_8 ?_
    refine lv_iload_n hx hb dT_deliver_11 rfl (lv_at hl 2 rfl) ?_
    refine W.callR (W.runV (As := [.int (z2)]) (rest := []) S (kL_isIssued D cc a x ((z2)) ok) (cwV 1 hts (gd_V wm_146 wm_147 wm_148 wm_2 wm_149) rfl rfl rfl (by decide +kernel) ⟨Nat.le_of_ble_eq_true rfl, Nat.le_of_ble_eq_true rfl⟩) (rd_preV (q0 := 0) (P_left (P_left hP)) hE rfl rfl) rfl rfl hl.1 rfl (lv_room (Nat.le_of_ble_eq_true rfl)) dT_deliver_12 ⟨Nat.le_of_ble_eq_true rfl, Nat.le_of_ble_eq_true rfl⟩) ?_
    refine W.eq (g2 := F0 m 15 ls [.int (bI (isOp x.cnt ((z2))))]) rfl ?_
    refine r_neB (tgt := 20) hx hb dT_deliver_15 (by decide) (fun c_15 => ?_) (fun c_15 => ?_)
    · obtain ⟨o, ho_o, rfl⟩ := isOp_of c_15
      refine lv_aload_n hx hb dT_deliver_20 rfl (lv_at hl 0 rfl) ?_
      refine va_get (D := D) (ci := 2) (v := .ref (g 1)) (C := RT) (T := TT) (N := 2) hx hb hts in_T hown hK hP 17 rfl rfl 1 (by decide) (hts _ wm_70) (fun _ h9 => h9) rfl dT_deliver_21 ?_
      refine lv_iload_n hx hb dT_deliver_24 rfl (lv_at hl 1 rfl) ?_
      refine r_oald (q0 := 18) (t0 := 4) (f := rp) hx hb hK hP rfl rfl (by omega) (by decide) dT_deliver_25 ?_
      refine r_topr hrp ?_
      refine lv_iload_n hx hb dT_deliver_26 rfl (lv_at hl 2 rfl) ?_
      refine wr_callv (w2 := wTo cc (a 0) g rp) (va_runV (As := [.int (nI (o))]) (rest := []) S (kP_receive D cc a b x (y) (s.heap.size) o (by omega) ok kr) (cwV 1 hts (gd_V wm_150 wm_151 wm_152 wm_3 wm_153) rfl rfl rfl (by decide +kernel) ⟨Nat.le_of_ble_eq_true rfl, Nat.le_of_ble_eq_true rfl⟩) (wr_preV (q0 := 7) (P_left hP) hE (D_left hD) rfl rfl) rfl rfl hl.1 rfl (lv_room (Nat.le_of_ble_eq_true rfl)) dT_deliver_27 ⟨Nat.le_of_ble_eq_true rfl, Nat.le_of_ble_eq_true rfl⟩) hP hD hS hA (fun u H locs hpo hP hD hS => ?_)
      have hP : va_P D vwCl (wT cc a b g rp (x) (rcvR x (y) o)) H := hP
      have hD : va_D A (wT cc a b g rp (x) (rcvR x (y) o)) := hD
      refine lv_aload_n hx hb dT_deliver_30 rfl (lv_at hl 0 rfl) ?_
      refine va_get (D := D) (ci := 2) (v := .ref (g 1)) (C := RT) (T := TT) (N := 2) hx hb hts in_T hown hK hP 17 rfl rfl 1 (by decide) (hts _ wm_70) (fun _ h9 => h9) rfl dT_deliver_31 ?_
      refine lv_iload_n hx hb dT_deliver_34 rfl (lv_at hl 1 rfl) ?_
      refine r_oald (q0 := 18) (t0 := 4) (f := rp) hx hb hK hP rfl rfl (by omega) (by decide) dT_deliver_35 ?_
      refine r_topr hrp ?_
      refine wr_calli (w2 := wTo cc (a 0) g rp) (va_runV (As := []) (rest := []) S (kP_applyReady D cc a b x (rcvR x (y) o) (H.size) ht hp1 ((hap o ho_o).2) ok ((hap o ho_o).1)) (cwV 0 hts (gd_V wm_154 wm_155 wm_156 wm_3 wm_157) rfl rfl rfl (by decide +kernel) ⟨Nat.le_of_ble_eq_true rfl, Nat.le_of_ble_eq_true rfl⟩) (wr_preV (q0 := 7) (P_left hP) hE (D_left hD) rfl rfl) rfl rfl hl.1 rfl (lv_room (Nat.le_of_ble_eq_true rfl)) dT_deliver_36 ⟨Nat.le_of_ble_eq_true rfl, Nat.le_of_ble_eq_true rfl⟩) hP hD hS hA (fun v_36 u H locs hpo hP hD hS => ?_)
      subst hpo
      have hP : va_P D vwCl (wT cc a b g rp (x) (aprR x (rcvR x (y) o))) H := hP
      have hD : va_D A (wT cc a b g rp (x) (aprR x (rcvR x (y) o))) := hD
      exact kx _ _ _ _ _ (x, aprR x (rcvR x (y) o)) dT_deliver_39 hS hP hD (Or.inr ⟨rfl, o, ho_o, rfl, rfl, rfl⟩)
    · refine lv_iconst (v := sI (0)) hx hb dT_deliver_18 (by decide) ?_
      exact kx _ _ _ _ _ (x, y) dT_deliver_19 hS hP hD (by first | exact Or.inl ⟨Or.inl c_4, sI_0, rfl⟩ | exact Or.inl ⟨Or.inr c_15, sI_0, rfl⟩)

def rmT_collect : Room := { frames := 6, cells := 0, slots := 0, locals := 131 }
set_option maxHeartbeats 4000000 in
set_option maxRecDepth 100000 in
theorem kT_collect {l : Launch} (D : va_G) (cc : Nat → ClassId) (a b g : Nat → Nat) (rp : Nat → Nat) (x : LgS) (y : RpS) (sz : Nat) (r : Nat) (hr : r < 3) (hrp : rp r = b 0) (z1 : Int32) (hz : isRep z1 = true → z1 = nI r) (ht : ∀ o, o < x.cnt → x.chr o = 0 → 0 < x.tgt o) (hkc : (drF (mkG2 x y x.cnt) y.kpt x.cnt).2 ≤ y.kc) (ok : okL x) (kr : okR y) : Met l yT_collect wsT_collect rmT_collect (va_Pc [.ref (g 0), .int (z1)] (WP D cc (wT cc a b g rp (x) (y)) sz)) (va_Qi (RC_collect x y r z1) (WQ D cc (va_A (wT cc a b g rp (x) (y)) sz) (fun u : LRp => wT cc a b g rp (u.1) (u.2))) (va_A (wT cc a b g rp (x) (y)) sz)) 0 0 (va_A (wT cc a b g rp (x) (y)) sz) := by
  refine wr_meti RT [.ref (g 0), .int (z1)] D cc (wT cc a b g rp (x) (y)) sz (fun u : LRp => wT cc a b g rp (u.1) (u.2)) _ (by decide) rfl rfl (Nat.le_of_ble_eq_true rfl) (fun v _ _ => vp_nar_int v) ?_
  intro p e s m args below meth c Q A S hP hE hD hA kx ls hl
  obtain ⟨hx, hb, hml, hown, hts⟩ := id S
  have hK := hE.1
  have hts := hE.ts args
  have S : CallFix p m c cT_collect 2 s args wAll RT := ⟨hx, hb, hml, hown, hts⟩
  have hS : va_S A s.heap s.heap [] := va_S.rf
  have hn := ok.n
  have he := ok.e
  have hself := kr.self
  have htl := kr.tl
  have hl : lv_has ls 2 [(0, .ref (g 0)), (1, .int (z1))] := hl
  refine lv_iload_n hx hb dT_collect_0 rfl (lv_at hl 1 rfl) ?_
  refine W.callR (W.runS (As := [.int (z1)]) (rest := []) S (kT_isReplica ((z1))) (va_cwS 1 hts (gd_S wm_77 wm_78 wm_1 wm_79) rfl rfl rfl (by decide +kernel) ⟨Nat.le_of_ble_eq_true rfl, Nat.le_of_ble_eq_true rfl⟩) preT rfl rfl hl.1 rfl (lv_room (Nat.le_of_ble_eq_true rfl)) dT_collect_1 ⟨Nat.le_of_ble_eq_true rfl, Nat.le_of_ble_eq_true rfl⟩) ?_
  refine W.eq (g2 := F0 m 4 ls [.int (bI (isRep ((z1))))]) rfl ?_
  refine r_eqB (tgt := 19) hx hb dT_collect_4 (by decide) (fun c_4 => ?_) (fun c_4 => ?_)
  · refine lv_iconst (v := sI (0)) hx hb dT_collect_19 (by decide) ?_
    exact kx _ _ _ _ _ (x, y) dT_collect_20 hS hP hD (by first | exact Or.inl ⟨c_4, sI_0, rfl⟩ | exact Or.inr ⟨rfl, rfl, rfl⟩)
  · obtain rfl := hz c_4
    refine lv_aload_n hx hb dT_collect_7 rfl (lv_at hl 0 rfl) ?_
    refine va_get (D := D) (ci := 2) (v := .ref (g 1)) (C := RT) (T := TT) (N := 2) hx hb hts in_T hown hK hP 17 rfl rfl 1 (by decide) (hts _ wm_70) (fun _ h9 => h9) rfl dT_collect_8 ?_
    refine lv_iload_n hx hb dT_collect_11 rfl (lv_at hl 1 rfl) ?_
    refine r_oald (q0 := 18) (t0 := 4) (f := rp) hx hb hK hP rfl rfl (by omega) (by decide) dT_collect_12 ?_
    refine r_topr hrp ?_
    refine wr_calli (w2 := wTo cc (a 0) g rp) (va_runV (As := []) (rest := []) S (kP_dropErased D cc a b x y (s.heap.size) ht hkc ok kr) (cwV 0 hts (gd_V wm_174 wm_175 wm_176 wm_3 wm_177) rfl rfl rfl (by decide +kernel) ⟨Nat.le_of_ble_eq_true rfl, Nat.le_of_ble_eq_true rfl⟩) (wr_preV (q0 := 7) (P_left hP) hE (D_left hD) rfl rfl) rfl rfl hl.1 rfl (lv_room (Nat.le_of_ble_eq_true rfl)) dT_collect_13 ⟨Nat.le_of_ble_eq_true rfl, Nat.le_of_ble_eq_true rfl⟩) hP hD hS hA (fun v_13 u H locs hpo hP hD hS => ?_)
    subst hpo
    have hP : va_P D vwCl (wT cc a b g rp (x) (drR x y)) H := hP
    have hD : va_D A (wT cc a b g rp (x) (drR x y)) := hD
    refine lv_goto (tgt := 20) hx hb dT_collect_16 (by decide) ?_
    exact kx _ _ _ _ _ (x, drR x y) dT_collect_20 hS hP hD (by first | exact Or.inl ⟨c_4, sI_0, rfl⟩ | exact Or.inr ⟨rfl, rfl, rfl⟩)

def rmT_length : Room := { frames := 1, cells := 0, slots := 0, locals := 20 }
set_option maxHeartbeats 4000000 in
set_option maxRecDepth 100000 in
theorem kT_length {l : Launch} (D : va_G) (cc : Nat → ClassId) (a b g : Nat → Nat) (rp : Nat → Nat) (x : LgS) (y : RpS) (sz : Nat) (r : Nat) (hr : r < 3) (hrp : rp r = b 0) (z1 : Int32) (hz : isRep z1 = true → z1 = nI r) (ok : okL x) (kr : okR y) : Met l yT_length wsT_length rmT_length (va_Pc [.ref (g 0), .int (z1)] (WP D cc (wT cc a b g rp (x) (y)) sz)) (va_Qi (RC_num y.tl x y r z1) (WQ D cc (va_A (wT cc a b g rp (x) (y)) sz) (fun u : LRp => wT cc a b g rp (u.1) (u.2))) (va_A (wT cc a b g rp (x) (y)) sz)) 0 0 (va_A (wT cc a b g rp (x) (y)) sz) := by
  refine wr_meti RT [.ref (g 0), .int (z1)] D cc (wT cc a b g rp (x) (y)) sz (fun u : LRp => wT cc a b g rp (u.1) (u.2)) _ (by decide) rfl rfl (Nat.le_of_ble_eq_true rfl) (fun v _ _ => vp_nar_int v) ?_
  intro p e s m args below meth c Q A S hP hE hD hA kx ls hl
  obtain ⟨hx, hb, hml, hown, hts⟩ := id S
  have hK := hE.1
  have hts := hE.ts args
  have S : CallFix p m c cT_length 2 s args wAll RT := ⟨hx, hb, hml, hown, hts⟩
  have hS : va_S A s.heap s.heap [] := va_S.rf
  have hn := ok.n
  have he := ok.e
  have hself := kr.self
  have htl := kr.tl
  have hl : lv_has ls 2 [(0, .ref (g 0)), (1, .int (z1))] := hl
  refine lv_iload_n hx hb dT_length_0 rfl (lv_at hl 1 rfl) ?_
  refine W.callR (W.runS (As := [.int (z1)]) (rest := []) S (kT_isReplica ((z1))) (va_cwS 1 hts (gd_S wm_77 wm_78 wm_1 wm_79) rfl rfl rfl (by decide +kernel) ⟨Nat.le_of_ble_eq_true rfl, Nat.le_of_ble_eq_true rfl⟩) preT rfl rfl hl.1 rfl (lv_room (Nat.le_of_ble_eq_true rfl)) dT_length_1 ⟨Nat.le_of_ble_eq_true rfl, Nat.le_of_ble_eq_true rfl⟩) ?_
  refine W.eq (g2 := F0 m 4 ls [.int (bI (isRep ((z1))))]) rfl ?_
  refine r_eqB (tgt := 19) hx hb dT_length_4 (by decide) (fun c_4 => ?_) (fun c_4 => ?_)
  · refine lv_iconst (v := sI (0)) hx hb dT_length_19 (by decide) ?_
    exact kx _ _ _ _ _ (x, y) dT_length_20 hS hP hD (by first | exact Or.inl ⟨c_4, sI_0, rfl⟩ | exact Or.inr ⟨rfl, rfl, rfl⟩)
  · obtain rfl := hz c_4
    refine lv_aload_n hx hb dT_length_7 rfl (lv_at hl 0 rfl) ?_
    refine va_get (D := D) (ci := 2) (v := .ref (g 1)) (C := RT) (T := TT) (N := 2) hx hb hts in_T hown hK hP 17 rfl rfl 1 (by decide) (hts _ wm_70) (fun _ h9 => h9) rfl dT_length_8 ?_
    refine lv_iload_n hx hb dT_length_11 rfl (lv_at hl 1 rfl) ?_
    refine r_oald (q0 := 18) (t0 := 4) (f := rp) hx hb hK hP rfl rfl (by omega) (by decide) dT_length_12 ?_
    refine r_topr hrp ?_
    refine va_getN (D := D) (ci := 1) (v := .int (nI (y.tl))) (C := RP) (T := TP) (N := 12) hx hb hts in_P hown hK hP 7 rfl rfl 8 (by decide) (hE.f nf_12) (fun _ h9 => h9) rfl dT_length_13 ?_
    refine lv_goto (tgt := 20) hx hb dT_length_16 (by decide) ?_
    exact kx _ _ _ _ _ (x, y) dT_length_20 hS hP hD (by first | exact Or.inl ⟨c_4, sI_0, rfl⟩ | exact Or.inr ⟨rfl, rfl, rfl⟩)

def rmT_kept : Room := { frames := 1, cells := 0, slots := 0, locals := 20 }
set_option maxHeartbeats 4000000 in
set_option maxRecDepth 100000 in
theorem kT_kept {l : Launch} (D : va_G) (cc : Nat → ClassId) (a b g : Nat → Nat) (rp : Nat → Nat) (x : LgS) (y : RpS) (sz : Nat) (r : Nat) (hr : r < 3) (hrp : rp r = b 0) (z1 : Int32) (hz : isRep z1 = true → z1 = nI r) (ok : okL x) (kr : okR y) : Met l yT_kept wsT_kept rmT_kept (va_Pc [.ref (g 0), .int (z1)] (WP D cc (wT cc a b g rp (x) (y)) sz)) (va_Qi (RC_num y.kc x y r z1) (WQ D cc (va_A (wT cc a b g rp (x) (y)) sz) (fun u : LRp => wT cc a b g rp (u.1) (u.2))) (va_A (wT cc a b g rp (x) (y)) sz)) 0 0 (va_A (wT cc a b g rp (x) (y)) sz) := by
  refine wr_meti RT [.ref (g 0), .int (z1)] D cc (wT cc a b g rp (x) (y)) sz (fun u : LRp => wT cc a b g rp (u.1) (u.2)) _ (by decide) rfl rfl (Nat.le_of_ble_eq_true rfl) (fun v _ _ => vp_nar_int v) ?_
  intro p e s m args below meth c Q A S hP hE hD hA kx ls hl
  obtain ⟨hx, hb, hml, hown, hts⟩ := id S
  have hK := hE.1
  have hts := hE.ts args
  have S : CallFix p m c cT_kept 2 s args wAll RT := ⟨hx, hb, hml, hown, hts⟩
  have hS : va_S A s.heap s.heap [] := va_S.rf
  have hn := ok.n
  have he := ok.e
  have hself := kr.self
  have htl := kr.tl
  have hl : lv_has ls 2 [(0, .ref (g 0)), (1, .int (z1))] := hl
  refine lv_iload_n hx hb dT_kept_0 rfl (lv_at hl 1 rfl) ?_
  refine W.callR (W.runS (As := [.int (z1)]) (rest := []) S (kT_isReplica ((z1))) (va_cwS 1 hts (gd_S wm_77 wm_78 wm_1 wm_79) rfl rfl rfl (by decide +kernel) ⟨Nat.le_of_ble_eq_true rfl, Nat.le_of_ble_eq_true rfl⟩) preT rfl rfl hl.1 rfl (lv_room (Nat.le_of_ble_eq_true rfl)) dT_kept_1 ⟨Nat.le_of_ble_eq_true rfl, Nat.le_of_ble_eq_true rfl⟩) ?_
  refine W.eq (g2 := F0 m 4 ls [.int (bI (isRep ((z1))))]) rfl ?_
  refine r_eqB (tgt := 19) hx hb dT_kept_4 (by decide) (fun c_4 => ?_) (fun c_4 => ?_)
  · refine lv_iconst (v := sI (0)) hx hb dT_kept_19 (by decide) ?_
    exact kx _ _ _ _ _ (x, y) dT_kept_20 hS hP hD (by first | exact Or.inl ⟨c_4, sI_0, rfl⟩ | exact Or.inr ⟨rfl, rfl, rfl⟩)
  · obtain rfl := hz c_4
    refine lv_aload_n hx hb dT_kept_7 rfl (lv_at hl 0 rfl) ?_
    refine va_get (D := D) (ci := 2) (v := .ref (g 1)) (C := RT) (T := TT) (N := 2) hx hb hts in_T hown hK hP 17 rfl rfl 1 (by decide) (hts _ wm_70) (fun _ h9 => h9) rfl dT_kept_8 ?_
    refine lv_iload_n hx hb dT_kept_11 rfl (lv_at hl 1 rfl) ?_
    refine r_oald (q0 := 18) (t0 := 4) (f := rp) hx hb hK hP rfl rfl (by omega) (by decide) dT_kept_12 ?_
    refine r_topr hrp ?_
    refine va_getN (D := D) (ci := 1) (v := .int (nI (y.kc))) (C := RP) (T := TP) (N := 12) hx hb hts in_P hown hK hP 7 rfl rfl 9 (by decide) (hE.f nf_13) (fun _ h9 => h9) rfl dT_kept_13 ?_
    refine lv_goto (tgt := 20) hx hb dT_kept_16 (by decide) ?_
    exact kx _ _ _ _ _ (x, y) dT_kept_20 hS hP hD (by first | exact Or.inl ⟨c_4, sI_0, rfl⟩ | exact Or.inr ⟨rfl, rfl, rfl⟩)

def rmT_waiting : Room := { frames := 1, cells := 0, slots := 0, locals := 20 }
set_option maxHeartbeats 4000000 in
set_option maxRecDepth 100000 in
theorem kT_waiting {l : Launch} (D : va_G) (cc : Nat → ClassId) (a b g : Nat → Nat) (rp : Nat → Nat) (x : LgS) (y : RpS) (sz : Nat) (r : Nat) (hr : r < 3) (hrp : rp r = b 0) (z1 : Int32) (hz : isRep z1 = true → z1 = nI r) (ok : okL x) (kr : okR y) : Met l yT_waiting wsT_waiting rmT_waiting (va_Pc [.ref (g 0), .int (z1)] (WP D cc (wT cc a b g rp (x) (y)) sz)) (va_Qi (RC_num y.wc x y r z1) (WQ D cc (va_A (wT cc a b g rp (x) (y)) sz) (fun u : LRp => wT cc a b g rp (u.1) (u.2))) (va_A (wT cc a b g rp (x) (y)) sz)) 0 0 (va_A (wT cc a b g rp (x) (y)) sz) := by
  refine wr_meti RT [.ref (g 0), .int (z1)] D cc (wT cc a b g rp (x) (y)) sz (fun u : LRp => wT cc a b g rp (u.1) (u.2)) _ (by decide) rfl rfl (Nat.le_of_ble_eq_true rfl) (fun v _ _ => vp_nar_int v) ?_
  intro p e s m args below meth c Q A S hP hE hD hA kx ls hl
  obtain ⟨hx, hb, hml, hown, hts⟩ := id S
  have hK := hE.1
  have hts := hE.ts args
  have S : CallFix p m c cT_waiting 2 s args wAll RT := ⟨hx, hb, hml, hown, hts⟩
  have hS : va_S A s.heap s.heap [] := va_S.rf
  have hn := ok.n
  have he := ok.e
  have hself := kr.self
  have htl := kr.tl
  have hl : lv_has ls 2 [(0, .ref (g 0)), (1, .int (z1))] := hl
  refine lv_iload_n hx hb dT_waiting_0 rfl (lv_at hl 1 rfl) ?_
  refine W.callR (W.runS (As := [.int (z1)]) (rest := []) S (kT_isReplica ((z1))) (va_cwS 1 hts (gd_S wm_77 wm_78 wm_1 wm_79) rfl rfl rfl (by decide +kernel) ⟨Nat.le_of_ble_eq_true rfl, Nat.le_of_ble_eq_true rfl⟩) preT rfl rfl hl.1 rfl (lv_room (Nat.le_of_ble_eq_true rfl)) dT_waiting_1 ⟨Nat.le_of_ble_eq_true rfl, Nat.le_of_ble_eq_true rfl⟩) ?_
  refine W.eq (g2 := F0 m 4 ls [.int (bI (isRep ((z1))))]) rfl ?_
  refine r_eqB (tgt := 19) hx hb dT_waiting_4 (by decide) (fun c_4 => ?_) (fun c_4 => ?_)
  · refine lv_iconst (v := sI (0)) hx hb dT_waiting_19 (by decide) ?_
    exact kx _ _ _ _ _ (x, y) dT_waiting_20 hS hP hD (by first | exact Or.inl ⟨c_4, sI_0, rfl⟩ | exact Or.inr ⟨rfl, rfl, rfl⟩)
  · obtain rfl := hz c_4
    refine lv_aload_n hx hb dT_waiting_7 rfl (lv_at hl 0 rfl) ?_
    refine va_get (D := D) (ci := 2) (v := .ref (g 1)) (C := RT) (T := TT) (N := 2) hx hb hts in_T hown hK hP 17 rfl rfl 1 (by decide) (hts _ wm_70) (fun _ h9 => h9) rfl dT_waiting_8 ?_
    refine lv_iload_n hx hb dT_waiting_11 rfl (lv_at hl 1 rfl) ?_
    refine r_oald (q0 := 18) (t0 := 4) (f := rp) hx hb hK hP rfl rfl (by omega) (by decide) dT_waiting_12 ?_
    refine r_topr hrp ?_
    refine va_getN (D := D) (ci := 1) (v := .int (nI (y.wc))) (C := RP) (T := TP) (N := 12) hx hb hts in_P hown hK hP 7 rfl rfl 10 (by decide) (hE.f nf_14) (fun _ h9 => h9) rfl dT_waiting_13 ?_
    refine lv_goto (tgt := 20) hx hb dT_waiting_16 (by decide) ?_
    exact kx _ _ _ _ _ (x, y) dT_waiting_20 hS hP hD (by first | exact Or.inl ⟨c_4, sI_0, rfl⟩ | exact Or.inr ⟨rfl, rfl, rfl⟩)

def rmT_at : Room := { frames := 1, cells := 0, slots := 0, locals := 21 }
set_option maxHeartbeats 4000000 in
set_option maxRecDepth 100000 in
theorem kT_at {l : Launch} (D : va_G) (cc : Nat → ClassId) (a b g : Nat → Nat) (rp : Nat → Nat) (x : LgS) (y : RpS) (sz : Nat) (r : Nat) (hr : r < 3) (hrp : rp r = b 0) (z1 z2 : Int32) (ve : Nat) (hve : eatP y z2 ve) (hve1 : ve ≤ 100) (hz : isRep z1 = true → z1 = nI r) (ok : okL x) (kr : okR y) : Met l yT_at wsT_at rmT_at (va_Pc [.ref (g 0), .int (z1), .int (z2)] (WP D cc (wT cc a b g rp (x) (y)) sz)) (va_Qi (RC_at x y r ve z1) (WQ D cc (va_A (wT cc a b g rp (x) (y)) sz) (fun u : LRp => wT cc a b g rp (u.1) (u.2))) (va_A (wT cc a b g rp (x) (y)) sz)) 0 0 (va_A (wT cc a b g rp (x) (y)) sz) := by
  refine wr_meti RT [.ref (g 0), .int (z1), .int (z2)] D cc (wT cc a b g rp (x) (y)) sz (fun u : LRp => wT cc a b g rp (u.1) (u.2)) _ (by decide) rfl rfl (Nat.le_of_ble_eq_true rfl) (fun v _ _ => vp_nar_int v) ?_
  intro p e s m args below meth c Q A S hP hE hD hA kx ls hl
  obtain ⟨hx, hb, hml, hown, hts⟩ := id S
  have hK := hE.1
  have hts := hE.ts args
  have S : CallFix p m c cT_at 4 s args wAll RT := ⟨hx, hb, hml, hown, hts⟩
  have hS : va_S A s.heap s.heap [] := va_S.rf
  have hn := ok.n
  have he := ok.e
  have hself := kr.self
  have htl := kr.tl
  have hl : lv_has ls 4 [(0, .ref (g 0)), (1, .int (z1)), (2, .int (z2))] := hl
  refine lv_iload_n hx hb dT_at_0 rfl (lv_at hl 1 rfl) ?_
  refine W.callR (W.runS (As := [.int (z1)]) (rest := []) S (kT_isReplica ((z1))) (va_cwS 1 hts (gd_S wm_77 wm_78 wm_1 wm_79) rfl rfl rfl (by decide +kernel) ⟨Nat.le_of_ble_eq_true rfl, Nat.le_of_ble_eq_true rfl⟩) preT rfl rfl hl.1 rfl (lv_room (Nat.le_of_ble_eq_true rfl)) dT_at_1 ⟨Nat.le_of_ble_eq_true rfl, Nat.le_of_ble_eq_true rfl⟩) ?_
  refine W.eq (g2 := F0 m 4 ls [.int (bI (isRep ((z1))))]) rfl ?_
  refine r_neB (tgt := 9) hx hb dT_at_4 (by decide) (fun c_4 => ?_) (fun c_4 => ?_)
  · obtain rfl := hz c_4
    refine lv_aload_n hx hb dT_at_9 rfl (lv_at hl 0 rfl) ?_
    refine va_get (D := D) (ci := 2) (v := .ref (g 1)) (C := RT) (T := TT) (N := 2) hx hb hts in_T hown hK hP 17 rfl rfl 1 (by decide) (hts _ wm_70) (fun _ h9 => h9) rfl dT_at_10 ?_
    refine lv_iload_n hx hb dT_at_13 rfl (lv_at hl 1 rfl) ?_
    refine r_oald (q0 := 18) (t0 := 4) (f := rp) hx hb hK hP rfl rfl (by omega) (by decide) dT_at_14 ?_
    refine r_topr hrp ?_
    refine lv_iload_n hx hb dT_at_15 rfl (lv_at hl 2 rfl) ?_
    refine W.callR (W.runV (As := [.int (z2)]) (rest := []) S (kP_elementAt_z D cc a b x y ((z2)) ve hve kr) (cwV 1 hts (gd_V wm_138 wm_139 wm_140 wm_3 wm_141) rfl rfl rfl (by decide +kernel) ⟨Nat.le_of_ble_eq_true rfl, Nat.le_of_ble_eq_true rfl⟩) (rd_preV (q0 := 7) (P_left hP) hE rfl rfl) rfl rfl hl.1 rfl (lv_room (Nat.le_of_ble_eq_true rfl)) dT_at_16 ⟨Nat.le_of_ble_eq_true rfl, Nat.le_of_ble_eq_true rfl⟩) ?_
    refine W.eq (g2 := F0 m 19 ls [.int (sI (ve))]) rfl ?_
    refine lv_istore_n (lv' := [(3, .int (sI (ve))), (0, .ref (g 0)), (1, .int (nI (r))), (2, .int (z2))]) hx hb dT_at_19 rfl hl (by decide) rfl (fun ls hl => ?_)
    refine lv_iload_n hx hb dT_at_20 rfl (lv_at hl 0 rfl) ?_
    refine lv_iconst (v := sI (0)) hx hb dT_at_21 (by decide) ?_
    refine r_neS (by have := hve1; omega) (by omega) (tgt := 27) hx hb dT_at_22 (by decide) (fun c_22 => ?_) (fun c_22 => ?_)
    · refine lv_aload_n hx hb dT_at_27 rfl (lv_at hl 1 rfl) ?_
      refine va_get (D := D) (ci := 2) (v := .ref (a 0)) (C := RT) (T := TT) (N := 2) hx hb hts in_T hown hK hP 17 rfl rfl 0 (by decide) (hts _ wm_69) (fun _ h9 => h9) rfl dT_at_28 ?_
      refine va_getN (D := D) (ci := 0) (v := .ref (a 4)) (C := RL) (T := TL) (N := 8) hx hb hts in_L hown hK hP 0 rfl rfl 3 (by decide) (hE.f nf_6) (fun _ h9 => h9) rfl dT_at_31 ?_
      refine lv_iload_n hx hb dT_at_34 rfl (lv_at hl 0 rfl) ?_
      refine r_top (y := nI (ve - 1)) (sI_p (Nat.pos_of_ne_zero c_22)) ?_
      refine r_cald (q0 := 4) (t0 := 2) hx hb hK hP rfl rfl (by omega) (by decide) dT_at_35 ?_
      exact kx _ _ _ _ _ (x, y) dT_at_36 hS hP hD (Or.inr ⟨rfl, rfl, Or.inr ⟨Nat.pos_of_ne_zero c_22, rfl⟩⟩)
    · refine lv_iconst (v := sI (0)) hx hb dT_at_25 (by decide) ?_
      exact kx _ _ _ _ _ (x, y) dT_at_26 hS hP hD (Or.inr ⟨rfl, rfl, Or.inl ⟨c_22, sI_0⟩⟩)
  · refine lv_iconst (v := sI (0)) hx hb dT_at_7 (by decide) ?_
    exact kx _ _ _ _ _ (x, y) dT_at_8 hS hP hD (Or.inl ⟨c_4, sI_0, rfl⟩)

def rmT_position : Room := { frames := 1, cells := 0, slots := 0, locals := 22 }
set_option maxHeartbeats 4000000 in
set_option maxRecDepth 100000 in
theorem kT_position {l : Launch} (D : va_G) (cc : Nat → ClassId) (a b g : Nat → Nat) (rp : Nat → Nat) (x : LgS) (y : RpS) (sz : Nat) (r : Nat) (hr : r < 3) (hrp : rp r = b 0) (z1 z2 : Int32) (vp : Nat) (hvp : ridP y z2 vp) (hvp1 : vp ≤ 100) (hz : isRep z1 = true → z1 = nI r) (ok : okL x) (kr : okR y) : Met l yT_position wsT_position rmT_position (va_Pc [.ref (g 0), .int (z1), .int (z2)] (WP D cc (wT cc a b g rp (x) (y)) sz)) (va_Qi (RC_position x y r vp z1) (WQ D cc (va_A (wT cc a b g rp (x) (y)) sz) (fun u : LRp => wT cc a b g rp (u.1) (u.2))) (va_A (wT cc a b g rp (x) (y)) sz)) 0 0 (va_A (wT cc a b g rp (x) (y)) sz) := by
  refine wr_meti RT [.ref (g 0), .int (z1), .int (z2)] D cc (wT cc a b g rp (x) (y)) sz (fun u : LRp => wT cc a b g rp (u.1) (u.2)) _ (by decide) rfl rfl (Nat.le_of_ble_eq_true rfl) (fun v _ _ => vp_nar_int v) ?_
  intro p e s m args below meth c Q A S hP hE hD hA kx ls hl
  obtain ⟨hx, hb, hml, hown, hts⟩ := id S
  have hK := hE.1
  have hts := hE.ts args
  have S : CallFix p m c cT_position 4 s args wAll RT := ⟨hx, hb, hml, hown, hts⟩
  have hS : va_S A s.heap s.heap [] := va_S.rf
  have hn := ok.n
  have he := ok.e
  have hself := kr.self
  have htl := kr.tl
  have hl : lv_has ls 4 [(0, .ref (g 0)), (1, .int (z1)), (2, .int (z2))] := hl
  refine lv_iload_n hx hb dT_position_0 rfl (lv_at hl 1 rfl) ?_
  refine W.callR (W.runS (As := [.int (z1)]) (rest := []) S (kT_isReplica ((z1))) (va_cwS 1 hts (gd_S wm_77 wm_78 wm_1 wm_79) rfl rfl rfl (by decide +kernel) ⟨Nat.le_of_ble_eq_true rfl, Nat.le_of_ble_eq_true rfl⟩) preT rfl rfl hl.1 rfl (lv_room (Nat.le_of_ble_eq_true rfl)) dT_position_1 ⟨Nat.le_of_ble_eq_true rfl, Nat.le_of_ble_eq_true rfl⟩) ?_
  refine W.eq (g2 := F0 m 4 ls [.int (bI (isRep ((z1))))]) rfl ?_
  refine r_neB (tgt := 9) hx hb dT_position_4 (by decide) (fun c_4 => ?_) (fun c_4 => ?_)
  · obtain rfl := hz c_4
    refine lv_aload_n hx hb dT_position_9 rfl (lv_at hl 0 rfl) ?_
    refine va_get (D := D) (ci := 2) (v := .ref (g 1)) (C := RT) (T := TT) (N := 2) hx hb hts in_T hown hK hP 17 rfl rfl 1 (by decide) (hts _ wm_70) (fun _ h9 => h9) rfl dT_position_10 ?_
    refine lv_iload_n hx hb dT_position_13 rfl (lv_at hl 1 rfl) ?_
    refine r_oald (q0 := 18) (t0 := 4) (f := rp) hx hb hK hP rfl rfl (by omega) (by decide) dT_position_14 ?_
    refine r_topr hrp ?_
    refine lv_iload_n hx hb dT_position_15 rfl (lv_at hl 2 rfl) ?_
    refine W.callR (W.runV (As := [.int (z2)]) (rest := []) S (kP_positionOf D cc a b x y ((z2)) vp hvp kr) (cwV 1 hts (gd_V wm_200 wm_201 wm_202 wm_3 wm_203) rfl rfl rfl (by decide +kernel) ⟨Nat.le_of_ble_eq_true rfl, Nat.le_of_ble_eq_true rfl⟩) (rd_preV (q0 := 7) (P_left hP) hE rfl rfl) rfl rfl hl.1 rfl (lv_room (Nat.le_of_ble_eq_true rfl)) dT_position_16 ⟨Nat.le_of_ble_eq_true rfl, Nat.le_of_ble_eq_true rfl⟩) ?_
    refine W.eq (g2 := F0 m 19 ls [.int (sI (vp))]) rfl ?_
    refine lv_istore_n (lv' := [(3, .int (sI (vp))), (0, .ref (g 0)), (1, .int (nI (r))), (2, .int (z2))]) hx hb dT_position_19 rfl hl (by decide) rfl (fun ls hl => ?_)
    refine lv_iload_n hx hb dT_position_20 rfl (lv_at hl 0 rfl) ?_
    refine lv_iconst (v := sI (0)) hx hb dT_position_21 (by decide) ?_
    refine r_neS (by have := hvp1; omega) (by omega) (tgt := 29) hx hb dT_position_22 (by decide) (fun c_22 => ?_) (fun c_22 => ?_)
    · refine lv_iload_n hx hb dT_position_29 rfl (lv_at hl 0 rfl) ?_
      exact kx _ _ _ _ _ (x, y) dT_position_30 hS hP hD (by first | exact Or.inr ⟨rfl, by rw [c_22], rfl⟩ | exact Or.inr ⟨rfl, rfl, rfl⟩)
    · refine lv_iconst (v := sI (0)) hx hb dT_position_25 (by decide) ?_
      refine lv_goto (tgt := 30) hx hb dT_position_26 (by decide) ?_
      exact kx _ _ _ _ _ (x, y) dT_position_30 hS hP hD (by first | exact Or.inr ⟨rfl, by rw [c_22], rfl⟩ | exact Or.inr ⟨rfl, rfl, rfl⟩)
  · refine lv_iconst (v := sI (0)) hx hb dT_position_7 (by decide) ?_
    exact kx _ _ _ _ _ (x, y) dT_position_8 hS hP hD (Or.inl ⟨c_4, sI_0, rfl⟩)

def rmT_operations : Room := { frames := 0, cells := 0, slots := 0, locals := 0 }
set_option maxHeartbeats 4000000 in
set_option maxRecDepth 100000 in
theorem kT_operations {l : Launch} (D : va_G) (cc : Nat → ClassId) (a b g : Nat → Nat) (rp : Nat → Nat) (x : LgS) (y : RpS) (sz : Nat) (ok : okL x) (kr : okR y) : Met l yT_operations wsT_operations rmT_operations (va_Pc [.ref (g 0)] (WP D cc (wT cc a b g rp (x) (y)) sz)) (va_Qi (fun v (u : LRp) => v = nI x.cnt ∧ u = (x, y)) (WQ D cc (va_A (wT cc a b g rp (x) (y)) sz) (fun u : LRp => wT cc a b g rp (u.1) (u.2))) (va_A (wT cc a b g rp (x) (y)) sz)) 0 0 (va_A (wT cc a b g rp (x) (y)) sz) := by
  refine wr_meti RT [.ref (g 0)] D cc (wT cc a b g rp (x) (y)) sz (fun u : LRp => wT cc a b g rp (u.1) (u.2)) _ (by decide) rfl rfl (Nat.le_of_ble_eq_true rfl) (fun v _ _ => vp_nar_int v) ?_
  intro p e s m args below meth c Q A S hP hE hD hA kx ls hl
  obtain ⟨hx, hb, hml, hown, hts⟩ := id S
  have hK := hE.1
  have hts := hE.ts args
  have S : CallFix p m c cT_operations 1 s args wAll RT := ⟨hx, hb, hml, hown, hts⟩
  have hS : va_S A s.heap s.heap [] := va_S.rf
  have hn := ok.n
  have he := ok.e
  have hself := kr.self
  have htl := kr.tl
  have hl : lv_has ls 1 [(0, .ref (g 0))] := hl
  refine lv_aload_n hx hb dT_operations_0 rfl (lv_at hl 0 rfl) ?_
  refine va_get (D := D) (ci := 2) (v := .ref (a 0)) (C := RT) (T := TT) (N := 2) hx hb hts in_T hown hK hP 17 rfl rfl 0 (by decide) (hts _ wm_69) (fun _ h9 => h9) rfl dT_operations_1 ?_
  refine va_getN (D := D) (ci := 0) (v := .int (nI (x.cnt))) (C := RL) (T := TL) (N := 8) hx hb hts in_L hown hK hP 0 rfl rfl 6 (by decide) (hE.f nf_9) (fun _ h9 => h9) rfl dT_operations_4 ?_
  exact kx _ _ _ _ _ (x, y) dT_operations_7 hS hP hD (⟨rfl, rfl⟩)

def rmT_stamp : Room := { frames := 1, cells := 0, slots := 0, locals := 21 }
set_option maxHeartbeats 4000000 in
set_option maxRecDepth 100000 in
theorem kT_stamp {l : Launch} (D : va_G) (cc : Nat → ClassId) (a b g : Nat → Nat) (rp : Nat → Nat) (x : LgS) (y : RpS) (sz : Nat) (z1 : Int32) (ok : okL x) (kr : okR y) : Met l yT_stamp wsT_stamp rmT_stamp (va_Pc [.ref (g 0), .int (z1)] (WP D cc (wT cc a b g rp (x) (y)) sz)) (va_Qi (RC_stamp x y z1) (WQ D cc (va_A (wT cc a b g rp (x) (y)) sz) (fun u : LRp => wT cc a b g rp (u.1) (u.2))) (va_A (wT cc a b g rp (x) (y)) sz)) 0 0 (va_A (wT cc a b g rp (x) (y)) sz) := by
  refine wr_meti RT [.ref (g 0), .int (z1)] D cc (wT cc a b g rp (x) (y)) sz (fun u : LRp => wT cc a b g rp (u.1) (u.2)) _ (by decide) rfl rfl (Nat.le_of_ble_eq_true rfl) (fun v _ _ => vp_nar_int v) ?_
  intro p e s m args below meth c Q A S hP hE hD hA kx ls hl
  obtain ⟨hx, hb, hml, hown, hts⟩ := id S
  have hK := hE.1
  have hts := hE.ts args
  have S : CallFix p m c cT_stamp 2 s args wAll RT := ⟨hx, hb, hml, hown, hts⟩
  have hS : va_S A s.heap s.heap [] := va_S.rf
  have hn := ok.n
  have he := ok.e
  have hself := kr.self
  have htl := kr.tl
  have hl : lv_has ls 2 [(0, .ref (g 0)), (1, .int (z1))] := hl
  refine lv_aload_n hx hb dT_stamp_0 rfl (lv_at hl 0 rfl) ?_
  refine va_get (D := D) (ci := 2) (v := .ref (a 0)) (C := RT) (T := TT) (N := 2) hx hb hts in_T hown hK hP 17 rfl rfl 0 (by decide) (hts _ wm_69) (fun _ h9 => h9) rfl dT_stamp_1 ?_
  refine lv_iload_n hx hb dT_stamp_4 rfl (lv_at hl 1 rfl) ?_
  refine W.callR (W.runV (As := [.int (z1)]) (rest := []) S (kL_isIssued D cc a x ((z1)) ok) (cwV 1 hts (gd_V wm_146 wm_147 wm_148 wm_2 wm_149) rfl rfl rfl (by decide +kernel) ⟨Nat.le_of_ble_eq_true rfl, Nat.le_of_ble_eq_true rfl⟩) (rd_preV (q0 := 0) (P_left (P_left hP)) hE rfl rfl) rfl rfl hl.1 rfl (lv_room (Nat.le_of_ble_eq_true rfl)) dT_stamp_5 ⟨Nat.le_of_ble_eq_true rfl, Nat.le_of_ble_eq_true rfl⟩) ?_
  refine W.eq (g2 := F0 m 8 ls [.int (bI (isOp x.cnt ((z1))))]) rfl ?_
  refine r_neB (tgt := 13) hx hb dT_stamp_8 (by decide) (fun c_8 => ?_) (fun c_8 => ?_)
  · obtain ⟨o, ho_o, rfl⟩ := isOp_of c_8
    refine lv_iconst (v := nI (4)) hx hb dT_stamp_13 (by decide) ?_
    refine lv_aload_n hx hb dT_stamp_14 rfl (lv_at hl 0 rfl) ?_
    refine va_get (D := D) (ci := 2) (v := .ref (a 0)) (C := RT) (T := TT) (N := 2) hx hb hts in_T hown hK hP 17 rfl rfl 0 (by decide) (hts _ wm_69) (fun _ h9 => h9) rfl dT_stamp_15 ?_
    refine va_getN (D := D) (ci := 0) (v := .ref (a 2)) (C := RL) (T := TL) (N := 8) hx hb hts in_L hown hK hP 0 rfl rfl 1 (by decide) (hE.f nf_2) (fun _ h9 => h9) rfl dT_stamp_18 ?_
    refine lv_iload_n hx hb dT_stamp_21 rfl (lv_at hl 1 rfl) ?_
    refine r_iald (q0 := 2) (t0 := 0) hx hb hK hP rfl rfl (by omega) (by decide) dT_stamp_22 ?_
    refine r_mul hx hb dT_stamp_23 ?_
    refine lv_aload_n hx hb dT_stamp_24 rfl (lv_at hl 0 rfl) ?_
    refine va_get (D := D) (ci := 2) (v := .ref (a 0)) (C := RT) (T := TT) (N := 2) hx hb hts in_T hown hK hP 17 rfl rfl 0 (by decide) (hts _ wm_69) (fun _ h9 => h9) rfl dT_stamp_25 ?_
    refine va_getN (D := D) (ci := 0) (v := .ref (a 1)) (C := RL) (T := TL) (N := 8) hx hb hts in_L hown hK hP 0 rfl rfl 0 (by decide) (hE.f nf_1) (fun _ h9 => h9) rfl dT_stamp_28 ?_
    refine lv_iload_n hx hb dT_stamp_31 rfl (lv_at hl 1 rfl) ?_
    refine r_iald (q0 := 1) (t0 := 0) hx hb hK hP rfl rfl (by omega) (by decide) dT_stamp_32 ?_
    refine r_add hx hb dT_stamp_33 ?_
    exact kx _ _ _ _ _ (x, y) dT_stamp_34 hS hP hD (Or.inr ⟨o, ho_o, rfl, rfl, rfl⟩)
  · refine lv_iconst (v := sI (0)) hx hb dT_stamp_11 (by decide) ?_
    exact kx _ _ _ _ _ (x, y) dT_stamp_12 hS hP hD (Or.inl ⟨c_8, sI_0, rfl⟩)

def rmT_known : Room := { frames := 1, cells := 0, slots := 0, locals := 20 }
set_option maxHeartbeats 4000000 in
set_option maxRecDepth 100000 in
theorem kT_known {l : Launch} (D : va_G) (cc : Nat → ClassId) (a b g : Nat → Nat) (rp : Nat → Nat) (x : LgS) (y : RpS) (sz : Nat) (r : Nat) (hr : r < 3) (hrp : rp r = b 0) (z1 z2 z3 : Int32) (hz : isRep z1 = true → z1 = nI r) (ok : okL x) (kr : okR y) : Met l yT_known wsT_known rmT_known (va_Pc [.ref (g 0), .int (z1), .int (z2), .int (z3)] (WP D cc (wT cc a b g rp (x) (y)) sz)) (va_Qi (RC_known x y r z1 z2 z3) (WQ D cc (va_A (wT cc a b g rp (x) (y)) sz) (fun u : LRp => wT cc a b g rp (u.1) (u.2))) (va_A (wT cc a b g rp (x) (y)) sz)) 0 0 (va_A (wT cc a b g rp (x) (y)) sz) := by
  refine wr_meti RT [.ref (g 0), .int (z1), .int (z2), .int (z3)] D cc (wT cc a b g rp (x) (y)) sz (fun u : LRp => wT cc a b g rp (u.1) (u.2)) _ (by decide) rfl rfl (Nat.le_of_ble_eq_true rfl) (fun v _ _ => vp_nar_int v) ?_
  intro p e s m args below meth c Q A S hP hE hD hA kx ls hl
  obtain ⟨hx, hb, hml, hown, hts⟩ := id S
  have hK := hE.1
  have hts := hE.ts args
  have S : CallFix p m c cT_known 4 s args wAll RT := ⟨hx, hb, hml, hown, hts⟩
  have hS : va_S A s.heap s.heap [] := va_S.rf
  have hn := ok.n
  have he := ok.e
  have hself := kr.self
  have htl := kr.tl
  have hl : lv_has ls 4 [(0, .ref (g 0)), (1, .int (z1)), (2, .int (z2)), (3, .int (z3))] := hl
  refine lv_iload_n hx hb dT_known_0 rfl (lv_at hl 1 rfl) ?_
  refine W.callR (W.runS (As := [.int (z1)]) (rest := []) S (kT_isReplica ((z1))) (va_cwS 1 hts (gd_S wm_77 wm_78 wm_1 wm_79) rfl rfl rfl (by decide +kernel) ⟨Nat.le_of_ble_eq_true rfl, Nat.le_of_ble_eq_true rfl⟩) preT rfl rfl hl.1 rfl (lv_room (Nat.le_of_ble_eq_true rfl)) dT_known_1 ⟨Nat.le_of_ble_eq_true rfl, Nat.le_of_ble_eq_true rfl⟩) ?_
  refine W.eq (g2 := F0 m 4 ls [.int (bI (isRep ((z1))))]) rfl ?_
  refine r_eqB (tgt := 21) hx hb dT_known_4 (by decide) (fun c_4 => ?_) (fun c_4 => ?_)
  · refine lv_iconst (v := sI (0)) hx hb dT_known_21 (by decide) ?_
    exact kx _ _ _ _ _ (x, y) dT_known_22 hS hP hD (by first | exact Or.inl ⟨Or.inl c_4, sI_0, rfl⟩ | exact Or.inl ⟨Or.inr (Or.inl c_11), sI_0, rfl⟩ | exact Or.inl ⟨Or.inr (Or.inr c_18), sI_0, rfl⟩)
  · obtain rfl := hz c_4
    refine lv_iload_n hx hb dT_known_7 rfl (lv_at hl 2 rfl) ?_
    refine W.callR (W.runS (As := [.int (z2)]) (rest := []) S (kT_isReplica ((z2))) (va_cwS 1 hts (gd_S wm_77 wm_78 wm_1 wm_79) rfl rfl rfl (by decide +kernel) ⟨Nat.le_of_ble_eq_true rfl, Nat.le_of_ble_eq_true rfl⟩) preT rfl rfl hl.1 rfl (lv_room (Nat.le_of_ble_eq_true rfl)) dT_known_8 ⟨Nat.le_of_ble_eq_true rfl, Nat.le_of_ble_eq_true rfl⟩) ?_
    refine W.eq (g2 := F0 m 11 ls [.int (bI (isRep ((z2))))]) rfl ?_
    refine r_eqB (tgt := 21) hx hb dT_known_11 (by decide) (fun c_11 => ?_) (fun c_11 => ?_)
    · refine lv_iconst (v := sI (0)) hx hb dT_known_21 (by decide) ?_
      exact kx _ _ _ _ _ (x, y) dT_known_22 hS hP hD (by first | exact Or.inl ⟨Or.inl c_4, sI_0, rfl⟩ | exact Or.inl ⟨Or.inr (Or.inl c_11), sI_0, rfl⟩ | exact Or.inl ⟨Or.inr (Or.inr c_18), sI_0, rfl⟩)
    · obtain ⟨i, hr_i, rfl⟩ := isRep_of c_11
      refine lv_iload_n hx hb dT_known_14 rfl (lv_at hl 3 rfl) ?_
      refine W.callR (W.runS (As := [.int (z3)]) (rest := []) S (kT_isReplica ((z3))) (va_cwS 1 hts (gd_S wm_77 wm_78 wm_1 wm_79) rfl rfl rfl (by decide +kernel) ⟨Nat.le_of_ble_eq_true rfl, Nat.le_of_ble_eq_true rfl⟩) preT rfl rfl hl.1 rfl (lv_room (Nat.le_of_ble_eq_true rfl)) dT_known_15 ⟨Nat.le_of_ble_eq_true rfl, Nat.le_of_ble_eq_true rfl⟩) ?_
      refine W.eq (g2 := F0 m 18 ls [.int (bI (isRep ((z3))))]) rfl ?_
      refine r_neB (tgt := 23) hx hb dT_known_18 (by decide) (fun c_18 => ?_) (fun c_18 => ?_)
      · obtain ⟨j, hr_j, rfl⟩ := isRep_of c_18
        refine lv_aload_n hx hb dT_known_23 rfl (lv_at hl 0 rfl) ?_
        refine va_get (D := D) (ci := 2) (v := .ref (g 1)) (C := RT) (T := TT) (N := 2) hx hb hts in_T hown hK hP 17 rfl rfl 1 (by decide) (hts _ wm_70) (fun _ h9 => h9) rfl dT_known_24 ?_
        refine lv_iload_n hx hb dT_known_27 rfl (lv_at hl 1 rfl) ?_
        refine r_oald (q0 := 18) (t0 := 4) (f := rp) hx hb hK hP rfl rfl (by omega) (by decide) dT_known_28 ?_
        refine r_topr hrp ?_
        refine va_getN (D := D) (ci := 1) (v := .ref (b 1)) (C := RP) (T := TP) (N := 12) hx hb hts in_P hown hK hP 7 rfl rfl 2 (by decide) (hE.f nf_11) (fun _ h9 => h9) rfl dT_known_29 ?_
        refine lv_iload_n hx hb dT_known_32 rfl (lv_at hl 2 rfl) ?_
        refine r_aald (q0 := 8) (t0 := 3) (f := (fun j => b (2 + j))) hx hb hK hP rfl rfl (by omega) (by decide) dT_known_33 ?_
        refine lv_iload_n hx hb dT_known_34 rfl (lv_at hl 3 rfl) ?_
        refine r_iald (q0 := 9 + i) (t0 := 0) hx hb hK hP (at_seenT (by omega)) rfl (by omega) (by decide) dT_known_35 ?_
        exact kx _ _ _ _ _ (x, y) dT_known_36 hS hP hD (Or.inr ⟨rfl, i, j, hr_i, rfl, hr_j, rfl, rfl, rfl⟩)
      · refine lv_iconst (v := sI (0)) hx hb dT_known_21 (by decide) ?_
        exact kx _ _ _ _ _ (x, y) dT_known_22 hS hP hD (by first | exact Or.inl ⟨Or.inl c_4, sI_0, rfl⟩ | exact Or.inl ⟨Or.inr (Or.inl c_11), sI_0, rfl⟩ | exact Or.inl ⟨Or.inr (Or.inr c_18), sI_0, rfl⟩)

def rmT_stable : Room := { frames := 3, cells := 0, slots := 0, locals := 67 }
set_option maxHeartbeats 4000000 in
set_option maxRecDepth 100000 in
theorem kT_stable {l : Launch} (D : va_G) (cc : Nat → ClassId) (a b g : Nat → Nat) (rp : Nat → Nat) (x : LgS) (y : RpS) (sz : Nat) (r : Nat) (hr : r < 3) (hrp : rp r = b 0) (z1 z2 : Int32) (hz : isRep z1 = true → z1 = nI r) (ok : okL x) (kr : okR y) : Met l yT_stable wsT_stable rmT_stable (va_Pc [.ref (g 0), .int (z1), .int (z2)] (WP D cc (wT cc a b g rp (x) (y)) sz)) (va_Qi (RC_stable x y r z1 z2) (WQ D cc (va_A (wT cc a b g rp (x) (y)) sz) (fun u : LRp => wT cc a b g rp (u.1) (u.2))) (va_A (wT cc a b g rp (x) (y)) sz)) 0 0 (va_A (wT cc a b g rp (x) (y)) sz) := by
  refine wr_meti RT [.ref (g 0), .int (z1), .int (z2)] D cc (wT cc a b g rp (x) (y)) sz (fun u : LRp => wT cc a b g rp (u.1) (u.2)) _ (by decide) rfl rfl (Nat.le_of_ble_eq_true rfl) (fun v u h => by rcases h with ⟨-, rfl, -⟩ | ⟨_, _, _, _, rfl, -⟩ <;> exact bI_z _) ?_
  intro p e s m args below meth c Q A S hP hE hD hA kx ls hl
  obtain ⟨hx, hb, hml, hown, hts⟩ := id S
  have hK := hE.1
  have hts := hE.ts args
  have S : CallFix p m c cT_stable 3 s args wAll RT := ⟨hx, hb, hml, hown, hts⟩
  have hS : va_S A s.heap s.heap [] := va_S.rf
  have hn := ok.n
  have he := ok.e
  have hself := kr.self
  have htl := kr.tl
  have hl : lv_has ls 3 [(0, .ref (g 0)), (1, .int (z1)), (2, .int (z2))] := hl
  refine lv_iload_n hx hb dT_stable_0 rfl (lv_at hl 1 rfl) ?_
  refine W.callR (W.runS (As := [.int (z1)]) (rest := []) S (kT_isReplica ((z1))) (va_cwS 1 hts (gd_S wm_77 wm_78 wm_1 wm_79) rfl rfl rfl (by decide +kernel) ⟨Nat.le_of_ble_eq_true rfl, Nat.le_of_ble_eq_true rfl⟩) preT rfl rfl hl.1 rfl (lv_room (Nat.le_of_ble_eq_true rfl)) dT_stable_1 ⟨Nat.le_of_ble_eq_true rfl, Nat.le_of_ble_eq_true rfl⟩) ?_
  refine W.eq (g2 := F0 m 4 ls [.int (bI (isRep ((z1))))]) rfl ?_
  refine r_eqB (tgt := 35) hx hb dT_stable_4 (by decide) (fun c_4 => ?_) (fun c_4 => ?_)
  · refine lv_iconst (v := bI (false)) hx hb dT_stable_35 (by decide) ?_
    exact kx _ _ _ _ _ (x, y) dT_stable_36 hS hP hD (by first | exact Or.inl ⟨Or.inl c_4, rfl, rfl⟩ | exact Or.inl ⟨Or.inr c_15, rfl, rfl⟩ | exact Or.inr ⟨rfl, o, ho_o, rfl, by rw [c_28], rfl⟩)
  · obtain rfl := hz c_4
    refine lv_aload_n hx hb dT_stable_7 rfl (lv_at hl 0 rfl) ?_
    refine va_get (D := D) (ci := 2) (v := .ref (a 0)) (C := RT) (T := TT) (N := 2) hx hb hts in_T hown hK hP 17 rfl rfl 0 (by decide) (hts _ wm_69) (fun _ h9 => h9) rfl dT_stable_8 ?_
    refine lv_iload_n hx hb dT_stable_11 rfl (lv_at hl 2 rfl) ?_
    refine W.callR (W.runV (As := [.int (z2)]) (rest := []) S (kL_isIssued D cc a x ((z2)) ok) (cwV 1 hts (gd_V wm_146 wm_147 wm_148 wm_2 wm_149) rfl rfl rfl (by decide +kernel) ⟨Nat.le_of_ble_eq_true rfl, Nat.le_of_ble_eq_true rfl⟩) (rd_preV (q0 := 0) (P_left (P_left hP)) hE rfl rfl) rfl rfl hl.1 rfl (lv_room (Nat.le_of_ble_eq_true rfl)) dT_stable_12 ⟨Nat.le_of_ble_eq_true rfl, Nat.le_of_ble_eq_true rfl⟩) ?_
    refine W.eq (g2 := F0 m 15 ls [.int (bI (isOp x.cnt ((z2))))]) rfl ?_
    refine r_eqB (tgt := 35) hx hb dT_stable_15 (by decide) (fun c_15 => ?_) (fun c_15 => ?_)
    · refine lv_iconst (v := bI (false)) hx hb dT_stable_35 (by decide) ?_
      exact kx _ _ _ _ _ (x, y) dT_stable_36 hS hP hD (by first | exact Or.inl ⟨Or.inl c_4, rfl, rfl⟩ | exact Or.inl ⟨Or.inr c_15, rfl, rfl⟩ | exact Or.inr ⟨rfl, o, ho_o, rfl, by rw [c_28], rfl⟩)
    · obtain ⟨o, ho_o, rfl⟩ := isOp_of c_15
      refine lv_aload_n hx hb dT_stable_18 rfl (lv_at hl 0 rfl) ?_
      refine va_get (D := D) (ci := 2) (v := .ref (g 1)) (C := RT) (T := TT) (N := 2) hx hb hts in_T hown hK hP 17 rfl rfl 1 (by decide) (hts _ wm_70) (fun _ h9 => h9) rfl dT_stable_19 ?_
      refine lv_iload_n hx hb dT_stable_22 rfl (lv_at hl 1 rfl) ?_
      refine r_oald (q0 := 18) (t0 := 4) (f := rp) hx hb hK hP rfl rfl (by omega) (by decide) dT_stable_23 ?_
      refine r_topr hrp ?_
      refine lv_iload_n hx hb dT_stable_24 rfl (lv_at hl 2 rfl) ?_
      refine W.callR (W.runV (As := [.int (nI (o))]) (rest := []) S (kP_isSettled D cc a b x y (o) (by omega) ok kr) (cwV 1 hts (gd_V wm_228 wm_182 wm_183 wm_3 wm_184) rfl rfl rfl (by decide +kernel) ⟨Nat.le_of_ble_eq_true rfl, Nat.le_of_ble_eq_true rfl⟩) (rd_preV (q0 := 7) (P_left hP) hE rfl rfl) rfl rfl hl.1 rfl (lv_room (Nat.le_of_ble_eq_true rfl)) dT_stable_25 ⟨Nat.le_of_ble_eq_true rfl, Nat.le_of_ble_eq_true rfl⟩) ?_
      refine W.eq (g2 := F0 m 28 ls [.int (bI (setL x y (o)))]) rfl ?_
      refine r_eqB (tgt := 35) hx hb dT_stable_28 (by decide) (fun c_28 => ?_) (fun c_28 => ?_)
      · refine lv_iconst (v := bI (false)) hx hb dT_stable_35 (by decide) ?_
        exact kx _ _ _ _ _ (x, y) dT_stable_36 hS hP hD (by first | exact Or.inl ⟨Or.inl c_4, rfl, rfl⟩ | exact Or.inl ⟨Or.inr c_15, rfl, rfl⟩ | exact Or.inr ⟨rfl, o, ho_o, rfl, by rw [c_28], rfl⟩)
      · refine lv_iconst (v := bI (true)) hx hb dT_stable_31 (by decide) ?_
        refine lv_goto (tgt := 36) hx hb dT_stable_32 (by decide) ?_
        exact kx _ _ _ _ _ (x, y) dT_stable_36 hS hP hD (by first | exact Or.inl ⟨Or.inl c_4, rfl, rfl⟩ | exact Or.inl ⟨Or.inr c_15, rfl, rfl⟩ | exact Or.inr ⟨rfl, o, ho_o, rfl, by rw [c_28], rfl⟩)

def rmT_same : Room := { frames := 1, cells := 0, slots := 0, locals := 22 }
set_option maxHeartbeats 4000000 in
set_option maxRecDepth 100000 in
theorem kT_same {l : Launch} (D : va_G) (cc : Nat → ClassId) (a b d g : Nat → Nat) (rp : Nat → Nat) (x : LgS) (y y2 : RpS) (sz : Nat) (r : Nat) (hr : r < 3) (hrp : rp r = b 0) (t : Nat) (ht3 : t < 3) (hrp2 : rp t = d 0) (z1 z2 : Int32) (hz : isRep z1 = true → z1 = nI r) (hz2 : isRep z2 = true → z2 = nI t) (ok : okL x) (kr : okR y) (kr2 : okR y2) : Met l yT_same wsT_same rmT_same (va_Pc [.ref (g 0), .int (z1), .int (z2)] (WP D cc (wTT cc a b d g rp (x) (y) y2) sz)) (va_Qi (RC_same x y y2 r t z1 z2) (WQ D cc (va_A (wTT cc a b d g rp (x) (y) y2) sz) (fun u : LRp => wTT cc a b d g rp (u.1) (u.2) y2)) (va_A (wTT cc a b d g rp (x) (y) y2) sz)) 0 0 (va_A (wTT cc a b d g rp (x) (y) y2) sz) := by
  refine wr_meti RT [.ref (g 0), .int (z1), .int (z2)] D cc (wTT cc a b d g rp (x) (y) y2) sz (fun u : LRp => wTT cc a b d g rp (u.1) (u.2) y2) _ (by decide) rfl rfl (Nat.le_of_ble_eq_true rfl) (fun v u h => by rcases h with ⟨-, rfl, -⟩ | ⟨_, _, rfl, -⟩ <;> exact bI_z _) ?_
  intro p e s m args below meth c Q A S hP hE hD hA kx ls hl
  obtain ⟨hx, hb, hml, hown, hts⟩ := id S
  have hK := hE.1
  have hts := hE.ts args
  have S : CallFix p m c cT_same 3 s args wAll RT := ⟨hx, hb, hml, hown, hts⟩
  have hS : va_S A s.heap s.heap [] := va_S.rf
  have hn := ok.n
  have he := ok.e
  have hself := kr.self
  have htl := kr.tl
  have hl : lv_has ls 3 [(0, .ref (g 0)), (1, .int (z1)), (2, .int (z2))] := hl
  refine lv_iload_n hx hb dT_same_0 rfl (lv_at hl 1 rfl) ?_
  refine W.callR (W.runS (As := [.int (z1)]) (rest := []) S (kT_isReplica ((z1))) (va_cwS 1 hts (gd_S wm_77 wm_78 wm_1 wm_79) rfl rfl rfl (by decide +kernel) ⟨Nat.le_of_ble_eq_true rfl, Nat.le_of_ble_eq_true rfl⟩) preT rfl rfl hl.1 rfl (lv_room (Nat.le_of_ble_eq_true rfl)) dT_same_1 ⟨Nat.le_of_ble_eq_true rfl, Nat.le_of_ble_eq_true rfl⟩) ?_
  refine W.eq (g2 := F0 m 4 ls [.int (bI (isRep ((z1))))]) rfl ?_
  refine r_eqB (tgt := 36) hx hb dT_same_4 (by decide) (fun c_4 => ?_) (fun c_4 => ?_)
  · refine lv_iconst (v := bI (false)) hx hb dT_same_36 (by decide) ?_
    exact kx _ _ _ _ _ (x, y) dT_same_37 hS hP hD (by first | exact Or.inl ⟨Or.inl c_4, rfl, rfl⟩ | exact Or.inl ⟨Or.inr c_11, rfl, rfl⟩ | exact Or.inr ⟨rfl, rfl, by rw [c_29], rfl⟩)
  · obtain rfl := hz c_4
    refine lv_iload_n hx hb dT_same_7 rfl (lv_at hl 2 rfl) ?_
    refine W.callR (W.runS (As := [.int (z2)]) (rest := []) S (kT_isReplica ((z2))) (va_cwS 1 hts (gd_S wm_77 wm_78 wm_1 wm_79) rfl rfl rfl (by decide +kernel) ⟨Nat.le_of_ble_eq_true rfl, Nat.le_of_ble_eq_true rfl⟩) preT rfl rfl hl.1 rfl (lv_room (Nat.le_of_ble_eq_true rfl)) dT_same_8 ⟨Nat.le_of_ble_eq_true rfl, Nat.le_of_ble_eq_true rfl⟩) ?_
    refine W.eq (g2 := F0 m 11 ls [.int (bI (isRep ((z2))))]) rfl ?_
    refine r_eqB (tgt := 36) hx hb dT_same_11 (by decide) (fun c_11 => ?_) (fun c_11 => ?_)
    · refine lv_iconst (v := bI (false)) hx hb dT_same_36 (by decide) ?_
      exact kx _ _ _ _ _ (x, y) dT_same_37 hS hP hD (by first | exact Or.inl ⟨Or.inl c_4, rfl, rfl⟩ | exact Or.inl ⟨Or.inr c_11, rfl, rfl⟩ | exact Or.inr ⟨rfl, rfl, by rw [c_29], rfl⟩)
    · obtain rfl := hz2 c_11
      refine lv_aload_n hx hb dT_same_14 rfl (lv_at hl 0 rfl) ?_
      refine va_get (D := D) (ci := 2) (v := .ref (g 1)) (C := RT) (T := TT) (N := 2) hx hb hts in_T hown hK hP 27 rfl rfl 1 (by decide) (hts _ wm_70) (fun _ h9 => h9) rfl dT_same_15 ?_
      refine lv_iload_n hx hb dT_same_18 rfl (lv_at hl 1 rfl) ?_
      refine r_oald (q0 := 28) (t0 := 4) (f := rp) hx hb hK hP rfl rfl (by omega) (by decide) dT_same_19 ?_
      refine r_topr hrp ?_
      refine lv_aload_n hx hb dT_same_20 rfl (lv_at hl 0 rfl) ?_
      refine va_get (D := D) (ci := 2) (v := .ref (g 1)) (C := RT) (T := TT) (N := 2) hx hb hts in_T hown hK hP 27 rfl rfl 1 (by decide) (hts _ wm_70) (fun _ h9 => h9) rfl dT_same_21 ?_
      refine lv_iload_n hx hb dT_same_24 rfl (lv_at hl 2 rfl) ?_
      refine r_oald (q0 := 28) (t0 := 4) (f := rp) hx hb hK hP rfl rfl (by omega) (by decide) dT_same_25 ?_
      refine r_topr hrp2 ?_
      refine W.callR (W.runV (As := [.ref (d 0)]) (rest := []) S (kP_readsLike D cc a b d x y y2 ok kr kr2) (cwV 1 hts (gd_V wm_208 wm_209 wm_210 wm_3 wm_211) rfl rfl rfl (by decide +kernel) ⟨Nat.le_of_ble_eq_true rfl, Nat.le_of_ble_eq_true rfl⟩) (rd_preV (q0 := 7) (P_left hP) hE rfl rfl) rfl rfl hl.1 rfl (lv_room (Nat.le_of_ble_eq_true rfl)) dT_same_26 ⟨Nat.le_of_ble_eq_true rfl, Nat.le_of_ble_eq_true rfl⟩) ?_
      refine W.eq (g2 := F0 m 29 ls [.int (bI (rdlA x y y2))]) rfl ?_
      refine r_eqB (tgt := 36) hx hb dT_same_29 (by decide) (fun c_29 => ?_) (fun c_29 => ?_)
      · refine lv_iconst (v := bI (false)) hx hb dT_same_36 (by decide) ?_
        exact kx _ _ _ _ _ (x, y) dT_same_37 hS hP hD (by first | exact Or.inl ⟨Or.inl c_4, rfl, rfl⟩ | exact Or.inl ⟨Or.inr c_11, rfl, rfl⟩ | exact Or.inr ⟨rfl, rfl, by rw [c_29], rfl⟩)
      · refine lv_iconst (v := bI (true)) hx hb dT_same_32 (by decide) ?_
        refine lv_goto (tgt := 37) hx hb dT_same_33 (by decide) ?_
        exact kx _ _ _ _ _ (x, y) dT_same_37 hS hP hD (by first | exact Or.inl ⟨Or.inl c_4, rfl, rfl⟩ | exact Or.inl ⟨Or.inr c_11, rfl, rfl⟩ | exact Or.inr ⟨rfl, rfl, by rw [c_29], rfl⟩)

def rmT_sync : Room := { frames := 5, cells := 0, slots := 0, locals := 108 }
set_option maxHeartbeats 4000000 in
set_option maxRecDepth 100000 in
theorem kT_sync {l : Launch} (D : va_G) (cc : Nat → ClassId) (a b d g : Nat → Nat) (rp : Nat → Nat) (x : LgS) (y y2 : RpS) (sz : Nat) (r : Nat) (hr : r < 3) (hrp : rp r = b 0) (t : Nat) (ht3 : t < 3) (hrp2 : rp t = d 0) (z1 z2 : Int32) (hz : isRep z1 = true → z1 = nI r) (hz2 : isRep z2 = true → z2 = nI t) (ht : ∀ o, o < x.cnt → x.chr o = 0 → 0 < x.tgt o) (hp1 : ∀ o, o < x.cnt → 1 ≤ plc x o) (hkr : ∀ o, o ≤ x.cnt → okR (rcaF x y y2 o)) (hap : ∀ k, k ≤ x.cnt → apOK x (rcaF x y y2 x.cnt) k) (ok : okL x) (kr : okR y) (kr2 : okR y2) : Met l yT_sync wsT_sync rmT_sync (va_Pc [.ref (g 0), .int (z1), .int (z2)] (WP D cc (wTT cc a b d g rp (x) (y) y2) sz)) (va_Qi (RC_sync x y y2 r t z1 z2) (WQ D cc (va_A (wTT cc a b d g rp (x) (y) y2) sz) (fun u : LRp => wTT cc a b d g rp (u.1) (u.2) y2)) (va_A (wTT cc a b d g rp (x) (y) y2) sz)) 0 0 (va_A (wTT cc a b d g rp (x) (y) y2) sz) := by
  refine wr_meti RT [.ref (g 0), .int (z1), .int (z2)] D cc (wTT cc a b d g rp (x) (y) y2) sz (fun u : LRp => wTT cc a b d g rp (u.1) (u.2) y2) _ (by decide) rfl rfl (Nat.le_of_ble_eq_true rfl) (fun v _ _ => vp_nar_int v) ?_
  intro p e s m args below meth c Q A S hP hE hD hA kx ls hl
  obtain ⟨hx, hb, hml, hown, hts⟩ := id S
  have hK := hE.1
  have hts := hE.ts args
  have S : CallFix p m c cT_sync 3 s args wAll RT := ⟨hx, hb, hml, hown, hts⟩
  have hS : va_S A s.heap s.heap [] := va_S.rf
  have hn := ok.n
  have he := ok.e
  have hself := kr.self
  have htl := kr.tl
  have hl : lv_has ls 3 [(0, .ref (g 0)), (1, .int (z1)), (2, .int (z2))] := hl
  refine lv_iload_n hx hb dT_sync_0 rfl (lv_at hl 1 rfl) ?_
  refine W.callR (W.runS (As := [.int (z1)]) (rest := []) S (kT_isReplica ((z1))) (va_cwS 1 hts (gd_S wm_77 wm_78 wm_1 wm_79) rfl rfl rfl (by decide +kernel) ⟨Nat.le_of_ble_eq_true rfl, Nat.le_of_ble_eq_true rfl⟩) preT rfl rfl hl.1 rfl (lv_room (Nat.le_of_ble_eq_true rfl)) dT_sync_1 ⟨Nat.le_of_ble_eq_true rfl, Nat.le_of_ble_eq_true rfl⟩) ?_
  refine W.eq (g2 := F0 m 4 ls [.int (bI (isRep ((z1))))]) rfl ?_
  refine r_eqB (tgt := 14) hx hb dT_sync_4 (by decide) (fun c_4 => ?_) (fun c_4 => ?_)
  · refine lv_iconst (v := sI (0)) hx hb dT_sync_14 (by decide) ?_
    exact kx _ _ _ _ _ (x, y) dT_sync_15 hS hP hD (by first | exact Or.inl ⟨Or.inl c_4, sI_0, rfl⟩ | exact Or.inl ⟨Or.inr c_11, sI_0, rfl⟩)
  · obtain rfl := hz c_4
    refine lv_iload_n hx hb dT_sync_7 rfl (lv_at hl 2 rfl) ?_
    refine W.callR (W.runS (As := [.int (z2)]) (rest := []) S (kT_isReplica ((z2))) (va_cwS 1 hts (gd_S wm_77 wm_78 wm_1 wm_79) rfl rfl rfl (by decide +kernel) ⟨Nat.le_of_ble_eq_true rfl, Nat.le_of_ble_eq_true rfl⟩) preT rfl rfl hl.1 rfl (lv_room (Nat.le_of_ble_eq_true rfl)) dT_sync_8 ⟨Nat.le_of_ble_eq_true rfl, Nat.le_of_ble_eq_true rfl⟩) ?_
    refine W.eq (g2 := F0 m 11 ls [.int (bI (isRep ((z2))))]) rfl ?_
    refine r_neB (tgt := 16) hx hb dT_sync_11 (by decide) (fun c_11 => ?_) (fun c_11 => ?_)
    · obtain rfl := hz2 c_11
      refine lv_aload_n hx hb dT_sync_16 rfl (lv_at hl 0 rfl) ?_
      refine va_get (D := D) (ci := 2) (v := .ref (g 1)) (C := RT) (T := TT) (N := 2) hx hb hts in_T hown hK hP 27 rfl rfl 1 (by decide) (hts _ wm_70) (fun _ h9 => h9) rfl dT_sync_17 ?_
      refine lv_iload_n hx hb dT_sync_20 rfl (lv_at hl 1 rfl) ?_
      refine r_oald (q0 := 28) (t0 := 4) (f := rp) hx hb hK hP rfl rfl (by omega) (by decide) dT_sync_21 ?_
      refine r_topr hrp ?_
      refine lv_aload_n hx hb dT_sync_22 rfl (lv_at hl 0 rfl) ?_
      refine va_get (D := D) (ci := 2) (v := .ref (g 1)) (C := RT) (T := TT) (N := 2) hx hb hts in_T hown hK hP 27 rfl rfl 1 (by decide) (hts _ wm_70) (fun _ h9 => h9) rfl dT_sync_23 ?_
      refine lv_iload_n hx hb dT_sync_26 rfl (lv_at hl 2 rfl) ?_
      refine r_oald (q0 := 28) (t0 := 4) (f := rp) hx hb hK hP rfl rfl (by omega) (by decide) dT_sync_27 ?_
      refine r_topr hrp2 ?_
      refine wr_callv (w2 := wTo cc (a 0) g rp) (va_runV (As := [.ref (d 0)]) (rest := []) S (kP_receiveAllOf D cc a b d x y y2 (s.heap.size) hkr ok kr kr2) (cwV 1 hts (gd_V wm_165 wm_166 wm_167 wm_3 wm_168) rfl rfl rfl (by decide +kernel) ⟨Nat.le_of_ble_eq_true rfl, Nat.le_of_ble_eq_true rfl⟩) (wr_preV (q0 := 7) (P_left hP) hE (D_left hD) rfl rfl) rfl rfl hl.1 rfl (lv_room (Nat.le_of_ble_eq_true rfl)) dT_sync_28 ⟨Nat.le_of_ble_eq_true rfl, Nat.le_of_ble_eq_true rfl⟩) hP hD hS hA (fun u H locs hpo hP hD hS => ?_)
      have hP : va_P D vwCl (wTT cc a b d g rp (x) (rcaF x y y2 x.cnt) y2) H := hP
      have hD : va_D A (wTT cc a b d g rp (x) (rcaF x y y2 x.cnt) y2) := hD
      refine lv_aload_n hx hb dT_sync_31 rfl (lv_at hl 0 rfl) ?_
      refine va_get (D := D) (ci := 2) (v := .ref (g 1)) (C := RT) (T := TT) (N := 2) hx hb hts in_T hown hK hP 27 rfl rfl 1 (by decide) (hts _ wm_70) (fun _ h9 => h9) rfl dT_sync_32 ?_
      refine lv_iload_n hx hb dT_sync_35 rfl (lv_at hl 1 rfl) ?_
      refine r_oald (q0 := 28) (t0 := 4) (f := rp) hx hb hK hP rfl rfl (by omega) (by decide) dT_sync_36 ?_
      refine r_topr hrp ?_
      refine wr_calli (w2 := (wR cc (a 0) d y2 ++ wTo cc (a 0) g rp)) (va_runV (As := []) (rest := []) S (kP_applyReady D cc a b x (rcaF x y y2 x.cnt) (H.size) ht hp1 hap ok (hkr x.cnt (Nat.le_refl _))) (cwV 0 hts (gd_V wm_154 wm_155 wm_156 wm_3 wm_157) rfl rfl rfl (by decide +kernel) ⟨Nat.le_of_ble_eq_true rfl, Nat.le_of_ble_eq_true rfl⟩) (wr_preV (q0 := 7) (P_left hP) hE (D_left hD) rfl rfl) rfl rfl hl.1 rfl (lv_room (Nat.le_of_ble_eq_true rfl)) dT_sync_37 ⟨Nat.le_of_ble_eq_true rfl, Nat.le_of_ble_eq_true rfl⟩) hP hD hS hA (fun v_37 u H locs hpo hP hD hS => ?_)
      subst hpo
      have hP : va_P D vwCl (wTT cc a b d g rp (x) (aprR x (rcaF x y y2 x.cnt)) y2) H := hP
      have hD : va_D A (wTT cc a b d g rp (x) (aprR x (rcaF x y y2 x.cnt)) y2) := hD
      exact kx _ _ _ _ _ (x, aprR x (rcaF x y y2 x.cnt)) dT_sync_40 hS hP hD (Or.inr ⟨rfl, rfl, rfl, rfl⟩)
    · refine lv_iconst (v := sI (0)) hx hb dT_sync_14 (by decide) ?_
      exact kx _ _ _ _ _ (x, y) dT_sync_15 hS hP hD (by first | exact Or.inl ⟨Or.inl c_4, sI_0, rfl⟩ | exact Or.inl ⟨Or.inr c_11, sI_0, rfl⟩)

set_option maxHeartbeats 4000000 in
set_option maxRecDepth 100000 in
theorem kT_same_s {l : Launch} (D : va_G) (cc : Nat → ClassId) (a b g : Nat → Nat) (rp : Nat → Nat) (x : LgS) (y : RpS) (sz : Nat) (r : Nat) (hr : r < 3) (hrp : rp r = b 0) (z1 z2 : Int32) (hz : isRep z1 = true → z1 = nI r) (hz2 : isRep z2 = true → z2 = nI r) (ok : okL x) (kr : okR y) : Met l yT_same wsT_same rmT_same (va_Pc [.ref (g 0), .int (z1), .int (z2)] (WP D cc (wT cc a b g rp (x) (y)) sz)) (va_Qi (RC_same x y y r r z1 z2) (WQ D cc (va_A (wT cc a b g rp (x) (y)) sz) (fun u : LRp => wT cc a b g rp (u.1) (u.2))) (va_A (wT cc a b g rp (x) (y)) sz)) 0 0 (va_A (wT cc a b g rp (x) (y)) sz) := by
  refine wr_meti RT [.ref (g 0), .int (z1), .int (z2)] D cc (wT cc a b g rp (x) (y)) sz (fun u : LRp => wT cc a b g rp (u.1) (u.2)) _ (by decide) rfl rfl (Nat.le_of_ble_eq_true rfl) (fun v u h => by rcases h with ⟨-, rfl, -⟩ | ⟨_, _, rfl, -⟩ <;> exact bI_z _) ?_
  intro p e s m args below meth c Q A S hP hE hD hA kx ls hl
  obtain ⟨hx, hb, hml, hown, hts⟩ := id S
  have hK := hE.1
  have hts := hE.ts args
  have S : CallFix p m c cT_same 3 s args wAll RT := ⟨hx, hb, hml, hown, hts⟩
  have hS : va_S A s.heap s.heap [] := va_S.rf
  have hn := ok.n
  have he := ok.e
  have hself := kr.self
  have htl := kr.tl
  have hl : lv_has ls 3 [(0, .ref (g 0)), (1, .int (z1)), (2, .int (z2))] := hl
  refine lv_iload_n hx hb dT_same_0 rfl (lv_at hl 1 rfl) ?_
  refine W.callR (W.runS (As := [.int (z1)]) (rest := []) S (kT_isReplica ((z1))) (va_cwS 1 hts (gd_S wm_77 wm_78 wm_1 wm_79) rfl rfl rfl (by decide +kernel) ⟨Nat.le_of_ble_eq_true rfl, Nat.le_of_ble_eq_true rfl⟩) preT rfl rfl hl.1 rfl (lv_room (Nat.le_of_ble_eq_true rfl)) dT_same_1 ⟨Nat.le_of_ble_eq_true rfl, Nat.le_of_ble_eq_true rfl⟩) ?_
  refine W.eq (g2 := F0 m 4 ls [.int (bI (isRep ((z1))))]) rfl ?_
  refine r_eqB (tgt := 36) hx hb dT_same_4 (by decide) (fun c_4 => ?_) (fun c_4 => ?_)
  · refine lv_iconst (v := bI (false)) hx hb dT_same_36 (by decide) ?_
    exact kx _ _ _ _ _ (x, y) dT_same_37 hS hP hD (by first | exact Or.inl ⟨Or.inl c_4, rfl, rfl⟩ | exact Or.inl ⟨Or.inr c_11, rfl, rfl⟩ | exact Or.inr ⟨rfl, rfl, by rw [c_29], rfl⟩)
  · obtain rfl := hz c_4
    refine lv_iload_n hx hb dT_same_7 rfl (lv_at hl 2 rfl) ?_
    refine W.callR (W.runS (As := [.int (z2)]) (rest := []) S (kT_isReplica ((z2))) (va_cwS 1 hts (gd_S wm_77 wm_78 wm_1 wm_79) rfl rfl rfl (by decide +kernel) ⟨Nat.le_of_ble_eq_true rfl, Nat.le_of_ble_eq_true rfl⟩) preT rfl rfl hl.1 rfl (lv_room (Nat.le_of_ble_eq_true rfl)) dT_same_8 ⟨Nat.le_of_ble_eq_true rfl, Nat.le_of_ble_eq_true rfl⟩) ?_
    refine W.eq (g2 := F0 m 11 ls [.int (bI (isRep ((z2))))]) rfl ?_
    refine r_eqB (tgt := 36) hx hb dT_same_11 (by decide) (fun c_11 => ?_) (fun c_11 => ?_)
    · refine lv_iconst (v := bI (false)) hx hb dT_same_36 (by decide) ?_
      exact kx _ _ _ _ _ (x, y) dT_same_37 hS hP hD (by first | exact Or.inl ⟨Or.inl c_4, rfl, rfl⟩ | exact Or.inl ⟨Or.inr c_11, rfl, rfl⟩ | exact Or.inr ⟨rfl, rfl, by rw [c_29], rfl⟩)
    · obtain rfl := hz2 c_11
      refine lv_aload_n hx hb dT_same_14 rfl (lv_at hl 0 rfl) ?_
      refine va_get (D := D) (ci := 2) (v := .ref (g 1)) (C := RT) (T := TT) (N := 2) hx hb hts in_T hown hK hP 17 rfl rfl 1 (by decide) (hts _ wm_70) (fun _ h9 => h9) rfl dT_same_15 ?_
      refine lv_iload_n hx hb dT_same_18 rfl (lv_at hl 1 rfl) ?_
      refine r_oald (q0 := 18) (t0 := 4) (f := rp) hx hb hK hP rfl rfl (by omega) (by decide) dT_same_19 ?_
      refine r_topr hrp ?_
      refine lv_aload_n hx hb dT_same_20 rfl (lv_at hl 0 rfl) ?_
      refine va_get (D := D) (ci := 2) (v := .ref (g 1)) (C := RT) (T := TT) (N := 2) hx hb hts in_T hown hK hP 17 rfl rfl 1 (by decide) (hts _ wm_70) (fun _ h9 => h9) rfl dT_same_21 ?_
      refine lv_iload_n hx hb dT_same_24 rfl (lv_at hl 2 rfl) ?_
      refine r_oald (q0 := 18) (t0 := 4) (f := rp) hx hb hK hP rfl rfl (by omega) (by decide) dT_same_25 ?_
      refine r_topr hrp ?_
      refine W.callR (W.runV (As := [.ref (b 0)]) (rest := []) S (kP_readsLike_s D cc a b x y ok kr) (cwV 1 hts (gd_V wm_208 wm_209 wm_210 wm_3 wm_211) rfl rfl rfl (by decide +kernel) ⟨Nat.le_of_ble_eq_true rfl, Nat.le_of_ble_eq_true rfl⟩) (rd_preV (q0 := 7) (P_left hP) hE rfl rfl) rfl rfl hl.1 rfl (lv_room (Nat.le_of_ble_eq_true rfl)) dT_same_26 ⟨Nat.le_of_ble_eq_true rfl, Nat.le_of_ble_eq_true rfl⟩) ?_
      refine W.eq (g2 := F0 m 29 ls [.int (bI (rdlA x y y))]) rfl ?_
      refine r_eqB (tgt := 36) hx hb dT_same_29 (by decide) (fun c_29 => ?_) (fun c_29 => ?_)
      · refine lv_iconst (v := bI (false)) hx hb dT_same_36 (by decide) ?_
        exact kx _ _ _ _ _ (x, y) dT_same_37 hS hP hD (by first | exact Or.inl ⟨Or.inl c_4, rfl, rfl⟩ | exact Or.inl ⟨Or.inr c_11, rfl, rfl⟩ | exact Or.inr ⟨rfl, rfl, by rw [c_29], rfl⟩)
      · refine lv_iconst (v := bI (true)) hx hb dT_same_32 (by decide) ?_
        refine lv_goto (tgt := 37) hx hb dT_same_33 (by decide) ?_
        exact kx _ _ _ _ _ (x, y) dT_same_37 hS hP hD (by first | exact Or.inl ⟨Or.inl c_4, rfl, rfl⟩ | exact Or.inl ⟨Or.inr c_11, rfl, rfl⟩ | exact Or.inr ⟨rfl, rfl, by rw [c_29], rfl⟩)

set_option maxHeartbeats 4000000 in
set_option maxRecDepth 100000 in
theorem kT_sync_s {l : Launch} (D : va_G) (cc : Nat → ClassId) (a b g : Nat → Nat) (rp : Nat → Nat) (x : LgS) (y : RpS) (sz : Nat) (r : Nat) (hr : r < 3) (hrp : rp r = b 0) (z1 z2 : Int32) (hz : isRep z1 = true → z1 = nI r) (hz2 : isRep z2 = true → z2 = nI r) (ht : ∀ o, o < x.cnt → x.chr o = 0 → 0 < x.tgt o) (hp1 : ∀ o, o < x.cnt → 1 ≤ plc x o) (hkr : ∀ o, o ≤ x.cnt → okR (rcaF x y y o)) (hap : ∀ k, k ≤ x.cnt → apOK x (rcaF x y y x.cnt) k) (ok : okL x) (kr : okR y) : Met l yT_sync wsT_sync rmT_sync (va_Pc [.ref (g 0), .int (z1), .int (z2)] (WP D cc (wT cc a b g rp (x) (y)) sz)) (va_Qi (RC_sync x y y r r z1 z2) (WQ D cc (va_A (wT cc a b g rp (x) (y)) sz) (fun u : LRp => wT cc a b g rp (u.1) (u.2))) (va_A (wT cc a b g rp (x) (y)) sz)) 0 0 (va_A (wT cc a b g rp (x) (y)) sz) := by
  refine wr_meti RT [.ref (g 0), .int (z1), .int (z2)] D cc (wT cc a b g rp (x) (y)) sz (fun u : LRp => wT cc a b g rp (u.1) (u.2)) _ (by decide) rfl rfl (Nat.le_of_ble_eq_true rfl) (fun v _ _ => vp_nar_int v) ?_
  intro p e s m args below meth c Q A S hP hE hD hA kx ls hl
  obtain ⟨hx, hb, hml, hown, hts⟩ := id S
  have hK := hE.1
  have hts := hE.ts args
  have S : CallFix p m c cT_sync 3 s args wAll RT := ⟨hx, hb, hml, hown, hts⟩
  have hS : va_S A s.heap s.heap [] := va_S.rf
  have hn := ok.n
  have he := ok.e
  have hself := kr.self
  have htl := kr.tl
  have hl : lv_has ls 3 [(0, .ref (g 0)), (1, .int (z1)), (2, .int (z2))] := hl
  refine lv_iload_n hx hb dT_sync_0 rfl (lv_at hl 1 rfl) ?_
  refine W.callR (W.runS (As := [.int (z1)]) (rest := []) S (kT_isReplica ((z1))) (va_cwS 1 hts (gd_S wm_77 wm_78 wm_1 wm_79) rfl rfl rfl (by decide +kernel) ⟨Nat.le_of_ble_eq_true rfl, Nat.le_of_ble_eq_true rfl⟩) preT rfl rfl hl.1 rfl (lv_room (Nat.le_of_ble_eq_true rfl)) dT_sync_1 ⟨Nat.le_of_ble_eq_true rfl, Nat.le_of_ble_eq_true rfl⟩) ?_
  refine W.eq (g2 := F0 m 4 ls [.int (bI (isRep ((z1))))]) rfl ?_
  refine r_eqB (tgt := 14) hx hb dT_sync_4 (by decide) (fun c_4 => ?_) (fun c_4 => ?_)
  · refine lv_iconst (v := sI (0)) hx hb dT_sync_14 (by decide) ?_
    exact kx _ _ _ _ _ (x, y) dT_sync_15 hS hP hD (by first | exact Or.inl ⟨Or.inl c_4, sI_0, rfl⟩ | exact Or.inl ⟨Or.inr c_11, sI_0, rfl⟩)
  · obtain rfl := hz c_4
    refine lv_iload_n hx hb dT_sync_7 rfl (lv_at hl 2 rfl) ?_
    refine W.callR (W.runS (As := [.int (z2)]) (rest := []) S (kT_isReplica ((z2))) (va_cwS 1 hts (gd_S wm_77 wm_78 wm_1 wm_79) rfl rfl rfl (by decide +kernel) ⟨Nat.le_of_ble_eq_true rfl, Nat.le_of_ble_eq_true rfl⟩) preT rfl rfl hl.1 rfl (lv_room (Nat.le_of_ble_eq_true rfl)) dT_sync_8 ⟨Nat.le_of_ble_eq_true rfl, Nat.le_of_ble_eq_true rfl⟩) ?_
    refine W.eq (g2 := F0 m 11 ls [.int (bI (isRep ((z2))))]) rfl ?_
    refine r_neB (tgt := 16) hx hb dT_sync_11 (by decide) (fun c_11 => ?_) (fun c_11 => ?_)
    · obtain rfl := hz2 c_11
      refine lv_aload_n hx hb dT_sync_16 rfl (lv_at hl 0 rfl) ?_
      refine va_get (D := D) (ci := 2) (v := .ref (g 1)) (C := RT) (T := TT) (N := 2) hx hb hts in_T hown hK hP 17 rfl rfl 1 (by decide) (hts _ wm_70) (fun _ h9 => h9) rfl dT_sync_17 ?_
      refine lv_iload_n hx hb dT_sync_20 rfl (lv_at hl 1 rfl) ?_
      refine r_oald (q0 := 18) (t0 := 4) (f := rp) hx hb hK hP rfl rfl (by omega) (by decide) dT_sync_21 ?_
      refine r_topr hrp ?_
      refine lv_aload_n hx hb dT_sync_22 rfl (lv_at hl 0 rfl) ?_
      refine va_get (D := D) (ci := 2) (v := .ref (g 1)) (C := RT) (T := TT) (N := 2) hx hb hts in_T hown hK hP 17 rfl rfl 1 (by decide) (hts _ wm_70) (fun _ h9 => h9) rfl dT_sync_23 ?_
      refine lv_iload_n hx hb dT_sync_26 rfl (lv_at hl 2 rfl) ?_
      refine r_oald (q0 := 18) (t0 := 4) (f := rp) hx hb hK hP rfl rfl (by omega) (by decide) dT_sync_27 ?_
      refine r_topr hrp ?_
      refine wr_callv (w2 := wTo cc (a 0) g rp) (va_runV (As := [.ref (b 0)]) (rest := []) S (kP_receiveAllOf_s D cc a b x y (s.heap.size) hkr ok kr) (cwV 1 hts (gd_V wm_165 wm_166 wm_167 wm_3 wm_168) rfl rfl rfl (by decide +kernel) ⟨Nat.le_of_ble_eq_true rfl, Nat.le_of_ble_eq_true rfl⟩) (wr_preV (q0 := 7) (P_left hP) hE (D_left hD) rfl rfl) rfl rfl hl.1 rfl (lv_room (Nat.le_of_ble_eq_true rfl)) dT_sync_28 ⟨Nat.le_of_ble_eq_true rfl, Nat.le_of_ble_eq_true rfl⟩) hP hD hS hA (fun u H locs hpo hP hD hS => ?_)
      have hP : va_P D vwCl (wT cc a b g rp (x) (rcaF x y y x.cnt)) H := hP
      have hD : va_D A (wT cc a b g rp (x) (rcaF x y y x.cnt)) := hD
      refine lv_aload_n hx hb dT_sync_31 rfl (lv_at hl 0 rfl) ?_
      refine va_get (D := D) (ci := 2) (v := .ref (g 1)) (C := RT) (T := TT) (N := 2) hx hb hts in_T hown hK hP 17 rfl rfl 1 (by decide) (hts _ wm_70) (fun _ h9 => h9) rfl dT_sync_32 ?_
      refine lv_iload_n hx hb dT_sync_35 rfl (lv_at hl 1 rfl) ?_
      refine r_oald (q0 := 18) (t0 := 4) (f := rp) hx hb hK hP rfl rfl (by omega) (by decide) dT_sync_36 ?_
      refine r_topr hrp ?_
      refine wr_calli (w2 := wTo cc (a 0) g rp) (va_runV (As := []) (rest := []) S (kP_applyReady D cc a b x (rcaF x y y x.cnt) (H.size) ht hp1 hap ok (hkr x.cnt (Nat.le_refl _))) (cwV 0 hts (gd_V wm_154 wm_155 wm_156 wm_3 wm_157) rfl rfl rfl (by decide +kernel) ⟨Nat.le_of_ble_eq_true rfl, Nat.le_of_ble_eq_true rfl⟩) (wr_preV (q0 := 7) (P_left hP) hE (D_left hD) rfl rfl) rfl rfl hl.1 rfl (lv_room (Nat.le_of_ble_eq_true rfl)) dT_sync_37 ⟨Nat.le_of_ble_eq_true rfl, Nat.le_of_ble_eq_true rfl⟩) hP hD hS hA (fun v_37 u H locs hpo hP hD hS => ?_)
      subst hpo
      have hP : va_P D vwCl (wT cc a b g rp (x) (aprR x (rcaF x y y x.cnt))) H := hP
      have hD : va_D A (wT cc a b g rp (x) (aprR x (rcaF x y y x.cnt))) := hD
      exact kx _ _ _ _ _ (x, aprR x (rcaF x y y x.cnt)) dT_sync_40 hS hP hD (Or.inr ⟨rfl, rfl, rfl, rfl⟩)
    · refine lv_iconst (v := sI (0)) hx hb dT_sync_14 (by decide) ?_
      exact kx _ _ _ _ _ (x, y) dT_sync_15 hS hP hD (by first | exact Or.inl ⟨Or.inl c_4, sI_0, rfl⟩ | exact Or.inl ⟨Or.inr c_11, sI_0, rfl⟩)
