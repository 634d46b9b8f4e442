def rmP_positionOf : Room := { frames := 0, cells := 0, slots := 0, locals := 0 }
set_option maxHeartbeats 4000000 in
set_option maxRecDepth 100000 in
theorem kP_positionOf {l : Launch} (D : va_G) (cc : Nat → ClassId) (a b : Nat → Nat) (x : LgS) (y : RpS) (z : Int32) (v : Nat) (hv : ridP y z v) (kr : okR y) : Met l yP_positionOf wsP_positionOf rmP_positionOf (va_Pc [.ref (b 0), .int (z)] (fun U => va_P D vwCl (wLR cc a b (x) (y)) U.heap ∧ EN D cc U)) (QcRead (sI v)) 0 0 (fun _ => False) := by
  refine rd_met RP [.ref (b 0), .int (z)] _ _ (by decide) rfl rfl (Nat.le_of_ble_eq_true rfl) (vp_nar_int _) ?_
  intro p e s m args below meth c Q S hB kx ls hl
  obtain ⟨hx, hb, hml, hown, hts⟩ := id S
  obtain ⟨hP, hE⟩ := hB
  have hK := hE.1
  have hts := hE.ts args
  have S : CallFix p m c cP_positionOf 3 s args wAll RP := ⟨hx, hb, hml, hown, hts⟩
  have hself := kr.self
  have htl := kr.tl
  have hl : lv_has ls 3 [(0, .ref (b 0)), (1, .int (z))] := hl
  have L2 : ∀ (n : Nat) (k : Nat)  (ls : Array Slot) (h1 : ∀ j, j < k → ¬ nI (y.txt j) = z) (h2 : y.tl - k < n) (h4 : k ≤ y.tl), lv_has ls 3 [(0, .ref (b 0)), (1, .int (z)), (2, .int (nI (k)))] → W p l e rmP_positionOf s m args below meth c s.heap [] 0 0 Q (F0 m 2 ls []) := by
    intro n
    induction n with
    | zero => intro k ls h1 h2 h4 hl; exact absurd h2 (Nat.not_lt_zero _)
    | succ n ih =>
      intro k ls h1 h2 h4 hl
      refine lv_iload_n hx hb dP_positionOf_2 rfl (lv_at hl 2 rfl) ?_
      refine lv_aload_n hx hb dP_positionOf_3 rfl (lv_at hl 0 rfl) ?_
      refine va_get (D := D) (ci := 1) (v := .int (nI (y.tl))) (C := RP) (T := TP) (N := 12) hx hb hts in_P hown hK hP 7 rfl rfl 8 (by decide) (hts _ wm_52) (fun _ h9 => h9) rfl dP_positionOf_4 ?_
      refine r_ge (by omega) (Nat.lt_of_le_of_lt kr.tl (by decide)) (tgt := 28) hx hb dP_positionOf_7 (by decide) (fun c_7 => ?_) (fun c_7 => ?_)
      · refine lv_iconst (v := sI (0)) hx hb dP_positionOf_28 (by decide) ?_
        exact kx _ _ _ dP_positionOf_29 (by rcases hv with ⟨q, -⟩ | ⟨i, q1, q2, q3, q4⟩ <;> first | rw [q] | exact absurd q3 (h1 i (by omega)))
      · refine lv_aload_n hx hb dP_positionOf_10 rfl (lv_at hl 0 rfl) ?_
        refine va_get (D := D) (ci := 1) (v := .ref (b 9)) (C := RP) (T := TP) (N := 12) hx hb hts in_P hown hK hP 7 rfl rfl 7 (by decide) (hts _ wm_51) (fun _ h9 => h9) rfl dP_positionOf_11 ?_
        refine lv_iload_n hx hb dP_positionOf_14 rfl (lv_at hl 2 rfl) ?_
        refine r_iald (q0 := 16) (t0 := 0) hx hb hK hP rfl rfl (by omega) (by decide) dP_positionOf_15 ?_
        refine lv_iload_n hx hb dP_positionOf_16 rfl (lv_at hl 1 rfl) ?_
        refine lv_icmp_ne (tgt := 22) hx hb dP_positionOf_17 (by decide) (fun c_17 => ?_) (fun c_17 => ?_)
        · refine lv_iinc (v := nI (k + 1)) (lv' := [(2, .int (nI (k + 1))), (0, .ref (b 0)), (1, .int (z))]) hx hb dP_positionOf_22 hl (k := 2) rfl (nI_1 _) (by decide) rfl (fun ls hl => ?_)
          refine lv_goto (tgt := 2) hx hb dP_positionOf_25 (by decide) ?_
          exact ih  (k + 1)  ls (by first | exact (fun j hj => absurd hj (Nat.not_lt_zero j)) | exact lt_s h1 c_17) (by omega) (by omega) (lv_sub hl [1, 2, 0] rfl)
        · refine lv_iload_n hx hb dP_positionOf_20 rfl (lv_at hl 2 rfl) ?_
          exact kx _ _ _ dP_positionOf_21 (by rcases hv with ⟨-, q⟩ | ⟨i, q1, q2, q3, q4⟩ <;> first | exact absurd c_17 (q k (by omega)) | (rw [q2, sI_s]; exact congrArg nI (Nat.le_antisymm (Nat.le_of_not_lt fun w => h1 i w q3) (Nat.le_of_not_lt fun w => q4 k w c_17))))
  refine lv_iconst (v := nI (0)) hx hb dP_positionOf_0 (by decide) ?_
  refine lv_istore_n (lv' := [(2, .int (nI (0))), (0, .ref (b 0)), (1, .int (z))]) hx hb dP_positionOf_1 rfl hl (by decide) rfl (fun ls hl => ?_)
  exact L2 (y.tl + 1) (0)  ls (by first | exact (fun j hj => absurd hj (Nat.not_lt_zero j)) | exact lt_s h1 c_17) (by omega) (by omega) (lv_sub hl [1, 2, 0] rfl)

set_option maxHeartbeats 4000000 in
set_option maxRecDepth 100000 in
theorem kP_elementAt_z {l : Launch} (D : va_G) (cc : Nat → ClassId) (a b : Nat → Nat) (x : LgS) (y : RpS) (z : Int32) (v : Nat) (hv : eatP y z v) (kr : okR y) : Met l yP_elementAt wsP_elementAt rmP_elementAt (va_Pc [.ref (b 0), .int (z)] (fun U => va_P D vwCl (wLR cc a b (x) (y)) U.heap ∧ EN D cc U)) (QcRead (sI v)) 0 0 (fun _ => False) := by
  refine rd_met RP [.ref (b 0), .int (z)] _ _ (by decide) rfl rfl (Nat.le_of_ble_eq_true rfl) (vp_nar_int _) ?_
  intro p e s m args below meth c Q S hB kx ls hl
  obtain ⟨hx, hb, hml, hown, hts⟩ := id S
  obtain ⟨hP, hE⟩ := hB
  have hK := hE.1
  have hts := hE.ts args
  have S : CallFix p m c cP_elementAt 2 s args wAll RP := ⟨hx, hb, hml, hown, hts⟩
  have hself := kr.self
  have htl := kr.tl
  have hl : lv_has ls 2 [(0, .ref (b 0)), (1, .int (z))] := hl
  refine lv_iload_n hx hb dP_elementAt_0 rfl (lv_at hl 1 rfl) ?_
  refine lv_if_lt (tgt := 21) hx hb dP_elementAt_1 (by decide) (fun c_1 => ?_) (fun c_1 => ?_)
  · refine lv_iconst (v := sI (0)) hx hb dP_elementAt_21 (by decide) ?_
    exact kx _ _ _ dP_elementAt_22 (by rcases hv with ⟨q, q1 | q1⟩ | ⟨i, q1, q2, q3⟩ <;> first | (rw [q]; done) | exact absurd q1 c_1 | exact absurd q1 c_9 | (rw [q3, sI_s, (nI_eq (by omega) (by omega)).mp q2]; done) | exact absurd (by rw [q2]; exact nI_pos (by omega)) (not_not_intro c_1) | exact absurd (by rw [q2]; exact nI_ge q1 (by omega)) (not_not_intro c_9))
  · refine lv_iload_n hx hb dP_elementAt_4 rfl (lv_at hl 1 rfl) ?_
    refine lv_aload_n hx hb dP_elementAt_5 rfl (lv_at hl 0 rfl) ?_
    refine va_get (D := D) (ci := 1) (v := .int (nI (y.tl))) (C := RP) (T := TP) (N := 12) hx hb hts in_P hown hK hP 7 rfl rfl 8 (by decide) (hts _ wm_52) (fun _ h9 => h9) rfl dP_elementAt_6 ?_
    refine lv_icmp_ge (tgt := 21) hx hb dP_elementAt_9 (by decide) (fun c_9 => ?_) (fun c_9 => ?_)
    · refine lv_iconst (v := sI (0)) hx hb dP_elementAt_21 (by decide) ?_
      exact kx _ _ _ dP_elementAt_22 (by rcases hv with ⟨q, q1 | q1⟩ | ⟨i, q1, q2, q3⟩ <;> first | (rw [q]; done) | exact absurd q1 c_1 | exact absurd q1 c_9 | (rw [q3, sI_s, (nI_eq (by omega) (by omega)).mp q2]; done) | exact absurd (by rw [q2]; exact nI_pos (by omega)) (not_not_intro c_1) | exact absurd (by rw [q2]; exact nI_ge q1 (by omega)) (not_not_intro c_9))
    · obtain ⟨k, hk, rfl⟩ := z_lt c_1 c_9 kr.tl
      refine lv_aload_n hx hb dP_elementAt_12 rfl (lv_at hl 0 rfl) ?_
      refine va_get (D := D) (ci := 1) (v := .ref (b 9)) (C := RP) (T := TP) (N := 12) hx hb hts in_P hown hK hP 7 rfl rfl 7 (by decide) (hts _ wm_51) (fun _ h9 => h9) rfl dP_elementAt_13 ?_
      refine lv_iload_n hx hb dP_elementAt_16 rfl (lv_at hl 1 rfl) ?_
      refine r_iald (q0 := 16) (t0 := 0) hx hb hK hP rfl rfl (by omega) (by decide) dP_elementAt_17 ?_
      refine lv_goto (tgt := 22) hx hb dP_elementAt_18 (by decide) ?_
      exact kx _ _ _ dP_elementAt_22 (by rcases hv with ⟨q, q1 | q1⟩ | ⟨i, q1, q2, q3⟩ <;> first | (rw [q]; done) | exact absurd q1 c_1 | exact absurd q1 c_9 | (rw [q3, sI_s, (nI_eq (by omega) (by omega)).mp q2]; done) | exact absurd (by rw [q2]; exact nI_pos (by omega)) (not_not_intro c_1) | exact absurd (by rw [q2]; exact nI_ge q1 (by omega)) (not_not_intro c_9))

def rmP_readsLike : Room := { frames := 0, cells := 0, slots := 0, locals := 0 }
set_option maxHeartbeats 4000000 in
set_option maxRecDepth 100000 in
theorem kP_readsLike {l : Launch} (D : va_G) (cc : Nat → ClassId) (a b d : Nat → Nat) (x : LgS) (y y2 : RpS) (ok : okL x) (kr : okR y) (kr2 : okR y2) : Met l yP_readsLike wsP_readsLike rmP_readsLike (va_Pc [.ref (b 0), .ref (d 0)] (fun U => va_P D vwCl (wLRR cc a b d (x) (y) y2) U.heap ∧ EN D cc U)) (QcRead (bI (rdlA x y y2))) 0 0 (fun _ => False) := by
  refine rd_met RP [.ref (b 0), .ref (d 0)] _ _ (by decide) rfl rfl (Nat.le_of_ble_eq_true rfl) (bI_z _) ?_
  intro p e s m args below meth c Q S hB kx ls hl
  obtain ⟨hx, hb, hml, hown, hts⟩ := id S
  obtain ⟨hP, hE⟩ := hB
  have hK := hE.1
  have hts := hE.ts args
  have S : CallFix p m c cP_readsLike 3 s args wAll RP := ⟨hx, hb, hml, hown, hts⟩
  have hn := ok.n
  have he := ok.e
  have hself := kr.self
  have htl := kr.tl
  have hl : lv_has ls 3 [(0, .ref (b 0)), (1, .ref (d 0))] := hl
  have L15 : ∀ (n : Nat) (i : Nat)  (ls : Array Slot) (h0 : y.tl = y2.tl) (h1 : i ≤ y.tl) (h2 : y.tl - i < n) (h3 : ∀ k, k < i → x.chr (y.txt k) = x.chr (y2.txt k)), lv_has ls 3 [(0, .ref (b 0)), (1, .ref (d 0)), (2, .int (nI (i)))] → W p l e rmP_readsLike s m args below meth c s.heap [] 0 0 Q (F0 m 15 ls []) := by
    intro n
    induction n with
    | zero => intro i ls h0 h1 h2 h3 hl; exact absurd h2 (Nat.not_lt_zero _)
    | succ n ih =>
      intro i ls h0 h1 h2 h3 hl
      refine lv_iload_n hx hb dP_readsLike_15 rfl (lv_at hl 2 rfl) ?_
      refine lv_aload_n hx hb dP_readsLike_16 rfl (lv_at hl 0 rfl) ?_
      refine va_get (D := D) (ci := 1) (v := .int (nI (y.tl))) (C := RP) (T := TP) (N := 12) hx hb hts in_P hown hK hP 7 rfl rfl 8 (by decide) (hts _ wm_52) (fun _ h9 => h9) rfl dP_readsLike_17 ?_
      refine r_ge (by omega) (Nat.lt_of_le_of_lt kr.tl (by decide)) (tgt := 62) hx hb dP_readsLike_20 (by decide) (fun c_20 => ?_) (fun c_20 => ?_)
      · refine lv_iconst (v := bI (true)) hx hb dP_readsLike_62 (by decide) ?_
        exact kx _ _ _ dP_readsLike_63 (by unfold rdlA; rw [andF_t (decide_eq_true h0) (fun k hk => decide_eq_true (h3 k (by omega)))])
      · refine lv_aload_n hx hb dP_readsLike_23 rfl (lv_at hl 0 rfl) ?_
        refine va_get (D := D) (ci := 1) (v := .ref (a 0)) (C := RP) (T := TP) (N := 12) hx hb hts in_P hown hK hP 7 rfl rfl 1 (by decide) (hts _ wm_45) (fun _ h9 => h9) rfl dP_readsLike_24 ?_
        refine va_getN (D := D) (ci := 0) (v := .ref (a 4)) (C := RL) (T := TL) (N := 8) hx hb hts in_L hown hK hP 0 rfl rfl 3 (by decide) (hE.f nf_5) (fun _ h9 => h9) rfl dP_readsLike_27 ?_
        refine lv_aload_n hx hb dP_readsLike_30 rfl (lv_at hl 0 rfl) ?_
        refine va_get (D := D) (ci := 1) (v := .ref (b 9)) (C := RP) (T := TP) (N := 12) hx hb hts in_P hown hK hP 7 rfl rfl 7 (by decide) (hts _ wm_51) (fun _ h9 => h9) rfl dP_readsLike_31 ?_
        refine lv_iload_n hx hb dP_readsLike_34 rfl (lv_at hl 2 rfl) ?_
        refine r_iald (q0 := 16) (t0 := 0) hx hb hK hP rfl rfl (by omega) (by decide) dP_readsLike_35 ?_
        refine r_cald (q0 := 4) (t0 := 2) hx hb hK hP rfl rfl (kr.txt100 _) (by decide) dP_readsLike_36 ?_
        refine lv_aload_n hx hb dP_readsLike_37 rfl (lv_at hl 0 rfl) ?_
        refine va_get (D := D) (ci := 1) (v := .ref (a 0)) (C := RP) (T := TP) (N := 12) hx hb hts in_P hown hK hP 7 rfl rfl 1 (by decide) (hts _ wm_45) (fun _ h9 => h9) rfl dP_readsLike_38 ?_
        refine va_getN (D := D) (ci := 0) (v := .ref (a 4)) (C := RL) (T := TL) (N := 8) hx hb hts in_L hown hK hP 0 rfl rfl 3 (by decide) (hE.f nf_5) (fun _ h9 => h9) rfl dP_readsLike_41 ?_
        refine lv_aload_n hx hb dP_readsLike_44 rfl (lv_at hl 1 rfl) ?_
        refine va_get (D := D) (ci := 1) (v := .ref (d 9)) (C := RP) (T := TP) (N := 12) hx hb hts in_P hown hK hP 17 rfl rfl 7 (by decide) (hts _ wm_51) (fun _ h9 => h9) rfl dP_readsLike_45 ?_
        refine lv_iload_n hx hb dP_readsLike_48 rfl (lv_at hl 2 rfl) ?_
        refine r_iald (q0 := 26) (t0 := 0) hx hb hK hP rfl rfl (by omega) (by decide) dP_readsLike_49 ?_
        refine r_cald (q0 := 4) (t0 := 2) hx hb hK hP rfl rfl (kr2.txt100 _) (by decide) dP_readsLike_50 ?_
        refine r_eq (ok.chr (y.txt i)) (ok.chr (y2.txt i)) (tgt := 56) hx hb dP_readsLike_51 (by decide) (fun c_51 => ?_) (fun c_51 => ?_)
        · refine lv_iinc (v := nI (i + 1)) (lv' := [(2, .int (nI (i + 1))), (0, .ref (b 0)), (1, .ref (d 0))]) hx hb dP_readsLike_56 hl (k := 2) rfl (nI_1 _) (by decide) rfl (fun ls hl => ?_)
          refine lv_goto (tgt := 15) hx hb dP_readsLike_59 (by decide) ?_
          exact ih  (i + 1)  ls (by first | exact h0 | exact c_8 | rfl) (by omega) (by omega) (by first | exact (fun j hj => absurd hj (Nat.not_lt_zero j)) | exact lt_s h3 c_51) (lv_sub hl [1, 2, 0] rfl)
        · refine lv_iconst (v := bI (false)) hx hb dP_readsLike_54 (by decide) ?_
          exact kx _ _ _ dP_readsLike_55 (by unfold rdlA; rw [andF_f (i := i) (by omega) (decide_eq_false c_51)])
  refine lv_aload_n hx hb dP_readsLike_0 rfl (lv_at hl 0 rfl) ?_
  refine va_get (D := D) (ci := 1) (v := .int (nI (y.tl))) (C := RP) (T := TP) (N := 12) hx hb hts in_P hown hK hP 7 rfl rfl 8 (by decide) (hts _ wm_52) (fun _ h9 => h9) rfl dP_readsLike_1 ?_
  refine lv_aload_n hx hb dP_readsLike_4 rfl (lv_at hl 1 rfl) ?_
  refine va_get (D := D) (ci := 1) (v := .int (nI (y2.tl))) (C := RP) (T := TP) (N := 12) hx hb hts in_P hown hK hP 17 rfl rfl 8 (by decide) (hts _ wm_52) (fun _ h9 => h9) rfl dP_readsLike_5 ?_
  refine r_eq (Nat.lt_of_le_of_lt kr.tl (by decide)) (Nat.lt_of_le_of_lt kr2.tl (by decide)) (tgt := 13) hx hb dP_readsLike_8 (by decide) (fun c_8 => ?_) (fun c_8 => ?_)
  · refine lv_iconst (v := nI (0)) hx hb dP_readsLike_13 (by decide) ?_
    refine lv_istore_n (lv' := [(2, .int (nI (0))), (0, .ref (b 0)), (1, .ref (d 0))]) hx hb dP_readsLike_14 rfl hl (by decide) rfl (fun ls hl => ?_)
    exact L15 (y.tl + 1) (0)  ls (by first | exact h0 | exact c_8 | rfl) (by omega) (by omega) (by first | exact (fun j hj => absurd hj (Nat.not_lt_zero j)) | exact lt_s h3 c_51) (lv_sub hl [1, 2, 0] rfl)
  · refine lv_iconst (v := bI (false)) hx hb dP_readsLike_11 (by decide) ?_
    exact kx _ _ _ dP_readsLike_12 (by unfold rdlA; rw [decide_eq_false c_8, andF_fb])

set_option maxHeartbeats 4000000 in
set_option maxRecDepth 100000 in
theorem kP_readsLike_s {l : Launch} (D : va_G) (cc : Nat → ClassId) (a b : Nat → Nat) (x : LgS) (y : RpS) (ok : okL x) (kr : okR y) : Met l yP_readsLike wsP_readsLike rmP_readsLike (va_Pc [.ref (b 0), .ref (b 0)] (fun U => va_P D vwCl (wLR cc a b (x) (y)) U.heap ∧ EN D cc U)) (QcRead (bI (rdlA x y y))) 0 0 (fun _ => False) := by
  refine rd_met RP [.ref (b 0), .ref (b 0)] _ _ (by decide) rfl rfl (Nat.le_of_ble_eq_true rfl) (bI_z _) ?_
  intro p e s m args below meth c Q S hB kx ls hl
  obtain ⟨hx, hb, hml, hown, hts⟩ := id S
  obtain ⟨hP, hE⟩ := hB
  have hK := hE.1
  have hts := hE.ts args
  have S : CallFix p m c cP_readsLike 3 s args wAll RP := ⟨hx, hb, hml, hown, hts⟩
  have hn := ok.n
  have he := ok.e
  have hself := kr.self
  have htl := kr.tl
  have hl : lv_has ls 3 [(0, .ref (b 0)), (1, .ref (b 0))] := hl
  have L15 : ∀ (n : Nat) (i : Nat)  (ls : Array Slot) (h0 : y.tl = y.tl) (h1 : i ≤ y.tl) (h2 : y.tl - i < n) (h3 : ∀ k, k < i → x.chr (y.txt k) = x.chr (y.txt k)), lv_has ls 3 [(0, .ref (b 0)), (1, .ref (b 0)), (2, .int (nI (i)))] → W p l e rmP_readsLike s m args below meth c s.heap [] 0 0 Q (F0 m 15 ls []) := by
    intro n
    induction n with
    | zero => intro i ls h0 h1 h2 h3 hl; exact absurd h2 (Nat.not_lt_zero _)
    | succ n ih =>
      intro i ls h0 h1 h2 h3 hl
      refine lv_iload_n hx hb dP_readsLike_15 rfl (lv_at hl 2 rfl) ?_
      refine lv_aload_n hx hb dP_readsLike_16 rfl (lv_at hl 0 rfl) ?_
      refine va_get (D := D) (ci := 1) (v := .int (nI (y.tl))) (C := RP) (T := TP) (N := 12) hx hb hts in_P hown hK hP 7 rfl rfl 8 (by decide) (hts _ wm_52) (fun _ h9 => h9) rfl dP_readsLike_17 ?_
      refine r_ge (by omega) (Nat.lt_of_le_of_lt kr.tl (by decide)) (tgt := 62) hx hb dP_readsLike_20 (by decide) (fun c_20 => ?_) (fun c_20 => ?_)
      · refine lv_iconst (v := bI (true)) hx hb dP_readsLike_62 (by decide) ?_
        exact kx _ _ _ dP_readsLike_63 (by unfold rdlA; rw [andF_t (decide_eq_true h0) (fun k hk => decide_eq_true (h3 k (by omega)))])
      · refine lv_aload_n hx hb dP_readsLike_23 rfl (lv_at hl 0 rfl) ?_
        refine va_get (D := D) (ci := 1) (v := .ref (a 0)) (C := RP) (T := TP) (N := 12) hx hb hts in_P hown hK hP 7 rfl rfl 1 (by decide) (hts _ wm_45) (fun _ h9 => h9) rfl dP_readsLike_24 ?_
        refine va_getN (D := D) (ci := 0) (v := .ref (a 4)) (C := RL) (T := TL) (N := 8) hx hb hts in_L hown hK hP 0 rfl rfl 3 (by decide) (hE.f nf_5) (fun _ h9 => h9) rfl dP_readsLike_27 ?_
        refine lv_aload_n hx hb dP_readsLike_30 rfl (lv_at hl 0 rfl) ?_
        refine va_get (D := D) (ci := 1) (v := .ref (b 9)) (C := RP) (T := TP) (N := 12) hx hb hts in_P hown hK hP 7 rfl rfl 7 (by decide) (hts _ wm_51) (fun _ h9 => h9) rfl dP_readsLike_31 ?_
        refine lv_iload_n hx hb dP_readsLike_34 rfl (lv_at hl 2 rfl) ?_
        refine r_iald (q0 := 16) (t0 := 0) hx hb hK hP rfl rfl (by omega) (by decide) dP_readsLike_35 ?_
        refine r_cald (q0 := 4) (t0 := 2) hx hb hK hP rfl rfl (kr.txt100 _) (by decide) dP_readsLike_36 ?_
        refine lv_aload_n hx hb dP_readsLike_37 rfl (lv_at hl 0 rfl) ?_
        refine va_get (D := D) (ci := 1) (v := .ref (a 0)) (C := RP) (T := TP) (N := 12) hx hb hts in_P hown hK hP 7 rfl rfl 1 (by decide) (hts _ wm_45) (fun _ h9 => h9) rfl dP_readsLike_38 ?_
        refine va_getN (D := D) (ci := 0) (v := .ref (a 4)) (C := RL) (T := TL) (N := 8) hx hb hts in_L hown hK hP 0 rfl rfl 3 (by decide) (hE.f nf_5) (fun _ h9 => h9) rfl dP_readsLike_41 ?_
        refine lv_aload_n hx hb dP_readsLike_44 rfl (lv_at hl 1 rfl) ?_
        refine va_get (D := D) (ci := 1) (v := .ref (b 9)) (C := RP) (T := TP) (N := 12) hx hb hts in_P hown hK hP 7 rfl rfl 7 (by decide) (hts _ wm_51) (fun _ h9 => h9) rfl dP_readsLike_45 ?_
        refine lv_iload_n hx hb dP_readsLike_48 rfl (lv_at hl 2 rfl) ?_
        refine r_iald (q0 := 16) (t0 := 0) hx hb hK hP rfl rfl (by omega) (by decide) dP_readsLike_49 ?_
        refine r_cald (q0 := 4) (t0 := 2) hx hb hK hP rfl rfl (kr.txt100 _) (by decide) dP_readsLike_50 ?_
        refine r_eq (ok.chr (y.txt i)) (ok.chr (y.txt i)) (tgt := 56) hx hb dP_readsLike_51 (by decide) (fun c_51 => ?_) (fun c_51 => ?_)
        · refine lv_iinc (v := nI (i + 1)) (lv' := [(2, .int (nI (i + 1))), (0, .ref (b 0)), (1, .ref (b 0))]) hx hb dP_readsLike_56 hl (k := 2) rfl (nI_1 _) (by decide) rfl (fun ls hl => ?_)
          refine lv_goto (tgt := 15) hx hb dP_readsLike_59 (by decide) ?_
          exact ih  (i + 1)  ls (by first | exact h0 | exact c_8 | rfl) (by omega) (by omega) (by first | exact (fun j hj => absurd hj (Nat.not_lt_zero j)) | exact lt_s h3 c_51) (lv_sub hl [1, 2, 0] rfl)
        · refine lv_iconst (v := bI (false)) hx hb dP_readsLike_54 (by decide) ?_
          exact kx _ _ _ dP_readsLike_55 (by unfold rdlA; rw [andF_f (i := i) (by omega) (decide_eq_false c_51)])
  refine lv_aload_n hx hb dP_readsLike_0 rfl (lv_at hl 0 rfl) ?_
  refine va_get (D := D) (ci := 1) (v := .int (nI (y.tl))) (C := RP) (T := TP) (N := 12) hx hb hts in_P hown hK hP 7 rfl rfl 8 (by decide) (hts _ wm_52) (fun _ h9 => h9) rfl dP_readsLike_1 ?_
  refine lv_aload_n hx hb dP_readsLike_4 rfl (lv_at hl 1 rfl) ?_
  refine va_get (D := D) (ci := 1) (v := .int (nI (y.tl))) (C := RP) (T := TP) (N := 12) hx hb hts in_P hown hK hP 7 rfl rfl 8 (by decide) (hts _ wm_52) (fun _ h9 => h9) rfl dP_readsLike_5 ?_
  refine r_eq (Nat.lt_of_le_of_lt kr.tl (by decide)) (Nat.lt_of_le_of_lt kr.tl (by decide)) (tgt := 13) hx hb dP_readsLike_8 (by decide) (fun c_8 => ?_) (fun c_8 => absurd rfl c_8)
  refine lv_iconst (v := nI (0)) hx hb dP_readsLike_13 (by decide) ?_
  refine lv_istore_n (lv' := [(2, .int (nI (0))), (0, .ref (b 0)), (1, .ref (b 0))]) hx hb dP_readsLike_14 rfl hl (by decide) rfl (fun ls hl => ?_)
  exact L15 (y.tl + 1) (0)  ls (by first | exact h0 | exact c_8 | rfl) (by omega) (by omega) (by first | exact (fun j hj => absurd hj (Nat.not_lt_zero j)) | exact lt_s h3 c_51) (lv_sub hl [1, 2, 0] rfl)

def rmP_receiveAllOf : Room := { frames := 4, cells := 0, slots := 0, locals := 85 }
set_option maxHeartbeats 4000000 in
set_option maxRecDepth 100000 in
theorem kP_receiveAllOf {l : Launch} (D : va_G) (cc : Nat → ClassId) (a b d : Nat → Nat) (x : LgS) (y y2 : RpS) (sz : Nat) (hkr : ∀ o, o ≤ x.cnt → okR (rcaF x y y2 o)) (ok : okL x) (kr : okR y) (kr2 : okR y2) : Met l yP_receiveAllOf wsP_receiveAllOf rmP_receiveAllOf (va_Pc [.ref (b 0), .ref (d 0)] (WP D cc (wLRR cc a b d (x) (y) y2) sz)) (va_Qv (fun _ : Unit => True) (WQ D cc (va_A (wLRR cc a b d (x) (y) y2) sz) (fun _ : Unit => wLRR cc a b d (x) (rcaF x y y2 x.cnt) y2)) (va_A (wLRR cc a b d (x) (y) y2) sz)) 0 0 (va_A (wLRR cc a b d (x) (y) y2) sz) := by
  refine wr_metv RP [.ref (b 0), .ref (d 0)] D cc (wLRR cc a b d (x) (y) y2) sz (fun _ : Unit => wLRR cc a b d (x) (rcaF x y y2 x.cnt) y2) _ (by decide) rfl rfl (Nat.le_of_ble_eq_true rfl) ?_
  intro p e s m args below meth c Q A S hP hE hD hA kx ls hl
  obtain ⟨hx, hb, hml, hown, hts⟩ := id S
  have hK := hE.1
  have hts := hE.ts args
  have S : CallFix p m c cP_receiveAllOf 3 s args wAll RP := ⟨hx, hb, hml, hown, hts⟩
  have hS : va_S A s.heap s.heap [] := va_S.rf
  have hn := ok.n
  have he := ok.e
  have hself := kr.self
  have htl := kr.tl
  have hl : lv_has ls 3 [(0, .ref (b 0)), (1, .ref (d 0))] := hl
  have L2 : ∀ (n : Nat) (o : Nat) (H : Heap) (locs : List Loc) (hP : va_P D vwCl (wLRR cc a b d (x) (rcaF x y y2 o) y2) H) (hD : va_D A (wLRR cc a b d (x) (rcaF x y y2 o) y2)) (hS : va_S A s.heap H locs) (ls : Array Slot) (h1 : o ≤ x.cnt) (h2 : x.cnt - o < n), lv_has ls 3 [(0, .ref (b 0)), (1, .ref (d 0)), (2, .int (nI (o)))] → W p l e rmP_receiveAllOf s m args below meth c H locs 0 0 Q (F0 m 2 ls []) := by
    intro n
    induction n with
    | zero => intro o H locs hP hD hS ls h1 h2 hl; exact absurd h2 (Nat.not_lt_zero _)
    | succ n ih =>
      intro o H locs hP hD hS ls h1 h2 hl
      have kr3 := hkr o h1
      refine lv_iload_n hx hb dP_receiveAllOf_2 rfl (lv_at hl 2 rfl) ?_
      refine lv_aload_n hx hb dP_receiveAllOf_3 rfl (lv_at hl 0 rfl) ?_
      refine va_get (D := D) (ci := 1) (v := .ref (a 0)) (C := RP) (T := TP) (N := 12) hx hb hts in_P hown hK hP 7 rfl rfl 1 (by decide) (hts _ wm_45) (fun _ h9 => h9) rfl dP_receiveAllOf_4 ?_
      refine va_getN (D := D) (ci := 0) (v := .int (nI (x.cnt))) (C := RL) (T := TL) (N := 8) hx hb hts in_L hown hK hP 0 rfl rfl 6 (by decide) (hE.f nf_8) (fun _ h9 => h9) rfl dP_receiveAllOf_7 ?_
      refine r_ge (by omega) (Nat.lt_of_le_of_lt ok.n (by decide)) (tgt := 32) hx hb dP_receiveAllOf_10 (by decide) (fun c_10 => ?_) (fun c_10 => ?_)
      · obtain rfl : o = x.cnt := by omega
        exact kx _ _ _ _ (()) dP_receiveAllOf_32 hS hP hD (trivial)
      · refine lv_aload_n hx hb dP_receiveAllOf_13 rfl (lv_at hl 1 rfl) ?_
        refine lv_iload_n hx hb dP_receiveAllOf_14 rfl (lv_at hl 2 rfl) ?_
        refine W.callR (W.runV (As := [.int (nI (o))]) (rest := []) S (kP_hasApplied D cc a d x y2 (o) (by omega) ok kr2) (cwV 1 hts (gd_V wm_130 wm_131 wm_132 wm_3 wm_133) rfl rfl rfl (by decide +kernel) ⟨Nat.le_of_ble_eq_true rfl, Nat.le_of_ble_eq_true rfl⟩) (rd_preV (q0 := 7) (lrr_P2 hP) hE rfl rfl) rfl rfl hl.1 rfl (lv_room (Nat.le_of_ble_eq_true rfl)) dP_receiveAllOf_15 ⟨Nat.le_of_ble_eq_true rfl, Nat.le_of_ble_eq_true rfl⟩) ?_
        refine W.eq (g2 := F0 m 18 ls [.int (bI (hasL x y2 (o)))]) rfl ?_
        refine r_eqB (tgt := 26) hx hb dP_receiveAllOf_18 (by decide) (fun c_18 => ?_) (fun c_18 => ?_)
        · refine lv_iinc (v := nI (o + 1)) (lv' := [(2, .int (nI (o + 1))), (0, .ref (b 0)), (1, .ref (d 0))]) hx hb dP_receiveAllOf_26 hl (k := 2) rfl (nI_1 _) (by decide) rfl (fun ls hl => ?_)
          refine lv_goto (tgt := 2) hx hb dP_receiveAllOf_29 (by decide) ?_
          have hP : va_P D vwCl (wLRR cc a b d (x) (rcaF x y y2 (o + 1)) y2) H := by first | (rw [rcaF_t c_18]; exact hP) | (rw [rcaF_f c_18]; exact hP)
          have hD : va_D A (wLRR cc a b d (x) (rcaF x y y2 (o + 1)) y2) := by first | (rw [rcaF_t c_18]; exact hD) | (rw [rcaF_f c_18]; exact hD)
          exact ih  (o + 1) H locs hP hD hS ls (by omega) (by omega) (lv_sub hl [1, 2, 0] rfl)
        · refine lv_aload_n hx hb dP_receiveAllOf_21 rfl (lv_at hl 0 rfl) ?_
          refine lv_iload_n hx hb dP_receiveAllOf_22 rfl (lv_at hl 2 rfl) ?_
          refine wr_callv (w2 := wR cc (a 0) d y2) (va_runV (As := [.int (nI (o))]) (rest := []) S (kP_receive D cc a b x (rcaF x y y2 o) (H.size) o (by omega) ok kr3) (cwV 1 hts (gd_V wm_169 wm_151 wm_152 wm_3 wm_153) rfl rfl rfl (by decide +kernel) ⟨Nat.le_of_ble_eq_true rfl, Nat.le_of_ble_eq_true rfl⟩) (wr_preV (q0 := 7) (P_left hP) hE (D_left hD) rfl rfl) rfl rfl hl.1 rfl (lv_room (Nat.le_of_ble_eq_true rfl)) dP_receiveAllOf_23 ⟨Nat.le_of_ble_eq_true rfl, Nat.le_of_ble_eq_true rfl⟩) hP hD hS hA (fun u H locs hpo hP hD hS => ?_)
          have hP : va_P D vwCl (wLRR cc a b d (x) (rcvR x (rcaF x y y2 o) o) y2) H := hP
          have hD : va_D A (wLRR cc a b d (x) (rcvR x (rcaF x y y2 o) o) y2) := hD
          refine lv_iinc (v := nI (o + 1)) (lv' := [(2, .int (nI (o + 1))), (0, .ref (b 0)), (1, .ref (d 0))]) hx hb dP_receiveAllOf_26 hl (k := 2) rfl (nI_1 _) (by decide) rfl (fun ls hl => ?_)
          refine lv_goto (tgt := 2) hx hb dP_receiveAllOf_29 (by decide) ?_
          have hP : va_P D vwCl (wLRR cc a b d (x) (rcaF x y y2 (o + 1)) y2) H := by first | (rw [rcaF_t c_18]; exact hP) | (rw [rcaF_f c_18]; exact hP)
          have hD : va_D A (wLRR cc a b d (x) (rcaF x y y2 (o + 1)) y2) := by first | (rw [rcaF_t c_18]; exact hD) | (rw [rcaF_f c_18]; exact hD)
          exact ih  (o + 1) H locs hP hD hS ls (by omega) (by omega) (lv_sub hl [1, 2, 0] rfl)
  refine lv_iconst (v := nI (0)) hx hb dP_receiveAllOf_0 (by decide) ?_
  refine lv_istore_n (lv' := [(2, .int (nI (0))), (0, .ref (b 0)), (1, .ref (d 0))]) hx hb dP_receiveAllOf_1 rfl hl (by decide) rfl (fun ls hl => ?_)
  exact L2 (x.cnt + 1) (0) s.heap [] hP hD hS ls (by omega) (by omega) (lv_sub hl [1, 2, 0] rfl)

set_option maxHeartbeats 4000000 in
set_option maxRecDepth 100000 in
theorem kP_receiveAllOf_s {l : Launch} (D : va_G) (cc : Nat → ClassId) (a b : Nat → Nat) (x : LgS) (y : RpS) (sz : Nat) (hkr : ∀ o, o ≤ x.cnt → okR (rcaF x y y o)) (ok : okL x) (kr : okR y) : Met l yP_receiveAllOf wsP_receiveAllOf rmP_receiveAllOf (va_Pc [.ref (b 0), .ref (b 0)] (WP D cc (wLR cc a b (x) (y)) sz)) (va_Qv (fun _ : Unit => True) (WQ D cc (va_A (wLR cc a b (x) (y)) sz) (fun _ : Unit => wLR cc a b (x) (rcaF x y y x.cnt))) (va_A (wLR cc a b (x) (y)) sz)) 0 0 (va_A (wLR cc a b (x) (y)) sz) := by
  refine wr_metv RP [.ref (b 0), .ref (b 0)] D cc (wLR cc a b (x) (y)) sz (fun _ : Unit => wLR cc a b (x) (rcaF x y y x.cnt)) _ (by decide) rfl rfl (Nat.le_of_ble_eq_true rfl) ?_
  intro p e s m args below meth c Q A S hP hE hD hA kx ls hl
  obtain ⟨hx, hb, hml, hown, hts⟩ := id S
  have hK := hE.1
  have hts := hE.ts args
  have S : CallFix p m c cP_receiveAllOf 3 s args wAll RP := ⟨hx, hb, hml, hown, hts⟩
  have hS : va_S A s.heap s.heap [] := va_S.rf
  have hn := ok.n
  have he := ok.e
  have hself := kr.self
  have htl := kr.tl
  have hl : lv_has ls 3 [(0, .ref (b 0)), (1, .ref (b 0))] := hl
  have L2 : ∀ (n : Nat) (o : Nat) (H : Heap) (locs : List Loc) (hP : va_P D vwCl (wLR cc a b (x) (rcaF x y y o)) H) (hD : va_D A (wLR cc a b (x) (rcaF x y y o))) (hS : va_S A s.heap H locs) (ls : Array Slot) (h1 : o ≤ x.cnt) (h2 : x.cnt - o < n), lv_has ls 3 [(0, .ref (b 0)), (1, .ref (b 0)), (2, .int (nI (o)))] → W p l e rmP_receiveAllOf s m args below meth c H locs 0 0 Q (F0 m 2 ls []) := by
    intro n
    induction n with
    | zero => intro o H locs hP hD hS ls h1 h2 hl; exact absurd h2 (Nat.not_lt_zero _)
    | succ n ih =>
      intro o H locs hP hD hS ls h1 h2 hl
      have kr3 := hkr o h1
      refine lv_iload_n hx hb dP_receiveAllOf_2 rfl (lv_at hl 2 rfl) ?_
      refine lv_aload_n hx hb dP_receiveAllOf_3 rfl (lv_at hl 0 rfl) ?_
      refine va_get (D := D) (ci := 1) (v := .ref (a 0)) (C := RP) (T := TP) (N := 12) hx hb hts in_P hown hK hP 7 rfl rfl 1 (by decide) (hts _ wm_45) (fun _ h9 => h9) rfl dP_receiveAllOf_4 ?_
      refine va_getN (D := D) (ci := 0) (v := .int (nI (x.cnt))) (C := RL) (T := TL) (N := 8) hx hb hts in_L hown hK hP 0 rfl rfl 6 (by decide) (hE.f nf_8) (fun _ h9 => h9) rfl dP_receiveAllOf_7 ?_
      refine r_ge (by omega) (Nat.lt_of_le_of_lt ok.n (by decide)) (tgt := 32) hx hb dP_receiveAllOf_10 (by decide) (fun c_10 => ?_) (fun c_10 => ?_)
      · obtain rfl : o = x.cnt := by omega
        exact kx _ _ _ _ (()) dP_receiveAllOf_32 hS hP hD (trivial)
      · refine lv_aload_n hx hb dP_receiveAllOf_13 rfl (lv_at hl 1 rfl) ?_
        refine lv_iload_n hx hb dP_receiveAllOf_14 rfl (lv_at hl 2 rfl) ?_
        refine W.callR (W.runV (As := [.int (nI (o))]) (rest := []) S (kP_hasApplied D cc a b x (rcaF x y y o) (o) (by omega) ok kr3) (cwV 1 hts (gd_V wm_130 wm_131 wm_132 wm_3 wm_133) rfl rfl rfl (by decide +kernel) ⟨Nat.le_of_ble_eq_true rfl, Nat.le_of_ble_eq_true rfl⟩) (rd_preV (q0 := 7) hP hE rfl rfl) rfl rfl hl.1 rfl (lv_room (Nat.le_of_ble_eq_true rfl)) dP_receiveAllOf_15 ⟨Nat.le_of_ble_eq_true rfl, Nat.le_of_ble_eq_true rfl⟩) ?_
        refine W.eq (g2 := F0 m 18 ls [.int (bI (hasL x (rcaF x y y o) (o)))]) rfl ?_
        refine r_eqB (tgt := 26) hx hb dP_receiveAllOf_18 (by decide) (fun c_18 => ?_) (fun c_18 => ?_)
        · refine lv_iinc (v := nI (o + 1)) (lv' := [(2, .int (nI (o + 1))), (0, .ref (b 0)), (1, .ref (b 0))]) hx hb dP_receiveAllOf_26 hl (k := 2) rfl (nI_1 _) (by decide) rfl (fun ls hl => ?_)
          refine lv_goto (tgt := 2) hx hb dP_receiveAllOf_29 (by decide) ?_
          have hP : va_P D vwCl (wLR cc a b (x) (rcaF x y y (o + 1))) H := by first | (rw [rcaF_t (show hasL x y o = true from by rw [← hasL_rca x y y o o]; exact c_18)]; exact hP) | (rw [rcaF_f (show hasL x y o = false from by rw [← hasL_rca x y y o o]; exact c_18)]; exact hP)
          have hD : va_D A (wLR cc a b (x) (rcaF x y y (o + 1))) := by first | (rw [rcaF_t (show hasL x y o = true from by rw [← hasL_rca x y y o o]; exact c_18)]; exact hD) | (rw [rcaF_f (show hasL x y o = false from by rw [← hasL_rca x y y o o]; exact c_18)]; exact hD)
          exact ih  (o + 1) H locs hP hD hS ls (by omega) (by omega) (lv_sub hl [1, 2, 0] rfl)
        · refine lv_aload_n hx hb dP_receiveAllOf_21 rfl (lv_at hl 0 rfl) ?_
          refine lv_iload_n hx hb dP_receiveAllOf_22 rfl (lv_at hl 2 rfl) ?_
          refine wr_callv (w2 := []) (va_runV (As := [.int (nI (o))]) (rest := []) S (kP_receive D cc a b x (rcaF x y y o) (H.size) o (by omega) ok kr3) (cwV 1 hts (gd_V wm_169 wm_151 wm_152 wm_3 wm_153) rfl rfl rfl (by decide +kernel) ⟨Nat.le_of_ble_eq_true rfl, Nat.le_of_ble_eq_true rfl⟩) (wr_preV (q0 := 7) hP hE hD rfl rfl) rfl rfl hl.1 rfl (lv_room (Nat.le_of_ble_eq_true rfl)) dP_receiveAllOf_23 ⟨Nat.le_of_ble_eq_true rfl, Nat.le_of_ble_eq_true rfl⟩) (by rw [List.append_nil]; exact hP) (by rw [List.append_nil]; exact hD) hS hA (fun u H locs hpo hP hD hS => ?_)
          rw [List.append_nil] at hP hD
          have hP : va_P D vwCl (wLR cc a b (x) (rcvR x (rcaF x y y o) o)) H := hP
          have hD : va_D A (wLR cc a b (x) (rcvR x (rcaF x y y o) o)) := hD
          refine lv_iinc (v := nI (o + 1)) (lv' := [(2, .int (nI (o + 1))), (0, .ref (b 0)), (1, .ref (b 0))]) hx hb dP_receiveAllOf_26 hl (k := 2) rfl (nI_1 _) (by decide) rfl (fun ls hl => ?_)
          refine lv_goto (tgt := 2) hx hb dP_receiveAllOf_29 (by decide) ?_
          have hP : va_P D vwCl (wLR cc a b (x) (rcaF x y y (o + 1))) H := by first | (rw [rcaF_t (show hasL x y o = true from by rw [← hasL_rca x y y o o]; exact c_18)]; exact hP) | (rw [rcaF_f (show hasL x y o = false from by rw [← hasL_rca x y y o o]; exact c_18)]; exact hP)
          have hD : va_D A (wLR cc a b (x) (rcaF x y y (o + 1))) := by first | (rw [rcaF_t (show hasL x y o = true from by rw [← hasL_rca x y y o o]; exact c_18)]; exact hD) | (rw [rcaF_f (show hasL x y o = false from by rw [← hasL_rca x y y o o]; exact c_18)]; exact hD)
          exact ih  (o + 1) H locs hP hD hS ls (by omega) (by omega) (lv_sub hl [1, 2, 0] rfl)
  refine lv_iconst (v := nI (0)) hx hb dP_receiveAllOf_0 (by decide) ?_
  refine lv_istore_n (lv' := [(2, .int (nI (0))), (0, .ref (b 0)), (1, .ref (b 0))]) hx hb dP_receiveAllOf_1 rfl hl (by decide) rfl (fun ls hl => ?_)
  exact L2 (x.cnt + 1) (0) s.heap [] hP hD hS ls (by omega) (by omega) (lv_sub hl [1, 2, 0] rfl)

def rmP_markWhatMayGo : Room := { frames := 4, cells := 0, slots := 0, locals := 88 }
set_option maxHeartbeats 4000000 in
set_option maxRecDepth 100000 in
theorem kP_markWhatMayGo {l : Launch} (D : va_G) (cc : Nat → ClassId) (a b : Nat → Nat) (x : LgS) (y : RpS) (sz : Nat) (ht : ∀ o, o < x.cnt → x.chr o = 0 → 0 < x.tgt o) (ok : okL x) (kr : okR y) : Met l yP_markWhatMayGo wsP_markWhatMayGo rmP_markWhatMayGo (va_Pc [.ref (b 0)] (WP D cc (wLR cc a b (x) (y)) sz)) (va_Qv (fun _ : Unit => True) (WQ D cc (va_A (wLR cc a b (x) (y)) sz) (fun _ : Unit => wLR cc a b x (mgR x y))) (va_A (wLR cc a b (x) (y)) sz)) 0 0 (va_A (wLR cc a b (x) (y)) sz) := by
  refine wr_metv RP [.ref (b 0)] D cc (wLR cc a b (x) (y)) sz (fun _ : Unit => wLR cc a b x (mgR x y)) _ (by decide) rfl rfl (Nat.le_of_ble_eq_true rfl) ?_
  intro p e s m args below meth c Q A S hP hE hD hA kx ls hl
  obtain ⟨hx, hb, hml, hown, hts⟩ := id S
  have hK := hE.1
  have hts := hE.ts args
  have S : CallFix p m c cP_markWhatMayGo 2 s args wAll RP := ⟨hx, hb, hml, hown, hts⟩
  have hS : va_S A s.heap s.heap [] := va_S.rf
  have hn := ok.n
  have he := ok.e
  have hself := kr.self
  have htl := kr.tl
  have hl : lv_has ls 2 [(0, .ref (b 0))] := hl
  have L62 : ∀ (n : Nat) (o : Nat) (H : Heap) (locs : List Loc) (hP : va_P D vwCl (wLR cc a b (x) (mkR y.self y.seen y.wts y.ers y.kpt (mkG2 x y o) y.txt y.tl y.kc y.wc y.gs)) H) (hD : va_D A (wLR cc a b (x) (mkR y.self y.seen y.wts y.ers y.kpt (mkG2 x y o) y.txt y.tl y.kc y.wc y.gs))) (hS : va_S A s.heap H locs) (ls : Array Slot) (h1 : o ≤ x.cnt) (h2 : x.cnt - o < n), lv_has ls 2 [(0, .ref (b 0)), (1, .int (nI (o)))] → W p l e rmP_markWhatMayGo s m args below meth c H locs 0 0 Q (F0 m 62 ls []) := by
    intro n
    induction n with
    | zero => intro o H locs hP hD hS ls h1 h2 hl; exact absurd h2 (Nat.not_lt_zero _)
    | succ n ih2 =>
      intro o H locs hP hD hS ls h1 h2 hl
      have kr3 : okR (mkR y.self y.seen y.wts y.ers y.kpt (mkG2 x y o) y.txt y.tl y.kc y.wc y.gs) := kr
      refine lv_iload_n hx hb dP_markWhatMayGo_62 rfl (lv_at hl 1 rfl) ?_
      refine lv_aload_n hx hb dP_markWhatMayGo_63 rfl (lv_at hl 0 rfl) ?_
      refine va_get (D := D) (ci := 1) (v := .ref (a 0)) (C := RP) (T := TP) (N := 12) hx hb hts in_P hown hK hP 7 rfl rfl 1 (by decide) (hts _ wm_45) (fun _ h9 => h9) rfl dP_markWhatMayGo_64 ?_
      refine va_getN (D := D) (ci := 0) (v := .int (nI (x.cnt))) (C := RL) (T := TL) (N := 8) hx hb hts in_L hown hK hP 0 rfl rfl 6 (by decide) (hE.f nf_8) (fun _ h9 => h9) rfl dP_markWhatMayGo_67 ?_
      refine r_ge (by omega) (Nat.lt_of_le_of_lt ok.n (by decide)) (tgt := 102) hx hb dP_markWhatMayGo_70 (by decide) (fun c_70 => ?_) (fun c_70 => ?_)
      · obtain rfl : o = x.cnt := by omega
        exact kx _ _ _ _ (()) dP_markWhatMayGo_102 hS hP hD (trivial)
      · refine lv_aload_n hx hb dP_markWhatMayGo_73 rfl (lv_at hl 0 rfl) ?_
        refine lv_iload_n hx hb dP_markWhatMayGo_74 rfl (lv_at hl 1 rfl) ?_
        refine W.callR (W.runV (As := [.int (nI (o))]) (rest := []) S (kP_holdsItsTarget D cc a b x (mkR y.self y.seen y.wts y.ers y.kpt (mkG2 x y o) y.txt y.tl y.kc y.wc y.gs) (o) (by omega) ok kr3) (cwV 1 hts (gd_V wm_185 wm_186 wm_378 wm_3 wm_187) rfl rfl rfl (by decide +kernel) ⟨Nat.le_of_ble_eq_true rfl, Nat.le_of_ble_eq_true rfl⟩) (rd_preV (q0 := 7) hP hE rfl rfl) rfl rfl hl.1 rfl (lv_room (Nat.le_of_ble_eq_true rfl)) dP_markWhatMayGo_75 ⟨Nat.le_of_ble_eq_true rfl, Nat.le_of_ble_eq_true rfl⟩) ?_
        refine W.eq (g2 := F0 m 78 ls [.int (bI (hldL x (mkR y.self y.seen y.wts y.ers y.kpt (mkG2 x y o) y.txt y.tl y.kc y.wc y.gs) (o)))]) rfl ?_
        refine r_top (y := bI (hldL x y (o))) rfl ?_
        refine r_eqB (tgt := 96) hx hb dP_markWhatMayGo_78 (by decide) (fun c_78 => ?_) (fun c_78 => ?_)
        · refine lv_iinc (v := nI (o + 1)) (lv' := [(1, .int (nI (o + 1))), (0, .ref (b 0))]) hx hb dP_markWhatMayGo_96 hl (k := 1) rfl (nI_1 _) (by decide) rfl (fun ls hl => ?_)
          refine lv_goto (tgt := 62) hx hb dP_markWhatMayGo_99 (by decide) ?_
          have hP : va_P D vwCl (wLR cc a b x (mkR y.self y.seen y.wts y.ers y.kpt (mkG2 x y (o + 1)) y.txt y.tl y.kc y.wc y.gs)) H := by first | (rw [mkG2_t c_78]; exact hP) | (rw [mkG2_f c_78]; exact hP)
          have hD : va_D A (wLR cc a b x (mkR y.self y.seen y.wts y.ers y.kpt (mkG2 x y (o + 1)) y.txt y.tl y.kc y.wc y.gs)) := by first | (rw [mkG2_t c_78]; exact hD) | (rw [mkG2_f c_78]; exact hD)
          exact ih2  (o + 1) H locs hP hD hS ls (by omega) (by omega) (lv_sub hl [1, 0] rfl)
        · refine lv_aload_n hx hb dP_markWhatMayGo_81 rfl (lv_at hl 0 rfl) ?_
          refine va_get (D := D) (ci := 1) (v := .ref (b 8)) (C := RP) (T := TP) (N := 12) hx hb hts in_P hown hK hP 7 rfl rfl 6 (by decide) (hts _ wm_50) (fun _ h9 => h9) rfl dP_markWhatMayGo_82 ?_
          refine lv_aload_n hx hb dP_markWhatMayGo_85 rfl (lv_at hl 0 rfl) ?_
          refine va_get (D := D) (ci := 1) (v := .ref (a 0)) (C := RP) (T := TP) (N := 12) hx hb hts in_P hown hK hP 7 rfl rfl 1 (by decide) (hts _ wm_45) (fun _ h9 => h9) rfl dP_markWhatMayGo_86 ?_
          refine va_getN (D := D) (ci := 0) (v := .ref (a 3)) (C := RL) (T := TL) (N := 8) hx hb hts in_L hown hK hP 0 rfl rfl 2 (by decide) (hE.f nf_4) (fun _ h9 => h9) rfl dP_markWhatMayGo_89 ?_
          refine lv_iload_n hx hb dP_markWhatMayGo_92 rfl (lv_at hl 1 rfl) ?_
          refine r_iald (q0 := 3) (t0 := 0) hx hb hK hP rfl rfl (by omega) (by decide) dP_markWhatMayGo_93 ?_
          refine r_top (y := nI ((x.tgt o) - 1)) (sI_p (hld_tgt c_78)) ?_
          refine lv_iconst (v := bI (false)) hx hb dP_markWhatMayGo_94 (by decide) ?_
          refine r_zast ((mkG2 x y o)) (false) (q0 := 15) (t0 := 1) hx hb hK hP hD hS rfl rfl (by have := ok.tgt100 o; have := hld_tgt c_78; omega) (by decide) dP_markWhatMayGo_95 (fun H locs hP hD hS => ?_)
          have hP : va_P D vwCl (wLR cc a b (x) (mkR y.self y.seen y.wts y.ers y.kpt (va_up (mkG2 x y o) (x.tgt o - 1) false) y.txt y.tl y.kc y.wc y.gs)) H := hP
          have hD : va_D A (wLR cc a b (x) (mkR y.self y.seen y.wts y.ers y.kpt (va_up (mkG2 x y o) (x.tgt o - 1) false) y.txt y.tl y.kc y.wc y.gs)) := hD
          refine lv_iinc (v := nI (o + 1)) (lv' := [(1, .int (nI (o + 1))), (0, .ref (b 0))]) hx hb dP_markWhatMayGo_96 hl (k := 1) rfl (nI_1 _) (by decide) rfl (fun ls hl => ?_)
          refine lv_goto (tgt := 62) hx hb dP_markWhatMayGo_99 (by decide) ?_
          have hP : va_P D vwCl (wLR cc a b x (mkR y.self y.seen y.wts y.ers y.kpt (mkG2 x y (o + 1)) y.txt y.tl y.kc y.wc y.gs)) H := by first | (rw [mkG2_t c_78]; exact hP) | (rw [mkG2_f c_78]; exact hP)
          have hD : va_D A (wLR cc a b x (mkR y.self y.seen y.wts y.ers y.kpt (mkG2 x y (o + 1)) y.txt y.tl y.kc y.wc y.gs)) := by first | (rw [mkG2_t c_78]; exact hD) | (rw [mkG2_f c_78]; exact hD)
          exact ih2  (o + 1) H locs hP hD hS ls (by omega) (by omega) (lv_sub hl [1, 0] rfl)
  have L2 : ∀ (n : Nat) (o : Nat) (H : Heap) (locs : List Loc) (hP : va_P D vwCl (wLR cc a b (x) (mkR y.self y.seen y.wts y.ers y.kpt (mkG1 x y o) y.txt y.tl y.kc y.wc y.gs)) H) (hD : va_D A (wLR cc a b (x) (mkR y.self y.seen y.wts y.ers y.kpt (mkG1 x y o) y.txt y.tl y.kc y.wc y.gs))) (hS : va_S A s.heap H locs) (ls : Array Slot) (h1 : o ≤ x.cnt) (h2 : x.cnt - o < n), lv_has ls 2 [(0, .ref (b 0)), (1, .int (nI (o)))] → W p l e rmP_markWhatMayGo s m args below meth c H locs 0 0 Q (F0 m 2 ls []) := by
    intro n
    induction n with
    | zero => intro o H locs hP hD hS ls h1 h2 hl; exact absurd h2 (Nat.not_lt_zero _)
    | succ n ih =>
      intro o H locs hP hD hS ls h1 h2 hl
      have kr3 : okR (mkR y.self y.seen y.wts y.ers y.kpt (mkG1 x y o) y.txt y.tl y.kc y.wc y.gs) := kr
      refine lv_iload_n hx hb dP_markWhatMayGo_2 rfl (lv_at hl 1 rfl) ?_
      refine lv_aload_n hx hb dP_markWhatMayGo_3 rfl (lv_at hl 0 rfl) ?_
      refine va_get (D := D) (ci := 1) (v := .ref (a 0)) (C := RP) (T := TP) (N := 12) hx hb hts in_P hown hK hP 7 rfl rfl 1 (by decide) (hts _ wm_45) (fun _ h9 => h9) rfl dP_markWhatMayGo_4 ?_
      refine va_getN (D := D) (ci := 0) (v := .int (nI (x.cnt))) (C := RL) (T := TL) (N := 8) hx hb hts in_L hown hK hP 0 rfl rfl 6 (by decide) (hE.f nf_8) (fun _ h9 => h9) rfl dP_markWhatMayGo_7 ?_
      refine r_ge (by omega) (Nat.lt_of_le_of_lt ok.n (by decide)) (tgt := 60) hx hb dP_markWhatMayGo_10 (by decide) (fun c_10 => ?_) (fun c_10 => ?_)
      · obtain rfl : o = x.cnt := by omega
        refine lv_iconst (v := nI (0)) hx hb dP_markWhatMayGo_60 (by decide) ?_
        refine lv_istore_n (lv' := [(1, .int (nI (0))), (0, .ref (b 0))]) hx hb dP_markWhatMayGo_61 rfl hl (by decide) rfl (fun ls hl => ?_)
        exact L62 (x.cnt + 1) (0) H locs hP hD hS ls (by omega) (by omega) (lv_sub hl [1, 0] rfl)
      · refine lv_aload_n hx hb dP_markWhatMayGo_13 rfl (lv_at hl 0 rfl) ?_
        refine va_get (D := D) (ci := 1) (v := .ref (b 8)) (C := RP) (T := TP) (N := 12) hx hb hts in_P hown hK hP 7 rfl rfl 6 (by decide) (hts _ wm_50) (fun _ h9 => h9) rfl dP_markWhatMayGo_14 ?_
        refine lv_iload_n hx hb dP_markWhatMayGo_17 rfl (lv_at hl 1 rfl) ?_
        refine lv_iconst (v := bI (false)) hx hb dP_markWhatMayGo_18 (by decide) ?_
        refine r_zast ((mkG1 x y o)) (false) (q0 := 15) (t0 := 1) hx hb hK hP hD hS rfl rfl (by omega) (by decide) dP_markWhatMayGo_19 (fun H locs hP hD hS => ?_)
        have hP : va_P D vwCl (wLR cc a b (x) (mkR y.self y.seen y.wts y.ers y.kpt (va_up (mkG1 x y o) o false) y.txt y.tl y.kc y.wc y.gs)) H := hP
        have hD : va_D A (wLR cc a b (x) (mkR y.self y.seen y.wts y.ers y.kpt (va_up (mkG1 x y o) o false) y.txt y.tl y.kc y.wc y.gs)) := hD
        have kr4 : okR (mkR y.self y.seen y.wts y.ers y.kpt (va_up (mkG1 x y o) o false) y.txt y.tl y.kc y.wc y.gs) := kr
        refine lv_aload_n hx hb dP_markWhatMayGo_20 rfl (lv_at hl 0 rfl) ?_
        refine va_get (D := D) (ci := 1) (v := .ref (a 0)) (C := RP) (T := TP) (N := 12) hx hb hts in_P hown hK hP 7 rfl rfl 1 (by decide) (hts _ wm_45) (fun _ h9 => h9) rfl dP_markWhatMayGo_21 ?_
        refine lv_iload_n hx hb dP_markWhatMayGo_24 rfl (lv_at hl 1 rfl) ?_
        refine W.callR (W.runV (As := [.int (nI (o))]) (rest := []) S (kL_isErase D cc a x (o) (by omega) ok) (cwV 1 hts (gd_V wm_123 wm_124 wm_125 wm_2 wm_126) rfl rfl rfl (by decide +kernel) ⟨Nat.le_of_ble_eq_true rfl, Nat.le_of_ble_eq_true rfl⟩) (rd_preV (q0 := 0) (P_left hP) hE rfl rfl) rfl rfl hl.1 rfl (lv_room (Nat.le_of_ble_eq_true rfl)) dP_markWhatMayGo_25 ⟨Nat.le_of_ble_eq_true rfl, Nat.le_of_ble_eq_true rfl⟩) ?_
        refine W.eq (g2 := F0 m 28 ls [.int (bI (decide (x.chr (o) = 0)))]) rfl ?_
        refine r_eqB (tgt := 54) hx hb dP_markWhatMayGo_28 (by decide) (fun c_28 => ?_) (fun c_28 => ?_)
        · refine lv_iinc (v := nI (o + 1)) (lv' := [(1, .int (nI (o + 1))), (0, .ref (b 0))]) hx hb dP_markWhatMayGo_54 hl (k := 1) rfl (nI_1 _) (by decide) rfl (fun ls hl => ?_)
          refine lv_goto (tgt := 2) hx hb dP_markWhatMayGo_57 (by decide) ?_
          have hP : va_P D vwCl (wLR cc a b x (mkR y.self y.seen y.wts y.ers y.kpt (mkG1 x y (o + 1)) y.txt y.tl y.kc y.wc y.gs)) H := by first | (rw [mkG1_t c_28 c_36]; exact hP) | (rw [mkG1_f1 c_28]; exact hP) | (rw [mkG1_f2 c_36]; exact hP)
          have hD : va_D A (wLR cc a b x (mkR y.self y.seen y.wts y.ers y.kpt (mkG1 x y (o + 1)) y.txt y.tl y.kc y.wc y.gs)) := by first | (rw [mkG1_t c_28 c_36]; exact hD) | (rw [mkG1_f1 c_28]; exact hD) | (rw [mkG1_f2 c_36]; exact hD)
          exact ih  (o + 1) H locs hP hD hS ls (by omega) (by omega) (lv_sub hl [1, 0] rfl)
        · refine lv_aload_n hx hb dP_markWhatMayGo_31 rfl (lv_at hl 0 rfl) ?_
          refine lv_iload_n hx hb dP_markWhatMayGo_32 rfl (lv_at hl 1 rfl) ?_
          refine W.callR (W.runV (As := [.int (nI (o))]) (rest := []) S (kP_isSettled D cc a b x (mkR y.self y.seen y.wts y.ers y.kpt (va_up (mkG1 x y o) o false) y.txt y.tl y.kc y.wc y.gs) (o) (by omega) ok kr4) (cwV 1 hts (gd_V wm_181 wm_182 wm_183 wm_3 wm_184) rfl rfl rfl (by decide +kernel) ⟨Nat.le_of_ble_eq_true rfl, Nat.le_of_ble_eq_true rfl⟩) (rd_preV (q0 := 7) hP hE rfl rfl) rfl rfl hl.1 rfl (lv_room (Nat.le_of_ble_eq_true rfl)) dP_markWhatMayGo_33 ⟨Nat.le_of_ble_eq_true rfl, Nat.le_of_ble_eq_true rfl⟩) ?_
          refine W.eq (g2 := F0 m 36 ls [.int (bI (setL x (mkR y.self y.seen y.wts y.ers y.kpt (va_up (mkG1 x y o) o false) y.txt y.tl y.kc y.wc y.gs) (o)))]) rfl ?_
          refine r_top (y := bI (setL x y (o))) rfl ?_
          refine r_eqB (tgt := 54) hx hb dP_markWhatMayGo_36 (by decide) (fun c_36 => ?_) (fun c_36 => ?_)
          · refine lv_iinc (v := nI (o + 1)) (lv' := [(1, .int (nI (o + 1))), (0, .ref (b 0))]) hx hb dP_markWhatMayGo_54 hl (k := 1) rfl (nI_1 _) (by decide) rfl (fun ls hl => ?_)
            refine lv_goto (tgt := 2) hx hb dP_markWhatMayGo_57 (by decide) ?_
            have hP : va_P D vwCl (wLR cc a b x (mkR y.self y.seen y.wts y.ers y.kpt (mkG1 x y (o + 1)) y.txt y.tl y.kc y.wc y.gs)) H := by first | (rw [mkG1_t c_28 c_36]; exact hP) | (rw [mkG1_f1 c_28]; exact hP) | (rw [mkG1_f2 c_36]; exact hP)
            have hD : va_D A (wLR cc a b x (mkR y.self y.seen y.wts y.ers y.kpt (mkG1 x y (o + 1)) y.txt y.tl y.kc y.wc y.gs)) := by first | (rw [mkG1_t c_28 c_36]; exact hD) | (rw [mkG1_f1 c_28]; exact hD) | (rw [mkG1_f2 c_36]; exact hD)
            exact ih  (o + 1) H locs hP hD hS ls (by omega) (by omega) (lv_sub hl [1, 0] rfl)
          · refine lv_aload_n hx hb dP_markWhatMayGo_39 rfl (lv_at hl 0 rfl) ?_
            refine va_get (D := D) (ci := 1) (v := .ref (b 8)) (C := RP) (T := TP) (N := 12) hx hb hts in_P hown hK hP 7 rfl rfl 6 (by decide) (hts _ wm_50) (fun _ h9 => h9) rfl dP_markWhatMayGo_40 ?_
            refine lv_aload_n hx hb dP_markWhatMayGo_43 rfl (lv_at hl 0 rfl) ?_
            refine va_get (D := D) (ci := 1) (v := .ref (a 0)) (C := RP) (T := TP) (N := 12) hx hb hts in_P hown hK hP 7 rfl rfl 1 (by decide) (hts _ wm_45) (fun _ h9 => h9) rfl dP_markWhatMayGo_44 ?_
            refine va_getN (D := D) (ci := 0) (v := .ref (a 3)) (C := RL) (T := TL) (N := 8) hx hb hts in_L hown hK hP 0 rfl rfl 2 (by decide) (hE.f nf_4) (fun _ h9 => h9) rfl dP_markWhatMayGo_47 ?_
            refine lv_iload_n hx hb dP_markWhatMayGo_50 rfl (lv_at hl 1 rfl) ?_
            refine r_iald (q0 := 3) (t0 := 0) hx hb hK hP rfl rfl (by omega) (by decide) dP_markWhatMayGo_51 ?_
            refine r_top (y := nI ((x.tgt o) - 1)) (sI_p (ht o (by omega) (of_decide_eq_true c_28))) ?_
            refine lv_iconst (v := bI (true)) hx hb dP_markWhatMayGo_52 (by decide) ?_
            refine r_zast ((va_up (mkG1 x y o) o false)) (true) (q0 := 15) (t0 := 1) hx hb hK hP hD hS rfl rfl (by have := ok.tgt100 o; have := ht o (by omega) (of_decide_eq_true c_28); omega) (by decide) dP_markWhatMayGo_53 (fun H locs hP hD hS => ?_)
            have hP : va_P D vwCl (wLR cc a b (x) (mkR y.self y.seen y.wts y.ers y.kpt (va_up (va_up (mkG1 x y o) o false) (x.tgt o - 1) true) y.txt y.tl y.kc y.wc y.gs)) H := hP
            have hD : va_D A (wLR cc a b (x) (mkR y.self y.seen y.wts y.ers y.kpt (va_up (va_up (mkG1 x y o) o false) (x.tgt o - 1) true) y.txt y.tl y.kc y.wc y.gs)) := hD
            refine lv_iinc (v := nI (o + 1)) (lv' := [(1, .int (nI (o + 1))), (0, .ref (b 0))]) hx hb dP_markWhatMayGo_54 hl (k := 1) rfl (nI_1 _) (by decide) rfl (fun ls hl => ?_)
            refine lv_goto (tgt := 2) hx hb dP_markWhatMayGo_57 (by decide) ?_
            have hP : va_P D vwCl (wLR cc a b x (mkR y.self y.seen y.wts y.ers y.kpt (mkG1 x y (o + 1)) y.txt y.tl y.kc y.wc y.gs)) H := by first | (rw [mkG1_t c_28 c_36]; exact hP) | (rw [mkG1_f1 c_28]; exact hP) | (rw [mkG1_f2 c_36]; exact hP)
            have hD : va_D A (wLR cc a b x (mkR y.self y.seen y.wts y.ers y.kpt (mkG1 x y (o + 1)) y.txt y.tl y.kc y.wc y.gs)) := by first | (rw [mkG1_t c_28 c_36]; exact hD) | (rw [mkG1_f1 c_28]; exact hD) | (rw [mkG1_f2 c_36]; exact hD)
            exact ih  (o + 1) H locs hP hD hS ls (by omega) (by omega) (lv_sub hl [1, 0] rfl)
  refine lv_iconst (v := nI (0)) hx hb dP_markWhatMayGo_0 (by decide) ?_
  refine lv_istore_n (lv' := [(1, .int (nI (0))), (0, .ref (b 0))]) hx hb dP_markWhatMayGo_1 rfl hl (by decide) rfl (fun ls hl => ?_)
  exact L2 (x.cnt + 1) (0) s.heap [] hP hD hS ls (by omega) (by omega) (lv_sub hl [1, 0] rfl)
