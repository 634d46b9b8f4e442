/-- the class's cells, all of them -/
abbrev wC (cc : Nat → ClassId) (a : Nat → Nat) (b : Nat → Nat → Nat) (g : Nat → Nat) (x : LgS) (y : Nat → RpS) : va_W :=
  wR cc (a 0) (b 2) (y 2) ++ (wR cc (a 0) (b 1) (y 1) ++ (wR cc (a 0) (b 0) (y 0) ++ (wL cc a x ++ wTo cc (a 0) g (fun r => b r 0))))
def sel3 {α : Type} (u v w : α) : Nat → α
  | 0 => u
  | 1 => v
  | _ => w
def rmT_init : Room := { frames := 2, cells := 38, slots := 2383, locals := 35 }
set_option maxHeartbeats 4000000 in
set_option maxRecDepth 100000 in
theorem kT_init {l : Launch} (D : va_G) (cc : Nat → ClassId) (h0 : Nat) (sz : Nat) : Met l yT_init wsT_init rmT_init (va_Pc [.ref h0] (WP2 D cc [(h0, .inr (2, [.null, .null]))] sz)) (va_Qv (fun u : (Nat → Nat) × (Nat → Nat → Nat) × (Nat → Nat) => u.2.2 0 = h0) (WQ2 D cc (va_A [(h0, .inr (2, [.null, .null]))] sz) (fun u : (Nat → Nat) × (Nat → Nat → Nat) × (Nat → Nat) => wC cc u.1 u.2.1 u.2.2 initL initR)) (va_A [(h0, .inr (2, [.null, .null]))] sz)) 38 2383 (va_A [(h0, .inr (2, [.null, .null]))] sz) := by
  refine mk_met RT [.ref h0] D cc [(h0, .inr (2, [.null, .null]))] sz (fun u : (Nat → Nat) × (Nat → Nat → Nat) × (Nat → Nat) => wC cc u.1 u.2.1 u.2.2 initL initR) _ (by decide) rfl rfl rfl (Nat.le_of_ble_eq_true rfl) ?_
  intro p e s m args below meth c Q A S hin hP hE hD hA kx ls hl
  obtain ⟨hx, hb, hml, hown, hts⟩ := id S
  have hK := hE.1.1
  have hts := hE.1.ts args
  have S : CallFix p m c cT_init 2 s args wAll RT := ⟨hx, hb, hml, hown, hts⟩
  have hS : va_S A s.heap s.heap [] := va_S.rf
  have hl : lv_has ls 2 [(0, .ref h0)] := hl
  refine lv_aload_n hx hb dT_init_0 rfl (lv_at hl 0 rfl) ?_
  refine W.objInit hx hb hown (hts _ wm_11) (hts _ wm_12) (hts _ wm_13) rfl (by rw [hml]; exact hl.1) rfl dT_init_1 (Nat.le_of_ble_eq_true rfl) (Nat.le_of_ble_eq_true rfl) ?_
  refine W.eq (g2 := F0 m 4 ls []) rfl ?_
  refine lv_aload_n hx hb dT_init_4 rfl (lv_at hl 0 rfl) ?_
  refine va_new (ci := 0) (fs := [.null, .null, .null, .null, .null, .null, .int (nI 0), .int (nI 0)]) (C := RL) (T := TL) (N := 8) hx hb hts in_L tyL tyL_ok hown (hts _ wm_14) (hts _ wm_15) (hts _ wm_2) hK hP hD hS hA rfl (fun j hj => by rcases (show j = 0 ∨ j = 1 ∨ j = 2 ∨ j = 3 ∨ j = 4 ∨ j = 5 ∨ j = 6 ∨ j = 7 by omega) with rfl | rfl | rfl | rfl | rfl | rfl | rfl | rfl <;> rfl) (Nat.le_of_ble_eq_true rfl) (Nat.le_of_ble_eq_true rfl) dT_init_5 (fun l0 H hP hD hS => ?_)
  have hP : va_P D vwCl ([(h0, .inr (2, [.null, .null])), (l0, .inr (0, [.null, .null, .null, .null, .null, .null, .int (nI 0), .int (nI 0)]))]) H := hP
  have hD : va_D A ([(h0, .inr (2, [.null, .null])), (l0, .inr (0, [.null, .null, .null, .null, .null, .null, .int (nI 0), .int (nI 0)]))]) := hD
  refine lv_dup hx hb dT_init_8 rfl ?_
  have hPx := hP.sub (ws' := [(l0, .inr (0, [.null, .null, .null, .null, .null, .null, .int (nI 0), .int (nI 0)]))] ++ [(h0, .inr (2, [.null, .null]))]) [1, 0] rfl
  have hDx := hD.sub (ws' := [(l0, .inr (0, [.null, .null, .null, .null, .null, .null, .int (nI 0), .int (nI 0)]))] ++ [(h0, .inr (2, [.null, .null]))]) [1, 0] (by decide) rfl
  refine mk_callv (w2 := [(h0, .inr (2, [.null, .null]))]) (va_runIN (As := []) (rest := [.ref l0, .ref h0]) S (kL_init D cc l0 H.size) ⟨va_cnB 0 hts (gd_1 wm_17) rfl rfl rfl hE.2.2.2 (hts _ wm_2) (by decide +kernel) ⟨(Nat.le_of_ble_eq_true rfl), (Nat.le_of_ble_eq_true rfl)⟩, rfl, hts _ wm_16⟩ (mk_preI (P_left hPx) hE (D_left hDx)) rfl rfl hl.1 rfl (lv_room (Nat.le_of_ble_eq_true rfl)) dT_init_9 ⟨(Nat.le_of_ble_eq_true rfl), (Nat.le_of_ble_eq_true rfl)⟩) hPx hDx hS hA (fun a H locs hpo hP hD hS => ?_)
  rw [← hpo]
  have hP : va_P D vwCl (wL cc a initL ++ [(h0, .inr (2, [.null, .null]))]) H := hP
  have hD : va_D A (wL cc a initL ++ [(h0, .inr (2, [.null, .null]))]) := hD
  refine va_putF (D := D) (ci := 2) (v := .ref (a 0)) (ty := .object "TombstoneText$Log") (C := RT) (T := TT) (N := 2) hx hb hts in_T tyT tyT_ok nmT hown hK hP hD hS 7 rfl rfl 0 (by decide) (hts _ wm_69) (fun _ h9 => h9) rfl hin rfl (by decide +kernel) rfl rfl (Nat.le_of_ble_eq_true rfl) dT_init_12 (fun H locs hP hD hS => ?_)
  have hP : va_P D vwCl (wL cc a initL ++ [(h0, .inr (2, [.ref (a 0), .null]))]) H := hP
  have hD : va_D A (wL cc a initL ++ [(h0, .inr (2, [.ref (a 0), .null]))]) := hD
  refine lv_aload_n hx hb dT_init_15 rfl (lv_at hl 0 rfl) ?_
  refine lv_iconst (v := nI (3)) hx hb dT_init_16 (by decide) ?_
  refine r_newq (C := RP) (cA := cc 4) (N' := 3) hx hb hown (hts _ wm_37) hE.2.2.1 hK 4 rfl hP hD hS hA (by decide) (by decide) (Nat.le_of_ble_eq_true rfl) (Nat.le_of_ble_eq_true rfl) dT_init_17 (fun g1 H hP hD hS => ?_)
  have hP : va_P D vwCl (wL cc a initL ++ [(h0, .inr (2, [.ref (a 0), .null])), (g1, .inl (cc 4, 3, .inr (.inr (.inr (.inr (fun _ => none))))))]) H := hP
  have hD : va_D A (wL cc a initL ++ [(h0, .inr (2, [.ref (a 0), .null])), (g1, .inl (cc 4, 3, .inr (.inr (.inr (.inr (fun _ => none))))))]) := hD
  refine va_putF (D := D) (ci := 2) (v := .ref g1) (ty := .array (.object "TombstoneText$Replica")) (C := RT) (T := TT) (N := 2) hx hb hts in_T tyT tyT_ok nmT hown hK hP hD hS 7 rfl rfl 1 (by decide) (hts _ wm_70) (fun _ h9 => h9) rfl hin rfl (by decide +kernel) rfl rfl (Nat.le_of_ble_eq_true rfl) dT_init_20 (fun H locs hP hD hS => ?_)
  have hP : va_P D vwCl (wL cc a initL ++ [(h0, .inr (2, [.ref (a 0), .ref g1])), (g1, .inl (cc 4, 3, .inr (.inr (.inr (.inr (fun _ => none))))))]) H := hP
  have hD : va_D A (wL cc a initL ++ [(h0, .inr (2, [.ref (a 0), .ref g1])), (g1, .inl (cc 4, 3, .inr (.inr (.inr (.inr (fun _ => none))))))]) := hD
  refine lv_iconst (v := nI (0)) hx hb dT_init_23 (by decide) ?_
  refine lv_istore_n (lv' := [(1, .int (nI (0))), (0, .ref h0)]) hx hb dT_init_24 rfl hl (by decide) rfl (fun ls hl => ?_)
  refine lv_iload_n hx hb dT_init_25 rfl (lv_at hl 0 rfl) ?_
  refine lv_iconst (v := nI (3)) hx hb dT_init_26 (by decide) ?_
  refine r_ge (by decide) (by decide) (tgt := 54) hx hb dT_init_27 (by decide) (fun c_27 => absurd c_27 (by decide)) (fun _ => ?_)
  refine lv_aload_n hx hb dT_init_30 rfl (lv_at hl 1 rfl) ?_
  refine va_get (D := D) (ci := 2) (v := .ref g1) (C := RT) (T := TT) (N := 2) hx hb hts in_T hown hK hP 7 rfl rfl 1 (by decide) (hts _ wm_70) (fun _ h9 => h9) rfl dT_init_31 ?_
  refine lv_iload_n hx hb dT_init_34 rfl (lv_at hl 0 rfl) ?_
  refine va_new (ci := 1) (fs := [.int (nI 0), .null, .null, .null, .null, .null, .null, .null, .int (nI 0), .int (nI 0), .int (nI 0), .int (nI 0)]) (C := RP) (T := TP) (N := 12) hx hb hts in_P tyP tyP_ok hown (hts _ wm_37) (hts _ wm_38) (hts _ wm_3) hK hP hD hS hA rfl (fun j hj => by rcases (show j = 0 ∨ j = 1 ∨ j = 2 ∨ j = 3 ∨ j = 4 ∨ j = 5 ∨ j = 6 ∨ j = 7 ∨ j = 8 ∨ j = 9 ∨ j = 10 ∨ j = 11 by omega) with rfl | rfl | rfl | rfl | rfl | rfl | rfl | rfl | rfl | rfl | rfl | rfl <;> rfl) (Nat.le_of_ble_eq_true rfl) (Nat.le_of_ble_eq_true rfl) dT_init_35 (fun p0 H hP hD hS => ?_)
  refine lv_dup hx hb dT_init_38 rfl ?_
  refine lv_iload_n hx hb dT_init_39 rfl (lv_at hl 0 rfl) ?_
  refine lv_aload_n hx hb dT_init_40 rfl (lv_at hl 1 rfl) ?_
  refine va_get (D := D) (ci := 2) (v := .ref (a 0)) (C := RT) (T := TT) (N := 2) hx hb hts in_T hown hK hP 7 rfl rfl 0 (by decide) (hts _ wm_69) (fun _ h9 => h9) rfl dT_init_41 ?_
  have hPx := hP.sub (ws' := [(p0, .inr (1, [.int (nI 0), .null, .null, .null, .null, .null, .null, .null, .int (nI 0), .int (nI 0), .int (nI 0), .int (nI 0)]))] ++ (wL cc a initL ++ [(h0, .inr (2, [.ref (a 0), .ref g1])), (g1, .inl (cc 4, 3, .inr (.inr (.inr (.inr (fun _ => none))))))])) [9, 0, 1, 2, 3, 4, 5, 6, 7, 8] rfl
  have hDx := hD.sub (ws' := [(p0, .inr (1, [.int (nI 0), .null, .null, .null, .null, .null, .null, .null, .int (nI 0), .int (nI 0), .int (nI 0), .int (nI 0)]))] ++ (wL cc a initL ++ [(h0, .inr (2, [.ref (a 0), .ref g1])), (g1, .inl (cc 4, 3, .inr (.inr (.inr (.inr (fun _ => none))))))])) [9, 0, 1, 2, 3, 4, 5, 6, 7, 8] (by decide) rfl
  refine mk_callv (w2 := wL cc a initL ++ [(h0, .inr (2, [.ref (a 0), .ref g1])), (g1, .inl (cc 4, 3, .inr (.inr (.inr (.inr (fun _ => none))))))]) (va_runI (As := [.int (nI 0), .ref (a 0)]) (rest := [.ref p0, .int (nI (0)), .ref g1]) S (kP_init D cc p0 0 (a 0) H.size) (cwI 2 hts (gd_1 wm_41) rfl rfl rfl (hts _ wm_3) (hts _ wm_39) (hts _ wm_40) rfl (by decide +kernel) ⟨(Nat.le_of_ble_eq_true rfl), (Nat.le_of_ble_eq_true rfl)⟩) (mk_preI (P_left hPx) hE (D_left hDx)) rfl rfl hl.1 rfl (lv_room (Nat.le_of_ble_eq_true rfl)) dT_init_44 ⟨(Nat.le_of_ble_eq_true rfl), (Nat.le_of_ble_eq_true rfl)⟩) hPx hDx hS hA (fun b0 H locs hpo hP hD hS => ?_)
  rw [← hpo]
  have hP : va_P D vwCl (wR cc (a 0) b0 (initR 0) ++ (wL cc a initL ++ [(h0, .inr (2, [.ref (a 0), .ref g1])), (g1, .inl (cc 4, 3, .inr (.inr (.inr (.inr (fun _ => none))))))])) H := hP
  have hD : va_D A (wR cc (a 0) b0 (initR 0) ++ (wL cc a initL ++ [(h0, .inr (2, [.ref (a 0), .ref g1])), (g1, .inl (cc 4, 3, .inr (.inr (.inr (.inr (fun _ => none))))))])) := hD
  refine va_astq hx hb hK hP hD hS 18 4 0 1 rfl rfl rfl rfl (vp_in_nI (n := 0) (by decide) (by decide)) dT_init_47 (fun H locs hP hD hS => ?_)
  rw [nI_clamp (n := 0) (by decide)] at hP hD
  have hP : va_P D vwCl (wR cc (a 0) b0 (initR 0) ++ (wL cc a initL ++ [(h0, .inr (2, [.ref (a 0), .ref g1])), (g1, .inl (cc 4, 3, .inr (.inr (.inr (.inr (va_up (fun _ => none) 0 (some (b0 0))))))))])) H := hP
  have hD : va_D A (wR cc (a 0) b0 (initR 0) ++ (wL cc a initL ++ [(h0, .inr (2, [.ref (a 0), .ref g1])), (g1, .inl (cc 4, 3, .inr (.inr (.inr (.inr (va_up (fun _ => none) 0 (some (b0 0))))))))])) := hD
  refine lv_iinc (v := nI (1)) (lv' := [(1, .int (nI (1))), (0, .ref h0)]) hx hb dT_init_48 hl (k := 0) rfl (nI_1 0) (by decide) rfl (fun ls hl => ?_)
  refine lv_goto (tgt := 25) hx hb dT_init_51 (by decide) ?_
  refine lv_iload_n hx hb dT_init_25 rfl (lv_at hl 0 rfl) ?_
  refine lv_iconst (v := nI (3)) hx hb dT_init_26 (by decide) ?_
  refine r_ge (by decide) (by decide) (tgt := 54) hx hb dT_init_27 (by decide) (fun c_27 => absurd c_27 (by decide)) (fun _ => ?_)
  refine lv_aload_n hx hb dT_init_30 rfl (lv_at hl 1 rfl) ?_
  refine va_get (D := D) (ci := 2) (v := .ref g1) (C := RT) (T := TT) (N := 2) hx hb hts in_T hown hK hP 17 rfl rfl 1 (by decide) (hts _ wm_70) (fun _ h9 => h9) rfl dT_init_31 ?_
  refine lv_iload_n hx hb dT_init_34 rfl (lv_at hl 0 rfl) ?_
  refine va_new (ci := 1) (fs := [.int (nI 0), .null, .null, .null, .null, .null, .null, .null, .int (nI 0), .int (nI 0), .int (nI 0), .int (nI 0)]) (C := RP) (T := TP) (N := 12) hx hb hts in_P tyP tyP_ok hown (hts _ wm_37) (hts _ wm_38) (hts _ wm_3) hK hP hD hS hA rfl (fun j hj => by rcases (show j = 0 ∨ j = 1 ∨ j = 2 ∨ j = 3 ∨ j = 4 ∨ j = 5 ∨ j = 6 ∨ j = 7 ∨ j = 8 ∨ j = 9 ∨ j = 10 ∨ j = 11 by omega) with rfl | rfl | rfl | rfl | rfl | rfl | rfl | rfl | rfl | rfl | rfl | rfl <;> rfl) (Nat.le_of_ble_eq_true rfl) (Nat.le_of_ble_eq_true rfl) dT_init_35 (fun p1 H hP hD hS => ?_)
  refine lv_dup hx hb dT_init_38 rfl ?_
  refine lv_iload_n hx hb dT_init_39 rfl (lv_at hl 0 rfl) ?_
  refine lv_aload_n hx hb dT_init_40 rfl (lv_at hl 1 rfl) ?_
  refine va_get (D := D) (ci := 2) (v := .ref (a 0)) (C := RT) (T := TT) (N := 2) hx hb hts in_T hown hK hP 17 rfl rfl 0 (by decide) (hts _ wm_69) (fun _ h9 => h9) rfl dT_init_41 ?_
  have hPx := hP.sub (ws' := [(p1, .inr (1, [.int (nI 0), .null, .null, .null, .null, .null, .null, .null, .int (nI 0), .int (nI 0), .int (nI 0), .int (nI 0)]))] ++ (wR cc (a 0) b0 (initR 0) ++ (wL cc a initL ++ [(h0, .inr (2, [.ref (a 0), .ref g1])), (g1, .inl (cc 4, 3, .inr (.inr (.inr (.inr (va_up (fun _ => none) 0 (some (b0 0))))))))]))) [19, 0, 1, 2, 3, 4, 5, 6, 7, 8, 9, 10, 11, 12, 13, 14, 15, 16, 17, 18] rfl
  have hDx := hD.sub (ws' := [(p1, .inr (1, [.int (nI 0), .null, .null, .null, .null, .null, .null, .null, .int (nI 0), .int (nI 0), .int (nI 0), .int (nI 0)]))] ++ (wR cc (a 0) b0 (initR 0) ++ (wL cc a initL ++ [(h0, .inr (2, [.ref (a 0), .ref g1])), (g1, .inl (cc 4, 3, .inr (.inr (.inr (.inr (va_up (fun _ => none) 0 (some (b0 0))))))))]))) [19, 0, 1, 2, 3, 4, 5, 6, 7, 8, 9, 10, 11, 12, 13, 14, 15, 16, 17, 18] (by decide) rfl
  refine mk_callv (w2 := wR cc (a 0) b0 (initR 0) ++ (wL cc a initL ++ [(h0, .inr (2, [.ref (a 0), .ref g1])), (g1, .inl (cc 4, 3, .inr (.inr (.inr (.inr (va_up (fun _ => none) 0 (some (b0 0))))))))])) (va_runI (As := [.int (nI 1), .ref (a 0)]) (rest := [.ref p1, .int (nI (1)), .ref g1]) S (kP_init D cc p1 1 (a 0) H.size) (cwI 2 hts (gd_1 wm_41) rfl rfl rfl (hts _ wm_3) (hts _ wm_39) (hts _ wm_40) rfl (by decide +kernel) ⟨(Nat.le_of_ble_eq_true rfl), (Nat.le_of_ble_eq_true rfl)⟩) (mk_preI (P_left hPx) hE (D_left hDx)) rfl rfl hl.1 rfl (lv_room (Nat.le_of_ble_eq_true rfl)) dT_init_44 ⟨(Nat.le_of_ble_eq_true rfl), (Nat.le_of_ble_eq_true rfl)⟩) hPx hDx hS hA (fun b1 H locs hpo hP hD hS => ?_)
  rw [← hpo]
  have hP : va_P D vwCl (wR cc (a 0) b1 (initR 1) ++ (wR cc (a 0) b0 (initR 0) ++ (wL cc a initL ++ [(h0, .inr (2, [.ref (a 0), .ref g1])), (g1, .inl (cc 4, 3, .inr (.inr (.inr (.inr (va_up (fun _ => none) 0 (some (b0 0))))))))]))) H := hP
  have hD : va_D A (wR cc (a 0) b1 (initR 1) ++ (wR cc (a 0) b0 (initR 0) ++ (wL cc a initL ++ [(h0, .inr (2, [.ref (a 0), .ref g1])), (g1, .inl (cc 4, 3, .inr (.inr (.inr (.inr (va_up (fun _ => none) 0 (some (b0 0))))))))]))) := hD
  refine va_astq hx hb hK hP hD hS 28 4 0 1 rfl rfl rfl rfl (vp_in_nI (n := 1) (by decide) (by decide)) dT_init_47 (fun H locs hP hD hS => ?_)
  rw [nI_clamp (n := 1) (by decide)] at hP hD
  have hP : va_P D vwCl (wR cc (a 0) b1 (initR 1) ++ (wR cc (a 0) b0 (initR 0) ++ (wL cc a initL ++ [(h0, .inr (2, [.ref (a 0), .ref g1])), (g1, .inl (cc 4, 3, .inr (.inr (.inr (.inr (va_up (va_up (fun _ => none) 0 (some (b0 0))) 1 (some (b1 0))))))))]))) H := hP
  have hD : va_D A (wR cc (a 0) b1 (initR 1) ++ (wR cc (a 0) b0 (initR 0) ++ (wL cc a initL ++ [(h0, .inr (2, [.ref (a 0), .ref g1])), (g1, .inl (cc 4, 3, .inr (.inr (.inr (.inr (va_up (va_up (fun _ => none) 0 (some (b0 0))) 1 (some (b1 0))))))))]))) := hD
  refine lv_iinc (v := nI (2)) (lv' := [(1, .int (nI (2))), (0, .ref h0)]) hx hb dT_init_48 hl (k := 0) rfl (nI_1 1) (by decide) rfl (fun ls hl => ?_)
  refine lv_goto (tgt := 25) hx hb dT_init_51 (by decide) ?_
  refine lv_iload_n hx hb dT_init_25 rfl (lv_at hl 0 rfl) ?_
  refine lv_iconst (v := nI (3)) hx hb dT_init_26 (by decide) ?_
  refine r_ge (by decide) (by decide) (tgt := 54) hx hb dT_init_27 (by decide) (fun c_27 => absurd c_27 (by decide)) (fun _ => ?_)
  refine lv_aload_n hx hb dT_init_30 rfl (lv_at hl 1 rfl) ?_
  refine va_get (D := D) (ci := 2) (v := .ref g1) (C := RT) (T := TT) (N := 2) hx hb hts in_T hown hK hP 27 rfl rfl 1 (by decide) (hts _ wm_70) (fun _ h9 => h9) rfl dT_init_31 ?_
  refine lv_iload_n hx hb dT_init_34 rfl (lv_at hl 0 rfl) ?_
  refine va_new (ci := 1) (fs := [.int (nI 0), .null, .null, .null, .null, .null, .null, .null, .int (nI 0), .int (nI 0), .int (nI 0), .int (nI 0)]) (C := RP) (T := TP) (N := 12) hx hb hts in_P tyP tyP_ok hown (hts _ wm_37) (hts _ wm_38) (hts _ wm_3) hK hP hD hS hA rfl (fun j hj => by rcases (show j = 0 ∨ j = 1 ∨ j = 2 ∨ j = 3 ∨ j = 4 ∨ j = 5 ∨ j = 6 ∨ j = 7 ∨ j = 8 ∨ j = 9 ∨ j = 10 ∨ j = 11 by omega) with rfl | rfl | rfl | rfl | rfl | rfl | rfl | rfl | rfl | rfl | rfl | rfl <;> rfl) (Nat.le_of_ble_eq_true rfl) (Nat.le_of_ble_eq_true rfl) dT_init_35 (fun p2 H hP hD hS => ?_)
  refine lv_dup hx hb dT_init_38 rfl ?_
  refine lv_iload_n hx hb dT_init_39 rfl (lv_at hl 0 rfl) ?_
  refine lv_aload_n hx hb dT_init_40 rfl (lv_at hl 1 rfl) ?_
  refine va_get (D := D) (ci := 2) (v := .ref (a 0)) (C := RT) (T := TT) (N := 2) hx hb hts in_T hown hK hP 27 rfl rfl 0 (by decide) (hts _ wm_69) (fun _ h9 => h9) rfl dT_init_41 ?_
  have hPx := hP.sub (ws' := [(p2, .inr (1, [.int (nI 0), .null, .null, .null, .null, .null, .null, .null, .int (nI 0), .int (nI 0), .int (nI 0), .int (nI 0)]))] ++ (wR cc (a 0) b1 (initR 1) ++ (wR cc (a 0) b0 (initR 0) ++ (wL cc a initL ++ [(h0, .inr (2, [.ref (a 0), .ref g1])), (g1, .inl (cc 4, 3, .inr (.inr (.inr (.inr (va_up (va_up (fun _ => none) 0 (some (b0 0))) 1 (some (b1 0))))))))])))) [29, 0, 1, 2, 3, 4, 5, 6, 7, 8, 9, 10, 11, 12, 13, 14, 15, 16, 17, 18, 19, 20, 21, 22, 23, 24, 25, 26, 27, 28] rfl
  have hDx := hD.sub (ws' := [(p2, .inr (1, [.int (nI 0), .null, .null, .null, .null, .null, .null, .null, .int (nI 0), .int (nI 0), .int (nI 0), .int (nI 0)]))] ++ (wR cc (a 0) b1 (initR 1) ++ (wR cc (a 0) b0 (initR 0) ++ (wL cc a initL ++ [(h0, .inr (2, [.ref (a 0), .ref g1])), (g1, .inl (cc 4, 3, .inr (.inr (.inr (.inr (va_up (va_up (fun _ => none) 0 (some (b0 0))) 1 (some (b1 0))))))))])))) [29, 0, 1, 2, 3, 4, 5, 6, 7, 8, 9, 10, 11, 12, 13, 14, 15, 16, 17, 18, 19, 20, 21, 22, 23, 24, 25, 26, 27, 28] (by decide) rfl
  refine mk_callv (w2 := wR cc (a 0) b1 (initR 1) ++ (wR cc (a 0) b0 (initR 0) ++ (wL cc a initL ++ [(h0, .inr (2, [.ref (a 0), .ref g1])), (g1, .inl (cc 4, 3, .inr (.inr (.inr (.inr (va_up (va_up (fun _ => none) 0 (some (b0 0))) 1 (some (b1 0))))))))]))) (va_runI (As := [.int (nI 2), .ref (a 0)]) (rest := [.ref p2, .int (nI (2)), .ref g1]) S (kP_init D cc p2 2 (a 0) H.size) (cwI 2 hts (gd_1 wm_41) rfl rfl rfl (hts _ wm_3) (hts _ wm_39) (hts _ wm_40) rfl (by decide +kernel) ⟨(Nat.le_of_ble_eq_true rfl), (Nat.le_of_ble_eq_true rfl)⟩) (mk_preI (P_left hPx) hE (D_left hDx)) rfl rfl hl.1 rfl (lv_room (Nat.le_of_ble_eq_true rfl)) dT_init_44 ⟨(Nat.le_of_ble_eq_true rfl), (Nat.le_of_ble_eq_true rfl)⟩) hPx hDx hS hA (fun b2 H locs hpo hP hD hS => ?_)
  rw [← hpo]
  have hP : va_P D vwCl (wR cc (a 0) b2 (initR 2) ++ (wR cc (a 0) b1 (initR 1) ++ (wR cc (a 0) b0 (initR 0) ++ (wL cc a initL ++ [(h0, .inr (2, [.ref (a 0), .ref g1])), (g1, .inl (cc 4, 3, .inr (.inr (.inr (.inr (va_up (va_up (fun _ => none) 0 (some (b0 0))) 1 (some (b1 0))))))))])))) H := hP
  have hD : va_D A (wR cc (a 0) b2 (initR 2) ++ (wR cc (a 0) b1 (initR 1) ++ (wR cc (a 0) b0 (initR 0) ++ (wL cc a initL ++ [(h0, .inr (2, [.ref (a 0), .ref g1])), (g1, .inl (cc 4, 3, .inr (.inr (.inr (.inr (va_up (va_up (fun _ => none) 0 (some (b0 0))) 1 (some (b1 0))))))))])))) := hD
  refine va_astq hx hb hK hP hD hS 38 4 0 1 rfl rfl rfl rfl (vp_in_nI (n := 2) (by decide) (by decide)) dT_init_47 (fun H locs hP hD hS => ?_)
  rw [nI_clamp (n := 2) (by decide)] at hP hD
  have hP : va_P D vwCl (wR cc (a 0) b2 (initR 2) ++ (wR cc (a 0) b1 (initR 1) ++ (wR cc (a 0) b0 (initR 0) ++ (wL cc a initL ++ [(h0, .inr (2, [.ref (a 0), .ref g1])), (g1, .inl (cc 4, 3, .inr (.inr (.inr (.inr (va_up (va_up (va_up (fun _ => none) 0 (some (b0 0))) 1 (some (b1 0))) 2 (some (b2 0))))))))])))) H := hP
  have hD : va_D A (wR cc (a 0) b2 (initR 2) ++ (wR cc (a 0) b1 (initR 1) ++ (wR cc (a 0) b0 (initR 0) ++ (wL cc a initL ++ [(h0, .inr (2, [.ref (a 0), .ref g1])), (g1, .inl (cc 4, 3, .inr (.inr (.inr (.inr (va_up (va_up (va_up (fun _ => none) 0 (some (b0 0))) 1 (some (b1 0))) 2 (some (b2 0))))))))])))) := hD
  refine lv_iinc (v := nI (3)) (lv' := [(1, .int (nI (3))), (0, .ref h0)]) hx hb dT_init_48 hl (k := 0) rfl (nI_1 2) (by decide) rfl (fun ls hl => ?_)
  refine lv_goto (tgt := 25) hx hb dT_init_51 (by decide) ?_
  refine lv_iload_n hx hb dT_init_25 rfl (lv_at hl 0 rfl) ?_
  refine lv_iconst (v := nI (3)) hx hb dT_init_26 (by decide) ?_
  refine r_ge (by decide) (by decide) (tgt := 54) hx hb dT_init_27 (by decide) (fun _ => ?_) (fun c_27 => absurd c_27 (by decide))
  have hP := hP.set (p := 38) (e := .inl (cc 4, 3, .inr (.inr (.inr (.inr (fun j => some (sel3 b0 b1 b2 j 0))))))) hD rfl (show va_at D vwCl (g1, .inl (cc 4, 3, .inr (.inr (.inr (.inr (fun j => some (sel3 b0 b1 b2 j 0))))))) H from (hP 38 _ rfl).trans (congrArg some (arr3 rfl rfl rfl))) (fun _ _ => rfl)
  have hD := hD.set (p := 38) (e := .inl (cc 4, 3, .inr (.inr (.inr (.inr (fun j => some (sel3 b0 b1 b2 j 0))))))) rfl
  exact kx _ _ _ _ (a, sel3 b0 b1 b2, fun k => [h0, g1].getD k 0) dT_init_54 hS hP hD rfl
