def rmM_deliver : Room := { frames := 3, cells := 0, slots := 0, locals := 70 }
set_option maxHeartbeats 4000000 in
set_option maxRecDepth 100000 in
theorem kM_deliver {l : Launch} (D : va_G) (cc : Nat → ClassId) (q : Nat → Nat) (x : MS) (sz : Nat) (z1 z2 : Int32) (hl1 : ∀ k, k < x.nn → 1 ≤ x.line k) (hid : ∀ r o, r < 3 → o < x.nn → idlD x r o) (ok : okM x) : Met l yM_deliver wsM_deliver rmM_deliver (va_Pc [.ref (q 0), .int (z1), .int (z2)] (WP D cc (wM cc q x) sz)) (va_Qi (RM_deliver x z1 z2) (WQ D cc (va_A (wM cc q x) sz) (fun u : MS => wM cc q u)) (va_A (wM cc q x) sz)) 0 0 (va_A (wM cc q x) sz) := by
  refine wr_meti RM [.ref (q 0), .int (z1), .int (z2)] D cc (wM cc q x) sz (fun u : MS => wM cc q u) _ (by decide) rfl rfl (Nat.le_of_ble_eq_true rfl) (fun v _ _ => vp_nar_int v) ?_
  intro p e s m args below meth c Q A S hP hE hD hA kx ls hl
  obtain ⟨hx, hb, hml, hown, hts⟩ := id S
  have hK := hE.1
  have hts := hE.ts args
  have S : CallFix p m c cM_deliver 6 s args wAll RM := ⟨hx, hb, hml, hown, hts⟩
  have hS : va_S A s.heap s.heap [] := va_S.rf
  have hn := ok.n
  have hl : lv_has ls 6 [(0, .ref (q 0)), (1, .int (z1)), (2, .int (z2))] := hl
  refine lv_iload_n hx hb dM_deliver_0 rfl (lv_at hl 1 rfl) ?_
  refine W.callR (W.runS (As := [.int (z1)]) (rest := []) S (kM_isReplica ((z1))) (va_cwS 1 hts (gd_S wm_273 wm_274 wm_4 wm_275) rfl rfl rfl (by decide +kernel) ⟨Nat.le_of_ble_eq_true rfl, Nat.le_of_ble_eq_true rfl⟩) preT rfl rfl hl.1 rfl (lv_room (Nat.le_of_ble_eq_true rfl)) dM_deliver_1 ⟨Nat.le_of_ble_eq_true rfl, Nat.le_of_ble_eq_true rfl⟩) ?_
  refine W.eq (g2 := F0 m 4 ls [.int (bI (isRep ((z1))))]) rfl ?_
  refine r_eqB (tgt := 15) hx hb dM_deliver_4 (by decide) (fun c_4 => ?_) (fun c_4 => ?_)
  · refine lv_iconst (v := sI (0)) hx hb dM_deliver_15 (by decide) ?_
    exact kx _ _ _ _ _ (x) dM_deliver_16 hS hP hD (by first | exact Or.inl ⟨Or.inl c_4, sI_0, rfl⟩ | exact Or.inl ⟨Or.inr c_12, sI_0, rfl⟩)
  · obtain ⟨r, hr_r, rfl⟩ := isRep_of c_4
    refine lv_aload_n hx hb dM_deliver_7 rfl (lv_at hl 0 rfl) ?_
    refine lv_iload_n hx hb dM_deliver_8 rfl (lv_at hl 2 rfl) ?_
    refine W.callR (W.runV (As := [.int (z2)]) (rest := []) S (kM_isOperation D cc q x ((z2)) ok) (cwV 1 hts (gd_V wm_308 wm_309 wm_387 wm_4 wm_310) rfl rfl rfl (by decide +kernel) ⟨Nat.le_of_ble_eq_true rfl, Nat.le_of_ble_eq_true rfl⟩) (rd_preV (q0 := 0) hP hE rfl rfl) rfl rfl hl.1 rfl (lv_room (Nat.le_of_ble_eq_true rfl)) dM_deliver_9 ⟨Nat.le_of_ble_eq_true rfl, Nat.le_of_ble_eq_true rfl⟩) ?_
    refine W.eq (g2 := F0 m 12 ls [.int (bI (isOp x.nn ((z2))))]) rfl ?_
    refine r_neB (tgt := 17) hx hb dM_deliver_12 (by decide) (fun c_12 => ?_) (fun c_12 => ?_)
    · obtain ⟨o, ho_o, rfl⟩ := isOp_of c_12
      refine lv_aload_n hx hb dM_deliver_17 rfl (lv_at hl 0 rfl) ?_
      refine lv_iload_n hx hb dM_deliver_18 rfl (lv_at hl 1 rfl) ?_
      refine lv_iload_n hx hb dM_deliver_19 rfl (lv_at hl 2 rfl) ?_
      refine W.callR (W.runV (As := [.int (nI (r)), .int (nI (o))]) (rest := []) S (kM_has D cc q x (r) (o) (by omega) (by omega)) (cwV 2 hts (gd_V wm_285 wm_286 wm_382 wm_4 wm_287) rfl rfl rfl (by decide +kernel) ⟨Nat.le_of_ble_eq_true rfl, Nat.le_of_ble_eq_true rfl⟩) (rd_preV (q0 := 0) hP hE rfl rfl) rfl rfl hl.1 rfl (lv_room (Nat.le_of_ble_eq_true rfl)) dM_deliver_20 ⟨Nat.le_of_ble_eq_true rfl, Nat.le_of_ble_eq_true rfl⟩) ?_
      refine W.eq (g2 := F0 m 23 ls [.int (bI (x.app (100 * (r) + (o))))]) rfl ?_
      refine r_neB (tgt := 40) hx hb dM_deliver_23 (by decide) (fun c_23 => ?_) (fun c_23 => ?_)
      · refine lv_iconst (v := nI (0)) hx hb dM_deliver_40 (by decide) ?_
        exact kx _ _ _ _ _ (x) dM_deliver_41 hS hP hD (by first | exact Or.inr ⟨r, o, hr_r, rfl, ho_o, rfl, by rw [dlvM_old (Or.inl c_23)], by rw [dlvM_old (Or.inl c_23)]⟩ | exact Or.inr ⟨r, o, hr_r, rfl, ho_o, rfl, by rw [dlvM_old (Or.inr c_37)], by rw [dlvM_old (Or.inr c_37)]⟩)
      · refine lv_aload_n hx hb dM_deliver_26 rfl (lv_at hl 0 rfl) ?_
        refine va_get (D := D) (ci := 3) (v := .ref (q 8)) (C := RM) (T := TM) (N := 13) hx hb hts in_M hown hK hP 0 rfl rfl 8 (by decide) (hts _ wm_251) (fun _ h9 => h9) rfl dM_deliver_27 ?_
        refine lv_bipush (v := nI (100)) hx hb dM_deliver_30 (by decide) ?_
        refine lv_iload_n hx hb dM_deliver_32 rfl (lv_at hl 1 rfl) ?_
        refine r_mul hx hb dM_deliver_33 ?_
        refine lv_iload_n hx hb dM_deliver_34 rfl (lv_at hl 2 rfl) ?_
        refine r_add hx hb dM_deliver_35 ?_
        refine r_zald (q0 := 8) (t0 := 1) hx hb hK hP rfl rfl (by omega) (by decide) dM_deliver_36 ?_
        refine r_eqB (tgt := 42) hx hb dM_deliver_37 (by decide) (fun c_37 => ?_) (fun c_37 => ?_)
        · refine lv_aload_n hx hb dM_deliver_42 rfl (lv_at hl 0 rfl) ?_
          refine va_get (D := D) (ci := 3) (v := .ref (q 8)) (C := RM) (T := TM) (N := 13) hx hb hts in_M hown hK hP 0 rfl rfl 8 (by decide) (hts _ wm_251) (fun _ h9 => h9) rfl dM_deliver_43 ?_
          refine lv_bipush (v := nI (100)) hx hb dM_deliver_46 (by decide) ?_
          refine lv_iload_n hx hb dM_deliver_48 rfl (lv_at hl 1 rfl) ?_
          refine r_mul hx hb dM_deliver_49 ?_
          refine lv_iload_n hx hb dM_deliver_50 rfl (lv_at hl 2 rfl) ?_
          refine r_add hx hb dM_deliver_51 ?_
          refine lv_iconst (v := nI (1)) hx hb dM_deliver_52 (by decide) ?_
          refine r_top (y := bI (true)) (by decide) ?_
          refine r_zast x.wts (true) (q0 := 8) (t0 := 1) hx hb hK hP hD hS rfl rfl (by omega) (by decide) dM_deliver_53 (fun H locs hP hD hS => ?_)
          have hP : va_P D vwCl (wM cc q (mkM x.nn x.by_ x.line x.stp x.let_ x.oth x.clk x.app (va_up x.wts (100 * r + o) true) x.gon x.len x.txt x.spr)) H := hP
          have hD : va_D A (wM cc q (mkM x.nn x.by_ x.line x.stp x.let_ x.oth x.clk x.app (va_up x.wts (100 * r + o) true) x.gon x.len x.txt x.spr)) := hD
          have ok1 : okM (mkM x.nn x.by_ x.line x.stp x.let_ x.oth x.clk x.app (va_up x.wts (100 * r + o) true) x.gon x.len x.txt x.spr) := okM_st ok
          refine lv_iconst (v := nI (0)) hx hb dM_deliver_54 (by decide) ?_
          refine lv_istore_n (lv' := [(3, .int (nI (0))), (0, .ref (q 0)), (1, .int (nI (r))), (2, .int (nI (o)))]) hx hb dM_deliver_55 rfl hl (by decide) rfl (fun ls hl => ?_)
          have L59 : ∀ (n : Nat) (nc : Nat) (mo : Bool) (a : Nat → Bool) (w : Nat → Bool) (H : Heap) (locs : List Loc) (hP : va_P D vwCl (wM cc q (mkM x.nn x.by_ x.line x.stp x.let_ x.oth x.clk a w x.gon x.len x.txt x.spr)) H) (hD : va_D A (wM cc q (mkM x.nn x.by_ x.line x.stp x.let_ x.oth x.clk a w x.gon x.len x.txt x.spr))) (hS : va_S A s.heap H locs) (ls : Array Slot) (h2 : 0 < n) (h3 : dlPh (pasF x r x.app (va_up x.wts (100 * r + o) true) x.nn) x.app (va_up x.wts (100 * r + o) true) n mo a w nc), lv_has ls 6 [(0, .ref (q 0)), (1, .int (nI (r))), (2, .int (nI (o))), (3, .int (nI (nc))), (4, .int (bI (mo)))] → W p l e rmM_deliver s m args below meth c H locs 0 0 Q (F0 m 59 ls []) := by
            intro n
            induction n with
            | zero => intro nc mo a w H locs hP hD hS ls h2 h3 hl; exact absurd h2 (Nat.not_lt_zero _)
            | succ n ih =>
              intro nc mo a w H locs hP hD hS ls h2 h3 hl
              have ok2 : okM (mkM x.nn x.by_ x.line x.stp x.let_ x.oth x.clk a w x.gon x.len x.txt x.spr) := okM_st ok
              refine lv_iload hx hb dM_deliver_59 (lv_at hl 4 rfl) ?_
              refine r_eqB (tgt := 145) hx hb dM_deliver_61 (by decide) (fun c_61 => ?_) (fun c_61 => ?_)
              · refine lv_iload_n hx hb dM_deliver_145 rfl (lv_at hl 3 rfl) ?_
                exact kx _ _ _ _ _ (mkM x.nn x.by_ x.line x.stp x.let_ x.oth x.clk a w x.gon x.len x.txt x.spr) dM_deliver_146 hS hP hD (Or.inr ⟨r, o, hr_r, rfl, ho_o, rfl, by rw [dlvM_new c_23 c_37]; exact congrArg nI (dl_end h3 c_61).2.2, by rw [dlvM_new c_23 c_37]; exact (dl_st h3 c_61)⟩)
              · have L70 : ∀ (n : Nat) (c2 : Nat) (m2 : Bool) (k : Nat) (H : Heap) (locs : List Loc) (hP : va_P D vwCl (wM cc q (mkM x.nn x.by_ x.line x.stp x.let_ x.oth x.clk ((pasF x r a w k).1) ((pasF x r a w k).2.1) x.gon x.len x.txt x.spr)) H) (hD : va_D A (wM cc q (mkM x.nn x.by_ x.line x.stp x.let_ x.oth x.clk ((pasF x r a w k).1) ((pasF x r a w k).2.1) x.gon x.len x.txt x.spr))) (hS : va_S A s.heap H locs) (ls : Array Slot) (h4 : k ≤ x.nn) (h5 : x.nn - k < n) (g1 : c2 = nc + (pasF x r a w k).2.2) (g2 : m2 = decide (0 < (pasF x r a w k).2.2)), lv_has ls 6 [(0, .ref (q 0)), (1, .int (nI (r))), (2, .int (nI (o))), (3, .int (nI (c2))), (4, .int (bI (m2))), (5, .int (nI (k)))] → W p l e rmM_deliver s m args below meth c H locs 0 0 Q (F0 m 70 ls []) := by
                  intro n
                  induction n with
                  | zero => intro c2 m2 k H locs hP hD hS ls h4 h5 g1 g2 hl; exact absurd h5 (Nat.not_lt_zero _)
                  | succ n ih2 =>
                    intro c2 m2 k H locs hP hD hS ls h4 h5 g1 g2 hl
                    have ok3 : okM (mkM x.nn x.by_ x.line x.stp x.let_ x.oth x.clk ((pasF x r a w k).1) ((pasF x r a w k).2.1) x.gon x.len x.txt x.spr) := okM_st ok
                    refine lv_iload hx hb dM_deliver_70 (lv_at hl 5 rfl) ?_
                    refine lv_aload_n hx hb dM_deliver_72 rfl (lv_at hl 0 rfl) ?_
                    refine va_get (D := D) (ci := 3) (v := .int (nI (x.nn))) (C := RM) (T := TM) (N := 13) hx hb hts in_M hown hK hP 0 rfl rfl 0 (by decide) (hts _ wm_243) (fun _ h9 => h9) rfl dM_deliver_73 ?_
                    refine r_ge (by omega) (Nat.lt_of_le_of_lt ok3.n (by decide)) (tgt := 142) hx hb dM_deliver_76 (by decide) (fun c_76 => ?_) (fun c_76 => ?_)
                    · obtain rfl : k = x.nn := by omega
                      refine lv_goto (tgt := 59) hx hb dM_deliver_142 (by decide) ?_
                      exact ih  (c2) (m2) ((pasF x r a w x.nn).1) ((pasF x r a w x.nn).2.1) H locs hP hD hS ls (by first | decide | exact dl_pos (dl_step (hid r o hr_r ho_o) c_23 c_37 h3 c_61)) (by first | exact Or.inr (Or.inr ⟨rfl, rfl, rfl, rfl, Nat.le_refl 3⟩) | (rw [g1, g2]; exact dl_step (hid r o hr_r ho_o) c_23 c_37 h3 c_61)) (lv_sub hl [0, 1, 2, 3, 4] rfl)
                    · refine lv_aload_n hx hb dM_deliver_79 rfl (lv_at hl 0 rfl) ?_
                      refine va_get (D := D) (ci := 3) (v := .ref (q 8)) (C := RM) (T := TM) (N := 13) hx hb hts in_M hown hK hP 0 rfl rfl 8 (by decide) (hts _ wm_251) (fun _ h9 => h9) rfl dM_deliver_80 ?_
                      refine lv_bipush (v := nI (100)) hx hb dM_deliver_83 (by decide) ?_
                      refine lv_iload_n hx hb dM_deliver_85 rfl (lv_at hl 1 rfl) ?_
                      refine r_mul hx hb dM_deliver_86 ?_
                      refine lv_iload hx hb dM_deliver_87 (lv_at hl 5 rfl) ?_
                      refine r_add hx hb dM_deliver_89 ?_
                      refine r_zald (q0 := 8) (t0 := 1) hx hb hK hP rfl rfl (by omega) (by decide) dM_deliver_90 ?_
                      refine r_eqB (tgt := 136) hx hb dM_deliver_91 (by decide) (fun c_91 => ?_) (fun c_91 => ?_)
                      · refine lv_iinc (v := nI (k + 1)) (lv' := [(5, .int (nI (k + 1))), (0, .ref (q 0)), (1, .int (nI (r))), (2, .int (nI (o))), (3, .int (nI (c2))), (4, .int (bI (m2)))]) hx hb dM_deliver_136 hl (k := 5) rfl (nI_1 _) (by decide) rfl (fun ls hl => ?_)
                        refine lv_goto (tgt := 70) hx hb dM_deliver_139 (by decide) ?_
                        have hP : va_P D vwCl (wM cc q (mkM x.nn x.by_ x.line x.stp x.let_ x.oth x.clk ((pasF x r a w (k + 1)).1) ((pasF x r a w (k + 1)).2.1) x.gon x.len x.txt x.spr)) H := by first | (rw [pasF_t c_91 c_101]; exact hP) | (rw [pasF_f1 c_91]; exact hP) | (rw [pasF_f2 c_101]; exact hP)
                        have hD : va_D A (wM cc q (mkM x.nn x.by_ x.line x.stp x.let_ x.oth x.clk ((pasF x r a w (k + 1)).1) ((pasF x r a w (k + 1)).2.1) x.gon x.len x.txt x.spr)) := by first | (rw [pasF_t c_91 c_101]; exact hD) | (rw [pasF_f1 c_91]; exact hD) | (rw [pasF_f2 c_101]; exact hD)
                        exact ih2  (c2) (m2) (k + 1) H locs hP hD hS ls (by omega) (by omega) (by first | rfl | (rw [pasF_t c_91 c_101, g1]; rfl) | (rw [pasF_f1 c_91]; exact g1) | (rw [pasF_f2 c_101]; exact g1)) (by first | rfl | (rw [pasF_t c_91 c_101]; exact (decide_eq_true (Nat.succ_pos _)).symm) | (rw [pasF_f1 c_91]; exact g2) | (rw [pasF_f2 c_101]; exact g2)) (lv_sub hl [1, 2, 3, 4, 5, 0] rfl)
                      · refine lv_aload_n hx hb dM_deliver_94 rfl (lv_at hl 0 rfl) ?_
                        refine lv_iload_n hx hb dM_deliver_95 rfl (lv_at hl 1 rfl) ?_
                        refine lv_iload hx hb dM_deliver_96 (lv_at hl 5 rfl) ?_
                        refine W.callR (W.runV (As := [.int (nI (r)), .int (nI (k))]) (rest := []) S (kM_ready D cc q (mkM x.nn x.by_ x.line x.stp x.let_ x.oth x.clk ((pasF x r a w k).1) ((pasF x r a w k).2.1) x.gon x.len x.txt x.spr) (r) (k) (by omega) (by omega) (hl1 _ (by omega)) ok3) (cwV 2 hts (gd_V wm_311 wm_312 wm_388 wm_4 wm_313) rfl rfl rfl (by decide +kernel) ⟨Nat.le_of_ble_eq_true rfl, Nat.le_of_ble_eq_true rfl⟩) (rd_preV (q0 := 0) hP hE rfl rfl) rfl rfl hl.1 rfl (lv_room (Nat.le_of_ble_eq_true rfl)) dM_deliver_98 ⟨Nat.le_of_ble_eq_true rfl, Nat.le_of_ble_eq_true rfl⟩) ?_
                        refine W.eq (g2 := F0 m 101 ls [.int (bI (rdyM (mkM x.nn x.by_ x.line x.stp x.let_ x.oth x.clk ((pasF x r a w k).1) ((pasF x r a w k).2.1) x.gon x.len x.txt x.spr) (r) (k) 3))]) rfl ?_
                        refine r_eqB (tgt := 136) hx hb dM_deliver_101 (by decide) (fun c_101 => ?_) (fun c_101 => ?_)
                        · refine lv_iinc (v := nI (k + 1)) (lv' := [(5, .int (nI (k + 1))), (0, .ref (q 0)), (1, .int (nI (r))), (2, .int (nI (o))), (3, .int (nI (c2))), (4, .int (bI (m2)))]) hx hb dM_deliver_136 hl (k := 5) rfl (nI_1 _) (by decide) rfl (fun ls hl => ?_)
                          refine lv_goto (tgt := 70) hx hb dM_deliver_139 (by decide) ?_
                          have hP : va_P D vwCl (wM cc q (mkM x.nn x.by_ x.line x.stp x.let_ x.oth x.clk ((pasF x r a w (k + 1)).1) ((pasF x r a w (k + 1)).2.1) x.gon x.len x.txt x.spr)) H := by first | (rw [pasF_t c_91 c_101]; exact hP) | (rw [pasF_f1 c_91]; exact hP) | (rw [pasF_f2 c_101]; exact hP)
                          have hD : va_D A (wM cc q (mkM x.nn x.by_ x.line x.stp x.let_ x.oth x.clk ((pasF x r a w (k + 1)).1) ((pasF x r a w (k + 1)).2.1) x.gon x.len x.txt x.spr)) := by first | (rw [pasF_t c_91 c_101]; exact hD) | (rw [pasF_f1 c_91]; exact hD) | (rw [pasF_f2 c_101]; exact hD)
                          exact ih2  (c2) (m2) (k + 1) H locs hP hD hS ls (by omega) (by omega) (by first | rfl | (rw [pasF_t c_91 c_101, g1]; rfl) | (rw [pasF_f1 c_91]; exact g1) | (rw [pasF_f2 c_101]; exact g1)) (by first | rfl | (rw [pasF_t c_91 c_101]; exact (decide_eq_true (Nat.succ_pos _)).symm) | (rw [pasF_f1 c_91]; exact g2) | (rw [pasF_f2 c_101]; exact g2)) (lv_sub hl [1, 2, 3, 4, 5, 0] rfl)
                        · refine lv_aload_n hx hb dM_deliver_104 rfl (lv_at hl 0 rfl) ?_
                          refine va_get (D := D) (ci := 3) (v := .ref (q 8)) (C := RM) (T := TM) (N := 13) hx hb hts in_M hown hK hP 0 rfl rfl 8 (by decide) (hts _ wm_251) (fun _ h9 => h9) rfl dM_deliver_105 ?_
                          refine lv_bipush (v := nI (100)) hx hb dM_deliver_108 (by decide) ?_
                          refine lv_iload_n hx hb dM_deliver_110 rfl (lv_at hl 1 rfl) ?_
                          refine r_mul hx hb dM_deliver_111 ?_
                          refine lv_iload hx hb dM_deliver_112 (lv_at hl 5 rfl) ?_
                          refine r_add hx hb dM_deliver_114 ?_
                          refine lv_iconst (v := nI (0)) hx hb dM_deliver_115 (by decide) ?_
                          refine r_top (y := bI (false)) (by decide) ?_
                          refine r_zast (((pasF x r a w k).2.1)) (false) (q0 := 8) (t0 := 1) hx hb hK hP hD hS rfl rfl (by omega) (by decide) dM_deliver_116 (fun H locs hP hD hS => ?_)
                          have hP : va_P D vwCl (wM cc q (mkM x.nn x.by_ x.line x.stp x.let_ x.oth x.clk ((pasF x r a w k).1) (va_up (pasF x r a w k).2.1 (100 * r + k) false) x.gon x.len x.txt x.spr)) H := hP
                          have hD : va_D A (wM cc q (mkM x.nn x.by_ x.line x.stp x.let_ x.oth x.clk ((pasF x r a w k).1) (va_up (pasF x r a w k).2.1 (100 * r + k) false) x.gon x.len x.txt x.spr)) := hD
                          refine lv_aload_n hx hb dM_deliver_117 rfl (lv_at hl 0 rfl) ?_
                          refine va_get (D := D) (ci := 3) (v := .ref (q 7)) (C := RM) (T := TM) (N := 13) hx hb hts in_M hown hK hP 0 rfl rfl 7 (by decide) (hts _ wm_250) (fun _ h9 => h9) rfl dM_deliver_118 ?_
                          refine lv_bipush (v := nI (100)) hx hb dM_deliver_121 (by decide) ?_
                          refine lv_iload_n hx hb dM_deliver_123 rfl (lv_at hl 1 rfl) ?_
                          refine r_mul hx hb dM_deliver_124 ?_
                          refine lv_iload hx hb dM_deliver_125 (lv_at hl 5 rfl) ?_
                          refine r_add hx hb dM_deliver_127 ?_
                          refine lv_iconst (v := nI (1)) hx hb dM_deliver_128 (by decide) ?_
                          refine r_top (y := bI (true)) (by decide) ?_
                          refine r_zast (((pasF x r a w k).1)) (true) (q0 := 7) (t0 := 1) hx hb hK hP hD hS rfl rfl (by omega) (by decide) dM_deliver_129 (fun H locs hP hD hS => ?_)
                          have hP : va_P D vwCl (wM cc q (mkM x.nn x.by_ x.line x.stp x.let_ x.oth x.clk (va_up (pasF x r a w k).1 (100 * r + k) true) (va_up (pasF x r a w k).2.1 (100 * r + k) false) x.gon x.len x.txt x.spr)) H := hP
                          have hD : va_D A (wM cc q (mkM x.nn x.by_ x.line x.stp x.let_ x.oth x.clk (va_up (pasF x r a w k).1 (100 * r + k) true) (va_up (pasF x r a w k).2.1 (100 * r + k) false) x.gon x.len x.txt x.spr)) := hD
                          refine lv_iinc (v := nI (c2 + 1)) (lv' := [(3, .int (nI (c2 + 1))), (0, .ref (q 0)), (1, .int (nI (r))), (2, .int (nI (o))), (4, .int (bI (m2))), (5, .int (nI (k)))]) hx hb dM_deliver_130 hl (k := 3) rfl (nI_1 _) (by decide) rfl (fun ls hl => ?_)
                          refine lv_iconst (v := bI (true)) hx hb dM_deliver_133 (by decide) ?_
                          refine lv_istore (lv' := [(4, .int (bI (true))), (3, .int (nI (c2 + 1))), (0, .ref (q 0)), (1, .int (nI (r))), (2, .int (nI (o))), (5, .int (nI (k)))]) hx hb dM_deliver_134 hl (by decide) rfl (fun ls hl => ?_)
                          refine lv_iinc (v := nI (k + 1)) (lv' := [(5, .int (nI (k + 1))), (4, .int (bI (true))), (3, .int (nI (c2 + 1))), (0, .ref (q 0)), (1, .int (nI (r))), (2, .int (nI (o)))]) hx hb dM_deliver_136 hl (k := 5) rfl (nI_1 _) (by decide) rfl (fun ls hl => ?_)
                          refine lv_goto (tgt := 70) hx hb dM_deliver_139 (by decide) ?_
                          have hP : va_P D vwCl (wM cc q (mkM x.nn x.by_ x.line x.stp x.let_ x.oth x.clk ((pasF x r a w (k + 1)).1) ((pasF x r a w (k + 1)).2.1) x.gon x.len x.txt x.spr)) H := by first | (rw [pasF_t c_91 c_101]; exact hP) | (rw [pasF_f1 c_91]; exact hP) | (rw [pasF_f2 c_101]; exact hP)
                          have hD : va_D A (wM cc q (mkM x.nn x.by_ x.line x.stp x.let_ x.oth x.clk ((pasF x r a w (k + 1)).1) ((pasF x r a w (k + 1)).2.1) x.gon x.len x.txt x.spr)) := by first | (rw [pasF_t c_91 c_101]; exact hD) | (rw [pasF_f1 c_91]; exact hD) | (rw [pasF_f2 c_101]; exact hD)
                          exact ih2  (c2 + 1) (true) (k + 1) H locs hP hD hS ls (by omega) (by omega) (by first | rfl | (rw [pasF_t c_91 c_101, g1]; rfl) | (rw [pasF_f1 c_91]; exact g1) | (rw [pasF_f2 c_101]; exact g1)) (by first | rfl | (rw [pasF_t c_91 c_101]; exact (decide_eq_true (Nat.succ_pos _)).symm) | (rw [pasF_f1 c_91]; exact g2) | (rw [pasF_f2 c_101]; exact g2)) (lv_sub hl [3, 4, 5, 2, 1, 0] rfl)
                refine lv_iconst (v := bI (false)) hx hb dM_deliver_64 (by decide) ?_
                refine lv_istore (lv' := [(4, .int (bI (false))), (0, .ref (q 0)), (1, .int (nI (r))), (2, .int (nI (o))), (3, .int (nI (nc)))]) hx hb dM_deliver_65 hl (by decide) rfl (fun ls hl => ?_)
                refine lv_iconst (v := nI (0)) hx hb dM_deliver_67 (by decide) ?_
                refine lv_istore (lv' := [(5, .int (nI (0))), (4, .int (bI (false))), (0, .ref (q 0)), (1, .int (nI (r))), (2, .int (nI (o))), (3, .int (nI (nc)))]) hx hb dM_deliver_68 hl (by decide) rfl (fun ls hl => ?_)
                exact L70 (x.nn + 1) (nc) (false) (0) H locs hP hD hS ls (by omega) (by omega) (by first | rfl | (rw [pasF_t c_91 c_101, g1]; rfl) | (rw [pasF_f1 c_91]; exact g1) | (rw [pasF_f2 c_101]; exact g1)) (by first | rfl | (rw [pasF_t c_91 c_101]; exact (decide_eq_true (Nat.succ_pos _)).symm) | (rw [pasF_f1 c_91]; exact g2) | (rw [pasF_f2 c_101]; exact g2)) (lv_sub hl [2, 3, 4, 5, 1, 0] rfl)
          refine lv_iconst (v := bI (true)) hx hb dM_deliver_56 (by decide) ?_
          refine lv_istore (lv' := [(4, .int (bI (true))), (3, .int (nI (0))), (0, .ref (q 0)), (1, .int (nI (r))), (2, .int (nI (o)))]) hx hb dM_deliver_57 hl (by decide) rfl (fun ls hl => ?_)
          exact L59 (3) (0) (true) (x.app) (va_up x.wts (100 * r + o) true) H locs hP hD hS ls (by first | decide | exact dl_pos (dl_step (hid r o hr_r ho_o) c_23 c_37 h3 c_61)) (by first | exact Or.inr (Or.inr ⟨rfl, rfl, rfl, rfl, Nat.le_refl 3⟩) | (rw [g1, g2]; exact dl_step (hid r o hr_r ho_o) c_23 c_37 h3 c_61)) (lv_sub hl [2, 3, 4, 1, 0] rfl)
        · refine lv_iconst (v := nI (0)) hx hb dM_deliver_40 (by decide) ?_
          exact kx _ _ _ _ _ (x) dM_deliver_41 hS hP hD (by first | exact Or.inr ⟨r, o, hr_r, rfl, ho_o, rfl, by rw [dlvM_old (Or.inl c_23)], by rw [dlvM_old (Or.inl c_23)]⟩ | exact Or.inr ⟨r, o, hr_r, rfl, ho_o, rfl, by rw [dlvM_old (Or.inr c_37)], by rw [dlvM_old (Or.inr c_37)]⟩)
    · refine lv_iconst (v := sI (0)) hx hb dM_deliver_15 (by decide) ?_
      exact kx _ _ _ _ _ (x) dM_deliver_16 hS hP hD (by first | exact Or.inl ⟨Or.inl c_4, sI_0, rfl⟩ | exact Or.inl ⟨Or.inr c_12, sI_0, rfl⟩)
