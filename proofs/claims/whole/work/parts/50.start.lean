/-! THE START: the tables' words, and the walk from the entry -/
theorem wk_0 : ∀ w ∈ wA0, w ∈ lw_tbl := by decide +kernel
theorem wk_1 : ∀ w ∈ wA1, w ∈ lw_tbl := by decide +kernel
theorem wk_2 : ∀ w ∈ wA2, w ∈ lw_tbl := by decide +kernel
theorem wk_3 : ∀ w ∈ wA3, w ∈ lw_tbl := by decide +kernel
theorem wk_4 : ∀ w ∈ wA4, w ∈ lw_tbl := by decide +kernel
theorem wk_5 : ∀ w ∈ wA5, w ∈ lw_tbl := by decide +kernel
theorem wk_6 : ∀ w ∈ wA6, w ∈ lw_tbl := by decide +kernel
theorem wk_7 : ∀ w ∈ wA7, w ∈ lw_tbl := by decide +kernel
theorem wk_8 : ∀ w ∈ wA8, w ∈ lw_tbl := by decide +kernel
theorem wk_9 : ∀ w ∈ wA9, w ∈ lw_tbl := by decide +kernel
theorem wk_all : ∀ w ∈ wAll, w ∈ lw_tbl := by
  unfold wAll
  exact List.forall_mem_append.mpr ⟨wk_0, List.forall_mem_append.mpr ⟨wk_1, List.forall_mem_append.mpr ⟨wk_2, List.forall_mem_append.mpr ⟨wk_3, List.forall_mem_append.mpr ⟨wk_4, List.forall_mem_append.mpr ⟨wk_5, List.forall_mem_append.mpr ⟨wk_6, List.forall_mem_append.mpr ⟨wk_7, List.forall_mem_append.mpr ⟨wk_8, wk_9⟩⟩⟩⟩⟩⟩⟩⟩⟩
theorem nk_all : ∀ t ∈ nwF, Cond.fieldLinkNest t.1 t.2.1 t.2.2.1 t.2.2.2.1 t.2.2.2.2 "TombstoneText" ∈ lw_tbl := by decide +kernel
theorem nk_ao : Cond.arrayOver (.array .int) ∈ lw_tbl := by decide +kernel
theorem nk_ao2 : Cond.arrayOver (.object RP) ∈ lw_tbl := by decide +kernel
theorem nk_ml : Cond.methodLinkNest RT 9 yL_init "TombstoneText" ∈ lw_tbl := by decide +kernel
theorem ar_cls {s : State} {args : Array Value} {ty : FieldType} (h : (Cond.arrayClass ty).before args s = true) : ∃ c : ClassId, ArrOfT s c ty ∧ s.vm.findClass ("[" ++ ty.toString) = some c := by
  obtain ⟨c, k, comp, h1, h2, h3⟩ := Cond.arrayClass_spec h
  exact ⟨c, fun n z => ⟨fun k h => (by cases h), k, h2, comp, h3⟩, h1⟩
theorem ar_ovr {s : State} {args : Array Value} {t : FieldType} (h : (Cond.arrayOver (.array t)).before args s = true) : ∃ c : ClassId, ArrOfT s c (.array t) ∧ s.vm.findClass ("[" ++ (FieldType.array t).toString) = some c := by
  have h : (Cond.arrayOver (.array t)).holds args s none s [] = true := h
  simp only [Cond.holds, Cond.value, beq_iff_eq] at h
  cases hc : s.vm.findClass (FieldType.array t).toString with
  | none => simp [hc] at h
  | some comp =>
    simp only [hc, Option.bind_some, Option.bind_eq_some_iff, Option.map_eq_some_iff] at h
    obtain ⟨c, hi, k, hk, hb⟩ := h
    cases hkind : k.kind with
    | array component ty =>
      rw [hkind] at hb
      simp at hb
      exact ⟨c, fun n z => ⟨fun k h => (by cases h), k, hk, component, by rw [← hb.1]; exact hkind⟩, hb.2⟩
    | _ => rw [hkind] at hb; simp at hb
theorem start_env {s : State} {b : Nat} (hts : ∀ w ∈ lw_tbl, w.before #[Value.ref b] s = true) : ∃ (D : va_G) (cc : Nat → ClassId), EN2 D cc s := by
  have ht : ∀ w ∈ wAll, w.before #[Value.ref b] s = true := fun w hw => hts w (wk_all w hw)
  obtain ⟨c0, iS0, hKn0⟩ := u_known (C := RL) (T := TL) (N := 8) (n := 8) ht in_L (ht _ wm_15)
  obtain ⟨c1, iS1, hKn1⟩ := u_known (C := RP) (T := TP) (N := 12) (n := 12) ht in_P (ht _ wm_38)
  obtain ⟨c2, iS2, hKn2⟩ := u_known (C := RT) (T := TT) (N := 2) (n := 2) ht in_T (ht _ wm_7)
  obtain ⟨c3, iS3, hKn3⟩ := u_known (C := RM) (T := TM) (N := 13) (n := 13) ht in_M (ht _ wm_238)
  obtain ⟨a0, A0, B0⟩ := ar_cls (ht _ wm_35)
  obtain ⟨a1, A1, B1⟩ := ar_cls (ht _ wm_68)
  obtain ⟨a2, A2, B2⟩ := ar_cls (ht _ wm_36)
  obtain ⟨a3, A3, B3⟩ := ar_ovr (hts _ nk_ao)
  obtain ⟨cp, a4, k4, f1, -, f3, f4, f5⟩ := Cond.arrayOver_spec (hts _ nk_ao2)
  refine ⟨(fun k => if k = 0 then c0 else if k = 1 then c1 else if k = 2 then c2 else c3, fun k => if k = 0 then iS0 else if k = 1 then iS1 else if k = 2 then iS2 else iS3), fun k => if k = 0 then a0 else if k = 1 then a1 else if k = 2 then a2 else if k = 3 then a3 else a4, ⟨⟨?_, ?_⟩, fun t h => va_Nw.of rfl (hts _ (nk_all t h)), fun w hw a => word_at (State.WarmedH.refl s) (wAll_ok hw) (ht w hw)⟩, hts _ nk_ao, va_AO.of (hts _ nk_ao2), va_Nw.of rfl (hts _ nk_ml)⟩
  · intro k q hq
    rcases (show k = 0 ∨ k = 1 ∨ k = 2 ∨ k = 3 ∨ 4 ≤ k by omega) with rfl | rfl | rfl | rfl | h4
    · cases hq; exact hKn0
    · cases hq; exact hKn1
    · cases hq; exact hKn2
    · cases hq; exact hKn3
    · rw [List.getElem?_eq_none (by simpa using h4)] at hq; cases hq
  · intro k q hq
    rcases (show k = 0 ∨ k = 1 ∨ k = 2 ∨ k = 3 ∨ k = 4 ∨ 5 ≤ k by omega) with rfl | rfl | rfl | rfl | rfl | h4
    · cases hq; exact ⟨A0, B0⟩
    · cases hq; exact ⟨A1, B1⟩
    · cases hq; exact ⟨A2, B2⟩
    · cases hq; exact ⟨A3, B3⟩
    · cases hq; exact ⟨fun n z => ⟨fun k h => (by cases h), k4, f3, cp, f4⟩, k4, cp, f3, f4, f1, f5⟩
    · rw [List.getElem?_eq_none (by simpa using h4)] at hq; cases hq
set_option maxHeartbeats 4000000 in
set_option maxRecDepth 100000 in
/-- YOUR PART: from the entry, for every script of at most 2048 ints, the law comes to its end with true -/
theorem whole_start {p : Program} {e : Env} {s : State} {m : MethodId} {below : List Frame} {meth : Method} {c : Code} (l : Launch) {b L : Nat} {xs : Nat → Int32} (hL : L ≤ 2048) (C0 : lw_At p s m meth c b L xs) : W p l e room_1 s m #[Value.ref b] below meth c s.heap [] 0 0 (lw_Z below #[Value.ref b] s) (entryFrame m ([Value.ref b] : List Value).toArray 4) := by
  obtain ⟨hx, hb, hr, hml, hown, hts0, hX, hbl, hlocks, hgv⟩ := id C0
  obtain ⟨D, cc, hE⟩ := start_env hts0
  have hts := hE.1.ts #[Value.ref b]
  have hK := hE.1.1
  have hA : ∀ q : Nat, s.heap.size ≤ q → (fun q : Nat => s.heap.size ≤ q) q := fun _ h => h
  have S : CallFix p m c code 4 s #[Value.ref b] wAll R_law := ⟨hx, hb, hml, hown, hts⟩
  have hS : va_S (fun q : Nat => s.heap.size ≤ q) s.heap s.heap [] := va_S.rf
  have hP : va_P D vwCl [] s.heap := fun k q h => by simp at h
  have hD : va_D (fun q : Nat => s.heap.size ≤ q) [] := ⟨fun i j p q h => by simp at h, fun k q h => by simp at h⟩
  have hl := lv_entry ([.ref b]) (n := 4) (Nat.le_of_ble_eq_true rfl)
  rw [lg_entry_eq]
  generalize (lg_sl ([.ref b]) ++ List.replicate (4 - (lg_sl ([.ref b])).length) Slot.unset).toArray = ls at hl ⊢
  have hl : lv_has ls 4 [(0, .ref b)] := hl
  refine va_new (ci := 2) (fs := [.null, .null]) (C := RT) (T := TT) (N := 2) hx hb hts in_T tyT tyT_ok hown (hts _ wm_6) (hts _ wm_7) (hts _ wm_1) hK hP hD hS hA rfl (fun j hj => by rcases (show j = 0 ∨ j = 1 by omega) with rfl | rfl <;> rfl) (Nat.le_of_ble_eq_true rfl) (Nat.le_of_ble_eq_true rfl) dW_0 (fun t0 H hP hD hS => ?_)
  have hP : va_P D vwCl ([(t0, .inr (2, [.null, .null]))] ++ []) H := hP
  have hD : va_D (fun q : Nat => s.heap.size ≤ q) ([(t0, .inr (2, [.null, .null]))] ++ []) := hD
  refine lv_dup hx hb dW_3 rfl ?_
  refine mk_callv (w2 := []) (va_runI (As := []) (rest := [.ref t0]) S (kT_init D cc t0 H.size) (cwI 0 hts (gd_1 wm_10) rfl rfl rfl (hts _ wm_1) (hts _ wm_8) (hts _ wm_9) rfl (by decide +kernel) ⟨(Nat.le_of_ble_eq_true rfl), (Nat.le_of_ble_eq_true rfl)⟩) (mk_preI (P_left hP) hE (D_left hD)) rfl rfl hl.1 rfl (lv_room (Nat.le_of_ble_eq_true rfl)) dW_4 ⟨(Nat.le_of_ble_eq_true rfl), (Nat.le_of_ble_eq_true rfl)⟩) hP hD hS hA (fun u H locs hpo hP hD hS => ?_)
  obtain ⟨a, bb, g⟩ := u
  have hpo : g 0 = t0 := hpo
  rw [← hpo]
  have hP : va_P D vwCl (wC cc a bb g initL initR) H := P_left hP
  have hD : va_D (fun q : Nat => s.heap.size ≤ q) (wC cc a bb g initL initR) := D_left hD
  refine lv_astore_n (lv' := [(1, .ref (g 0)), (0, .ref b)]) hx hb dW_7 rfl hl (by decide) rfl (fun ls hl => ?_)
  refine va_new (ci := 3) (fs := [.int (nI 0), .null, .null, .null, .null, .null, .null, .null, .null, .null, .int (nI 0), .null, .null]) (C := RM) (T := TM) (N := 13) hx hb hts in_M tyM tyM_ok hown (hts _ wm_237) (hts _ wm_238) (hts _ wm_4) hK hP hD hS hA rfl (fun j hj => by rcases (show j = 0 ∨ j = 1 ∨ j = 2 ∨ j = 3 ∨ j = 4 ∨ j = 5 ∨ j = 6 ∨ j = 7 ∨ j = 8 ∨ j = 9 ∨ j = 10 ∨ j = 11 ∨ j = 12 by omega) with rfl | rfl | rfl | rfl | rfl | rfl | rfl | rfl | rfl | rfl | rfl | rfl | rfl <;> rfl) (Nat.le_of_ble_eq_true rfl) (Nat.le_of_ble_eq_true rfl) dW_8 (fun q0 H hP hD hS => ?_)
  have hP := sw_P (w1 := wC cc a bb g initL initR) hP
  have hD := sw_D (w1 := wC cc a bb g initL initR) hD
  refine lv_dup hx hb dW_11 rfl ?_
  refine mk_callv (w2 := wC cc a bb g initL initR) (va_runI (As := []) (rest := [.ref q0]) S (kM_init D cc q0 H.size) (cwI 0 hts (gd_1 wm_241) rfl rfl rfl (hts _ wm_4) (hts _ wm_239) (hts _ wm_240) rfl (by decide +kernel) ⟨(Nat.le_of_ble_eq_true rfl), (Nat.le_of_ble_eq_true rfl)⟩) (mk_preI (P_left hP) hE (D_left hD)) rfl rfl hl.1 rfl (lv_room (Nat.le_of_ble_eq_true rfl)) dW_12 ⟨(Nat.le_of_ble_eq_true rfl), (Nat.le_of_ble_eq_true rfl)⟩) hP hD hS hA (fun q H locs hpo hP hD hS => ?_)
  have hpo : q 0 = q0 := hpo
  rw [← hpo]
  have hP := sw_P (w1 := wM cc q initM) hP
  have hD := sw_D (w1 := wM cc q initM) hD
  refine lv_astore_n (lv' := [(2, .ref (q 0)), (1, .ref (g 0)), (0, .ref b)]) hx hb dW_15 rfl hl (by decide) rfl (fun ls hl => ?_)
  refine lv_iconst (v := nI 0) hx hb dW_16 (by decide) ?_
  refine lv_istore_n (lv' := [(3, .int (nI 0)), (2, .ref (q 0)), (1, .ref (g 0)), (0, .ref b)]) hx hb dW_17 rfl hl (by decide) rfl (fun ls hl => ?_)
  exact law_loop pure_inv l hL C0 D cc a bb g q hE.1 (L + 5) 0 initL initR initM H locs ls (by omega) (by omega) inv_init hP hD hS (lv_sub hl [3, 2, 1, 0] rfl)
