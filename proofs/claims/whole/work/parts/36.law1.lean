section LWR
variable {p : Program} {l : Launch} {e : Env} {R : Room} {s : State} {m : MethodId} {args : Array Value} {below : List Frame} {meth : Method} {c : Code} {H : Heap} {locs : List Loc} {cells slots : Nat} {Q : State → Prop} {cc : ByteArray} {pc : Nat} {ls : Array Slot} {rest : List Value} {A : Nat → Prop} {H0 : Heap}
theorem r_sld {b L k : Nat} {xs : Nat → Int32} (hk : k < L) (hn : L < 2 ^ 31) (hx : p.tables.exec = Jvm.exec) (hb : c.code = cc) (hX : va_X b L xs s H0) (hbl : b < H0.size) (hbA : ¬ A b) (hS : va_S A H0 H locs) (hdg : decode cc pc = .ok (.iaload, 1))
    (kk : W p l e R s m args below meth c H locs cells slots Q (F0 m (pc + 1) ls (.int (xs k) :: rest))) : W p l e R s m args below meth c H locs cells slots Q (F0 m pc ls (.int (nI k) :: .ref b :: rest)) :=
  va_sld hx hb hX hbl hbA hS (vp_in_nI hk hn) hdg (by rw [nI_clamp (Nat.lt_trans hk hn)]; exact kk)
end LWR
theorem law_in {i L : Nat} (hL : L < 2 ^ 30) (hi : i < 2 ^ 30) (h : ¬ Int32.ofNat L - nI 4 < nI i) : i + 4 ≤ L := by
  have e : (Int32.ofNat L - nI 4).toInt = (L : Int) - 4 := pk_sub_toInt (a := L) (b := 4) hL (by decide)
  have e2 : (nI i).toInt = (i : Int) := nI_toInt (by omega)
  rw [Int32.lt_iff_toInt_lt, e, e2] at h
  omega
set_option maxHeartbeats 4000000 in
set_option maxRecDepth 100000 in
theorem law_0 {INV : LgS → (Nat → RpS) → MS → Prop} (HP : PureP INV) {p : Program} {e : Env} {s : State} {m : MethodId} {below : List Frame} {meth : Method} {c : Code} (l : Launch) {b L : Nat} {xs : Nat → Int32} (hL : L ≤ 2048) (C0 : lw_At p s m meth c b L xs) (D : va_G) (cc : Nat → ClassId) (a : Nat → Nat) (bb : Nat → Nat → Nat) (g q : Nat → Nat) (hE : EN D cc s) {i : Nat} (hi : i + 4 ≤ L) (kk : ∀ (x : LgS) (y : Nat → RpS) (u : MS) (H : Heap) (locs : List Loc) (ls : Array Slot), INV x y u → va_P D vwCl (wC cc a bb g x y ++ wM cc q u) H → va_D (fun q : Nat => s.heap.size ≤ q) (wC cc a bb g x y ++ wM cc q u) → va_S (fun q : Nat => s.heap.size ≤ q) s.heap H locs → lv_has ls 4 [(0, .ref b), (1, .ref (g 0)), (2, .ref (q 0)), (3, .int (nI i))] → W p l e room_1 s m #[Value.ref b] below meth c H locs 51 4298 (lw_Z below #[Value.ref b] s) (F0 m 555 ls [])) (x : LgS) (y : Nat → RpS) (u : MS) (H : Heap) (locs : List Loc) (ls : Array Slot) (hI : INV x y u) (hP : va_P D vwCl (wC cc a bb g x y ++ wM cc q u) H) (hD : va_D (fun q : Nat => s.heap.size ≤ q) (wC cc a bb g x y ++ wM cc q u)) (hS : va_S (fun q : Nat => s.heap.size ≤ q) s.heap H locs) (hl : lv_has ls 4 [(0, .ref b), (1, .ref (g 0)), (2, .ref (q 0)), (3, .int (nI i))]) : W p l e room_1 s m #[Value.ref b] below meth c H locs 51 4298 (lw_Z below #[Value.ref b] s) (F0 m 108 ls []) := by
  obtain ⟨hx, hb, hr0, hml, hown, hts0, hX, hbl, hlocks, hgv⟩ := id C0
  have hA : ∀ q : Nat, s.heap.size ≤ q → (fun q : Nat => s.heap.size ≤ q) q := fun _ h => h
  have hbA : ¬ (fun q : Nat => s.heap.size ≤ q) b := Nat.not_le.mpr hbl
  have hts := hE.ts #[Value.ref b]
  have S : CallFix p m c code 4 s #[Value.ref b] wAll R_law := ⟨hx, hb, hml, hown, hts⟩
  obtain ⟨h_init, h_base, h_ins, h_ers, h_dlv, h_syn, h_col, h_len, h_at, h_pos, h_sam, h_cnt, h_stp, h_knw, h_stb, h_kpt, h_wai, h_up⟩ := id HP
  obtain ⟨hBC, hBM⟩ := h_base x y u hI
  obtain ⟨ok, hel, ht, hp1, hRr, hdv, hsy, hpl⟩ := hBC
  obtain ⟨okm, hpar, hg9, hl1, hid, hsyM, xs9, hxs⟩ := hBM
  obtain ⟨r, hr, hz⟩ := rsel (xs (i + 1))
  obtain ⟨kr, hgs, hkc, hsn, hdr⟩ := hRr r hr
  have hk : ((xs (i + 3)).toBitVec.toNat % 65536) < 65536 := Nat.mod_lt _ (by decide)
  have hq := fun p => fun hp : p ≤ (y r).tl => hpl r hr ((xs (i + 3)).toBitVec.toNat % 65536) p hp
  have hq2 : ∀ p, ∃ ib kp, p ≤ (y r).tl → plP (rec5 x (y r).self ((y r).gs + 1) (befR (y r) p) ((xs (i + 3)).toBitVec.toNat % 65536) ((y r).seen (y r).self)) x.cnt ib kp := fun p => by
    by_cases hp : p ≤ (y r).tl
    · obtain ⟨ib, kp, h⟩ := hq p hp; exact ⟨ib, kp, fun _ => h⟩
    · exact ⟨0, 0, fun h => absurd h hp⟩
  obtain ⟨ib, hib⟩ : ∃ ib : Nat → Nat, ∀ p, ∃ kp, p ≤ (y r).tl → plP (rec5 x (y r).self ((y r).gs + 1) (befR (y r) p) ((xs (i + 3)).toBitVec.toNat % 65536) ((y r).seen (y r).self)) x.cnt (ib p) kp := ⟨fun p => Classical.choose (hq2 p), fun p => Classical.choose_spec (hq2 p)⟩
  obtain ⟨kp, hkp⟩ : ∃ kp : Nat → Nat, ∀ p, p ≤ (y r).tl → plP (rec5 x (y r).self ((y r).gs + 1) (befR (y r) p) ((xs (i + 3)).toBitVec.toNat % 65536) ((y r).seen (y r).self)) x.cnt (ib p) (kp p) := ⟨fun p => Classical.choose (hib p), fun p => Classical.choose_spec (hib p)⟩
  refine lv_aload_n hx hb dW_108 rfl (lv_at hl 1 rfl) ?_
  refine lv_aload_n hx hb dW_109 rfl (lv_at hl 0 rfl) ?_
  refine lv_iload_n hx hb dW_110 rfl (lv_at hl 3 rfl) ?_
  refine lv_iconst (v := nI (1)) hx hb dW_111 (by decide) ?_
  refine r_add hx hb dW_112 ?_
  refine r_sld (k := i + 1) (by omega) (by omega) hx hb hX hbl hbA hS dW_113 ?_
  refine lv_aload_n hx hb dW_114 rfl (lv_at hl 0 rfl) ?_
  refine lv_iload_n hx hb dW_115 rfl (lv_at hl 3 rfl) ?_
  refine lv_iconst (v := nI (2)) hx hb dW_116 (by decide) ?_
  refine r_add hx hb dW_117 ?_
  refine r_sld (k := i + 2) (by omega) (by omega) hx hb hX hbl hbA hS dW_118 ?_
  refine lv_aload_n hx hb dW_119 rfl (lv_at hl 0 rfl) ?_
  refine lv_iload_n hx hb dW_120 rfl (lv_at hl 3 rfl) ?_
  refine lv_iconst (v := nI (3)) hx hb dW_121 (by decide) ?_
  refine r_add hx hb dW_122 ?_
  refine r_sld (k := i + 3) (by omega) (by omega) hx hb hX hbl hbA hS dW_123 ?_
  refine lv_i2c (v := nI ((xs (i + 3)).toBitVec.toNat % 65536)) hx hb dW_124 (pk_char _) ?_
  have hPx := pm_P hr hP
  have hDx := pm_D hr hD
  refine wr_calli (w2 := wO cc (a 0) bb y r ++ wM cc q u) (va_runV (As := [.int (xs (i + 1)), .int (xs (i + 2)), .int (nI ((xs (i + 3)).toBitVec.toNat % 65536))]) (rest := []) S (kT_insert D cc a (bb r) g (fun r => bb r 0) x (y r) H.size r hr rfl (xs (i + 1)) (xs (i + 2)) ((xs (i + 3)).toBitVec.toNat % 65536) hk hz hel hgs hkc hsn ib kp hkp ok kr) (cwV 3 hts (gd_V wm_73 wm_74 wm_75 wm_1 wm_76) rfl rfl rfl (by decide +kernel) ⟨(Nat.le_of_ble_eq_true rfl), (Nat.le_of_ble_eq_true rfl)⟩) (wr_preV (q0 := 17) (P_left hPx) hE (D_left hDx) rfl rfl) rfl rfl hl.1 rfl (lv_room (Nat.le_of_ble_eq_true rfl)) dW_125 ⟨(Nat.le_of_ble_eq_true rfl), (Nat.le_of_ble_eq_true rfl)⟩) hPx hDx hS hA (fun v w H locs hrc hP hD hS => ?_)
  have hP := pm_P' hr hP
  have hD := pm_D' hr hD
  refine lv_aload_n hx hb dW_128 rfl (lv_at hl 2 rfl) ?_
  refine lv_aload_n hx hb dW_129 rfl (lv_at hl 0 rfl) ?_
  refine lv_iload_n hx hb dW_130 rfl (lv_at hl 3 rfl) ?_
  refine lv_iconst (v := nI (1)) hx hb dW_131 (by decide) ?_
  refine r_add hx hb dW_132 ?_
  refine r_sld (k := i + 1) (by omega) (by omega) hx hb hX hbl hbA hS dW_133 ?_
  refine lv_aload_n hx hb dW_134 rfl (lv_at hl 0 rfl) ?_
  refine lv_iload_n hx hb dW_135 rfl (lv_at hl 3 rfl) ?_
  refine lv_iconst (v := nI (2)) hx hb dW_136 (by decide) ?_
  refine r_add hx hb dW_137 ?_
  refine r_sld (k := i + 2) (by omega) (by omega) hx hb hX hbl hbA hS dW_138 ?_
  refine lv_aload_n hx hb dW_139 rfl (lv_at hl 0 rfl) ?_
  refine lv_iload_n hx hb dW_140 rfl (lv_at hl 3 rfl) ?_
  refine lv_iconst (v := nI (3)) hx hb dW_141 (by decide) ?_
  refine r_add hx hb dW_142 ?_
  refine r_sld (k := i + 3) (by omega) (by omega) hx hb hX hbl hbA hS dW_143 ?_
  refine lv_i2c (v := nI ((xs (i + 3)).toBitVec.toNat % 65536)) hx hb dW_144 (pk_char _) ?_
  have hPy := sw_P hP
  have hDy := sw_D hD
  refine wr_calli (w2 := wC cc a bb g w.1 (va_up y r w.2)) (va_runV (As := [.int (xs (i + 1)), .int (xs (i + 2)), .int (nI ((xs (i + 3)).toBitVec.toNat % 65536))]) (rest := [.int v]) S (kM_insert D cc q u H.size (xs (i + 1)) (xs (i + 2)) ((xs (i + 3)).toBitVec.toNat % 65536) hk xs9 hxs hpar hg9 okm) (cwV 3 hts (gd_V wm_269 wm_270 wm_271 wm_4 wm_272) rfl rfl rfl (by decide +kernel) ⟨(Nat.le_of_ble_eq_true rfl), (Nat.le_of_ble_eq_true rfl)⟩) (wr_preV (q0 := 0) (P_left hPy) hE (D_left hDy) rfl rfl) rfl rfl hl.1 rfl (lv_room (Nat.le_of_ble_eq_true rfl)) dW_145 ⟨(Nat.le_of_ble_eq_true rfl), (Nat.le_of_ble_eq_true rfl)⟩) hPy hDy hS hA (fun v' u' H locs hrm hP hD hS => ?_)
  have hP := sw_P hP
  have hD := sw_D hD
  obtain ⟨hv, hI2⟩ : StepP INV y r v v' w u' := h_ins x y u r xs9 kp ib _ _ _ v v' w u' hI hr hxs hkp hk hrc hrm
  refine lv_icmp_eq (tgt := 555) hx hb dW_148 (by decide) (fun _ => ?_) (fun c_ => absurd hv c_)
  exact kk _ _ _ H locs ls hI2 hP hD hS hl

set_option maxHeartbeats 4000000 in
set_option maxRecDepth 100000 in
theorem law_1 {INV : LgS → (Nat → RpS) → MS → Prop} (HP : PureP INV) {p : Program} {e : Env} {s : State} {m : MethodId} {below : List Frame} {meth : Method} {c : Code} (l : Launch) {b L : Nat} {xs : Nat → Int32} (hL : L ≤ 2048) (C0 : lw_At p s m meth c b L xs) (D : va_G) (cc : Nat → ClassId) (a : Nat → Nat) (bb : Nat → Nat → Nat) (g q : Nat → Nat) (hE : EN D cc s) {i : Nat} (hi : i + 4 ≤ L) (kk : ∀ (x : LgS) (y : Nat → RpS) (u : MS) (H : Heap) (locs : List Loc) (ls : Array Slot), INV x y u → va_P D vwCl (wC cc a bb g x y ++ wM cc q u) H → va_D (fun q : Nat => s.heap.size ≤ q) (wC cc a bb g x y ++ wM cc q u) → va_S (fun q : Nat => s.heap.size ≤ q) s.heap H locs → lv_has ls 4 [(0, .ref b), (1, .ref (g 0)), (2, .ref (q 0)), (3, .int (nI i))] → W p l e room_1 s m #[Value.ref b] below meth c H locs 51 4298 (lw_Z below #[Value.ref b] s) (F0 m 555 ls [])) (x : LgS) (y : Nat → RpS) (u : MS) (H : Heap) (locs : List Loc) (ls : Array Slot) (hI : INV x y u) (hP : va_P D vwCl (wC cc a bb g x y ++ wM cc q u) H) (hD : va_D (fun q : Nat => s.heap.size ≤ q) (wC cc a bb g x y ++ wM cc q u)) (hS : va_S (fun q : Nat => s.heap.size ≤ q) s.heap H locs) (hl : lv_has ls 4 [(0, .ref b), (1, .ref (g 0)), (2, .ref (q 0)), (3, .int (nI i))]) : W p l e room_1 s m #[Value.ref b] below meth c H locs 51 4298 (lw_Z below #[Value.ref b] s) (F0 m 153 ls []) := by
  obtain ⟨hx, hb, hr0, hml, hown, hts0, hX, hbl, hlocks, hgv⟩ := id C0
  have hA : ∀ q : Nat, s.heap.size ≤ q → (fun q : Nat => s.heap.size ≤ q) q := fun _ h => h
  have hbA : ¬ (fun q : Nat => s.heap.size ≤ q) b := Nat.not_le.mpr hbl
  have hts := hE.ts #[Value.ref b]
  have S : CallFix p m c code 4 s #[Value.ref b] wAll R_law := ⟨hx, hb, hml, hown, hts⟩
  obtain ⟨h_init, h_base, h_ins, h_ers, h_dlv, h_syn, h_col, h_len, h_at, h_pos, h_sam, h_cnt, h_stp, h_knw, h_stb, h_kpt, h_wai, h_up⟩ := id HP
  obtain ⟨hBC, hBM⟩ := h_base x y u hI
  obtain ⟨ok, hel, ht, hp1, hRr, hdv, hsy, hpl⟩ := hBC
  obtain ⟨okm, hpar, hg9, hl1, hid, hsyM, xs9, hxs⟩ := hBM
  obtain ⟨r, hr, hz⟩ := rsel (xs (i + 1))
  obtain ⟨kr, hgs, hkc, hsn, hdr⟩ := hRr r hr
  obtain ⟨ve, hve, hve1⟩ := esel kr (xs (i + 2))
  refine lv_aload_n hx hb dW_153 rfl (lv_at hl 1 rfl) ?_
  refine lv_aload_n hx hb dW_154 rfl (lv_at hl 0 rfl) ?_
  refine lv_iload_n hx hb dW_155 rfl (lv_at hl 3 rfl) ?_
  refine lv_iconst (v := nI (1)) hx hb dW_156 (by decide) ?_
  refine r_add hx hb dW_157 ?_
  refine r_sld (k := i + 1) (by omega) (by omega) hx hb hX hbl hbA hS dW_158 ?_
  refine lv_aload_n hx hb dW_159 rfl (lv_at hl 0 rfl) ?_
  refine lv_iload_n hx hb dW_160 rfl (lv_at hl 3 rfl) ?_
  refine lv_iconst (v := nI (2)) hx hb dW_161 (by decide) ?_
  refine r_add hx hb dW_162 ?_
  refine r_sld (k := i + 2) (by omega) (by omega) hx hb hX hbl hbA hS dW_163 ?_
  have hPx := pm_P hr hP
  have hDx := pm_D hr hD
  refine wr_calli (w2 := wO cc (a 0) bb y r ++ wM cc q u) (va_runV (As := [.int (xs (i + 1)), .int (xs (i + 2))]) (rest := []) S (kT_erase D cc a (bb r) g (fun r => bb r 0) x (y r) H.size r hr rfl (xs (i + 1)) (xs (i + 2)) ve hve hve1 hz hel hgs hkc hsn ok kr) (cwV 2 hts (gd_V wm_134 wm_135 wm_136 wm_1 wm_137) rfl rfl rfl (by decide +kernel) ⟨(Nat.le_of_ble_eq_true rfl), (Nat.le_of_ble_eq_true rfl)⟩) (wr_preV (q0 := 17) (P_left hPx) hE (D_left hDx) rfl rfl) rfl rfl hl.1 rfl (lv_room (Nat.le_of_ble_eq_true rfl)) dW_164 ⟨(Nat.le_of_ble_eq_true rfl), (Nat.le_of_ble_eq_true rfl)⟩) hPx hDx hS hA (fun v w H locs hrc hP hD hS => ?_)
  have hP := pm_P' hr hP
  have hD := pm_D' hr hD
  refine lv_aload_n hx hb dW_167 rfl (lv_at hl 2 rfl) ?_
  refine lv_aload_n hx hb dW_168 rfl (lv_at hl 0 rfl) ?_
  refine lv_iload_n hx hb dW_169 rfl (lv_at hl 3 rfl) ?_
  refine lv_iconst (v := nI (1)) hx hb dW_170 (by decide) ?_
  refine r_add hx hb dW_171 ?_
  refine r_sld (k := i + 1) (by omega) (by omega) hx hb hX hbl hbA hS dW_172 ?_
  refine lv_aload_n hx hb dW_173 rfl (lv_at hl 0 rfl) ?_
  refine lv_iload_n hx hb dW_174 rfl (lv_at hl 3 rfl) ?_
  refine lv_iconst (v := nI (2)) hx hb dW_175 (by decide) ?_
  refine r_add hx hb dW_176 ?_
  refine r_sld (k := i + 2) (by omega) (by omega) hx hb hX hbl hbA hS dW_177 ?_
  have hPy := sw_P hP
  have hDy := sw_D hD
  refine wr_calli (w2 := wC cc a bb g w.1 (va_up y r w.2)) (va_runV (As := [.int (xs (i + 1)), .int (xs (i + 2))]) (rest := [.int v]) S (kM_erase D cc q u H.size (xs (i + 1)) (xs (i + 2)) xs9 hxs hpar hg9 okm) (cwV 2 hts (gd_V wm_300 wm_301 wm_302 wm_4 wm_303) rfl rfl rfl (by decide +kernel) ⟨(Nat.le_of_ble_eq_true rfl), (Nat.le_of_ble_eq_true rfl)⟩) (wr_preV (q0 := 0) (P_left hPy) hE (D_left hDy) rfl rfl) rfl rfl hl.1 rfl (lv_room (Nat.le_of_ble_eq_true rfl)) dW_178 ⟨(Nat.le_of_ble_eq_true rfl), (Nat.le_of_ble_eq_true rfl)⟩) hPy hDy hS hA (fun v' u' H locs hrm hP hD hS => ?_)
  have hP := sw_P hP
  have hD := sw_D hD
  obtain ⟨hv, hI2⟩ : StepP INV y r v v' w u' := h_ers x y u r xs9 ve _ _ v v' w u' hI hr hxs hve hrc hrm
  refine lv_icmp_eq (tgt := 555) hx hb dW_181 (by decide) (fun _ => ?_) (fun c_ => absurd hv c_)
  exact kk _ _ _ H locs ls hI2 hP hD hS hl

set_option maxHeartbeats 4000000 in
set_option maxRecDepth 100000 in
theorem law_2 {INV : LgS → (Nat → RpS) → MS → Prop} (HP : PureP INV) {p : Program} {e : Env} {s : State} {m : MethodId} {below : List Frame} {meth : Method} {c : Code} (l : Launch) {b L : Nat} {xs : Nat → Int32} (hL : L ≤ 2048) (C0 : lw_At p s m meth c b L xs) (D : va_G) (cc : Nat → ClassId) (a : Nat → Nat) (bb : Nat → Nat → Nat) (g q : Nat → Nat) (hE : EN D cc s) {i : Nat} (hi : i + 4 ≤ L) (kk : ∀ (x : LgS) (y : Nat → RpS) (u : MS) (H : Heap) (locs : List Loc) (ls : Array Slot), INV x y u → va_P D vwCl (wC cc a bb g x y ++ wM cc q u) H → va_D (fun q : Nat => s.heap.size ≤ q) (wC cc a bb g x y ++ wM cc q u) → va_S (fun q : Nat => s.heap.size ≤ q) s.heap H locs → lv_has ls 4 [(0, .ref b), (1, .ref (g 0)), (2, .ref (q 0)), (3, .int (nI i))] → W p l e room_1 s m #[Value.ref b] below meth c H locs 51 4298 (lw_Z below #[Value.ref b] s) (F0 m 555 ls [])) (x : LgS) (y : Nat → RpS) (u : MS) (H : Heap) (locs : List Loc) (ls : Array Slot) (hI : INV x y u) (hP : va_P D vwCl (wC cc a bb g x y ++ wM cc q u) H) (hD : va_D (fun q : Nat => s.heap.size ≤ q) (wC cc a bb g x y ++ wM cc q u)) (hS : va_S (fun q : Nat => s.heap.size ≤ q) s.heap H locs) (hl : lv_has ls 4 [(0, .ref b), (1, .ref (g 0)), (2, .ref (q 0)), (3, .int (nI i))]) : W p l e room_1 s m #[Value.ref b] below meth c H locs 51 4298 (lw_Z below #[Value.ref b] s) (F0 m 186 ls []) := by
  obtain ⟨hx, hb, hr0, hml, hown, hts0, hX, hbl, hlocks, hgv⟩ := id C0
  have hA : ∀ q : Nat, s.heap.size ≤ q → (fun q : Nat => s.heap.size ≤ q) q := fun _ h => h
  have hbA : ¬ (fun q : Nat => s.heap.size ≤ q) b := Nat.not_le.mpr hbl
  have hts := hE.ts #[Value.ref b]
  have S : CallFix p m c code 4 s #[Value.ref b] wAll R_law := ⟨hx, hb, hml, hown, hts⟩
  obtain ⟨h_init, h_base, h_ins, h_ers, h_dlv, h_syn, h_col, h_len, h_at, h_pos, h_sam, h_cnt, h_stp, h_knw, h_stb, h_kpt, h_wai, h_up⟩ := id HP
  obtain ⟨hBC, hBM⟩ := h_base x y u hI
  obtain ⟨ok, hel, ht, hp1, hRr, hdv, hsy, hpl⟩ := hBC
  obtain ⟨okm, hpar, hg9, hl1, hid, hsyM, xs9, hxs⟩ := hBM
  obtain ⟨r, hr, hz⟩ := rsel (xs (i + 1))
  obtain ⟨kr, hgs, hkc, hsn, hdr⟩ := hRr r hr
  refine lv_aload_n hx hb dW_186 rfl (lv_at hl 1 rfl) ?_
  refine lv_aload_n hx hb dW_187 rfl (lv_at hl 0 rfl) ?_
  refine lv_iload_n hx hb dW_188 rfl (lv_at hl 3 rfl) ?_
  refine lv_iconst (v := nI (1)) hx hb dW_189 (by decide) ?_
  refine r_add hx hb dW_190 ?_
  refine r_sld (k := i + 1) (by omega) (by omega) hx hb hX hbl hbA hS dW_191 ?_
  refine lv_aload_n hx hb dW_192 rfl (lv_at hl 0 rfl) ?_
  refine lv_iload_n hx hb dW_193 rfl (lv_at hl 3 rfl) ?_
  refine lv_iconst (v := nI (2)) hx hb dW_194 (by decide) ?_
  refine r_add hx hb dW_195 ?_
  refine r_sld (k := i + 2) (by omega) (by omega) hx hb hX hbl hbA hS dW_196 ?_
  have hPx := pm_P hr hP
  have hDx := pm_D hr hD
  refine wr_calli (w2 := wO cc (a 0) bb y r ++ wM cc q u) (va_runV (As := [.int (xs (i + 1)), .int (xs (i + 2))]) (rest := []) S (kT_deliver D cc a (bb r) g (fun r => bb r 0) x (y r) H.size r hr rfl (xs (i + 1)) (xs (i + 2)) hz ht hp1 (hdv r hr) ok kr) (cwV 2 hts (gd_V wm_142 wm_143 wm_144 wm_1 wm_145) rfl rfl rfl (by decide +kernel) ⟨(Nat.le_of_ble_eq_true rfl), (Nat.le_of_ble_eq_true rfl)⟩) (wr_preV (q0 := 17) (P_left hPx) hE (D_left hDx) rfl rfl) rfl rfl hl.1 rfl (lv_room (Nat.le_of_ble_eq_true rfl)) dW_197 ⟨(Nat.le_of_ble_eq_true rfl), (Nat.le_of_ble_eq_true rfl)⟩) hPx hDx hS hA (fun v w H locs hrc hP hD hS => ?_)
  have hP := pm_P' hr hP
  have hD := pm_D' hr hD
  refine lv_aload_n hx hb dW_200 rfl (lv_at hl 2 rfl) ?_
  refine lv_aload_n hx hb dW_201 rfl (lv_at hl 0 rfl) ?_
  refine lv_iload_n hx hb dW_202 rfl (lv_at hl 3 rfl) ?_
  refine lv_iconst (v := nI (1)) hx hb dW_203 (by decide) ?_
  refine r_add hx hb dW_204 ?_
  refine r_sld (k := i + 1) (by omega) (by omega) hx hb hX hbl hbA hS dW_205 ?_
  refine lv_aload_n hx hb dW_206 rfl (lv_at hl 0 rfl) ?_
  refine lv_iload_n hx hb dW_207 rfl (lv_at hl 3 rfl) ?_
  refine lv_iconst (v := nI (2)) hx hb dW_208 (by decide) ?_
  refine r_add hx hb dW_209 ?_
  refine r_sld (k := i + 2) (by omega) (by omega) hx hb hX hbl hbA hS dW_210 ?_
  have hPy := sw_P hP
  have hDy := sw_D hD
  refine wr_calli (w2 := wC cc a bb g w.1 (va_up y r w.2)) (va_runV (As := [.int (xs (i + 1)), .int (xs (i + 2))]) (rest := [.int v]) S (kM_deliver D cc q u H.size (xs (i + 1)) (xs (i + 2)) hl1 hid okm) (cwV 2 hts (gd_V wm_304 wm_305 wm_306 wm_4 wm_307) rfl rfl rfl (by decide +kernel) ⟨(Nat.le_of_ble_eq_true rfl), (Nat.le_of_ble_eq_true rfl)⟩) (wr_preV (q0 := 0) (P_left hPy) hE (D_left hDy) rfl rfl) rfl rfl hl.1 rfl (lv_room (Nat.le_of_ble_eq_true rfl)) dW_211 ⟨(Nat.le_of_ble_eq_true rfl), (Nat.le_of_ble_eq_true rfl)⟩) hPy hDy hS hA (fun v' u' H locs hrm hP hD hS => ?_)
  have hP := sw_P hP
  have hD := sw_D hD
  obtain ⟨hv, hI2⟩ : StepP INV y r v v' w u' := h_dlv x y u r _ _ v v' w u' hI hr hrc hrm
  refine lv_icmp_eq (tgt := 555) hx hb dW_214 (by decide) (fun _ => ?_) (fun c_ => absurd hv c_)
  exact kk _ _ _ H locs ls hI2 hP hD hS hl

set_option maxHeartbeats 4000000 in
set_option maxRecDepth 100000 in
theorem law_3 {INV : LgS → (Nat → RpS) → MS → Prop} (HP : PureP INV) {p : Program} {e : Env} {s : State} {m : MethodId} {below : List Frame} {meth : Method} {c : Code} (l : Launch) {b L : Nat} {xs : Nat → Int32} (hL : L ≤ 2048) (C0 : lw_At p s m meth c b L xs) (D : va_G) (cc : Nat → ClassId) (a : Nat → Nat) (bb : Nat → Nat → Nat) (g q : Nat → Nat) (hE : EN D cc s) {i : Nat} (hi : i + 4 ≤ L) (kk : ∀ (x : LgS) (y : Nat → RpS) (u : MS) (H : Heap) (locs : List Loc) (ls : Array Slot), INV x y u → va_P D vwCl (wC cc a bb g x y ++ wM cc q u) H → va_D (fun q : Nat => s.heap.size ≤ q) (wC cc a bb g x y ++ wM cc q u) → va_S (fun q : Nat => s.heap.size ≤ q) s.heap H locs → lv_has ls 4 [(0, .ref b), (1, .ref (g 0)), (2, .ref (q 0)), (3, .int (nI i))] → W p l e room_1 s m #[Value.ref b] below meth c H locs 51 4298 (lw_Z below #[Value.ref b] s) (F0 m 555 ls [])) (x : LgS) (y : Nat → RpS) (u : MS) (H : Heap) (locs : List Loc) (ls : Array Slot) (hI : INV x y u) (hP : va_P D vwCl (wC cc a bb g x y ++ wM cc q u) H) (hD : va_D (fun q : Nat => s.heap.size ≤ q) (wC cc a bb g x y ++ wM cc q u)) (hS : va_S (fun q : Nat => s.heap.size ≤ q) s.heap H locs) (hl : lv_has ls 4 [(0, .ref b), (1, .ref (g 0)), (2, .ref (q 0)), (3, .int (nI i))]) : W p l e room_1 s m #[Value.ref b] below meth c H locs 51 4298 (lw_Z below #[Value.ref b] s) (F0 m 219 ls []) := by
  obtain ⟨hx, hb, hr0, hml, hown, hts0, hX, hbl, hlocks, hgv⟩ := id C0
  have hA : ∀ q : Nat, s.heap.size ≤ q → (fun q : Nat => s.heap.size ≤ q) q := fun _ h => h
  have hbA : ¬ (fun q : Nat => s.heap.size ≤ q) b := Nat.not_le.mpr hbl
  have hts := hE.ts #[Value.ref b]
  have S : CallFix p m c code 4 s #[Value.ref b] wAll R_law := ⟨hx, hb, hml, hown, hts⟩
  obtain ⟨h_init, h_base, h_ins, h_ers, h_dlv, h_syn, h_col, h_len, h_at, h_pos, h_sam, h_cnt, h_stp, h_knw, h_stb, h_kpt, h_wai, h_up⟩ := id HP
  obtain ⟨hBC, hBM⟩ := h_base x y u hI
  obtain ⟨ok, hel, ht, hp1, hRr, hdv, hsy, hpl⟩ := hBC
  obtain ⟨okm, hpar, hg9, hl1, hid, hsyM, xs9, hxs⟩ := hBM
  obtain ⟨r, hr, hz⟩ := rsel (xs (i + 1))
  obtain ⟨kr, hgs, hkc, hsn, hdr⟩ := hRr r hr
  obtain ⟨t, ht3, hz2⟩ := rsel (xs (i + 2))
  refine lv_aload_n hx hb dW_219 rfl (lv_at hl 1 rfl) ?_
  refine lv_aload_n hx hb dW_220 rfl (lv_at hl 0 rfl) ?_
  refine lv_iload_n hx hb dW_221 rfl (lv_at hl 3 rfl) ?_
  refine lv_iconst (v := nI (1)) hx hb dW_222 (by decide) ?_
  refine r_add hx hb dW_223 ?_
  refine r_sld (k := i + 1) (by omega) (by omega) hx hb hX hbl hbA hS dW_224 ?_
  refine lv_aload_n hx hb dW_225 rfl (lv_at hl 0 rfl) ?_
  refine lv_iload_n hx hb dW_226 rfl (lv_at hl 3 rfl) ?_
  refine lv_iconst (v := nI (2)) hx hb dW_227 (by decide) ?_
  refine r_add hx hb dW_228 ?_
  refine r_sld (k := i + 2) (by omega) (by omega) hx hb hX hbl hbA hS dW_229 ?_
  by_cases hrt : r = t
  · subst hrt
    have hPx := pm_P hr hP
    have hDx := pm_D hr hD
    refine wr_calli (w2 := wO cc (a 0) bb y r ++ wM cc q u) (va_runV (As := [.int (xs (i + 1)), .int (xs (i + 2))]) (rest := []) S (kT_sync_s D cc a (bb r) g (fun r => bb r 0) x (y r) H.size r hr rfl (xs (i + 1)) (xs (i + 2)) hz hz2 ht hp1 (hsy r hr r hr).1 (hsy r hr r hr).2 ok kr) (cwV 2 hts (gd_V wm_161 wm_162 wm_163 wm_1 wm_164) rfl rfl rfl (by decide +kernel) ⟨(Nat.le_of_ble_eq_true rfl), (Nat.le_of_ble_eq_true rfl)⟩) (wr_preV (q0 := 17) (P_left hPx) hE (D_left hDx) rfl rfl) rfl rfl hl.1 rfl (lv_room (Nat.le_of_ble_eq_true rfl)) dW_230 ⟨(Nat.le_of_ble_eq_true rfl), (Nat.le_of_ble_eq_true rfl)⟩) hPx hDx hS hA (fun v w H locs hrc hP hD hS => ?_)
    have hP := pm_P' hr hP
    have hD := pm_D' hr hD
    refine lv_aload_n hx hb dW_233 rfl (lv_at hl 2 rfl) ?_
    refine lv_aload_n hx hb dW_234 rfl (lv_at hl 0 rfl) ?_
    refine lv_iload_n hx hb dW_235 rfl (lv_at hl 3 rfl) ?_
    refine lv_iconst (v := nI (1)) hx hb dW_236 (by decide) ?_
    refine r_add hx hb dW_237 ?_
    refine r_sld (k := i + 1) (by omega) (by omega) hx hb hX hbl hbA hS dW_238 ?_
    refine lv_aload_n hx hb dW_239 rfl (lv_at hl 0 rfl) ?_
    refine lv_iload_n hx hb dW_240 rfl (lv_at hl 3 rfl) ?_
    refine lv_iconst (v := nI (2)) hx hb dW_241 (by decide) ?_
    refine r_add hx hb dW_242 ?_
    refine r_sld (k := i + 2) (by omega) (by omega) hx hb hX hbl hbA hS dW_243 ?_
    have hPy := sw_P hP
    have hDy := sw_D hD
    refine wr_calli (w2 := wC cc a bb g w.1 (va_up y r w.2)) (va_runV (As := [.int (xs (i + 1)), .int (xs (i + 2))]) (rest := [.int v]) S (kM_sync D cc q u H.size (xs (i + 1)) (xs (i + 2)) hsyM okm) (cwV 2 hts (gd_V wm_314 wm_315 wm_316 wm_4 wm_317) rfl rfl rfl (by decide +kernel) ⟨(Nat.le_of_ble_eq_true rfl), (Nat.le_of_ble_eq_true rfl)⟩) (wr_preV (q0 := 0) (P_left hPy) hE (D_left hDy) rfl rfl) rfl rfl hl.1 rfl (lv_room (Nat.le_of_ble_eq_true rfl)) dW_244 ⟨(Nat.le_of_ble_eq_true rfl), (Nat.le_of_ble_eq_true rfl)⟩) hPy hDy hS hA (fun v' u' H locs hrm hP hD hS => ?_)
    have hP := sw_P hP
    have hD := sw_D hD
    obtain ⟨hv, hI2⟩ : StepP INV y r v v' w u' := h_syn x y u r _ _ _ v v' w u' hI hr (by assumption) hrc hrm
    refine lv_icmp_eq (tgt := 555) hx hb dW_247 (by decide) (fun _ => ?_) (fun c_ => absurd hv c_)
    exact kk _ _ _ H locs ls hI2 hP hD hS hl
  · obtain ⟨kr2, -, -, -, -⟩ := hRr t ht3
    have hPx := pn_P hr ht3 hrt hP
    have hDx := pn_D hr ht3 hrt hD
    refine wr_calli (w2 := wR cc (a 0) (bb (3 - r - t)) (y (3 - r - t)) ++ wM cc q u) (va_runV (As := [.int (xs (i + 1)), .int (xs (i + 2))]) (rest := []) S (kT_sync D cc a (bb r) (bb t) g (fun r => bb r 0) x (y r) (y t) H.size r hr rfl t ht3 rfl (xs (i + 1)) (xs (i + 2)) hz hz2 ht hp1 (hsy r hr t ht3).1 (hsy r hr t ht3).2 ok kr kr2) (cwV 2 hts (gd_V wm_161 wm_162 wm_163 wm_1 wm_164) rfl rfl rfl (by decide +kernel) ⟨(Nat.le_of_ble_eq_true rfl), (Nat.le_of_ble_eq_true rfl)⟩) (wr_preV (q0 := 27) (P_left hPx) hE (D_left hDx) rfl rfl) rfl rfl hl.1 rfl (lv_room (Nat.le_of_ble_eq_true rfl)) dW_230 ⟨(Nat.le_of_ble_eq_true rfl), (Nat.le_of_ble_eq_true rfl)⟩) hPx hDx hS hA (fun v w H locs hrc hP hD hS => ?_)
    have hP := pn_P' hr ht3 hrt hP
    have hD := pn_D' hr ht3 hrt hD
    refine lv_aload_n hx hb dW_233 rfl (lv_at hl 2 rfl) ?_
    refine lv_aload_n hx hb dW_234 rfl (lv_at hl 0 rfl) ?_
    refine lv_iload_n hx hb dW_235 rfl (lv_at hl 3 rfl) ?_
    refine lv_iconst (v := nI (1)) hx hb dW_236 (by decide) ?_
    refine r_add hx hb dW_237 ?_
    refine r_sld (k := i + 1) (by omega) (by omega) hx hb hX hbl hbA hS dW_238 ?_
    refine lv_aload_n hx hb dW_239 rfl (lv_at hl 0 rfl) ?_
    refine lv_iload_n hx hb dW_240 rfl (lv_at hl 3 rfl) ?_
    refine lv_iconst (v := nI (2)) hx hb dW_241 (by decide) ?_
    refine r_add hx hb dW_242 ?_
    refine r_sld (k := i + 2) (by omega) (by omega) hx hb hX hbl hbA hS dW_243 ?_
    have hPy := sw_P hP
    have hDy := sw_D hD
    refine wr_calli (w2 := wC cc a bb g w.1 (va_up y r w.2)) (va_runV (As := [.int (xs (i + 1)), .int (xs (i + 2))]) (rest := [.int v]) S (kM_sync D cc q u H.size (xs (i + 1)) (xs (i + 2)) hsyM okm) (cwV 2 hts (gd_V wm_314 wm_315 wm_316 wm_4 wm_317) rfl rfl rfl (by decide +kernel) ⟨(Nat.le_of_ble_eq_true rfl), (Nat.le_of_ble_eq_true rfl)⟩) (wr_preV (q0 := 0) (P_left hPy) hE (D_left hDy) rfl rfl) rfl rfl hl.1 rfl (lv_room (Nat.le_of_ble_eq_true rfl)) dW_244 ⟨(Nat.le_of_ble_eq_true rfl), (Nat.le_of_ble_eq_true rfl)⟩) hPy hDy hS hA (fun v' u' H locs hrm hP hD hS => ?_)
    have hP := sw_P hP
    have hD := sw_D hD
    obtain ⟨hv, hI2⟩ : StepP INV y r v v' w u' := h_syn x y u r _ _ _ v v' w u' hI hr (by assumption) hrc hrm
    refine lv_icmp_eq (tgt := 555) hx hb dW_247 (by decide) (fun _ => ?_) (fun c_ => absurd hv c_)
    exact kk _ _ _ H locs ls hI2 hP hD hS hl

set_option maxHeartbeats 4000000 in
set_option maxRecDepth 100000 in
theorem law_4 {INV : LgS → (Nat → RpS) → MS → Prop} (HP : PureP INV) {p : Program} {e : Env} {s : State} {m : MethodId} {below : List Frame} {meth : Method} {c : Code} (l : Launch) {b L : Nat} {xs : Nat → Int32} (hL : L ≤ 2048) (C0 : lw_At p s m meth c b L xs) (D : va_G) (cc : Nat → ClassId) (a : Nat → Nat) (bb : Nat → Nat → Nat) (g q : Nat → Nat) (hE : EN D cc s) {i : Nat} (hi : i + 4 ≤ L) (kk : ∀ (x : LgS) (y : Nat → RpS) (u : MS) (H : Heap) (locs : List Loc) (ls : Array Slot), INV x y u → va_P D vwCl (wC cc a bb g x y ++ wM cc q u) H → va_D (fun q : Nat => s.heap.size ≤ q) (wC cc a bb g x y ++ wM cc q u) → va_S (fun q : Nat => s.heap.size ≤ q) s.heap H locs → lv_has ls 4 [(0, .ref b), (1, .ref (g 0)), (2, .ref (q 0)), (3, .int (nI i))] → W p l e room_1 s m #[Value.ref b] below meth c H locs 51 4298 (lw_Z below #[Value.ref b] s) (F0 m 555 ls [])) (x : LgS) (y : Nat → RpS) (u : MS) (H : Heap) (locs : List Loc) (ls : Array Slot) (hI : INV x y u) (hP : va_P D vwCl (wC cc a bb g x y ++ wM cc q u) H) (hD : va_D (fun q : Nat => s.heap.size ≤ q) (wC cc a bb g x y ++ wM cc q u)) (hS : va_S (fun q : Nat => s.heap.size ≤ q) s.heap H locs) (hl : lv_has ls 4 [(0, .ref b), (1, .ref (g 0)), (2, .ref (q 0)), (3, .int (nI i))]) : W p l e room_1 s m #[Value.ref b] below meth c H locs 51 4298 (lw_Z below #[Value.ref b] s) (F0 m 252 ls []) := by
  obtain ⟨hx, hb, hr0, hml, hown, hts0, hX, hbl, hlocks, hgv⟩ := id C0
  have hA : ∀ q : Nat, s.heap.size ≤ q → (fun q : Nat => s.heap.size ≤ q) q := fun _ h => h
  have hbA : ¬ (fun q : Nat => s.heap.size ≤ q) b := Nat.not_le.mpr hbl
  have hts := hE.ts #[Value.ref b]
  have S : CallFix p m c code 4 s #[Value.ref b] wAll R_law := ⟨hx, hb, hml, hown, hts⟩
  obtain ⟨h_init, h_base, h_ins, h_ers, h_dlv, h_syn, h_col, h_len, h_at, h_pos, h_sam, h_cnt, h_stp, h_knw, h_stb, h_kpt, h_wai, h_up⟩ := id HP
  obtain ⟨hBC, hBM⟩ := h_base x y u hI
  obtain ⟨ok, hel, ht, hp1, hRr, hdv, hsy, hpl⟩ := hBC
  obtain ⟨okm, hpar, hg9, hl1, hid, hsyM, xs9, hxs⟩ := hBM
  obtain ⟨r, hr, hz⟩ := rsel (xs (i + 1))
  obtain ⟨kr, hgs, hkc, hsn, hdr⟩ := hRr r hr
  refine lv_aload_n hx hb dW_252 rfl (lv_at hl 1 rfl) ?_
  refine lv_aload_n hx hb dW_253 rfl (lv_at hl 0 rfl) ?_
  refine lv_iload_n hx hb dW_254 rfl (lv_at hl 3 rfl) ?_
  refine lv_iconst (v := nI (1)) hx hb dW_255 (by decide) ?_
  refine r_add hx hb dW_256 ?_
  refine r_sld (k := i + 1) (by omega) (by omega) hx hb hX hbl hbA hS dW_257 ?_
  have hPx := pm_P hr hP
  have hDx := pm_D hr hD
  refine wr_calli (w2 := wO cc (a 0) bb y r ++ wM cc q u) (va_runV (As := [.int (xs (i + 1))]) (rest := []) S (kT_collect D cc a (bb r) g (fun r => bb r 0) x (y r) H.size r hr rfl (xs (i + 1)) hz ht hdr ok kr) (cwV 1 hts (gd_V wm_170 wm_171 wm_172 wm_1 wm_173) rfl rfl rfl (by decide +kernel) ⟨(Nat.le_of_ble_eq_true rfl), (Nat.le_of_ble_eq_true rfl)⟩) (wr_preV (q0 := 17) (P_left hPx) hE (D_left hDx) rfl rfl) rfl rfl hl.1 rfl (lv_room (Nat.le_of_ble_eq_true rfl)) dW_258 ⟨(Nat.le_of_ble_eq_true rfl), (Nat.le_of_ble_eq_true rfl)⟩) hPx hDx hS hA (fun v w H locs hrc hP hD hS => ?_)
  have hP := pm_P' hr hP
  have hD := pm_D' hr hD
  refine lv_aload_n hx hb dW_261 rfl (lv_at hl 2 rfl) ?_
  refine lv_aload_n hx hb dW_262 rfl (lv_at hl 0 rfl) ?_
  refine lv_iload_n hx hb dW_263 rfl (lv_at hl 3 rfl) ?_
  refine lv_iconst (v := nI (1)) hx hb dW_264 (by decide) ?_
  refine r_add hx hb dW_265 ?_
  refine r_sld (k := i + 1) (by omega) (by omega) hx hb hX hbl hbA hS dW_266 ?_
  have hPy := sw_P hP
  have hDy := sw_D hD
  refine wr_calli (w2 := wC cc a bb g w.1 (va_up y r w.2)) (va_runV (As := [.int (xs (i + 1))]) (rest := [.int v]) S (kM_collect D cc q u H.size (xs (i + 1)) okm) (cwV 1 hts (gd_V wm_328 wm_329 wm_330 wm_4 wm_331) rfl rfl rfl (by decide +kernel) ⟨(Nat.le_of_ble_eq_true rfl), (Nat.le_of_ble_eq_true rfl)⟩) (wr_preV (q0 := 0) (P_left hPy) hE (D_left hDy) rfl rfl) rfl rfl hl.1 rfl (lv_room (Nat.le_of_ble_eq_true rfl)) dW_267 ⟨(Nat.le_of_ble_eq_true rfl), (Nat.le_of_ble_eq_true rfl)⟩) hPy hDy hS hA (fun v' u' H locs hrm hP hD hS => ?_)
  have hP := sw_P hP
  have hD := sw_D hD
  obtain ⟨hv, hI2⟩ : StepP INV y r v v' w u' := h_col x y u r _ v v' w u' hI hr hrc hrm
  refine lv_icmp_eq (tgt := 555) hx hb dW_270 (by decide) (fun _ => ?_) (fun c_ => absurd hv c_)
  exact kk _ _ _ H locs ls hI2 hP hD hS hl

set_option maxHeartbeats 4000000 in
set_option maxRecDepth 100000 in
theorem law_5 {INV : LgS → (Nat → RpS) → MS → Prop} (HP : PureP INV) {p : Program} {e : Env} {s : State} {m : MethodId} {below : List Frame} {meth : Method} {c : Code} (l : Launch) {b L : Nat} {xs : Nat → Int32} (hL : L ≤ 2048) (C0 : lw_At p s m meth c b L xs) (D : va_G) (cc : Nat → ClassId) (a : Nat → Nat) (bb : Nat → Nat → Nat) (g q : Nat → Nat) (hE : EN D cc s) {i : Nat} (hi : i + 4 ≤ L) (kk : ∀ (x : LgS) (y : Nat → RpS) (u : MS) (H : Heap) (locs : List Loc) (ls : Array Slot), INV x y u → va_P D vwCl (wC cc a bb g x y ++ wM cc q u) H → va_D (fun q : Nat => s.heap.size ≤ q) (wC cc a bb g x y ++ wM cc q u) → va_S (fun q : Nat => s.heap.size ≤ q) s.heap H locs → lv_has ls 4 [(0, .ref b), (1, .ref (g 0)), (2, .ref (q 0)), (3, .int (nI i))] → W p l e room_1 s m #[Value.ref b] below meth c H locs 51 4298 (lw_Z below #[Value.ref b] s) (F0 m 555 ls [])) (x : LgS) (y : Nat → RpS) (u : MS) (H : Heap) (locs : List Loc) (ls : Array Slot) (hI : INV x y u) (hP : va_P D vwCl (wC cc a bb g x y ++ wM cc q u) H) (hD : va_D (fun q : Nat => s.heap.size ≤ q) (wC cc a bb g x y ++ wM cc q u)) (hS : va_S (fun q : Nat => s.heap.size ≤ q) s.heap H locs) (hl : lv_has ls 4 [(0, .ref b), (1, .ref (g 0)), (2, .ref (q 0)), (3, .int (nI i))]) : W p l e room_1 s m #[Value.ref b] below meth c H locs 51 4298 (lw_Z below #[Value.ref b] s) (F0 m 275 ls []) := by
  obtain ⟨hx, hb, hr0, hml, hown, hts0, hX, hbl, hlocks, hgv⟩ := id C0
  have hA : ∀ q : Nat, s.heap.size ≤ q → (fun q : Nat => s.heap.size ≤ q) q := fun _ h => h
  have hbA : ¬ (fun q : Nat => s.heap.size ≤ q) b := Nat.not_le.mpr hbl
  have hts := hE.ts #[Value.ref b]
  have S : CallFix p m c code 4 s #[Value.ref b] wAll R_law := ⟨hx, hb, hml, hown, hts⟩
  obtain ⟨h_init, h_base, h_ins, h_ers, h_dlv, h_syn, h_col, h_len, h_at, h_pos, h_sam, h_cnt, h_stp, h_knw, h_stb, h_kpt, h_wai, h_up⟩ := id HP
  obtain ⟨hBC, hBM⟩ := h_base x y u hI
  obtain ⟨ok, hel, ht, hp1, hRr, hdv, hsy, hpl⟩ := hBC
  obtain ⟨okm, hpar, hg9, hl1, hid, hsyM, xs9, hxs⟩ := hBM
  obtain ⟨r, hr, hz⟩ := rsel (xs (i + 1))
  obtain ⟨kr, hgs, hkc, hsn, hdr⟩ := hRr r hr
  refine lv_aload_n hx hb dW_275 rfl (lv_at hl 1 rfl) ?_
  refine lv_aload_n hx hb dW_276 rfl (lv_at hl 0 rfl) ?_
  refine lv_iload_n hx hb dW_277 rfl (lv_at hl 3 rfl) ?_
  refine lv_iconst (v := nI (1)) hx hb dW_278 (by decide) ?_
  refine r_add hx hb dW_279 ?_
  refine r_sld (k := i + 1) (by omega) (by omega) hx hb hX hbl hbA hS dW_280 ?_
  have hPx := pm_P hr hP
  have hDx := pm_D hr hD
  refine wr_calli (w2 := wO cc (a 0) bb y r ++ wM cc q u) (va_runV (As := [.int (xs (i + 1))]) (rest := []) S (kT_length D cc a (bb r) g (fun r => bb r 0) x (y r) H.size r hr rfl (xs (i + 1)) hz ok kr) (cwV 1 hts (gd_V wm_188 wm_189 wm_190 wm_1 wm_191) rfl rfl rfl (by decide +kernel) ⟨(Nat.le_of_ble_eq_true rfl), (Nat.le_of_ble_eq_true rfl)⟩) (wr_preV (q0 := 17) (P_left hPx) hE (D_left hDx) rfl rfl) rfl rfl hl.1 rfl (lv_room (Nat.le_of_ble_eq_true rfl)) dW_281 ⟨(Nat.le_of_ble_eq_true rfl), (Nat.le_of_ble_eq_true rfl)⟩) hPx hDx hS hA (fun v w H locs hrc hP hD hS => ?_)
  have hP := pm_P' hr hP
  have hD := pm_D' hr hD
  refine lv_aload_n hx hb dW_284 rfl (lv_at hl 2 rfl) ?_
  refine lv_aload_n hx hb dW_285 rfl (lv_at hl 0 rfl) ?_
  refine lv_iload_n hx hb dW_286 rfl (lv_at hl 3 rfl) ?_
  refine lv_iconst (v := nI (1)) hx hb dW_287 (by decide) ?_
  refine r_add hx hb dW_288 ?_
  refine r_sld (k := i + 1) (by omega) (by omega) hx hb hX hbl hbA hS dW_289 ?_
  have hPy := sw_P hP
  have hDy := sw_D hD
  refine wr_calli (w2 := wC cc a bb g w.1 (va_up y r w.2)) (va_runV (As := [.int (xs (i + 1))]) (rest := [.int v]) S (kM_length D cc q u H.size (xs (i + 1)) xs9 hxs hpar okm) (cwV 1 hts (gd_V wm_339 wm_340 wm_341 wm_4 wm_342) rfl rfl rfl (by decide +kernel) ⟨(Nat.le_of_ble_eq_true rfl), (Nat.le_of_ble_eq_true rfl)⟩) (wr_preV (q0 := 0) (P_left hPy) hE (D_left hDy) rfl rfl) rfl rfl hl.1 rfl (lv_room (Nat.le_of_ble_eq_true rfl)) dW_290 ⟨(Nat.le_of_ble_eq_true rfl), (Nat.le_of_ble_eq_true rfl)⟩) hPy hDy hS hA (fun v' u' H locs hrm hP hD hS => ?_)
  have hP := sw_P hP
  have hD := sw_D hD
  obtain ⟨hv, hI2⟩ : StepP INV y r v v' w u' := h_len x y u r xs9 _ v v' w u' hI hr hxs hrc hrm
  refine lv_icmp_eq (tgt := 555) hx hb dW_293 (by decide) (fun _ => ?_) (fun c_ => absurd hv c_)
  exact kk _ _ _ H locs ls hI2 hP hD hS hl

set_option maxHeartbeats 4000000 in
set_option maxRecDepth 100000 in
theorem law_6 {INV : LgS → (Nat → RpS) → MS → Prop} (HP : PureP INV) {p : Program} {e : Env} {s : State} {m : MethodId} {below : List Frame} {meth : Method} {c : Code} (l : Launch) {b L : Nat} {xs : Nat → Int32} (hL : L ≤ 2048) (C0 : lw_At p s m meth c b L xs) (D : va_G) (cc : Nat → ClassId) (a : Nat → Nat) (bb : Nat → Nat → Nat) (g q : Nat → Nat) (hE : EN D cc s) {i : Nat} (hi : i + 4 ≤ L) (kk : ∀ (x : LgS) (y : Nat → RpS) (u : MS) (H : Heap) (locs : List Loc) (ls : Array Slot), INV x y u → va_P D vwCl (wC cc a bb g x y ++ wM cc q u) H → va_D (fun q : Nat => s.heap.size ≤ q) (wC cc a bb g x y ++ wM cc q u) → va_S (fun q : Nat => s.heap.size ≤ q) s.heap H locs → lv_has ls 4 [(0, .ref b), (1, .ref (g 0)), (2, .ref (q 0)), (3, .int (nI i))] → W p l e room_1 s m #[Value.ref b] below meth c H locs 51 4298 (lw_Z below #[Value.ref b] s) (F0 m 555 ls [])) (x : LgS) (y : Nat → RpS) (u : MS) (H : Heap) (locs : List Loc) (ls : Array Slot) (hI : INV x y u) (hP : va_P D vwCl (wC cc a bb g x y ++ wM cc q u) H) (hD : va_D (fun q : Nat => s.heap.size ≤ q) (wC cc a bb g x y ++ wM cc q u)) (hS : va_S (fun q : Nat => s.heap.size ≤ q) s.heap H locs) (hl : lv_has ls 4 [(0, .ref b), (1, .ref (g 0)), (2, .ref (q 0)), (3, .int (nI i))]) : W p l e room_1 s m #[Value.ref b] below meth c H locs 51 4298 (lw_Z below #[Value.ref b] s) (F0 m 298 ls []) := by
  obtain ⟨hx, hb, hr0, hml, hown, hts0, hX, hbl, hlocks, hgv⟩ := id C0
  have hA : ∀ q : Nat, s.heap.size ≤ q → (fun q : Nat => s.heap.size ≤ q) q := fun _ h => h
  have hbA : ¬ (fun q : Nat => s.heap.size ≤ q) b := Nat.not_le.mpr hbl
  have hts := hE.ts #[Value.ref b]
  have S : CallFix p m c code 4 s #[Value.ref b] wAll R_law := ⟨hx, hb, hml, hown, hts⟩
  obtain ⟨h_init, h_base, h_ins, h_ers, h_dlv, h_syn, h_col, h_len, h_at, h_pos, h_sam, h_cnt, h_stp, h_knw, h_stb, h_kpt, h_wai, h_up⟩ := id HP
  obtain ⟨hBC, hBM⟩ := h_base x y u hI
  obtain ⟨ok, hel, ht, hp1, hRr, hdv, hsy, hpl⟩ := hBC
  obtain ⟨okm, hpar, hg9, hl1, hid, hsyM, xs9, hxs⟩ := hBM
  obtain ⟨r, hr, hz⟩ := rsel (xs (i + 1))
  obtain ⟨kr, hgs, hkc, hsn, hdr⟩ := hRr r hr
  obtain ⟨ve, hve, hve1⟩ := esel kr (xs (i + 2))
  refine lv_aload_n hx hb dW_298 rfl (lv_at hl 1 rfl) ?_
  refine lv_aload_n hx hb dW_299 rfl (lv_at hl 0 rfl) ?_
  refine lv_iload_n hx hb dW_300 rfl (lv_at hl 3 rfl) ?_
  refine lv_iconst (v := nI (1)) hx hb dW_301 (by decide) ?_
  refine r_add hx hb dW_302 ?_
  refine r_sld (k := i + 1) (by omega) (by omega) hx hb hX hbl hbA hS dW_303 ?_
  refine lv_aload_n hx hb dW_304 rfl (lv_at hl 0 rfl) ?_
  refine lv_iload_n hx hb dW_305 rfl (lv_at hl 3 rfl) ?_
  refine lv_iconst (v := nI (2)) hx hb dW_306 (by decide) ?_
  refine r_add hx hb dW_307 ?_
  refine r_sld (k := i + 2) (by omega) (by omega) hx hb hX hbl hbA hS dW_308 ?_
  have hPx := pm_P hr hP
  have hDx := pm_D hr hD
  refine wr_calli (w2 := wO cc (a 0) bb y r ++ wM cc q u) (va_runV (As := [.int (xs (i + 1)), .int (xs (i + 2))]) (rest := []) S (kT_at D cc a (bb r) g (fun r => bb r 0) x (y r) H.size r hr rfl (xs (i + 1)) (xs (i + 2)) ve hve hve1 hz ok kr) (cwV 2 hts (gd_V wm_192 wm_193 wm_194 wm_1 wm_195) rfl rfl rfl (by decide +kernel) ⟨(Nat.le_of_ble_eq_true rfl), (Nat.le_of_ble_eq_true rfl)⟩) (wr_preV (q0 := 17) (P_left hPx) hE (D_left hDx) rfl rfl) rfl rfl hl.1 rfl (lv_room (Nat.le_of_ble_eq_true rfl)) dW_309 ⟨(Nat.le_of_ble_eq_true rfl), (Nat.le_of_ble_eq_true rfl)⟩) hPx hDx hS hA (fun v w H locs hrc hP hD hS => ?_)
  have hP := pm_P' hr hP
  have hD := pm_D' hr hD
  refine lv_aload_n hx hb dW_312 rfl (lv_at hl 2 rfl) ?_
  refine lv_aload_n hx hb dW_313 rfl (lv_at hl 0 rfl) ?_
  refine lv_iload_n hx hb dW_314 rfl (lv_at hl 3 rfl) ?_
  refine lv_iconst (v := nI (1)) hx hb dW_315 (by decide) ?_
  refine r_add hx hb dW_316 ?_
  refine r_sld (k := i + 1) (by omega) (by omega) hx hb hX hbl hbA hS dW_317 ?_
  refine lv_aload_n hx hb dW_318 rfl (lv_at hl 0 rfl) ?_
  refine lv_iload_n hx hb dW_319 rfl (lv_at hl 3 rfl) ?_
  refine lv_iconst (v := nI (2)) hx hb dW_320 (by decide) ?_
  refine r_add hx hb dW_321 ?_
  refine r_sld (k := i + 2) (by omega) (by omega) hx hb hX hbl hbA hS dW_322 ?_
  have hPy := sw_P hP
  have hDy := sw_D hD
  refine wr_calli (w2 := wC cc a bb g w.1 (va_up y r w.2)) (va_runV (As := [.int (xs (i + 1)), .int (xs (i + 2))]) (rest := [.int v]) S (kM_at D cc q u H.size (xs (i + 1)) (xs (i + 2)) xs9 hxs hpar okm) (cwV 2 hts (gd_V wm_343 wm_344 wm_345 wm_4 wm_346) rfl rfl rfl (by decide +kernel) ⟨(Nat.le_of_ble_eq_true rfl), (Nat.le_of_ble_eq_true rfl)⟩) (wr_preV (q0 := 0) (P_left hPy) hE (D_left hDy) rfl rfl) rfl rfl hl.1 rfl (lv_room (Nat.le_of_ble_eq_true rfl)) dW_323 ⟨(Nat.le_of_ble_eq_true rfl), (Nat.le_of_ble_eq_true rfl)⟩) hPy hDy hS hA (fun v' u' H locs hrm hP hD hS => ?_)
  have hP := sw_P hP
  have hD := sw_D hD
  obtain ⟨hv, hI2⟩ : StepP INV y r v v' w u' := h_at x y u r xs9 ve _ _ v v' w u' hI hr hxs hve hrc hrm
  refine lv_icmp_eq (tgt := 555) hx hb dW_326 (by decide) (fun _ => ?_) (fun c_ => absurd hv c_)
  exact kk _ _ _ H locs ls hI2 hP hD hS hl

set_option maxHeartbeats 4000000 in
set_option maxRecDepth 100000 in
theorem law_7 {INV : LgS → (Nat → RpS) → MS → Prop} (HP : PureP INV) {p : Program} {e : Env} {s : State} {m : MethodId} {below : List Frame} {meth : Method} {c : Code} (l : Launch) {b L : Nat} {xs : Nat → Int32} (hL : L ≤ 2048) (C0 : lw_At p s m meth c b L xs) (D : va_G) (cc : Nat → ClassId) (a : Nat → Nat) (bb : Nat → Nat → Nat) (g q : Nat → Nat) (hE : EN D cc s) {i : Nat} (hi : i + 4 ≤ L) (kk : ∀ (x : LgS) (y : Nat → RpS) (u : MS) (H : Heap) (locs : List Loc) (ls : Array Slot), INV x y u → va_P D vwCl (wC cc a bb g x y ++ wM cc q u) H → va_D (fun q : Nat => s.heap.size ≤ q) (wC cc a bb g x y ++ wM cc q u) → va_S (fun q : Nat => s.heap.size ≤ q) s.heap H locs → lv_has ls 4 [(0, .ref b), (1, .ref (g 0)), (2, .ref (q 0)), (3, .int (nI i))] → W p l e room_1 s m #[Value.ref b] below meth c H locs 51 4298 (lw_Z below #[Value.ref b] s) (F0 m 555 ls [])) (x : LgS) (y : Nat → RpS) (u : MS) (H : Heap) (locs : List Loc) (ls : Array Slot) (hI : INV x y u) (hP : va_P D vwCl (wC cc a bb g x y ++ wM cc q u) H) (hD : va_D (fun q : Nat => s.heap.size ≤ q) (wC cc a bb g x y ++ wM cc q u)) (hS : va_S (fun q : Nat => s.heap.size ≤ q) s.heap H locs) (hl : lv_has ls 4 [(0, .ref b), (1, .ref (g 0)), (2, .ref (q 0)), (3, .int (nI i))]) : W p l e room_1 s m #[Value.ref b] below meth c H locs 51 4298 (lw_Z below #[Value.ref b] s) (F0 m 331 ls []) := by
  obtain ⟨hx, hb, hr0, hml, hown, hts0, hX, hbl, hlocks, hgv⟩ := id C0
  have hA : ∀ q : Nat, s.heap.size ≤ q → (fun q : Nat => s.heap.size ≤ q) q := fun _ h => h
  have hbA : ¬ (fun q : Nat => s.heap.size ≤ q) b := Nat.not_le.mpr hbl
  have hts := hE.ts #[Value.ref b]
  have S : CallFix p m c code 4 s #[Value.ref b] wAll R_law := ⟨hx, hb, hml, hown, hts⟩
  obtain ⟨h_init, h_base, h_ins, h_ers, h_dlv, h_syn, h_col, h_len, h_at, h_pos, h_sam, h_cnt, h_stp, h_knw, h_stb, h_kpt, h_wai, h_up⟩ := id HP
  obtain ⟨hBC, hBM⟩ := h_base x y u hI
  obtain ⟨ok, hel, ht, hp1, hRr, hdv, hsy, hpl⟩ := hBC
  obtain ⟨okm, hpar, hg9, hl1, hid, hsyM, xs9, hxs⟩ := hBM
  obtain ⟨r, hr, hz⟩ := rsel (xs (i + 1))
  obtain ⟨kr, hgs, hkc, hsn, hdr⟩ := hRr r hr
  obtain ⟨vp, hvp, hvp1⟩ := psel kr (xs (i + 2))
  refine lv_aload_n hx hb dW_331 rfl (lv_at hl 1 rfl) ?_
  refine lv_aload_n hx hb dW_332 rfl (lv_at hl 0 rfl) ?_
  refine lv_iload_n hx hb dW_333 rfl (lv_at hl 3 rfl) ?_
  refine lv_iconst (v := nI (1)) hx hb dW_334 (by decide) ?_
  refine r_add hx hb dW_335 ?_
  refine r_sld (k := i + 1) (by omega) (by omega) hx hb hX hbl hbA hS dW_336 ?_
  refine lv_aload_n hx hb dW_337 rfl (lv_at hl 0 rfl) ?_
  refine lv_iload_n hx hb dW_338 rfl (lv_at hl 3 rfl) ?_
  refine lv_iconst (v := nI (2)) hx hb dW_339 (by decide) ?_
  refine r_add hx hb dW_340 ?_
  refine r_sld (k := i + 2) (by omega) (by omega) hx hb hX hbl hbA hS dW_341 ?_
  have hPx := pm_P hr hP
  have hDx := pm_D hr hD
  refine wr_calli (w2 := wO cc (a 0) bb y r ++ wM cc q u) (va_runV (As := [.int (xs (i + 1)), .int (xs (i + 2))]) (rest := []) S (kT_position D cc a (bb r) g (fun r => bb r 0) x (y r) H.size r hr rfl (xs (i + 1)) (xs (i + 2)) vp hvp hvp1 hz ok kr) (cwV 2 hts (gd_V wm_196 wm_197 wm_198 wm_1 wm_199) rfl rfl rfl (by decide +kernel) ⟨(Nat.le_of_ble_eq_true rfl), (Nat.le_of_ble_eq_true rfl)⟩) (wr_preV (q0 := 17) (P_left hPx) hE (D_left hDx) rfl rfl) rfl rfl hl.1 rfl (lv_room (Nat.le_of_ble_eq_true rfl)) dW_342 ⟨(Nat.le_of_ble_eq_true rfl), (Nat.le_of_ble_eq_true rfl)⟩) hPx hDx hS hA (fun v w H locs hrc hP hD hS => ?_)
  have hP := pm_P' hr hP
  have hD := pm_D' hr hD
  refine lv_aload_n hx hb dW_345 rfl (lv_at hl 2 rfl) ?_
  refine lv_aload_n hx hb dW_346 rfl (lv_at hl 0 rfl) ?_
  refine lv_iload_n hx hb dW_347 rfl (lv_at hl 3 rfl) ?_
  refine lv_iconst (v := nI (1)) hx hb dW_348 (by decide) ?_
  refine r_add hx hb dW_349 ?_
  refine r_sld (k := i + 1) (by omega) (by omega) hx hb hX hbl hbA hS dW_350 ?_
  refine lv_aload_n hx hb dW_351 rfl (lv_at hl 0 rfl) ?_
  refine lv_iload_n hx hb dW_352 rfl (lv_at hl 3 rfl) ?_
  refine lv_iconst (v := nI (2)) hx hb dW_353 (by decide) ?_
  refine r_add hx hb dW_354 ?_
  refine r_sld (k := i + 2) (by omega) (by omega) hx hb hX hbl hbA hS dW_355 ?_
  have hPy := sw_P hP
  have hDy := sw_D hD
  refine wr_calli (w2 := wC cc a bb g w.1 (va_up y r w.2)) (va_runV (As := [.int (xs (i + 1)), .int (xs (i + 2))]) (rest := [.int v]) S (kM_position D cc q u H.size (xs (i + 1)) (xs (i + 2)) xs9 hxs hpar okm) (cwV 2 hts (gd_V wm_347 wm_348 wm_349 wm_4 wm_350) rfl rfl rfl (by decide +kernel) ⟨(Nat.le_of_ble_eq_true rfl), (Nat.le_of_ble_eq_true rfl)⟩) (wr_preV (q0 := 0) (P_left hPy) hE (D_left hDy) rfl rfl) rfl rfl hl.1 rfl (lv_room (Nat.le_of_ble_eq_true rfl)) dW_356 ⟨(Nat.le_of_ble_eq_true rfl), (Nat.le_of_ble_eq_true rfl)⟩) hPy hDy hS hA (fun v' u' H locs hrm hP hD hS => ?_)
  have hP := sw_P hP
  have hD := sw_D hD
  obtain ⟨hv, hI2⟩ : StepP INV y r v v' w u' := h_pos x y u r xs9 vp _ _ v v' w u' hI hr hxs hvp hrc hrm
  refine lv_icmp_eq (tgt := 555) hx hb dW_359 (by decide) (fun _ => ?_) (fun c_ => absurd hv c_)
  exact kk _ _ _ H locs ls hI2 hP hD hS hl

set_option maxHeartbeats 4000000 in
set_option maxRecDepth 100000 in
theorem law_8 {INV : LgS → (Nat → RpS) → MS → Prop} (HP : PureP INV) {p : Program} {e : Env} {s : State} {m : MethodId} {below : List Frame} {meth : Method} {c : Code} (l : Launch) {b L : Nat} {xs : Nat → Int32} (hL : L ≤ 2048) (C0 : lw_At p s m meth c b L xs) (D : va_G) (cc : Nat → ClassId) (a : Nat → Nat) (bb : Nat → Nat → Nat) (g q : Nat → Nat) (hE : EN D cc s) {i : Nat} (hi : i + 4 ≤ L) (kk : ∀ (x : LgS) (y : Nat → RpS) (u : MS) (H : Heap) (locs : List Loc) (ls : Array Slot), INV x y u → va_P D vwCl (wC cc a bb g x y ++ wM cc q u) H → va_D (fun q : Nat => s.heap.size ≤ q) (wC cc a bb g x y ++ wM cc q u) → va_S (fun q : Nat => s.heap.size ≤ q) s.heap H locs → lv_has ls 4 [(0, .ref b), (1, .ref (g 0)), (2, .ref (q 0)), (3, .int (nI i))] → W p l e room_1 s m #[Value.ref b] below meth c H locs 51 4298 (lw_Z below #[Value.ref b] s) (F0 m 555 ls [])) (x : LgS) (y : Nat → RpS) (u : MS) (H : Heap) (locs : List Loc) (ls : Array Slot) (hI : INV x y u) (hP : va_P D vwCl (wC cc a bb g x y ++ wM cc q u) H) (hD : va_D (fun q : Nat => s.heap.size ≤ q) (wC cc a bb g x y ++ wM cc q u)) (hS : va_S (fun q : Nat => s.heap.size ≤ q) s.heap H locs) (hl : lv_has ls 4 [(0, .ref b), (1, .ref (g 0)), (2, .ref (q 0)), (3, .int (nI i))]) : W p l e room_1 s m #[Value.ref b] below meth c H locs 51 4298 (lw_Z below #[Value.ref b] s) (F0 m 364 ls []) := by
  obtain ⟨hx, hb, hr0, hml, hown, hts0, hX, hbl, hlocks, hgv⟩ := id C0
  have hA : ∀ q : Nat, s.heap.size ≤ q → (fun q : Nat => s.heap.size ≤ q) q := fun _ h => h
  have hbA : ¬ (fun q : Nat => s.heap.size ≤ q) b := Nat.not_le.mpr hbl
  have hts := hE.ts #[Value.ref b]
  have S : CallFix p m c code 4 s #[Value.ref b] wAll R_law := ⟨hx, hb, hml, hown, hts⟩
  obtain ⟨h_init, h_base, h_ins, h_ers, h_dlv, h_syn, h_col, h_len, h_at, h_pos, h_sam, h_cnt, h_stp, h_knw, h_stb, h_kpt, h_wai, h_up⟩ := id HP
  obtain ⟨hBC, hBM⟩ := h_base x y u hI
  obtain ⟨ok, hel, ht, hp1, hRr, hdv, hsy, hpl⟩ := hBC
  obtain ⟨okm, hpar, hg9, hl1, hid, hsyM, xs9, hxs⟩ := hBM
  obtain ⟨r, hr, hz⟩ := rsel (xs (i + 1))
  obtain ⟨kr, hgs, hkc, hsn, hdr⟩ := hRr r hr
  obtain ⟨t, ht3, hz2⟩ := rsel (xs (i + 2))
  refine lv_aload_n hx hb dW_364 rfl (lv_at hl 1 rfl) ?_
  refine lv_aload_n hx hb dW_365 rfl (lv_at hl 0 rfl) ?_
  refine lv_iload_n hx hb dW_366 rfl (lv_at hl 3 rfl) ?_
  refine lv_iconst (v := nI (1)) hx hb dW_367 (by decide) ?_
  refine r_add hx hb dW_368 ?_
  refine r_sld (k := i + 1) (by omega) (by omega) hx hb hX hbl hbA hS dW_369 ?_
  refine lv_aload_n hx hb dW_370 rfl (lv_at hl 0 rfl) ?_
  refine lv_iload_n hx hb dW_371 rfl (lv_at hl 3 rfl) ?_
  refine lv_iconst (v := nI (2)) hx hb dW_372 (by decide) ?_
  refine r_add hx hb dW_373 ?_
  refine r_sld (k := i + 2) (by omega) (by omega) hx hb hX hbl hbA hS dW_374 ?_
  by_cases hrt : r = t
  · subst hrt
    have hPx := pm_P hr hP
    have hDx := pm_D hr hD
    refine wr_calli (w2 := wO cc (a 0) bb y r ++ wM cc q u) (va_runV (As := [.int (xs (i + 1)), .int (xs (i + 2))]) (rest := []) S (kT_same_s D cc a (bb r) g (fun r => bb r 0) x (y r) H.size r hr rfl (xs (i + 1)) (xs (i + 2)) hz hz2 ok kr) (cwV 2 hts (gd_V wm_204 wm_205 wm_206 wm_1 wm_207) rfl rfl rfl (by decide +kernel) ⟨(Nat.le_of_ble_eq_true rfl), (Nat.le_of_ble_eq_true rfl)⟩) (wr_preV (q0 := 17) (P_left hPx) hE (D_left hDx) rfl rfl) rfl rfl hl.1 rfl (lv_room (Nat.le_of_ble_eq_true rfl)) dW_375 ⟨(Nat.le_of_ble_eq_true rfl), (Nat.le_of_ble_eq_true rfl)⟩) hPx hDx hS hA (fun v w H locs hrc hP hD hS => ?_)
    have hP := pm_P' hr hP
    have hD := pm_D' hr hD
    refine lv_aload_n hx hb dW_378 rfl (lv_at hl 2 rfl) ?_
    refine lv_aload_n hx hb dW_379 rfl (lv_at hl 0 rfl) ?_
    refine lv_iload_n hx hb dW_380 rfl (lv_at hl 3 rfl) ?_
    refine lv_iconst (v := nI (1)) hx hb dW_381 (by decide) ?_
    refine r_add hx hb dW_382 ?_
    refine r_sld (k := i + 1) (by omega) (by omega) hx hb hX hbl hbA hS dW_383 ?_
    refine lv_aload_n hx hb dW_384 rfl (lv_at hl 0 rfl) ?_
    refine lv_iload_n hx hb dW_385 rfl (lv_at hl 3 rfl) ?_
    refine lv_iconst (v := nI (2)) hx hb dW_386 (by decide) ?_
    refine r_add hx hb dW_387 ?_
    refine r_sld (k := i + 2) (by omega) (by omega) hx hb hX hbl hbA hS dW_388 ?_
    have hPy := sw_P hP
    have hDy := sw_D hD
    refine wr_calli (w2 := wC cc a bb g w.1 (va_up y r w.2)) (va_runV (As := [.int (xs (i + 1)), .int (xs (i + 2))]) (rest := [.int v]) S (kM_same D cc q u H.size (xs (i + 1)) (xs (i + 2)) xs9 hxs hpar okm) (cwV 2 hts (gd_V wm_351 wm_352 wm_353 wm_4 wm_354) rfl rfl rfl (by decide +kernel) ⟨(Nat.le_of_ble_eq_true rfl), (Nat.le_of_ble_eq_true rfl)⟩) (wr_preV (q0 := 0) (P_left hPy) hE (D_left hDy) rfl rfl) rfl rfl hl.1 rfl (lv_room (Nat.le_of_ble_eq_true rfl)) dW_389 ⟨(Nat.le_of_ble_eq_true rfl), (Nat.le_of_ble_eq_true rfl)⟩) hPy hDy hS hA (fun v' u' H locs hrm hP hD hS => ?_)
    have hP := sw_P hP
    have hD := sw_D hD
    obtain ⟨hv, hI2⟩ : StepP INV y r v v' w u' := h_sam x y u r _ xs9 _ _ v v' w u' hI hr (by assumption) hxs hrc hrm
    refine lv_icmp_eq (tgt := 555) hx hb dW_392 (by decide) (fun _ => ?_) (fun c_ => absurd hv c_)
    exact kk _ _ _ H locs ls hI2 hP hD hS hl
  · obtain ⟨kr2, -, -, -, -⟩ := hRr t ht3
    have hPx := pn_P hr ht3 hrt hP
    have hDx := pn_D hr ht3 hrt hD
    refine wr_calli (w2 := wR cc (a 0) (bb (3 - r - t)) (y (3 - r - t)) ++ wM cc q u) (va_runV (As := [.int (xs (i + 1)), .int (xs (i + 2))]) (rest := []) S (kT_same D cc a (bb r) (bb t) g (fun r => bb r 0) x (y r) (y t) H.size r hr rfl t ht3 rfl (xs (i + 1)) (xs (i + 2)) hz hz2 ok kr kr2) (cwV 2 hts (gd_V wm_204 wm_205 wm_206 wm_1 wm_207) rfl rfl rfl (by decide +kernel) ⟨(Nat.le_of_ble_eq_true rfl), (Nat.le_of_ble_eq_true rfl)⟩) (wr_preV (q0 := 27) (P_left hPx) hE (D_left hDx) rfl rfl) rfl rfl hl.1 rfl (lv_room (Nat.le_of_ble_eq_true rfl)) dW_375 ⟨(Nat.le_of_ble_eq_true rfl), (Nat.le_of_ble_eq_true rfl)⟩) hPx hDx hS hA (fun v w H locs hrc hP hD hS => ?_)
    have hP := pn_P' hr ht3 hrt hP
    have hD := pn_D' hr ht3 hrt hD
    refine lv_aload_n hx hb dW_378 rfl (lv_at hl 2 rfl) ?_
    refine lv_aload_n hx hb dW_379 rfl (lv_at hl 0 rfl) ?_
    refine lv_iload_n hx hb dW_380 rfl (lv_at hl 3 rfl) ?_
    refine lv_iconst (v := nI (1)) hx hb dW_381 (by decide) ?_
    refine r_add hx hb dW_382 ?_
    refine r_sld (k := i + 1) (by omega) (by omega) hx hb hX hbl hbA hS dW_383 ?_
    refine lv_aload_n hx hb dW_384 rfl (lv_at hl 0 rfl) ?_
    refine lv_iload_n hx hb dW_385 rfl (lv_at hl 3 rfl) ?_
    refine lv_iconst (v := nI (2)) hx hb dW_386 (by decide) ?_
    refine r_add hx hb dW_387 ?_
    refine r_sld (k := i + 2) (by omega) (by omega) hx hb hX hbl hbA hS dW_388 ?_
    have hPy := sw_P hP
    have hDy := sw_D hD
    refine wr_calli (w2 := wC cc a bb g w.1 (va_up y r w.2)) (va_runV (As := [.int (xs (i + 1)), .int (xs (i + 2))]) (rest := [.int v]) S (kM_same D cc q u H.size (xs (i + 1)) (xs (i + 2)) xs9 hxs hpar okm) (cwV 2 hts (gd_V wm_351 wm_352 wm_353 wm_4 wm_354) rfl rfl rfl (by decide +kernel) ⟨(Nat.le_of_ble_eq_true rfl), (Nat.le_of_ble_eq_true rfl)⟩) (wr_preV (q0 := 0) (P_left hPy) hE (D_left hDy) rfl rfl) rfl rfl hl.1 rfl (lv_room (Nat.le_of_ble_eq_true rfl)) dW_389 ⟨(Nat.le_of_ble_eq_true rfl), (Nat.le_of_ble_eq_true rfl)⟩) hPy hDy hS hA (fun v' u' H locs hrm hP hD hS => ?_)
    have hP := sw_P hP
    have hD := sw_D hD
    obtain ⟨hv, hI2⟩ : StepP INV y r v v' w u' := h_sam x y u r _ xs9 _ _ v v' w u' hI hr (by assumption) hxs hrc hrm
    refine lv_icmp_eq (tgt := 555) hx hb dW_392 (by decide) (fun _ => ?_) (fun c_ => absurd hv c_)
    exact kk _ _ _ H locs ls hI2 hP hD hS hl

set_option maxHeartbeats 4000000 in
set_option maxRecDepth 100000 in
theorem law_9 {INV : LgS → (Nat → RpS) → MS → Prop} (HP : PureP INV) {p : Program} {e : Env} {s : State} {m : MethodId} {below : List Frame} {meth : Method} {c : Code} (l : Launch) {b L : Nat} {xs : Nat → Int32} (hL : L ≤ 2048) (C0 : lw_At p s m meth c b L xs) (D : va_G) (cc : Nat → ClassId) (a : Nat → Nat) (bb : Nat → Nat → Nat) (g q : Nat → Nat) (hE : EN D cc s) {i : Nat} (hi : i + 4 ≤ L) (kk : ∀ (x : LgS) (y : Nat → RpS) (u : MS) (H : Heap) (locs : List Loc) (ls : Array Slot), INV x y u → va_P D vwCl (wC cc a bb g x y ++ wM cc q u) H → va_D (fun q : Nat => s.heap.size ≤ q) (wC cc a bb g x y ++ wM cc q u) → va_S (fun q : Nat => s.heap.size ≤ q) s.heap H locs → lv_has ls 4 [(0, .ref b), (1, .ref (g 0)), (2, .ref (q 0)), (3, .int (nI i))] → W p l e room_1 s m #[Value.ref b] below meth c H locs 51 4298 (lw_Z below #[Value.ref b] s) (F0 m 555 ls [])) (x : LgS) (y : Nat → RpS) (u : MS) (H : Heap) (locs : List Loc) (ls : Array Slot) (hI : INV x y u) (hP : va_P D vwCl (wC cc a bb g x y ++ wM cc q u) H) (hD : va_D (fun q : Nat => s.heap.size ≤ q) (wC cc a bb g x y ++ wM cc q u)) (hS : va_S (fun q : Nat => s.heap.size ≤ q) s.heap H locs) (hl : lv_has ls 4 [(0, .ref b), (1, .ref (g 0)), (2, .ref (q 0)), (3, .int (nI i))]) : W p l e room_1 s m #[Value.ref b] below meth c H locs 51 4298 (lw_Z below #[Value.ref b] s) (F0 m 397 ls []) := by
  obtain ⟨hx, hb, hr0, hml, hown, hts0, hX, hbl, hlocks, hgv⟩ := id C0
  have hA : ∀ q : Nat, s.heap.size ≤ q → (fun q : Nat => s.heap.size ≤ q) q := fun _ h => h
  have hbA : ¬ (fun q : Nat => s.heap.size ≤ q) b := Nat.not_le.mpr hbl
  have hts := hE.ts #[Value.ref b]
  have S : CallFix p m c code 4 s #[Value.ref b] wAll R_law := ⟨hx, hb, hml, hown, hts⟩
  obtain ⟨h_init, h_base, h_ins, h_ers, h_dlv, h_syn, h_col, h_len, h_at, h_pos, h_sam, h_cnt, h_stp, h_knw, h_stb, h_kpt, h_wai, h_up⟩ := id HP
  obtain ⟨hBC, hBM⟩ := h_base x y u hI
  obtain ⟨ok, hel, ht, hp1, hRr, hdv, hsy, hpl⟩ := hBC
  obtain ⟨okm, hpar, hg9, hl1, hid, hsyM, xs9, hxs⟩ := hBM
  obtain ⟨r, hr⟩ : ∃ r : Nat, r < 3 := ⟨0, by decide⟩
  obtain ⟨kr, hgs, hkc, hsn, hdr⟩ := hRr r hr
  refine lv_aload_n hx hb dW_397 rfl (lv_at hl 1 rfl) ?_
  have hPx := pm_P hr hP
  have hDx := pm_D hr hD
  refine wr_calli (w2 := wO cc (a 0) bb y r ++ wM cc q u) (va_runV (As := []) (rest := []) S (kT_operations D cc a (bb r) g (fun r => bb r 0) x (y r) H.size ok kr) (cwV 0 hts (gd_V wm_212 wm_213 wm_214 wm_1 wm_215) rfl rfl rfl (by decide +kernel) ⟨(Nat.le_of_ble_eq_true rfl), (Nat.le_of_ble_eq_true rfl)⟩) (wr_preV (q0 := 17) (P_left hPx) hE (D_left hDx) rfl rfl) rfl rfl hl.1 rfl (lv_room (Nat.le_of_ble_eq_true rfl)) dW_398 ⟨(Nat.le_of_ble_eq_true rfl), (Nat.le_of_ble_eq_true rfl)⟩) hPx hDx hS hA (fun v w H locs hrc hP hD hS => ?_)
  have hP := pm_P' hr hP
  have hD := pm_D' hr hD
  refine lv_aload_n hx hb dW_401 rfl (lv_at hl 2 rfl) ?_
  have hPy := sw_P hP
  have hDy := sw_D hD
  refine wr_calli (w2 := wC cc a bb g w.1 (va_up y r w.2)) (va_runV (As := []) (rest := [.int v]) S (kM_operations_p D cc q u H.size okm) (cwV 0 hts (gd_V wm_355 wm_356 wm_357 wm_4 wm_358) rfl rfl rfl (by decide +kernel) ⟨(Nat.le_of_ble_eq_true rfl), (Nat.le_of_ble_eq_true rfl)⟩) (wr_preV (q0 := 0) (P_left hPy) hE (D_left hDy) rfl rfl) rfl rfl hl.1 rfl (lv_room (Nat.le_of_ble_eq_true rfl)) dW_402 ⟨(Nat.le_of_ble_eq_true rfl), (Nat.le_of_ble_eq_true rfl)⟩) hPy hDy hS hA (fun v' u' H locs hrm hP hD hS => ?_)
  have hP := sw_P hP
  have hD := sw_D hD
  obtain ⟨hv, hI2⟩ : StepP INV y r v v' w u' := (by obtain ⟨e1, e2⟩ := hrc; obtain ⟨e3, e4⟩ := hrm; rw [e1, e2, e3, e4]; exact ⟨by rw [h_cnt x y u hI], h_up x y u r hI hr⟩)
  refine lv_icmp_eq (tgt := 555) hx hb dW_405 (by decide) (fun _ => ?_) (fun c_ => absurd hv c_)
  exact kk _ _ _ H locs ls hI2 hP hD hS hl

set_option maxHeartbeats 4000000 in
set_option maxRecDepth 100000 in
theorem law_10 {INV : LgS → (Nat → RpS) → MS → Prop} (HP : PureP INV) {p : Program} {e : Env} {s : State} {m : MethodId} {below : List Frame} {meth : Method} {c : Code} (l : Launch) {b L : Nat} {xs : Nat → Int32} (hL : L ≤ 2048) (C0 : lw_At p s m meth c b L xs) (D : va_G) (cc : Nat → ClassId) (a : Nat → Nat) (bb : Nat → Nat → Nat) (g q : Nat → Nat) (hE : EN D cc s) {i : Nat} (hi : i + 4 ≤ L) (kk : ∀ (x : LgS) (y : Nat → RpS) (u : MS) (H : Heap) (locs : List Loc) (ls : Array Slot), INV x y u → va_P D vwCl (wC cc a bb g x y ++ wM cc q u) H → va_D (fun q : Nat => s.heap.size ≤ q) (wC cc a bb g x y ++ wM cc q u) → va_S (fun q : Nat => s.heap.size ≤ q) s.heap H locs → lv_has ls 4 [(0, .ref b), (1, .ref (g 0)), (2, .ref (q 0)), (3, .int (nI i))] → W p l e room_1 s m #[Value.ref b] below meth c H locs 51 4298 (lw_Z below #[Value.ref b] s) (F0 m 555 ls [])) (x : LgS) (y : Nat → RpS) (u : MS) (H : Heap) (locs : List Loc) (ls : Array Slot) (hI : INV x y u) (hP : va_P D vwCl (wC cc a bb g x y ++ wM cc q u) H) (hD : va_D (fun q : Nat => s.heap.size ≤ q) (wC cc a bb g x y ++ wM cc q u)) (hS : va_S (fun q : Nat => s.heap.size ≤ q) s.heap H locs) (hl : lv_has ls 4 [(0, .ref b), (1, .ref (g 0)), (2, .ref (q 0)), (3, .int (nI i))]) : W p l e room_1 s m #[Value.ref b] below meth c H locs 51 4298 (lw_Z below #[Value.ref b] s) (F0 m 410 ls []) := by
  obtain ⟨hx, hb, hr0, hml, hown, hts0, hX, hbl, hlocks, hgv⟩ := id C0
  have hA : ∀ q : Nat, s.heap.size ≤ q → (fun q : Nat => s.heap.size ≤ q) q := fun _ h => h
  have hbA : ¬ (fun q : Nat => s.heap.size ≤ q) b := Nat.not_le.mpr hbl
  have hts := hE.ts #[Value.ref b]
  have S : CallFix p m c code 4 s #[Value.ref b] wAll R_law := ⟨hx, hb, hml, hown, hts⟩
  obtain ⟨h_init, h_base, h_ins, h_ers, h_dlv, h_syn, h_col, h_len, h_at, h_pos, h_sam, h_cnt, h_stp, h_knw, h_stb, h_kpt, h_wai, h_up⟩ := id HP
  obtain ⟨hBC, hBM⟩ := h_base x y u hI
  obtain ⟨ok, hel, ht, hp1, hRr, hdv, hsy, hpl⟩ := hBC
  obtain ⟨okm, hpar, hg9, hl1, hid, hsyM, xs9, hxs⟩ := hBM
  obtain ⟨r, hr⟩ : ∃ r : Nat, r < 3 := ⟨0, by decide⟩
  obtain ⟨kr, hgs, hkc, hsn, hdr⟩ := hRr r hr
  refine lv_aload_n hx hb dW_410 rfl (lv_at hl 1 rfl) ?_
  refine lv_aload_n hx hb dW_411 rfl (lv_at hl 0 rfl) ?_
  refine lv_iload_n hx hb dW_412 rfl (lv_at hl 3 rfl) ?_
  refine lv_iconst (v := nI (1)) hx hb dW_413 (by decide) ?_
  refine r_add hx hb dW_414 ?_
  refine r_sld (k := i + 1) (by omega) (by omega) hx hb hX hbl hbA hS dW_415 ?_
  have hPx := pm_P hr hP
  have hDx := pm_D hr hD
  refine wr_calli (w2 := wO cc (a 0) bb y r ++ wM cc q u) (va_runV (As := [.int (xs (i + 1))]) (rest := []) S (kT_stamp D cc a (bb r) g (fun r => bb r 0) x (y r) H.size (xs (i + 1)) ok kr) (cwV 1 hts (gd_V wm_216 wm_217 wm_218 wm_1 wm_219) rfl rfl rfl (by decide +kernel) ⟨(Nat.le_of_ble_eq_true rfl), (Nat.le_of_ble_eq_true rfl)⟩) (wr_preV (q0 := 17) (P_left hPx) hE (D_left hDx) rfl rfl) rfl rfl hl.1 rfl (lv_room (Nat.le_of_ble_eq_true rfl)) dW_416 ⟨(Nat.le_of_ble_eq_true rfl), (Nat.le_of_ble_eq_true rfl)⟩) hPx hDx hS hA (fun v w H locs hrc hP hD hS => ?_)
  have hP := pm_P' hr hP
  have hD := pm_D' hr hD
  refine lv_aload_n hx hb dW_419 rfl (lv_at hl 2 rfl) ?_
  refine lv_aload_n hx hb dW_420 rfl (lv_at hl 0 rfl) ?_
  refine lv_iload_n hx hb dW_421 rfl (lv_at hl 3 rfl) ?_
  refine lv_iconst (v := nI (1)) hx hb dW_422 (by decide) ?_
  refine r_add hx hb dW_423 ?_
  refine r_sld (k := i + 1) (by omega) (by omega) hx hb hX hbl hbA hS dW_424 ?_
  have hPy := sw_P hP
  have hDy := sw_D hD
  refine wr_calli (w2 := wC cc a bb g w.1 (va_up y r w.2)) (va_runV (As := [.int (xs (i + 1))]) (rest := [.int v]) S (kM_stamp D cc q u H.size (xs (i + 1)) okm) (cwV 1 hts (gd_V wm_359 wm_360 wm_361 wm_4 wm_362) rfl rfl rfl (by decide +kernel) ⟨(Nat.le_of_ble_eq_true rfl), (Nat.le_of_ble_eq_true rfl)⟩) (wr_preV (q0 := 0) (P_left hPy) hE (D_left hDy) rfl rfl) rfl rfl hl.1 rfl (lv_room (Nat.le_of_ble_eq_true rfl)) dW_425 ⟨(Nat.le_of_ble_eq_true rfl), (Nat.le_of_ble_eq_true rfl)⟩) hPy hDy hS hA (fun v' u' H locs hrm hP hD hS => ?_)
  have hP := sw_P hP
  have hD := sw_D hD
  obtain ⟨hv, hI2⟩ : StepP INV y r v v' w u' := h_stp x y u r _ v v' w u' hI hr hrc hrm
  refine lv_icmp_eq (tgt := 555) hx hb dW_428 (by decide) (fun _ => ?_) (fun c_ => absurd hv c_)
  exact kk _ _ _ H locs ls hI2 hP hD hS hl

set_option maxHeartbeats 4000000 in
set_option maxRecDepth 100000 in
theorem law_11 {INV : LgS → (Nat → RpS) → MS → Prop} (HP : PureP INV) {p : Program} {e : Env} {s : State} {m : MethodId} {below : List Frame} {meth : Method} {c : Code} (l : Launch) {b L : Nat} {xs : Nat → Int32} (hL : L ≤ 2048) (C0 : lw_At p s m meth c b L xs) (D : va_G) (cc : Nat → ClassId) (a : Nat → Nat) (bb : Nat → Nat → Nat) (g q : Nat → Nat) (hE : EN D cc s) {i : Nat} (hi : i + 4 ≤ L) (kk : ∀ (x : LgS) (y : Nat → RpS) (u : MS) (H : Heap) (locs : List Loc) (ls : Array Slot), INV x y u → va_P D vwCl (wC cc a bb g x y ++ wM cc q u) H → va_D (fun q : Nat => s.heap.size ≤ q) (wC cc a bb g x y ++ wM cc q u) → va_S (fun q : Nat => s.heap.size ≤ q) s.heap H locs → lv_has ls 4 [(0, .ref b), (1, .ref (g 0)), (2, .ref (q 0)), (3, .int (nI i))] → W p l e room_1 s m #[Value.ref b] below meth c H locs 51 4298 (lw_Z below #[Value.ref b] s) (F0 m 555 ls [])) (x : LgS) (y : Nat → RpS) (u : MS) (H : Heap) (locs : List Loc) (ls : Array Slot) (hI : INV x y u) (hP : va_P D vwCl (wC cc a bb g x y ++ wM cc q u) H) (hD : va_D (fun q : Nat => s.heap.size ≤ q) (wC cc a bb g x y ++ wM cc q u)) (hS : va_S (fun q : Nat => s.heap.size ≤ q) s.heap H locs) (hl : lv_has ls 4 [(0, .ref b), (1, .ref (g 0)), (2, .ref (q 0)), (3, .int (nI i))]) : W p l e room_1 s m #[Value.ref b] below meth c H locs 51 4298 (lw_Z below #[Value.ref b] s) (F0 m 433 ls []) := by
  obtain ⟨hx, hb, hr0, hml, hown, hts0, hX, hbl, hlocks, hgv⟩ := id C0
  have hA : ∀ q : Nat, s.heap.size ≤ q → (fun q : Nat => s.heap.size ≤ q) q := fun _ h => h
  have hbA : ¬ (fun q : Nat => s.heap.size ≤ q) b := Nat.not_le.mpr hbl
  have hts := hE.ts #[Value.ref b]
  have S : CallFix p m c code 4 s #[Value.ref b] wAll R_law := ⟨hx, hb, hml, hown, hts⟩
  obtain ⟨h_init, h_base, h_ins, h_ers, h_dlv, h_syn, h_col, h_len, h_at, h_pos, h_sam, h_cnt, h_stp, h_knw, h_stb, h_kpt, h_wai, h_up⟩ := id HP
  obtain ⟨hBC, hBM⟩ := h_base x y u hI
  obtain ⟨ok, hel, ht, hp1, hRr, hdv, hsy, hpl⟩ := hBC
  obtain ⟨okm, hpar, hg9, hl1, hid, hsyM, xs9, hxs⟩ := hBM
  obtain ⟨r, hr, hz⟩ := rsel (xs (i + 1))
  obtain ⟨kr, hgs, hkc, hsn, hdr⟩ := hRr r hr
  refine lv_aload_n hx hb dW_433 rfl (lv_at hl 1 rfl) ?_
  refine lv_aload_n hx hb dW_434 rfl (lv_at hl 0 rfl) ?_
  refine lv_iload_n hx hb dW_435 rfl (lv_at hl 3 rfl) ?_
  refine lv_iconst (v := nI (1)) hx hb dW_436 (by decide) ?_
  refine r_add hx hb dW_437 ?_
  refine r_sld (k := i + 1) (by omega) (by omega) hx hb hX hbl hbA hS dW_438 ?_
  refine lv_aload_n hx hb dW_439 rfl (lv_at hl 0 rfl) ?_
  refine lv_iload_n hx hb dW_440 rfl (lv_at hl 3 rfl) ?_
  refine lv_iconst (v := nI (2)) hx hb dW_441 (by decide) ?_
  refine r_add hx hb dW_442 ?_
  refine r_sld (k := i + 2) (by omega) (by omega) hx hb hX hbl hbA hS dW_443 ?_
  refine lv_aload_n hx hb dW_444 rfl (lv_at hl 0 rfl) ?_
  refine lv_iload_n hx hb dW_445 rfl (lv_at hl 3 rfl) ?_
  refine lv_iconst (v := nI (3)) hx hb dW_446 (by decide) ?_
  refine r_add hx hb dW_447 ?_
  refine r_sld (k := i + 3) (by omega) (by omega) hx hb hX hbl hbA hS dW_448 ?_
  have hPx := pm_P hr hP
  have hDx := pm_D hr hD
  refine wr_calli (w2 := wO cc (a 0) bb y r ++ wM cc q u) (va_runV (As := [.int (xs (i + 1)), .int (xs (i + 2)), .int (xs (i + 3))]) (rest := []) S (kT_known D cc a (bb r) g (fun r => bb r 0) x (y r) H.size r hr rfl (xs (i + 1)) (xs (i + 2)) (xs (i + 3)) hz ok kr) (cwV 3 hts (gd_V wm_220 wm_221 wm_222 wm_1 wm_223) rfl rfl rfl (by decide +kernel) ⟨(Nat.le_of_ble_eq_true rfl), (Nat.le_of_ble_eq_true rfl)⟩) (wr_preV (q0 := 17) (P_left hPx) hE (D_left hDx) rfl rfl) rfl rfl hl.1 rfl (lv_room (Nat.le_of_ble_eq_true rfl)) dW_449 ⟨(Nat.le_of_ble_eq_true rfl), (Nat.le_of_ble_eq_true rfl)⟩) hPx hDx hS hA (fun v w H locs hrc hP hD hS => ?_)
  have hP := pm_P' hr hP
  have hD := pm_D' hr hD
  refine lv_aload_n hx hb dW_452 rfl (lv_at hl 2 rfl) ?_
  refine lv_aload_n hx hb dW_453 rfl (lv_at hl 0 rfl) ?_
  refine lv_iload_n hx hb dW_454 rfl (lv_at hl 3 rfl) ?_
  refine lv_iconst (v := nI (1)) hx hb dW_455 (by decide) ?_
  refine r_add hx hb dW_456 ?_
  refine r_sld (k := i + 1) (by omega) (by omega) hx hb hX hbl hbA hS dW_457 ?_
  refine lv_aload_n hx hb dW_458 rfl (lv_at hl 0 rfl) ?_
  refine lv_iload_n hx hb dW_459 rfl (lv_at hl 3 rfl) ?_
  refine lv_iconst (v := nI (2)) hx hb dW_460 (by decide) ?_
  refine r_add hx hb dW_461 ?_
  refine r_sld (k := i + 2) (by omega) (by omega) hx hb hX hbl hbA hS dW_462 ?_
  refine lv_aload_n hx hb dW_463 rfl (lv_at hl 0 rfl) ?_
  refine lv_iload_n hx hb dW_464 rfl (lv_at hl 3 rfl) ?_
  refine lv_iconst (v := nI (3)) hx hb dW_465 (by decide) ?_
  refine r_add hx hb dW_466 ?_
  refine r_sld (k := i + 3) (by omega) (by omega) hx hb hX hbl hbA hS dW_467 ?_
  have hPy := sw_P hP
  have hDy := sw_D hD
  refine wr_calli (w2 := wC cc a bb g w.1 (va_up y r w.2)) (va_runV (As := [.int (xs (i + 1)), .int (xs (i + 2)), .int (xs (i + 3))]) (rest := [.int v]) S (kM_known_p D cc q u H.size (xs (i + 1)) (xs (i + 2)) (xs (i + 3)) okm) (cwV 3 hts (gd_V wm_319 wm_320 wm_321 wm_4 wm_322) rfl rfl rfl (by decide +kernel) ⟨(Nat.le_of_ble_eq_true rfl), (Nat.le_of_ble_eq_true rfl)⟩) (wr_preV (q0 := 0) (P_left hPy) hE (D_left hDy) rfl rfl) rfl rfl hl.1 rfl (lv_room (Nat.le_of_ble_eq_true rfl)) dW_468 ⟨(Nat.le_of_ble_eq_true rfl), (Nat.le_of_ble_eq_true rfl)⟩) hPy hDy hS hA (fun v' u' H locs hrm hP hD hS => ?_)
  have hP := sw_P hP
  have hD := sw_D hD
  obtain ⟨hv, hI2⟩ : StepP INV y r v v' w u' := h_knw x y u r _ _ _ v v' w u' hI hr hrc hrm
  refine lv_icmp_eq (tgt := 555) hx hb dW_471 (by decide) (fun _ => ?_) (fun c_ => absurd hv c_)
  exact kk _ _ _ H locs ls hI2 hP hD hS hl

set_option maxHeartbeats 4000000 in
set_option maxRecDepth 100000 in
theorem law_12 {INV : LgS → (Nat → RpS) → MS → Prop} (HP : PureP INV) {p : Program} {e : Env} {s : State} {m : MethodId} {below : List Frame} {meth : Method} {c : Code} (l : Launch) {b L : Nat} {xs : Nat → Int32} (hL : L ≤ 2048) (C0 : lw_At p s m meth c b L xs) (D : va_G) (cc : Nat → ClassId) (a : Nat → Nat) (bb : Nat → Nat → Nat) (g q : Nat → Nat) (hE : EN D cc s) {i : Nat} (hi : i + 4 ≤ L) (kk : ∀ (x : LgS) (y : Nat → RpS) (u : MS) (H : Heap) (locs : List Loc) (ls : Array Slot), INV x y u → va_P D vwCl (wC cc a bb g x y ++ wM cc q u) H → va_D (fun q : Nat => s.heap.size ≤ q) (wC cc a bb g x y ++ wM cc q u) → va_S (fun q : Nat => s.heap.size ≤ q) s.heap H locs → lv_has ls 4 [(0, .ref b), (1, .ref (g 0)), (2, .ref (q 0)), (3, .int (nI i))] → W p l e room_1 s m #[Value.ref b] below meth c H locs 51 4298 (lw_Z below #[Value.ref b] s) (F0 m 555 ls [])) (x : LgS) (y : Nat → RpS) (u : MS) (H : Heap) (locs : List Loc) (ls : Array Slot) (hI : INV x y u) (hP : va_P D vwCl (wC cc a bb g x y ++ wM cc q u) H) (hD : va_D (fun q : Nat => s.heap.size ≤ q) (wC cc a bb g x y ++ wM cc q u)) (hS : va_S (fun q : Nat => s.heap.size ≤ q) s.heap H locs) (hl : lv_has ls 4 [(0, .ref b), (1, .ref (g 0)), (2, .ref (q 0)), (3, .int (nI i))]) : W p l e room_1 s m #[Value.ref b] below meth c H locs 51 4298 (lw_Z below #[Value.ref b] s) (F0 m 476 ls []) := by
  obtain ⟨hx, hb, hr0, hml, hown, hts0, hX, hbl, hlocks, hgv⟩ := id C0
  have hA : ∀ q : Nat, s.heap.size ≤ q → (fun q : Nat => s.heap.size ≤ q) q := fun _ h => h
  have hbA : ¬ (fun q : Nat => s.heap.size ≤ q) b := Nat.not_le.mpr hbl
  have hts := hE.ts #[Value.ref b]
  have S : CallFix p m c code 4 s #[Value.ref b] wAll R_law := ⟨hx, hb, hml, hown, hts⟩
  obtain ⟨h_init, h_base, h_ins, h_ers, h_dlv, h_syn, h_col, h_len, h_at, h_pos, h_sam, h_cnt, h_stp, h_knw, h_stb, h_kpt, h_wai, h_up⟩ := id HP
  obtain ⟨hBC, hBM⟩ := h_base x y u hI
  obtain ⟨ok, hel, ht, hp1, hRr, hdv, hsy, hpl⟩ := hBC
  obtain ⟨okm, hpar, hg9, hl1, hid, hsyM, xs9, hxs⟩ := hBM
  obtain ⟨r, hr, hz⟩ := rsel (xs (i + 1))
  obtain ⟨kr, hgs, hkc, hsn, hdr⟩ := hRr r hr
  refine lv_aload_n hx hb dW_476 rfl (lv_at hl 1 rfl) ?_
  refine lv_aload_n hx hb dW_477 rfl (lv_at hl 0 rfl) ?_
  refine lv_iload_n hx hb dW_478 rfl (lv_at hl 3 rfl) ?_
  refine lv_iconst (v := nI (1)) hx hb dW_479 (by decide) ?_
  refine r_add hx hb dW_480 ?_
  refine r_sld (k := i + 1) (by omega) (by omega) hx hb hX hbl hbA hS dW_481 ?_
  refine lv_aload_n hx hb dW_482 rfl (lv_at hl 0 rfl) ?_
  refine lv_iload_n hx hb dW_483 rfl (lv_at hl 3 rfl) ?_
  refine lv_iconst (v := nI (2)) hx hb dW_484 (by decide) ?_
  refine r_add hx hb dW_485 ?_
  refine r_sld (k := i + 2) (by omega) (by omega) hx hb hX hbl hbA hS dW_486 ?_
  have hPx := pm_P hr hP
  have hDx := pm_D hr hD
  refine wr_calli (w2 := wO cc (a 0) bb y r ++ wM cc q u) (va_runV (As := [.int (xs (i + 1)), .int (xs (i + 2))]) (rest := []) S (kT_stable D cc a (bb r) g (fun r => bb r 0) x (y r) H.size r hr rfl (xs (i + 1)) (xs (i + 2)) hz ok kr) (cwV 2 hts (gd_V wm_224 wm_225 wm_226 wm_1 wm_227) rfl rfl rfl (by decide +kernel) ⟨(Nat.le_of_ble_eq_true rfl), (Nat.le_of_ble_eq_true rfl)⟩) (wr_preV (q0 := 17) (P_left hPx) hE (D_left hDx) rfl rfl) rfl rfl hl.1 rfl (lv_room (Nat.le_of_ble_eq_true rfl)) dW_487 ⟨(Nat.le_of_ble_eq_true rfl), (Nat.le_of_ble_eq_true rfl)⟩) hPx hDx hS hA (fun v w H locs hrc hP hD hS => ?_)
  have hP := pm_P' hr hP
  have hD := pm_D' hr hD
  refine lv_aload_n hx hb dW_490 rfl (lv_at hl 2 rfl) ?_
  refine lv_aload_n hx hb dW_491 rfl (lv_at hl 0 rfl) ?_
  refine lv_iload_n hx hb dW_492 rfl (lv_at hl 3 rfl) ?_
  refine lv_iconst (v := nI (1)) hx hb dW_493 (by decide) ?_
  refine r_add hx hb dW_494 ?_
  refine r_sld (k := i + 1) (by omega) (by omega) hx hb hX hbl hbA hS dW_495 ?_
  refine lv_aload_n hx hb dW_496 rfl (lv_at hl 0 rfl) ?_
  refine lv_iload_n hx hb dW_497 rfl (lv_at hl 3 rfl) ?_
  refine lv_iconst (v := nI (2)) hx hb dW_498 (by decide) ?_
  refine r_add hx hb dW_499 ?_
  refine r_sld (k := i + 2) (by omega) (by omega) hx hb hX hbl hbA hS dW_500 ?_
  have hPy := sw_P hP
  have hDy := sw_D hD
  refine wr_calli (w2 := wC cc a bb g w.1 (va_up y r w.2)) (va_runV (As := [.int (xs (i + 1)), .int (xs (i + 2))]) (rest := [.int v]) S (kM_stable_p D cc q u H.size (xs (i + 1)) (xs (i + 2)) okm) (cwV 2 hts (gd_V wm_323 wm_324 wm_325 wm_4 wm_326) rfl rfl rfl (by decide +kernel) ⟨(Nat.le_of_ble_eq_true rfl), (Nat.le_of_ble_eq_true rfl)⟩) (wr_preV (q0 := 0) (P_left hPy) hE (D_left hDy) rfl rfl) rfl rfl hl.1 rfl (lv_room (Nat.le_of_ble_eq_true rfl)) dW_501 ⟨(Nat.le_of_ble_eq_true rfl), (Nat.le_of_ble_eq_true rfl)⟩) hPy hDy hS hA (fun v' u' H locs hrm hP hD hS => ?_)
  have hP := sw_P hP
  have hD := sw_D hD
  obtain ⟨hv, hI2⟩ : StepP INV y r v v' w u' := h_stb x y u r _ _ v v' w u' hI hr hrc hrm
  refine lv_icmp_eq (tgt := 555) hx hb dW_504 (by decide) (fun _ => ?_) (fun c_ => absurd hv c_)
  exact kk _ _ _ H locs ls hI2 hP hD hS hl

set_option maxHeartbeats 4000000 in
set_option maxRecDepth 100000 in
theorem law_13 {INV : LgS → (Nat → RpS) → MS → Prop} (HP : PureP INV) {p : Program} {e : Env} {s : State} {m : MethodId} {below : List Frame} {meth : Method} {c : Code} (l : Launch) {b L : Nat} {xs : Nat → Int32} (hL : L ≤ 2048) (C0 : lw_At p s m meth c b L xs) (D : va_G) (cc : Nat → ClassId) (a : Nat → Nat) (bb : Nat → Nat → Nat) (g q : Nat → Nat) (hE : EN D cc s) {i : Nat} (hi : i + 4 ≤ L) (kk : ∀ (x : LgS) (y : Nat → RpS) (u : MS) (H : Heap) (locs : List Loc) (ls : Array Slot), INV x y u → va_P D vwCl (wC cc a bb g x y ++ wM cc q u) H → va_D (fun q : Nat => s.heap.size ≤ q) (wC cc a bb g x y ++ wM cc q u) → va_S (fun q : Nat => s.heap.size ≤ q) s.heap H locs → lv_has ls 4 [(0, .ref b), (1, .ref (g 0)), (2, .ref (q 0)), (3, .int (nI i))] → W p l e room_1 s m #[Value.ref b] below meth c H locs 51 4298 (lw_Z below #[Value.ref b] s) (F0 m 555 ls [])) (x : LgS) (y : Nat → RpS) (u : MS) (H : Heap) (locs : List Loc) (ls : Array Slot) (hI : INV x y u) (hP : va_P D vwCl (wC cc a bb g x y ++ wM cc q u) H) (hD : va_D (fun q : Nat => s.heap.size ≤ q) (wC cc a bb g x y ++ wM cc q u)) (hS : va_S (fun q : Nat => s.heap.size ≤ q) s.heap H locs) (hl : lv_has ls 4 [(0, .ref b), (1, .ref (g 0)), (2, .ref (q 0)), (3, .int (nI i))]) : W p l e room_1 s m #[Value.ref b] below meth c H locs 51 4298 (lw_Z below #[Value.ref b] s) (F0 m 509 ls []) := by
  obtain ⟨hx, hb, hr0, hml, hown, hts0, hX, hbl, hlocks, hgv⟩ := id C0
  have hA : ∀ q : Nat, s.heap.size ≤ q → (fun q : Nat => s.heap.size ≤ q) q := fun _ h => h
  have hbA : ¬ (fun q : Nat => s.heap.size ≤ q) b := Nat.not_le.mpr hbl
  have hts := hE.ts #[Value.ref b]
  have S : CallFix p m c code 4 s #[Value.ref b] wAll R_law := ⟨hx, hb, hml, hown, hts⟩
  obtain ⟨h_init, h_base, h_ins, h_ers, h_dlv, h_syn, h_col, h_len, h_at, h_pos, h_sam, h_cnt, h_stp, h_knw, h_stb, h_kpt, h_wai, h_up⟩ := id HP
  obtain ⟨hBC, hBM⟩ := h_base x y u hI
  obtain ⟨ok, hel, ht, hp1, hRr, hdv, hsy, hpl⟩ := hBC
  obtain ⟨okm, hpar, hg9, hl1, hid, hsyM, xs9, hxs⟩ := hBM
  obtain ⟨r, hr, hz⟩ := rsel (xs (i + 1))
  obtain ⟨kr, hgs, hkc, hsn, hdr⟩ := hRr r hr
  refine lv_aload_n hx hb dW_509 rfl (lv_at hl 1 rfl) ?_
  refine lv_aload_n hx hb dW_510 rfl (lv_at hl 0 rfl) ?_
  refine lv_iload_n hx hb dW_511 rfl (lv_at hl 3 rfl) ?_
  refine lv_iconst (v := nI (1)) hx hb dW_512 (by decide) ?_
  refine r_add hx hb dW_513 ?_
  refine r_sld (k := i + 1) (by omega) (by omega) hx hb hX hbl hbA hS dW_514 ?_
  have hPx := pm_P hr hP
  have hDx := pm_D hr hD
  refine wr_calli (w2 := wO cc (a 0) bb y r ++ wM cc q u) (va_runV (As := [.int (xs (i + 1))]) (rest := []) S (kT_kept D cc a (bb r) g (fun r => bb r 0) x (y r) H.size r hr rfl (xs (i + 1)) hz ok kr) (cwV 1 hts (gd_V wm_229 wm_230 wm_231 wm_1 wm_232) rfl rfl rfl (by decide +kernel) ⟨(Nat.le_of_ble_eq_true rfl), (Nat.le_of_ble_eq_true rfl)⟩) (wr_preV (q0 := 17) (P_left hPx) hE (D_left hDx) rfl rfl) rfl rfl hl.1 rfl (lv_room (Nat.le_of_ble_eq_true rfl)) dW_515 ⟨(Nat.le_of_ble_eq_true rfl), (Nat.le_of_ble_eq_true rfl)⟩) hPx hDx hS hA (fun v w H locs hrc hP hD hS => ?_)
  have hP := pm_P' hr hP
  have hD := pm_D' hr hD
  refine lv_aload_n hx hb dW_518 rfl (lv_at hl 2 rfl) ?_
  refine lv_aload_n hx hb dW_519 rfl (lv_at hl 0 rfl) ?_
  refine lv_iload_n hx hb dW_520 rfl (lv_at hl 3 rfl) ?_
  refine lv_iconst (v := nI (1)) hx hb dW_521 (by decide) ?_
  refine r_add hx hb dW_522 ?_
  refine r_sld (k := i + 1) (by omega) (by omega) hx hb hX hbl hbA hS dW_523 ?_
  have hPy := sw_P hP
  have hDy := sw_D hD
  refine wr_calli (w2 := wC cc a bb g w.1 (va_up y r w.2)) (va_runV (As := [.int (xs (i + 1))]) (rest := [.int v]) S (kM_kept D cc q u H.size (xs (i + 1)) okm) (cwV 1 hts (gd_V wm_363 wm_364 wm_365 wm_4 wm_366) rfl rfl rfl (by decide +kernel) ⟨(Nat.le_of_ble_eq_true rfl), (Nat.le_of_ble_eq_true rfl)⟩) (wr_preV (q0 := 0) (P_left hPy) hE (D_left hDy) rfl rfl) rfl rfl hl.1 rfl (lv_room (Nat.le_of_ble_eq_true rfl)) dW_524 ⟨(Nat.le_of_ble_eq_true rfl), (Nat.le_of_ble_eq_true rfl)⟩) hPy hDy hS hA (fun v' u' H locs hrm hP hD hS => ?_)
  have hP := sw_P hP
  have hD := sw_D hD
  obtain ⟨hv, hI2⟩ : StepP INV y r v v' w u' := h_kpt x y u r _ v v' w u' hI hr hrc hrm
  refine lv_icmp_eq (tgt := 555) hx hb dW_527 (by decide) (fun _ => ?_) (fun c_ => absurd hv c_)
  exact kk _ _ _ H locs ls hI2 hP hD hS hl

set_option maxHeartbeats 4000000 in
set_option maxRecDepth 100000 in
theorem law_14 {INV : LgS → (Nat → RpS) → MS → Prop} (HP : PureP INV) {p : Program} {e : Env} {s : State} {m : MethodId} {below : List Frame} {meth : Method} {c : Code} (l : Launch) {b L : Nat} {xs : Nat → Int32} (hL : L ≤ 2048) (C0 : lw_At p s m meth c b L xs) (D : va_G) (cc : Nat → ClassId) (a : Nat → Nat) (bb : Nat → Nat → Nat) (g q : Nat → Nat) (hE : EN D cc s) {i : Nat} (hi : i + 4 ≤ L) (kk : ∀ (x : LgS) (y : Nat → RpS) (u : MS) (H : Heap) (locs : List Loc) (ls : Array Slot), INV x y u → va_P D vwCl (wC cc a bb g x y ++ wM cc q u) H → va_D (fun q : Nat => s.heap.size ≤ q) (wC cc a bb g x y ++ wM cc q u) → va_S (fun q : Nat => s.heap.size ≤ q) s.heap H locs → lv_has ls 4 [(0, .ref b), (1, .ref (g 0)), (2, .ref (q 0)), (3, .int (nI i))] → W p l e room_1 s m #[Value.ref b] below meth c H locs 51 4298 (lw_Z below #[Value.ref b] s) (F0 m 555 ls [])) (x : LgS) (y : Nat → RpS) (u : MS) (H : Heap) (locs : List Loc) (ls : Array Slot) (hI : INV x y u) (hP : va_P D vwCl (wC cc a bb g x y ++ wM cc q u) H) (hD : va_D (fun q : Nat => s.heap.size ≤ q) (wC cc a bb g x y ++ wM cc q u)) (hS : va_S (fun q : Nat => s.heap.size ≤ q) s.heap H locs) (hl : lv_has ls 4 [(0, .ref b), (1, .ref (g 0)), (2, .ref (q 0)), (3, .int (nI i))]) : W p l e room_1 s m #[Value.ref b] below meth c H locs 51 4298 (lw_Z below #[Value.ref b] s) (F0 m 532 ls []) := by
  obtain ⟨hx, hb, hr0, hml, hown, hts0, hX, hbl, hlocks, hgv⟩ := id C0
  have hA : ∀ q : Nat, s.heap.size ≤ q → (fun q : Nat => s.heap.size ≤ q) q := fun _ h => h
  have hbA : ¬ (fun q : Nat => s.heap.size ≤ q) b := Nat.not_le.mpr hbl
  have hts := hE.ts #[Value.ref b]
  have S : CallFix p m c code 4 s #[Value.ref b] wAll R_law := ⟨hx, hb, hml, hown, hts⟩
  obtain ⟨h_init, h_base, h_ins, h_ers, h_dlv, h_syn, h_col, h_len, h_at, h_pos, h_sam, h_cnt, h_stp, h_knw, h_stb, h_kpt, h_wai, h_up⟩ := id HP
  obtain ⟨hBC, hBM⟩ := h_base x y u hI
  obtain ⟨ok, hel, ht, hp1, hRr, hdv, hsy, hpl⟩ := hBC
  obtain ⟨okm, hpar, hg9, hl1, hid, hsyM, xs9, hxs⟩ := hBM
  obtain ⟨r, hr, hz⟩ := rsel (xs (i + 1))
  obtain ⟨kr, hgs, hkc, hsn, hdr⟩ := hRr r hr
  refine lv_aload_n hx hb dW_532 rfl (lv_at hl 1 rfl) ?_
  refine lv_aload_n hx hb dW_533 rfl (lv_at hl 0 rfl) ?_
  refine lv_iload_n hx hb dW_534 rfl (lv_at hl 3 rfl) ?_
  refine lv_iconst (v := nI (1)) hx hb dW_535 (by decide) ?_
  refine r_add hx hb dW_536 ?_
  refine r_sld (k := i + 1) (by omega) (by omega) hx hb hX hbl hbA hS dW_537 ?_
  have hPx := pm_P hr hP
  have hDx := pm_D hr hD
  refine wr_calli (w2 := wO cc (a 0) bb y r ++ wM cc q u) (va_runV (As := [.int (xs (i + 1))]) (rest := []) S (kT_waiting D cc a (bb r) g (fun r => bb r 0) x (y r) H.size r hr rfl (xs (i + 1)) hz ok kr) (cwV 1 hts (gd_V wm_233 wm_234 wm_235 wm_1 wm_236) rfl rfl rfl (by decide +kernel) ⟨(Nat.le_of_ble_eq_true rfl), (Nat.le_of_ble_eq_true rfl)⟩) (wr_preV (q0 := 17) (P_left hPx) hE (D_left hDx) rfl rfl) rfl rfl hl.1 rfl (lv_room (Nat.le_of_ble_eq_true rfl)) dW_538 ⟨(Nat.le_of_ble_eq_true rfl), (Nat.le_of_ble_eq_true rfl)⟩) hPx hDx hS hA (fun v w H locs hrc hP hD hS => ?_)
  have hP := pm_P' hr hP
  have hD := pm_D' hr hD
  refine lv_aload_n hx hb dW_541 rfl (lv_at hl 2 rfl) ?_
  refine lv_aload_n hx hb dW_542 rfl (lv_at hl 0 rfl) ?_
  refine lv_iload_n hx hb dW_543 rfl (lv_at hl 3 rfl) ?_
  refine lv_iconst (v := nI (1)) hx hb dW_544 (by decide) ?_
  refine r_add hx hb dW_545 ?_
  refine r_sld (k := i + 1) (by omega) (by omega) hx hb hX hbl hbA hS dW_546 ?_
  have hPy := sw_P hP
  have hDy := sw_D hD
  refine wr_calli (w2 := wC cc a bb g w.1 (va_up y r w.2)) (va_runV (As := [.int (xs (i + 1))]) (rest := [.int v]) S (kM_waiting D cc q u H.size (xs (i + 1)) okm) (cwV 1 hts (gd_V wm_367 wm_368 wm_369 wm_4 wm_370) rfl rfl rfl (by decide +kernel) ⟨(Nat.le_of_ble_eq_true rfl), (Nat.le_of_ble_eq_true rfl)⟩) (wr_preV (q0 := 0) (P_left hPy) hE (D_left hDy) rfl rfl) rfl rfl hl.1 rfl (lv_room (Nat.le_of_ble_eq_true rfl)) dW_547 ⟨(Nat.le_of_ble_eq_true rfl), (Nat.le_of_ble_eq_true rfl)⟩) hPy hDy hS hA (fun v' u' H locs hrm hP hD hS => ?_)
  have hP := sw_P hP
  have hD := sw_D hD
  obtain ⟨hv, hI2⟩ : StepP INV y r v v' w u' := h_wai x y u r _ v v' w u' hI hr hrc hrm
  refine lv_icmp_eq (tgt := 555) hx hb dW_550 (by decide) (fun _ => ?_) (fun c_ => absurd hv c_)
  exact kk _ _ _ H locs ls hI2 hP hD hS hl
