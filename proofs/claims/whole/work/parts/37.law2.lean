set_option maxHeartbeats 4000000 in
set_option maxRecDepth 100000 in
theorem law_loop {INV : LgS → (Nat → RpS) → MS → Prop} (HP : PureP INV) {p : Program} {e : Env} {s : State} {m : MethodId} {below : List Frame} {meth : Method} {c : Code} (l : Launch) {b L : Nat} {xs : Nat → Int32} (hL : L ≤ 2048) (C0 : lw_At p s m meth c b L xs) (D : va_G) (cc : Nat → ClassId) (a : Nat → Nat) (bb : Nat → Nat → Nat) (g q : Nat → Nat) (hE : EN D cc s) : ∀ (n i : Nat) (x : LgS) (y : Nat → RpS) (u : MS) (H : Heap) (locs : List Loc) (ls : Array Slot), i ≤ L + 3 → L + 4 - i < n → INV x y u → va_P D vwCl (wC cc a bb g x y ++ wM cc q u) H → va_D (fun q : Nat => s.heap.size ≤ q) (wC cc a bb g x y ++ wM cc q u) → va_S (fun q : Nat => s.heap.size ≤ q) s.heap H locs → lv_has ls 4 [(0, .ref b), (1, .ref (g 0)), (2, .ref (q 0)), (3, .int (nI i))] → W p l e room_1 s m #[Value.ref b] below meth c H locs 51 4298 (lw_Z below #[Value.ref b] s) (F0 m 18 ls []) := by
  obtain ⟨hx, hb, hr0, hml, hown, hts0, hX, hbl, hlocks, hgv⟩ := id C0
  have hA : ∀ q : Nat, s.heap.size ≤ q → (fun q : Nat => s.heap.size ≤ q) q := fun _ h => h
  have hbA : ¬ (fun q : Nat => s.heap.size ≤ q) b := Nat.not_le.mpr hbl
  have hts := hE.ts #[Value.ref b]
  have S : CallFix p m c code 4 s #[Value.ref b] wAll R_law := ⟨hx, hb, hml, hown, hts⟩
  intro n
  induction n with
  | zero => intro i x y u H locs ls h1 h2; exact absurd h2 (Nat.not_lt_zero _)
  | succ n ih =>
    intro i x y u H locs ls h1 h2 hI hP hD hS hl
    refine lv_iload_n hx hb dW_18 rfl (lv_at hl 3 rfl) ?_
    refine lv_aload_n hx hb dW_19 rfl (lv_at hl 0 rfl) ?_
    refine va_slen hx hb hX hbl hbA hS dW_20 ?_
    refine lv_iconst (v := nI (4)) hx hb dW_21 (by decide) ?_
    refine lv_isub hx hb dW_22 ?_
    refine lv_icmp_gt (tgt := 561) hx hb dW_23 (by decide) (fun c_23 => ?_) (fun c_23 => ?_)
    · refine lv_iconst (v := 1) hx hb dW_561 (by decide) ?_
      refine va_forget (fun q hq => hS.2.2 q hq) ?_
      refine W.widen (k := 600000) (n := 7302250) (by decide) (by decide) ?_
      exact lw_ret hx hb hr0 hlocks dW_562
    · have hi : i + 4 ≤ L := law_in (by omega) (by omega) c_23
      have K : ∀ (x : LgS) (y : Nat → RpS) (u : MS) (H : Heap) (locs : List Loc) (ls : Array Slot), INV x y u → va_P D vwCl (wC cc a bb g x y ++ wM cc q u) H → va_D (fun q : Nat => s.heap.size ≤ q) (wC cc a bb g x y ++ wM cc q u) → va_S (fun q : Nat => s.heap.size ≤ q) s.heap H locs → lv_has ls 4 [(0, .ref b), (1, .ref (g 0)), (2, .ref (q 0)), (3, .int (nI i))] → W p l e room_1 s m #[Value.ref b] below meth c H locs 51 4298 (lw_Z below #[Value.ref b] s) (F0 m 555 ls []) := by
        intro x y u H locs ls hI hP hD hS hl
        refine lv_iinc (v := nI (i + 4)) (lv' := [(3, .int (nI (i + 4))), (0, .ref b), (1, .ref (g 0)), (2, .ref (q 0))]) hx hb dW_555 hl (k := 3) rfl (nI_add i 4) (by decide) rfl (fun ls hl => ?_)
        refine lv_goto (tgt := 18) hx hb dW_558 (by decide) ?_
        exact ih (i + 4) x y u H locs ls (by omega) (by omega) hI hP hD hS (lv_sub hl [1, 2, 3, 0] rfl)
      refine lv_aload_n hx hb dW_26 rfl (lv_at hl 0 rfl) ?_
      refine lv_iload_n hx hb dW_27 rfl (lv_at hl 3 rfl) ?_
      refine r_sld (k := i) (by omega) (by omega) hx hb hX hbl hbA hS dW_28 ?_
      refine lv_bipush (v := 15) hx hb dW_29 (by decide) ?_
      refine lv_iand hx hb dW_31 ?_
      obtain ⟨j, hj, ej⟩ := pk_andE (xs i) (m := 15) 4 (by decide)
      refine r_top ej ?_
      rcases (show j = 0 ∨ j = 1 ∨ j = 2 ∨ j = 3 ∨ j = 4 ∨ j = 5 ∨ j = 6 ∨ j = 7 ∨ j = 8 ∨ j = 9 ∨ j = 10 ∨ j = 11 ∨ j = 12 ∨ j = 13 ∨ j = 14 ∨ j = 15 by omega) with rfl | rfl | rfl | rfl | rfl | rfl | rfl | rfl | rfl | rfl | rfl | rfl | rfl | rfl | rfl | rfl
      · refine lv_tableIn (off := 76) (tgt := 108) hx hb dW_32 (by decide) (by decide) (by decide) (by decide) ?_
        exact law_0 HP l hL C0 D cc a bb g q hE hi K x y u H locs ls hI hP hD hS hl
      · refine lv_tableIn (off := 121) (tgt := 153) hx hb dW_32 (by decide) (by decide) (by decide) (by decide) ?_
        exact law_1 HP l hL C0 D cc a bb g q hE hi K x y u H locs ls hI hP hD hS hl
      · refine lv_tableIn (off := 154) (tgt := 186) hx hb dW_32 (by decide) (by decide) (by decide) (by decide) ?_
        exact law_2 HP l hL C0 D cc a bb g q hE hi K x y u H locs ls hI hP hD hS hl
      · refine lv_tableIn (off := 187) (tgt := 219) hx hb dW_32 (by decide) (by decide) (by decide) (by decide) ?_
        exact law_3 HP l hL C0 D cc a bb g q hE hi K x y u H locs ls hI hP hD hS hl
      · refine lv_tableIn (off := 220) (tgt := 252) hx hb dW_32 (by decide) (by decide) (by decide) (by decide) ?_
        exact law_4 HP l hL C0 D cc a bb g q hE hi K x y u H locs ls hI hP hD hS hl
      · refine lv_tableIn (off := 243) (tgt := 275) hx hb dW_32 (by decide) (by decide) (by decide) (by decide) ?_
        exact law_5 HP l hL C0 D cc a bb g q hE hi K x y u H locs ls hI hP hD hS hl
      · refine lv_tableIn (off := 266) (tgt := 298) hx hb dW_32 (by decide) (by decide) (by decide) (by decide) ?_
        exact law_6 HP l hL C0 D cc a bb g q hE hi K x y u H locs ls hI hP hD hS hl
      · refine lv_tableIn (off := 299) (tgt := 331) hx hb dW_32 (by decide) (by decide) (by decide) (by decide) ?_
        exact law_7 HP l hL C0 D cc a bb g q hE hi K x y u H locs ls hI hP hD hS hl
      · refine lv_tableIn (off := 332) (tgt := 364) hx hb dW_32 (by decide) (by decide) (by decide) (by decide) ?_
        exact law_8 HP l hL C0 D cc a bb g q hE hi K x y u H locs ls hI hP hD hS hl
      · refine lv_tableIn (off := 365) (tgt := 397) hx hb dW_32 (by decide) (by decide) (by decide) (by decide) ?_
        exact law_9 HP l hL C0 D cc a bb g q hE hi K x y u H locs ls hI hP hD hS hl
      · refine lv_tableIn (off := 378) (tgt := 410) hx hb dW_32 (by decide) (by decide) (by decide) (by decide) ?_
        exact law_10 HP l hL C0 D cc a bb g q hE hi K x y u H locs ls hI hP hD hS hl
      · refine lv_tableIn (off := 401) (tgt := 433) hx hb dW_32 (by decide) (by decide) (by decide) (by decide) ?_
        exact law_11 HP l hL C0 D cc a bb g q hE hi K x y u H locs ls hI hP hD hS hl
      · refine lv_tableIn (off := 444) (tgt := 476) hx hb dW_32 (by decide) (by decide) (by decide) (by decide) ?_
        exact law_12 HP l hL C0 D cc a bb g q hE hi K x y u H locs ls hI hP hD hS hl
      · refine lv_tableIn (off := 477) (tgt := 509) hx hb dW_32 (by decide) (by decide) (by decide) (by decide) ?_
        exact law_13 HP l hL C0 D cc a bb g q hE hi K x y u H locs ls hI hP hD hS hl
      · refine lv_tableIn (off := 500) (tgt := 532) hx hb dW_32 (by decide) (by decide) (by decide) (by decide) ?_
        exact law_14 HP l hL C0 D cc a bb g q hE hi K x y u H locs ls hI hP hD hS hl
      · refine lv_tableOut (tgt := 555) hx hb dW_32 (by decide) (by decide) ?_
        exact K x y u H locs ls hI hP hD hS hl
