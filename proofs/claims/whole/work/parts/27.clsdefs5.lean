theorem okL_rec5 {x : LgS} {i s t ch : Nat} {f : Nat → Nat} (ok : okL x) (hi : i < 3) (hs : s < 1000) (ht : t ≤ 100) (hch : ch < 65536) (hc : x.cnt < 100) (hf : ∀ k, f k < 900) : okL (rec5 x i s t ch f) :=
  okL_mk hc ok.e (up_lt ok.iss0 hi) (up_lt ok.stp3 hs) (up_le ok.tgt100 ht) (up_lt ok.chr5 hch) (clkV_lt ok.clk3 (fun j => by have := hf j; split <;> omega) 3) ok.ord100
theorem okL_rec {x : LgS} {i s t ch k : Nat} {f : Nat → Nat} (ok : okL x) (hi : i < 3) (hs : s < 1000) (ht : t ≤ 100) (hch : ch < 65536) (hc : x.cnt < 100) (he : x.el < 100) (hf : ∀ k, f k < 900) : okL (recL x i s t ch f k) := by
  have h := okL_rec5 ok hi hs ht hch hc hf
  unfold recL
  split
  · exact h
  · exact okL_mk h.n he h.iss0 h.stp3 h.tgt100 h.chr5 h.clk3 (up_lt (shU_lt h.ord100 k) hc)
theorem rec_chr (x : LgS) (i s t ch k : Nat) (f : Nat → Nat) : (recL x i s t ch f k).chr x.cnt = ch := by
  have e : (rec5 x i s t ch f).chr x.cnt = ch := by show va_up x.chr x.cnt ch x.cnt = ch; unfold va_up; rw [if_pos rfl]
  unfold recL
  split
  · exact e
  · exact e
theorem rec_tgt (x : LgS) (i s t ch k : Nat) (f : Nat → Nat) : (recL x i s t ch f k).tgt x.cnt = t := by
  have e : (rec5 x i s t ch f).tgt x.cnt = t := by show va_up x.tgt x.cnt t x.cnt = t; unfold va_up; rw [if_pos rfl]
  unfold recL
  split
  · exact e
  · exact e
theorem okR_apply {x : LgS} {y : RpS} {o : Nat} (ok : okL x) (kr : okR y) (hkc : y.kc < 900) : okR (applyR x y o) := by
  have hs : ∀ i j, apSeen x y o i j < 1000 := up2_lt (sU_lt kr.seen3 (fun j => ok.clk3 _) 3) (up_lt (sU_lt kr.seen3 (fun j => ok.clk3 _) 3 y.self) (ok.clk3 _))
  have hg : max y.gs (x.stp o) < 1000 := by have := kr.gs; have := ok.stp3 o; omega
  unfold applyR
  split
  · exact okR_mk kr.self kr.tl kr.kc kr.wc hg hs kr.txt100
  · exact okR_mk kr.self kr.tl (by omega) kr.wc hg hs kr.txt100
theorem okR_rw {x : LgS} {y : RpS} (ok : okL x) (kr : okR y) : okR (rwR x y) := okR_mk kr.self (by have := rwF_le x y x.el; have := ok.e; omega) kr.kc kr.wc kr.gs kr.seen3 (rwF_lt ok kr x.el)
/-- issue(t, ch): the log and the replica behind it -/
def isuL (x : LgS) (y : RpS) (t ch k : Nat) : LgS := recL x y.self (y.gs + 1) t ch (y.seen y.self) k
def isuR (x : LgS) (y : RpS) (t ch k : Nat) : RpS := rwR (isuL x y t ch k) (applyR (isuL x y t ch k) y x.cnt)
section RTR
variable {p : Program} {l : Launch} {e : Env} {R : Room} {s : State} {m : MethodId} {args : Array Value} {below : List Frame} {meth : Method} {c : Code} {H : Heap} {locs : List Loc} {cells slots : Nat} {Q : State → Prop} {pc : Nat} {ls : Array Slot} {rest : List Value}
theorem r_topr {x y : Nat} (h : x = y) (k : W p l e R s m args below meth c H locs cells slots Q (F0 m pc ls (.ref y :: rest))) : W p l e R s m args below meth c H locs cells slots Q (F0 m pc ls (.ref x :: rest)) := by
  rw [h]; exact k
end RTR
