/-! The worlds: the reference's cells, the log's, a replica's; what a method's start says of the tables -/
abbrev tyA (cc : Nat → ClassId) : List (ClassId × FieldType) := [(cc 0, .int), (cc 1, .boolean), (cc 2, .char), (cc 3, .array .int), (cc 4, .object RP)]
abbrev wM (cc : Nat → ClassId) (q : Nat → Nat) (x : MS) : va_W :=
  [(q 0, .inr (3, [.int (nI x.nn), .ref (q 1), .ref (q 2), .ref (q 3), .ref (q 4), .ref (q 5), .ref (q 6), .ref (q 7), .ref (q 8), .ref (q 9), .int (nI x.len), .ref (q 10), .ref (q 11)])),
   (q 1, .inl (cc 0, 100, .inl (fun k => nI (x.by_ k)))), (q 2, .inl (cc 0, 100, .inl (fun k => nI (x.line k)))), (q 3, .inl (cc 0, 100, .inl (fun k => nI (x.stp k)))), (q 4, .inl (cc 0, 100, .inl (fun k => nI (x.let_ k)))),
   (q 5, .inl (cc 0, 100, .inl (fun k => sI (x.oth k)))), (q 6, .inl (cc 0, 300, .inl (fun k => nI (x.clk k)))), (q 7, .inl (cc 1, 300, .inl (fun k => bI (x.app k)))), (q 8, .inl (cc 1, 300, .inl (fun k => bI (x.wts k)))),
   (q 9, .inl (cc 1, 300, .inl (fun k => bI (x.gon k)))), (q 10, .inl (cc 0, 100, .inl (fun k => nI (x.txt k)))), (q 11, .inl (cc 0, 100, .inl (fun k => nI (x.spr k))))]
abbrev wL (cc : Nat → ClassId) (a : Nat → Nat) (x : LgS) : va_W :=
  [(a 0, .inr (0, [.ref (a 1), .ref (a 2), .ref (a 3), .ref (a 4), .ref (a 5), .ref (a 6), .int (nI x.cnt), .int (nI x.el)])),
   (a 1, .inl (cc 0, 100, .inl (fun k => nI (x.iss k)))), (a 2, .inl (cc 0, 100, .inl (fun k => nI (x.stp k)))), (a 3, .inl (cc 0, 100, .inl (fun k => sI (x.tgt k)))), (a 4, .inl (cc 2, 100, .inl (fun k => nI (x.chr k)))),
   (a 5, .inl (cc 0, 300, .inl (fun k => nI (x.clk k)))), (a 6, .inl (cc 0, 100, .inl (fun k => nI (x.ord k))))]
abbrev wR (cc : Nat → ClassId) (lg : Nat) (b : Nat → Nat) (y : RpS) : va_W :=
  [(b 0, .inr (1, [.int (nI y.self), .ref lg, .ref (b 1), .ref (b 5), .ref (b 6), .ref (b 7), .ref (b 8), .ref (b 9), .int (nI y.tl), .int (nI y.kc), .int (nI y.wc), .int (nI y.gs)])),
   (b 1, .inl (cc 3, 3, .inr (.inr (.inr (.inr (fun j => some (b (2 + j)))))))),
   (b 2, .inl (cc 0, 3, .inl (fun k => nI (y.seen 0 k)))), (b 3, .inl (cc 0, 3, .inl (fun k => nI (y.seen 1 k)))), (b 4, .inl (cc 0, 3, .inl (fun k => nI (y.seen 2 k)))),
   (b 5, .inl (cc 1, 100, .inl (fun k => bI (y.wts k)))), (b 6, .inl (cc 1, 100, .inl (fun k => bI (y.ers k)))), (b 7, .inl (cc 1, 100, .inl (fun k => bI (y.kpt k)))), (b 8, .inl (cc 1, 100, .inl (fun k => bI (y.mgo k)))),
   (b 9, .inl (cc 0, 100, .inl (fun k => nI (y.txt k))))]
abbrev wLR (cc : Nat → ClassId) (a b : Nat → Nat) (x : LgS) (y : RpS) : va_W := wL cc a x ++ wR cc (a 0) b y
theorem at_seen {cc : Nat → ClassId} {a b : Nat → Nat} {x : LgS} {y : RpS} {i : Nat} (hi : i < 3) : (wLR cc a b x y)[9 + i]? = some (b (2 + i), .inl (cc 0, 3, .inl (fun k => nI (y.seen i k)))) := by
  rcases (show i = 0 ∨ i = 1 ∨ i = 2 by omega) with rfl | rfl | rfl <;> rfl
def EN (D : va_G) (cc : Nat → ClassId) (U : State) : Prop := va_K D vwCl (tyA cc) U ∧ (∀ t ∈ nwF, va_Nw (.fieldLinkNest t.1 t.2.1 t.2.2.1 t.2.2.2.1 t.2.2.2.2 "TombstoneText") U) ∧ ∀ w ∈ wAll, ∀ args : Array Value, w.before args U = true
theorem EN.f {D : va_G} {cc : Nat → ClassId} {U : State} (h : EN D cc U) {t : String × Nat × String × String × String} (ht : t ∈ nwF) {args : Array Value} : (Cond.fieldLinkNest t.1 t.2.1 t.2.2.1 t.2.2.2.1 t.2.2.2.2 "TombstoneText").before args U = true := va_Nw.use rfl (h.2.1 t ht)
theorem wAll_ok {w : Cond} (h : w ∈ wAll) : (w.onTables && w.keeps) = true ∨ ∃ ty, w = .arrayClass ty := good_of_word (List.all_eq_true.mp wAll_good w h)
theorem EN.warm {D : va_G} {cc : Nat → ClassId} {s U : State} (h : EN D cc s) (hW : s.WarmedH U.vm) : EN D cc U := ⟨va_K.moved hW.alike h.1, fun t ht => va_Nw.warmF hW (h.2.1 t ht), fun w hw _ => word_at hW (wAll_ok hw) (h.2.2 w hw #[])⟩
theorem EN.ts {D : va_G} {cc : Nat → ClassId} {s : State} (h : EN D cc s) (args : Array Value) : ∀ w ∈ wAll, w.before args s = true := fun w hw => h.2.2 w hw args
theorem EN.call {D : va_G} {cc : Nat → ClassId} {U : State} {g : JFrame} {mk : MethodId} {a : Array Value} (h : EN D cc U) : EN D cc (U.calling g mk a) := h.warm (U := U.calling g mk a) (State.WarmedH.refl U)
/-- the words of a call to a method y whose own list is its code alone -/
theorem gd_V {own C : String} {idx : Nat} {y : MethodName} {c : ByteArray} {n : Nat} {r : Option FieldType} (h1 : Cond.methodLink own idx y ∈ wAll) (h2 : Cond.instanceMethod y ∈ wAll) (h3 : Cond.selects C y y ∈ wAll) (h4 : Cond.initialized C ∈ wAll) (h5 : Cond.code y c n r ∈ wAll) : GoodIn wAll (wsV own idx C y [.code y c n r]) := by
  intro w hw
  have hm : w ∈ wAll := by
    simp only [wsV, List.mem_append, List.mem_cons, List.not_mem_nil, or_false] at hw
    rcases hw with (rfl | rfl | rfl | rfl) | rfl <;> assumption
  exact ⟨hm, wAll_ok hm⟩
theorem gd_1 {y : MethodName} {c : ByteArray} {n : Nat} {r : Option FieldType} (h5 : Cond.code y c n r ∈ wAll) : GoodIn wAll [.code y c n r] := by
  intro w hw
  have hm : w ∈ wAll := by
    simp only [List.mem_cons, List.not_mem_nil, or_false] at hw
    subst hw; exact h5
  exact ⟨hm, wAll_ok hm⟩
theorem gd_S {own : String} {idx : Nat} {y : MethodName} {c : ByteArray} {n : Nat} {r : Option FieldType} (h1 : Cond.methodLink own idx y ∈ wAll) (h2 : Cond.static y ∈ wAll) (h4 : Cond.initialized y.cls ∈ wAll) (h5 : Cond.code y c n r ∈ wAll) : GoodIn wAll (va_wsS own idx y [.code y c n r]) := by
  intro w hw
  have hm : w ∈ wAll := by
    simp only [va_wsS, List.mem_append, List.mem_cons, List.not_mem_nil, or_false] at hw
    rcases hw with (rfl | rfl | rfl) | rfl <;> assumption
  exact ⟨hm, wAll_ok hm⟩
theorem rd_preV {D : va_G} {cc : Nat → ClassId} {w : va_W} {s : State} {H : Heap} {As : List Value} {ci q0 b N : Nat} {fs : List Value} {C : String} {T : u_T} (hP : va_P D vwCl w H) (hE : EN D cc s) (he : w[q0]? = some (b, .inr (ci, fs))) (hc : vwCl[ci]? = some (C, T, N)) :
    PreV s H C b (va_Pc (.ref b :: As) (fun U => va_P D vwCl w U.heap ∧ EN D cc U)) As :=
  ⟨fun _ _ _ _ q => ⟨q.1, q.2.1, q.2.2.call⟩, va_recv hE.1 hP hc he, fun U hU hW => ⟨rfl, by rw [hU]; exact hP, hE.warm hW⟩⟩
theorem rd_preS {D : va_G} {cc : Nat → ClassId} {w : va_W} {s : State} {H : Heap} {As : List Value} (hP : va_P D vwCl w H) (hE : EN D cc s) :
    PreS s H (va_Pc As (fun U => va_P D vwCl w U.heap ∧ EN D cc U)) As :=
  ⟨fun _ _ _ _ q => ⟨q.1, q.2.1, q.2.2.call⟩, fun U hU hW => ⟨rfl, by rw [hU]; exact hP, hE.warm hW⟩⟩
theorem preT {s : State} {H : Heap} {As : List Value} : PreS s H (va_Pc As (fun _ => True)) As := ⟨fun _ _ _ _ q => ⟨q.1, trivial⟩, fun _ _ _ => ⟨rfl, trivial⟩⟩
