/-! Methods that write into their world's cells and make none -/
def WP (D : va_G) (cc : Nat → ClassId) (w : va_W) (sz : Nat) : State → Prop := fun U => U.heap.size = sz ∧ va_P D vwCl w U.heap ∧ EN D cc U ∧ va_D (fun _ => True) w
def WQ {S : Type} (D : va_G) (cc : Nat → ClassId) (A : Nat → Prop) (w' : S → va_W) : S → State → Prop := fun u t => va_P D vwCl (w' u) t.heap ∧ EN D cc t ∧ va_D A (w' u)
theorem wr_meti {l : Launch} {y : MethodName} {cc : ByteArray} {maxL : Nat} {ty : FieldType} {ws ws' : List Cond} {rm : Room} {S : Type} (own : String) (av : List Value) (D : va_G) (cn : Nat → ClassId) (w : va_W) (sz : Nat) (w' : S → va_W) (post : Int32 → S → Prop) (hy : plainName y.cls = true) (hw : ws = Cond.code y cc maxL (some ty) :: ws') (ho : y.cls = own) (hav : (lg_sl av).length ≤ maxL) (hn : ∀ v u, post v u → narrow ty (.int v) = .int v)
    (body : ∀ (p : Program) (e : Env) (s : State) (m : MethodId) (args : Array Value) (below : List Frame) (meth : Method) (c : Code) (Q : State → Prop) (A : Nat → Prop), CallFix p m c cc maxL s args ws own → va_P D vwCl w s.heap → EN D cn s → va_D A w → (∀ q, s.heap.size ≤ q → A q) →
      (∀ (H : Heap) (locs : List Loc) (pc : Nat) (ls : Array Slot) (v : Int32) (u : S), decode cc pc = .ok (.ireturn, 1) → va_S A s.heap H locs → va_P D vwCl (w' u) H → va_D A (w' u) → post v u → W p l e rm s m args below meth c H locs 0 0 Q (F0 m pc ls [.int v])) →
      ∀ ls : Array Slot, lv_has ls maxL (lv_args 0 av) → W p l e rm s m args below meth c s.heap [] 0 0 Q (F0 m 0 ls [])) :
    Met l y ws rm (va_Pc av (WP D cn w sz)) (va_Qi post (WQ D cn (va_A w sz) w') (va_A w sz)) 0 0 (va_A w sz) := by
  refine Met.ofW (cc := cc) (maxL := maxL) (ret := some ty) hy hw ?_
  intro p e s m args below meth c s₁ Bd hml hv
  obtain ⟨rfl, rfl, hP, hE, hD⟩ := hv
  have hr := Bd.returns
  have hlocks := Bd.notSynchronized
  rw [lg_entry_eq]
  refine body p e s m _ below meth c _ (va_A w s.heap.size) ⟨Bd.exec, Bd.bytes, hml, ?_, atoms_spec (ws := ws) Bd.pre⟩ hP hE hD.self (fun q h => Or.inr h) ?_ _ (lv_entry av hav)
  · rw [← ho]; exact findClass_of_methodNamed Bd.named
  · intro H locs pc ls v u hd hS hP1 hD1 hpo
    exact W.zret Bd.exec Bd.bytes hr (hn v u hpo) (fun t ht hW => ⟨⟨v, u, rfl, hpo, by rw [ht]; exact hP1, hE.warm hW, hD1⟩, hS.F ht⟩) hS.2.2 hd
theorem wr_metv {l : Launch} {y : MethodName} {cc : ByteArray} {maxL : Nat} {ws ws' : List Cond} {rm : Room} {S : Type} (own : String) (av : List Value) (D : va_G) (cn : Nat → ClassId) (w : va_W) (sz : Nat) (w' : S → va_W) (post : S → Prop) (hy : plainName y.cls = true) (hw : ws = Cond.code y cc maxL none :: ws') (ho : y.cls = own) (hav : (lg_sl av).length ≤ maxL)
    (body : ∀ (p : Program) (e : Env) (s : State) (m : MethodId) (args : Array Value) (below : List Frame) (meth : Method) (c : Code) (Q : State → Prop) (A : Nat → Prop), CallFix p m c cc maxL s args ws own → va_P D vwCl w s.heap → EN D cn s → va_D A w → (∀ q, s.heap.size ≤ q → A q) →
      (∀ (H : Heap) (locs : List Loc) (pc : Nat) (ls : Array Slot) (u : S), decode cc pc = .ok (.return_, 1) → va_S A s.heap H locs → va_P D vwCl (w' u) H → va_D A (w' u) → post u → W p l e rm s m args below meth c H locs 0 0 Q (F0 m pc ls [])) →
      ∀ ls : Array Slot, lv_has ls maxL (lv_args 0 av) → W p l e rm s m args below meth c s.heap [] 0 0 Q (F0 m 0 ls [])) :
    Met l y ws rm (va_Pc av (WP D cn w sz)) (va_Qv post (WQ D cn (va_A w sz) w') (va_A w sz)) 0 0 (va_A w sz) := by
  refine Met.ofW (cc := cc) (maxL := maxL) (ret := none) hy hw ?_
  intro p e s m args below meth c s₁ Bd hml hv
  obtain ⟨rfl, rfl, hP, hE, hD⟩ := hv
  have hr := Bd.returns
  have hlocks := Bd.notSynchronized
  rw [lg_entry_eq]
  refine body p e s m _ below meth c _ (va_A w s.heap.size) ⟨Bd.exec, Bd.bytes, hml, ?_, atoms_spec (ws := ws) Bd.pre⟩ hP hE hD.self (fun q h => Or.inr h) ?_ _ (lv_entry av hav)
  · rw [← ho]; exact findClass_of_methodNamed Bd.named
  · intro H locs pc ls u hd hS hP1 hD1 hpo
    exact W.vret Bd.exec Bd.bytes hr (fun t ht hW => ⟨⟨u, rfl, hpo, by rw [ht]; exact hP1, hE.warm hW, hD1⟩, hS.F ht⟩) hS.2.2 hd
theorem wr_preV {D : va_G} {cc : Nat → ClassId} {A : Nat → Prop} {w : va_W} {s : State} {H : Heap} {As : List Value} {ci q0 b N : Nat} {fs : List Value} {C : String} {T : u_T} (hP : va_P D vwCl w H) (hE : EN D cc s) (hD : va_D A w) (he : w[q0]? = some (b, .inr (ci, fs))) (hc : vwCl[ci]? = some (C, T, N)) :
    PreV s H C b (va_Pc (.ref b :: As) (WP D cc w H.size)) As :=
  ⟨fun _ _ _ _ q => ⟨q.1, q.2.1, q.2.2.1, q.2.2.2.1.call, q.2.2.2.2⟩, va_recv hE.1 hP hc he, fun U hU hW => ⟨rfl, by rw [hU], by rw [hU]; exact hP, hE.warm hW, hD.weaken (fun _ _ _ _ => trivial)⟩⟩
theorem wr_free {A : Nat → Prop} {w : va_W} {H0 H : Heap} {locs : List Loc} (hD : va_D A w) (hS : va_S A H0 H locs) (hA : ∀ q, H0.size ≤ q → A q) : ∀ q, va_A w H.size q → A q := by
  intro q h
  rcases h with ⟨k, e, h⟩ | h
  · exact hD.2 k (q, e) h
  · exact hA q (Nat.le_trans hS.1 h)
theorem P_left {D : va_G} {cl : List vw_C} {w1 w2 : va_W} {H : Heap} (h : va_P D cl (w1 ++ w2) H) : va_P D cl w1 H := fun k q hk => h k q (by
  have hl : k < w1.length := (List.getElem?_eq_some_iff.mp hk).1
  rw [List.getElem?_append_left hl]; exact hk)
theorem P_right {D : va_G} {cl : List vw_C} {w1 w2 : va_W} {H : Heap} (h : va_P D cl (w1 ++ w2) H) : va_P D cl w2 H := fun k q hk => h (w1.length + k) q (by
  rw [List.getElem?_append_right (by omega)]; rw [show w1.length + k - w1.length = k by omega]; exact hk)
theorem D_left {A : Nat → Prop} {w1 w2 : va_W} (h : va_D A (w1 ++ w2)) : va_D A w1 :=
  ⟨fun i j p q hi hj => h.1 i j p q (by rw [List.getElem?_append_left (List.getElem?_eq_some_iff.mp hi).1]; exact hi) (by rw [List.getElem?_append_left (List.getElem?_eq_some_iff.mp hj).1]; exact hj),
   fun k q hk => h.2 k q (by rw [List.getElem?_append_left (List.getElem?_eq_some_iff.mp hk).1]; exact hk)⟩
theorem D_right {A : Nat → Prop} {w1 w2 : va_W} (h : va_D A (w1 ++ w2)) : va_D A w2 :=
  ⟨fun i j p q hi hj e => by
      have := h.1 (w1.length + i) (w1.length + j) p q (by rw [List.getElem?_append_right (by omega), show w1.length + i - w1.length = i by omega]; exact hi) (by rw [List.getElem?_append_right (by omega), show w1.length + j - w1.length = j by omega]; exact hj) e
      omega,
   fun k q hk => h.2 (w1.length + k) q (by rw [List.getElem?_append_right (by omega), show w1.length + k - w1.length = k by omega]; exact hk)⟩
/-- the callee's cells stand first: behind the call they are changed, the rest stays -/
theorem wr_join {A : Nat → Prop} {D : va_G} {cl : List vw_C} {w1 w2 w1' : va_W} {H H1 : Heap} (hP : va_P D cl (w1 ++ w2) H) (hD : va_D A (w1 ++ w2)) (hk : ∀ q : Nat, q < H.size → ¬ va_A w1 H.size q → H1[q]? = H[q]?) (hF : ∀ q, va_A w1 H.size q → A q) (hP1 : va_P D cl w1' H1) (hD1 : va_D (va_A w1 H.size) w1') : va_P D cl (w1' ++ w2) H1 ∧ va_D A (w1' ++ w2) := by
  have apart : ∀ (k : Nat) (q : Nat × va_E), w2[k]? = some q → q.1 < H.size ∧ ¬ va_A w1 H.size q.1 := by
    intro k q hq
    have h2 : (w1 ++ w2)[w1.length + k]? = some q := by rw [List.getElem?_append_right (by omega), show w1.length + k - w1.length = k by omega]; exact hq
    have hl := (hP _ q h2).lt
    refine ⟨hl, fun h => ?_⟩
    rcases h with ⟨k2, e, h⟩ | h
    · have hk2 : k2 < w1.length := (List.getElem?_eq_some_iff.mp h).1
      have := hD.1 (w1.length + k) k2 q (q.1, e) h2 (by rw [List.getElem?_append_left hk2]; exact h) rfl
      omega
    · omega
  refine ⟨va_P.app hP1 (fun k q hq => ?_), va_D.app (hD1.weaken (fun k q _ h => hF q.1 h)) (D_right hD) (fun i j x y hx hy hxy => ?_)⟩
  · obtain ⟨g1, g2⟩ := apart k q hq
    exact (P_right hP k q hq).kept (hk q.1 g1 g2)
  · exact (apart j y hy).2 (by rw [← hxy]; exact hD1.2 i x hx)
section WC
variable {p : Program} {l : Launch} {e : Env} {R : Room} {s : State} {m : MethodId} {args : Array Value} {below : List Frame} {meth : Method} {c : Code} {H : Heap} {locs : List Loc} {cells slots : Nat} {Q : State → Prop}
variable {pc : Nat} {ls : Array Slot} {rest st0 : List Value} {a : Array Value} {A : Nat → Prop} {H0 : Heap} {D : va_G} {cc : Nat → ClassId} {w1 w2 : va_W}
theorem wr_calli {S : Type} {post : Int32 → S → Prop} {w' : S → va_W} (hr : va_Run p l e R s m args below meth c H locs cells slots 0 0 (F0 m pc ls st0) rest (va_Qi post (WQ D cc (va_A w1 H.size) w') (va_A w1 H.size) a) (va_A w1 H.size)) (hP : va_P D vwCl (w1 ++ w2) H) (hD : va_D A (w1 ++ w2)) (hS : va_S A H0 H locs) (hA : ∀ q, H0.size ≤ q → A q)
    (kk : ∀ (v : Int32) (u : S) (H : Heap) (locs : List Loc), post v u → va_P D vwCl (w' u ++ w2) H → va_D A (w' u ++ w2) → va_S A H0 H locs → W p l e R s m args below meth c H locs cells slots Q (F0 m (pc + 3) ls (.int v :: rest))) : W p l e R s m args below meth c H locs cells slots Q (F0 m pc ls st0) := by
  have hF := wr_free (D_left hD) hS hA
  refine va_calli hr hS (fun q _ h => hF q h) hF (fun v u t H1 locs1 ht hvm hpo hB hz hk hS1 => ?_)
  obtain ⟨hP1, hE1, hD1⟩ := hB
  rw [ht] at hP1
  obtain ⟨g1, g2⟩ := wr_join hP hD hk hF hP1 hD1
  exact kk v u H1 locs1 hpo g1 g2 hS1
theorem wr_callv {S : Type} {post : S → Prop} {w' : S → va_W} (hr : va_Run p l e R s m args below meth c H locs cells slots 0 0 (F0 m pc ls st0) rest (va_Qv post (WQ D cc (va_A w1 H.size) w') (va_A w1 H.size) a) (va_A w1 H.size)) (hP : va_P D vwCl (w1 ++ w2) H) (hD : va_D A (w1 ++ w2)) (hS : va_S A H0 H locs) (hA : ∀ q, H0.size ≤ q → A q)
    (kk : ∀ (u : S) (H : Heap) (locs : List Loc), post u → va_P D vwCl (w' u ++ w2) H → va_D A (w' u ++ w2) → va_S A H0 H locs → W p l e R s m args below meth c H locs cells slots Q (F0 m (pc + 3) ls rest)) : W p l e R s m args below meth c H locs cells slots Q (F0 m pc ls st0) := by
  have hF := wr_free (D_left hD) hS hA
  refine va_callv hr hS (fun q _ h => hF q h) hF (fun u t H1 locs1 ht hvm hpo hB hz hk hS1 => ?_)
  obtain ⟨hP1, hE1, hD1⟩ := hB
  rw [ht] at hP1
  obtain ⟨g1, g2⟩ := wr_join hP hD hk hF hP1 hD1
  exact kk u H1 locs1 hpo g1 g2 hS1
end WC
