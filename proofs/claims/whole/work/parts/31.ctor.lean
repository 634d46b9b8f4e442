/-! Constructors: rows and contracts of methods that make cells -/
def EN2 (D : va_G) (cc : Nat → ClassId) (U : State) : Prop := EN D cc U ∧ (Cond.arrayOver (.array .int)).before #[] U = true ∧ va_AO RP U ∧ va_Nw (.methodLinkNest RT 9 yL_init "TombstoneText") U
theorem ao_bare {s U : State} (hvm : s.vm.Alike U.vm) (h : (Cond.arrayOver (.array .int)).before #[] s = true) : (Cond.arrayOver (.array .int)).before #[] U = true := by
  have e := Cond.arrayOver_setVmC (args := #[]) (s := s) (vm' := U.vm) hvm (.array .int)
  rw [h] at e
  exact e
theorem EN2.warm {D : va_G} {cc : Nat → ClassId} {s U : State} (h : EN2 D cc s) (hW : s.WarmedH U.vm) : EN2 D cc U := ⟨h.1.warm hW, ao_bare hW.alike h.2.1, h.2.2.1.moved hW.alike, va_Nw.warmM hW h.2.2.2⟩
theorem EN2.call {D : va_G} {cc : Nat → ClassId} {U : State} {g : JFrame} {mk : MethodId} {a : Array Value} (h : EN2 D cc U) : EN2 D cc (U.calling g mk a) := h.warm (U := U.calling g mk a) (State.WarmedH.refl U)
def WP2 (D : va_G) (cc : Nat → ClassId) (w : va_W) (sz : Nat) : State → Prop := fun U => U.heap.size = sz ∧ va_P D vwCl w U.heap ∧ EN2 D cc U ∧ va_D (fun _ => True) w
def WQ2 {S : Type} (D : va_G) (cc : Nat → ClassId) (A : Nat → Prop) (w' : S → va_W) : S → State → Prop := fun u t => va_P D vwCl (w' u) t.heap ∧ EN2 D cc t ∧ va_D A (w' u)
theorem mk_met {l : Launch} {y : MethodName} {cc : ByteArray} {maxL mc ms : Nat} {ws ws' : List Cond} {rm : Room} {S : Type} (own : String) (av : List Value) (D : va_G) (cn : Nat → ClassId) (w : va_W) (sz : Nat) (w' : S → va_W) (post : S → Prop) (hy : plainName y.cls = true) (hw : ws = Cond.code y cc maxL none :: ws') (ho : y.cls = own) (hi : y.name = "<init>") (hav : (lg_sl av).length ≤ maxL)
    (body : ∀ (p : Program) (e : Env) (s : State) (m : MethodId) (args : Array Value) (below : List Frame) (meth : Method) (c : Code) (Q : State → Prop) (A : Nat → Prop), CallFix p m c cc maxL s args ws own → meth.name = "<init>" → va_P D vwCl w s.heap → EN2 D cn s → va_D A w → (∀ q, s.heap.size ≤ q → A q) →
      (∀ (H : Heap) (locs : List Loc) (pc : Nat) (ls : Array Slot) (u : S), decode cc pc = .ok (.return_, 1) → va_S A s.heap H locs → va_P D vwCl (w' u) H → va_D A (w' u) → post u → W p l e rm s m args below meth c H locs mc ms Q (F0 m pc ls [])) →
      ∀ ls : Array Slot, lv_has ls maxL (lv_args 0 av) → W p l e rm s m args below meth c s.heap [] 0 0 Q (F0 m 0 ls [])) :
    Met l y ws rm (va_Pc av (WP2 D cn w sz)) (va_Qv post (WQ2 D cn (va_A w sz) w') (va_A w sz)) mc ms (va_A w sz) := by
  refine Met.ofW (cc := cc) (maxL := maxL) (ret := none) hy hw ?_
  intro p e s m args below meth c s₁ Bd hml hv
  obtain ⟨rfl, rfl, hP, hE, hD⟩ := hv
  have hr := Bd.returns
  have hlocks := Bd.notSynchronized
  have hin : meth.name = "<init>" := (name_of_methodNamed Bd.named Bd.method).1.trans hi
  rw [lg_entry_eq]
  refine body p e s m _ below meth c _ (va_A w s.heap.size) ⟨Bd.exec, Bd.bytes, hml, ?_, atoms_spec (ws := ws) Bd.pre⟩ hin hP hE hD.self (fun q h => Or.inr h) ?_ _ (lv_entry av hav)
  · rw [← ho]; exact findClass_of_methodNamed Bd.named
  · intro H locs pc ls u hd hS hP1 hD1 hpo
    exact W.vret Bd.exec Bd.bytes hr (fun t ht hW => ⟨⟨u, rfl, hpo, by rw [ht]; exact hP1, hE.warm hW, hD1⟩, hS.F ht⟩) hS.2.2 hd
section MKR
variable {p : Program} {l : Launch} {e : Env} {R : Room} {s : State} {m : MethodId} {args : Array Value} {below : List Frame} {meth : Method} {c : Code} {H : Heap} {locs : List Loc} {cells slots : Nat} {Q : State → Prop}
variable {cc : ByteArray} {pc : Nat} {ls : Array Slot} {rest : List Value} {D : va_G} {cl : List vw_C} {A : Nat → Prop} {tys : List (ClassId × FieldType)} {ws : va_W} {H0 : Heap} {cA : ClassId}
theorem r_newa (hx : p.tables.exec = Jvm.exec) (hb : c.code = cc) {atype : ArrayType} {ty : FieldType} (hty : newarray.typeOf atype = ty) (harr : (Cond.arrayClass ty).before args s = true) (hra : ∀ c : ClassId, va_RA s c ty → s.vm.findClass ("[" ++ ty.toString) = some c) (hK : va_K D cl tys s) (t0 : Nat) (ht : tys[t0]? = some (cA, ty)) (hP : va_P D cl ws H) (hD : va_D A ws) (hS : va_S A H0 H locs) (hA : ∀ q, H0.size ≤ q → A q)
    {N' : Nat} {a0 : vp_A} (ha : ∀ cA : ClassId, vp_cell cA a0 = arrV cA N' (fun _ => defaultValue ty)) (hN : N' < 2 ^ 31) (hbytes : N' * componentBytes ty ≤ 536870912) (hcells : cells + 1 ≤ R.cells) (hslots : slots + N' ≤ R.slots) (hdg : decode cc pc = .ok (.newarray atype, 2))
    (kk : ∀ (q : Nat) (H : Heap), va_P D cl (ws ++ [(q, .inl (cA, a0))]) H → va_D A (ws ++ [(q, .inl (cA, a0))]) → va_S A H0 H locs → W p l e R s m args below meth c H locs (cells + 1) (slots + N') Q (F0 m (pc + 2) ls (.ref q :: rest))) : W p l e R s m args below meth c H locs cells slots Q (F0 m pc ls (.int (nI N') :: rest)) := by
  subst hty
  refine va_newa hx hb harr rfl hK hP hD hS hA ha (nI_pos hN) (nI_clamp hN) hbytes hcells hslots hdg (fun q cB H1 hK1 h1 h2 h3 => ?_)
  have e1 := hra _ (hK.2 t0 _ ht).2
  have e2 := hra _ (hK1.2 tys.length (cB, newarray.typeOf atype) (by rw [List.getElem?_append_right (Nat.le_refl _), Nat.sub_self]; rfl)).2
  have e3 : cB = cA := Option.some.inj (e2.symm.trans e1)
  subst e3
  exact kk q H1 h1 h2 h3
theorem r_newq (hx : p.tables.exec = Jvm.exec) (hb : c.code = cc) {own C : String} {index : Nat} (hown : s.vm.findClass own = some m.cls) (hclink : (Cond.classLink own index C).before args s = true) (hover : va_AO C s) (hK : va_K D cl tys s) (t0 : Nat) (ht : tys[t0]? = some (cA, .object C)) (hP : va_P D cl ws H) (hD : va_D A ws) (hS : va_S A H0 H locs) (hA : ∀ q, H0.size ≤ q → A q)
    {N' : Nat} (hN : N' < 2 ^ 31) (hbytes : N' * 4 ≤ 536870912) (hcells : cells + 1 ≤ R.cells) (hslots : slots + N' ≤ R.slots) (hdg : decode cc pc = .ok (.anewarray index, 3))
    (kk : ∀ (q : Nat) (H : Heap), va_P D cl (ws ++ [(q, .inl (cA, N', .inr (.inr (.inr (.inr (fun _ => none))))))]) H → va_D A (ws ++ [(q, .inl (cA, N', .inr (.inr (.inr (.inr (fun _ => none))))))]) → va_S A H0 H locs → W p l e R s m args below meth c H locs (cells + 1) (slots + N') Q (F0 m (pc + 3) ls (.ref q :: rest))) : W p l e R s m args below meth c H locs cells slots Q (F0 m pc ls (.int (nI N') :: rest)) := by
  refine va_newq hx hb hown hclink hover hK hP hD hS hA (nI_pos hN) (nI_clamp hN) hbytes hcells hslots hdg (fun q cB H1 hK1 h1 h2 h3 => ?_)
  obtain ⟨-, -, -, -, -, e1⟩ := (hK.2 t0 _ ht).2
  obtain ⟨-, -, -, -, -, e2⟩ := (hK1.2 tys.length (cB, .object C) (by rw [List.getElem?_append_right (Nat.le_refl _), Nat.sub_self]; rfl)).2
  have e3 : cB = cA := Option.some.inj (e2.symm.trans e1)
  subst e3
  exact kk q H1 h1 h2 h3
theorem r_mna33 (hx : p.tables.exec = Jvm.exec) (hb : c.code = cc) {own : String} {index : Nat} {cI : ClassId} (hown : s.vm.findClass own = some m.cls) (hclink : (Cond.classLink own index "[[I").before args s = true) (hover : (Cond.arrayOver (.array .int)).before #[] s = true) (harr : (Cond.arrayClass .int).before args s = true)
    (hK : va_K D cl tys s) (ht0 : tys[0]? = some (cI, .int)) (ht3 : tys[3]? = some (cA, .array .int)) (hP : va_P D cl ws H) (hD : va_D A ws) (hS : va_S A H0 H locs) (hA : ∀ q, H0.size ≤ q → A q) (hcells : cells + 4 ≤ R.cells) (hslots : slots + 12 ≤ R.slots) (hdg : decode cc pc = .ok (.multianewarray index 2, 4))
    (kk : ∀ (q : Nat) (H : Heap), va_P D cl (ws ++ [(q, .inl (cA, 3, .inr (.inr (.inr (.inr (fun j => some (q + 1 + j))))))), (q + 1, .inl (cI, 3, .inl (fun _ => nI 0))), (q + 2, .inl (cI, 3, .inl (fun _ => nI 0))), (q + 3, .inl (cI, 3, .inl (fun _ => nI 0)))]) H →
      va_D A (ws ++ [(q, .inl (cA, 3, .inr (.inr (.inr (.inr (fun j => some (q + 1 + j))))))), (q + 1, .inl (cI, 3, .inl (fun _ => nI 0))), (q + 2, .inl (cI, 3, .inl (fun _ => nI 0))), (q + 3, .inl (cI, 3, .inl (fun _ => nI 0)))]) → va_S A H0 H locs →
      W p l e R s m args below meth c H locs (cells + 4) (slots + 12) Q (F0 m (pc + 4) ls (.ref q :: rest))) : W p l e R s m args below meth c H locs cells slots Q (F0 m pc ls (.int (nI 3) :: .int (nI 3) :: rest)) := by
  intro T hT Xs
  have hover' : (Cond.arrayOver (.array .int)).before args s = true := hover
  obtain ⟨vm₁, cB, comp, -, fA, fC, hO, -, X', step⟩ := Xs.multianewarray2F hx (ty := .int) hown hclink hover' harr (g := F0 m pc ls (.int (nI 3) :: .int (nI 3) :: rest)) rfl (by rw [hb]; exact hdg) rfl (by decide) (by decide) (by decide) (by decide) (by decide) rfl rfl hcells hslots
  have e0 : s.vm.findClass ("[" ++ (FieldType.int).toString) = some cI := (hK.2 0 _ ht0).2
  have e3 : s.vm.findClass ("[" ++ (FieldType.array .int).toString) = some cA := (hK.2 3 _ ht3).2
  have c1 : comp = cI := Option.some.inj (fC.symm.trans e0)
  have c2 : cB = cA := Option.some.inj (fA.symm.trans e3)
  subst c1
  subst c2
  have n3 : (nI 3).toNatClampNeg = 3 := nI_clamp (by decide)
  rw [n3] at X' step
  generalize hF : Jvm.Free.Multi.fill (T.setVm vm₁) cB comp 3 3 (defaultValue .int) 3 = F at X' step
  have hTh : (T.setVm vm₁).heap = H := hT
  obtain ⟨f1, f2, -, -⟩ := Jvm.Free.Multi.fill_facts (T.setVm vm₁) cB comp 3 3 (defaultValue .int) 3
  rw [hF, hTh] at f1 f2
  have hold : ∀ x : Nat, x < H.size → F.heap[x]? = H[x]? := fun x hx => by
    have := Jvm.Free.Multi.fill_old (T.setVm vm₁) cB comp 3 3 (defaultValue .int) (a := x) (by rw [hTh]; exact hx) 3
    rw [hF, hTh] at this
    exact this
  have hrow : ∀ j : Nat, j < 3 → F.heap[H.size + 1 + j]? = some (vp_cell comp (3, .inl (fun _ => nI 0))) := fun j hj => by
    have := Jvm.Free.Multi.fill_inner (T.setVm vm₁) cB comp 3 3 (defaultValue .int) 3 j hj
    rw [hF, hTh] at this
    rw [this]
    rfl
  have hout : Jvm.Free.Multi.outerC cB 3 H.size 3 = vp_cell cB (3, .inr (.inr (.inr (.inr (fun j => some (H.size + 1 + j)))))) := rfl
  rw [hout] at f2
  have hP0 : va_P D cl ws F.heap := hP.kept (fun k9 x hx => hold x.1 ((hP k9 x hx).lt))
  have hP1 : va_P D cl (ws ++ [(H.size, .inl (cB, 3, .inr (.inr (.inr (.inr (fun j => some (H.size + 1 + j))))))), (H.size + 1, .inl (comp, 3, .inl (fun _ => nI 0))), (H.size + 2, .inl (comp, 3, .inl (fun _ => nI 0))), (H.size + 3, .inl (comp, 3, .inl (fun _ => nI 0)))]) F.heap := hP0.app (fun k9 x hx => by
    rcases (show k9 = 0 ∨ k9 = 1 ∨ k9 = 2 ∨ k9 = 3 ∨ 4 ≤ k9 by omega) with rfl | rfl | rfl | rfl | h4
    · cases hx; exact f2
    · cases hx; exact hrow 0 (by decide)
    · cases hx; exact hrow 1 (by decide)
    · cases hx; exact hrow 2 (by decide)
    · rw [List.getElem?_eq_none (by simpa using h4)] at hx; cases hx)
  have hD1 : va_D A (ws ++ [(H.size, .inl (cB, 3, .inr (.inr (.inr (.inr (fun j => some (H.size + 1 + j))))))), (H.size + 1, .inl (comp, 3, .inl (fun _ => nI 0))), (H.size + 2, .inl (comp, 3, .inl (fun _ => nI 0))), (H.size + 3, .inl (comp, 3, .inl (fun _ => nI 0)))]) := by
    have at4 : ∀ (k9 : Nat) (x : Nat × va_E), ([(H.size, .inl (cB, 3, .inr (.inr (.inr (.inr (fun j => some (H.size + 1 + j))))))), (H.size + 1, .inl (comp, 3, .inl (fun _ => nI 0))), (H.size + 2, .inl (comp, 3, .inl (fun _ => nI 0))), (H.size + 3, .inl (comp, 3, .inl (fun _ => nI 0)))] : va_W)[k9]? = some x → x.1 = H.size + k9 := fun k9 x hx => by
      rcases (show k9 = 0 ∨ k9 = 1 ∨ k9 = 2 ∨ k9 = 3 ∨ 4 ≤ k9 by omega) with rfl | rfl | rfl | rfl | h4
      · cases hx; rfl
      · cases hx; rfl
      · cases hx; rfl
      · cases hx; rfl
      · rw [List.getElem?_eq_none (by simpa using h4)] at hx; cases hx
    refine va_D.app hD ⟨fun i j x y hi hj hxy => ?_, fun k9 x hx => ?_⟩ (fun i j x y hi hj hxy => ?_)
    · have := at4 i x hi
      have := at4 j y hj
      omega
    · rw [at4 k9 x hx]
      exact hA _ (Nat.le_trans hS.1 (Nat.le_add_right _ _))
    · have h1 := (hP i x hi).lt
      have h2 := at4 j y hj
      omega
  have hS1 : va_S A H0 F.heap locs := ⟨Nat.le_trans hS.1 (by rw [f1]; omega), fun q h1 h2 => (hold q (Nat.lt_of_lt_of_le h1 hS.1)).trans (hS.2.1 q h1 h2), hS.2.2⟩
  obtain ⟨t, a1, b1⟩ := kk H.size F.heap hP1 hD1 hS1 F rfl X'
  exact ⟨t, step t (by rw [hT]; exact a1), b1⟩
end MKR
