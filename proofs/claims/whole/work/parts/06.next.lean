/-! THE NEXT ELEMENT, pure: the walk of a replica's elements by first child and next sibling goes through the positions in order -/
def FitP (par : Nat → Nat) (sn : Nat → Nat → Prop) (X : Nat → Nat) (F : Nat → Prop) (a b i : Nat) : Prop := F (X i) ∧ par (X i) = a ∧ (b = 0 ∨ sn b (X i))
def FstP (par : Nat → Nat) (sn : Nat → Nat → Prop) (X : Nat → Nat) (E : Nat) (F : Nat → Prop) (fst : Nat → Nat → Nat) : Prop :=
  ∀ a b, (fst a b = 0 ∧ ∀ i, 1 ≤ i → i ≤ E → ¬ FitP par sn X F a b i) ∨ ∃ i, 1 ≤ i ∧ i ≤ E ∧ fst a b = X i ∧ FitP par sn X F a b i ∧ ∀ j, 1 ≤ j → j ≤ E → FitP par sn X F a b j → j = i ∨ sn (X i) (X j)
def ClP (par : Nat → Nat) (X : Nat → Nat) (E : Nat) (F : Nat → Prop) : Prop := ∀ i, 1 ≤ i → i ≤ E → F (X i) → par (X i) = 0 ∨ F (par (X i))
def upw (par : Nat → Nat) (fst : Nat → Nat → Nat) : Nat → Nat → Nat
  | 0, _ => 0
  | n + 1, a => if a = 0 then 0 else if fst (par a) a = 0 then upw par fst n (par a) else fst (par a) a
def nxt (par : Nat → Nat) (fst : Nat → Nat → Nat) (n x : Nat) : Nat := if fst x 0 = 0 then upw par fst n x else fst x 0
section NXT
variable {par : Nat → Nat} {sn : Nat → Nat → Prop} {X : Nat → Nat} {E : Nat} {F : Nat → Prop} {fst : Nat → Nat → Nat}
theorem cl_up (hO : OrdP par sn X E) (h0 : par 0 = 0) (hC : ClP par X E F) {i : Nat} (hi : 1 ≤ i) (hiE : i ≤ E) : ∀ (k j : Nat), j ≤ E → F (X j) → up_k par k (X j) = X i → F (X i)
  | 0, j, hj, hF, h => by rw [← h]; exact hF
  | k + 1, j, hj, hF, h => by
    have hle := ord_le hO h0 hiE hj ⟨k + 1, h⟩
    obtain ⟨j', h1, h2⟩ := hO.2.2.1 j (by omega) hj
    have h3 : up_k par k (par (X j)) = X i := h
    rw [← h2] at h3
    rcases hC j (by omega) hj hF with q | q
    · rw [← h2] at q
      have := ord_le hO h0 hiE (show j' ≤ E by omega) ⟨k, h3⟩
      exact absurd q (ord_ne0 hO (by omega) (by omega))
    · rw [← h2] at q
      exact cl_up hO h0 hC hi hiE k j' (by omega) q h3
/-- where a's sibling d is sooner than a, nothing behind a is under d -/
theorem sib_bar (hO : OrdP par sn X E) (h0 : par 0 = 0) {a d z : Nat} (ha : 1 ≤ a) (haE : a ≤ E) (hd : 1 ≤ d) (hdE : d ≤ E) (hp : par (X d) = par (X a)) (hz : a ≤ z) (hzE : z ≤ E) (hn : d ≠ a) (hs : sn (X d) (X a)) (h : anc par (X d) (X z)) : False := by
  have h1 := hO.2.2.2.2 d a hd hdE ha haE hp hs
  have h2 := hO.2.2.2.1 d a z (by omega) hz hzE h
  exact ord_sib hO h0 hd hdE haE ha hp hn h2
theorem upw_pos (hO : OrdP par sn X E) (hs : SnP par sn X E) (hC : ClP par X E F) (hf : FstP par sn X E F fst) {i : Nat} (hi : i ≤ E) : ∀ (n a : Nat), a ≤ n → a ≤ i → (a = 0 ∨ F (X a)) → anc par (X a) (X i) → (∀ z, i < z → z ≤ E → F (X z) → ¬ anc par (X a) (X z)) →
    (upw par fst n (X a) = 0 ∧ ∀ z, i < z → z ≤ E → ¬ F (X z)) ∨ ∃ j, i < j ∧ j ≤ E ∧ F (X j) ∧ upw par fst n (X a) = X j ∧ ∀ z, i < z → z < j → ¬ F (X z) := by
  intro n
  have root : (∀ z, i < z → z ≤ E → F (X z) → ¬ anc par (X 0) (X z)) → ∀ z, i < z → z ≤ E → ¬ F (X z) := by
    intro h z h1 h2 h3
    refine h z h1 h2 h3 ?_
    rw [hO.1]
    exact ord_root hO z h2
  induction n with
  | zero =>
    intro a h1 h2 _ _ h5
    have : a = 0 := by omega
    subst this
    exact Or.inl ⟨rfl, root h5⟩
  | succ n ih =>
    intro a h1 h2 h3 h4 h5
    by_cases hz : a = 0
    · subst hz
      refine Or.inl ⟨?_, root h5⟩
      unfold upw
      rw [hO.1, if_pos rfl]
    · have hne := ord_ne0 hO (show 1 ≤ a by omega) (show a ≤ E by omega)
      have hFa : F (X a) := by
        rcases h3 with q | q
        · exact absurd q hz
        · exact q
      obtain ⟨p0, e1, e2⟩ := hO.2.2.1 a (by omega) (by omega)
      have e3 : anc par (X p0) (X i) := anc_trans ⟨1, by show par (X a) = X p0; exact e2.symm⟩ h4
      -- a sibling on the way to what stands behind i goes behind a
      have key : ∀ z, i < z → z ≤ E → F (X z) → anc par (X p0) (X z) → ∃ d, 1 ≤ d ∧ d ≤ z ∧ FitP par sn X F (par (X a)) (X a) d := by
        intro z z1 z2 z3 z4
        obtain ⟨d, d1, d2, d3, d4⟩ := ord_toward hO hs.1 (by omega) z2 z4 (by omega)
        obtain ⟨kk, hkk⟩ := d4
        have d5 := cl_up hO hs.1 hC d1 (by omega) kk z z2 z3 hkk
        have d6 : d ≠ a := fun q => h5 z z1 z2 z3 (by rw [← q]; exact ⟨kk, hkk⟩)
        refine ⟨d, d1, d2, d5, by rw [d3, e2], Or.inr ?_⟩
        rcases hs.2.2.2.1 a d (by omega) (by omega) d1 (by omega) (fun q => d6 q.symm) with q | q
        · exact q
        · exact (sib_bar hO hs.1 (by omega) (by omega) d1 (by omega) (by rw [d3, e2]) (by omega) z2 d6 q ⟨kk, hkk⟩).elim
      rcases hf (par (X a)) (X a) with ⟨f1, f2⟩ | ⟨sx, s1, s2, s3, s4, s5⟩
      · have g : upw par fst (n + 1) (X a) = upw par fst n (X p0) := by
          show (if X a = 0 then 0 else if fst (par (X a)) (X a) = 0 then upw par fst n (par (X a)) else fst (par (X a)) (X a)) = _
          rw [if_neg hne, if_pos f1, e2]
        rw [g]
        refine ih p0 (by omega) (by omega) ?_ e3 ?_
        · rcases hC a (by omega) (by omega) hFa with q | q
          · left
            exact hO.2.1 p0 0 (by omega) (by omega) (by rw [e2, q, hO.1])
          · right
            rw [e2]; exact q
        · intro z z1 z2 z3 z4
          obtain ⟨d, d1, d2, d3⟩ := key z z1 z2 z3 z4
          exact f2 d d1 (by omega) d3
      · right
        have g : upw par fst (n + 1) (X a) = X sx := by
          show (if X a = 0 then 0 else if fst (par (X a)) (X a) = 0 then upw par fst n (par (X a)) else fst (par (X a)) (X a)) = _
          rw [if_neg hne, if_neg (by rw [s3]; exact ord_ne0 hO s1 s2), s3]
        have s6 : sn (X a) (X sx) := by
          rcases s4.2.2 with q | q
          · exact absurd q hne
          · exact q
        have s7 := hO.2.2.2.2 a sx (by omega) (by omega) s1 s2 s4.2.1.symm s6
        have s8 : i < sx := by
          apply Nat.lt_of_not_le
          intro q
          exact ord_sib hO hs.1 (by omega) (by omega) s2 s1 s4.2.1.symm (by omega) (hO.2.2.2.1 a sx i (by omega) q hi h4)
        refine ⟨sx, s8, s2, s4.1, g, ?_⟩
        intro z z1 z2 z3
        have z4 : anc par (X p0) (X sx) := ⟨1, by show par (X sx) = X p0; rw [s4.2.1, e2]⟩
        obtain ⟨d, d1, d2, d3⟩ := key z z1 (by omega) z3 (hO.2.2.2.1 p0 z sx (by omega) (by omega) s2 z4)
        rcases s5 d d1 (by omega) d3 with q | q
        · omega
        · have := hO.2.2.2.2 sx d s1 s2 d1 (by omega) (by rw [s4.2.1, d3.2.1]) q
          omega
theorem nxt_pos (hO : OrdP par sn X E) (hs : SnP par sn X E) (hC : ClP par X E F) (hf : FstP par sn X E F fst) {i n : Nat} (hi : i ≤ E) (hn : i ≤ n) (hv : i = 0 ∨ F (X i)) :
    (nxt par fst n (X i) = 0 ∧ ∀ z, i < z → z ≤ E → ¬ F (X z)) ∨ ∃ j, i < j ∧ j ≤ E ∧ F (X j) ∧ nxt par fst n (X i) = X j ∧ ∀ z, i < z → z < j → ¬ F (X z) := by
  have under : ∀ z, i < z → z ≤ E → F (X z) → anc par (X i) (X z) → ∃ d, 1 ≤ d ∧ d ≤ z ∧ FitP par sn X F (X i) 0 d := by
    intro z z1 z2 z3 z4
    obtain ⟨d, d1, d2, d3, d4⟩ := ord_toward hO hs.1 hi z2 z4 (by omega)
    obtain ⟨kk, hkk⟩ := d4
    exact ⟨d, d1, d2, cl_up hO hs.1 hC d1 (by omega) kk z z2 z3 hkk, d3, Or.inl rfl⟩
  unfold nxt
  rcases hf (X i) 0 with ⟨f1, f2⟩ | ⟨sx, s1, s2, s3, s4, s5⟩
  · rw [if_pos f1]
    refine upw_pos hO hs hC hf hi n i hn (Nat.le_refl i) hv (anc_refl par _) ?_
    intro z z1 z2 z3 z4
    obtain ⟨d, d1, d2, d3⟩ := under z z1 z2 z3 z4
    exact f2 d d1 (by omega) d3
  · rw [if_neg (by rw [s3]; exact ord_ne0 hO s1 s2), s3]
    right
    have s6 : anc par (X i) (X sx) := ⟨1, s4.2.1⟩
    have s7 := ord_le hO hs.1 hi s2 s6
    have s8 : i ≠ sx := fun q => by
      obtain ⟨j', h1, h2⟩ := hO.2.2.1 sx s1 s2
      rw [s4.2.1, q] at h2
      have := hO.2.1 j' sx (by omega) s2 h2
      omega
    refine ⟨sx, by omega, s2, s4.1, rfl, ?_⟩
    intro z z1 z2 z3
    obtain ⟨d, d1, d2, d3⟩ := under z z1 (by omega) z3 (hO.2.2.2.1 i z sx (by omega) (by omega) s2 s6)
    rcases s5 d d1 (by omega) d3 with q | q
    · omega
    · have := hO.2.2.2.2 sx d s1 s2 d1 (by omega) (by rw [s4.2.1, d3.2.1]) q
      omega
end NXT
/-- the codes of the n positions behind i that are held -/
def heldL (X : Nat → Nat) (G : Nat → Bool) : Nat → Nat → List Nat
  | 0, _ => []
  | n + 1, i => if G (X (i + 1)) then X (i + 1) :: heldL X G n (i + 1) else heldL X G n (i + 1)
def chainP (nx : Nat → Nat) : Nat → List Nat → Prop
  | x, [] => nx x = 0
  | x, y :: ys => nx x = y ∧ y ≠ 0 ∧ chainP nx y ys
theorem held_chain {par : Nat → Nat} {sn : Nat → Nat → Prop} {X : Nat → Nat} {E : Nat} {G : Nat → Bool} {fst : Nat → Nat → Nat} (hO : OrdP par sn X E) (hs : SnP par sn X E) (hC : ClP par X E (fun x => G x = true)) (hf : FstP par sn X E (fun x => G x = true) fst) {fu : Nat} (hfu : E ≤ fu) :
    ∀ (n i i0 : Nat), n + i = E → i0 ≤ i → (i0 = 0 ∨ G (X i0) = true) → (∀ z, i0 < z → z ≤ i → ¬ G (X z) = true) → chainP (nxt par fst fu) (X i0) (heldL X G n i) := by
  intro n
  induction n with
  | zero =>
    intro i i0 h1 h2 h3 h4
    show nxt par fst fu (X i0) = 0
    rcases nxt_pos hO hs hC hf (show i0 ≤ E by omega) (show i0 ≤ fu by omega) h3 with ⟨q, -⟩ | ⟨j, q1, q2, q3, -, -⟩
    · exact q
    · exact absurd q3 (h4 j q1 (by omega))
  | succ n ih =>
    intro i i0 h1 h2 h3 h4
    unfold heldL
    by_cases hg : G (X (i + 1)) = true
    · rw [if_pos hg]
      refine ⟨?_, ord_ne0 hO (by omega) (by omega), ih (i + 1) (i + 1) (by omega) (Nat.le_refl _) (Or.inr hg) (fun z z1 z2 => by omega)⟩
      rcases nxt_pos hO hs hC hf (show i0 ≤ E by omega) (show i0 ≤ fu by omega) h3 with ⟨-, q⟩ | ⟨j, q1, q2, q3, q4, q5⟩
      · exact absurd hg (q (i + 1) (by omega) (by omega))
      · have a1 : ¬ j ≤ i := fun z => h4 j q1 z q3
        have a2 : ¬ i + 1 < j := fun z => q5 (i + 1) (by omega) z hg
        have a3 : j = i + 1 := by omega
        rw [q4, a3]
    · rw [if_neg hg]
      refine ih (i + 1) i0 (by omega) (by omega) h3 (fun z z1 z2 => ?_)
      by_cases hz : z = i + 1
      · rw [hz]; exact hg
      · exact h4 z z1 (by omega)
