/-! THE ORDER, pure: codes (0 the start, k + 1 the element k), their parents, and a list of positions that goes through the tree, sooner siblings first -/
def up_k (par : Nat → Nat) : Nat → Nat → Nat
  | 0, x => x
  | k + 1, x => up_k par k (par x)
def anc (par : Nat → Nat) (a b : Nat) : Prop := ∃ k, up_k par k b = a
theorem up_add (par : Nat → Nat) (j : Nat) : ∀ (k x : Nat), up_k par (j + k) x = up_k par j (up_k par k x)
  | 0, _ => rfl
  | k + 1, x => up_add par j k (par x)
theorem anc_refl (par : Nat → Nat) (a : Nat) : anc par a a := ⟨0, rfl⟩
theorem anc_par {par : Nat → Nat} {a b : Nat} (h : anc par a (par b)) : anc par a b := by
  obtain ⟨k, h⟩ := h
  exact ⟨k + 1, h⟩
theorem anc_cases {par : Nat → Nat} {a b : Nat} (h : anc par a b) : a = b ∨ anc par a (par b) := by
  obtain ⟨k, h⟩ := h
  cases k with
  | zero => exact Or.inl h.symm
  | succ k => exact Or.inr ⟨k, h⟩
theorem anc_trans {par : Nat → Nat} {a b d : Nat} (h1 : anc par a b) (h2 : anc par b d) : anc par a d := by
  obtain ⟨j, h1⟩ := h1
  obtain ⟨k, h2⟩ := h2
  exact ⟨j + k, by rw [up_add, h2, h1]⟩
theorem anc_toward {par : Nat → Nat} (h0 : par 0 = 0) {a : Nat} : ∀ (k d : Nat), up_k par k d = a → a ≠ d → ∃ c, c ≠ 0 ∧ par c = a ∧ anc par c d
  | 0, _, h, hn => absurd h.symm hn
  | k + 1, d, h, hn => by
    by_cases hp : par d = a
    · refine ⟨d, fun q => ?_, hp, anc_refl par d⟩
      subst q
      exact hn (by rw [← hp, h0])
    · obtain ⟨c, h1, h2, h3⟩ := anc_toward h0 k (par d) h (fun q => hp q.symm)
      exact ⟨c, h1, h2, anc_par h3⟩
/-- positions 0 .. E: the start, then the elements -/
def OrdP (par : Nat → Nat) (sn : Nat → Nat → Prop) (X : Nat → Nat) (E : Nat) : Prop :=
  X 0 = 0 ∧ (∀ i j, i ≤ E → j ≤ E → X i = X j → i = j) ∧ (∀ i, 1 ≤ i → i ≤ E → ∃ j, j < i ∧ X j = par (X i)) ∧
  (∀ i k j, i ≤ k → k ≤ j → j ≤ E → anc par (X i) (X j) → anc par (X i) (X k)) ∧
  ∀ i j, 1 ≤ i → i ≤ E → 1 ≤ j → j ≤ E → par (X i) = par (X j) → sn (X i) (X j) → i < j
/-- sooner: a strict order, total on the positions' codes; a child is sooner than its parent -/
def SnP (par : Nat → Nat) (sn : Nat → Nat → Prop) (X : Nat → Nat) (E : Nat) : Prop :=
  par 0 = 0 ∧ (∀ a b d, sn a b → sn b d → sn a d) ∧ (∀ a, ¬ sn a a) ∧ (∀ i j, 1 ≤ i → i ≤ E → 1 ≤ j → j ≤ E → i ≠ j → sn (X i) (X j) ∨ sn (X j) (X i)) ∧
  ∀ i, 1 ≤ i → i ≤ E → par (X i) ≠ 0 → sn (X i) (par (X i))
section ORD
variable {par : Nat → Nat} {sn : Nat → Nat → Prop} {X : Nat → Nat} {E : Nat}
/-- an ancestor of a position's code is a position's code, no later -/
theorem ord_up (hO : OrdP par sn X E) (h0 : par 0 = 0) {a : Nat} : ∀ (k j : Nat), j ≤ E → up_k par k (X j) = a → ∃ i, i ≤ j ∧ X i = a
  | 0, j, _, h => ⟨j, Nat.le_refl j, h⟩
  | k + 1, j, hj, h => by
    by_cases hz : j = 0
    · subst hz
      have h2 : up_k par k (X 0) = a := by
        have : par (X 0) = X 0 := by rw [hO.1, h0]
        have h3 : up_k par k (par (X 0)) = a := h
        rw [this] at h3
        exact h3
      exact ord_up hO h0 k 0 hj h2
    · obtain ⟨j', h1, h2⟩ := hO.2.2.1 j (by omega) hj
      have h3 : up_k par k (par (X j)) = a := h
      rw [← h2] at h3
      obtain ⟨i, h4, h5⟩ := ord_up hO h0 k j' (by omega) h3
      exact ⟨i, by omega, h5⟩
theorem ord_le (hO : OrdP par sn X E) (h0 : par 0 = 0) {i j : Nat} (hi : i ≤ E) (hj : j ≤ E) (h : anc par (X i) (X j)) : i ≤ j := by
  obtain ⟨k, h⟩ := h
  obtain ⟨i', h1, h2⟩ := ord_up hO h0 k j hj h
  have := hO.2.1 i' i (by omega) hi h2
  omega
theorem ord_ne0 (hO : OrdP par sn X E) {i : Nat} (h1 : 1 ≤ i) (hi : i ≤ E) : X i ≠ 0 := fun h => by
  have := hO.2.1 i 0 hi (Nat.zero_le E) (by rw [h, hO.1])
  omega
/-- the child of position i on the way to position j -/
theorem ord_toward (hO : OrdP par sn X E) (h0 : par 0 = 0) {i j : Nat} (hi : i ≤ E) (hj : j ≤ E) (h : anc par (X i) (X j)) (hn : i ≠ j) : ∃ d, 1 ≤ d ∧ d ≤ j ∧ par (X d) = X i ∧ anc par (X d) (X j) := by
  obtain ⟨k, hk⟩ := h
  obtain ⟨c, h1, h2, h3⟩ := anc_toward h0 k (X j) hk (fun q => hn (hO.2.1 i j hi hj q))
  obtain ⟨k2, hk2⟩ := h3
  obtain ⟨d, h4, h5⟩ := ord_up hO h0 k2 j hj hk2
  refine ⟨d, ?_, h4, by rw [h5]; exact h2, ⟨k2, by rw [hk2, h5]⟩⟩
  rcases Nat.eq_zero_or_pos d with q | q
  · subst q
    exact absurd (h5.symm.trans hO.1) h1
  · exact q
/-- a descendant is sooner -/
theorem ord_desc (hO : OrdP par sn X E) (hs : SnP par sn X E) {i : Nat} (hi : 1 ≤ i) (hiE : i ≤ E) : ∀ (k j : Nat), j ≤ E → up_k par k (X j) = X i → i ≠ j → sn (X j) (X i)
  | 0, j, hj, h, hn => absurd (hO.2.1 j i hj hiE h).symm hn
  | k + 1, j, hj, h, hn => by
    have hle := ord_le hO hs.1 hiE hj ⟨k + 1, h⟩
    have hj1 : 1 ≤ j := by omega
    obtain ⟨j', h1, h2⟩ := hO.2.2.1 j hj1 hj
    have h3 : up_k par k (par (X j)) = X i := h
    rw [← h2] at h3
    have hne : par (X j) ≠ 0 := by
      rw [← h2]
      have := ord_le hO hs.1 hiE (show j' ≤ E by omega) ⟨k, h3⟩
      exact ord_ne0 hO (by omega) (by omega)
    have hc := hs.2.2.2.2 j hj1 hj hne
    by_cases hq : i = j'
    · subst hq
      rw [← h2] at hc
      exact hc
    · have := ord_desc hO hs hi hiE k j' (by omega) h3 hq
      rw [← h2] at hc
      exact hs.2.1 _ _ _ hc this
/-- siblings are no ancestors of each other -/
theorem ord_sib (hO : OrdP par sn X E) (h0 : par 0 = 0) {i j : Nat} (hi : 1 ≤ i) (hiE : i ≤ E) (hj : j ≤ E) (hj1 : 1 ≤ j) (hp : par (X i) = par (X j)) (hn : i ≠ j) : ¬ anc par (X i) (X j) := fun h => by
  rcases anc_cases h with q | q
  · exact hn (hO.2.1 i j hiE hj q)
  · rw [← hp] at q
    obtain ⟨i', h1, h2⟩ := hO.2.2.1 i hi hiE
    rw [← h2] at q
    have := ord_le hO h0 hiE (show i' ≤ E by omega) q
    omega
theorem ord_root (hO : OrdP par sn X E) : ∀ j, j ≤ E → anc par 0 (X j) := by
  intro j
  induction j using Nat.strongRecOn with
  | ind j ih =>
    intro hj
    by_cases hz : j = 0
    · subst hz
      rw [hO.1]
      exact anc_refl par 0
    · obtain ⟨j', h1, h2⟩ := hO.2.2.1 j (by omega) hj
      have := ih j' h1 (by omega)
      rw [h2] at this
      exact anc_par this
def insX (X : Nat → Nat) (k e : Nat) : Nat → Nat := fun i => if i < k then X i else if i = k then e else X (i - 1)
theorem insX_lt {k e i : Nat} (h : i < k) : insX X k e i = X i := by unfold insX; rw [if_pos h]
theorem insX_eq {k e : Nat} : insX X k e k = e := by unfold insX; rw [if_neg (Nat.lt_irrefl k), if_pos rfl]
theorem insX_gt {k e i : Nat} (h : k ≤ i) : insX X k e (i + 1) = X i := by
  unfold insX
  rw [if_neg (by omega), if_neg (by omega)]
  rfl
theorem insX_cases (k e : Nat) (j : Nat) : (j = k ∧ insX X k e j = e) ∨ ∃ i, insX X k e j = X i ∧ ((i < k ∧ j = i) ∨ (k ≤ i ∧ j = i + 1)) := by
  rcases Nat.lt_trichotomy j k with h | h | h
  · exact Or.inr ⟨j, insX_lt h, Or.inl ⟨h, rfl⟩⟩
  · subst h
    exact Or.inl ⟨rfl, insX_eq⟩
  · obtain ⟨i, rfl⟩ : ∃ i, j = i + 1 := ⟨j - 1, by omega⟩
    exact Or.inr ⟨i, insX_gt (by omega), Or.inr ⟨by omega, rfl⟩⟩
/-- what stands between the target and the new place is under the target -/
theorem ins_sub (hO : OrdP par sn X E) (hs : SnP par sn X E) {e t k : Nat} (hpe : par e = X t) (hkE : k ≤ E + 1) (hch : X t ≠ 0 → sn e (X t)) (hskip : ∀ i, t < i → i < k → sn (X i) e) : ∀ w, t < w → w < k → anc par (X t) (X w) := by
  intro w
  induction w using Nat.strongRecOn with
  | ind w ih =>
    intro h1 h2
    obtain ⟨w', h3, h4⟩ := hO.2.2.1 w (by omega) (by omega)
    rcases Nat.lt_trichotomy w' t with q | q | q
    · exfalso
      have a1 : anc par (X w') (X w) := ⟨1, by show par (X w) = X w'; exact h4.symm⟩
      have a2 := hO.2.2.2.1 w' t w (by omega) (by omega) (by omega) a1
      obtain ⟨d, b1, b2, b3, b4⟩ := ord_toward hO hs.1 (by omega) (by omega) a2 (by omega)
      have b5 : sn (X d) (X w) := by
        rcases hs.2.2.2.1 d w b1 (by omega) (by omega) (by omega) (by omega) with z | z
        · exact z
        · have := hO.2.2.2.2 w d (by omega) (by omega) b1 (by omega) (by rw [b3, h4]) z
          omega
      have b6 : sn (X t) (X w) := by
        by_cases z : d = t
        · rw [← z]; exact b5
        · obtain ⟨kk, hkk⟩ := b4
          exact hs.2.1 _ _ _ (ord_desc hO hs b1 (by omega) kk t (by omega) hkk z) b5
      exact hs.2.2.1 _ (hs.2.1 _ _ _ (hs.2.1 _ _ _ (hch (ord_ne0 hO (by omega) (by omega))) b6) (hskip w h1 h2))
    · subst q
      exact ⟨1, by show par (X w) = X w'; exact h4.symm⟩
    · have := ih w' h3 q (by omega)
      rw [h4] at this
      exact anc_par this
theorem ins_leaf (hO : OrdP par sn X E) (h0 : par 0 = 0) {e : Nat} (hne : ∀ i, i ≤ E → X i ≠ e) {j : Nat} (hj : j ≤ E) : ¬ anc par e (X j) := fun h => by
  obtain ⟨k, hk⟩ := h
  obtain ⟨i, h1, h2⟩ := ord_up hO h0 k j hj hk
  exact hne i (by omega) h2
theorem ins_anc {e : Nat} (hpe : ∀ i, i ≤ E → X i ≠ e) {t i : Nat} (hi : i ≤ E) (hp : par e = X t) (h : anc par (X i) e) : anc par (X i) (X t) := by
  rcases anc_cases h with q | q
  · exact absurd q (hpe i hi)
  · rw [hp] at q; exact q
theorem ord_ins (hO : OrdP par sn X E) (hs : SnP par sn X E) {e t k : Nat} (hpe : par e = X t) (ht : t < k) (hkE : k ≤ E + 1) (hne : ∀ i, i ≤ E → X i ≠ e) (hch : X t ≠ 0 → sn e (X t)) (hskip : ∀ i, t < i → i < k → sn (X i) e) (hstop : k ≤ E → ¬ sn (X k) e) : OrdP par sn (insX X k e) (E + 1) := by
  have h0 := hs.1
  have htE : t ≤ E := by omega
  refine ⟨?_, ?_, ?_, ?_, ?_⟩
  · rw [insX_lt (by omega)]; exact hO.1
  · intro i j hi hj h
    rcases insX_cases (X := X) k e i with ⟨a1, a2⟩ | ⟨i0, a1, a2⟩ <;> rcases insX_cases (X := X) k e j with ⟨b1, b2⟩ | ⟨j0, b1, b2⟩
    · omega
    · rw [a2, b1] at h
      exact absurd h.symm (hne j0 (by omega))
    · rw [a1, b2] at h
      exact absurd h (hne i0 (by omega))
    · rw [a1, b1] at h
      have := hO.2.1 i0 j0 (by omega) (by omega) h
      omega
  · intro j h1 h2
    rcases insX_cases (X := X) k e j with ⟨b1, b2⟩ | ⟨j0, b1, b2⟩
    · exact ⟨t, by omega, by rw [insX_lt ht, b2, hpe]⟩
    · obtain ⟨j', c1, c2⟩ := hO.2.2.1 j0 (by omega) (by omega)
      by_cases hq : j' < k
      · exact ⟨j', by omega, by rw [insX_lt hq, b1, c2]⟩
      · exact ⟨j' + 1, by omega, by rw [insX_gt (by omega), b1, c2]⟩
  · intro i w j h1 h2 h3 h
    rcases insX_cases (X := X) k e j with ⟨b1, b2⟩ | ⟨j0, b1, b2⟩
    · rcases insX_cases (X := X) k e i with ⟨a1, a2⟩ | ⟨i0, a1, a2⟩
      · have : w = k := by omega
        subst this
        rw [a2, insX_eq]
        exact anc_refl par e
      · rw [a1, b2] at h
        rw [a1]
        have a3 := ins_anc hne (show i0 ≤ E by omega) hpe h
        have a4 := ord_le hO h0 (by omega) htE a3
        rcases insX_cases (X := X) k e w with ⟨c1, c2⟩ | ⟨w0, c1, c2⟩
        · rw [c2]; exact h
        · rw [c1]
          by_cases hq : w0 ≤ t
          · exact hO.2.2.2.1 i0 w0 t (by omega) hq htE a3
          · exact anc_trans a3 (ins_sub hO hs hpe hkE hch hskip w0 (by omega) (by omega))
    · rcases insX_cases (X := X) k e i with ⟨a1, a2⟩ | ⟨i0, a1, a2⟩
      · rw [a2, b1] at h
        exact absurd h (ins_leaf hO h0 hne (by omega))
      · rw [a1, b1] at h
        rw [a1]
        rcases insX_cases (X := X) k e w with ⟨c1, c2⟩ | ⟨w0, c1, c2⟩
        · rw [c2]
          by_cases hq : i0 ≤ t
          · have a3 := hO.2.2.2.1 i0 t j0 hq (by omega) (by omega) h
            rw [← hpe] at a3
            exact anc_par a3
          · exfalso
            have a3 := hO.2.2.2.1 i0 k j0 (by omega) (by omega) (by omega) h
            obtain ⟨kk, hkk⟩ := a3
            have a4 := ord_desc hO hs (show 1 ≤ i0 by omega) (by omega) kk k (by omega) hkk (by omega)
            exact hstop (by omega) (hs.2.1 _ _ _ a4 (hskip i0 (by omega) (by omega)))
        · rw [c1]
          exact hO.2.2.2.1 i0 w0 j0 (by omega) (by omega) (by omega) h
  · intro i j h1 h2 h3 h4 hp hsn
    rcases insX_cases (X := X) k e i with ⟨a1, a2⟩ | ⟨i0, a1, a2⟩ <;> rcases insX_cases (X := X) k e j with ⟨b1, b2⟩ | ⟨j0, b1, b2⟩
    · rw [a2, b2] at hsn
      exact absurd hsn (hs.2.2.1 e)
    · rw [a2, b1] at hsn hp
      rw [hpe] at hp
      obtain ⟨j', c1, c2⟩ := hO.2.2.1 j0 (by omega) (by omega)
      have c3 := hO.2.1 j' t (by omega) htE (by rw [c2, hp])
      by_cases hq : j0 < k
      · exact absurd (hs.2.1 _ _ _ hsn (hskip j0 (by omega) hq)) (hs.2.2.1 e)
      · omega
    · rw [a1, b2] at hsn hp
      rw [hpe] at hp
      by_cases hq : i0 < k
      · omega
      · exfalso
        have hkE' : k ≤ E := by omega
        have c0 : anc par (X t) (X i0) := ⟨1, hp⟩
        have c1 := hO.2.2.2.1 t k i0 (by omega) (by omega) (by omega) c0
        obtain ⟨d, d1, d2, d3, d4⟩ := ord_toward hO h0 htE hkE' c1 (by omega)
        have d5 : sn (X d) e := by
          by_cases hd : d = i0
          · rw [hd]; exact hsn
          · rcases hs.2.2.2.1 d i0 d1 (by omega) (by omega) (by omega) hd with z | z
            · exact hs.2.1 _ _ _ z hsn
            · have := hO.2.2.2.2 i0 d (by omega) (by omega) d1 (by omega) (by rw [hp, d3]) z
              omega
        by_cases hd : d = k
        · rw [hd] at d5
          exact hstop hkE' d5
        · obtain ⟨kk, hkk⟩ := d4
          exact hstop hkE' (hs.2.1 _ _ _ (ord_desc hO hs d1 (by omega) kk k hkE' hkk hd) d5)
    · rw [a1, b1] at hsn hp
      have := hO.2.2.2.2 i0 j0 (by omega) (by omega) (by omega) (by omega) hp hsn
      omega
end ORD
