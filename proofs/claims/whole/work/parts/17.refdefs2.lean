/-! The reference's public methods that walk: what they answer -/
theorem z_le {z : Int32} {n : Nat} (h0 : ¬ z < 0) (h : z ≤ nI n) (hn : n ≤ 100) : ∃ p : Nat, p ≤ n ∧ z = nI p := nI_of2 (nI_toInt (show n < 2 ^ 31 by omega)) h0 h
theorem z_lt {z : Int32} {n : Nat} (h0 : ¬ z < 0) (h : ¬ nI n ≤ z) (hn : n ≤ 100) : ∃ p : Nat, p < n ∧ z = nI p := by
  rcases pk_ix z (n := n) (by omega) with q | q | q
  · exact absurd q h0
  · exact absurd q h
  · exact q
theorem z_ge0 {z : Int32} (h : 0 ≤ z) : ¬ z < 0 := Int32.not_lt.mpr h
theorem wrt_ok {er : Nat → Bool} : ∀ (vs : List Nat) (n : Nat) (t : Nat → Nat), n + vs.length ≤ 100 → (∀ k, t k < 100) → (∀ v ∈ vs, v ≤ 100) → (wrtF er vs (n, t)).1 ≤ 100 ∧ ∀ k, (wrtF er vs (n, t)).2 k < 100
  | [], n, t, h1, h2, _ => ⟨by simpa [wrtF] using h1, h2⟩
  | v :: vs, n, t, h1, h2, h3 => by
    simp only [List.length_cons] at h1
    cases hc : er (v - 1) with
    | true => rw [wrtF_t hc]; exact wrt_ok vs n t (by omega) h2 (fun z hz => h3 z (List.mem_cons_of_mem _ hz))
    | false =>
      rw [wrtF_f hc]
      have := h3 v List.mem_cons_self
      exact wrt_ok vs (n + 1) _ (by omega) (up_lt100 h2 (by omega)) (fun z hz => h3 z (List.mem_cons_of_mem _ hz))
/-- the elements that a walk of each replica goes through -/
def xsOK (x : MS) (xs : Nat → List Nat) : Prop := ∀ r, r < 3 → chainP (nxtM x r) 0 (xs r) ∧ (xs r).length ≤ 100 ∧ ∀ v ∈ xs r, v ≤ x.nn
theorem okM_walked {x : MS} {r : Nat} {vs : List Nat} (ok : okM x) (h1 : vs.length ≤ 100) (h2 : ∀ v ∈ vs, v ≤ x.nn) : okM (walked x r vs) := by
  have hn := ok.n
  have h := wrt_ok (er := fun f => ersM x r f x.nn) vs 0 x.txt (by omega) ok.txt100 (fun v hv => Nat.le_trans (h2 v hv) hn)
  exact okM_wt ok h.1 h.2
def befM (x : MS) (p : Nat) : Nat := if p = 0 then 0 else x.txt (p - 1) + 1
def RM_insert (x : MS) (xs : Nat → List Nat) (z1 z2 : Int32) (k : Nat) (v : Int32) (u : MS) : Prop :=
  ((isRep z1 = false ∨ k < 32 ∨ 126 < k) ∧ v = -1 ∧ u = x) ∨ ∃ r : Nat, r < 3 ∧ z1 = nI r ∧ 32 ≤ k ∧ k ≤ 126 ∧
    (((z2 < 0 ∨ ¬ z2 ≤ nI (walked x r (xs r)).len) ∧ v = -1 ∧ u = walked x r (xs r)) ∨ ∃ p : Nat, p ≤ (walked x r (xs r)).len ∧ z2 = nI p ∧
      ((x.nn = 100 ∧ v = -2 ∧ u = walked x r (xs r)) ∨ (x.nn < 100 ∧ v = nI x.nn ∧ u = issM (walked x r (xs r)) r k (befM (walked x r (xs r)) p))))
def RM_erase (x : MS) (xs : Nat → List Nat) (z1 z2 : Int32) (v : Int32) (u : MS) : Prop :=
  (isRep z1 = false ∧ v = -1 ∧ u = x) ∨ ∃ r : Nat, r < 3 ∧ z1 = nI r ∧
    (((z2 < 0 ∨ nI (walked x r (xs r)).len ≤ z2) ∧ v = -1 ∧ u = walked x r (xs r)) ∨ ∃ p : Nat, p < (walked x r (xs r)).len ∧ z2 = nI p ∧
      ((x.nn = 100 ∧ v = -2 ∧ u = walked x r (xs r)) ∨ (x.nn < 100 ∧ v = nI x.nn ∧ u = issM (walked x r (xs r)) r 0 ((walked x r (xs r)).txt p + 1))))
def RM_length (x : MS) (xs : Nat → List Nat) (z1 : Int32) (v : Int32) (u : MS) : Prop := (isRep z1 = false ∧ v = -1 ∧ u = x) ∨ ∃ r : Nat, r < 3 ∧ z1 = nI r ∧ v = nI (walked x r (xs r)).len ∧ u = walked x r (xs r)
def RM_at (x : MS) (xs : Nat → List Nat) (z1 z2 : Int32) (v : Int32) (u : MS) : Prop :=
  ((isRep z1 = false ∨ ¬ 0 ≤ z2) ∧ v = -1 ∧ u = x) ∨ ∃ r : Nat, r < 3 ∧ z1 = nI r ∧ 0 ≤ z2 ∧ u = walked x r (xs r) ∧ ((nI (walked x r (xs r)).len ≤ z2 ∧ v = -1) ∨ ∃ p : Nat, p < (walked x r (xs r)).len ∧ z2 = nI p ∧ v = nI (x.let_ ((walked x r (xs r)).txt p)))
/-- position: the last place of o in the text, a code -/
def posF (t : Nat → Nat) (o : Nat) : Nat → Nat
  | 0 => 0
  | k + 1 => if t k = o then k + 1 else posF t o k
theorem posF_t {t : Nat → Nat} {o k : Nat} (h : t k = o) : posF t o (k + 1) = k + 1 := by rw [posF, if_pos h]
theorem posF_f {t : Nat → Nat} {o k : Nat} (h : ¬ t k = o) : posF t o (k + 1) = posF t o k := by rw [posF, if_neg h]
theorem posF_le (t : Nat → Nat) (o : Nat) : ∀ k, posF t o k ≤ k
  | 0 => Nat.le_refl 0
  | k + 1 => by
    have := posF_le t o k
    unfold posF
    split <;> omega
def RM_position (x : MS) (xs : Nat → List Nat) (z1 z2 : Int32) (v : Int32) (u : MS) : Prop :=
  ((isRep z1 = false ∨ isOp x.nn z2 = false) ∧ v = -1 ∧ u = x) ∨ ∃ r o : Nat, r < 3 ∧ z1 = nI r ∧ o < x.nn ∧ z2 = nI o ∧ v = sI (posF (walked x r (xs r)).txt o (walked x r (xs r)).len) ∧ u = walked x r (xs r)
def sprU (s0 f : Nat → Nat) : Nat → Nat → Nat
  | 0 => s0
  | k + 1 => va_up (sprU s0 f k) k (f k)
theorem sprU_lt {s0 f : Nat → Nat} {B : Nat} (h0 : ∀ k, s0 k < B) (hf : ∀ k, f k < B) : ∀ j k, sprU s0 f j k < B
  | 0 => h0
  | j + 1 => up_lt (sprU_lt h0 hf j) (hf j)
theorem andF_mono {g : Nat → Bool} {b : Bool} {k : Nat} (h : andF g b k = false) : ∀ {n : Nat}, k ≤ n → andF g b n = false
  | 0, hk => by
    have : k = 0 := by omega
    subst this; exact h
  | n + 1, hk => by
    by_cases hz : k = n + 1
    · subst hz; exact h
    · show (andF g b n && g n) = false
      rw [andF_mono h (show k ≤ n by omega), Bool.false_and]
/-- same(r, t): the state before its second walk, and what it answers -/
def smM (x : MS) (xs : Nat → List Nat) (r : Nat) : MS :=
  mkM x.nn x.by_ x.line x.stp x.let_ x.oth x.clk x.app x.wts x.gon (walked x r (xs r)).len (walked x r (xs r)).txt (sprU x.spr (fun k => x.let_ ((walked x r (xs r)).txt k)) (walked x r (xs r)).len)
def smA (x : MS) (xs : Nat → List Nat) (r t : Nat) : Bool :=
  andF (fun k => decide ((walked (smM x xs r) t (xs t)).spr k = x.let_ ((walked (smM x xs r) t (xs t)).txt k))) (decide ((walked x r (xs r)).len = (walked (smM x xs r) t (xs t)).len)) (walked x r (xs r)).len
def RM_same (x : MS) (xs : Nat → List Nat) (z1 z2 : Int32) (v : Int32) (u : MS) : Prop :=
  ((isRep z1 = false ∨ isRep z2 = false) ∧ v = bI false ∧ u = x) ∨ ∃ r t : Nat, r < 3 ∧ z1 = nI r ∧ t < 3 ∧ z2 = nI t ∧ v = bI (smA x xs r t) ∧ u = walked (smM x xs r) t (xs t)
theorem andF_s (g : Nat → Bool) (b : Bool) (n : Nat) : andF g b (n + 1) = (andF g b n && g n) := rfl
