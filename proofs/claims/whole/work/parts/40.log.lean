/-! THE SIMULATION, pure. Counting -/
theorem numF_le (g : Nat → Bool) : ∀ n, numF g n ≤ n
  | 0 => Nat.le_refl 0
  | n + 1 => by
    have := numF_le g n
    unfold numF
    split <;> omega
theorem numF_congr {g h : Nat → Bool} : ∀ {n : Nat}, (∀ o, o < n → g o = h o) → numF g n = numF h n
  | 0, _ => rfl
  | n + 1, hh => by
    have := numF_congr (n := n) (fun o ho => hh o (by omega))
    rw [numF, numF, this, hh n (by omega)]
theorem numF_imp {g h : Nat → Bool} : ∀ {n : Nat}, (∀ o, o < n → g o = true → h o = true) → numF g n ≤ numF h n
  | 0, _ => Nat.le_refl 0
  | n + 1, hh => by
    have := numF_imp (n := n) (fun o ho => hh o (by omega))
    have q := hh n (by omega)
    rw [numF, numF]
    cases hg : g n with
    | true => rw [if_pos rfl, if_pos (q hg)]; omega
    | false =>
      rw [if_neg (by decide)]
      split <;> omega
theorem numF_mono {g : Nat → Bool} {m : Nat} : ∀ {n : Nat}, m ≤ n → numF g m ≤ numF g n
  | 0, h => by rw [show m = 0 by omega]; exact Nat.le_refl _
  | n + 1, h => by
    by_cases hz : m = n + 1
    · rw [hz]; exact Nat.le_refl _
    · have := numF_mono (g := g) (m := m) (n := n) (by omega)
      rw [numF]
      split <;> omega
theorem numF_lt {g : Nat → Bool} {m n : Nat} (h : m < n) (hg : g m = true) : numF g m + 1 ≤ numF g n := by
  rw [← numF_t hg]
  exact numF_mono h
theorem numF_pos {g : Nat → Bool} {m n : Nat} (h : m < n) (hg : g m = true) : 1 ≤ numF g n := by
  have := numF_lt h hg
  omega
theorem numF_upt {g : Nat → Bool} {o : Nat} : ∀ {n : Nat}, o < n → g o = false → numF (va_up g o true) n = numF g n + 1
  | 0, h, _ => absurd h (Nat.not_lt_zero o)
  | n + 1, h, hg => by
    by_cases hz : o = n
    · subst hz
      rw [numF_t (va_up_self g o true), numF_f hg, numF_congr (fun k hk => va_up_ne g true (by omega))]
    · have := numF_upt (n := n) (by omega) hg
      rw [numF, numF, this, va_up_ne g true (by omega)]
      split <;> omega
theorem numF_upf {g : Nat → Bool} {o : Nat} : ∀ {n : Nat}, o < n → g o = true → numF (va_up g o false) n + 1 = numF g n
  | 0, h, _ => absurd h (Nat.not_lt_zero o)
  | n + 1, h, hg => by
    by_cases hz : o = n
    · subst hz
      rw [numF_t hg, numF_f (va_up_self g o false), numF_congr (fun k hk => va_up_ne g false (by omega))]
    · have := numF_upf (n := n) (by omega) hg
      rw [numF, numF, ← this, va_up_ne g false (by omega)]
      split <;> omega
theorem numF_0 {g : Nat → Bool} : ∀ {n : Nat}, (∀ o, o < n → g o = false) → numF g n = 0
  | 0, _ => rfl
  | n + 1, h => by rw [numF_f (h n (by omega)), numF_0 (fun o ho => h o (by omega))]
/-- a row of a table of three -/
def rowF (a : Nat → Bool) (r : Nat) : Nat → Bool := fun o => a (100 * r + o)
theorem row_up (a : Nat → Bool) (r o : Nat) (v : Bool) : rowF (va_up a (100 * r + o) v) r = va_up (rowF a r) o v := by
  funext k
  unfold rowF va_up
  by_cases h : k = o
  · rw [if_pos h, if_pos (by omega)]
  · rw [if_neg h, if_neg (by omega)]
theorem row_up2 (a : Nat → Bool) {r r2 o k : Nat} (v : Bool) (h : r2 ≠ r) (ho : o < 100) (hk : k < 100) : rowF (va_up a (100 * r + o) v) r2 k = rowF a r2 k := by
  unfold rowF va_up
  rw [if_neg (by omega)]
/-- how many of the first k operations j has issued; how many of j's are in A -/
def nbM (u : MS) (j k : Nat) : Nat := numF (fun o => decide (u.by_ o = j)) k
def cA (u : MS) (A : Nat → Bool) (j : Nat) : Nat := numF (fun o => decide (u.by_ o = j) && A o) u.nn
theorem cntF_num (by_ : Nat → Nat) (app : Nat → Bool) (r j : Nat) : ∀ n, cntF by_ app r j n = numF (fun o => decide (by_ o = j) && rowF app r o) n
  | 0 => rfl
  | n + 1 => by
    rw [cntF, numF, cntF_num by_ app r j n]
    by_cases h1 : by_ n = j
    · cases h2 : app (100 * r + n) with
      | true => rw [if_pos ⟨h1, rfl⟩, if_pos (by rw [decide_eq_true h1]; exact h2)]
      | false => rw [if_neg (fun q => by cases q.2), if_neg (fun q => by rw [decide_eq_true h1, Bool.true_and] at q; exact absurd (q.symm.trans h2) (by decide))]
    · rw [if_neg (fun q => h1 q.1), if_neg (fun q => by rw [decide_eq_false h1] at q; cases q)]
theorem cntM_cA (u : MS) (r j : Nat) : cntM u r j u.nn = cA u (rowF u.app r) j := cntF_num u.by_ u.app r j u.nn
/-- o builds on p -/
def dP (u : MS) (p o : Nat) : Prop := u.line p ≤ u.clk (3 * o + u.by_ p)
def LogP (u : MS) : Prop := okM u ∧ ∀ o, o < u.nn →
  u.line o = u.clk (3 * o + u.by_ o) ∧ u.line o = nbM u (u.by_ o) o + 1 ∧ (∀ j, j < 3 → j ≠ u.by_ o → u.clk (3 * o + j) ≤ nbM u j o) ∧
  (∀ p, p < u.nn → dP u p o → (∀ j, j < 3 → u.clk (3 * p + j) ≤ u.clk (3 * o + j)) ∧ (p ≠ o → u.stp p < u.stp o)) ∧
  u.oth o ≤ o ∧ (0 < u.oth o → 0 < u.let_ (u.oth o - 1) ∧ dP u (u.oth o - 1) o) ∧ (u.let_ o = 0 → 0 < u.oth o) ∧ u.stp o ≤ o + 1
section LG
variable {u : MS}
theorem LogP.ok (h : LogP u) : okM u := h.1
theorem LogP.lc (h : LogP u) {o : Nat} (ho : o < u.nn) : u.line o = u.clk (3 * o + u.by_ o) := (h.2 o ho).1
theorem LogP.ln (h : LogP u) {o : Nat} (ho : o < u.nn) : u.line o = nbM u (u.by_ o) o + 1 := (h.2 o ho).2.1
theorem LogP.ck (h : LogP u) {o j : Nat} (ho : o < u.nn) (hj : j < 3) (hn : j ≠ u.by_ o) : u.clk (3 * o + j) ≤ nbM u j o := (h.2 o ho).2.2.1 j hj hn
theorem LogP.tr (h : LogP u) {p o : Nat} (hp : p < u.nn) (ho : o < u.nn) (hd : dP u p o) {j : Nat} (hj : j < 3) : u.clk (3 * p + j) ≤ u.clk (3 * o + j) := ((h.2 o ho).2.2.2.1 p hp hd).1 j hj
theorem LogP.st (h : LogP u) {p o : Nat} (hp : p < u.nn) (ho : o < u.nn) (hd : dP u p o) (hn : p ≠ o) : u.stp p < u.stp o := ((h.2 o ho).2.2.2.1 p hp hd).2 hn
theorem LogP.ot (h : LogP u) {o : Nat} (ho : o < u.nn) : u.oth o ≤ o := (h.2 o ho).2.2.2.2.1
theorem LogP.pr (h : LogP u) {o : Nat} (ho : o < u.nn) (hp : 0 < u.oth o) : 0 < u.let_ (u.oth o - 1) ∧ dP u (u.oth o - 1) o := (h.2 o ho).2.2.2.2.2.1 hp
theorem LogP.er (h : LogP u) {o : Nat} (ho : o < u.nn) (hp : u.let_ o = 0) : 0 < u.oth o := (h.2 o ho).2.2.2.2.2.2.1 hp
theorem LogP.s1 (h : LogP u) {o : Nat} (ho : o < u.nn) : u.stp o ≤ o + 1 := (h.2 o ho).2.2.2.2.2.2.2
theorem nb_lt {m n : Nat} (h : m < n) : nbM u (u.by_ m) m + 1 ≤ nbM u (u.by_ m) n := numF_lt h (decide_eq_true rfl)
theorem nb_mono {j m n : Nat} (h : m ≤ n) : nbM u j m ≤ nbM u j n := numF_mono h
theorem LogP.le (h : LogP u) {p o : Nat} (hp : p < u.nn) (ho : o < u.nn) (hd : dP u p o) : p ≤ o := by
  by_cases q : p ≤ o
  · exact q
  · exfalso
    unfold dP at hd
    rw [h.ln hp] at hd
    by_cases hb : u.by_ p = u.by_ o
    · have h1 := nb_lt (u := u) (m := o) (n := p) (by omega)
      rw [hb] at hd
      rw [← h.lc ho, h.ln ho] at hd
      omega
    · have h1 := h.ck ho (h.ok.by3 p) hb
      have h2 := nb_mono (u := u) (j := u.by_ p) (m := o) (n := p) (by omega)
      omega
theorem LogP.refl (h : LogP u) {o : Nat} (ho : o < u.nn) : dP u o o := Nat.le_of_eq (h.lc ho)
/-- operations of one replica: the earlier one stands before in line -/
theorem LogP.own (h : LogP u) {p o : Nat} (ho : o < u.nn) (hp : p < o) (hb : u.by_ p = u.by_ o) : u.line p < u.line o := by
  have h1 := nb_lt (u := u) hp
  rw [h.ln (show p < u.nn by omega), h.ln ho, ← hb]
  omega
theorem LogP.inj (h : LogP u) {p o : Nat} (ho : o < u.nn) (hp : p < u.nn) (hb : u.by_ p = u.by_ o) (hl : u.line p = u.line o) : p = o := by
  rcases Nat.lt_trichotomy p o with q | q | q
  · have := h.own ho q hb; omega
  · exact q
  · have := h.own hp q hb.symm; omega
theorem LogP.dow (h : LogP u) {p o : Nat} (ho : o < u.nn) (hp : p < u.nn) (hb : u.by_ p = u.by_ o) (hl : u.line p ≤ u.line o) : dP u p o := by
  unfold dP
  rw [hb, ← h.lc ho]
  exact hl
/-- each number up to the count is a line -/
theorem nb_sur {j : Nat} : ∀ {k m : Nat}, m < nbM u j k → ∃ p, p < k ∧ u.by_ p = j ∧ nbM u j p = m
  | 0, m, h => absurd h (Nat.not_lt_zero m)
  | k + 1, m, h => by
    by_cases hb : u.by_ k = j
    · by_cases hm : m = nbM u j k
      · exact ⟨k, by omega, hb, hm.symm⟩
      · have e : nbM u j (k + 1) = nbM u j k + 1 := numF_t (decide_eq_true hb)
        obtain ⟨p, h1, h2, h3⟩ := nb_sur (j := j) (k := k) (m := m) (by omega)
        exact ⟨p, by omega, h2, h3⟩
    · have e : nbM u j (k + 1) = nbM u j k := numF_f (decide_eq_false hb)
      obtain ⟨p, h1, h2, h3⟩ := nb_sur (j := j) (k := k) (m := m) (by omega)
      exact ⟨p, by omega, h2, h3⟩
theorem LogP.sur (h : LogP u) {j m k : Nat} (hk : k ≤ u.nn) (h0 : 0 < m) (h1 : m ≤ nbM u j k) : ∃ p, p < k ∧ u.by_ p = j ∧ u.line p = m := by
  obtain ⟨p, q1, q2, q3⟩ := nb_sur (u := u) (j := j) (k := k) (m := m - 1) (by omega)
  exact ⟨p, q1, q2, by rw [h.ln (show p < u.nn by omega), q2, q3]; omega⟩
end LG
/-! A REPLICA's row: A applied, W waiting -/
def rdyP (u : MS) (A : Nat → Bool) (o : Nat) : Prop := cA u A (u.by_ o) = u.line o - 1 ∧ ∀ j, j < 3 → j = u.by_ o ∨ u.clk (3 * o + j) ≤ cA u A j
theorem rdyM_iff (u : MS) (r o : Nat) : rdyM u r o 3 = true ↔ rdyP u (rowF u.app r) o := by
  unfold rdyM rdyP
  rw [andF_iff, decide_eq_true_eq, cntM_cA]
  refine ⟨fun h => ⟨h.1, fun j hj => ?_⟩, fun h => ⟨h.1, fun j hj => ?_⟩⟩
  · have := of_decide_eq_true (h.2 j hj)
    rw [cntM_cA] at this
    exact this
  · exact decide_eq_true (by rw [cntM_cA]; exact h.2 j hj)
def RowP (u : MS) (r : Nat) (A W : Nat → Bool) : Prop := ∀ o, o < u.nn →
  (A o = true ↔ u.line o ≤ cA u A (u.by_ o)) ∧ (A o = true → ∀ j, j < 3 → u.clk (3 * o + j) ≤ cA u A j) ∧ (u.by_ o = r → A o = true) ∧ (W o = true → A o = false)
def QuiP (u : MS) (A W : Nat → Bool) (k : Nat) : Prop := ∀ o, o < k → W o = true → ¬ rdyP u A o
section RW
variable {u : MS} {r : Nat} {A W : Nat → Bool}
theorem RowP.a (h : RowP u r A W) {o : Nat} (ho : o < u.nn) : A o = true ↔ u.line o ≤ cA u A (u.by_ o) := (h o ho).1
theorem RowP.k (h : RowP u r A W) {o : Nat} (ho : o < u.nn) (ha : A o = true) {j : Nat} (hj : j < 3) : u.clk (3 * o + j) ≤ cA u A j := (h o ho).2.1 ha j hj
theorem RowP.me (h : RowP u r A W) {o : Nat} (ho : o < u.nn) (hb : u.by_ o = r) : A o = true := (h o ho).2.2.1 hb
theorem RowP.w (h : RowP u r A W) {o : Nat} (ho : o < u.nn) (hw : W o = true) : A o = false := (h o ho).2.2.2 hw
/-- what is applied is closed -/
theorem RowP.cl (h : RowP u r A W) (hL : LogP u) {p o : Nat} (hp : p < u.nn) (ho : o < u.nn) (ha : A o = true) (hd : dP u p o) : A p = true :=
  (h.a hp).mpr (Nat.le_trans hd (h.k ho ha (hL.ok.by3 p)))
theorem cA_up {o j : Nat} (ho : o < u.nn) (ha : A o = false) : cA u (va_up A o true) j = cA u A j + if j = u.by_ o then 1 else 0 := by
  unfold cA
  by_cases hj : j = u.by_ o
  · rw [if_pos hj, ← numF_upt (g := fun k => decide (u.by_ k = j) && A k) ho (by show (decide (u.by_ o = j) && A o) = false; rw [ha, Bool.and_false])]
    refine numF_congr (fun k hk => ?_)
    unfold va_up
    by_cases hk2 : k = o
    · rw [if_pos hk2, if_pos hk2, hk2, hj, decide_eq_true rfl, Bool.true_and]
    · rw [if_neg hk2, if_neg hk2]
  · rw [if_neg hj, Nat.add_zero]
    refine numF_congr (fun k hk => ?_)
    unfold va_up
    by_cases hk2 : k = o
    · rw [hk2, decide_eq_false (fun q => hj q.symm), Bool.false_and, Bool.false_and]
    · rw [if_neg hk2]
theorem row_apply (hL : LogP u) (h : RowP u r A W) {o : Nat} (ho : o < u.nn) (ha : A o = false) (hr : rdyP u A o) : RowP u r (va_up A o true) (va_up W o false) := by
  intro k hk
  have hl := hL.ln ho
  have hb := hL.ok.by3 o
  refine ⟨?_, ?_, ?_, ?_⟩
  · rw [cA_up ho ha]
    by_cases hko : k = o
    · subst hko
      rw [va_up_self, if_pos rfl, hr.1]
      exact ⟨fun _ => by omega, fun _ => rfl⟩
    · rw [va_up_ne A true hko, h.a hk]
      by_cases hby : u.by_ k = u.by_ o
      · rw [if_pos hby, hby, hr.1]
        have h9 : u.line k ≠ u.line o := fun q => hko (hL.inj ho hk hby q)
        omega
      · rw [if_neg hby]; omega
  · intro hk2 j hj
    rw [cA_up ho ha]
    by_cases hko : k = o
    · subst hko
      rcases hr.2 j hj with q | q
      · rw [if_pos q, q, ← hL.lc hk, hr.1]; omega
      · omega
    · rw [va_up_ne A true hko] at hk2
      have := h.k hk hk2 hj
      omega
  · intro hk2
    unfold va_up
    split
    · rfl
    · exact h.me hk hk2
  · intro hk2
    by_cases hko : k = o
    · subst hko; rw [va_up_self] at hk2; cases hk2
    · rw [va_up_ne W false hko] at hk2
      rw [va_up_ne A true hko]
      exact h.w hk hk2
/-- what waits earlier does not become ready -/
theorem qui_apply (hL : LogP u) {o : Nat} (ho : o < u.nn) (ha : A o = false) (hr : rdyP u A o) (hq : QuiP u A W o) : QuiP u (va_up A o true) (va_up W o false) (o + 1) := by
  intro k hk hw hrd
  by_cases hko : k = o
  · subst hko; rw [va_up_self] at hw; cases hw
  · rw [va_up_ne W false hko] at hw
    have hkn : k < u.nn := by omega
    have hlo := hL.ln ho
    refine hq k (by omega) hw ⟨?_, fun j hj => ?_⟩
    · have h1 := hrd.1
      rw [cA_up ho ha] at h1
      by_cases hby : u.by_ k = u.by_ o
      · exfalso
        rw [if_pos hby, hby, hr.1] at h1
        have := hL.own ho (show k < o by omega) hby
        have := hL.ln hkn
        omega
      · rw [if_neg hby] at h1
        exact h1
    · have h1 := hrd.2 j hj
      rcases h1 with q | q
      · exact Or.inl q
      · rw [cA_up ho ha] at q
        by_cases hjo : j = u.by_ o
        · by_cases hjk : j = u.by_ k
          · exact Or.inl hjk
          · refine Or.inr ?_
            rw [if_pos hjo] at q
            by_cases hd : dP u o k
            · have := hL.le ho hkn hd; omega
            · unfold dP at hd
              rw [← hjo] at hd
              rw [hjo, hr.1] at q ⊢
              rw [hjo] at hd
              omega
        · rw [if_neg hjo] at q
          exact Or.inr q
theorem row_uniq (hL : LogP u) {A2 W2 : Nat → Bool} (h1 : RowP u r A W) (h2 : RowP u r A2 W2) (q1 : QuiP u A W u.nn) (q2 : QuiP u A2 W2 u.nn) (hS : ∀ o, o < u.nn → (A o || W o) = (A2 o || W2 o)) : ∀ n o, o < n → o < u.nn → A o = A2 o := by
  have key : ∀ {A W A2 W2 : Nat → Bool}, RowP u r A W → RowP u r A2 W2 → QuiP u A2 W2 u.nn → (∀ o, o < u.nn → (A o || W o) = (A2 o || W2 o)) → ∀ o, o < u.nn → (∀ p, p < o → A p = A2 p) → A o = true → A2 o = true := by
    intro A W A2 W2 h1 h2 q2 hS o ho ih ha
    cases h3 : A2 o with
    | true => rfl
    | false =>
      exfalso
      have hw : W2 o = true := by
        have := hS o ho
        rw [ha, h3, Bool.true_or, Bool.false_or] at this
        exact this.symm
      have hpre : ∀ j m, j < 3 → 0 < m → m ≤ u.clk (3 * o + j) → m ≤ nbM u j o → m ≤ cA u A2 j := by
        intro j m hj h0 hm hm2
        obtain ⟨p, p1, p2, p3⟩ := hL.sur (show o ≤ u.nn by omega) h0 hm2
        have hd : dP u p o := by unfold dP; rw [p2, p3]; exact hm
        have hp := h1.cl hL (show p < u.nn by omega) ho ha hd
        rw [ih p p1] at hp
        have := (h2.a (show p < u.nn by omega)).mp hp
        rw [p2, p3] at this
        exact this
      refine q2 o ho hw ⟨?_, fun j hj => ?_⟩
      · have hn : ¬ u.line o ≤ cA u A2 (u.by_ o) := fun q => by
          have := (h2.a ho).mpr q
          rw [h3] at this; cases this
        have hl := hL.ln ho
        have hc := hL.lc ho
        by_cases hz : u.line o = 1
        · omega
        · have := hpre (u.by_ o) (u.line o - 1) (hL.ok.by3 o) (by omega) (by omega) (by omega)
          omega
      · by_cases hjo : j = u.by_ o
        · exact Or.inl hjo
        · refine Or.inr ?_
          by_cases hz : u.clk (3 * o + j) = 0
          · omega
          · exact hpre j _ hj (by omega) (Nat.le_refl _) (hL.ck ho hj hjo)
  intro n
  induction n with
  | zero => intro o ho; exact absurd ho (Nat.not_lt_zero o)
  | succ n ih =>
    intro o ho hon
    have hp : ∀ p, p < o → A p = A2 p := fun p hp => ih p (by omega) (by omega)
    have e1 := key h1 h2 q2 hS o hon hp
    have e2 := key h2 h1 q1 (fun o ho => (hS o ho).symm) o hon (fun p h => (hp p h).symm)
    cases h3 : A o with
    | true => rw [e1 h3]
    | false =>
      cases h4 : A2 o with
      | true => rw [e2 h4] at h3; cases h3
      | false => rfl
end RW
