/-! THE REFERENCE's state and what its methods answer, pure. Codes: 0 the start (-1 in Java), k + 1 the element k -/
def MS : Type := (Nat → Nat → Nat) × (Nat → Nat → Bool)
def MS.nn (x : MS) : Nat := x.1 0 0
def MS.len (x : MS) : Nat := x.1 1 0
def MS.by_ (x : MS) : Nat → Nat := x.1 2
def MS.line (x : MS) : Nat → Nat := x.1 3
def MS.stp (x : MS) : Nat → Nat := x.1 4
def MS.let_ (x : MS) : Nat → Nat := x.1 5
def MS.oth (x : MS) : Nat → Nat := x.1 6
def MS.clk (x : MS) : Nat → Nat := x.1 7
def MS.txt (x : MS) : Nat → Nat := x.1 8
def MS.spr (x : MS) : Nat → Nat := x.1 9
def MS.app (x : MS) : Nat → Bool := x.2 0
def MS.wts (x : MS) : Nat → Bool := x.2 1
def MS.gon (x : MS) : Nat → Bool := x.2 2
def mkM1 (nn : Nat) (by_ line stp let_ oth clk : Nat → Nat) (len : Nat) (txt spr : Nat → Nat) : Nat → Nat → Nat
  | 0 => fun _ => nn
  | 1 => fun _ => len
  | 2 => by_
  | 3 => line
  | 4 => stp
  | 5 => let_
  | 6 => oth
  | 7 => clk
  | 8 => txt
  | _ => spr
def mkM2 (app wts gon : Nat → Bool) : Nat → Nat → Bool
  | 0 => app
  | 1 => wts
  | _ => gon
def mkM (nn : Nat) (by_ line stp let_ oth clk : Nat → Nat) (app wts gon : Nat → Bool) (len : Nat) (txt spr : Nat → Nat) : MS := (mkM1 nn by_ line stp let_ oth clk len txt spr, mkM2 app wts gon)
def isRep (z : Int32) : Bool := decide (¬ z < 0 ∧ ¬ nI 3 ≤ z)
def isOp (n : Nat) (z : Int32) : Bool := decide (¬ z < 0 ∧ ¬ nI n ≤ z)
/-- its numbers are small -/
def okM (x : MS) : Prop := x.nn ≤ 100 ∧ x.len ≤ 100 ∧ ∀ k, x.by_ k < 3 ∧ x.line k < 1000 ∧ x.stp k < 1000 ∧ x.let_ k < 65536 ∧ x.oth k ≤ 100 ∧ x.clk k < 1000 ∧ x.txt k < 100 ∧ x.spr k < 65536
theorem okM.n {x : MS} (h : okM x) : x.nn ≤ 100 := h.1
theorem okM.len {x : MS} (h : okM x) : x.len ≤ 100 := h.2.1
theorem okM.by3 {x : MS} (h : okM x) (k : Nat) : x.by_ k < 3 := (h.2.2 k).1
theorem okM.by_ {x : MS} (h : okM x) (k : Nat) : x.by_ k < 2 ^ 31 := Nat.lt_trans (h.2.2 k).1 (by decide)
theorem okM.line {x : MS} (h : okM x) (k : Nat) : x.line k < 2 ^ 31 := Nat.lt_trans (h.2.2 k).2.1 (by decide)
theorem okM.stp {x : MS} (h : okM x) (k : Nat) : x.stp k < 2 ^ 31 := Nat.lt_trans (h.2.2 k).2.2.1 (by decide)
theorem okM.let_ {x : MS} (h : okM x) (k : Nat) : x.let_ k < 2 ^ 31 := Nat.lt_trans (h.2.2 k).2.2.2.1 (by decide)
theorem okM.oth {x : MS} (h : okM x) (k : Nat) : x.oth k < 2 ^ 31 := Nat.lt_of_le_of_lt (h.2.2 k).2.2.2.2.1 (by decide)
theorem okM.oth100 {x : MS} (h : okM x) (k : Nat) : x.oth k ≤ 100 := (h.2.2 k).2.2.2.2.1
theorem okM.clk {x : MS} (h : okM x) (k : Nat) : x.clk k < 2 ^ 31 := Nat.lt_trans (h.2.2 k).2.2.2.2.2.1 (by decide)
theorem okM.txt {x : MS} (h : okM x) (k : Nat) : x.txt k < 2 ^ 31 := Nat.lt_trans (h.2.2 k).2.2.2.2.2.2.1 (by decide)
theorem okM.txt100 {x : MS} (h : okM x) (k : Nat) : x.txt k < 100 := (h.2.2 k).2.2.2.2.2.2.1
theorem okM.spr {x : MS} (h : okM x) (k : Nat) : x.spr k < 2 ^ 31 := Nat.lt_trans (h.2.2 k).2.2.2.2.2.2.2 (by decide)
/-- count(r, j), over the first n operations -/
def cntF (by_ : Nat → Nat) (app : Nat → Bool) (r j : Nat) : Nat → Nat
  | 0 => 0
  | n + 1 => if by_ n = j ∧ app (100 * r + n) = true then cntF by_ app r j n + 1 else cntF by_ app r j n
def cntM (x : MS) (r j n : Nat) : Nat := cntF x.by_ x.app r j n
theorem cntM_s (x : MS) (r j n : Nat) : cntM x r j (n + 1) = if x.by_ n = j ∧ x.app (100 * r + n) = true then cntM x r j n + 1 else cntM x r j n := rfl
theorem cntM_le (x : MS) (r j : Nat) : ∀ n, cntM x r j n ≤ n
  | 0 => Nat.le_refl 0
  | n + 1 => by
    have := cntM_le x r j n
    rw [cntM_s]
    split <;> omega
theorem cntM_t {x : MS} {r j n : Nat} (h1 : x.by_ n = j) (h2 : x.app (100 * r + n) = true) : cntM x r j (n + 1) = cntM x r j n + 1 := by
  rw [cntM_s, if_pos ⟨h1, h2⟩]
theorem cntM_f1 {x : MS} {r j n : Nat} (h1 : ¬ x.by_ n = j) : cntM x r j (n + 1) = cntM x r j n := by
  rw [cntM_s, if_neg (fun q => h1 q.1)]
theorem cntM_f2 {x : MS} {r j n : Nat} (h1 : x.app (100 * r + n) = false) : cntM x r j (n + 1) = cntM x r j n := by
  rw [cntM_s, if_neg (fun q => by rw [h1] at q; cases q.2)]
/-- sooner(a, b) -/
def snM (x : MS) (a b : Nat) : Bool := decide (x.stp b < x.stp a ∨ (x.stp a = x.stp b ∧ x.by_ b < x.by_ a))
def parF (oth : Nat → Nat) : Nat → Nat
  | 0 => 0
  | k + 1 => oth k
def parM (x : MS) : Nat → Nat := parF x.oth
/-- 'fits' in first(r, after, behind), codes a and b -/
def fitM (x : MS) (r a b o : Nat) : Bool := x.app (100 * r + o) && (decide (0 < x.let_ o) && (decide (x.oth o = a) && (decide (b = 0) || snM x (b - 1) o)))
/-- first(r, after, behind), over the first n operations, a code -/
def fstF (fit : Nat → Bool) (sn : Nat → Nat → Bool) : Nat → Nat
  | 0 => 0
  | n + 1 => if fit n = true ∧ (fstF fit sn n = 0 ∨ sn n (fstF fit sn n - 1) = true) then n + 1 else fstF fit sn n
def fstM (x : MS) (r a b n : Nat) : Nat := fstF (fitM x r a b) (snM x) n
theorem fstM_s (x : MS) (r a b n : Nat) : fstM x r a b (n + 1) = if fitM x r a b n = true ∧ (fstM x r a b n = 0 ∨ snM x n (fstM x r a b n - 1) = true) then n + 1 else fstM x r a b n := rfl
theorem fstM_le (x : MS) (r a b : Nat) : ∀ n, fstM x r a b n ≤ n
  | 0 => Nat.le_refl 0
  | n + 1 => by
    have := fstM_le x r a b n
    rw [fstM_s]
    split <;> omega
theorem fstM_t {x : MS} {r a b n : Nat} (h1 : fitM x r a b n = true) (h2 : fstM x r a b n = 0 ∨ snM x n (fstM x r a b n - 1) = true) : fstM x r a b (n + 1) = n + 1 := by
  rw [fstM_s, if_pos ⟨h1, h2⟩]
theorem fstM_f1 {x : MS} {r a b n : Nat} (h1 : fitM x r a b n = false) : fstM x r a b (n + 1) = fstM x r a b n := by
  rw [fstM_s, if_neg (fun q => by rw [h1] at q; cases q.1)]
theorem fstM_f2 {x : MS} {r a b n : Nat} (h1 : 0 < fstM x r a b n) (h2 : snM x n (fstM x r a b n - 1) = false) : fstM x r a b (n + 1) = fstM x r a b n := by
  rw [fstM_s, if_neg (fun q => by
    rcases q.2 with z | z
    · omega
    · rw [h2] at z; cases z)]
/-- next(r, element), codes -/
def nxtM (x : MS) (r e : Nat) : Nat := nxt (parM x) (fun a b => fstM x r a b x.nn) 100 e
/-- erased(r, element), over the first n operations -/
def orF (g : Nat → Bool) : Nat → Bool
  | 0 => false
  | n + 1 => orF g n || g n
def andF (g : Nat → Bool) (b : Bool) : Nat → Bool
  | 0 => b
  | n + 1 => andF g b n && g n
theorem andF_t {g : Nat → Bool} {b : Bool} (hb : b = true) : ∀ {n : Nat}, (∀ i, i < n → g i = true) → andF g b n = true
  | 0, _ => hb
  | n + 1, h => by
    show (andF g b n && g n) = true
    rw [andF_t hb (fun i hi => h i (by omega)), h n (by omega)]; rfl
theorem andF_f {g : Nat → Bool} {b : Bool} {i : Nat} : ∀ {n : Nat}, i < n → g i = false → andF g b n = false
  | 0, h, _ => absurd h (Nat.not_lt_zero i)
  | n + 1, h, hg => by
    show (andF g b n && g n) = false
    by_cases hi : i = n
    · subst hi; rw [hg, Bool.and_false]
    · rw [andF_f (by omega) hg, Bool.false_and]
theorem andF_fb {g : Nat → Bool} : ∀ {n : Nat}, andF g false n = false
  | 0 => rfl
  | n + 1 => by
    show (andF g false n && g n) = false
    rw [andF_fb, Bool.false_and]
theorem andF_iff {g : Nat → Bool} {b : Bool} {n : Nat} : andF g b n = true ↔ b = true ∧ ∀ i, i < n → g i = true := by
  refine ⟨fun h => ⟨?_, fun i hi => ?_⟩, fun h => andF_t h.1 h.2⟩
  · cases b with
    | true => rfl
    | false => rw [andF_fb] at h; exact h
  · cases hg : g i with
    | true => rfl
    | false => rw [andF_f hi hg] at h; exact h
theorem orF_iff {g : Nat → Bool} : ∀ {n : Nat}, orF g n = true ↔ ∃ i, i < n ∧ g i = true
  | 0 => ⟨fun h => absurd h Bool.false_ne_true, fun ⟨i, h, _⟩ => absurd h (Nat.not_lt_zero i)⟩
  | n + 1 => by
    show (orF g n || g n) = true ↔ _
    rw [Bool.or_eq_true, orF_iff]
    refine ⟨fun h => ?_, fun ⟨i, h1, h2⟩ => ?_⟩
    · rcases h with ⟨i, h1, h2⟩ | h
      · exact ⟨i, by omega, h2⟩
      · exact ⟨n, by omega, h⟩
    · by_cases hi : i = n
      · subst hi; exact Or.inr h2
      · exact Or.inl ⟨i, by omega, h2⟩
def ersM (x : MS) (r e n : Nat) : Bool := orF (fun n => decide (x.let_ n = 0) && (decide (x.oth n = e + 1) && x.app (100 * r + n))) n
theorem ersM_s (x : MS) (r e n : Nat) : ersM x r e (n + 1) = (ersM x r e n || (decide (x.let_ n = 0) && (decide (x.oth n = e + 1) && x.app (100 * r + n)))) := rfl
/-- ready(r, o), with the first j clocks -/
def rdyM (x : MS) (r o j : Nat) : Bool := andF (fun j => decide (j = x.by_ o ∨ x.clk (3 * o + j) ≤ cntM x r j x.nn)) (decide (cntM x r (x.by_ o) x.nn = x.line o - 1)) j
theorem rdyM_s (x : MS) (r o j : Nat) : rdyM x r o (j + 1) = (rdyM x r o j && decide (j = x.by_ o ∨ x.clk (3 * o + j) ≤ cntM x r j x.nn)) := rfl
/-- known(r, i, j) for i other than r: the latest line and what it knows, over the first n operations -/
def knwF (by_ line clk : Nat → Nat) (app : Nat → Bool) (r i j : Nat) : Nat → Nat × Nat
  | 0 => (0, 0)
  | n + 1 => if by_ n = i ∧ app (100 * r + n) = true ∧ (knwF by_ line clk app r i j n).1 < line n then (line n, clk (3 * n + j)) else knwF by_ line clk app r i j n
def knwM (x : MS) (r i j n : Nat) : Nat × Nat := knwF x.by_ x.line x.clk x.app r i j n
theorem knwM_s (x : MS) (r i j n : Nat) : knwM x r i j (n + 1) = if x.by_ n = i ∧ x.app (100 * r + n) = true ∧ (knwM x r i j n).1 < x.line n then (x.line n, x.clk (3 * n + j)) else knwM x r i j n := rfl
theorem knwM_t {x : MS} {r i j n : Nat} (h1 : x.by_ n = i) (h2 : x.app (100 * r + n) = true) (h3 : (knwM x r i j n).1 < x.line n) : knwM x r i j (n + 1) = (x.line n, x.clk (3 * n + j)) := by
  rw [knwM_s, if_pos ⟨h1, h2, h3⟩]
theorem knwM_f {x : MS} {r i j n : Nat} (h1 : ¬ x.by_ n = i) : knwM x r i j (n + 1) = knwM x r i j n := by
  rw [knwM_s, if_neg (fun q => h1 q.1)]
theorem knwM_f2 {x : MS} {r i j n : Nat} (h1 : x.app (100 * r + n) = false) : knwM x r i j (n + 1) = knwM x r i j n := by
  rw [knwM_s, if_neg (fun q => by rw [h1] at q; cases q.2.1)]
theorem knwM_f3 {x : MS} {r i j n : Nat} (h1 : x.line n ≤ (knwM x r i j n).1) : knwM x r i j (n + 1) = knwM x r i j n := by
  rw [knwM_s, if_neg (fun q => by omega)]
theorem knwM_lt {x : MS} (ok : okM x) (r i j : Nat) : ∀ n, (knwM x r i j n).1 < 2 ^ 31 ∧ (knwM x r i j n).2 < 2 ^ 31
  | 0 => ⟨(by decide : (0 : Nat) < 2 ^ 31), (by decide : (0 : Nat) < 2 ^ 31)⟩
  | n + 1 => by
    have := knwM_lt ok r i j n
    rw [knwM_s]
    split
    · exact ⟨ok.line _, ok.clk _⟩
    · exact this
def knM (x : MS) (r i j : Nat) : Nat := if i = r then cntM x r j x.nn else (knwM x r i j x.nn).2
theorem knM_lt {x : MS} (ok : okM x) (r i j : Nat) : knM x r i j < 2 ^ 31 := by
  unfold knM
  split
  · exact Nat.lt_of_le_of_lt (Nat.le_trans (cntM_le _ _ _ _) ok.n) (by decide)
  · exact (knwM_lt ok r i j x.nn).2
/-- stable(r, o), with the first i replicas -/
def stbM (x : MS) (r o i : Nat) : Bool := andF (fun i => decide (x.line o ≤ knM x r i (x.by_ o))) (x.app (100 * r + o)) i
theorem stbM_s (x : MS) (r o i : Nat) : stbM x r o (i + 1) = (stbM x r o i && decide (x.line o ≤ knM x r i (x.by_ o))) := rfl
theorem stbM_no {x : MS} {r o : Nat} (h : x.app (100 * r + o) = false) : stbM x r o 3 = false := by
  show (((x.app (100 * r + o) && _) && _) && _) = false
  rw [h]; rfl
/-- idle(r, element): 'erase' and 'rest' over the first n operations -/
def ideM (x : MS) (r f n : Nat) : Bool := orF (fun n => decide (x.oth n = f + 1) && (x.app (100 * r + n) && (decide (x.let_ n = 0) && stbM x r n 3))) n
theorem ideM_s (x : MS) (r f n : Nat) : ideM x r f (n + 1) = (ideM x r f n || (decide (x.oth n = f + 1) && (x.app (100 * r + n) && (decide (x.let_ n = 0) && stbM x r n 3)))) := rfl
def idrM (x : MS) (r f n : Nat) : Bool := andF (fun n => !(decide (x.oth n = f + 1) && (x.app (100 * r + n) && !(decide (x.let_ n = 0) || stbM x r n 3)))) true n
theorem idrM_s (x : MS) (r f n : Nat) : idrM x r f (n + 1) = (idrM x r f n && !(decide (x.oth n = f + 1) && (x.app (100 * r + n) && !(decide (x.let_ n = 0) || stbM x r n 3)))) := rfl
def idlM (x : MS) (r f : Nat) : Bool := ideM x r f x.nn && idrM x r f x.nn
/-- keeps(r, o) -/
def kpsM (x : MS) (r o : Nat) : Bool := decide (0 < x.let_ o) && (x.app (100 * r + o) && !x.gon (100 * r + o))
theorem parM_p {x : MS} {a : Nat} (h : 0 < a) : parM x a = x.oth (a - 1) := by
  obtain ⟨k, rfl⟩ : ∃ k, a = k + 1 := ⟨a - 1, by omega⟩
  rfl
theorem upw_0 (P : Nat → Nat) (F : Nat → Nat → Nat) (k : Nat) : upw P F k 0 = 0 := by
  cases k with
  | zero => rfl
  | succ k => unfold upw; rw [if_pos rfl]
theorem nx_ret {P : Nat → Nat} {F : Nat → Nat → Nat} {R v a : Nat} (h : (v ≠ 0 ∧ v = R) ∨ (v = 0 ∧ ∃ k, a ≤ k ∧ upw P F k a = R)) (hv : 0 < v) : v = R := by
  rcases h with q | q
  · exact q.2
  · omega
theorem nx_end {P : Nat → Nat} {F : Nat → Nat → Nat} {R v a : Nat} (h : (v ≠ 0 ∧ v = R) ∨ (v = 0 ∧ ∃ k, a ≤ k ∧ upw P F k a = R)) (hv : v = 0) (ha : a = 0) : v = R := by
  rcases h with q | ⟨q, k, -, hk⟩
  · exact q.2
  · rw [ha, upw_0] at hk
    omega
theorem nx_step {P : Nat → Nat} {F : Nat → Nat → Nat} {R v a b : Nat} (hb : P a = b) (h : (v ≠ 0 ∧ v = R) ∨ (v = 0 ∧ ∃ k, a ≤ k ∧ upw P F k a = R)) (hv : v = 0) (ha : 0 < a) (hp : b ≤ a - 1) : (F b a ≠ 0 ∧ F b a = R) ∨ (F b a = 0 ∧ ∃ k, b ≤ k ∧ upw P F k b = R) := by
  rcases h with q | ⟨-, k, hk, hR⟩
  · exact absurd hv q.1
  · obtain ⟨k', rfl⟩ : ∃ k', k = k' + 1 := ⟨k - 1, by omega⟩
    have e : (if a = 0 then 0 else if F (P a) a = 0 then upw P F k' (P a) else F (P a) a) = R := hR
    rw [if_neg (by omega), hb] at e
    by_cases hz : F b a = 0
    · rw [if_pos hz] at e
      exact Or.inr ⟨hz, k', by omega, e⟩
    · rw [if_neg hz] at e
      exact Or.inl ⟨hz, e⟩
theorem nx_start {x : MS} {r f : Nat} (hf : f ≤ 100) : (fstM x r f 0 x.nn ≠ 0 ∧ fstM x r f 0 x.nn = nxtM x r f) ∨ (fstM x r f 0 x.nn = 0 ∧ ∃ k, f ≤ k ∧ upw (parM x) (fun a b => fstM x r a b x.nn) k f = nxtM x r f) := by
  unfold nxtM nxt
  by_cases hz : fstM x r f 0 x.nn = 0
  · exact Or.inr ⟨hz, 100, hf, by rw [if_pos hz]⟩
  · exact Or.inl ⟨hz, by rw [if_neg hz]⟩
theorem isRep_N {r : Nat} (h : r < 3) : isRep (nI r) = true := decide_eq_true ⟨nI_pos (by omega), nI_ge h (by decide)⟩
theorem isOp_N {n o : Nat} (h : o < n) (hn : n < 2 ^ 31) : isOp n (nI o) = true := decide_eq_true ⟨nI_pos (by omega), nI_ge h hn⟩
theorem okM.line3 {x : MS} (h : okM x) (k : Nat) : x.line k < 1000 := (h.2.2 k).2.1
theorem okM.stp3 {x : MS} (h : okM x) (k : Nat) : x.stp k < 1000 := (h.2.2 k).2.2.1
theorem okM.let5 {x : MS} (h : okM x) (k : Nat) : x.let_ k < 65536 := (h.2.2 k).2.2.2.1
theorem okM.clk3 {x : MS} (h : okM x) (k : Nat) : x.clk k < 1000 := (h.2.2 k).2.2.2.2.2.1
theorem okM.spr5 {x : MS} (h : okM x) (k : Nat) : x.spr k < 65536 := (h.2.2 k).2.2.2.2.2.2.2
theorem okM_mk {nn len : Nat} {by_ line stp let_ oth clk txt spr : Nat → Nat} {app wts gon : Nat → Bool} (h1 : nn ≤ 100) (h2 : len ≤ 100) (h3 : ∀ k, by_ k < 3) (h4 : ∀ k, line k < 1000) (h5 : ∀ k, stp k < 1000) (h6 : ∀ k, let_ k < 65536) (h7 : ∀ k, oth k ≤ 100) (h8 : ∀ k, clk k < 1000) (h9 : ∀ k, txt k < 100) (h10 : ∀ k, spr k < 65536) : okM (mkM nn by_ line stp let_ oth clk app wts gon len txt spr) :=
  ⟨h1, h2, fun k => ⟨h3 k, h4 k, h5 k, h6 k, h7 k, h8 k, h9 k, h10 k⟩⟩
theorem up_lt {t : Nat → Nat} {n v B : Nat} (h : ∀ k, t k < B) (hv : v < B) : ∀ k, va_up t n v k < B := by
  intro k
  unfold va_up
  split
  · exact hv
  · exact h k
theorem up_le {t : Nat → Nat} {n v B : Nat} (h : ∀ k, t k ≤ B) (hv : v ≤ B) : ∀ k, va_up t n v k ≤ B := by
  intro k
  unfold va_up
  split
  · exact hv
  · exact h k
theorem cntF_le (by_ : Nat → Nat) (app : Nat → Bool) (r j : Nat) : ∀ n, cntF by_ app r j n ≤ n
  | 0 => Nat.le_refl 0
  | n + 1 => by
    have := cntF_le by_ app r j n
    unfold cntF
    split <;> omega
/-- the greatest stamp that r has applied, of the first n operations -/
def gstF (stp : Nat → Nat) (app : Nat → Bool) (r : Nat) : Nat → Nat
  | 0 => 0
  | n + 1 => if app (100 * r + n) = true ∧ gstF stp app r n < stp n then stp n else gstF stp app r n
def gstM (x : MS) (r n : Nat) : Nat := gstF x.stp x.app r n
theorem gstM_s (x : MS) (r n : Nat) : gstM x r (n + 1) = if x.app (100 * r + n) = true ∧ gstM x r n < x.stp n then x.stp n else gstM x r n := rfl
theorem gstM_t {x : MS} {r n : Nat} (h1 : x.app (100 * r + n) = true) (h2 : gstM x r n < x.stp n) : gstM x r (n + 1) = x.stp n := by rw [gstM_s, if_pos ⟨h1, h2⟩]
theorem gstM_f1 {x : MS} {r n : Nat} (h1 : x.app (100 * r + n) = false) : gstM x r (n + 1) = gstM x r n := by
  rw [gstM_s, if_neg (fun q => by rw [h1] at q; cases q.1)]
theorem gstM_f2 {x : MS} {r n : Nat} (h1 : x.stp n ≤ gstM x r n) : gstM x r (n + 1) = gstM x r n := by
  rw [gstM_s, if_neg (fun q => by omega)]
theorem gstM_lt {x : MS} (ok : okM x) (r : Nat) : ∀ n, gstM x r n < 2 ^ 31
  | 0 => (by decide : (0 : Nat) < 2 ^ 31)
  | n + 1 => by
    have := gstM_lt ok r n
    rw [gstM_s]
    split
    · exact ok.stp n
    · exact this
def clkU (c : Nat → Nat) (o : Nat) (g : Nat → Nat) : Nat → Nat → Nat
  | 0 => c
  | j + 1 => va_up (clkU c o g j) (3 * o + j) (g j)
theorem clkU_lt {c : Nat → Nat} {o B : Nat} {g : Nat → Nat} (hc : ∀ k, c k < B) (hg : ∀ j, g j < B) : ∀ j k, clkU c o g j k < B
  | 0 => hc
  | j + 1 => up_lt (clkU_lt hc hg j) (hg j)
/-- issue(r, c, to) -/
def issM (x : MS) (r ch t : Nat) : MS :=
  mkM (x.nn + 1) (va_up x.by_ x.nn r) (va_up x.line x.nn (cntF (va_up x.by_ x.nn r) x.app r r x.nn + 1)) (va_up x.stp x.nn (gstM x r x.nn + 1)) (va_up x.let_ x.nn ch) (va_up x.oth x.nn t)
    (clkU x.clk x.nn (fun j => cntF (va_up x.by_ x.nn r) (va_up x.app (100 * r + x.nn) true) r j (x.nn + 1)) 3) (va_up x.app (100 * r + x.nn) true) x.wts x.gon x.len x.txt x.spr
/-- walk(r): what it leaves in length and text, of the elements that it goes through -/
def wrtF (er : Nat → Bool) : List Nat → Nat × (Nat → Nat) → Nat × (Nat → Nat)
  | [], s => s
  | v :: vs, s => if er (v - 1) then wrtF er vs s else wrtF er vs (s.1 + 1, va_up s.2 s.1 (v - 1))
theorem wrtF_t {er : Nat → Bool} {v n : Nat} {t : Nat → Nat} {vs : List Nat} (h : er (v - 1) = true) : wrtF er (v :: vs) (n, t) = wrtF er vs (n, t) := by
  show (if er (v - 1) = true then _ else _) = _
  rw [if_pos h]
theorem wrtF_f {er : Nat → Bool} {v n : Nat} {t : Nat → Nat} {vs : List Nat} (h : er (v - 1) = false) : wrtF er (v :: vs) (n, t) = wrtF er vs (n + 1, va_up t n (v - 1)) := by
  show (if er (v - 1) = true then _ else _) = _
  rw [if_neg (by rw [h]; decide)]
def walked (x : MS) (r : Nat) (xs : List Nat) : MS := mkM x.nn x.by_ x.line x.stp x.let_ x.oth x.clk x.app x.wts x.gon (wrtF (fun f => ersM x r f x.nn) xs (0, x.txt)).1 (wrtF (fun f => ersM x r f x.nn) xs (0, x.txt)).2 x.spr
theorem okM_wt {x : MS} {n : Nat} {t : Nat → Nat} (ok : okM x) (h : n ≤ 100) (ht : ∀ k, t k < 100) : okM (mkM x.nn x.by_ x.line x.stp x.let_ x.oth x.clk x.app x.wts x.gon n t x.spr) :=
  ⟨ok.1, h, fun k => ⟨(ok.2.2 k).1, (ok.2.2 k).2.1, (ok.2.2 k).2.2.1, (ok.2.2 k).2.2.2.1, (ok.2.2 k).2.2.2.2.1, (ok.2.2 k).2.2.2.2.2.1, ht k, (ok.2.2 k).2.2.2.2.2.2.2⟩⟩
theorem up_lt100 {t : Nat → Nat} {n v : Nat} (h : ∀ k, t k < 100) (hv : v < 100) : ∀ k, va_up t n v k < 100 := by
  intro k
  unfold va_up
  split
  · exact hv
  · exact h k
theorem ch_next {nx : Nat → Nat} {v : Nat} {zs : List Nat} (h : chainP nx v zs) : (nx v = 0 ∧ zs = []) ∨ ∃ ys, zs = nx v :: ys ∧ nx v ≠ 0 ∧ chainP nx (nx v) ys := by
  cases zs with
  | nil => exact Or.inl ⟨h, rfl⟩
  | cons y ys =>
    obtain ⟨h1, h2, h3⟩ := h
    exact Or.inr ⟨ys, by rw [h1], by rw [h1]; exact h2, by rw [h1]; exact h3⟩
theorem ch_le {nx : Nat → Nat} {v N : Nat} {zs : List Nat} (h : (v = 0 ∧ zs = []) ∨ ∃ ys, zs = v :: ys ∧ v ≠ 0 ∧ chainP nx v ys) (hz : ∀ z ∈ zs, z ≤ N) (h0 : 0 ≤ N) : v ≤ N := by
  rcases h with ⟨q, -⟩ | ⟨ys, q, -, -⟩
  · rw [q]; exact h0
  · exact hz v (by rw [q]; exact List.mem_cons_self)
theorem wk_end {x : MS} {r v ln : Nat} {xs ys : List Nat} {t : Nat → Nat} (hv : (v = 0 ∧ ys = []) ∨ ∃ zs, ys = v :: zs ∧ v ≠ 0 ∧ chainP (nxtM x r) v zs) (h0 : v = 0) (h4 : wrtF (fun f => ersM x r f x.nn) ys (ln, t) = wrtF (fun f => ersM x r f x.nn) xs (0, x.txt)) : mkM x.nn x.by_ x.line x.stp x.let_ x.oth x.clk x.app x.wts x.gon ln t x.spr = walked x r xs := by
  rcases hv with ⟨-, q⟩ | ⟨zs, -, q, -⟩
  · subst q
    unfold walked
    rw [← h4]
    rfl
  · exact absurd h0 q
theorem isRep_of {z : Int32} (h : isRep z = true) : ∃ r : Nat, r < 3 ∧ z = nI r := by
  have h2 := of_decide_eq_true h
  rcases pk_ix z (n := 3) (by decide) with q | q | q
  · exact absurd q h2.1
  · exact absurd q h2.2
  · exact q
theorem isOp_of {n : Nat} {z : Int32} (h : isOp n z = true) (hn : n < 2 ^ 31 := by omega) : ∃ o : Nat, o < n ∧ z = nI o := by
  have h2 := of_decide_eq_true h
  rcases pk_ix z hn with q | q | q
  · exact absurd q h2.1
  · exact absurd q h2.2
  · exact q
def stM (x : MS) (a w : Nat → Bool) : MS := mkM x.nn x.by_ x.line x.stp x.let_ x.oth x.clk a w x.gon x.len x.txt x.spr
theorem okM_st {x : MS} {a w : Nat → Bool} (ok : okM x) : okM (mkM x.nn x.by_ x.line x.stp x.let_ x.oth x.clk a w x.gon x.len x.txt x.spr) := ok
/-- one pass of deliver over the first k operations: applied, waiting, how many -/
def pasF (x : MS) (r : Nat) (a w : Nat → Bool) : Nat → (Nat → Bool) × (Nat → Bool) × Nat
  | 0 => (a, w, 0)
  | k + 1 => if (pasF x r a w k).2.1 (100 * r + k) = true ∧ rdyM (stM x (pasF x r a w k).1 (pasF x r a w k).2.1) r k 3 = true then (va_up (pasF x r a w k).1 (100 * r + k) true, va_up (pasF x r a w k).2.1 (100 * r + k) false, (pasF x r a w k).2.2 + 1) else pasF x r a w k
theorem pasF_t {x : MS} {r k : Nat} {a w : Nat → Bool} (h1 : (pasF x r a w k).2.1 (100 * r + k) = true) (h2 : rdyM (stM x (pasF x r a w k).1 (pasF x r a w k).2.1) r k 3 = true) : pasF x r a w (k + 1) = (va_up (pasF x r a w k).1 (100 * r + k) true, va_up (pasF x r a w k).2.1 (100 * r + k) false, (pasF x r a w k).2.2 + 1) := by
  rw [pasF, if_pos ⟨h1, h2⟩]
theorem pasF_f1 {x : MS} {r k : Nat} {a w : Nat → Bool} (h1 : (pasF x r a w k).2.1 (100 * r + k) = false) : pasF x r a w (k + 1) = pasF x r a w k := by
  rw [pasF, if_neg (fun q => by rw [h1] at q; cases q.1)]
theorem pasF_f2 {x : MS} {r k : Nat} {a w : Nat → Bool} (h1 : rdyM (stM x (pasF x r a w k).1 (pasF x r a w k).2.1) r k 3 = false) : pasF x r a w (k + 1) = pasF x r a w k := by
  rw [pasF, if_neg (fun q => by rw [h1] at q; cases q.2)]
/-- deliver(r, o) -/
def dlvM (x : MS) (r o : Nat) : MS × Nat := if x.app (100 * r + o) = true ∨ x.wts (100 * r + o) = true then (x, 0) else (stM x (pasF x r x.app (va_up x.wts (100 * r + o) true) x.nn).1 (pasF x r x.app (va_up x.wts (100 * r + o) true) x.nn).2.1, (pasF x r x.app (va_up x.wts (100 * r + o) true) x.nn).2.2)
theorem dlvM_old {x : MS} {r o : Nat} (h : x.app (100 * r + o) = true ∨ x.wts (100 * r + o) = true) : dlvM x r o = (x, 0) := by rw [dlvM, if_pos h]
theorem dlvM_new {x : MS} {r o : Nat} (h1 : x.app (100 * r + o) = false) (h2 : x.wts (100 * r + o) = false) : dlvM x r o = (stM x (pasF x r x.app (va_up x.wts (100 * r + o) true) x.nn).1 (pasF x r x.app (va_up x.wts (100 * r + o) true) x.nn).2.1, (pasF x r x.app (va_up x.wts (100 * r + o) true) x.nn).2.2) := by
  rw [dlvM, if_neg (fun q => by rw [h1, h2] at q; rcases q with z | z <;> cases z)]
/-- a second pass would find nothing -/
def idlD (x : MS) (r o : Nat) : Prop := x.app (100 * r + o) = false → x.wts (100 * r + o) = false → pasF x r (pasF x r x.app (va_up x.wts (100 * r + o) true) x.nn).1 (pasF x r x.app (va_up x.wts (100 * r + o) true) x.nn).2.1 x.nn = ((pasF x r x.app (va_up x.wts (100 * r + o) true) x.nn).1, (pasF x r x.app (va_up x.wts (100 * r + o) true) x.nn).2.1, 0)
def dlPh (P : (Nat → Bool) × (Nat → Bool) × Nat) (a0 w0 : Nat → Bool) (n : Nat) (mo : Bool) (a w : Nat → Bool) (c : Nat) : Prop := (mo = false ∧ a = P.1 ∧ w = P.2.1 ∧ c = P.2.2 ∧ 1 ≤ n) ∨ (mo = true ∧ a = P.1 ∧ w = P.2.1 ∧ c = P.2.2 ∧ 2 ≤ n) ∨ (mo = true ∧ a = a0 ∧ w = w0 ∧ c = 0 ∧ 3 ≤ n)
theorem dl_pos {P : (Nat → Bool) × (Nat → Bool) × Nat} {a0 w0 a w : Nat → Bool} {n c : Nat} {mo : Bool} (h : dlPh P a0 w0 n mo a w c) : 0 < n := by
  rcases h with h | h | h <;> omega
theorem dl_step {x : MS} {r o n c : Nat} {a w : Nat → Bool} {mo : Bool} (hid : idlD x r o) (h1 : x.app (100 * r + o) = false) (h2 : x.wts (100 * r + o) = false) (h : dlPh (pasF x r x.app (va_up x.wts (100 * r + o) true) x.nn) x.app (va_up x.wts (100 * r + o) true) (n + 1) mo a w c) (hm : mo = true) : dlPh (pasF x r x.app (va_up x.wts (100 * r + o) true) x.nn) x.app (va_up x.wts (100 * r + o) true) n (decide (0 < (pasF x r a w x.nn).2.2)) (pasF x r a w x.nn).1 (pasF x r a w x.nn).2.1 (c + (pasF x r a w x.nn).2.2) := by
  have hid := hid h1 h2
  subst hm
  rcases h with ⟨q, -⟩ | ⟨-, rfl, rfl, rfl, q⟩ | ⟨-, rfl, rfl, rfl, q⟩
  · cases q
  · rw [hid]
    exact Or.inl ⟨rfl, rfl, rfl, rfl, by omega⟩
  · by_cases hz : 0 < (pasF x r x.app (va_up x.wts (100 * r + o) true) x.nn).2.2
    · exact Or.inr (Or.inl ⟨decide_eq_true hz, rfl, rfl, Nat.zero_add _, by omega⟩)
    · exact Or.inl ⟨decide_eq_false hz, rfl, rfl, Nat.zero_add _, by omega⟩
theorem dl_end {P : (Nat → Bool) × (Nat → Bool) × Nat} {a0 w0 a w : Nat → Bool} {n c : Nat} {mo : Bool} (h : dlPh P a0 w0 n mo a w c) (hm : mo = false) : a = P.1 ∧ w = P.2.1 ∧ c = P.2.2 := by
  rcases h with ⟨-, h1, h2, h3, -⟩ | ⟨q, -⟩ | ⟨q, -⟩
  · exact ⟨h1, h2, h3⟩
  · rw [hm] at q; cases q
  · rw [hm] at q; cases q
theorem dl_st {x : MS} {P : (Nat → Bool) × (Nat → Bool) × Nat} {a0 w0 a w : Nat → Bool} {n c : Nat} {mo : Bool} (h : dlPh P a0 w0 n mo a w c) (hm : mo = false) : mkM x.nn x.by_ x.line x.stp x.let_ x.oth x.clk a w x.gon x.len x.txt x.spr = stM x P.1 P.2.1 := by
  obtain ⟨h1, h2, -⟩ := dl_end h hm
  rw [h1, h2]; rfl
def RM_deliver (x : MS) (z1 z2 : Int32) (v : Int32) (u : MS) : Prop := ((isRep z1 = false ∨ isOp x.nn z2 = false) ∧ v = -1 ∧ u = x) ∨ ∃ r o : Nat, r < 3 ∧ z1 = nI r ∧ o < x.nn ∧ z2 = nI o ∧ v = nI (dlvM x r o).2 ∧ u = (dlvM x r o).1
theorem RM_deliver_N {x : MS} {r o : Nat} {v : Int32} {u : MS} (h : RM_deliver x (nI r) (nI o) v u) (hr : r < 3) (ho : o < x.nn) (hn : x.nn < 2 ^ 31 := by omega) : v = nI (dlvM x r o).2 ∧ u = (dlvM x r o).1 := by
  rcases h with ⟨q | q, -, -⟩ | ⟨r', o', h1, h2, h3, h4, h5, h6⟩
  · rw [isRep_N hr] at q; cases q
  · rw [isOp_N ho hn] at q; cases q
  · have e1 : r = r' := (nI_eq (by omega) (by omega)).mp h2
    have e2 : o = o' := (nI_eq (by omega) (by omega)).mp h4
    subst e1; subst e2
    exact ⟨h5, h6⟩
/-- sync(r, t), over the first o operations -/
def synF (x : MS) (r t : Nat) : Nat → MS × Nat
  | 0 => (x, 0)
  | o + 1 => if (synF x r t o).1.app (100 * t + o) = true then ((dlvM (synF x r t o).1 r o).1, (synF x r t o).2 + (dlvM (synF x r t o).1 r o).2) else synF x r t o
theorem synF_t {x : MS} {r t o : Nat} (h : (synF x r t o).1.app (100 * t + o) = true) : synF x r t (o + 1) = ((dlvM (synF x r t o).1 r o).1, (synF x r t o).2 + (dlvM (synF x r t o).1 r o).2) := by rw [synF, if_pos h]
theorem synF_f {x : MS} {r t o : Nat} (h : (synF x r t o).1.app (100 * t + o) = false) : synF x r t (o + 1) = synF x r t o := by rw [synF, if_neg (by rw [h]; decide)]
def syOK (x : MS) (r t o : Nat) : Prop := okM (synF x r t o).1 ∧ (synF x r t o).1.nn = x.nn ∧ (∀ k, k < (synF x r t o).1.nn → 1 ≤ (synF x r t o).1.line k) ∧ ∀ r', r' < 3 → ∀ o', o' < (synF x r t o).1.nn → idlD (synF x r t o).1 r' o'
def RM_sync (x : MS) (z1 z2 : Int32) (v : Int32) (u : MS) : Prop := ((isRep z1 = false ∨ isRep z2 = false) ∧ v = -1 ∧ u = x) ∨ ∃ r t : Nat, r < 3 ∧ z1 = nI r ∧ t < 3 ∧ z2 = nI t ∧ v = nI (synF x r t x.nn).2 ∧ u = (synF x r t x.nn).1
def gnM (x : MS) (g : Nat → Bool) : MS := mkM x.nn x.by_ x.line x.stp x.let_ x.oth x.clk x.app x.wts g x.len x.txt x.spr
/-- collect(r), over the first o operations -/
def colF (x : MS) (r : Nat) : Nat → (Nat → Bool) × Nat
  | 0 => (x.gon, 0)
  | o + 1 => if kpsM (gnM x (colF x r o).1) r o = true ∧ idlM (gnM x (colF x r o).1) r o = true then (va_up (colF x r o).1 (100 * r + o) true, (colF x r o).2 + 1) else colF x r o
theorem colF_t {x : MS} {r o : Nat} (h1 : kpsM (gnM x (colF x r o).1) r o = true) (h2 : idlM (gnM x (colF x r o).1) r o = true) : colF x r (o + 1) = (va_up (colF x r o).1 (100 * r + o) true, (colF x r o).2 + 1) := by rw [colF, if_pos ⟨h1, h2⟩]
theorem colF_f1 {x : MS} {r o : Nat} (h1 : kpsM (gnM x (colF x r o).1) r o = false) : colF x r (o + 1) = colF x r o := by rw [colF, if_neg (fun q => by rw [h1] at q; cases q.1)]
theorem colF_f2 {x : MS} {r o : Nat} (h1 : idlM (gnM x (colF x r o).1) r o = false) : colF x r (o + 1) = colF x r o := by rw [colF, if_neg (fun q => by rw [h1] at q; cases q.2)]
def RM_collect (x : MS) (z1 : Int32) (v : Int32) (u : MS) : Prop := (isRep z1 = false ∧ v = -1 ∧ u = x) ∨ ∃ r : Nat, r < 3 ∧ z1 = nI r ∧ v = nI (colF x r x.nn).2 ∧ u = gnM x (colF x r x.nn).1
def numF (g : Nat → Bool) : Nat → Nat
  | 0 => 0
  | n + 1 => if g n = true then numF g n + 1 else numF g n
theorem numF_t {g : Nat → Bool} {n : Nat} (h : g n = true) : numF g (n + 1) = numF g n + 1 := by rw [numF, if_pos h]
theorem numF_f {g : Nat → Bool} {n : Nat} (h : g n = false) : numF g (n + 1) = numF g n := by rw [numF, if_neg (by rw [h]; decide)]
def RM_num (g : Nat → Nat → Bool) (x : MS) (z1 : Int32) (v : Int32) (u : MS) : Prop := (isRep z1 = false ∧ v = -1 ∧ u = x) ∨ ∃ r : Nat, r < 3 ∧ z1 = nI r ∧ v = nI (numF (g r) x.nn) ∧ u = x
def RM_stamp (x : MS) (z1 : Int32) (v : Int32) (u : MS) : Prop := (isOp x.nn z1 = false ∧ v = -1 ∧ u = x) ∨ ∃ o : Nat, o < x.nn ∧ z1 = nI o ∧ v = nI (4 * x.stp o + x.by_ o) ∧ u = x
def RM_known (x : MS) (z1 z2 z3 : Int32) (v : Int32) (u : MS) : Prop := ((isRep z1 = false ∨ isRep z2 = false ∨ isRep z3 = false) ∧ v = -1 ∧ u = x) ∨ ∃ r i j : Nat, r < 3 ∧ z1 = nI r ∧ i < 3 ∧ z2 = nI i ∧ j < 3 ∧ z3 = nI j ∧ v = nI (knM x r i j) ∧ u = x
def RM_stable (x : MS) (z1 z2 : Int32) (v : Int32) (u : MS) : Prop := ((isRep z1 = false ∨ isOp x.nn z2 = false) ∧ v = bI false ∧ u = x) ∨ ∃ r o : Nat, r < 3 ∧ z1 = nI r ∧ o < x.nn ∧ z2 = nI o ∧ v = bI (stbM x r o 3) ∧ u = x
