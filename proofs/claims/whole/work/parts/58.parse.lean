/-! ===== texts: tokens, items, what they do ===== -/
def srF (f : Nat → Int32) (n i : Nat) : Nat := if i < n then (if rng (f i) 97 122 then 1 else if rng (f i) 48 57 then 2 else if f i = 59 then 3 else 4) else 0
def skF (f : Nat → Int32) (n : Nat) : Nat → Nat → Nat
  | 0, i => i
  | k + 1, i => if i < n ∧ f i = 32 then skF f n k (i + 1) else i
def rnF (f : Nat → Int32) (n x : Nat) : Nat → Nat → Nat
  | 0, i => i
  | k + 1, i => if srF f n i = x then rnF f n x k (i + 1) else i
abbrev lgF (f : Nat → Int32) (n b : Nat) : Prop := srF f n b = 1 ∨ srF f n b = 2
def teF (f : Nat → Int32) (n b : Nat) : Nat := if b < n then (if lgF f n b then rnF f n (srF f n b) (n - (b + 1)) (b + 1) else b + 1) else b
def tkF (f : Nat → Int32) (n i : Nat) : Nat × Nat := (skF f n (n - i) i, teF f n (skF f n (n - i) i))
def nxF (f : Nat → Int32) (n : Nat) (t : Nat × Nat) : Nat × Nat := tkF f n t.2
def nvF (f : Nat → Int32) (b : Nat) : Nat → Nat
  | 0 => 0
  | k + 1 => if 9999 < nvF f b k then nvF f b k else 10 * nvF f b k + (ca_n (f (b + k)) - 48)
abbrev vaF (f : Nat → Int32) (t : Nat × Nat) : Nat := nvF f t.1 (t.2 - t.1)
def pNum (f : Nat → Int32) (n : Nat) (t : Nat × Nat) (lo hi : Nat) : Option Nat := if srF f n t.1 = 2 ∧ lo ≤ vaF f t ∧ vaF f t ≤ hi then some (vaF f t) else none
def wdB (f : Nat → Int32) (b i : Nat) : Nat → Bool
  | 0 => true
  | k + 1 => wdB f b i k && decide (f (b + k) = chF i k)
abbrev wdP (f : Nat → Int32) (t : Nat × Nat) (i : Nat) : Prop := t.2 - t.1 = lnF i ∧ wdB f t.1 i (lnF i) = true
def itF (a b c d e g h i : Nat) : Nat → Nat := fun j => [a, b, c, d, e, g, h, i].getD j 0
def pSpan (f : Nat → Int32) (n : Nat) (t : Nat × Nat) (hi : Nat) : Nat ⊕ ((Nat × Nat) × Nat × Nat) := match pNum f n t 0 hi with
  | none => .inl t.1
  | some a => match pNum f n (nxF f n t) a hi with
    | none => .inl (nxF f n t).1
    | some b => .inr (nxF f n (nxF f n t), a, b)
def pOpt (f : Nat → Int32) (n : Nat) (t : Nat × Nat) (w hi : Nat) : Nat ⊕ ((Nat × Nat) × Nat × Nat) := if wdP f t w then pSpan f n (nxF f n t) hi else .inr (t, 0, hi)
def pTail (f : Nat → Int32) (n : Nat) (t : Nat × Nat) (k p q : Nat) : Nat ⊕ ((Nat × Nat) × (Nat → Nat)) := match pOpt f n t 10 23 with
  | .inl x => .inl x
  | .inr y => match pOpt f n y.1 11 29 with
    | .inl x => .inl x
    | .inr z => .inr (z.1, itF 2 p q k y.2.1 y.2.2 z.2.1 z.2.2)
def pTerm (f : Nat → Int32) (n : Nat) (s : Nat → Int32) (t : Nat × Nat) (k : Nat) : Nat ⊕ ((Nat × Nat) × (Nat → Nat)) := if nT s < 12 then (match pNum f n (nxF f n t) 0 5 with
  | none => .inl (nxF f n t).1
  | some p => if cntP s (nI p) (nT s) < 5 then (if wdP f (nxF f n (nxF f n t)) 9 then (match pNum f n (nxF f n (nxF f n (nxF f n t))) 0 7 with
    | none => .inl (nxF f n (nxF f n (nxF f n t))).1
    | some q => pTail f n (nxF f n (nxF f n (nxF f n (nxF f n t)))) k p q) else .inl (nxF f n (nxF f n t)).1) else .inl (nxF f n t).1) else .inl t.1
def pRoad (f : Nat → Int32) (n : Nat) (t : Nat × Nat) : Nat ⊕ ((Nat × Nat) × (Nat → Nat)) := match pNum f n (nxF f n t) 0 7 with
  | none => .inl (nxF f n t).1
  | some a => match pNum f n (nxF f n (nxF f n t)) 0 7 with
    | none => .inl (nxF f n (nxF f n t)).1
    | some b => if b = a then .inl (nxF f n (nxF f n t)).1 else .inr (nxF f n (nxF f n (nxF f n t)), itF 0 a b 0 0 0 0 0)
def pBail (f : Nat → Int32) (n : Nat) (t : Nat × Nat) : Nat ⊕ ((Nat × Nat) × (Nat → Nat)) := match pNum f n (nxF f n t) 0 5 with
  | none => .inl (nxF f n t).1
  | some a => match pNum f n (nxF f n (nxF f n t)) 0 9999 with
    | none => .inl (nxF f n (nxF f n t)).1
    | some b => .inr (nxF f n (nxF f n (nxF f n t)), itF 1 a b 0 0 0 0 0)
def kdB (f : Nat → Int32) (t : Nat × Nat) (k : Nat) : Bool := decide (wdP f t (2 + k))
def pItem (f : Nat → Int32) (n : Nat) (s : Nat → Int32) (t : Nat × Nat) : Nat ⊕ ((Nat × Nat) × (Nat → Nat)) := match fnF (kdB f t) 7 0 with
  | some k => pTerm f n s t k
  | none => if wdP f t 0 then pRoad f n t else if wdP f t 1 then pBail f n t else .inl t.1
def ntS (s : Nat → Int32) (n : Nat) (g : Nat → Int32) : Nat → Int32 := fun j => if j = 189 then nI (n + 1) else if 190 + 7 * n ≤ j ∧ j < 197 + 7 * n then g (j - (190 + 7 * n)) else s j
def tgF (it : Nat → Nat) (w : Nat) : Int32 := nI ([it 3, it 1, it 2, it 4, it 5, it 6, it 7].getD w 0)
def apI (it : Nat → Nat) (s : Nat → Int32) : Nat → Int32 := if it 0 = 0 then rdS s (it 1) (it 2) 1 else if it 0 = 1 then upd s (325 + it 1) (nI (it 2)) else ntS s (nT s) (tgF it)
def pText (f : Nat → Int32) (n : Nat) : Nat → Nat × Nat → (Nat → Int32) → Nat → Nat ⊕ (Nat × (Nat → Int32))
  | 0, _, _, _ => .inl 0
  | k + 1, t, s, m => match pItem f n s t with
    | .inl x => .inl x
    | .inr y => if srF f n y.1.1 = 0 then .inr (m + 1, apI y.2 s) else if srF f n y.1.1 = 3 then pText f n k (nxF f n y.1) (apI y.2 s) (m + 1) else .inl y.1.1
def txV (σ : Sg) (r : Nat ⊕ (Nat × (Nat → Int32))) : Int32 × Sg := match r with
  | .inl x => (-1 - nI x, sf (sf σ 4 (σ 4)) 8 (tpF σ 0))
  | .inr y => (nI y.1, sf (sf (sf σ 4 (σ 4)) 8 (tpF σ 0)) 0 y.2)
def op_text (σ : Sg) : Int32 × Sg := txV σ (pText (σ 4) (ca_n (σ 8 2)) 121 (tkF (σ 4) (ca_n (σ 8 2)) 0) (σ 0) 0)
/-! tokens lie in the tape, one behind another -/
theorem skF_s (f : Nat → Int32) (n k i : Nat) : skF f n (k + 1) i = if i < n ∧ f i = 32 then skF f n k (i + 1) else i := rfl
theorem rnF_s (f : Nat → Int32) (n x k i : Nat) : rnF f n x (k + 1) i = if srF f n i = x then rnF f n x k (i + 1) else i := rfl
theorem sk_le (f : Nat → Int32) (n : Nat) : ∀ k i, i + k ≤ n → i ≤ skF f n k i ∧ skF f n k i ≤ n
  | 0, i, h => ⟨Nat.le_refl _, by show i ≤ n; omega⟩
  | k + 1, i, h => by
    rw [skF_s]
    split
    · have := sk_le f n k (i + 1) (by omega)
      omega
    · omega
theorem rn_le (f : Nat → Int32) (n x : Nat) : ∀ k i, i + k ≤ n → i ≤ rnF f n x k i ∧ rnF f n x k i ≤ n
  | 0, i, h => ⟨Nat.le_refl _, by show i ≤ n; omega⟩
  | k + 1, i, h => by
    rw [rnF_s]
    split
    · have := rn_le f n x k (i + 1) (by omega)
      omega
    · omega
theorem te_le {f : Nat → Int32} {n b : Nat} (h : b ≤ n) : b ≤ teF f n b ∧ teF f n b ≤ n ∧ (b < n → b < teF f n b) := by
  unfold teF
  by_cases w : b < n
  · rw [if_pos w]
    split
    · have := rn_le f n (srF f n b) (n - (b + 1)) (b + 1) (by omega)
      omega
    · omega
  · rw [if_neg w]
    omega
abbrev tkO (n : Nat) (t : Nat × Nat) : Prop := t.1 ≤ t.2 ∧ t.2 ≤ n
theorem tk_ok {f : Nat → Int32} {n i : Nat} (h : i ≤ n) : tkO n (tkF f n i) ∧ i ≤ (tkF f n i).1 := by
  have a := sk_le f n (n - i) i (by omega)
  have b := te_le (f := f) a.2
  exact ⟨⟨b.1, b.2.1⟩, a.1⟩
theorem nx_ok {f : Nat → Int32} {n : Nat} {t : Nat × Nat} (h : tkO n t) : tkO n (nxF f n t) ∧ t.2 ≤ (nxF f n t).1 := tk_ok h.2
theorem sr_pos {f : Nat → Int32} {n b : Nat} (h : ¬ srF f n b = 0) : b < n := by
  unfold srF at h
  by_cases w : b < n
  · exact w
  · rw [if_neg w] at h; exact absurd rfl h
theorem sr_4 (f : Nat → Int32) (n b : Nat) : srF f n b ≤ 4 := by
  unfold srF
  split
  · split
    · omega
    · split
      · omega
      · split <;> omega
  · omega
theorem sr_lt {f : Nat → Int32} {n b : Nat} (h : b < n) : ¬ srF f n b = 0 := by
  unfold srF
  rw [if_pos h]
  split
  · omega
  · split
    · omega
    · split <;> omega
/-- a token from the reading -/
abbrev tkR (f : Nat → Int32) (n : Nat) (t : Nat × Nat) : Prop := tkO n t ∧ t.2 = teF f n t.1
theorem tk_R {f : Nat → Int32} {n i : Nat} (h : i ≤ n) : tkR f n (tkF f n i) := ⟨(tk_ok h).1, rfl⟩
theorem nx_R {f : Nat → Int32} {n : Nat} {t : Nat × Nat} (h : tkR f n t) : tkR f n (nxF f n t) := tk_R h.1.2
theorem num_len {f : Nat → Int32} {n : Nat} {t : Nat × Nat} {lo hi v : Nat} (R : tkR f n t) (h : pNum f n t lo hi = some v) : t.1 < t.2 ∧ lo ≤ v ∧ v ≤ hi ∧ srF f n t.1 = 2 ∧ v = vaF f t := by
  unfold pNum at h
  by_cases w : srF f n t.1 = 2 ∧ lo ≤ vaF f t ∧ vaF f t ≤ hi
  · rw [if_pos w] at h
    cases h
    have lt := sr_pos (f := f) (n := n) (b := t.1) (by rw [w.1]; decide)
    have := (te_le (f := f) (n := n) (b := t.1) (by omega)).2.2 lt
    rw [← R.2] at this
    exact ⟨this, w.2.1, w.2.2, w.1, rfl⟩
  · rw [if_neg w] at h; cases h
theorem ln_4 : ∀ k, k < 9 → 4 ≤ lnF k := by decide +kernel
theorem span_len {f : Nat → Int32} {n : Nat} {t : Nat × Nat} {hi : Nat} {y : (Nat × Nat) × Nat × Nat} (R : tkR f n t) (h : pSpan f n t hi = .inr y) : t.1 ≤ y.1.1 ∧ tkR f n y.1 ∧ y.2.1 ≤ y.2.2 ∧ y.2.2 ≤ hi := by
  unfold pSpan at h
  cases e1 : pNum f n t 0 hi with
  | none => rw [e1] at h; cases h
  | some a =>
    rw [e1] at h
    have h : (match pNum f n (nxF f n t) a hi with | none => Sum.inl (nxF f n t).1 | some b => Sum.inr (nxF f n (nxF f n t), a, b)) = Sum.inr y := h
    have R1 := nx_R R
    cases e2 : pNum f n (nxF f n t) a hi with
    | none => rw [e2] at h; cases h
    | some b =>
      rw [e2] at h
      cases h
      have a1 := num_len R e1
      have a2 := num_len R1 e2
      have o1 := nx_ok (f := f) R.1
      have o2 := nx_ok (f := f) R1.1
      refine ⟨?_, nx_R R1, a2.2.1, a2.2.2.1⟩
      show t.1 ≤ (nxF f n (nxF f n t)).1
      omega
theorem opt_len {f : Nat → Int32} {n : Nat} {t : Nat × Nat} {w hi : Nat} {y : (Nat × Nat) × Nat × Nat} (R : tkR f n t) (h : pOpt f n t w hi = .inr y) : t.1 ≤ y.1.1 ∧ tkR f n y.1 ∧ y.2.1 ≤ y.2.2 ∧ y.2.2 ≤ hi := by
  unfold pOpt at h
  by_cases z : wdP f t w
  · rw [if_pos z] at h
    have a := span_len (nx_R R) h
    have o1 := nx_ok (f := f) R.1
    exact ⟨by omega, a.2⟩
  · rw [if_neg z] at h
    cases h
    exact ⟨Nat.le_refl _, R, Nat.zero_le _, Nat.le_refl _⟩
/-- what an item must be -/
def itO (s : Nat → Int32) (g : Nat → Nat) : Prop :=
  (g 0 = 0 ∧ g 1 < 8 ∧ g 2 < 8 ∧ ¬ g 2 = g 1) ∨ (g 0 = 1 ∧ g 1 < 6 ∧ g 2 ≤ 9999) ∨ (g 0 = 2 ∧ g 1 < 6 ∧ g 2 < 8 ∧ g 3 < 7 ∧ g 4 ≤ g 5 ∧ g 5 < 24 ∧ g 6 ≤ g 7 ∧ g 7 < 30 ∧ nT s < 12 ∧ cntP s (nI (g 1)) (nT s) < 5)
theorem tail_len {f : Nat → Int32} {n : Nat} {t : Nat × Nat} {k p q : Nat} {y : (Nat × Nat) × (Nat → Nat)} (R : tkR f n t) (h : pTail f n t k p q = .inr y) : t.1 ≤ y.1.1 ∧ tkR f n y.1 ∧ ∃ a b c d, a ≤ b ∧ b < 24 ∧ c ≤ d ∧ d < 30 ∧ y.2 = itF 2 p q k a b c d := by
  unfold pTail at h
  cases e1 : pOpt f n t 10 23 with
  | inl x => rw [e1] at h; cases h
  | inr z =>
    rw [e1] at h
    have a1 := opt_len R e1
    have h : (match pOpt f n z.1 11 29 with | .inl x => Sum.inl x | .inr u => Sum.inr (u.1, itF 2 p q k z.2.1 z.2.2 u.2.1 u.2.2)) = Sum.inr y := h
    cases e2 : pOpt f n z.1 11 29 with
    | inl x => rw [e2] at h; cases h
    | inr u =>
      rw [e2] at h
      cases h
      have a2 := opt_len a1.2.1 e2
      exact ⟨Nat.le_trans a1.1 a2.1, a2.2.1, z.2.1, z.2.2, u.2.1, u.2.2, a1.2.2.1, by have := a1.2.2.2; omega, a2.2.2.1, by have := a2.2.2.2; omega, rfl⟩
theorem item_ok {f : Nat → Int32} {n : Nat} {s : Nat → Int32} {t : Nat × Nat} {y : (Nat × Nat) × (Nat → Nat)} (R : tkR f n t) (h : pItem f n s t = .inr y) : t.1 + 6 ≤ y.1.1 ∧ tkR f n y.1 ∧ itO s y.2 := by
  unfold pItem at h
  have R1 := nx_R R
  have R2 := nx_R R1
  have R3 := nx_R R2
  have R4 := nx_R R3
  have o1 := nx_ok (f := f) R.1
  have o2 := nx_ok (f := f) R1.1
  have o3 := nx_ok (f := f) R2.1
  have o4 := nx_ok (f := f) R3.1
  cases e0 : fnF (kdB f t) 7 0 with
  | some k =>
    rw [e0] at h
    have h : pTerm f n s t k = .inr y := h
    obtain ⟨_, kl, kw⟩ := fn_lt _ _ e0
    have wl : t.2 - t.1 = lnF (2 + k) := (of_decide_eq_true kw).1
    have l4 := ln_4 (2 + k) (by omega)
    unfold pTerm at h
    by_cases h12 : nT s < 12
    · rw [if_pos h12] at h
      cases e1 : pNum f n (nxF f n t) 0 5 with
      | none => rw [e1] at h; cases h
      | some p =>
        rw [e1] at h
        simp only at h
        by_cases c5 : cntP s (nI p) (nT s) < 5
        · rw [if_pos c5] at h
          by_cases w9 : wdP f (nxF f n (nxF f n t)) 9
          · rw [if_pos w9] at h
            cases e2 : pNum f n (nxF f n (nxF f n (nxF f n t))) 0 7 with
            | none => rw [e2] at h; cases h
            | some q =>
              rw [e2] at h
              simp only at h
              have a1 := num_len R1 e1
              have a2 := num_len R3 e2
              obtain ⟨b1, b2, a, b, c, d, x1, x2, x3, x4, x5⟩ := tail_len R4 h
              refine ⟨by omega, b2, Or.inr (Or.inr ?_)⟩
              rw [x5]
              exact ⟨rfl, by show p < 6; omega, by show q < 8; omega, by show k < 7; omega, x1, x2, x3, x4, h12, c5⟩
          · rw [if_neg w9] at h; cases h
        · rw [if_neg c5] at h; cases h
    · rw [if_neg h12] at h; cases h
  | none =>
    rw [e0] at h
    simp only at h
    by_cases w0 : wdP f t 0
    · rw [if_pos w0] at h
      have wl : t.2 - t.1 = 4 := w0.1
      unfold pRoad at h
      cases e1 : pNum f n (nxF f n t) 0 7 with
      | none => rw [e1] at h; cases h
      | some a =>
        rw [e1] at h
        simp only at h
        cases e2 : pNum f n (nxF f n (nxF f n t)) 0 7 with
        | none => rw [e2] at h; cases h
        | some b =>
          rw [e2] at h
          simp only at h
          by_cases ba : b = a
          · rw [if_pos ba] at h; cases h
          · rw [if_neg ba] at h
            cases h
            have a1 := num_len R1 e1
            have a2 := num_len R2 e2
            exact ⟨by show t.1 + 6 ≤ (nxF f n (nxF f n (nxF f n t))).1; omega, R3, Or.inl ⟨rfl, by show a < 8; omega, by show b < 8; omega, ba⟩⟩
    · rw [if_neg w0] at h
      by_cases w1 : wdP f t 1
      · rw [if_pos w1] at h
        have wl : t.2 - t.1 = 4 := w1.1
        unfold pBail at h
        cases e1 : pNum f n (nxF f n t) 0 5 with
        | none => rw [e1] at h; cases h
        | some a =>
          rw [e1] at h
          simp only at h
          cases e2 : pNum f n (nxF f n (nxF f n t)) 0 9999 with
          | none => rw [e2] at h; cases h
          | some b =>
            rw [e2] at h
            cases h
            have a1 := num_len R1 e1
            have a2 := num_len R2 e2
            exact ⟨by show t.1 + 6 ≤ (nxF f n (nxF f n (nxF f n t))).1; omega, R3, Or.inr (Or.inl ⟨rfl, by show a < 6; omega, by show b ≤ 9999; omega⟩)⟩
      · rw [if_neg w1] at h; cases h

