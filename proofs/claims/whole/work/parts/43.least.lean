/-! ===== what the class's bytes are ===== -/
noncomputable def cbF (A : Au) (m c q : Nat) : Nat := @ite Nat (RCH A m c q ∧ cgF A (23 - m) c q < 1000) (Classical.propDecidable _) (cgF A (23 - m) c q) 255
theorem cb_y {A : Au} {m c q : Nat} (h : RCH A m c q ∧ cgF A (23 - m) c q < 1000) : cbF A m c q = cgF A (23 - m) c q := @if_pos _ (Classical.propDecidable _) h _ _ _
theorem cb_n {A : Au} {m c q : Nat} (h : ¬ (RCH A m c q ∧ cgF A (23 - m) c q < 1000)) : cbF A m c q = 255 := @if_neg _ (Classical.propDecidable _) h _ _ _
theorem cb_le (A : Au) (m c q : Nat) : cbF A m c q ≤ 255 := by
  by_cases h : RCH A m c q ∧ cgF A (23 - m) c q < 1000
  · rw [cb_y h]
    have := cg_le A _ _ _ h.2
    omega
  · rw [cb_n h]; omega
theorem cb_lt {A : Au} {m c q : Nat} : cbF A m c q < 255 ↔ RCH A m c q ∧ cgF A (23 - m) c q < 1000 := by
  by_cases h : RCH A m c q ∧ cgF A (23 - m) c q < 1000
  · rw [cb_y h]
    have := cg_le A _ _ _ h.2
    exact ⟨fun _ => h, fun _ => by omega⟩
  · rw [cb_n h]
    exact ⟨fun z => absurd z (Nat.lt_irrefl 255), fun z => absurd z h⟩
def lcN (a : Nat → Nat) (st : Int32) (z : Nat) : Nat → Nat
  | 0 => a z
  | n + 1 => if a n + 1 < lcN a st z n ∧ bt st n = true then a n + 1 else lcN a st z n
theorem lcN_s (a : Nat → Nat) (st : Int32) (z n : Nat) : lcN a st z (n + 1) = if a n + 1 < lcN a st z n ∧ bt st n = true then a n + 1 else lcN a st z n := rfl
theorem lc_z (a : Nat → Nat) (st : Int32) (z : Nat) : ∀ n, lcN a st z n ≤ a z
  | 0 => Nat.le_refl _
  | n + 1 => by
    have := lc_z a st z n
    rw [lcN_s]
    split
    · rename_i y; have := y.1; omega
    · exact this
theorem lc_le (a : Nat → Nat) (st : Int32) (z : Nat) {r : Nat} (hb : bt st r = true) : ∀ n, r < n → lcN a st z n ≤ a r + 1
  | 0, h => by omega
  | n + 1, h => by
    rw [lcN_s]
    by_cases w : r = n
    · subst w
      by_cases y : a r + 1 < lcN a st z r
      · rw [if_pos ⟨y, hb⟩]; exact Nat.le_refl _
      · rw [if_neg (fun u => y u.1)]; omega
    · have := lc_le a st z hb n (by omega)
      split
      · rename_i y; have := y.1; omega
      · exact this
theorem lc_ex (a : Nat → Nat) (st : Int32) (z : Nat) : ∀ n, lcN a st z n = a z ∨ ∃ r, r < n ∧ bt st r = true ∧ lcN a st z n = a r + 1
  | 0 => Or.inl rfl
  | n + 1 => by
    rw [lcN_s]
    split
    · rename_i y
      exact Or.inr ⟨n, by omega, y.2, rfl⟩
    · rcases lc_ex a st z n with w | ⟨r, hr, b, e⟩
      · exact Or.inl w
      · exact Or.inr ⟨r, by omega, b, e⟩
theorem rch_lw {A : Au} {m c q : Nat} (h : RCH A m c q) : bt (A.lw m) q = true := by
  cases m with
  | zero => exact h.1
  | succ m =>
    obtain ⟨_, _, _, _, z, _⟩ := h
    exact z.1
/-- where a state is reached, the least of the bytes ahead is its own -/
theorem least_eq {A : Au} {H c z : Nat} (hH : H < 23) (hz : z < 8) {st : Int32} (hst : ∀ q, q < 8 → (bt st q = true ↔ ad A.s z q)) (R : RCH A H c z) : lcN (fun r => cbF A (H + 1) (A.nx c (H + 1) r) r) st z 8 = cbF A H c z := by
  have e1 : 23 - H = (23 - (H + 1)) + 1 := by omega
  have e2 : 23 - (23 - (H + 1)) = H + 1 := by omega
  have ok : ∀ r, r < 8 → ad A.s z r → cbF A (H + 1) (A.nx c (H + 1) r) r < 255 → okA A (H + 1) z r ∧ cgF A (23 - (H + 1)) (A.nx c (H + 1) r) r < 1000 ∧ cbF A (H + 1) (A.nx c (H + 1) r) r = cgF A (23 - (H + 1)) (A.nx c (H + 1) r) r := by
    intro r hr y k
    have := cb_lt.mp k
    exact ⟨⟨rch_lw this.1, y⟩, this.2, cb_y this⟩
  have no : ∀ r, r < 8 → okA A (H + 1) z r → cgF A (23 - (H + 1)) (A.nx c (H + 1) r) r < 1000 → cbF A (H + 1) (A.nx c (H + 1) r) r = cgF A (23 - (H + 1)) (A.nx c (H + 1) r) r := by
    intro r hr y k
    exact cb_y ⟨⟨c, z, hz, R, y, rfl⟩, k⟩
  have az : ad A.s z z := Or.inl rfl
  have l1 := lc_z (fun r => cbF A (H + 1) (A.nx c (H + 1) r) r) st z 8
  have l2 := fun r hr y => lc_le (fun r => cbF A (H + 1) (A.nx c (H + 1) r) r) st z (r := r) ((hst r hr).mpr y) 8 hr
  have l3 := lc_ex (fun r => cbF A (H + 1) (A.nx c (H + 1) r) r) st z 8
  have l4 := cb_le A (H + 1) (A.nx c (H + 1) z) z
  have cg := cgF_s A (23 - (H + 1)) c z
  rw [e2, ← e1] at cg
  generalize hl : lcN (fun r => cbF A (H + 1) (A.nx c (H + 1) r) r) st z 8 = l at *
  -- a least below 255 is some f
  have back : l < 255 → ∃ r, r < 8 ∧ okA A (H + 1) z r ∧ l = cgF A (23 - (H + 1)) (A.nx c (H + 1) r) r + (if r = z then 0 else 1) := by
    intro h
    rcases l3 with w | ⟨r, hr, b, w⟩
    · obtain ⟨k1, k2, k3⟩ := ok z hz az (by omega)
      exact ⟨z, hz, k1, by rw [if_pos rfl]; omega⟩
    · have y := (hst r hr).mp b
      obtain ⟨k1, k2, k3⟩ := ok r hr y (by omega)
      have nz : ¬ r = z := fun u => by subst u; omega
      exact ⟨r, hr, k1, by rw [if_neg nz]; omega⟩
  clear l3
  by_cases h : cgF A (23 - H) c z < 1000
  · rw [cb_y ⟨R, h⟩]
    have b := cg_le A _ _ _ h
    have h2 := h
    rw [cg] at h2
    obtain ⟨r, hr, e⟩ := mnF_ex _ _ h2
    rw [← cg] at e
    have low : l ≤ cgF A (23 - H) c z := by
      clear back
      by_cases k : okA A (H + 1) z r
      · rw [if_pos k] at e
        have k2 : cgF A (23 - (H + 1)) (A.nx c (H + 1) r) r < 1000 := by
          generalize cgF A (23 - (H + 1)) (A.nx c (H + 1) r) r = g at *
          split at e <;> omega
        have k3 := no r hr k k2
        by_cases nz : r = z
        · subst nz
          rw [if_pos rfl] at e
          omega
        · rw [if_neg nz] at e
          have := l2 r hr k.2
          omega
      · rw [if_neg k] at e
        omega
    obtain ⟨r2, hr2, k, e3⟩ := back (by clear back; omega)
    clear back
    have up : cgF A (23 - H) c z ≤ l := by
      rw [cg, e3]
      refine Nat.le_trans (mnF_le _ 8 hr2) ?_
      rw [if_pos k]
      exact Nat.le_refl _
    omega
  · rw [cb_n (fun y => h y.2)]
    have nl : ¬ l < 255 := fun y => by
      obtain ⟨r2, hr2, k, e3⟩ := back y
      clear back
      apply h
      rw [cg]
      refine Nat.lt_of_le_of_lt (mnF_le _ 8 hr2) ?_
      rw [if_pos k, ← e3]
      omega
    clear back
    omega

