/-! ===== at most five of a person's terms ask ===== -/
theorem bnd_tm {s : Nat → Int32} {p : Int32} {d t : Nat} (ht : t < 32) : ∀ n, n ≤ 12 → bt (bndF s p d n) t = true → t < n ∧ tmF s t 1 = p ∧ inF s t d
  | 0, _, h => by
    have h : bt 0 t = true := h
    rw [b_0] at h
    cases h
  | n + 1, hn, h => by
    rw [bndF_s] at h
    split at h
    · rename_i z
      rw [b_or, bt_sh (by omega) ht, Bool.or_eq_true, decide_eq_true_eq] at h
      rcases h with h | h
      · have := bnd_tm ht n (by omega) h
        exact ⟨by omega, this.2⟩
      · subst h
        exact ⟨by omega, z⟩
    · have := bnd_tm ht n (by omega) h
      exact ⟨by omega, this.2⟩
abbrev subX (s : Nat → Int32) (p : Int32) (d : Nat) (X : Int32) : Prop := ∀ t, t < 32 → bt X t = true → bt (bndF s p d (nT s)) t = true
theorem akN_cnt {s : Nat → Int32} {p : Int32} {X : Int32} (h : ∀ t, t < 12 → bt X t = true → tmF s t 1 = p) : ∀ n, n ≤ 12 → akN s X n ≤ cntP s p n
  | 0, _ => Nat.le_refl 0
  | n + 1, hn => by
    have ih := akN_cnt h n (by omega)
    show akN s X n + (if asks s X n then 1 else 0) ≤ cntP s p n + (if tmF s n 1 = p then 1 else 0)
    by_cases z : asks s X n
    · rw [if_pos z, if_pos (h n (by omega) z.1)]; omega
    · rw [if_neg z]; omega
theorem akN_up {s : Nat → Int32} {X : Int32} {k : Nat} (h : ∀ t, t < 12 → bt X t = true → t < k) : ∀ n, n ≤ 12 → akN s X n ≤ akN s X k
  | 0, _ => Nat.zero_le _
  | n + 1, hn => by
    by_cases w : n + 1 ≤ k
    · exact akN_le s X k w
    · have ih := akN_up (s := s) h n (by omega)
      rw [akN_s, if_neg (fun z => by have := h n (by omega) z.1; omega)]
      exact ih
theorem five {s : Nat → Int32} (I : SI s) {p d : Nat} (hp : p < 6) {X : Int32} (h : subX s (nI p) d X) : akN s X 12 ≤ 5 := by
  have ok : okT s := I.terms
  obtain ⟨n, hn, e, c, _⟩ := I.2.2.2.1
  have en : nT s = n := (okT_of hn e).2
  have b : ∀ t, t < 12 → bt X t = true → t < nT s ∧ tmF s t 1 = nI p := fun t ht z => by
    have := bnd_tm (by omega) (nT s) ok.1 (h t (by omega) z)
    exact ⟨this.1, this.2.1⟩
  have a1 := akN_up (s := s) (X := X) (k := nT s) (fun t ht z => (b t ht z).1) 12 (Nat.le_refl _)
  have a2 := akN_cnt (s := s) (p := nI p) (X := X) (fun t ht z => (b t ht z).2) (nT s) ok.1
  have a3 := c p hp
  rw [← en] at a3
  omega
theorem sub_self (s : Nat → Int32) (p : Int32) (d : Nat) : subX s p d (bndF s p d (nT s)) := fun _ _ z => z
theorem sub_0 (s : Nat → Int32) (p : Int32) (d : Nat) : subX s p d 0 := fun t _ z => by rw [b_0] at z; cases z
theorem sub_and {s : Nat → Int32} {p : Int32} {d : Nat} {X : Int32} (h : subX s p d X) (y : Int32) : subX s p d (X &&& y) := fun t ht z => by
  rw [b_and, Bool.and_eq_true] at z
  exact h t ht z.1

