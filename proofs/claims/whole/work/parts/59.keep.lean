/-! ===== what is always so stays so: roads, bail, new terms ===== -/
theorem cntP_c {s s2 : Nat → Int32} {p : Int32} : ∀ n, (∀ t, t < n → tmF s2 t 1 = tmF s t 1) → cntP s2 p n = cntP s p n
  | 0, _ => rfl
  | n + 1, h => by
    show cntP s2 p n + (if tmF s2 n 1 = p then 1 else 0) = cntP s p n + (if tmF s n 1 = p then 1 else 0)
    rw [cntP_c n (fun t ht => h t (by omega)), h n (by omega)]
theorem cntD_c {s s2 : Nat → Int32} {d : Int32} : ∀ n, (∀ t, t < n → s2 (331 + t) = s (331 + t)) → cntD s2 d n = cntD s d n
  | 0, _ => rfl
  | n + 1, h => by
    show cntD s2 d n + (if s2 (331 + n) = d then 1 else 0) = cntD s d n + (if s (331 + n) = d then 1 else 0)
    rw [cntD_c n (fun t ht => h t (by omega)), h n (by omega)]
theorem SI.cong {s s2 : Nat → Int32} (I : SI s) (e : ∀ j, j < 284 ∨ (331 ≤ j ∧ j < 337) → s2 j = s j) : SI s2 := by
  have et : ∀ t w, t < 12 → w < 7 → tmF s2 t w = tmF s t w := fun t w ht hw => e _ (by omega)
  obtain ⟨a1, a2, a3, a4, a5, a6, a7⟩ := I
  refine ⟨fun i j hi hj h => ?_, ?_, fun k hk => ?_, ?_, fun t ht => ?_, fun p hp => ?_, fun d hd => ?_⟩
  · rw [e i (by omega)] at h
    have := a1 i j hi hj h
    exact ⟨this.1, this.2.1, by rw [e j (by omega)]; exact this.2.2⟩
  · obtain ⟨n, h1, h2⟩ := a2
    exact ⟨n, h1, by rw [e 8 (by omega)]; exact h2⟩
  · obtain ⟨p, q, d, m, h1, h2, h3, h4, h5, h6, h7⟩ := a3 k hk
    exact ⟨p, q, d, m, h1, h2, h3, h4, by rw [e _ (by omega)]; exact h5, by rw [e _ (by omega)]; exact h6, by rw [e _ (by omega)]; exact h7⟩
  · obtain ⟨n, h1, h2, h3, h4⟩ := a4
    refine ⟨n, h1, by rw [e 189 (by omega)]; exact h2, fun p hp => ?_, fun j hj => ?_⟩
    · rw [cntP_c n (fun t ht => et t 1 (by omega) (by decide))]; exact h3 p hp
    · rw [e _ (by omega)]; exact h4 j hj
  · obtain ⟨k, p, q, a, b, c, d, h1, h2, h3, h4, h5, h6, h7, g0, g1, g2, g3, g4, g5, g6⟩ := a5 t ht
    exact ⟨k, p, q, a, b, c, d, h1, h2, h3, h4, h5, h6, h7, (et t 0 ht (by decide)).trans g0, (et t 1 ht (by decide)).trans g1, (et t 2 ht (by decide)).trans g2, (et t 3 ht (by decide)).trans g3, (et t 4 ht (by decide)).trans g4, (et t 5 ht (by decide)).trans g5, (et t 6 ht (by decide)).trans g6⟩
  · rw [e _ (by omega)]; exact a6 p hp
  · rw [cntD_c 6 (fun t ht => e _ (by omega))]; exact a7 d hd
theorem setR_b (x : Int32) {k : Nat} (hk : k < 32) (c : Int32) {q : Nat} (hq : q < 32) : bt (setR x k c) q = true ↔ (if q = k then ¬ c = 0 else bt x q = true) := by
  unfold setR
  by_cases hc : c = 0
  · rw [if_pos hc, b_and, b_xor, bt_sh hk hq, b_m1 q hq, Bool.and_eq_true]
    by_cases w : q = k
    · rw [if_pos w]; simp [w, hc]
    · rw [if_neg w]; simp [w]
  · rw [if_neg hc, b_or, bt_sh hk hq, Bool.or_eq_true, decide_eq_true_eq]
    by_cases w : q = k
    · rw [if_pos w]; simp [w, hc]
    · rw [if_neg w]; simp [w]
theorem rd_b (s : Nat → Int32) {i j : Nat} (hi : i < 8) (hj : j < 8) (hij : i ≠ j) (c : Int32) (a : Nat) {b : Nat} (hb : b < 32) : bt (rdS s i j c a) b = true ↔ (if (a = i ∧ b = j) ∨ (a = j ∧ b = i) then ¬ c = 0 else bt (s a) b = true) := by
  unfold rdS upd
  by_cases w1 : a = j
  · subst w1
    rw [if_pos rfl, setR_b _ (by omega) c hb]
    by_cases w2 : b = i
    · rw [if_pos w2, if_pos (Or.inr ⟨rfl, w2⟩)]
    · rw [if_neg w2, if_neg (fun y => y.elim (fun z => hij z.1.symm) (fun z => w2 z.2))]
  · rw [if_neg w1]
    by_cases w3 : a = i
    · subst w3
      rw [if_pos rfl, setR_b _ (by omega) c hb]
      by_cases w2 : b = j
      · rw [if_pos w2, if_pos (Or.inl ⟨rfl, w2⟩)]
      · rw [if_neg w2, if_neg (fun y => y.elim (fun z => w2 z.2) (fun z => w1 z.1))]
    · rw [if_neg w3, if_neg (fun y => y.elim (fun z => w3 z.1) (fun z => w1 z.1))]
theorem SI_rd {s : Nat → Int32} (I : SI s) {i j : Nat} (hi : i < 8) (hj : j < 8) (hij : i ≠ j) (c : Int32) : SI (rdS s i j c) := by
  have off : ∀ k, 8 ≤ k → rdS s i j c k = s k := fun k hk => by unfold rdS upd; rw [if_neg (by omega), if_neg (by omega)]
  obtain ⟨a1, a2, a3, a4, a5, a6, a7⟩ := I
  refine ⟨fun a b ha hb h => ?_, ?_, fun k hk => ?_, ?_, fun t ht => ?_, fun p hp => ?_, fun d hd => ?_⟩
  · rw [rd_b s hi hj hij c a hb] at h
    by_cases w : (a = i ∧ b = j) ∨ (a = j ∧ b = i)
    · rw [if_pos w] at h
      refine ⟨by omega, by omega, ?_⟩
      rw [rd_b s hi hj hij c b (by omega), if_pos (by omega)]
      exact h
    · rw [if_neg w] at h
      have := a1 a b ha hb h
      refine ⟨this.1, this.2.1, ?_⟩
      rw [rd_b s hi hj hij c b (by omega), if_neg (by omega)]
      exact this.2.2
  · obtain ⟨n, h1, h2⟩ := a2
    exact ⟨n, h1, (off 8 (by omega)).trans h2⟩
  · obtain ⟨p, q, d, m, h1, h2, h3, h4, h5, h6, h7⟩ := a3 k hk
    exact ⟨p, q, d, m, h1, h2, h3, h4, (off _ (by omega)).trans h5, (off _ (by omega)).trans h6, (off _ (by omega)).trans h7⟩
  · obtain ⟨n, h1, h2, h3, h4⟩ := a4
    refine ⟨n, h1, (off 189 (by omega)).trans h2, fun p hp => ?_, fun j hj => ?_⟩
    · rw [cntP_c (s := s) (s2 := rdS s i j c) n (fun t ht => off _ (by omega))]; exact h3 p hp
    · rw [off _ (by omega)]; exact h4 j hj
  · have et : ∀ w, tmF (rdS s i j c) t w = tmF s t w := fun w => off _ (by omega)
    rw [et, et, et, et, et, et, et]
    exact a5 t ht
  · rw [off _ (by omega)]; exact a6 p hp
  · rw [cntD_c (s := s) (s2 := rdS s i j c) 6 (fun t ht => off _ (by omega))]; exact a7 d hd
theorem nt_tm (s : Nat → Int32) (n : Nat) (g : Nat → Int32) {t w : Nat} (hw : w < 7) : tmF (ntS s n g) t w = if t = n then g w else tmF s t w := by
  unfold tmF ntS
  rw [if_neg (by omega)]
  by_cases h : t = n
  · subst h
    rw [if_pos rfl, if_pos (by omega)]
    congr 1
    omega
  · rw [if_neg h, if_neg (by omega)]
theorem SI_nt {s : Nat → Int32} (I : SI s) (hn : nT s < 12) {k p q a b c d : Nat} (hk : k < 7) (hp : p < 6) (hq : q < 8) (ab : a ≤ b) (hb : b < 24) (cd : c ≤ d) (hd : d < 30) (h5 : cntP s (nI p) (nT s) < 5) {g : Nat → Int32} (g0 : g 0 = nI k) (g1 : g 1 = nI p) (g2 : g 2 = nI q) (g3 : g 3 = nI a) (g4 : g 4 = nI b) (g5 : g 5 = nI c) (g6 : g 6 = nI d) : SI (ntS s (nT s) g) := by
  have off : ∀ j, j < 189 ∨ 274 ≤ j → ntS s (nT s) g j = s j := fun j hj => by unfold ntS; rw [if_neg (by omega), if_neg (by omega)]
  obtain ⟨a1, a2, a3, a4, a5, a6, a7⟩ := I
  refine ⟨fun i j hi hj h => ?_, ?_, fun k hk => ?_, ?_, fun t ht => ?_, fun p hp => ?_, fun d hd => ?_⟩
  · rw [off i (by omega)] at h
    have := a1 i j hi hj h
    exact ⟨this.1, this.2.1, by rw [off j (by omega)]; exact this.2.2⟩
  · obtain ⟨n, h1, h2⟩ := a2
    exact ⟨n, h1, by rw [off 8 (by omega)]; exact h2⟩
  · obtain ⟨p, q, d, m, h1, h2, h3, h4, h5, h6, h7⟩ := a3 k hk
    exact ⟨p, q, d, m, h1, h2, h3, h4, by rw [off _ (by omega)]; exact h5, by rw [off _ (by omega)]; exact h6, by rw [off _ (by omega)]; exact h7⟩
  · obtain ⟨n, h1, h2, h3, h4⟩ := a4
    have en : nT s = n := (okT_of h1 h2).2
    refine ⟨nT s + 1, by omega, by unfold ntS; rw [if_pos rfl], fun p2 hp2 => ?_, fun j hj => ?_⟩
    · show cntP (ntS s (nT s) g) (nI p2) (nT s) + (if tmF (ntS s (nT s) g) (nT s) 1 = nI p2 then 1 else 0) ≤ 5
      rw [cntP_c (s := s) (nT s) (fun t ht => by rw [nt_tm s (nT s) g (by decide), if_neg (by omega)]), nt_tm s (nT s) g (by decide), if_pos rfl, g1]
      have := h3 p2 hp2
      rw [← en] at this
      by_cases w : nI p = nI p2
      · rw [if_pos w, ← w]; omega
      · rw [if_neg w]; omega
    · rw [off _ (by omega)]
      rcases h4 j hj with y | ⟨t, ht, y⟩
      · exact Or.inl y
      · exact Or.inr ⟨t, by omega, y⟩
  · by_cases w : t = nT s
    · refine ⟨k, p, q, a, b, c, d, hk, hp, hq, ab, hb, cd, hd, ?_, ?_, ?_, ?_, ?_, ?_, ?_⟩ <;> rw [nt_tm s (nT s) g (by decide), if_pos w] <;> assumption
    · obtain ⟨k, p, q, a, b, c, d, h1, h2, h3, h4, h5, h6, h7, x0, x1, x2, x3, x4, x5, x6⟩ := a5 t ht
      refine ⟨k, p, q, a, b, c, d, h1, h2, h3, h4, h5, h6, h7, ?_, ?_, ?_, ?_, ?_, ?_, ?_⟩ <;> rw [nt_tm s (nT s) g (by decide), if_neg w] <;> assumption
  · rw [off _ (by omega)]; exact a6 p hp
  · rw [cntD_c 6 (fun t ht => off _ (by omega))]; exact a7 d hd
theorem SI_ap {s : Nat → Int32} (I : SI s) {g : Nat → Nat} (h : itO s g) : SI (apI g s) := by
  unfold apI
  rcases h with ⟨e, h1, h2, h3⟩ | ⟨e, h1, h2⟩ | ⟨e, h1, h2, h3, h4, h5, h6, h7, h8, h9⟩
  · rw [if_pos e]
    exact SI_rd I h1 h2 (fun y => h3 y.symm) 1
  · rw [if_neg (by omega), if_pos e]
    exact I.cong (fun j hj => by unfold upd; rw [if_neg (by omega)])
  · rw [if_neg (by omega), if_neg (by omega)]
    exact SI_nt I h8 h3 h1 h2 h4 h5 h6 h7 h9 rfl rfl rfl rfl rfl rfl rfl
theorem nt_189 (s : Nat → Int32) (n : Nat) (g : Nat → Int32) : ntS s n g 189 = nI (n + 1) := if_pos rfl
theorem nt_at (s : Nat → Int32) (n : Nat) (g : Nat → Int32) {j i : Nat} (hi : i < 7) (e : j = 190 + (n * 7 + i)) : ntS s n g j = g i := by
  unfold ntS
  rw [if_neg (by omega), if_pos (by omega), show j - (190 + 7 * n) = i by omega]
theorem nt_off (s : Nat → Int32) (n : Nat) (g : Nat → Int32) {j : Nat} (h : ¬ j = 189) (h2 : ¬ (190 + 7 * n ≤ j ∧ j < 197 + 7 * n)) : ntS s n g j = s j := by
  unfold ntS
  rw [if_neg h, if_neg h2]
theorem new_nt (s : Nat → Int32) (n : Nat) (k p q : Int32) : newS s n k p q = ntS s n (fun w => [k, p, q, 0, 23, 0, 29].getD w 0) := by
  funext j
  unfold newS setS upd
  rw [nI_1]
  by_cases h189 : j = 189
  · subst h189
    rw [nt_189, if_neg (by omega), if_neg (by omega), if_neg (by omega), if_neg (by omega), if_pos rfl]
  · by_cases w : 190 + 7 * n ≤ j ∧ j < 197 + 7 * n
    · obtain ⟨i, hi⟩ : ∃ i, j = 190 + (n * 7 + i) := ⟨j - (190 + 7 * n), by omega⟩
      rw [nt_at s n _ (by omega : i < 7) hi]
      rcases (by omega : i = 0 ∨ i = 1 ∨ i = 2 ∨ i = 3 ∨ i = 4 ∨ i = 5 ∨ i = 6) with rfl | rfl | rfl | rfl | rfl | rfl | rfl
      · rw [if_neg (by omega), if_neg (by omega), if_neg (by omega), if_neg (by omega), if_neg h189, if_neg (by omega), if_neg (by omega), if_pos (by omega)]; rfl
      · rw [if_neg (by omega), if_neg (by omega), if_neg (by omega), if_neg (by omega), if_neg h189, if_neg (by omega), if_pos (by omega)]; rfl
      · rw [if_neg (by omega), if_neg (by omega), if_neg (by omega), if_neg (by omega), if_neg h189, if_pos (by omega)]; rfl
      · rw [if_neg (by omega), if_neg (by omega), if_neg (by omega), if_pos (by omega)]; rfl
      · rw [if_neg (by omega), if_neg (by omega), if_pos (by omega)]; rfl
      · rw [if_neg (by omega), if_pos (by omega)]; rfl
      · rw [if_pos (by omega)]; rfl
    · rw [nt_off s n _ h189 w, if_neg (by omega), if_neg (by omega), if_neg (by omega), if_neg (by omega), if_neg h189, if_neg (by omega), if_neg (by omega), if_neg (by omega)]
theorem set_nt (s : Nat → Int32) (n w : Nat) (g : Nat → Int32) (hw : w < 6) (a b : Int32) : setS (ntS s n g) n w a b = ntS s n (fun i => if i = w + 1 then b else if i = w then a else g i) := by
  funext j
  unfold setS upd
  by_cases h189 : j = 189
  · subst h189
    rw [nt_189, nt_189, if_neg (by omega), if_neg (by omega)]
  · by_cases z : 190 + 7 * n ≤ j ∧ j < 197 + 7 * n
    · obtain ⟨i, hi⟩ : ∃ i, j = 190 + (n * 7 + i) := ⟨j - (190 + 7 * n), by omega⟩
      rw [nt_at s n _ (by omega : i < 7) hi, nt_at s n _ (by omega : i < 7) hi]
      by_cases y1 : i = w + 1
      · rw [if_pos (by omega), if_pos y1]
      · rw [if_neg (by omega)]
        by_cases y2 : i = w
        · rw [if_pos (by omega), if_neg y1, if_pos y2]
        · rw [if_neg (by omega), if_neg y1, if_neg y2]
    · rw [nt_off s n _ h189 z, nt_off s n _ h189 z, if_neg (by omega), if_neg (by omega)]

