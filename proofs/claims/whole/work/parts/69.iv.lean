/-! ===== what is always so stays so: each call ===== -/
theorem nI_inJ {a b : Nat} (ha : a < 2 ^ 31) (hb : b < 2 ^ 31) (h : nI a = nI b) : a = b := by
  have := congrArg Int32.toInt h
  rw [nI_toInt ha, nI_toInt hb] at this
  omega
theorem Iv_fnd {σ : Sg} (I : Iv σ) (k : Nat) : Iv (fnd σ k).2 := I
theorem Iv_if {c : Prop} [Decidable c] {a b : Int32 × Sg} (h1 : c → Iv a.2) (h2 : ¬ c → Iv b.2) : Iv (if c then a else b).2 := by
  by_cases h : c
  · rw [if_pos h]; exact h1 h
  · rw [if_neg h]; exact h2 h
theorem Iv_s {σ : Sg} (I : Iv σ) {s : Nat → Int32} (S : SI s) : Iv (sf σ 0 s) := ⟨S, I.2⟩
theorem Iv_st {σ : Sg} (I : Iv σ) : ∀ x : Option Nat, Iv (stV x σ).2
  | some _ => I
  | none => Iv_fnd I 3
theorem SI_saw {s : Nat → Int32} (I : SI s) {n p q d m : Nat} (hn : n < 60) (hp : p < 6) (hq : q < 8) (hd : d < 30) (hm : m < 24) : SI (sawS s n (nI p) (nI q) (nI (100 * d + m))) := by
  have off : ∀ j, ¬ j = 8 → ¬ j = 9 + 3 * n → ¬ j = 10 + 3 * n → ¬ j = 11 + 3 * n → sawS s n (nI p) (nI q) (nI (100 * d + m)) j = s j := fun j h1 h2 h3 h4 => by unfold sawS upd; rw [if_neg h1, if_neg h4, if_neg h3, if_neg h2]
  have e8 : sawS s n (nI p) (nI q) (nI (100 * d + m)) 8 = nI (n + 1) := by unfold sawS upd; rw [if_pos rfl, nI_1]
  have e9 : sawS s n (nI p) (nI q) (nI (100 * d + m)) (9 + 3 * n) = nI p := by unfold sawS upd; rw [if_neg (by omega), if_neg (by omega), if_neg (by omega), if_pos rfl]
  have e10 : sawS s n (nI p) (nI q) (nI (100 * d + m)) (10 + 3 * n) = nI q := by unfold sawS upd; rw [if_neg (by omega), if_neg (by omega), if_pos rfl]
  have e11 : sawS s n (nI p) (nI q) (nI (100 * d + m)) (11 + 3 * n) = nI (100 * d + m) := by unfold sawS upd; rw [if_neg (by omega), if_pos rfl]
  generalize sawS s n (nI p) (nI q) (nI (100 * d + m)) = s2 at off e8 e9 e10 e11
  obtain ⟨a1, a2, a3, a4, a5, a6, a7⟩ := I
  refine ⟨fun i j hi hj h => ?_, ⟨n + 1, by omega, e8⟩, fun k hk => ?_, ?_, fun t ht => ?_, fun p hp => ?_, fun d hd => ?_⟩
  · rw [off i (by omega) (by omega) (by omega) (by omega)] at h
    have := a1 i j hi hj h
    exact ⟨this.1, this.2.1, by rw [off j (by omega) (by omega) (by omega) (by omega)]; exact this.2.2⟩
  · by_cases w : k = n
    · subst w
      exact ⟨p, q, d, m, hp, hq, hd, hm, e9, e10, e11⟩
    · rw [off _ (by omega) (by omega) (by omega) (by omega), off _ (by omega) (by omega) (by omega) (by omega), off _ (by omega) (by omega) (by omega) (by omega)]
      exact a3 k hk
  · obtain ⟨n, h1, h2, h3, h4⟩ := a4
    refine ⟨n, h1, (off 189 (by omega) (by omega) (by omega) (by omega)).trans h2, fun p hp => ?_, fun j hj => ?_⟩
    · rw [cntP_c (s := s) (s2 := s2) n (fun t ht => off _ (by omega) (by omega) (by omega) (by omega))]; exact h3 p hp
    · rw [off _ (by omega) (by omega) (by omega) (by omega)]; exact h4 j hj
  · have et : ∀ w, tmF s2 t w = tmF s t w := fun w => off _ (by omega) (by omega) (by omega) (by omega)
    rw [et, et, et, et, et, et, et]
    exact a5 t ht
  · rw [off _ (by omega) (by omega) (by omega) (by omega)]; exact a6 p hp
  · rw [cntD_c (s := s) (s2 := s2) 6 (fun t ht => off _ (by omega) (by omega) (by omega) (by omega))]; exact a7 d hd
theorem SI_z {s : Nat → Int32} (I : SI s) : SI (zS s) := I.cong (fun j hj => by unfold zS upd; rw [if_neg (by omega)])
theorem SI_dr {p d : Nat} (hp : p < 6) (hd : d < 30) : ∀ (n : Nat) (s : Nat → Int32), SI s → SI (drS (nI p) (nI d) n s)
  | 0, _, I => I
  | n + 1, s, I => by
    rw [drS_s]
    by_cases h : (s 8).toInt < 60
    · rw [if_pos h]
      have k := I.seen
      obtain ⟨a, ha, ea⟩ := ush8r (zV s) 8 (by decide) (by decide)
      obtain ⟨b, hb, eb⟩ := ush8r (zV (zS s)) 24 (by decide) (by decide)
      have e1 : drP s = nI a := ea
      have e2 : drW s (nI d) = nI (100 * d + b) := by
        unfold drW
        rw [show (24 : Int32) = nI 24 from rfl, eb, pk_mul, nI_add]
      rw [e1, e2]
      exact SI_dr hp hd n _ (SI_saw (SI_z (SI_z I)) (by omega) hp ha hd hb)
    · rw [if_neg h]; exact I
theorem SI_ld {f : Nat → Int32} {k sz p d : Nat} (hp : p < 6) (hd : d < 30) : ∀ (n m : Nat) (s : Nat → Int32) (c : Nat), m + n ≤ 24 → SI s → SI (ldL f k sz (nI p) d n m s c).1
  | 0, _, _, _, _, I => I
  | n + 1, m, s, c, hm, I => by
    rw [ldL_s]
    by_cases h1 : m < sz
    · rw [if_pos h1]
      by_cases h2 : f (k * 40 + m) = -1
      · rw [if_pos h2]
        exact SI_ld hp hd n (m + 1) s c (by omega) I
      · rw [if_neg h2]
        by_cases h3 : rng (f (k * 40 + m)) 0 7 ∧ (s 8).toInt < 60
        · rw [if_pos h3]
          have w := I.seen
          obtain ⟨q, hq, eq, -⟩ := n_of (x := f (k * 40 + m)) (b := 7) h3.1 (by decide)
          rw [eq]
          have := h3.2
          exact SI_ld hp hd n (m + 1) _ (c + 1) (by omega) (SI_saw I (by omega) hp (by omega) hd (by omega))
        · rw [if_neg h3]; exact I
    · rw [if_neg h1]; exact I
theorem SI_tms {s s2 : Nat → Int32} (I : SI s) (off : ∀ j, j < 190 ∨ 274 ≤ j → s2 j = s j) (h1 : ∀ t, t < 12 → tmF s2 t 1 = tmF s t 1) (ok : okTm s2) : SI s2 := by
  obtain ⟨a1, a2, a3, a4, a5, a6, a7⟩ := I
  refine ⟨fun i j hi hj h => ?_, ?_, fun k hk => ?_, ?_, ok, fun p hp => ?_, fun d hd => ?_⟩
  · rw [off i (by omega)] at h
    have := a1 i j hi hj h
    exact ⟨this.1, this.2.1, by rw [off j (by omega)]; exact this.2.2⟩
  · obtain ⟨n, h1, h2⟩ := a2
    exact ⟨n, h1, by rw [off 8 (by omega)]; exact h2⟩
  · rw [off _ (by omega), off _ (by omega), off _ (by omega)]; exact a3 k hk
  · obtain ⟨n, g1, g2, g3, g4⟩ := a4
    refine ⟨n, g1, by rw [off 189 (by omega)]; exact g2, fun p hp => ?_, fun j hj => ?_⟩
    · rw [cntP_c (s := s) n (fun t ht => h1 t (by omega))]; exact g3 p hp
    · rw [off _ (by omega)]; exact g4 j hj
  · rw [off _ (by omega)]; exact a6 p hp
  · rw [cntD_c 6 (fun t ht => off _ (by omega))]; exact a7 d hd
theorem set_tm (s : Nat → Int32) (t w : Nat) (a b : Int32) (hw : w < 6) {u v : Nat} (hv : v < 7) : tmF (setS s t w a b) u v = if u = t ∧ v = w then a else if u = t ∧ v = w + 1 then b else tmF s u v := by
  unfold tmF setS upd
  by_cases h1 : u = t ∧ v = w
  · rw [if_pos h1, if_neg (by omega), if_pos (by omega)]
  · rw [if_neg h1]
    by_cases h2 : u = t ∧ v = w + 1
    · rw [if_pos h2, if_pos (by omega)]
    · rw [if_neg h2, if_neg (by omega), if_neg (by omega)]
theorem SI_turn {s : Nat → Int32} (I : SI s) {t k : Nat} (ht : t < 12) (hk : k < 7) : SI (upd s (190 + (t * 7 + 0)) (nI k)) := by
  have off : ∀ j, ¬ j = 190 + (t * 7 + 0) → upd s (190 + (t * 7 + 0)) (nI k) j = s j := fun j hj => if_neg hj
  refine SI_tms I (fun j hj => off j (by omega)) (fun u hu => off _ (by omega)) (fun u hu => ?_)
  obtain ⟨k2, p, q, a, b, c, d, h1, h2, h3, h4, h5, h6, h7, x0, x1, x2, x3, x4, x5, x6⟩ := I.tm u hu
  by_cases w : u = t
  · subst w
    exact ⟨k, p, q, a, b, c, d, hk, h2, h3, h4, h5, h6, h7, if_pos rfl, (off _ (by omega)).trans x1, (off _ (by omega)).trans x2, (off _ (by omega)).trans x3, (off _ (by omega)).trans x4, (off _ (by omega)).trans x5, (off _ (by omega)).trans x6⟩
  · exact ⟨k2, p, q, a, b, c, d, h1, h2, h3, h4, h5, h6, h7, (off _ (by omega)).trans x0, (off _ (by omega)).trans x1, (off _ (by omega)).trans x2, (off _ (by omega)).trans x3, (off _ (by omega)).trans x4, (off _ (by omega)).trans x5, (off _ (by omega)).trans x6⟩
theorem SI_set {s : Nat → Int32} (I : SI s) {t w f g : Nat} (ht : t < 12) (hw : (w = 3 ∧ g < 24) ∨ (w = 5 ∧ g < 30)) (fg : f ≤ g) : SI (setS s t w (nI f) (nI g)) := by
  have tm : ∀ u v, v < 7 → tmF (setS s t w (nI f) (nI g)) u v = if u = t ∧ v = w then nI f else if u = t ∧ v = w + 1 then nI g else tmF s u v := fun u v hv => set_tm s t w _ _ (by omega) hv
  refine SI_tms I (fun j hj => ?_) (fun u hu => ?_) (fun u hu => ?_)
  · unfold setS upd; rw [if_neg (by omega), if_neg (by omega)]
  · rw [tm u 1 (by decide), if_neg (by omega), if_neg (by omega)]
  · obtain ⟨k2, p, q, a, b, c, d, h1, h2, h3, h4, h5, h6, h7, x0, x1, x2, x3, x4, x5, x6⟩ := I.tm u hu
    by_cases z : u = t
    · subst z
      rcases hw with ⟨rfl, hg⟩ | ⟨rfl, hg⟩
      · refine ⟨k2, p, q, f, g, c, d, h1, h2, h3, fg, hg, h6, h7, ?_, ?_, ?_, ?_, ?_, ?_, ?_⟩ <;> rw [tm _ _ (by decide)] <;> simp <;> assumption
      · refine ⟨k2, p, q, a, b, f, g, h1, h2, h3, h4, h5, fg, hg, ?_, ?_, ?_, ?_, ?_, ?_, ?_⟩ <;> rw [tm _ _ (by decide)] <;> simp <;> assumption
    · refine ⟨k2, p, q, a, b, c, d, h1, h2, h3, h4, h5, h6, h7, ?_, ?_, ?_, ?_, ?_, ?_, ?_⟩ <;> rw [tm _ _ (by decide), if_neg (fun y => z y.1), if_neg (fun y => z y.1)] <;> assumption
theorem SI_hear {s : Nat → Int32} (I : SI s) {p d : Nat} (hp : p < 6) (hd : d < 30) (h : hoN s (nI d) (nI p) 6 < 2) : SI (upd s (331 + p) (nI d)) := by
  have off : ∀ j, ¬ j = 331 + p → upd s (331 + p) (nI d) j = s j := fun j hj => if_neg hj
  have on : upd s (331 + p) (nI d) (331 + p) = nI d := if_pos rfl
  have cu : ∀ e : Nat, e < 30 → ¬ e = d → ∀ n, cntD (upd s (331 + p) (nI d)) (nI e) n ≤ cntD s (nI e) n := by
    intro e he ne n
    induction n with
    | zero => exact Nat.le_refl 0
    | succ n ih =>
      show cntD (upd s (331 + p) (nI d)) (nI e) n + (if upd s (331 + p) (nI d) (331 + n) = nI e then 1 else 0) ≤ cntD s (nI e) n + (if s (331 + n) = nI e then 1 else 0)
      by_cases w : n = p
      · subst w
        rw [on, if_neg (fun y => ne (nI_inJ (by omega) (by omega) y).symm)]
        omega
      · rw [off _ (by omega)]; omega
  have cd : ∀ n, n ≤ 6 → cntD (upd s (331 + p) (nI d)) (nI d) n = hoN s (nI d) (nI p) n + (if p < n then 1 else 0) := by
    intro n
    induction n with
    | zero => intro _; rfl
    | succ n ih =>
      intro hn
      have ih := ih (by omega)
      show cntD (upd s (331 + p) (nI d)) (nI d) n + (if upd s (331 + p) (nI d) (331 + n) = nI d then 1 else 0) = _
      rw [hoN_s, ih]
      by_cases w : n = p
      · subst w
        rw [on, if_pos rfl, if_neg (by omega), if_neg (fun y => y.1 rfl), if_pos (by omega)]
      · rw [off _ (by omega)]
        have ne : ¬ nI n = nI p := fun y => w (nI_inJ (by omega) (by omega) y)
        have e1 : (if p < n + 1 then 1 else 0) = (if p < n then (1 : Nat) else 0) := by
          by_cases y : p < n
          · rw [if_pos y, if_pos (by omega)]
          · rw [if_neg y, if_neg (by omega)]
        have e2 : (if ¬ nI n = nI p ∧ s (331 + n) = nI d then (1 : Nat) else 0) = if s (331 + n) = nI d then 1 else 0 := by
          by_cases z : s (331 + n) = nI d
          · rw [if_pos z, if_pos ⟨ne, z⟩]
          · rw [if_neg z, if_neg (fun y => z y.2)]
        rw [e1, e2]
        exact Nat.add_right_comm _ _ _
  have offs : ∀ j, j < 331 → upd s (331 + p) (nI d) j = s j := fun j hj => off j (by omega)
  obtain ⟨a1, a2, a3, a4, a5, a6, a7⟩ := I
  refine ⟨fun i j hi hj h => ?_, ?_, fun k hk => ?_, ?_, fun t ht => ?_, fun u hu => ?_, fun e he => ?_⟩
  · rw [offs i (by omega)] at h
    have := a1 i j hi hj h
    exact ⟨this.1, this.2.1, by rw [offs j (by omega)]; exact this.2.2⟩
  · obtain ⟨n, h1, h2⟩ := a2
    exact ⟨n, h1, by rw [offs 8 (by omega)]; exact h2⟩
  · rw [offs _ (by omega), offs _ (by omega), offs _ (by omega)]; exact a3 k hk
  · obtain ⟨n, g1, g2, g3, g4⟩ := a4
    refine ⟨n, g1, by rw [offs 189 (by omega)]; exact g2, fun v hv => ?_, fun j hj => ?_⟩
    · rw [cntP_c (s := s) (s2 := upd s (331 + p) (nI d)) n (fun t ht => offs _ (by omega))]; exact g3 v hv
    · rw [offs _ (by omega)]; exact g4 j hj
  · have et : ∀ w, w < 7 → tmF (upd s (331 + p) (nI d)) t w = tmF s t w := fun w hw => offs _ (by omega)
    rw [et _ (by decide), et _ (by decide), et _ (by decide), et _ (by decide), et _ (by decide), et _ (by decide), et _ (by decide)]
    exact a5 t ht
  · by_cases w : u = p
    · subst w; exact Or.inr ⟨d, hd, on⟩
    · rw [off _ (by omega)]; exact a6 u hu
  · by_cases w : e = d
    · subst w
      rw [cd 6 (by decide), if_pos hp]
      omega
    · exact Nat.le_trans (cu e he w 6) (a7 e he)
theorem SI_hold {s : Nat → Int32} (I : SI s) {a : Nat} (ha : a < 10) {x : Int32} (h : x = -1 ∨ ∃ t, t < nT s ∧ x = nI t) : SI (upd s (274 + a) x) := by
  have off : ∀ j, ¬ j = 274 + a → upd s (274 + a) x j = s j := fun j hj => if_neg hj
  obtain ⟨a1, a2, a3, a4, a5, a6, a7⟩ := I
  refine ⟨fun i j hi hj h => ?_, ?_, fun k hk => ?_, ?_, fun t ht => ?_, fun u hu => ?_, fun e he => ?_⟩
  · rw [off i (by omega)] at h
    have := a1 i j hi hj h
    exact ⟨this.1, this.2.1, by rw [off j (by omega)]; exact this.2.2⟩
  · obtain ⟨n, h1, h2⟩ := a2
    exact ⟨n, h1, by rw [off 8 (by omega)]; exact h2⟩
  · rw [off _ (by omega), off _ (by omega), off _ (by omega)]; exact a3 k hk
  · obtain ⟨n, g1, g2, g3, g4⟩ := a4
    have en : nT s = n := (okT_of g1 g2).2
    refine ⟨n, g1, by rw [off 189 (by omega)]; exact g2, fun p hp => ?_, fun j hj => ?_⟩
    · rw [cntP_c (s := s) (s2 := upd s (274 + a) x) n (fun t ht => off _ (by omega))]; exact g3 p hp
    · by_cases w : j = a
      · subst w
        have on : upd s (274 + j) x (274 + j) = x := if_pos rfl
        rw [on, ← en]
        exact h
      · rw [off _ (by omega)]; exact g4 j hj
  · have et : ∀ w, w < 7 → tmF (upd s (274 + a) x) t w = tmF s t w := fun w hw => off _ (by omega)
    rw [et _ (by decide), et _ (by decide), et _ (by decide), et _ (by decide), et _ (by decide), et _ (by decide), et _ (by decide)]
    exact a5 t ht
  · rw [off _ (by omega)]; exact a6 u hu
  · rw [cntD_c 6 (fun t ht => off _ (by omega))]; exact a7 e he
theorem SI_tk (p : Nat) (hp : p < 6) : ∀ (n k : Nat) (s : Nat → Int32) (l : Int32), k + n ≤ 5 → SI s → SI (tkL p n k s l).1
  | 0, _, _, _, _, I => I
  | n + 1, k, s, l, h, I => by
    rw [tkL_s]
    by_cases w : bt (s (290 + k)) p = true
    · rw [if_pos w]
      exact SI_tk p hp n (k + 1) _ _ (by omega) (I.cong (fun j hj => by unfold tkS upd; rw [if_neg (by omega), if_neg (by omega)]))
    · rw [if_neg w]
      exact SI_tk p hp n (k + 1) _ _ (by omega) I
theorem SI_bk (p : Nat) (hp : p < 6) : ∀ (n k : Nat) (s : Nat → Int32), k + n ≤ 5 → SI s → SI (bkL p n k s)
  | 0, _, _, _, I => I
  | n + 1, k, s, h, I => by
    rw [bkL_s]
    exact SI_bk p hp n (k + 1) _ (by omega) (I.cong (fun j hj => by unfold bkS upd; rw [if_neg (by omega), if_neg (by omega)]))
theorem Iv_road {σ : Sg} (I : Iv σ) (a b c : Int32) : Iv (op_road a b c σ).2 := by
  unfold op_road
  refine Iv_if (fun h => ?_) (fun _ => Iv_fnd I 0)
  obtain ⟨i, hi, rfl, ei⟩ := n_of (x := a) (b := 7) h.1 (by decide)
  obtain ⟨j, hj, rfl, ej⟩ := n_of (x := b) (b := 7) h.2.1 (by decide)
  rw [ei, ej]
  exact Iv_s I (SI_rd I.1 (by omega) (by omega) (fun y => h.2.2 (by rw [y])) c)
theorem Iv_roads {σ : Sg} (I : Iv σ) (a : Int32) : Iv (op_roads a σ).2 := by unfold op_roads; exact Iv_if (fun _ => I) (fun _ => Iv_fnd I 0)
theorem Iv_far {σ : Sg} (I : Iv σ) (a b : Int32) : Iv (op_far a b σ).2 := by unfold op_far; exact Iv_if (fun _ => Iv_if (fun _ => Iv_fnd I 3) (fun _ => I)) (fun _ => Iv_fnd I 0)
theorem Iv_seen {σ : Sg} (I : Iv σ) (a b c : Int32) : Iv (op_seen a b c σ).2 := by
  unfold op_seen
  refine Iv_if (fun h => Iv_if (fun h2 => ?_) (fun _ => Iv_fnd I 1)) (fun _ => Iv_fnd I 0)
  obtain ⟨p, hp, rfl, -⟩ := n_of (x := a) (b := 5) h.1 (by decide)
  obtain ⟨q, hq, rfl, -⟩ := n_of (x := b) (b := 7) h.2.1 (by decide)
  obtain ⟨d, m, hd, hm, rfl, -, -⟩ := wh_of h.2.2
  have := I.1.seen
  exact Iv_s I (SI_saw I.1 (by omega) (by omega) (by omega) hd hm)
theorem Iv_seenOf {σ : Sg} (I : Iv σ) (a b : Int32) : Iv (op_seenOf a b σ).2 := by unfold op_seenOf; exact Iv_if (fun _ => I) (fun _ => Iv_fnd I 0)
theorem Iv_where {σ : Sg} (I : Iv σ) (a b : Int32) : Iv (op_where a b σ).2 := by unfold op_where; exact Iv_if (fun _ => Iv_if (fun _ => Iv_fnd I 3) (fun _ => I)) (fun _ => Iv_fnd I 0)
theorem Iv_drift {σ : Sg} (I : Iv σ) (a b c : Int32) : Iv (op_drift a b c σ).2 := by
  unfold op_drift
  refine Iv_if (fun h => ?_) (fun _ => Iv_fnd I 0)
  obtain ⟨p, hp, rfl, -⟩ := n_of (x := a) (b := 5) h.1 (by decide)
  obtain ⟨d, hd, rfl, -⟩ := n_of (x := b) (b := 29) h.2.1 (by decide)
  exact Iv_s I (SI_dr (by omega) (by omega) _ _ I.1)
theorem Iv_term {σ : Sg} (I : Iv σ) (k p q : Int32) : Iv (op_term k p q σ).2 := by
  unfold op_term
  refine Iv_if (fun h => Iv_if (fun h2 => ?_) (fun _ => Iv_fnd I 1)) (fun _ => Iv_fnd I 0)
  obtain ⟨k, hk, rfl, -⟩ := n_of (x := k) (b := 6) h.1 (by decide)
  obtain ⟨p, hp, rfl, -⟩ := n_of (x := p) (b := 5) h.2.1 (by decide)
  obtain ⟨q, hq, rfl, -⟩ := n_of (x := q) (b := 7) h.2.2 (by decide)
  have ok := I.1.terms
  have hn : nT (σ 0) < 12 := by have := h2.1; have := ok.2.2; omega
  refine Iv_s I ?_
  rw [new_nt]
  exact SI_nt I.1 hn (k := k) (p := p) (q := q) (a := 0) (b := 23) (c := 0) (d := 29) (by omega) (by omega) (by omega) (by omega) (by omega) (by omega) (by omega) h2.2 rfl rfl rfl rfl rfl rfl rfl
theorem Iv_termOf {σ : Sg} (I : Iv σ) (a b : Int32) : Iv (op_termOf a b σ).2 := by unfold op_termOf; exact Iv_if (fun _ => I) (fun _ => Iv_fnd I 0)
theorem Iv_turn {σ : Sg} (I : Iv σ) (a k : Int32) : Iv (op_turn a k σ).2 := by
  unfold op_turn
  refine Iv_if (fun h => ?_) (fun _ => Iv_fnd I 0)
  obtain ⟨k, hk, rfl, -⟩ := n_of (x := k) (b := 6) h.2 (by decide)
  obtain ⟨t, ht, ht2, rfl, et⟩ := t_of I.1.terms h.1
  rw [et]
  exact Iv_s I (SI_turn I.1 ht2 (by omega))
theorem Iv_bad {σ : Sg} (I : Iv σ) (a : Int32) : Iv (op_bad a σ).2 := by unfold op_bad; exact Iv_if (fun _ => I) (fun _ => Iv_fnd I 0)
theorem Iv_inForce {σ : Sg} (I : Iv σ) (p d : Int32) : Iv (op_inForce p d σ).2 := by unfold op_inForce; exact Iv_if (fun _ => I) (fun _ => Iv_fnd I 0)
theorem Iv_span {σ : Sg} (I : Iv σ) (a w f t : Int32) : Iv (op_span a w f t σ).2 := by
  unfold op_span
  refine Iv_if (fun h => ?_) (fun _ => Iv_fnd I 0)
  obtain ⟨u, hu, hu2, rfl, eu⟩ := t_of I.1.terms h.1
  obtain ⟨j, hj, ew, ej⟩ := n_of (x := w) (b := 1) h.2.1 (by decide)
  have h3 := h.2.2
  rw [eu, ej]
  rcases (by omega : j = 0 ∨ j = 1) with rfl | rfl
  · subst ew
    have h3 : 0 ≤ f.toInt ∧ f.toInt ≤ t.toInt ∧ t.toInt ≤ 23 := h3
    obtain ⟨x, hx, rfl, -⟩ := n_of (x := f) (b := 23) ⟨h3.1, by omega⟩ (by decide)
    obtain ⟨y, hy, rfl, -⟩ := n_of (x := t) (b := 23) ⟨by omega, by omega⟩ (by decide)
    rw [nI_toInt (by omega), nI_toInt (by omega)] at h3
    exact Iv_s I (SI_set I.1 hu2 (Or.inl ⟨rfl, by omega⟩) (by omega))
  · subst ew
    have h3 : 0 ≤ f.toInt ∧ f.toInt ≤ t.toInt ∧ t.toInt ≤ 29 := h3
    obtain ⟨x, hx, rfl, -⟩ := n_of (x := f) (b := 29) ⟨h3.1, by omega⟩ (by decide)
    obtain ⟨y, hy, rfl, -⟩ := n_of (x := t) (b := 29) ⟨by omega, by omega⟩ (by decide)
    rw [nI_toInt (by omega), nI_toInt (by omega)] at h3
    exact Iv_s I (SI_set I.1 hu2 (Or.inr ⟨rfl, by omega⟩) (by omega))
theorem Iv_change {σ : Sg} (I : Iv σ) (a d q : Int32) : Iv (op_change a d q σ).2 := by
  unfold op_change
  refine Iv_if (fun h => Iv_if (fun h2 => Iv_if (fun h3 => ?_) (fun _ => Iv_fnd I 1)) (fun _ => Iv_fnd I 4)) (fun _ => Iv_fnd I 0)
  have ok := I.1.terms
  have hn : nT (σ 0) < 12 := by have := h3.1; have := ok.2.2; omega
  obtain ⟨u, hu, hu2, rfl, eu⟩ := t_of ok h.1
  obtain ⟨e, he, rfl, -⟩ := n_of (x := d) (b := 29) ⟨by have := h.2.1.1; omega, h.2.1.2⟩ (by decide)
  obtain ⟨q, hq, rfl, -⟩ := n_of (x := q) (b := 7) h.2.2 (by decide)
  rw [eu] at h2 h3 ⊢
  have e1 : 1 ≤ e := by have := h.2.1.1; rw [nI_toInt (by omega)] at this; omega
  obtain ⟨k, p, q2, a, b, c, f, h1, h2', h3', h4, h5, h6, h7, x0, x1, x2, x3, x4, x5, x6⟩ := I.1.tm u hu2
  rw [x5, x6] at h2
  have l1 : c < e := (nI_ltI (by omega) (by omega)).mp h2.1
  have l2 : e ≤ f := (nI_leI (by omega) (by omega)).mp h2.2
  rw [x1] at h3
  refine Iv_s I ?_
  show SI (chgS (σ 0) u (nT (σ 0)) (nI e) (nI q))
  unfold chgS
  rw [x0, x1, x3, x4, x5, x6, new_nt, set_nt _ _ _ _ (by decide), set_nt _ _ _ _ (by decide), show nI e - 1 = nI (e - 1) by rw [show e = (e - 1) + 1 by omega, ← nI_1, show e - 1 + 1 - 1 = e - 1 by omega]; exact Int32.add_sub_cancel _ _]
  refine SI_set (SI_nt I.1 hn (k := k) (p := p) (q := q) (a := a) (b := b) (c := e) (d := f) h1 h2' (by omega) h4 h5 l2 h7 h3.2 rfl rfl rfl rfl rfl rfl rfl) hu2 (Or.inr ⟨rfl, by omega⟩) (by omega)
theorem Iv_surety {σ : Sg} (I : Iv σ) (a r b : Int32) : Iv (op_surety a r b σ).2 := by
  unfold op_surety
  refine Iv_if (fun h => Iv_if (fun h2 => ?_) (fun _ => Iv_fnd I 4)) (fun _ => Iv_fnd I 0)
  obtain ⟨k, hk, rfl, ek⟩ := n_of (x := a) (b := 4) h.1 (by decide)
  rw [ek]
  exact Iv_s I (I.1.cong (fun j hj => by unfold upd; rw [if_neg (by omega), if_neg (by omega)]))
theorem Iv_bail {σ : Sg} (I : Iv σ) (p v : Int32) : Iv (op_bail p v σ).2 := by
  unfold op_bail
  refine Iv_if (fun h => Iv_if (fun h2 => ?_) (fun _ => Iv_fnd I 4)) (fun _ => Iv_fnd I 0)
  obtain ⟨k, hk, rfl, ek⟩ := n_of (x := p) (b := 5) h.1 (by decide)
  rw [ek]
  exact Iv_s I (I.1.cong (fun j hj => by unfold upd; rw [if_neg (by omega)]))
theorem Iv_suretyOf {σ : Sg} (I : Iv σ) (a b : Int32) : Iv (op_suretyOf a b σ).2 := by unfold op_suretyOf; exact Iv_if (fun _ => I) (fun _ => Iv_fnd I 0)
theorem Iv_call {σ : Sg} (I : Iv σ) (a : Int32) : Iv (op_call a σ).2 := by
  unfold op_call
  refine Iv_if (fun h => Iv_if (fun h2 => ?_) (fun _ => Iv_fnd I 4)) (fun _ => Iv_fnd I 0)
  obtain ⟨k, hk, rfl, ek⟩ := n_of (x := a) (b := 5) h (by decide)
  rw [ek]
  exact Iv_s I (SI_tk k (by omega) 5 0 _ _ (by omega) I.1)
theorem Iv_back {σ : Sg} (I : Iv σ) (a : Int32) : Iv (op_back a σ).2 := by
  unfold op_back
  refine Iv_if (fun h => ?_) (fun _ => Iv_fnd I 0)
  obtain ⟨k, hk, rfl, ek⟩ := n_of (x := a) (b := 5) h (by decide)
  rw [ek]
  exact Iv_s I (SI_bk k (by omega) 5 0 _ (by omega) I.1)
theorem Iv_hearing {σ : Sg} (I : Iv σ) (p d : Int32) : Iv (op_hearing p d σ).2 := by
  unfold op_hearing
  refine Iv_if (fun h => Iv_if (fun h2 => ?_) (fun _ => Iv_fnd I 1)) (fun _ => Iv_fnd I 0)
  obtain ⟨k, hk, rfl, ek⟩ := n_of (x := p) (b := 5) h.1 (by decide)
  obtain ⟨e, he, rfl, -⟩ := n_of (x := d) (b := 29) h.2 (by decide)
  rw [ek]
  exact Iv_s I (SI_hear I.1 (by omega) (by omega) h2)
theorem Iv_heard {σ : Sg} (I : Iv σ) (p : Int32) : Iv (op_heard p σ).2 := by unfold op_heard; exact Iv_if (fun _ => Iv_if (fun _ => Iv_fnd I 3) (fun _ => I)) (fun _ => Iv_fnd I 0)
theorem Iv_seed {σ : Sg} (I : Iv σ) (v : Int32) : Iv (op_seed v σ).2 := Iv_s I (I.1.cong (fun j hj => by unfold upd; rw [if_neg (by omega)]))
theorem Iv_hold {σ : Sg} (I : Iv σ) (a t : Int32) : Iv (op_hold a t σ).2 := by
  unfold op_hold
  refine Iv_if (fun h => ?_) (fun _ => Iv_fnd I 0)
  obtain ⟨k, hk, rfl, ek⟩ := n_of (x := a) (b := 9) h.1 (by decide)
  rw [ek]
  refine Iv_s I (SI_hold I.1 (by omega) ?_)
  rcases h.2 with h | h
  · exact Or.inl h
  · obtain ⟨u, hu, hu2, rfl, -⟩ := t_of I.1.terms h
    exact Or.inr ⟨u, hu, rfl⟩
theorem Iv_as {σ : Sg} (I : Iv σ) (a k : Int32) : Iv (op_as a k σ).2 := by unfold op_as; exact Iv_if (fun _ => Iv_if (fun _ => Iv_fnd I 5) (fun _ => Iv_if (fun _ => I) (fun _ => Iv_fnd I 2))) (fun _ => Iv_fnd I 0)
theorem Iv_sheet {σ : Sg} (I : Iv σ) (a b n : Int32) : Iv (op_sheet a b n σ).2 := by
  unfold op_sheet
  refine Iv_if (fun h => Iv_if (fun h2 => Iv_if (fun h3 => ?_) (fun _ => Iv_fnd I 0)) (fun _ => Iv_fnd I 6)) (fun _ => Iv_fnd I 0)
  obtain ⟨k, hk, rfl, ek⟩ := n_of (x := a) (b := 3) h.1 (by decide)
  rw [ek]
  have g1 := Int32.le_iff_toInt_le.mp h2
  have g2 := Int32.le_iff_toInt_le.mp h3
  obtain ⟨m, hm, rfl, -⟩ := n_of (x := n) (b := 40) ⟨g1, g2⟩ (by decide)
  obtain ⟨i1, i2, i3, i4, i5, i6, i7⟩ := I
  refine ⟨i1, i2, i3, i4, i5, i6, fun j hj => ?_⟩
  show (upd (σ 5) k b j = 0 ∨ upd (σ 5) k b j = 8 ∨ upd (σ 5) k b j = 16 ∨ upd (σ 5) k b j = 32) ∧ ∃ m2, m2 ≤ 40 ∧ upd (σ 6) k (szF b (nI m)) j = nI m2 ∧ (upd (σ 5) k b j = 0 → m2 = 0)
  unfold upd
  by_cases w : j = k
  · rw [if_pos w, if_pos w]
    refine ⟨h.2, ?_⟩
    unfold szF
    by_cases z : b = 0
    · rw [if_pos z]; exact ⟨0, by omega, rfl, fun _ => rfl⟩
    · rw [if_neg z]; exact ⟨m, hm, rfl, fun y => absurd y z⟩
  · rw [if_neg w, if_neg w]
    exact i7 j hj
theorem Iv_write {σ : Sg} (I : Iv σ) (a i v : Int32) : Iv (op_write a i v σ).2 := by unfold op_write; exact Iv_if (fun _ => Iv_if (fun _ => Iv_if (fun _ => I) (fun _ => Iv_fnd I 0)) (fun _ => Iv_fnd I 5)) (fun _ => Iv_fnd I 0)
theorem Iv_copy {σ : Sg} (I : Iv σ) (a f t g n : Int32) : Iv (op_copy a f t g n σ).2 := by unfold op_copy; exact Iv_if (fun _ => Iv_if (fun _ => Iv_if (fun _ => Iv_if (fun _ => I) (fun _ => Iv_fnd I 0)) (fun _ => Iv_fnd I 2)) (fun _ => Iv_fnd I 5)) (fun _ => Iv_fnd I 0)
theorem Iv_load {σ : Sg} (I : Iv σ) (a p d : Int32) : Iv (op_load a p d σ).2 := by
  unfold op_load
  refine Iv_if (fun _ => Iv_if (fun _ => Iv_if (fun h => ?_) (fun _ => Iv_fnd I 0)) (fun _ => Iv_fnd I 5)) (fun _ => Iv_fnd I 0)
  obtain ⟨p, hp, rfl, -⟩ := n_of (x := p) (b := 5) h.1 (by decide)
  obtain ⟨e, he, rfl, ee⟩ := n_of (x := d) (b := 29) h.2 (by decide)
  rw [ee]
  exact Iv_s I (SI_ld (by omega) (by omega) 24 0 _ 0 (by omega) I.1)
theorem Iv_image {σ : Sg} (I : Iv σ) : Iv (op_image σ).2 := ⟨I.1, fun _ => I.1.cong (fun j hj => if_pos (by omega)), Or.inr rfl, I.2.2.2⟩
theorem Iv_undo {σ : Sg} (I : Iv σ) : Iv (op_undo σ).2 := by
  unfold op_undo
  refine Iv_if (fun h => ?_) (fun _ => Iv_fnd I 3)
  have e : σ 8 0 = 1 := I.2.2.1.resolve_left h
  exact Iv_s I ((I.2.1 e).cong (fun j hj => if_pos (by omega)))
theorem Iv_tear {σ : Sg} (I : Iv σ) : Iv (op_tear σ).2 := ⟨I.1, fun h => absurd (show (0 : Int32) = 1 from h) (by decide), Or.inl rfl, I.2.2.2⟩
theorem Iv_at {σ : Sg} (I : Iv σ) (a : Int32) : Iv (op_at a σ).2 := by unfold op_at; exact Iv_if (fun _ => Iv_if (fun _ => I) (fun _ => Iv_fnd I 3)) (fun _ => Iv_fnd I 0)
theorem Iv_tpe {σ : Sg} (I : Iv σ) {f : Nat → Int32} {n : Nat} (hn : n ≤ 120) (hf : ∀ j, j < 120 → ∃ c, c < 256 ∧ f j = nI c) : Iv (sf (sf σ 4 f) 8 (tpF σ (nI n))) := ⟨I.1, I.2.1, I.2.2.1, I.2.2.2.1, ⟨n, hn, rfl⟩, hf, I.2.2.2.2.2.2⟩
theorem Iv_wipe {σ : Sg} (I : Iv σ) : Iv (op_wipe σ).2 := Iv_tpe (n := 0) I (by decide) I.2.2.2.2.2.1
theorem fdL_lt (x : Int32) : ∀ (i n : Nat) (f : Nat → Int32), (∀ j, j < 120 → ∃ c, c < 256 ∧ f j = nI c) → ∀ j, j < 120 → ∃ c, c < 256 ∧ fdF x f n i j = nI c
  | 0, _, _, h => h
  | i + 1, n, f, h => by
    rw [fdF_s]
    refine fdL_lt x i (n + 1) _ (fun j hj => ?_)
    unfold upd
    by_cases w : j = n
    · rw [if_pos w]; exact by_lt x i
    · rw [if_neg w]; exact h j hj
theorem Iv_feed {σ : Sg} (I : Iv σ) (x m : Int32) : Iv (op_feed x m σ).2 := by
  unfold op_feed
  refine Iv_if (fun h => Iv_if (fun h2 => ?_) (fun _ => Iv_fnd I 1)) (fun _ => Iv_fnd I 0)
  obtain ⟨n, hn, e1, e2, e3⟩ := I.tp
  obtain ⟨k, hk, rfl, ek⟩ := n_of (x := m) (b := 4) ⟨by have := h.1; omega, h.2⟩ (by decide)
  rw [e2, nI_toInt (by omega)] at h2
  rw [e3, ek]
  exact Iv_tpe I (by omega) (fdL_lt x k n _ I.2.2.2.2.2.1)
theorem Iv_status {σ : Sg} (I : Iv σ) (a : Int32) : Iv (op_status a σ).2 := by unfold op_status; exact Iv_if (fun _ => I) (fun _ => Iv_fnd I 0)
theorem Iv_many {σ : Sg} (I : Iv σ) (a : Int32) : Iv (op_many a σ).2 := by unfold op_many; exact Iv_if (fun _ => I) (fun _ => Iv_fnd I 0)
theorem Iv_risk {σ : Sg} (I : Iv σ) (r n k p : Int32) : Iv (op_risk r n k p σ).2 := by unfold op_risk; exact Iv_if (fun _ => I) (fun _ => Iv_fnd I 0)
theorem Iv_strict {σ : Sg} (I : Iv σ) (r n a : Int32) : Iv (op_strict r n a σ).2 := by unfold op_strict; exact Iv_if (fun _ => Iv_st I _) (fun _ => Iv_fnd I 0)
theorem Iv_kept {σ : Sg} (I : Iv σ) (a b : Int32) : Iv (op_kept a b σ).2 := by unfold op_kept; exact Iv_if (fun _ => Iv_if (fun _ => I) (fun _ => Iv_fnd I 3)) (fun _ => Iv_fnd I 0)
theorem Iv_count {σ : Sg} (I : Iv σ) (a b c v : Int32) : Iv (op_count a b c v σ).2 := by unfold op_count; exact Iv_if (fun _ => I) (fun _ => Iv_fnd I 0)
theorem Iv_breach {σ : Sg} (I : Iv σ) (a b : Int32) : Iv (op_breach a b σ).2 := by unfold op_breach; exact Iv_if (fun _ => Iv_st I _) (fun _ => Iv_fnd I 0)
theorem Iv_could {σ : Sg} (I : Iv σ) (a b : Int32) : Iv (op_could a b σ).2 := by unfold op_could; exact Iv_if (fun _ => I) (fun _ => Iv_fnd I 0)
theorem Iv_may {σ : Sg} (I : Iv σ) (a b : Int32) : Iv (op_may a b σ).2 := by unfold op_may; exact Iv_if (fun _ => I) (fun _ => Iv_fnd I 0)
theorem Iv_way {σ : Sg} (I : Iv σ) (a b : Int32) : Iv (op_way a b σ).2 := by
  unfold op_way
  refine Iv_if (fun _ => ?_) (fun _ => Iv_fnd I 0)
  unfold wayV
  exact Iv_if (fun _ => ⟨I.1, I.2.1, I.2.2.1, Or.inr rfl, I.2.2.2.2⟩) (fun _ => Iv_fnd I 3)
theorem Iv_ways {σ : Sg} (I : Iv σ) (a b : Int32) : Iv (op_ways a b σ).2 := by unfold op_ways; exact Iv_if (fun _ => I) (fun _ => Iv_fnd I 0)
theorem Iv_bars {σ : Sg} (I : Iv σ) (a b : Int32) : Iv (op_bars a b σ).2 := by unfold op_bars; exact Iv_if (fun _ => Iv_st I _) (fun _ => Iv_fnd I 0)
theorem Iv_judge {σ : Sg} (I : Iv σ) (a p d : Int32) : Iv (op_judge a p d σ).2 := by unfold op_judge; exact Iv_if (fun _ => Iv_if (fun _ => Iv_if (fun _ => I) (fun _ => Iv_fnd I 0)) (fun _ => Iv_fnd I 5)) (fun _ => Iv_fnd I 0)
theorem SI_pt {f : Nat → Int32} {n : Nat} : ∀ (k : Nat) (t : Nat × Nat) (s : Nat → Int32) (m : Nat) (y : Nat × (Nat → Int32)), tkR f n t → SI s → pText f n k t s m = .inr y → SI y.2
  | 0, _, _, _, _, _, _, h => nomatch h
  | k + 1, t, s, m, y, R, I, h => by
    unfold pText at h
    cases e : pItem f n s t with
    | inl x => rw [e] at h; cases h
    | inr z =>
      rw [e] at h
      simp only at h
      have io := item_ok R e
      by_cases w : srF f n z.1.1 = 0
      · rw [if_pos w] at h
        cases h
        exact SI_ap I io.2.2
      · rw [if_neg w] at h
        by_cases w2 : srF f n z.1.1 = 3
        · rw [if_pos w2] at h
          exact SI_pt k _ _ _ y (nx_R io.2.1) (SI_ap I io.2.2) h
        · rw [if_neg w2] at h; cases h
theorem Iv_text {σ : Sg} (I : Iv σ) : Iv (op_text σ).2 := by
  unfold op_text
  cases e : pText (σ 4) (ca_n (σ 8 2)) 121 (tkF (σ 4) (ca_n (σ 8 2)) 0) (σ 0) 0 with
  | inl x => exact Iv_tpe (n := 0) I (by decide) I.2.2.2.2.2.1
  | inr y => exact Iv_s (Iv_tpe (n := 0) I (by decide) I.2.2.2.2.2.1) (SI_pt 121 _ _ _ y (tk_R (Nat.zero_le _)) I.1 e)

