/-! ===== the class's trial of a day ===== -/
def bdF (s : Nat → Int32) (t m : Nat) : Int32 := if atF s t m then badF s t else 0
def plF (s : Nat → Int32) (t m : Nat) : Int32 := if atF s t m then jshl 1 (tmF s t 2) else 0
def gS (s : Nat → Int32) (op : Int32) (C : Nat → Int32) (x : Nat) : Int32 := stepF s (C x) 8 &&& op
def gAA (s : Nat → Int32) (t m : Nat) (op : Int32) (C : Nat → Int32) (x : Nat) : Int32 := gS s op C x &&& (bdF s t m ^^^ -1)
def gBB (s : Nat → Int32) (t m : Nat) (op : Int32) (C : Nat → Int32) (x : Nat) : Int32 := if x = 0 then gAA s t m op C x else gAA s t m op C x &&& (plF s t m ^^^ -1)
def clN (s : Nat → Int32) (t m : Nat) (op : Int32) (C : Nat → Int32) (n x : Nat) : Int32 := if x + 1 < n then gBB s t m op C x ||| (gAA s t m op C (x + 1) &&& plF s t m) else if x < n then gBB s t m op C x else C x
def fouN (s : Nat → Int32) (t m : Nat) (op : Int32) (C : Nat → Int32) (F : Int32) : Nat → Int32
  | 0 => stepF s F 8 &&& op
  | n + 1 => fouN s t m op C F n ||| (gS s op C n &&& bdF s t m)
theorem st_b (f : Nat → Int32) (x : Int32) (q : Nat) : ∀ n, bt (stepF f x n) q = true ↔ (bt x q = true ∨ ∃ r, r < n ∧ bt x r = true ∧ bt (f r) q = true)
  | 0 => by
    show bt x q = true ↔ _
    constructor
    · exact Or.inl
    · rintro (z | ⟨r, hr, _⟩)
      · exact z
      · omega
  | n + 1 => by
    have ih := st_b f x q n
    rw [stepF_s]
    split
    · rename_i z
      rw [b_or, Bool.or_eq_true, ih]
      constructor
      · rintro ((a | ⟨r, hr, a⟩) | a)
        · exact Or.inl a
        · exact Or.inr ⟨r, by omega, a⟩
        · exact Or.inr ⟨n, by omega, z, a⟩
      · rintro (a | ⟨r, hr, a, b⟩)
        · exact Or.inl (Or.inl a)
        · by_cases w : r = n
          · subst w; exact Or.inr b
          · exact Or.inl (Or.inr ⟨r, by omega, a, b⟩)
    · rename_i z
      rw [ih]
      constructor
      · rintro (a | ⟨r, hr, a⟩)
        · exact Or.inl a
        · exact Or.inr ⟨r, by omega, a⟩
      · rintro (a | ⟨r, hr, a, b⟩)
        · exact Or.inl a
        · by_cases w : r = n
          · subst w; exact absurd a z
          · exact Or.inr ⟨r, by omega, a, b⟩
theorem op_8 {s : Nat → Int32} (S : okS s) (ok : ok8 s) {p : Int32} {d m q : Nat} (h : bt (opF s p d m) q = true) : q < 8 := by
  have l8 := ok.1
  rcases Nat.lt_or_ge q 32 with hq | hq
  · unfold opF opN at h
    rcases latF_c s p (nI (100 * d + m)) (nSeen s) with z | ⟨j, hj, z⟩
    · rw [if_pos z, b_255] at h
      exact of_decide_eq_true h
    · obtain ⟨p2, q2, d2, m2, hp2, hq2, hd2, hm2, s1, s2, s3⟩ := S j (by omega)
      rw [z, if_neg (nI_ne_m1 (by omega)), show ca_n (nI j) = j from nI_clamp (by omega), s2, bt_sh (by omega) hq] at h
      have := of_decide_eq_true h
      omega
  · rw [b_big hq] at h; cases h
def CK (s : Nat → Int32) (t : Nat) (p : Int32) (d m : Nat) (C : Nat → Int32) (F : Int32) : Prop :=
  (∀ x, x < 4 → ∀ q, q < 32 → (bt (C x) q = true ↔ q < 8 ∧ KP s t p d m (8 * x + q))) ∧ ∀ q, q < 32 → (bt F q = true ↔ q < 8 ∧ ∃ x, x < 4 ∧ KP s t p d m (8 * (4 + x) + q))
theorem SI.nb {s : Nat → Int32} (I : SI s) {r q : Nat} (hr : r < 8) (hq : q < 8) : bt (s r) q = true ↔ bt (s q) r = true := ⟨fun z => (I.1 r q hr (by omega) z).2.2, fun z => (I.1 q r hq (by omega) z).2.2⟩
theorem gS_b {s : Nat → Int32} (I : SI s) {t : Nat} {p : Int32} {d m x : Nat} {C : Nat → Int32} {P : Nat → Prop} (H : ∀ q, q < 32 → (bt (C x) q = true ↔ q < 8 ∧ P q)) {q : Nat} (hq : q < 32) : bt (gS s (opF s p d m) C x) q = true ↔ q < 8 ∧ bt (opF s p d m) q = true ∧ ∃ r, r < 8 ∧ P r ∧ (r = q ∨ bt (s q) r = true) := by
  unfold gS
  rw [b_and, Bool.and_eq_true, st_b]
  constructor
  · rintro ⟨a, b⟩
    have q8 := op_8 I.see I.seen b
    refine ⟨q8, b, ?_⟩
    rcases a with a | ⟨r, hr, a, c⟩
    · exact ⟨q, q8, ((H q hq).mp a).2, Or.inl rfl⟩
    · exact ⟨r, hr, ((H r (by omega)).mp a).2, Or.inr ((I.nb hr q8).mp c)⟩
  · rintro ⟨q8, b, r, hr, a, c⟩
    refine ⟨?_, b⟩
    rcases c with c | c
    · subst c; exact Or.inl ((H r (by omega)).mpr ⟨hr, a⟩)
    · exact Or.inr ⟨r, hr, (H r (by omega)).mpr ⟨hr, a⟩, (I.nb hr q8).mpr c⟩
theorem bd_b (s : Nat → Int32) (t m q : Nat) : bt (bdF s t m) q = true ↔ atF s t m ∧ bt (badF s t) q = true := by
  unfold bdF
  split
  · rename_i z
    exact ⟨fun a => ⟨z, a⟩, fun a => a.2⟩
  · rename_i z
    rw [b_0]
    exact ⟨fun a => (by cases a), fun a => absurd a.1 z⟩
theorem pl_b {s : Nat → Int32} (T : okTm s) {t : Nat} (ht : t < 12) (m : Nat) {q : Nat} (hq : q < 32) : bt (plF s t m) q = true ↔ atF s t m ∧ tmF s t 2 = nI q := by
  obtain ⟨_, _, w, _, _, _, _, _, _, hw, _, _, _, _, _, _, ew, _⟩ := T t ht
  unfold plF
  rw [ew]
  split
  · rename_i z
    rw [bt_sh (by omega) hq, decide_eq_true_eq]
    exact ⟨fun a => ⟨z, by rw [a]⟩, fun a => ((nI_eq (by omega) (by omega)).mp a.2).symm⟩
  · rename_i z
    rw [b_0]
    exact ⟨fun a => (by cases a), fun a => absurd a.1 z⟩
theorem nt_b (x : Int32) {q : Nat} (hq : q < 32) : bt (x ^^^ -1) q = true ↔ ¬ bt x q = true := by
  rw [b_xor, b_m1 q hq]
  simp
theorem KP_C {s : Nat → Int32} {t : Nat} {p : Int32} {d m : Nat} {x q : Nat} (hq : q < 8) (hx : x < 4) : KP s t p d (m + 1) (8 * x + q) ↔ ¬ (atF s t m ∧ bt (badF s t) q = true) ∧ ((PP s t p d m x q ∧ (x = 0 ∨ ¬ (atF s t m ∧ tmF s t 2 = nI q))) ∨ (x + 1 < 4 ∧ (atF s t m ∧ tmF s t 2 = nI q) ∧ PP s t p d m (x + 1) q)) := by
  by_cases h : atF s t m
  · have e : ∀ X : Prop, (atF s t m ∧ X) ↔ X := fun X => and_iff_right h
    rw [KP_c hq hx h, e, e]
  · have e : ∀ X : Prop, (atF s t m ∧ X) ↔ False := fun X => ⟨fun z => h z.1, False.elim⟩
    rw [KP_no hq (by omega) h, e, e]
    simp
theorem KP_F {s : Nat → Int32} {t : Nat} {p : Int32} {d m : Nat} {q : Nat} (hq : q < 8) : (∃ x, x < 4 ∧ KP s t p d (m + 1) (8 * (4 + x) + q)) ↔ ((∃ x, x < 4 ∧ PP s t p d m (4 + x) q) ∨ ((atF s t m ∧ bt (badF s t) q = true) ∧ ∃ x, x < 4 ∧ PP s t p d m x q)) := by
  by_cases h : atF s t m
  · have e : ∀ X : Prop, (atF s t m ∧ X) ↔ X := fun X => and_iff_right h
    rw [KP_f hq h, e]
  · constructor
    · rintro ⟨x, hx, a⟩; exact Or.inl ⟨x, hx, (KP_no hq (by omega) h).mp a⟩
    · rintro (⟨x, hx, a⟩ | ⟨z, _⟩)
      · exact ⟨x, hx, (KP_no hq (by omega) h).mpr a⟩
      · exact absurd z.1 h
theorem PP_le {s : Nat → Int32} {t : Nat} {p : Int32} {d m : Nat} (ha : askT s t < 4) {x q : Nat} (hx : x < 4) (H : PP s t p d m x q) : x ≤ askT s t := by
  obtain ⟨_, r, hr, k, _⟩ := H
  have := KP_le ha m (8 * x + r) (by omega) k
  omega
theorem fou_b {s : Nat → Int32} {t m : Nat} {op : Int32} {C : Nat → Int32} {F : Int32} {q : Nat} : ∀ n, bt (fouN s t m op C F n) q = true ↔ (bt (stepF s F 8 &&& op) q = true ∨ (bt (bdF s t m) q = true ∧ ∃ x, x < n ∧ bt (gS s op C x) q = true))
  | 0 => by
    show bt (stepF s F 8 &&& op) q = true ↔ _
    constructor
    · exact Or.inl
    · rintro (a | ⟨_, x, hx, _⟩)
      · exact a
      · omega
  | n + 1 => by
    have ih := fou_b (s := s) (t := t) (m := m) (op := op) (C := C) (F := F) (q := q) n
    show bt (fouN s t m op C F n ||| (gS s op C n &&& bdF s t m)) q = true ↔ _
    rw [b_or, b_and, Bool.or_eq_true, Bool.and_eq_true, ih]
    constructor
    · rintro ((a | ⟨b, x, hx, a⟩) | ⟨a, b⟩)
      · exact Or.inl a
      · exact Or.inr ⟨b, x, by omega, a⟩
      · exact Or.inr ⟨b, n, by omega, a⟩
    · rintro (a | ⟨b, x, hx, a⟩)
      · exact Or.inl (Or.inl a)
      · by_cases w : x = n
        · subst w; exact Or.inr ⟨a, b⟩
        · exact Or.inl (Or.inr ⟨b, x, by omega, a⟩)
theorem CK_s {s : Nat → Int32} (I : SI s) {t : Nat} (ht : t < 12) {p : Int32} {d m : Nat} (ha : askT s t < 4) {C : Nat → Int32} {F : Int32} (H : CK s t p d m C F) : CK s t p d (m + 1) (clN s t m (opF s p d m) C (askT s t + 1)) (fouN s t m (opF s p d m) C F (askT s t + 1)) := by
  have gs : ∀ x, x < 4 → ∀ q, q < 32 → (bt (gS s (opF s p d m) C x) q = true ↔ q < 8 ∧ PP s t p d m x q) := fun x hx q hq => gS_b (t := t) I (P := fun r => KP s t p d m (8 * x + r)) (H.1 x hx) hq
  have aa : ∀ x, x < 4 → ∀ q, q < 32 → (bt (gAA s t m (opF s p d m) C x) q = true ↔ (q < 8 ∧ PP s t p d m x q) ∧ ¬ (atF s t m ∧ bt (badF s t) q = true)) := fun x hx q hq => by
    unfold gAA
    rw [b_and, Bool.and_eq_true, gs x hx q hq, nt_b _ hq, bd_b]
  have bb : ∀ x, x < 4 → ∀ q, q < 32 → (bt (gBB s t m (opF s p d m) C x) q = true ↔ ((q < 8 ∧ PP s t p d m x q) ∧ ¬ (atF s t m ∧ bt (badF s t) q = true)) ∧ (x = 0 ∨ ¬ (atF s t m ∧ tmF s t 2 = nI q))) := fun x hx q hq => by
    unfold gBB
    split
    · rename_i z
      rw [aa x hx q hq]
      exact ⟨fun a => ⟨a, Or.inl z⟩, fun a => a.1⟩
    · rename_i z
      rw [b_and, Bool.and_eq_true, aa x hx q hq, nt_b _ hq, pl_b I.tm ht m hq]
      exact ⟨fun a => ⟨a.1, Or.inr a.2⟩, fun a => ⟨a.1, a.2.resolve_left z⟩⟩
  refine ⟨fun x hx q hq => ?_, fun q hq => ?_⟩
  · unfold clN
    split
    · rename_i z
      rw [b_or, b_and, Bool.or_eq_true, Bool.and_eq_true, bb x hx q hq, aa (x + 1) (by omega) q hq, pl_b I.tm ht m hq]
      constructor
      · rintro (⟨⟨⟨a, b⟩, c⟩, e⟩ | ⟨⟨⟨a, b⟩, c⟩, e⟩)
        · exact ⟨a, (KP_C a hx).mpr ⟨c, Or.inl ⟨b, e⟩⟩⟩
        · exact ⟨a, (KP_C a hx).mpr ⟨c, Or.inr ⟨by omega, e, b⟩⟩⟩
      · rintro ⟨a, k⟩
        obtain ⟨c, ⟨b, e⟩ | ⟨_, e, b⟩⟩ := (KP_C a hx).mp k
        · exact Or.inl ⟨⟨⟨a, b⟩, c⟩, e⟩
        · exact Or.inr ⟨⟨⟨a, b⟩, c⟩, e⟩
    · rename_i z
      split
      · rename_i w
        rw [bb x hx q hq]
        constructor
        · rintro ⟨⟨⟨a, b⟩, c⟩, e⟩
          exact ⟨a, (KP_C a hx).mpr ⟨c, Or.inl ⟨b, e⟩⟩⟩
        · rintro ⟨a, k⟩
          obtain ⟨c, ⟨b, e⟩ | ⟨y, e, b⟩⟩ := (KP_C a hx).mp k
          · exact ⟨⟨⟨a, b⟩, c⟩, e⟩
          · have := PP_le ha y b
            omega
      · rename_i w
        rw [H.1 x hx q hq]
        constructor
        · rintro ⟨a, k⟩
          have := KP_le ha m (8 * x + q) (by omega) k
          omega
        · rintro ⟨a, k⟩
          have := KP_le ha (m + 1) (8 * x + q) (by omega) k
          omega
  · rw [fou_b]
    have f0 := gS_b (t := t) (d := d) (p := p) (m := m) (x := 0) (C := fun _ => F) I (P := fun r => ∃ x, x < 4 ∧ KP s t p d m (8 * (4 + x) + r)) H.2 hq
    unfold gS at f0
    rw [f0, bd_b]
    constructor
    · rintro (⟨q8, a, r, hr, ⟨x, hx, k⟩, c⟩ | ⟨b, x, hx, g⟩)
      · exact ⟨q8, (KP_F q8).mpr (Or.inl ⟨x, hx, a, r, hr, k, c⟩)⟩
      · have := (gs x (by omega) q hq).mp g
        exact ⟨this.1, (KP_F this.1).mpr (Or.inr ⟨b, x, by omega, this.2⟩)⟩
    · rintro ⟨q8, k⟩
      rcases (KP_F q8).mp k with ⟨x, hx, a, r, hr, b, c⟩ | ⟨b, x, hx, g⟩
      · exact Or.inl ⟨q8, a, r, hr, ⟨x, hx, b⟩, c⟩
      · have := PP_le ha hx g
        exact Or.inr ⟨b, x, by omega, (gs x hx q hq).mpr ⟨q8, g⟩⟩
theorem ltN' (x : Int32) (m : Nat) (hm : m < 2 ^ 31) : nI m < x ↔ (m : Int) < x.toInt := gtN x m hm
theorem gtN' (x : Int32) (m : Nat) (hm : m < 2 ^ 31) : x < nI m ↔ x.toInt < m := ltN x m hm
set_option maxRecDepth 100000 in
set_option maxHeartbeats 400000 in
theorem lp_go {Γ : Fr} (o : ca_O Γ cX8_goThrough 10 RX8 2 44) {Pr : Option Value → Mem → Prop} (ρ : ca_R Γ none Pr) {h0 : Mem} {s : Nat → Int32} (B : BR h0 1 s) (t m : Nat) (hm : m < 24) (ha : askT s t < 4) (op : Int32) (eo : h0.1 48 m = op) (C : Nat → Int32) (F : Int32) (x4 : Int32) (hp : ∀ h : Mem, (∀ x, x < 4 → h.1 49 x = clN s t m op C (askT s t + 1) x) → h.1 47 2 = fouN s t m op C F (askT s t + 1) → (∀ c, c ≠ 47 → c ≠ 49 → h.1 c = h0.1 c) → Pr none h) : ∀ n, n ≤ askT s t + 1 → ∀ (xn : Int32) (h : Mem) (v9 : Option Value), xn = nI n → (∀ x, x < 4 → h.1 49 x = clN s t m op C n x) → h.1 47 2 = fouN s t m op C F n → (∀ c, c ≠ 47 → c ≠ 49 → h.1 c = h0.1 c) → ca_G Γ 10 h 106 [some (.ref 47), some (.ref 1), some (.int (nI t)), some (.int (nI m)), some (.int x4), some (.int (bdF s t m)), some (.int (plF s t m)), some (.int (nI (askT s t))), some (.int xn), v9] [] := by
  refine downI (askT s t + 1) (fun n hn ih => ?_)
  rintro xn h v9 rfl e1 e2 e3
  have B2 : BR h 1 s := B.of (fun c hc => e3 c (fun z => by subst z; revert hc; decide) (fun z => by subst z; revert hc; decide))
  have eo2 : h.1 48 m = op := by rw [e3 48 (by decide) (by decide)]; exact eo
  refine g_iload (pc := 106) o dX8_goThrough_106 rfl ?_
  refine g_iload (pc := 108) o dX8_goThrough_108 rfl ?_
  refine g_ic_gt (pc := 110) o 211 dX8_goThrough_110 (by decide) (fun c110 => ?_) (fun c110 => ?_)
  · skip
    have q : n = askT s t + 1 := by have := (nI_ltI (by omega) (by omega)).mp c110; omega
    subst q
    exact g_vret o ρ dX8_goThrough_211 (hp h e1 e2 e3)
  · skip
    have q : n ≤ askT s t := by have := mt (nI_ltI (a := askT s t) (b := n) (by omega) (by omega)).mpr c110; omega
    have cn : clN s t m op C n n = C n := by unfold clN; rw [if_neg (by omega), if_neg (by omega)]
    have cl := c_stepFrom B2 (C n)
    have fin : ∀ (h2 : Mem) (v9 : Option Value), (∀ x, x < 4 → h2.1 49 x = clN s t m op C (n + 1) x) → h2.1 47 2 = fouN s t m op C F (n + 1) → (∀ c, c ≠ 47 → c ≠ 49 → h2.1 c = h0.1 c) → ca_G Γ 10 h2 205 [some (.ref 47), some (.ref 1), some (.int (nI t)), some (.int (nI m)), some (.int x4), some (.int (bdF s t m)), some (.int (plF s t m)), some (.int (nI (askT s t))), some (.int (nI n)), v9] [] := by
      intro h2 v9 a b c
      refine g_iinc (pc := 205) o dX8_goThrough_205 rfl 1 rfl (by decide) ?_
      show ca_G Γ 10 _ _ [_, _, _, _, _, _, _, _, _, _] _
      refine g_goto (pc := 208) o 106 dX8_goThrough_208 (by decide) ?_
      exact ih (by omega) _ h2 _ (nI_1 n) a b c
    have st164 : ∀ (h2 : Mem) (v9 : Option Value), h2.1 49 n = gAA s t m op C n → (∀ x, x < 4 → x ≠ n → h2.1 49 x = clN s t m op C n x) → h2.1 47 2 = fouN s t m op C F (n + 1) → (∀ c, c ≠ 47 → c ≠ 49 → h2.1 c = h0.1 c) → ca_G Γ 10 h2 164 [some (.ref 47), some (.ref 1), some (.int (nI t)), some (.int (nI m)), some (.int x4), some (.int (bdF s t m)), some (.int (plF s t m)), some (.int (nI (askT s t))), some (.int (nI n)), v9] [] := by
      intro h2 v9 a1 a2 a3 a4
      refine g_iload (pc := 164) o dX8_goThrough_164 rfl ?_
      refine g_if_le (pc := 166) o 205 dX8_goThrough_166 (by decide) (fun c166 => ?_) (fun c166 => ?_)
      · skip
        have n0 : n = 0 := Classical.byContradiction (fun w => nI_nle (n := n) (by omega) (by omega) c166)
        subst n0
        refine fin h2 _ (fun x hx => ?_) a3 a4
        by_cases w : x = 0
        · subst w; rw [a1]; unfold clN gBB; rw [if_neg (by omega), if_pos (by omega), if_pos rfl]
        · rw [a2 x hx w]; unfold clN; rw [if_neg (by omega), if_neg (by omega), if_neg (by omega), if_neg (by omega)]
      · skip
        have n0 : 0 < n := by
          rcases Nat.eq_zero_or_pos n with w | w
          · exact absurd (by rw [w]; decide) c166
          · exact w
        have sj : nI n - 1 = nI (n - 1) := pk_sub (b := 1) n0
        have b1 : h2.1 49 (n - 1) = gBB s t m op C (n - 1) := by
          rw [a2 (n - 1) (by omega) (by omega)]
          unfold clN
          rw [if_neg (by omega), if_pos (by omega)]
        have gn : gBB s t m op C n = gAA s t m op C n &&& (plF s t m ^^^ -1) := if_neg (by omega)
        refine g_aload_n (pc := 169) o dX8_goThrough_169 rfl ?_
        refine g_getR (pc := 170) o 1 rfl rfl rfl inX8 (by decide) lf_X8_15 dX8_goThrough_170 ?_
        refine g_iload (pc := 173) o dX8_goThrough_173 rfl ?_
        refine g_iconst (pc := 175) o dX8_goThrough_175 1 rfl ?_
        refine g_isub (pc := 176) o dX8_goThrough_176 ?_
        rw [sj]
        refine g_dup2 (pc := 177) o dX8_goThrough_177 rfl rfl ?_
        refine n_ialdE (pc := 178) o (n - 1) (rfl) rfl ((by omega)) (by decide) (b1) dX8_goThrough_178 ?_
        refine g_aload_n (pc := 179) o dX8_goThrough_179 rfl ?_
        refine g_getR (pc := 180) o 1 rfl rfl rfl inX8 (by decide) lf_X8_15 dX8_goThrough_180 ?_
        refine g_iload (pc := 183) o dX8_goThrough_183 rfl ?_
        refine n_ialdE (pc := 185) o n (rfl) rfl ((by omega)) (by decide) (a1) dX8_goThrough_185 ?_
        refine g_iload (pc := 186) o dX8_goThrough_186 rfl ?_
        refine g_iand (pc := 188) o dX8_goThrough_188 ?_
        refine g_ior (pc := 189) o dX8_goThrough_189 ?_
        refine n_iast (pc := 190) o (n - 1) (rfl) rfl ((by omega)) (by decide) dX8_goThrough_190 ?_
        have st191 : ∀ h3 : Mem, h3.1 49 (n - 1) = gBB s t m op C (n - 1) ||| (gAA s t m op C n &&& plF s t m) → (∀ x, x < 4 → x ≠ n - 1 → h3.1 49 x = h2.1 49 x) → h3.1 47 2 = fouN s t m op C F (n + 1) → (∀ c, c ≠ 47 → c ≠ 49 → h3.1 c = h0.1 c) → ca_G Γ 10 h3 191 [some (.ref 47), some (.ref 1), some (.int (nI t)), some (.int (nI m)), some (.int x4), some (.int (bdF s t m)), some (.int (plF s t m)), some (.int (nI (askT s t))), some (.int (nI n)), v9] [] := by
          intro h3 d1 d2 d3 d4
          have d5 : h3.1 49 n = gAA s t m op C n := (d2 n (by omega) (by omega)).trans a1
          refine g_aload_n (pc := 191) o dX8_goThrough_191 rfl ?_
          refine g_getR (pc := 192) o 1 rfl rfl rfl inX8 (by decide) lf_X8_15 dX8_goThrough_192 ?_
          refine g_iload (pc := 195) o dX8_goThrough_195 rfl ?_
          refine g_dup2 (pc := 197) o dX8_goThrough_197 rfl rfl ?_
          refine n_ialdE (pc := 198) o n (rfl) rfl ((by omega)) (by decide) (d5) dX8_goThrough_198 ?_
          refine g_iload (pc := 199) o dX8_goThrough_199 rfl ?_
          refine g_iconst (pc := 201) o dX8_goThrough_201 (-1) rfl ?_
          refine g_ixor (pc := 202) o dX8_goThrough_202 ?_
          refine g_iand (pc := 203) o dX8_goThrough_203 ?_
          refine n_iast (pc := 204) o n (rfl) rfl ((by omega)) (by decide) dX8_goThrough_204 ?_
          refine fin _ _ (fun x hx => ?_) ((congrFun (mw_ne _ _ _ (by decide)) 2).trans d3) (fun c hc1 hc2 => (mw_ne _ _ _ hc2).trans (d4 c hc1 hc2))
          rw [mw_same]
          unfold upd
          by_cases w : x = n
          · subst w
            rw [if_pos rfl]
            unfold clN
            rw [if_neg (by omega), if_pos (by omega), gn]
          · rw [if_neg w]
            by_cases y : x = n - 1
            · subst y
              rw [d1]
              unfold clN
              rw [if_pos (by omega), show n - 1 + 1 = n by omega]
            · rw [d2 x hx y, a2 x hx w]
              unfold clN
              by_cases u : x + 1 < n
              · rw [if_pos u, if_pos (by omega)]
              · rw [if_neg u, if_neg (by omega), if_neg (by omega), if_neg (by omega)]
        refine st191 _ (by rw [mw_same]; unfold upd; rw [if_pos rfl]) (fun x hx w => by rw [mw_same]; unfold upd; rw [if_neg w]) ((congrFun (mw_ne _ _ _ (by decide)) 2).trans a3) (fun c hc1 hc2 => (mw_ne _ _ _ hc2).trans (a4 c hc1 hc2))
    refine g_aload_n (pc := 113) o dX8_goThrough_113 rfl ?_
    refine g_getR (pc := 114) o 0 rfl rfl rfl inX0 (by decide) lf_X8_55 dX8_goThrough_114 ?_
    refine g_aload_n (pc := 117) o dX8_goThrough_117 rfl ?_
    refine g_getR (pc := 118) o 1 rfl rfl rfl inX8 (by decide) lf_X8_15 dX8_goThrough_118 ?_
    refine g_iload (pc := 121) o dX8_goThrough_121 rfl ?_
    refine n_ialdE (pc := 123) o n (rfl) rfl ((by omega)) (by decide) ((e1 n (by omega)).trans cn) dX8_goThrough_123 ?_
    refine g_callVi (pc := 124) o (cl) mt_X2_stepFrom mv_X2_stepFrom lk_X8_59 rfl rfl rfl (by decide) rfl (Nat.le_of_ble_eq_true rfl) dX8_goThrough_124 ?_
    refine g_aload_n (pc := 127) o dX8_goThrough_127 rfl ?_
    refine g_getR (pc := 128) o 0 rfl rfl rfl inX8 (by decide) lf_X8_9 dX8_goThrough_128 ?_
    refine g_iload_n (pc := 131) o dX8_goThrough_131 rfl ?_
    refine n_ialdE (pc := 132) o m (rfl) rfl ((by omega)) (by decide) (eo2) dX8_goThrough_132 ?_
    refine g_iand (pc := 133) o dX8_goThrough_133 ?_
    refine g_istore (pc := 134) o dX8_goThrough_134 (by decide) ?_
    show ca_G Γ 10 _ _ [_, _, _, _, _, _, _, _, _, _] _
    refine g_aload_n (pc := 136) o dX8_goThrough_136 rfl ?_
    refine g_dup (pc := 137) o dX8_goThrough_137 rfl ?_
    refine g_getIE (pc := 138) o 2 rfl rfl rfl inX8 (by decide) lf_X8_44 (e2) dX8_goThrough_138 ?_
    refine g_iload (pc := 141) o dX8_goThrough_141 rfl ?_
    refine g_iload (pc := 143) o dX8_goThrough_143 rfl ?_
    refine g_iand (pc := 145) o dX8_goThrough_145 ?_
    refine g_ior (pc := 146) o dX8_goThrough_146 ?_
    refine g_put (pc := 147) o 2 rfl rfl rfl inX8 tyX8_ok nmX8 (by decide) lf_X8_44 rfl rfl rfl dX8_goThrough_147 ?_
    refine g_aload_n (pc := 150) o dX8_goThrough_150 rfl ?_
    refine g_getR (pc := 151) o 1 rfl rfl rfl inX8 (by decide) lf_X8_15 dX8_goThrough_151 ?_
    refine g_iload (pc := 154) o dX8_goThrough_154 rfl ?_
    refine g_iload (pc := 156) o dX8_goThrough_156 rfl ?_
    refine g_iload (pc := 158) o dX8_goThrough_158 rfl ?_
    refine g_iconst (pc := 160) o dX8_goThrough_160 (-1) rfl ?_
    refine g_ixor (pc := 161) o dX8_goThrough_161 ?_
    refine g_iand (pc := 162) o dX8_goThrough_162 ?_
    refine n_iast (pc := 163) o n (rfl) rfl ((by omega)) (by decide) dX8_goThrough_163 ?_
    refine st164 _ _ ?_ (fun x hx w => ?_) ?_ (fun c hc1 hc2 => ?_)
    · rw [mw_same]; unfold upd; rw [if_pos rfl]; rfl
    · rw [mw_same]; unfold upd; rw [if_neg w, mw_ne _ _ _ (by decide)]; exact e1 x hx
    · rw [mw_ne _ _ _ (by decide), mw_same]; rfl
    · rw [mw_ne _ _ _ hc2, mw_ne _ _ _ hc1]; exact e3 c hc1 hc2
set_option maxRecDepth 100000 in
set_option maxHeartbeats 400000 in
theorem c_goThrough {h : Mem} {s : Nat → Int32} (B : BR h 1 s) (T : okTm s) (t m : Nat) (ht : t < 12) (hm : m < 24) (ha : askT s t < 4) (op : Int32) (eo : h.1 48 m = op) (C : Nat → Int32) (F : Int32) (eC : ∀ x, x < 4 → h.1 49 x = C x) (eF : h.1 47 2 = F) : Ct yX8_goThrough cX8_goThrough 10 none 2 44 [.ref 47, .ref 1, .int (nI t), .int (nI m)] h (Qv (fun h2 => (∀ x, x < 4 → h2.1 49 x = clN s t m op C (askT s t + 1) x) ∧ h2.1 47 2 = fouN s t m op C F (askT s t + 1) ∧ ∀ c, c ≠ 47 → c ≠ 49 → h2.1 c = h.1 c)) := by
  refine Ct.of (by decide) (Nat.le_of_ble_eq_true rfl) (fun Γ o ρ => ?_)
  show ca_G Γ 10 _ _ [_, _, _, _, _, _, _, _, _, _] _
  have cl := c_stepFrom B F
  have st71 : ∀ (x4 x5 x6 : Int32) (v7 v8 v9 : Option Value), x5 = bdF s t m → x6 = plF s t m → ca_G Γ 10 h 71 [some (.ref 47), some (.ref 1), some (.int (nI t)), some (.int (nI m)), some (.int x4), some (.int x5), some (.int x6), v7, v8, v9] [] := by
    rintro x4 x5 x6 v7 v8 v9 rfl rfl
    refine g_aload_n (pc := 71) o dX8_goThrough_71 rfl ?_
    refine g_aload_n (pc := 72) o dX8_goThrough_72 rfl ?_
    refine g_getR (pc := 73) o 0 rfl rfl rfl inX0 (by decide) lf_X8_55 dX8_goThrough_73 ?_
    refine g_aload_n (pc := 76) o dX8_goThrough_76 rfl ?_
    refine g_getIE (pc := 77) o 2 rfl rfl rfl inX8 (by decide) lf_X8_44 (eF) dX8_goThrough_77 ?_
    refine g_callVi (pc := 80) o (cl) mt_X2_stepFrom mv_X2_stepFrom lk_X8_59 rfl rfl rfl (by decide) rfl (Nat.le_of_ble_eq_true rfl) dX8_goThrough_80 ?_
    refine g_aload_n (pc := 83) o dX8_goThrough_83 rfl ?_
    refine g_getR (pc := 84) o 0 rfl rfl rfl inX8 (by decide) lf_X8_9 dX8_goThrough_84 ?_
    refine g_iload_n (pc := 87) o dX8_goThrough_87 rfl ?_
    refine n_ialdE (pc := 88) o m (rfl) rfl ((by omega)) (by decide) (eo) dX8_goThrough_88 ?_
    refine g_iand (pc := 89) o dX8_goThrough_89 ?_
    refine g_put (pc := 90) o 2 rfl rfl rfl inX8 tyX8_ok nmX8 (by decide) lf_X8_44 rfl rfl rfl dX8_goThrough_90 ?_
    have ca := c_asked (B.of (h2 := mw h 47 2 (stepF s F 8 &&& op)) (fun c hc => mw_ne _ _ _ (fun z => by subst z; revert hc; decide))) T t ht
    refine g_aload_n (pc := 93) o dX8_goThrough_93 rfl ?_
    refine g_getR (pc := 94) o 2 rfl rfl rfl inX0 (by decide) lf_X8_24 dX8_goThrough_94 ?_
    refine g_iload_n (pc := 97) o dX8_goThrough_97 rfl ?_
    refine g_callVi (pc := 98) o (ca) mt_X7_asked mv_X7_asked lk_X8_40 rfl rfl rfl (by decide) rfl (Nat.le_of_ble_eq_true rfl) dX8_goThrough_98 ?_
    refine g_istore (pc := 101) o dX8_goThrough_101 (by decide) ?_
    show ca_G Γ 10 _ _ [_, _, _, _, _, _, _, _, _, _] _
    refine g_iconst (pc := 103) o dX8_goThrough_103 0 rfl ?_
    refine g_istore (pc := 104) o dX8_goThrough_104 (by decide) ?_
    show ca_G Γ 10 _ _ [_, _, _, _, _, _, _, _, _, _] _
    refine lp_go o ρ (h0 := h) B t m hm ha op eo C F x4 (fun h2 a b c => ⟨rfl, a, b, c⟩) 0 (by omega) _ _ _ rfl (fun x hx => ?_) ?_ (fun c hc1 hc2 => mw_ne _ _ _ hc1)
    · rw [mw_ne _ _ _ (by decide)]
      exact eC x hx
    · rw [mw_same]; rfl
  have st31 : ∀ (x4 : Int32) (v4 v5 v6 v7 v8 v9 : Option Value), x4 = bI (atF s t m) → ca_G Γ 10 h 31 [some (.ref 47), some (.ref 1), some (.int (nI t)), some (.int (nI m)), v4, v5, v6, v7, v8, v9] [.int x4] := by
    rintro x4 v4 v5 v6 v7 v8 v9 rfl
    refine g_istore (pc := 31) o dX8_goThrough_31 (by decide) ?_
    show ca_G Γ 10 _ _ [_, _, _, _, _, _, _, _, _, _] _
    refine g_iload (pc := 33) o dX8_goThrough_33 rfl ?_
    refine g_if_eq (pc := 35) o 46 dX8_goThrough_35 (by decide) (fun c35 => ?_) (fun c35 => ?_)
    · skip
      have z := bI_0.mp c35
      refine g_iconst (pc := 46) o dX8_goThrough_46 0 rfl ?_
      refine g_istore (pc := 47) o dX8_goThrough_47 (by decide) ?_
      show ca_G Γ 10 _ _ [_, _, _, _, _, _, _, _, _, _] _
      refine g_iload (pc := 49) o dX8_goThrough_49 rfl ?_
      refine g_if_eq (pc := 51) o 68 dX8_goThrough_51 (by decide) (fun c51 => ?_) (fun c51 => ?_)
      · skip
        refine g_iconst (pc := 68) o dX8_goThrough_68 0 rfl ?_
        refine g_istore (pc := 69) o dX8_goThrough_69 (by decide) ?_
        show ca_G Γ 10 _ _ [_, _, _, _, _, _, _, _, _, _] _
        exact st71 _ _ _ _ _ _ (if_neg z).symm (if_neg z).symm
      · skip
        exact absurd c35 c51
    · skip
      have z := bI_n0.mp c35
      refine g_aload_n (pc := 38) o dX8_goThrough_38 rfl ?_
      refine g_iload_n (pc := 39) o dX8_goThrough_39 rfl ?_
      refine g_callVi (pc := 40) o (c_badPlaces B T t ht) mt_X0_badPlaces mv_X0_badPlaces lk_X8_52 rfl rfl rfl (by decide) rfl (Nat.le_of_ble_eq_true rfl) dX8_goThrough_40 ?_
      refine g_goto (pc := 43) o 47 dX8_goThrough_43 (by decide) ?_
      refine g_istore (pc := 47) o dX8_goThrough_47 (by decide) ?_
      show ca_G Γ 10 _ _ [_, _, _, _, _, _, _, _, _, _] _
      refine g_iload (pc := 49) o dX8_goThrough_49 rfl ?_
      refine g_if_eq (pc := 51) o 68 dX8_goThrough_51 (by decide) (fun c51 => ?_) (fun c51 => ?_)
      · skip
        exact absurd c51 c35
      · skip
        refine g_iconst (pc := 54) o dX8_goThrough_54 1 rfl ?_
        refine g_aload_n (pc := 55) o dX8_goThrough_55 rfl ?_
        refine g_getR (pc := 56) o 2 rfl rfl rfl inX0 (by decide) lf_X8_24 dX8_goThrough_56 ?_
        refine g_iload_n (pc := 59) o dX8_goThrough_59 rfl ?_
        refine g_iconst (pc := 60) o dX8_goThrough_60 2 rfl ?_
        refine g_callVi (pc := 61) o (c_tf B t 2 ht (by decide)) mt_X7_field mv_X7_field lk_X8_30 rfl rfl rfl (by decide) rfl (Nat.le_of_ble_eq_true rfl) dX8_goThrough_61 ?_
        refine g_ishl (pc := 64) o dX8_goThrough_64 ?_
        refine g_goto (pc := 65) o 69 dX8_goThrough_65 (by decide) ?_
        refine g_istore (pc := 69) o dX8_goThrough_69 (by decide) ?_
        show ca_G Γ 10 _ _ [_, _, _, _, _, _, _, _, _, _] _
        exact st71 _ _ _ _ _ _ (if_pos z).symm (if_pos z).symm
  refine g_iload_n (pc := 0) o dX8_goThrough_0 rfl ?_
  refine g_aload_n (pc := 1) o dX8_goThrough_1 rfl ?_
  refine g_getR (pc := 2) o 2 rfl rfl rfl inX0 (by decide) lf_X8_24 dX8_goThrough_2 ?_
  refine g_iload_n (pc := 5) o dX8_goThrough_5 rfl ?_
  refine g_iconst (pc := 6) o dX8_goThrough_6 3 rfl ?_
  refine g_callVi (pc := 7) o (c_tf B t 3 ht (by decide)) mt_X7_field mv_X7_field lk_X8_30 rfl rfl rfl (by decide) rfl (Nat.le_of_ble_eq_true rfl) dX8_goThrough_7 ?_
  refine g_ic_lt (pc := 10) o 30 dX8_goThrough_10 (by decide) (fun c10 => ?_) (fun c10 => ?_)
  · skip
    have z := (ltN' (tmF s t 3) m (by omega)).mp c10
    refine g_iconst (pc := 30) o dX8_goThrough_30 0 rfl ?_
    exact st31 _ _ _ _ _ _ _ (bI_f (fun w => by have := w.1; omega))
  · skip
    have z := mt (ltN' (tmF s t 3) m (by omega)).mpr c10
    refine g_iload_n (pc := 13) o dX8_goThrough_13 rfl ?_
    refine g_aload_n (pc := 14) o dX8_goThrough_14 rfl ?_
    refine g_getR (pc := 15) o 2 rfl rfl rfl inX0 (by decide) lf_X8_24 dX8_goThrough_15 ?_
    refine g_iload_n (pc := 18) o dX8_goThrough_18 rfl ?_
    refine g_iconst (pc := 19) o dX8_goThrough_19 4 rfl ?_
    refine g_callVi (pc := 20) o (c_tf B t 4 ht (by decide)) mt_X7_field mv_X7_field lk_X8_30 rfl rfl rfl (by decide) rfl (Nat.le_of_ble_eq_true rfl) dX8_goThrough_20 ?_
    refine g_ic_gt (pc := 23) o 30 dX8_goThrough_23 (by decide) (fun c23 => ?_) (fun c23 => ?_)
    · skip
      have y := (gtN' (tmF s t 4) m (by omega)).mp c23
      refine g_iconst (pc := 30) o dX8_goThrough_30 0 rfl ?_
      exact st31 _ _ _ _ _ _ _ (bI_f (fun w => by have := w.2; omega))
    · skip
      have y := mt (gtN' (tmF s t 4) m (by omega)).mpr c23
      refine g_iconst (pc := 26) o dX8_goThrough_26 1 rfl ?_
      refine g_goto (pc := 27) o 31 dX8_goThrough_27 (by decide) ?_
      exact st31 _ _ _ _ _ _ _ (bI_t ⟨by omega, by omega⟩)

