/-! ===== days as walks: states are a code of what is owed, and a place ===== -/
def mnF (f : Nat → Nat) : Nat → Nat
  | 0 => 1000
  | n + 1 => if f n < mnF f n then f n else mnF f n
theorem mnF_s (f : Nat → Nat) (n : Nat) : mnF f (n + 1) = if f n < mnF f n then f n else mnF f n := rfl
theorem mnF_1000 (f : Nat → Nat) : ∀ n, mnF f n ≤ 1000
  | 0 => Nat.le_refl _
  | n + 1 => by
    have := mnF_1000 f n
    rw [mnF_s]
    split <;> omega
theorem mnF_le (f : Nat → Nat) {r : Nat} : ∀ n, r < n → mnF f n ≤ f r
  | 0, h => by omega
  | n + 1, h => by
    rw [mnF_s]
    by_cases w : r = n
    · subst w
      split <;> omega
    · have := mnF_le f n (by omega : r < n)
      split <;> omega
theorem mnF_ex (f : Nat → Nat) : ∀ n, mnF f n < 1000 → ∃ r, r < n ∧ f r = mnF f n
  | 0, h => absurd h (Nat.lt_irrefl 1000)
  | n + 1, h => by
    rw [mnF_s] at h ⊢
    split at h
    · rename_i z
      exact ⟨n, by omega, by rw [if_pos z]⟩
    · rename_i z
      obtain ⟨r, hr, e⟩ := mnF_ex f n h
      exact ⟨r, by omega, by rw [if_neg z]; exact e⟩
theorem mnF_c {f g : Nat → Nat} : ∀ n, (∀ r, r < n → f r = g r) → mnF f n = mnF g n
  | 0, _ => rfl
  | n + 1, h => by rw [mnF_s, mnF_s, h n (by omega), mnF_c n (fun r hr => h r (by omega))]
def smF (f : Nat → Nat) : Nat → Nat
  | 0 => 0
  | n + 1 => smF f n + f n
theorem smF_s (f : Nat → Nat) (n : Nat) : smF f (n + 1) = smF f n + f n := rfl
theorem smF_c {f g : Nat → Nat} : ∀ n, (∀ r, r < n → f r = g r) → smF f n = smF g n
  | 0, _ => rfl
  | n + 1, h => by rw [smF_s, smF_s, h n (by omega), smF_c n (fun r hr => h r (by omega))]
theorem smF_0 : ∀ n, smF (fun _ => 0) n = 0
  | 0 => rfl
  | n + 1 => by rw [smF_s, smF_0 n]
theorem smF_add (f g : Nat → Nat) : ∀ n, smF (fun r => f r + g r) n = smF f n + smF g n
  | 0 => rfl
  | n + 1 => by rw [smF_s, smF_s, smF_s, smF_add f g n]; omega
theorem smF_mul (a : Nat) (f : Nat → Nat) : ∀ n, smF (fun r => a * f r) n = a * smF f n
  | 0 => (Nat.mul_zero a).symm
  | n + 1 => by rw [smF_s, smF_s, smF_mul a f n, Nat.mul_add]
theorem smF_mulr (a : Nat) (f : Nat → Nat) (n : Nat) : smF (fun r => f r * a) n = smF f n * a := by
  rw [Nat.mul_comm, ← smF_mul]
  exact smF_c n (fun r _ => Nat.mul_comm _ _)
theorem smF_swap (f : Nat → Nat → Nat) (m : Nat) : ∀ n, smF (fun i => smF (fun j => f i j) m) n = smF (fun j => smF (fun i => f i j) n) m
  | 0 => (smF_0 m).symm
  | n + 1 => by
    rw [smF_s, smF_swap f m n, ← smF_add]
    rfl
theorem smF_one (g : Nat → Nat) (a : Nat) : ∀ n, smF (fun c => if a = c then g c else 0) n = if a < n then g a else 0
  | 0 => rfl
  | n + 1 => by
    rw [smF_s, smF_one g a n]
    by_cases w : a = n
    · subst w
      rw [if_neg (by omega), if_pos rfl, if_pos (by omega)]
      omega
    · rw [if_neg w]
      by_cases z : a < n
      · rw [if_pos z, if_pos (by omega)]; rfl
      · rw [if_neg z, if_neg (by omega)]
abbrev ad (s : Nat → Int32) (q r : Nat) : Prop := r = q ∨ bt (s q) r = true
abbrev Au : Type := (Nat → Int32) × (Nat → Int32) × (Nat → Nat → Nat → Nat) × Nat
abbrev Au.s (A : Au) : Nat → Int32 := A.1
abbrev Au.lw (A : Au) : Nat → Int32 := A.2.1
abbrev Au.nx (A : Au) : Nat → Nat → Nat → Nat := A.2.2.1
abbrev Au.c0 (A : Au) : Nat := A.2.2.2
abbrev okA (A : Au) (m q r : Nat) : Prop := bt (A.lw m) r = true ∧ ad A.s q r
def cgF (A : Au) : Nat → Nat → Nat → Nat
  | 0, c, _ => if c = 0 then 0 else 1000
  | k + 1, c, q => mnF (fun r => if okA A (23 - k) q r then cgF A k (A.nx c (23 - k) r) r + (if r = q then 0 else 1) else 1000) 8
def bwF (A : Au) : Nat → Nat → Nat → Nat
  | 0, c, _ => if c = 0 then 1 else 0
  | k + 1, c, q => smF (fun r => if okA A (23 - k) q r then bwF A k (A.nx c (23 - k) r) r else 0) 8
def RCH (A : Au) : Nat → Nat → Nat → Prop
  | 0, c, q => bt (A.lw 0) q = true ∧ A.nx A.c0 0 q = c
  | m + 1, c, q => ∃ c1 r, r < 8 ∧ RCH A m c1 r ∧ okA A (m + 1) r q ∧ A.nx c1 (m + 1) q = c
def fwF (A : Au) (N : Nat) : Nat → Nat → Nat → Nat
  | 0, c, q => if bt (A.lw 0) q = true ∧ A.nx A.c0 0 q = c then 1 else 0
  | m + 1, c, q => smF (fun c1 => smF (fun r => if okA A (m + 1) r q ∧ A.nx c1 (m + 1) q = c then fwF A N m c1 r else 0) 8) N
theorem cgF_s (A : Au) (k c q : Nat) : cgF A (k + 1) c q = mnF (fun r => if okA A (23 - k) q r then cgF A k (A.nx c (23 - k) r) r + (if r = q then 0 else 1) else 1000) 8 := rfl
theorem bwF_s (A : Au) (k c q : Nat) : bwF A (k + 1) c q = smF (fun r => if okA A (23 - k) q r then bwF A k (A.nx c (23 - k) r) r else 0) 8 := rfl
theorem fwF_s (A : Au) (N m c q : Nat) : fwF A N (m + 1) c q = smF (fun c1 => smF (fun r => if okA A (m + 1) r q ∧ A.nx c1 (m + 1) q = c then fwF A N m c1 r else 0) 8) N := rfl
theorem cg_1000 (A : Au) (k c q : Nat) : cgF A k c q ≤ 1000 := by
  cases k with
  | zero =>
    show (if c = 0 then 0 else 1000) ≤ 1000
    split <;> omega
  | succ k => exact mnF_1000 _ _
theorem cg_le (A : Au) : ∀ k c q, cgF A k c q < 1000 → cgF A k c q ≤ k := by
  intro k
  induction k with
  | zero =>
    intro c q h
    have h : (if c = 0 then 0 else 1000) < 1000 := h
    show (if c = 0 then 0 else 1000) ≤ 0
    by_cases z : c = 0
    · rw [if_pos z]; omega
    · rw [if_neg z] at h; exact absurd h (Nat.lt_irrefl 1000)
  | succ k ih =>
    intro c q h
    rw [cgF_s] at h ⊢
    obtain ⟨r, hr, e⟩ := mnF_ex _ _ h
    rw [← e] at h ⊢
    by_cases z : okA A (23 - k) q r
    · rw [if_pos z] at h ⊢
      have l : cgF A k (A.nx c (23 - k) r) r ≤ k := ih _ r (Nat.lt_of_le_of_lt (Nat.le_add_right _ _) h)
      generalize cgF A k (A.nx c (23 - k) r) r = g at *
      split <;> omega
    · rw [if_neg z] at h; exact absurd h (Nat.lt_irrefl 1000)
/-- a walk that can be gone to its end, in some hour, is one in each -/
theorem cut (A : Au) (m : Nat) (hm : m < 23) : (∃ c q, q < 8 ∧ RCH A m c q ∧ cgF A (23 - m) c q < 1000) ↔ (∃ c q, q < 8 ∧ RCH A (m + 1) c q ∧ cgF A (23 - (m + 1)) c q < 1000) := by
  have e1 : 23 - m = (23 - (m + 1)) + 1 := by omega
  have e2 : 23 - (23 - (m + 1)) = m + 1 := by omega
  constructor
  · rintro ⟨c, q, hq, a, b⟩
    rw [e1, cgF_s, e2] at b
    obtain ⟨r, hr, e⟩ := mnF_ex _ _ b
    rw [← e] at b
    split at b
    · rename_i z
      exact ⟨A.nx c (m + 1) r, r, hr, ⟨c, q, hq, a, z, rfl⟩, by omega⟩
    · omega
  · rintro ⟨c, q, hq, ⟨c1, r, hr, a, z, e⟩, b⟩
    refine ⟨c1, r, hr, a, ?_⟩
    have b2 := cg_le A _ _ _ b
    rw [e1, cgF_s, e2]
    refine Nat.lt_of_le_of_lt (mnF_le _ 8 hq) ?_
    rw [if_pos z, e]
    split <;> omega
theorem cut_all (A : Au) : ∀ m, m ≤ 23 → ((∃ c q, q < 8 ∧ RCH A 0 c q ∧ cgF A 23 c q < 1000) ↔ (∃ c q, q < 8 ∧ RCH A m c q ∧ cgF A (23 - m) c q < 1000))
  | 0, _ => Iff.rfl
  | m + 1, h => (cut_all A m (by omega)).trans (cut A m (by omega))
theorem way_iff (A : Au) : (∃ p, p < 8 ∧ bt (A.lw 0) p = true ∧ cgF A 23 (A.nx A.c0 0 p) p < 1000) ↔ ∃ q, q < 8 ∧ RCH A 23 0 q := by
  have := cut_all A 23 (by omega)
  constructor
  · rintro ⟨p, hp, a, b⟩
    obtain ⟨c, q, hq, r, k⟩ := this.mp ⟨_, p, hp, ⟨a, rfl⟩, b⟩
    have k : (if c = 0 then 0 else 1000) < 1000 := k
    split at k
    · rename_i z; subst z; exact ⟨q, hq, r⟩
    · omega
  · rintro ⟨q, hq, r⟩
    obtain ⟨c, p, hp, ⟨a, e⟩, b⟩ := this.mpr ⟨0, q, hq, r, by show (if 0 = 0 then 0 else 1000) < 1000; decide⟩
    exact ⟨p, hp, a, by rw [e]; exact b⟩
/-! two days whose codes walk together -/
abbrev Sim (A B : Au) (R : Nat → Nat → Prop) : Prop := A.s = B.s ∧ (∀ m, m < 24 → A.lw m = B.lw m) ∧ R A.c0 B.c0 ∧ (∀ c c' m q, m < 24 → q < 8 → R c c' → R (A.nx c m q) (B.nx c' m q)) ∧ ∀ c c', R c c' → (c = 0 ↔ c' = 0)
theorem Sim.es {A B : Au} {R : Nat → Nat → Prop} (S : Sim A B R) : A.s = B.s := S.1
theorem Sim.el {A B : Au} {R : Nat → Nat → Prop} (S : Sim A B R) : ∀ m, m < 24 → A.lw m = B.lw m := S.2.1
theorem Sim.r0 {A B : Au} {R : Nat → Nat → Prop} (S : Sim A B R) : R A.c0 B.c0 := S.2.2.1
theorem Sim.rn {A B : Au} {R : Nat → Nat → Prop} (S : Sim A B R) : ∀ c c' m q, m < 24 → q < 8 → R c c' → R (A.nx c m q) (B.nx c' m q) := S.2.2.2.1
theorem Sim.rz {A B : Au} {R : Nat → Nat → Prop} (S : Sim A B R) : ∀ c c', R c c' → (c = 0 ↔ c' = 0) := S.2.2.2.2
theorem Sim.sy {A B : Au} {R : Nat → Nat → Prop} (S : Sim A B R) : Sim B A (fun c c' => R c' c) := ⟨S.es.symm, fun m h => (S.el m h).symm, S.r0, fun c c' m q h1 h2 h => S.rn c' c m q h1 h2 h, fun c c' h => (S.rz c' c h).symm⟩
theorem Sim.cg {A B : Au} {R : Nat → Nat → Prop} (S : Sim A B R) : ∀ k, k ≤ 23 → ∀ c c' q, R c c' → cgF A k c q = cgF B k c' q
  | 0, _, c, c', q, h => by
    show (if c = 0 then 0 else 1000) = if c' = 0 then 0 else 1000
    by_cases z : c = 0
    · rw [if_pos z, if_pos ((S.rz c c' h).mp z)]
    · rw [if_neg z, if_neg (fun w => z ((S.rz c c' h).mpr w))]
  | k + 1, hk, c, c', q, h => by
    rw [cgF_s, cgF_s]
    refine mnF_c 8 (fun r hr => ?_)
    rw [S.cg k (by omega) _ _ r (S.rn c c' (23 - k) r (by omega) hr h)]
    unfold okA
    rw [S.el (23 - k) (by omega), S.es]
theorem Sim.bw {A B : Au} {R : Nat → Nat → Prop} (S : Sim A B R) : ∀ k, k ≤ 23 → ∀ c c' q, R c c' → bwF A k c q = bwF B k c' q
  | 0, _, c, c', q, h => by
    show (if c = 0 then 1 else 0) = if c' = 0 then 1 else 0
    by_cases z : c = 0
    · rw [if_pos z, if_pos ((S.rz c c' h).mp z)]
    · rw [if_neg z, if_neg (fun w => z ((S.rz c c' h).mpr w))]
  | k + 1, hk, c, c', q, h => by
    rw [bwF_s, bwF_s]
    refine smF_c 8 (fun r hr => ?_)
    rw [S.bw k (by omega) _ _ r (S.rn c c' (23 - k) r (by omega) hr h)]
    unfold okA
    rw [S.el (23 - k) (by omega), S.es]
theorem Sim.rc {A B : Au} {R : Nat → Nat → Prop} (S : Sim A B R) : ∀ m, m < 24 → ∀ c q, q < 8 → RCH A m c q → ∃ c', R c c' ∧ RCH B m c' q
  | 0, _, c, q, hq, ⟨a, e⟩ => by
    refine ⟨B.nx B.c0 0 q, ?_, ?_, rfl⟩
    · rw [← e]; exact S.rn _ _ 0 q (by omega) hq S.r0
    · rw [← S.el 0 (by omega)]; exact a
  | m + 1, hm, c, q, hq, ⟨c1, r, hr, a, z, e⟩ => by
    obtain ⟨c', h1, h2⟩ := S.rc m (by omega) c1 r hr a
    refine ⟨B.nx c' (m + 1) q, ?_, c', r, hr, h2, ?_, rfl⟩
    · rw [← e]; exact S.rn _ _ (m + 1) q hm hq h1
    · unfold okA at z ⊢
      rw [← S.el (m + 1) hm, ← S.es]; exact z
/-! counts -/
theorem dual (A : Au) (N m : Nat) (hm : m < 23) (hN : ∀ c q, c < N → q < 8 → A.nx c (m + 1) q < N) : smF (fun c => smF (fun q => fwF A N m c q * bwF A (23 - m) c q) 8) N = smF (fun c => smF (fun q => fwF A N (m + 1) c q * bwF A (23 - (m + 1)) c q) 8) N := by
  have e1 : 23 - m = (23 - (m + 1)) + 1 := by omega
  have e2 : 23 - (23 - (m + 1)) = m + 1 := by omega
  generalize 23 - (m + 1) = k at e1 e2
  rw [e1]
  have right : smF (fun c => smF (fun q => fwF A N (m + 1) c q * bwF A k c q) 8) N = smF (fun c1 => smF (fun r => smF (fun q => smF (fun c => (if okA A (m + 1) r q ∧ A.nx c1 (m + 1) q = c then fwF A N m c1 r else 0) * bwF A k c q) N) 8) 8) N := by
    have a1 : smF (fun c => smF (fun q => fwF A N (m + 1) c q * bwF A k c q) 8) N = smF (fun c => smF (fun q => smF (fun c1 => smF (fun r => (if okA A (m + 1) r q ∧ A.nx c1 (m + 1) q = c then fwF A N m c1 r else 0) * bwF A k c q) 8) N) 8) N := by
      refine smF_c N (fun c _ => smF_c 8 (fun q _ => ?_))
      rw [fwF_s, ← smF_mulr]
      exact smF_c N (fun c1 _ => (smF_mulr _ _ _).symm)
    rw [a1]
    have a2 : ∀ c, smF (fun q => smF (fun c1 => smF (fun r => (if okA A (m + 1) r q ∧ A.nx c1 (m + 1) q = c then fwF A N m c1 r else 0) * bwF A k c q) 8) N) 8 = smF (fun c1 => smF (fun r => smF (fun q => (if okA A (m + 1) r q ∧ A.nx c1 (m + 1) q = c then fwF A N m c1 r else 0) * bwF A k c q) 8) 8) N := by
      intro c
      rw [smF_swap (fun q c1 => smF (fun r => (if okA A (m + 1) r q ∧ A.nx c1 (m + 1) q = c then fwF A N m c1 r else 0) * bwF A k c q) 8) N 8]
      exact smF_c N (fun c1 _ => smF_swap (fun q r => (if okA A (m + 1) r q ∧ A.nx c1 (m + 1) q = c then fwF A N m c1 r else 0) * bwF A k c q) 8 8)
    rw [smF_c N (fun c _ => a2 c), smF_swap (fun c c1 => smF (fun r => smF (fun q => (if okA A (m + 1) r q ∧ A.nx c1 (m + 1) q = c then fwF A N m c1 r else 0) * bwF A k c q) 8) 8) N N]
    refine smF_c N (fun c1 _ => ?_)
    rw [smF_swap (fun c r => smF (fun q => (if okA A (m + 1) r q ∧ A.nx c1 (m + 1) q = c then fwF A N m c1 r else 0) * bwF A k c q) 8) 8 N]
    exact smF_c 8 (fun r _ => smF_swap (fun c q => (if okA A (m + 1) r q ∧ A.nx c1 (m + 1) q = c then fwF A N m c1 r else 0) * bwF A k c q) 8 N)
  rw [right]
  refine smF_c N (fun c1 h1 => smF_c 8 (fun r _ => ?_))
  rw [bwF_s, e2, ← smF_mul]
  refine smF_c 8 (fun q hq => ?_)
  by_cases z : okA A (m + 1) r q
  · rw [if_pos z]
    have : ∀ c, (if okA A (m + 1) r q ∧ A.nx c1 (m + 1) q = c then fwF A N m c1 r else 0) * bwF A k c q = if A.nx c1 (m + 1) q = c then fwF A N m c1 r * bwF A k c q else 0 := by
      intro c
      by_cases w : A.nx c1 (m + 1) q = c
      · rw [if_pos ⟨z, w⟩, if_pos w]
      · rw [if_neg (fun y => w y.2), if_neg w, Nat.zero_mul]
    rw [smF_c N (fun c _ => this c), smF_one (fun c => fwF A N m c1 r * bwF A k c q), if_pos (hN c1 q h1 hq)]
  · rw [if_neg z, Nat.mul_zero]
    have : ∀ c, (if okA A (m + 1) r q ∧ A.nx c1 (m + 1) q = c then fwF A N m c1 r else 0) * bwF A k c q = 0 := by
      intro c
      rw [if_neg (fun y => z y.1), Nat.zero_mul]
    rw [smF_c N (fun c _ => this c), smF_0]
theorem dual_all (A : Au) (N : Nat) (hN : ∀ c m q, c < N → m < 24 → q < 8 → A.nx c m q < N) : ∀ m, m ≤ 23 → smF (fun c => smF (fun q => fwF A N 0 c q * bwF A 23 c q) 8) N = smF (fun c => smF (fun q => fwF A N m c q * bwF A (23 - m) c q) 8) N
  | 0, _ => rfl
  | m + 1, h => (dual_all A N hN m (by omega)).trans (dual A N m (by omega) (fun c q h1 h2 => hN c (m + 1) q h1 (by omega) h2))
theorem count_eq (A : Au) (N : Nat) (h0 : A.c0 < N) (hN : ∀ c m q, c < N → m < 24 → q < 8 → A.nx c m q < N) : smF (fun q => fwF A N 23 0 q) 8 = smF (fun p => if bt (A.lw 0) p = true then bwF A 23 (A.nx A.c0 0 p) p else 0) 8 := by
  have d := dual_all A N hN 23 (by omega)
  have l : smF (fun c => smF (fun q => fwF A N 0 c q * bwF A 23 c q) 8) N = smF (fun p => if bt (A.lw 0) p = true then bwF A 23 (A.nx A.c0 0 p) p else 0) 8 := by
    rw [smF_swap (fun c q => fwF A N 0 c q * bwF A 23 c q) 8 N]
    refine smF_c 8 (fun q hq => ?_)
    have : ∀ c, fwF A N 0 c q * bwF A 23 c q = if A.nx A.c0 0 q = c then (if bt (A.lw 0) q = true then bwF A 23 c q else 0) else 0 := by
      intro c
      show (if bt (A.lw 0) q = true ∧ A.nx A.c0 0 q = c then 1 else 0) * bwF A 23 c q = _
      by_cases w : A.nx A.c0 0 q = c
      · by_cases z : bt (A.lw 0) q = true
        · rw [if_pos ⟨z, w⟩, if_pos w, if_pos z, Nat.one_mul]
        · rw [if_neg (fun y => z y.1), if_pos w, if_neg z, Nat.zero_mul]
      · rw [if_neg (fun y => w y.2), if_neg w, Nat.zero_mul]
    rw [smF_c N (fun c _ => this c), smF_one (fun c => if bt (A.lw 0) q = true then bwF A 23 c q else 0), if_pos (hN _ 0 q h0 (by omega) hq)]
  have r : smF (fun c => smF (fun q => fwF A N 23 c q * bwF A (23 - 23) c q) 8) N = smF (fun q => fwF A N 23 0 q) 8 := by
    rw [smF_swap (fun c q => fwF A N 23 c q * bwF A (23 - 23) c q) 8 N]
    refine smF_c 8 (fun q hq => ?_)
    have : ∀ c, fwF A N 23 c q * bwF A (23 - 23) c q = if 0 = c then fwF A N 23 c q else 0 := by
      intro c
      show fwF A N 23 c q * (if c = 0 then 1 else 0) = _
      by_cases w : c = 0
      · rw [if_pos w, if_pos w.symm, Nat.mul_one]
      · rw [if_neg w, if_neg (fun y => w y.symm), Nat.mul_zero]
    rw [smF_c N (fun c _ => this c), smF_one (fun c => fwF A N 23 c q), if_pos (by omega)]
  rw [← r, ← d, l]

