/-! ===== numbers by mixed digits ===== -/
def mlF (rx : Nat → Nat) : Nat → Nat
  | 0 => 1
  | n + 1 => mlF rx n * rx n
def vlF (rx e : Nat → Nat) : Nat → Nat
  | 0 => 0
  | n + 1 => vlF rx e n + e n * mlF rx n
abbrev dgF (rx : Nat → Nat) (c t : Nat) : Nat := c / mlF rx t % rx t
theorem mlF_s (rx : Nat → Nat) (n : Nat) : mlF rx (n + 1) = mlF rx n * rx n := rfl
theorem vlF_s (rx e : Nat → Nat) (n : Nat) : vlF rx e (n + 1) = vlF rx e n + e n * mlF rx n := rfl
theorem mlF_p {rx : Nat → Nat} (h : ∀ t, 0 < rx t) : ∀ n, 0 < mlF rx n
  | 0 => Nat.one_pos
  | n + 1 => Nat.mul_pos (mlF_p h n) (h n)
theorem mlF_d (rx : Nat → Nat) (t : Nat) : ∀ n, t ≤ n → mlF rx t ∣ mlF rx n
  | 0, h => by rw [show t = 0 by omega]; exact Nat.dvd_refl _
  | n + 1, h => by
    by_cases w : t = n + 1
    · rw [w]; exact Nat.dvd_refl _
    · exact Nat.dvd_trans (mlF_d rx t n (by omega)) (Nat.dvd_mul_right _ _)
theorem vlF_c {rx e f : Nat → Nat} : ∀ n, (∀ t, t < n → e t = f t) → vlF rx e n = vlF rx f n
  | 0, _ => rfl
  | n + 1, h => by rw [vlF_s, vlF_s, h n (by omega), vlF_c n (fun t ht => h t (by omega))]
theorem vlF_lt {rx e : Nat → Nat} : ∀ n, (∀ t, t < n → e t < rx t) → vlF rx e n < mlF rx n
  | 0, _ => Nat.one_pos
  | n + 1, h => by
    have a := vlF_lt n (fun t ht => h t (by omega))
    rw [vlF_s, mlF_s]
    have b : e n + 1 ≤ rx n := h n (by omega)
    calc vlF rx e n + e n * mlF rx n < mlF rx n + e n * mlF rx n := by omega
      _ = (e n + 1) * mlF rx n := by rw [Nat.add_mul, Nat.one_mul, Nat.add_comm]
      _ ≤ rx n * mlF rx n := Nat.mul_le_mul_right _ b
      _ = mlF rx n * rx n := Nat.mul_comm _ _
theorem vlF_dg {rx e : Nat → Nat} (hp : ∀ t, 0 < rx t) {t : Nat} : ∀ n, (∀ t, t < n → e t < rx t) → t < n → dgF rx (vlF rx e n) t = e t
  | 0, _, h => by omega
  | n + 1, h, ht => by
    have l := vlF_lt n (fun t ht => h t (by omega))
    have p := mlF_p hp
    rw [vlF_s]
    by_cases w : t = n
    · subst w
      show (vlF rx e t + e t * mlF rx t) / mlF rx t % rx t = e t
      rw [Nat.add_mul_div_right _ _ (p t), Nat.div_eq_of_lt l, Nat.zero_add, Nat.mod_eq_of_lt (h t (by omega))]
    · have ih := vlF_dg hp n (fun t ht => h t (by omega)) (by omega : t < n)
      obtain ⟨x, hx⟩ := mlF_d rx (t + 1) n (by omega)
      show (vlF rx e n + e n * mlF rx n) / mlF rx t % rx t = e t
      have : e n * mlF rx n = (rx t * (x * e n)) * mlF rx t := by
        rw [hx, mlF_s]
        simp only [Nat.mul_assoc, Nat.mul_comm, Nat.mul_left_comm]
      rw [this, Nat.add_mul_div_right _ _ (p t), Nat.add_mul_mod_self_left]
      exact ih
theorem vlF_of {rx : Nat → Nat} (hp : ∀ t, 0 < rx t) : ∀ n c, c < mlF rx n → vlF rx (dgF rx c) n = c
  | 0, c, h => by
    have h : c < 1 := h
    show 0 = c
    omega
  | n + 1, c, h => by
    have p := mlF_p hp
    rw [mlF_s] at h
    have q : c / mlF rx n < rx n := Nat.div_lt_of_lt_mul h
    have ih := vlF_of hp n (c % mlF rx n) (Nat.mod_lt _ (p n))
    rw [vlF_s]
    have e1 : vlF rx (dgF rx c) n = vlF rx (dgF rx (c % mlF rx n)) n := by
      refine vlF_c n (fun t ht => ?_)
      obtain ⟨x, hx⟩ := mlF_d rx (t + 1) n (by omega)
      show c / mlF rx t % rx t = c % mlF rx n / mlF rx t % rx t
      have e2 : c = c % mlF rx n + (rx t * (x * (c / mlF rx n))) * mlF rx t := by
        have := Nat.mod_add_div c (mlF rx n)
        have z : rx t * (x * (c / mlF rx n)) * mlF rx t = mlF rx n * (c / mlF rx n) := by
          rw [hx, mlF_s]
          simp only [Nat.mul_assoc, Nat.mul_comm, Nat.mul_left_comm]
        rw [z]
        exact this.symm
      have e3 : c / mlF rx t = c % mlF rx n / mlF rx t + rx t * (x * (c / mlF rx n)) := by
        conv => lhs; rw [e2]
        exact Nat.add_mul_div_right _ _ (p t)
      rw [e3, Nat.add_mul_mod_self_left]
    rw [e1, ih]
    show c % mlF rx n + c / mlF rx n % rx n * mlF rx n = c
    rw [Nat.mod_eq_of_lt q]
    have := Nat.mod_add_div c (mlF rx n)
    rw [Nat.mul_comm] at this
    exact this
theorem vlF_0 (rx : Nat → Nat) : ∀ n, vlF rx (fun _ => 0) n = 0
  | 0 => rfl
  | n + 1 => by rw [vlF_s, vlF_0 rx n, Nat.zero_mul]
theorem dg_0 (rx : Nat → Nat) (t : Nat) : dgF rx 0 t = 0 := by
  show 0 / mlF rx t % rx t = 0
  rw [Nat.zero_div, Nat.zero_mod]
theorem dg_z {rx : Nat → Nat} (hp : ∀ t, 0 < rx t) {n c : Nat} (h : c < mlF rx n) : c = 0 ↔ ∀ t, t < n → dgF rx c t = 0 := by
  constructor
  · intro z t _
    rw [z]; exact dg_0 rx t
  · intro z
    rw [← vlF_of hp n c h, vlF_c n z, vlF_0]
theorem vlF_sub {rx e f : Nat → Nat} : ∀ n, (∀ t, t < n → f t ≤ e t) → vlF rx (fun t => e t - f t) n = vlF rx e n - vlF rx f n ∧ vlF rx f n ≤ vlF rx e n
  | 0, _ => ⟨rfl, Nat.le_refl _⟩
  | n + 1, h => by
    obtain ⟨a, b⟩ := vlF_sub (rx := rx) (e := e) (f := f) n (fun t ht => h t (by omega))
    have c := Nat.mul_le_mul_right (mlF rx n) (h n (by omega))
    rw [vlF_s, vlF_s, vlF_s, a, Nat.sub_mul]
    omega
/-! ===== a day's walks under the terms X, by codes of a given kind ===== -/
def lwF (s : Nat → Int32) (p : Int32) (d : Nat) (X : Int32) (m : Nat) : Nat → Int32
  | 0 => opF s p d m
  | n + 1 => if bt X n = true ∧ atF s n m then lwF s p d X m n &&& (badF s n ^^^ -1) else lwF s p d X m n
theorem lwF_s (s : Nat → Int32) (p : Int32) (d : Nat) (X : Int32) (m n : Nat) : lwF s p d X m (n + 1) = if bt X n = true ∧ atF s n m then lwF s p d X m n &&& (badF s n ^^^ -1) else lwF s p d X m n := rfl
abbrev hitF (s : Nat → Int32) (X : Int32) (t m q : Nat) : Prop := bt X t = true ∧ atF s t m ∧ tmF s t 2 = nI q
def dlF (s : Nat → Int32) (X : Int32) (t m q : Nat) : Nat := if hitF s X t m q then 1 else 0
def rxM (s : Nat → Int32) (X : Int32) (t : Nat) : Nat := if bt X t = true then askT s t + 1 else 1
def rxC (s : Nat → Int32) (X : Int32) (t : Nat) : Nat := if bt X t = true ∧ 0 < askT s t then 4 else 1
def akF (s : Nat → Int32) (X : Int32) (t : Nat) : Nat := if bt X t = true then askT s t else 0
def auF (s : Nat → Int32) (p : Int32) (d : Nat) (X : Int32) (rx : Nat → Nat) : Au := ⟨s, fun m => lwF s p d X m 12, fun c m q => vlF rx (fun t => dgF rx c t - dlF s X t m q) 12, vlF rx (akF s X) 12⟩
theorem rxM_p (s : Nat → Int32) (X : Int32) (t : Nat) : 0 < rxM s X t := by unfold rxM; split <;> omega
theorem rxC_p (s : Nat → Int32) (X : Int32) (t : Nat) : 0 < rxC s X t := by unfold rxC; split <;> omega
theorem ak_M (s : Nat → Int32) (X : Int32) (t : Nat) : akF s X t < rxM s X t := by unfold akF rxM; split <;> omega
theorem ak_C {s : Nat → Int32} {X : Int32} {t : Nat} (h : askT s t < 4) : akF s X t < rxC s X t := by
  unfold akF rxC
  by_cases z : bt X t = true
  · by_cases w : 0 < askT s t
    · rw [if_pos z, if_pos ⟨z, w⟩]; exact h
    · rw [if_pos z, if_neg (fun y => w y.2)]; omega
  · rw [if_neg z, if_neg (fun y => z y.1)]; omega
abbrev dgs (rx : Nat → Nat) (s : Nat → Int32) (X : Int32) (c m q t : Nat) : Nat := dgF rx c t - dlF s X t m q
theorem dgs_lt {rx : Nat → Nat} (hp : ∀ t, 0 < rx t) (s : Nat → Int32) (X : Int32) (c m q t : Nat) : dgs rx s X c m q t < rx t := Nat.lt_of_le_of_lt (Nat.sub_le _ _) (Nat.mod_lt _ (hp t))
abbrev RR (s : Nat → Int32) (X : Int32) (c c' : Nat) : Prop := c < mlF (rxC s X) 12 ∧ c' < mlF (rxM s X) 12 ∧ ∀ t, t < 12 → dgF (rxC s X) c t = dgF (rxM s X) c' t ∧ dgF (rxC s X) c t ≤ akF s X t
theorem sim_CM {s : Nat → Int32} {p : Int32} {d : Nat} {X : Int32} (ha : ∀ t, t < 12 → askT s t < 4) : Sim (auF s p d X (rxC s X)) (auF s p d X (rxM s X)) (RR s X) := by
  refine ⟨rfl, fun _ _ => rfl, ?_, ?_, ?_⟩
  · refine ⟨vlF_lt 12 (fun t ht => ak_C (ha t ht)), vlF_lt 12 (fun t ht => ak_M s X t), fun t ht => ?_⟩
    have a : dgF (rxC s X) (auF s p d X (rxC s X)).c0 t = akF s X t := vlF_dg (rxC_p s X) 12 (fun t ht => ak_C (ha t ht)) ht
    have b : dgF (rxM s X) (auF s p d X (rxM s X)).c0 t = akF s X t := vlF_dg (rxM_p s X) 12 (fun t ht => ak_M s X t) ht
    exact ⟨a.trans b.symm, Nat.le_of_eq a⟩
  · rintro c c' m q hm hq ⟨h1, h2, h3⟩
    refine ⟨vlF_lt 12 (fun t ht => dgs_lt (rxC_p s X) s X c m q t), vlF_lt 12 (fun t ht => dgs_lt (rxM_p s X) s X c' m q t), fun t ht => ?_⟩
    have a : dgF (rxC s X) ((auF s p d X (rxC s X)).nx c m q) t = dgs (rxC s X) s X c m q t := vlF_dg (rxC_p s X) 12 (fun t ht => dgs_lt (rxC_p s X) s X c m q t) ht
    have b : dgF (rxM s X) ((auF s p d X (rxM s X)).nx c' m q) t = dgs (rxM s X) s X c' m q t := vlF_dg (rxM_p s X) 12 (fun t ht => dgs_lt (rxM_p s X) s X c' m q t) ht
    rw [a, b]
    obtain ⟨h4, h5⟩ := h3 t ht
    refine ⟨?_, Nat.le_trans (Nat.sub_le _ _) h5⟩
    show dgF (rxC s X) c t - dlF s X t m q = dgF (rxM s X) c' t - dlF s X t m q
    rw [h4]
  · rintro c c' ⟨h1, h2, h3⟩
    rw [dg_z (rxC_p s X) h1, dg_z (rxM_p s X) h2]
    constructor
    · intro z t ht; rw [← (h3 t ht).1]; exact z t ht
    · intro z t ht; rw [(h3 t ht).1]; exact z t ht
theorem pay_step {k F E f e : Nat} (hF : 2 * F < 4 ^ k) (hE : E < 4 ^ k) (hf : f ≤ 1) (he : e < 4) : (F + f * 4 ^ k) &&& ((E + e * 4 ^ k) ||| (E + e * 4 ^ k) >>> 1) = (F &&& (E ||| E >>> 1)) + (if f = 1 ∧ ¬ e = 0 then 1 else 0) * 4 ^ k := by
  have hM : (4 : Nat) ^ k = 2 ^ (2 * k) := by rw [Nat.pow_mul]
  generalize hY : (F + f * 4 ^ k) &&& ((E + e * 4 ^ k) ||| (E + e * 4 ^ k) >>> 1) = Y
  have p : 0 < 4 ^ k := Nat.pow_pos (by decide)
  have d1 : (F + f * 4 ^ k) / 4 ^ k = f := by rw [Nat.add_mul_div_right _ _ p, Nat.div_eq_of_lt (by omega), Nat.zero_add]
  have d2 : (E + e * 4 ^ k) / 4 ^ k = e := by rw [Nat.add_mul_div_right _ _ p, Nat.div_eq_of_lt hE, Nat.zero_add]
  have d3 : (E + e * 4 ^ k) >>> 1 / 4 ^ k = e / 2 := by rw [Nat.shiftRight_eq_div_pow, Nat.pow_one, Nat.div_div_eq_div_mul, Nat.mul_comm 2 (4 ^ k), ← Nat.div_div_eq_div_mul, d2]
  have hi : Y / 4 ^ k = if f = 1 ∧ ¬ e = 0 then 1 else 0 := by
    rw [← hY, hM, Nat.and_div_two_pow, Nat.or_div_two_pow, ← hM, d1, d2, d3]
    have : ∀ f, f ≤ 1 → ∀ e, e < 4 → f &&& (e ||| e / 2) = if f = 1 ∧ ¬ e = 0 then 1 else 0 := by decide
    exact this f hf e he
  have lo : Y % 4 ^ k = F &&& (E ||| E >>> 1) := by
    rw [← hY, hM, Nat.and_mod_two_pow, Nat.or_mod_two_pow, ← hM, Nat.add_mul_mod_self_right, Nat.add_mul_mod_self_right, Nat.mod_eq_of_lt hE, Nat.mod_eq_of_lt (by omega : F < 4 ^ k)]
    cases k with
    | zero =>
      have : F = 0 := by omega
      subst this
      rw [Nat.zero_and, Nat.zero_and]
    | succ j =>
      have h2 : (4 : Nat) ^ (j + 1) = 2 * 2 ^ (2 * j + 1) := by rw [hM, show 2 * (j + 1) = (2 * j + 1) + 1 by omega, Nat.pow_succ, Nat.mul_comm]
      have F2 : F < 2 ^ (2 * j + 1) := by omega
      have key : ∀ Z, F &&& Z = F &&& (Z % 2 ^ (2 * j + 1)) := by
        intro Z
        have l1 : F &&& Z < 2 ^ (2 * j + 1) := Nat.lt_of_le_of_lt Nat.and_le_left F2
        rw [← Nat.mod_eq_of_lt l1, Nat.and_mod_two_pow, Nat.mod_eq_of_lt F2]
      rw [key, key (E ||| E >>> 1), Nat.or_mod_two_pow, Nat.or_mod_two_pow (a := E)]
      congr 2
      rw [Nat.shiftRight_eq_div_pow, Nat.shiftRight_eq_div_pow, Nat.pow_one, h2, Nat.mod_mul_left_mod]
      have : (E + e * (2 * 2 ^ (2 * j + 1))) / 2 = E / 2 + e * 2 ^ (2 * j + 1) := by
        rw [show e * (2 * 2 ^ (2 * j + 1)) = 2 * (e * 2 ^ (2 * j + 1)) by simp only [Nat.mul_comm, Nat.mul_left_comm]]
        omega
      rw [this, Nat.add_mul_mod_self_right]
  rw [← lo, ← hi, Nat.mul_comm]
  exact (Nat.mod_add_div Y (4 ^ k)).symm
abbrev asks (s : Nat → Int32) (X : Int32) (t : Nat) : Prop := bt X t = true ∧ 0 < askT s t
def akN (s : Nat → Int32) (X : Int32) : Nat → Nat
  | 0 => 0
  | n + 1 => akN s X n + (if asks s X n then 1 else 0)
theorem akN_s (s : Nat → Int32) (X : Int32) (n : Nat) : akN s X (n + 1) = akN s X n + (if asks s X n then 1 else 0) := rfl
theorem ml_C (s : Nat → Int32) (X : Int32) : ∀ n, mlF (rxC s X) n = 4 ^ akN s X n
  | 0 => rfl
  | n + 1 => by
    rw [mlF_s, ml_C s X n, akN_s]
    unfold rxC
    by_cases z : asks s X n
    · rw [if_pos z, if_pos z, Nat.pow_succ]
    · rw [if_neg z, if_neg z, Nat.mul_one, Nat.add_zero]
theorem vl_half {s : Nat → Int32} {X : Int32} {f : Nat → Nat} (h1 : ∀ t, f t ≤ 1) (h2 : ∀ t, ¬ asks s X t → f t = 0) : ∀ n, 2 * vlF (rxC s X) f n < mlF (rxC s X) n
  | 0 => Nat.one_pos
  | n + 1 => by
    have ih := vl_half h1 h2 n
    have a := h1 n
    rw [vlF_s, mlF_s]
    unfold rxC at *
    by_cases z : asks s X n
    · rw [if_pos z]
      generalize mlF _ n = M at *
      generalize vlF _ f n = V at *
      rcases (by omega : f n = 0 ∨ f n = 1) with w | w <;> rw [w] <;> omega
    · rw [if_neg z, h2 n z]
      omega
theorem pay_vl {s : Nat → Int32} {X : Int32} {f e : Nat → Nat} (h1 : ∀ t, f t ≤ 1) (h2 : ∀ t, ¬ asks s X t → f t = 0) (h3 : ∀ t, e t < rxC s X t) : ∀ n, vlF (rxC s X) f n &&& (vlF (rxC s X) e n ||| vlF (rxC s X) e n >>> 1) = vlF (rxC s X) (fun t => if f t = 1 ∧ ¬ e t = 0 then 1 else 0) n
  | 0 => Nat.zero_and _
  | n + 1 => by
    have ih := pay_vl h1 h2 h3 n
    have a := vl_half h1 h2 n
    have b := vlF_lt (rx := rxC s X) (e := e) n (fun t _ => h3 t)
    rw [vlF_s, vlF_s, vlF_s, ← ih]
    rw [ml_C] at a b ⊢
    have c : e n < 4 := Nat.lt_of_lt_of_le (h3 n) (by unfold rxC; split <;> omega)
    exact pay_step a b (h1 n) c
def pyF (s : Nat → Int32) (X : Int32) (m q n : Nat) : Nat := vlF (rxC s X) (fun t => if asks s X t then dlF s X t m q else 0) n
theorem dl_le (s : Nat → Int32) (X : Int32) (t m q : Nat) : dlF s X t m q ≤ 1 := by unfold dlF; split <;> omega
theorem pay_nx {s : Nat → Int32} {p : Int32} {d : Nat} {X : Int32} {c m q : Nat} (hc : c < mlF (rxC s X) 12) : c - (pyF s X m q 12 &&& (c ||| c >>> 1)) = (auF s p d X (rxC s X)).nx c m q ∧ pyF s X m q 12 &&& (c ||| c >>> 1) ≤ c := by
  have e1 := vlF_of (rxC_p s X) 12 c hc
  have key := pay_vl (s := s) (X := X) (f := fun t => if asks s X t then dlF s X t m q else 0) (e := dgF (rxC s X) c) (fun t => by split; exact dl_le s X t m q; omega) (fun t z => if_neg z) (fun t => Nat.mod_lt _ (rxC_p s X t)) 12
  rw [e1] at key
  have le : ∀ t, t < 12 → (if (if asks s X t then dlF s X t m q else 0) = 1 ∧ ¬ dgF (rxC s X) c t = 0 then 1 else 0) ≤ dgF (rxC s X) c t := by
    intro t _
    by_cases z : (if asks s X t then dlF s X t m q else 0) = 1 ∧ ¬ dgF (rxC s X) c t = 0
    · rw [if_pos z]; have := z.2; omega
    · rw [if_neg z]; exact Nat.zero_le _
  obtain ⟨u, v⟩ := vlF_sub (rx := rxC s X) 12 le
  rw [e1] at u v
  unfold pyF
  rw [key]
  refine ⟨?_, v⟩
  rw [← u]
  show _ = vlF (rxC s X) (fun t => dgF (rxC s X) c t - dlF s X t m q) 12
  refine vlF_c 12 (fun t _ => ?_)
  have l := dl_le s X t m q
  by_cases z : asks s X t
  · simp only [if_pos z]
    generalize dgF (rxC s X) c t = g
    generalize dlF s X t m q = y at *
    split <;> omega
  · have : dgF (rxC s X) c t = 0 := by
      have : dgF (rxC s X) c t < rxC s X t := Nat.mod_lt _ (rxC_p s X t)
      unfold rxC at this
      rw [if_neg z] at this
      unfold rxC
      omega
    rw [this]
    omega

