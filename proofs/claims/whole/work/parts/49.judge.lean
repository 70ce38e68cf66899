/-! ===== judge: what it answers, and the class ===== -/
def wrb (s : Nat → Int32) (p : Int32) (d : Nat) (X : Int32) (v : Nat → Int32) (m : Nat) : Bool := !(decide (rng (v m) 0 7) && (bt (lwF s p d X m 12) (ca_n (v m)) && (decide (m = 0) || (decide (v m = v (m - 1)) || bt (s (ca_n (v (m - 1)))) (ca_n (v m))))))
def tiF (s : Nat → Int32) (v : Nat → Int32) (t n : Nat) : Nat := smF (fun m => if atF s t m ∧ v m = tmF s t 2 then 1 else 0) n
def slb (s : Nat → Int32) (X : Int32) (v : Nat → Int32) (t : Nat) : Bool := bt X t && decide (tiF s v t 24 < askT s t)
def ogV (z : Option Nat) : Int32 := match z with
  | some k => nI k
  | none => -1
def jdF (s : Nat → Int32) (p : Int32) (d : Nat) (X : Int32) (v : Nat → Int32) (sz : Nat) : Int32 := match fnF (wrb s p d X v) (min 24 sz) 0 with
  | some m => nI (m + 1)
  | none => if sz = 24 then (match fnF (slb s X v) 12 0 with
    | some t => nI (26 + t)
    | none => 0) else 25
def op_judge (a p d : Int32) (σ : Sg) : Int32 × Sg := if rng a 0 3 then (if ¬ σ 5 (ca_n a) = 0 then (if rng p 0 5 ∧ rng d 0 29 then (jdF (σ 0) p (ca_n d) (bX (σ 0) p (ca_n d)) (fun m => σ 7 (ca_n a * 40 + m)) (ca_n (σ 6 (ca_n a))), σ) else fnd σ 0) else fnd σ 5) else fnd σ 0
theorem wrb_f {s : Nat → Int32} {p : Int32} {d : Nat} {X : Int32} {v : Nat → Int32} {m : Nat} : ¬ wrb s p d X v m = true ↔ rng (v m) 0 7 ∧ bt (lwF s p d X m 12) (ca_n (v m)) = true ∧ (m = 0 ∨ v m = v (m - 1) ∨ bt (s (ca_n (v (m - 1)))) (ca_n (v m)) = true) := by
  unfold wrb
  rw [Bool.not_eq_true', Bool.not_eq_false, Bool.and_eq_true, Bool.and_eq_true, Bool.or_eq_true, Bool.or_eq_true, decide_eq_true_eq, decide_eq_true_eq, decide_eq_true_eq]
theorem wrb_t {s : Nat → Int32} {p : Int32} {d : Nat} {X : Int32} {v : Nat → Int32} {m : Nat} (h : ¬ (rng (v m) 0 7 ∧ bt (lwF s p d X m 12) (ca_n (v m)) = true ∧ (m = 0 ∨ v m = v (m - 1) ∨ bt (s (ca_n (v (m - 1)))) (ca_n (v m)) = true))) : wrb s p d X v m = true := Classical.byContradiction (fun z => h (wrb_f.mp z))
set_option maxRecDepth 100000 in
set_option maxHeartbeats 400000 in
theorem lp_fwn {Γ : Fr} (o : ca_O Γ cX9_firstWrongNumber 5 RX9 2 43) {Pr : Option Value → Mem → Prop} (ρ : ca_R Γ (some .int) Pr) {h : Mem} {σ : Sg} (C : CR h σ) {p : Int32} {d : Nat} {X : Int32} (P : PR h (σ 0) p d X) (k sz : Nat) (hk : k < 4) (hsz : sz ≤ 40) (es : σ 6 k = nI sz) (z : Option Nat) (hp : Pr (some (.int (ogV z))) h) : ∀ m, m ≤ 24 → ∀ (xm xa : Int32) (v4 : Option Value), xm = nI m → xa = (if m = 0 then -1 else σ 7 (k * 40 + (m - 1))) → (¬ m = 0 → rng (σ 7 (k * 40 + (m - 1))) 0 7) → fnF (wrb (σ 0) p d X (fun m => σ 7 (k * 40 + m))) (min 24 sz - m) m = z → ca_G Γ 5 h 4 [some (.ref 0), some (.int (nI k)), some (.int xa), some (.int xm), v4] [] := by
  have b6 : h.1 36 k = nI sz := (C.b6 k hk).trans es
  refine downI 24 (fun m hm ih => ?_)
  rintro xm xa v4 rfl rfl er ez
  refine g_iload_n (pc := 4) o dX9_firstWrongNumber_4 rfl ?_
  refine g_bipush (pc := 5) o dX9_firstWrongNumber_5 24 rfl ?_
  refine g_ic_ge (pc := 7) o 94 dX9_firstWrongNumber_7 (by decide) (fun c7 => ?_) (fun c7 => ?_)
  · skip
    have q : m = 24 := ge8 (n := 24) (by decide) (by omega) c7
    rw [show min 24 sz - m = 0 by omega] at ez
    have ez : none = z := ez
    subst ez
    refine g_iconst (pc := 94) o dX9_firstWrongNumber_94 (-1) rfl ?_
    exact g_iret o ρ dX9_firstWrongNumber_95 hp
  · skip
    have q : m < 24 := lt8 (n := 24) (by decide) (by omega) c7
    refine g_iload_n (pc := 10) o dX9_firstWrongNumber_10 rfl ?_
    refine g_aload_n (pc := 11) o dX9_firstWrongNumber_11 rfl ?_
    refine g_getR (pc := 12) o 5 rfl rfl rfl inX9 (by decide) lf_X9_33 dX9_firstWrongNumber_12 ?_
    refine g_iload_n (pc := 15) o dX9_firstWrongNumber_15 rfl ?_
    refine g_callVi (pc := 16) o (c_shsize k hk b6) mt_X4_size mv_X4_size lk_X9_309 rfl rfl rfl (by decide) rfl (Nat.le_of_ble_eq_true rfl) dX9_firstWrongNumber_16 ?_
    refine g_ic_ge (pc := 19) o 94 dX9_firstWrongNumber_19 (by decide) (fun c19 => ?_) (fun c19 => ?_)
    · skip
      have q2 := (nI_leI (by omega) (by omega)).mp c19
      rw [show min 24 sz - m = 0 by omega] at ez
      have ez : none = z := ez
      subst ez
      refine g_iconst (pc := 94) o dX9_firstWrongNumber_94 (-1) rfl ?_
      exact g_iret o ρ dX9_firstWrongNumber_95 hp
    · skip
      have q2 : m < sz := by have := mt (nI_leI (a := sz) (b := m) (by omega) (by omega)).mpr c19; omega
      rw [show min 24 sz - m = (min 24 sz - (m + 1)) + 1 by omega, fnF_s] at ez
      have bad : ¬ (rng (σ 7 (k * 40 + m)) 0 7 ∧ bt (lwF (σ 0) p d X m 12) (ca_n (σ 7 (k * 40 + m))) = true ∧ (m = 0 ∨ σ 7 (k * 40 + m) = σ 7 (k * 40 + (m - 1)) ∨ bt (σ 0 (ca_n (σ 7 (k * 40 + (m - 1))))) (ca_n (σ 7 (k * 40 + m))) = true)) → Pr (some (.int (nI m))) h := fun y => by
        rw [if_pos (wrb_t (v := fun m => σ 7 (k * 40 + m)) y)] at ez
        subst ez
        exact hp
      refine g_aload_n (pc := 22) o dX9_firstWrongNumber_22 rfl ?_
      refine g_getR (pc := 23) o 5 rfl rfl rfl inX9 (by decide) lf_X9_33 dX9_firstWrongNumber_23 ?_
      refine g_iload_n (pc := 26) o dX9_firstWrongNumber_26 rfl ?_
      refine g_iload_n (pc := 27) o dX9_firstWrongNumber_27 rfl ?_
      refine g_callVi (pc := 28) o (c_shget C k m hk (by omega)) mt_X4_get mv_X4_get lk_X9_327 rfl rfl rfl (by decide) rfl (Nat.le_of_ble_eq_true rfl) dX9_firstWrongNumber_28 ?_
      refine g_istore (pc := 31) o dX9_firstWrongNumber_31 (by decide) ?_
      show ca_G Γ 5 _ _ [_, _, _, _, _] _
      refine g_iload (pc := 33) o dX9_firstWrongNumber_33 rfl ?_
      refine g_callSi (pc := 35) o (c_isPlace (σ 7 (k * 40 + m)) h) mt_X9_isPlace ms_X9_isPlace lk_X9_54 rfl (by decide) rfl (Nat.le_of_ble_eq_true rfl) dX9_firstWrongNumber_35 ?_
      refine g_if_eq (pc := 38) o 54 dX9_firstWrongNumber_38 (by decide) (fun c38 => ?_) (fun c38 => ?_)
      · skip
        have y := bI_0.mp c38
        refine g_iload_n (pc := 54) o dX9_firstWrongNumber_54 rfl ?_
        exact g_iret o ρ dX9_firstWrongNumber_55 (bad (fun u => y u.1))
      · skip
        have y := bI_n0.mp c38
        obtain ⟨w, hw, ew, en⟩ := n_of (x := σ 7 (k * 40 + m)) (b := 7) y (by decide)
        have ca := c_isAllowed P m w q (by omega)
        rw [← ew] at ca
        have al : (auC (σ 0) p d X).lw m = lwF (σ 0) p d X m 12 := rfl
        have st85 : (m = 0 ∨ σ 7 (k * 40 + m) = σ 7 (k * 40 + (m - 1)) ∨ bt (σ 0 (ca_n (σ 7 (k * 40 + (m - 1))))) (ca_n (σ 7 (k * 40 + m))) = true) → bt (lwF (σ 0) p d X m 12) w = true → ca_G Γ 5 h 85 [some (.ref 0), some (.int (nI k)), some (.int (if m = 0 then -1 else σ 7 (k * 40 + (m - 1)))), some (.int (nI m)), some (.int (σ 7 (k * 40 + m)))] [] := fun y3 y2 => by
          rw [if_neg ((wrb_f (s := σ 0) (p := p) (d := d) (X := X) (v := fun m => σ 7 (k * 40 + m)) (m := m)).mpr ⟨y, by show bt (lwF (σ 0) p d X m 12) (ca_n (σ 7 (k * 40 + m))) = true; rw [en]; exact y2, y3⟩)] at ez
          refine g_iload (pc := 85) o dX9_firstWrongNumber_85 rfl ?_
          refine g_istore_n (pc := 87) o dX9_firstWrongNumber_87 (by decide) ?_
          show ca_G Γ 5 _ _ [_, _, _, _, _] _
          refine g_iinc (pc := 88) o dX9_firstWrongNumber_88 rfl 1 rfl (by decide) ?_
          show ca_G Γ 5 _ _ [_, _, _, _, _] _
          refine g_goto (pc := 91) o 4 dX9_firstWrongNumber_91 (by decide) ?_
          exact ih q _ _ _ (nI_1 m) (by rw [if_neg (by omega)]; rfl) (fun _ => y) ez
        refine g_aload_n (pc := 41) o dX9_firstWrongNumber_41 rfl ?_
        refine g_getR (pc := 42) o 6 rfl rfl rfl inX9 (by decide) lf_X9_40 dX9_firstWrongNumber_42 ?_
        refine g_iload_n (pc := 45) o dX9_firstWrongNumber_45 rfl ?_
        refine g_iload (pc := 46) o dX9_firstWrongNumber_46 rfl ?_
        refine g_callVi (pc := 48) o (ca) mt_X1_isAllowed mv_X1_isAllowed lk_X9_373 rfl rfl rfl (by decide) rfl (Nat.le_of_ble_eq_true rfl) dX9_firstWrongNumber_48 ?_
        refine g_if_ne (pc := 51) o 56 dX9_firstWrongNumber_51 (by decide) (fun c51 => ?_) (fun c51 => ?_)
        · skip
          have y2 := bI_n0.mp c51
          refine g_iload_n (pc := 56) o dX9_firstWrongNumber_56 rfl ?_
          refine g_iconst (pc := 57) o dX9_firstWrongNumber_57 (-1) rfl ?_
          refine g_ic_eq (pc := 58) o 85 dX9_firstWrongNumber_58 (by decide) (fun c58 => ?_) (fun c58 => ?_)
          · skip
            have m0 : m = 0 := by
              by_cases u : m = 0
              · exact u
              · rw [if_neg u] at c58
                have := (er u).1
                rw [c58] at this
                exact absurd this (by decide)
            exact st85 (Or.inl m0) y2
          · skip
            have m0 : ¬ m = 0 := fun u => by rw [if_pos u] at c58; exact c58 rfl
            rw [if_neg m0] at ⊢ st85
            obtain ⟨w1, hw1, ew1, en1⟩ := n_of (x := σ 7 (k * 40 + (m - 1))) (b := 7) (er m0) (by decide)
            have cj := c_areJoined C.1 w1 w (by omega) (by omega)
            rw [← ew, ← ew1] at cj
            refine g_iload_n (pc := 61) o dX9_firstWrongNumber_61 rfl ?_
            refine g_iload (pc := 62) o dX9_firstWrongNumber_62 rfl ?_
            refine g_ic_eq (pc := 64) o 85 dX9_firstWrongNumber_64 (by decide) (fun c64 => ?_) (fun c64 => ?_)
            · skip
              exact st85 (Or.inr (Or.inl c64.symm)) y2
            · skip
              refine g_aload_n (pc := 67) o dX9_firstWrongNumber_67 rfl ?_
              refine g_getR (pc := 68) o 0 rfl rfl rfl inX9 (by decide) lf_X9_10 dX9_firstWrongNumber_68 ?_
              refine g_getR (pc := 71) o 0 rfl rfl rfl inX0 (by decide) lf_X9_62 dX9_firstWrongNumber_71 ?_
              refine g_iload_n (pc := 74) o dX9_firstWrongNumber_74 rfl ?_
              refine g_iload (pc := 75) o dX9_firstWrongNumber_75 rfl ?_
              refine g_callVi (pc := 77) o (cj) mt_X2_areJoined mv_X2_areJoined lk_X9_66 rfl rfl rfl (by decide) rfl (Nat.le_of_ble_eq_true rfl) dX9_firstWrongNumber_77 ?_
              refine g_if_ne (pc := 80) o 85 dX9_firstWrongNumber_80 (by decide) (fun c80 => ?_) (fun c80 => ?_)
              · skip
                exact st85 (Or.inr (Or.inr (by rw [en, en1]; exact bI_n0.mp c80))) y2
              · skip
                have y4 := bI_0.mp c80
                refine g_iload_n (pc := 83) o dX9_firstWrongNumber_83 rfl ?_
                exact g_iret o ρ dX9_firstWrongNumber_84 (bad (fun u => by rcases u.2.2 with u | u | u; exact m0 u; exact c64 u.symm; rw [en, en1] at u; exact y4 u))
        · skip
          have y2 := bI_0.mp c51
          refine g_iload_n (pc := 54) o dX9_firstWrongNumber_54 rfl ?_
          exact g_iret o ρ dX9_firstWrongNumber_55 (bad (fun u => y2 (by have := u.2.1; rw [en] at this; exact this)))
set_option maxRecDepth 100000 in
set_option maxHeartbeats 400000 in
theorem c_fwn {h : Mem} {σ : Sg} (C : CR h σ) {p : Int32} {d : Nat} {X : Int32} (P : PR h (σ 0) p d X) (k sz : Nat) (hk : k < 4) (hsz : sz ≤ 40) (es : σ 6 k = nI sz) : Ct yX9_firstWrongNumber cX9_firstWrongNumber 5 (some .int) 2 43 [.ref 0, .int (nI k)] h (Ei (ogV (fnF (wrb (σ 0) p d X (fun m => σ 7 (k * 40 + m))) (min 24 sz) 0)) h) := by
  refine Ct.of (by decide) (Nat.le_of_ble_eq_true rfl) (fun Γ o ρ => ?_)
  show ca_G Γ 5 _ _ [_, _, _, _, _] _
  refine g_iconst (pc := 0) o dX9_firstWrongNumber_0 (-1) rfl ?_
  refine g_istore_n (pc := 1) o dX9_firstWrongNumber_1 (by decide) ?_
  show ca_G Γ 5 _ _ [_, _, _, _, _] _
  refine g_iconst (pc := 2) o dX9_firstWrongNumber_2 0 rfl ?_
  refine g_istore_n (pc := 3) o dX9_firstWrongNumber_3 (by decide) ?_
  show ca_G Γ 5 _ _ [_, _, _, _, _] _
  exact lp_fwn o ρ C P k sz hk hsz es _ ⟨rfl, rfl⟩ 0 (by omega) _ _ _ rfl rfl (fun y => absurd rfl y) rfl
theorem ti_at {s : Nat → Int32} {v : Nat → Int32} {t a b : Nat} (e3 : tmF s t 3 = nI a) (e4 : tmF s t 4 = nI b) (ha : a < 24) (hb : b < 24) (m : Nat) : atF s t m ↔ a ≤ m ∧ m ≤ b := by
  unfold atF
  rw [e3, e4, nI_toInt (by omega), nI_toInt (by omega)]
  omega
theorem ti_s (s : Nat → Int32) (v : Nat → Int32) (t n : Nat) : tiF s v t (n + 1) = tiF s v t n + (if atF s t n ∧ v n = tmF s t 2 then 1 else 0) := rfl
theorem ti_le (s : Nat → Int32) (v : Nat → Int32) (t : Nat) : ∀ n, tiF s v t n ≤ n
  | 0 => Nat.le_refl 0
  | n + 1 => by
    have := ti_le s v t n
    rw [ti_s]
    split <;> omega
theorem ti_lo {s : Nat → Int32} {v : Nat → Int32} {t a b : Nat} (e : ∀ m, atF s t m ↔ a ≤ m ∧ m ≤ b) : ∀ n, n ≤ a → tiF s v t n = 0
  | 0, _ => rfl
  | n + 1, h => by rw [ti_s, ti_lo e n (by omega), if_neg (fun y => by have := (e n).mp y.1; omega)]
theorem ti_hi {s : Nat → Int32} {v : Nat → Int32} {t a b : Nat} (e : ∀ m, atF s t m ↔ a ≤ m ∧ m ≤ b) : ∀ n, tiF s v t (b + 1 + n) = tiF s v t (b + 1)
  | 0 => rfl
  | n + 1 => by rw [show b + 1 + (n + 1) = (b + 1 + n) + 1 by omega, ti_s, ti_hi e n, if_neg (fun y => by have := (e _).mp y.1; omega), Nat.add_zero]
set_option maxRecDepth 100000 in
set_option maxHeartbeats 400000 in
theorem lp_times {Γ : Fr} (o : ca_O Γ cX9_timesThere 7 RX9 1 22) {Pr : Option Value → Mem → Prop} (ρ : ca_R Γ (some .int) Pr) {h : Mem} {σ : Sg} (C : CR h σ) (k t a b : Nat) (hk : k < 4) (hb : b < 24) (e : ∀ m, atF (σ 0) t m ↔ a ≤ m ∧ m ≤ b) (x2 : Int32) (hp : Pr (some (.int (nI (tiF (σ 0) (fun m => σ 7 (k * 40 + m)) t (b + 1))))) h) : ∀ m, m ≤ b + 1 → a ≤ m → ∀ (xm y : Int32), xm = nI m → y = nI (tiF (σ 0) (fun m => σ 7 (k * 40 + m)) t m) → ca_G Γ 7 h 44 [some (.ref 0), some (.int (nI k)), some (.int x2), some (.int (tmF (σ 0) t 2)), some (.int (nI b)), some (.int y), some (.int xm)] [] := by
  refine downI (b + 1) (fun m hm ih => ?_)
  rintro am xm y rfl rfl
  refine g_iload (pc := 44) o dX9_timesThere_44 rfl ?_
  refine g_iload (pc := 46) o dX9_timesThere_46 rfl ?_
  refine g_ic_gt (pc := 48) o 74 dX9_timesThere_48 (by decide) (fun c48 => ?_) (fun c48 => ?_)
  · skip
    have q : m = b + 1 := by have := (nI_ltI (by omega) (by omega)).mp c48; omega
    subst q
    refine g_iload (pc := 74) o dX9_timesThere_74 rfl ?_
    exact g_iret o ρ dX9_timesThere_76 hp
  · skip
    have q : m ≤ b := by have := mt (nI_ltI (a := b) (b := m) (by omega) (by omega)).mpr c48; omega
    refine g_aload_n (pc := 51) o dX9_timesThere_51 rfl ?_
    refine g_getR (pc := 52) o 5 rfl rfl rfl inX9 (by decide) lf_X9_33 dX9_timesThere_52 ?_
    refine g_iload_n (pc := 55) o dX9_timesThere_55 rfl ?_
    refine g_iload (pc := 56) o dX9_timesThere_56 rfl ?_
    refine g_callVi (pc := 58) o (c_shget C k m hk (by omega)) mt_X4_get mv_X4_get lk_X9_327 rfl rfl rfl (by decide) rfl (Nat.le_of_ble_eq_true rfl) dX9_timesThere_58 ?_
    refine g_iload_n (pc := 61) o dX9_timesThere_61 rfl ?_
    refine g_ic_ne (pc := 62) o 68 dX9_timesThere_62 (by decide) (fun c62 => ?_) (fun c62 => ?_)
    · skip
      refine g_iinc (pc := 68) o dX9_timesThere_68 rfl 1 rfl (by decide) ?_
      show ca_G Γ 7 _ _ [_, _, _, _, _, _, _] _
      refine g_goto (pc := 71) o 44 dX9_timesThere_71 (by decide) ?_
      exact ih (by omega) (by omega) _ _ (nI_1 m) (by rw [ti_s, if_neg (fun y => c62 y.2), Nat.add_zero])
    · skip
      refine g_iinc (pc := 65) o dX9_timesThere_65 rfl 1 rfl (by decide) ?_
      show ca_G Γ 7 _ _ [_, _, _, _, _, _, _] _
      refine g_iinc (pc := 68) o dX9_timesThere_68 rfl 1 rfl (by decide) ?_
      show ca_G Γ 7 _ _ [_, _, _, _, _, _, _] _
      refine g_goto (pc := 71) o 44 dX9_timesThere_71 (by decide) ?_
      exact ih (by omega) (by omega) _ _ (nI_1 m) (by rw [ti_s, if_pos ⟨(e m).mpr ⟨am, q⟩, c62⟩]; exact nI_1 _)
set_option maxRecDepth 100000 in
set_option maxHeartbeats 400000 in
theorem c_times {h : Mem} {σ : Sg} (C : CR h σ) (I : SI (σ 0)) (k t : Nat) (hk : k < 4) (ht : t < 12) : Ct yX9_timesThere cX9_timesThere 7 (some .int) 1 22 [.ref 0, .int (nI k), .int (nI t)] h (Ei (nI (tiF (σ 0) (fun m => σ 7 (k * 40 + m)) t 24)) h) := by
  refine Ct.of (by decide) (Nat.le_of_ble_eq_true rfl) (fun Γ o ρ => ?_)
  show ca_G Γ 7 _ _ [_, _, _, _, _, _, _] _
  obtain ⟨_, _, w, a, b, _, _, _, _, hw, ab, hb, _, _, _, _, e2, e3, e4, _⟩ := I.tm t ht
  have e := ti_at (v := fun m => σ 7 (k * 40 + m)) e3 e4 (by omega) hb
  have c4 := c_tf C.1 t 4 ht (by decide)
  rw [e4] at c4
  have c3 := c_tf C.1 t 3 ht (by decide)
  rw [e3] at c3
  refine g_aload_n (pc := 0) o dX9_timesThere_0 rfl ?_
  refine g_getR (pc := 1) o 0 rfl rfl rfl inX9 (by decide) lf_X9_10 dX9_timesThere_1 ?_
  refine g_getR (pc := 4) o 2 rfl rfl rfl inX0 (by decide) lf_X9_137 dX9_timesThere_4 ?_
  refine g_iload_n (pc := 7) o dX9_timesThere_7 rfl ?_
  refine g_iconst (pc := 8) o dX9_timesThere_8 2 rfl ?_
  refine g_callVi (pc := 9) o (c_tf C.1 t 2 ht (by decide)) mt_X7_field mv_X7_field lk_X9_152 rfl rfl rfl (by decide) rfl (Nat.le_of_ble_eq_true rfl) dX9_timesThere_9 ?_
  refine g_istore_n (pc := 12) o dX9_timesThere_12 (by decide) ?_
  show ca_G Γ 7 _ _ [_, _, _, _, _, _, _] _
  refine g_aload_n (pc := 13) o dX9_timesThere_13 rfl ?_
  refine g_getR (pc := 14) o 0 rfl rfl rfl inX9 (by decide) lf_X9_10 dX9_timesThere_14 ?_
  refine g_getR (pc := 17) o 2 rfl rfl rfl inX0 (by decide) lf_X9_137 dX9_timesThere_17 ?_
  refine g_iload_n (pc := 20) o dX9_timesThere_20 rfl ?_
  refine g_iconst (pc := 21) o dX9_timesThere_21 4 rfl ?_
  refine g_callVi (pc := 22) o (c4) mt_X7_field mv_X7_field lk_X9_152 rfl rfl rfl (by decide) rfl (Nat.le_of_ble_eq_true rfl) dX9_timesThere_22 ?_
  refine g_istore (pc := 25) o dX9_timesThere_25 (by decide) ?_
  show ca_G Γ 7 _ _ [_, _, _, _, _, _, _] _
  refine g_iconst (pc := 27) o dX9_timesThere_27 0 rfl ?_
  refine g_istore (pc := 28) o dX9_timesThere_28 (by decide) ?_
  show ca_G Γ 7 _ _ [_, _, _, _, _, _, _] _
  refine g_aload_n (pc := 30) o dX9_timesThere_30 rfl ?_
  refine g_getR (pc := 31) o 0 rfl rfl rfl inX9 (by decide) lf_X9_10 dX9_timesThere_31 ?_
  refine g_getR (pc := 34) o 2 rfl rfl rfl inX0 (by decide) lf_X9_137 dX9_timesThere_34 ?_
  refine g_iload_n (pc := 37) o dX9_timesThere_37 rfl ?_
  refine g_iconst (pc := 38) o dX9_timesThere_38 3 rfl ?_
  refine g_callVi (pc := 39) o (c3) mt_X7_field mv_X7_field lk_X9_152 rfl rfl rfl (by decide) rfl (Nat.le_of_ble_eq_true rfl) dX9_timesThere_39 ?_
  refine g_istore (pc := 42) o dX9_timesThere_42 (by decide) ?_
  show ca_G Γ 7 _ _ [_, _, _, _, _, _, _] _
  refine lp_times o ρ C k t a b hk hb e _ ?_ a (by omega) (Nat.le_refl a) _ _ rfl (by rw [ti_lo e a (Nat.le_refl a)]; rfl)
  have := ti_hi (v := fun m => σ 7 (k * 40 + m)) e (23 - b)
  rw [show b + 1 + (23 - b) = 24 by omega] at this
  rw [← this]
  exact ⟨rfl, rfl⟩
set_option maxRecDepth 100000 in
set_option maxHeartbeats 400000 in
theorem lp_lts {Γ : Fr} (o : ca_O Γ cX9_leastTermTooSeldom 4 RX9 2 48) {Pr : Option Value → Mem → Prop} (ρ : ca_R Γ (some .int) Pr) {h : Mem} {σ : Sg} (C : CR h σ) (I : SI (σ 0)) (X : Int32) (k : Nat) (hk : k < 4) (z : Option Nat) (hp : Pr (some (.int (ogV z))) h) : ∀ t, t ≤ 12 → ∀ (xt : Int32), xt = nI t → fnF (slb (σ 0) X (fun m => σ 7 (k * 40 + m))) (12 - t) t = z → ca_G Γ 4 h 2 [some (.ref 0), some (.int (nI k)), some (.int X), some (.int xt)] [] := by
  refine downI 12 (fun t ht ih => ?_)
  rintro xt rfl ez
  refine g_iload_n (pc := 2) o dX9_leastTermTooSeldom_2 rfl ?_
  refine g_bipush (pc := 3) o dX9_leastTermTooSeldom_3 12 rfl ?_
  refine g_ic_ge (pc := 5) o 44 dX9_leastTermTooSeldom_5 (by decide) (fun c5 => ?_) (fun c5 => ?_)
  · skip
    have q : t = 12 := ge8 (n := 12) (by decide) (by omega) c5
    subst q
    have ez : none = z := ez
    subst ez
    refine g_iconst (pc := 44) o dX9_leastTermTooSeldom_44 (-1) rfl ?_
    exact g_iret o ρ dX9_leastTermTooSeldom_45 hp
  · skip
    have q : t < 12 := lt8 (n := 12) (by decide) (by omega) c5
    rw [show 12 - t = (12 - (t + 1)) + 1 by omega, fnF_s] at ez
    have al := ask_lt I.tm q
    have tl := ti_le (σ 0) (fun m => σ 7 (k * 40 + m)) t 24
    refine g_iload_n (pc := 8) o dX9_leastTermTooSeldom_8 rfl ?_
    refine g_iload_n (pc := 9) o dX9_leastTermTooSeldom_9 rfl ?_
    refine g_callSi (pc := 10) o (c_has X t (by omega) h) mt_X9_has ms_X9_has lk_X9_198 rfl (by decide) rfl (Nat.le_of_ble_eq_true rfl) dX9_leastTermTooSeldom_10 ?_
    refine g_if_eq (pc := 13) o 38 dX9_leastTermTooSeldom_13 (by decide) (fun c13 => ?_) (fun c13 => ?_)
    · skip
      have y := bI_0.mp c13
      rw [if_neg (fun u => y (by unfold slb at u; rw [Bool.and_eq_true] at u; exact u.1))] at ez
      refine g_iinc (pc := 38) o dX9_leastTermTooSeldom_38 rfl 1 rfl (by decide) ?_
      show ca_G Γ 4 _ _ [_, _, _, _] _
      refine g_goto (pc := 41) o 2 dX9_leastTermTooSeldom_41 (by decide) ?_
      exact ih q _ (nI_1 t) ez
    · skip
      have y := bI_n0.mp c13
      refine g_aload_n (pc := 16) o dX9_leastTermTooSeldom_16 rfl ?_
      refine g_iload_n (pc := 17) o dX9_leastTermTooSeldom_17 rfl ?_
      refine g_iload_n (pc := 18) o dX9_leastTermTooSeldom_18 rfl ?_
      refine g_callVi (pc := 19) o (c_times C I k t hk q) mt_X9_timesThere mv_X9_timesThere lk_X9_376 rfl rfl rfl (by decide) rfl (Nat.le_of_ble_eq_true rfl) dX9_leastTermTooSeldom_19 ?_
      refine g_aload_n (pc := 22) o dX9_leastTermTooSeldom_22 rfl ?_
      refine g_getR (pc := 23) o 0 rfl rfl rfl inX9 (by decide) lf_X9_10 dX9_leastTermTooSeldom_23 ?_
      refine g_getR (pc := 26) o 2 rfl rfl rfl inX0 (by decide) lf_X9_137 dX9_leastTermTooSeldom_26 ?_
      refine g_iload_n (pc := 29) o dX9_leastTermTooSeldom_29 rfl ?_
      refine g_callVi (pc := 30) o (c_asked C.1 I.tm t q) mt_X7_asked mv_X7_asked lk_X9_149 rfl rfl rfl (by decide) rfl (Nat.le_of_ble_eq_true rfl) dX9_leastTermTooSeldom_30 ?_
      refine g_ic_ge (pc := 33) o 38 dX9_leastTermTooSeldom_33 (by decide) (fun c33 => ?_) (fun c33 => ?_)
      · skip
        have u := (nI_leI (by omega) (by omega)).mp c33
        rw [if_neg (fun v => by unfold slb at v; rw [Bool.and_eq_true, decide_eq_true_eq] at v; have := v.2; omega)] at ez
        refine g_iinc (pc := 38) o dX9_leastTermTooSeldom_38 rfl 1 rfl (by decide) ?_
        show ca_G Γ 4 _ _ [_, _, _, _] _
        refine g_goto (pc := 41) o 2 dX9_leastTermTooSeldom_41 (by decide) ?_
        exact ih q _ (nI_1 t) ez
      · skip
        have u := mt (nI_leI (a := askT (σ 0) t) (b := tiF (σ 0) (fun m => σ 7 (k * 40 + m)) t 24) (by omega) (by omega)).mpr c33
        rw [if_pos (show slb (σ 0) X (fun m => σ 7 (k * 40 + m)) t = true by unfold slb; rw [Bool.and_eq_true, decide_eq_true_eq]; exact ⟨y, by omega⟩)] at ez
        subst ez
        refine g_iload_n (pc := 36) o dX9_leastTermTooSeldom_36 rfl ?_
        exact g_iret o ρ dX9_leastTermTooSeldom_37 hp
set_option maxRecDepth 100000 in
set_option maxHeartbeats 400000 in
theorem c_lts {h : Mem} {σ : Sg} (C : CR h σ) (I : SI (σ 0)) (X : Int32) (k : Nat) (hk : k < 4) : Ct yX9_leastTermTooSeldom cX9_leastTermTooSeldom 4 (some .int) 2 48 [.ref 0, .int (nI k), .int X] h (Ei (ogV (fnF (slb (σ 0) X (fun m => σ 7 (k * 40 + m))) 12 0)) h) := by
  refine Ct.of (by decide) (Nat.le_of_ble_eq_true rfl) (fun Γ o ρ => ?_)
  show ca_G Γ 4 _ _ [_, _, _, _] _
  refine g_iconst (pc := 0) o dX9_leastTermTooSeldom_0 0 rfl ?_
  refine g_istore_n (pc := 1) o dX9_leastTermTooSeldom_1 (by decide) ?_
  show ca_G Γ 4 _ _ [_, _, _, _] _
  exact lp_lts o ρ C I X k hk _ ⟨rfl, rfl⟩ 0 (by omega) _ rfl rfl
theorem fn_lt {f : Nat → Bool} {k : Nat} : ∀ n i, fnF f n i = some k → i ≤ k ∧ k < i + n ∧ f k = true
  | 0, i, h => by cases h
  | n + 1, i, h => by
    rw [fnF_s] at h
    split at h
    · rename_i z
      cases h
      exact ⟨Nat.le_refl _, by omega, z⟩
    · obtain ⟨a, b, c⟩ := fn_lt n (i + 1) h
      exact ⟨by omega, by omega, c⟩
set_option maxRecDepth 100000 in
set_option maxHeartbeats 400000 in
theorem co_judge {h : Mem} {σ : Sg} (C : CR h σ) (I : Iv σ) (a p d : Int32) : Ct yX9_judge cX9_judge 7 (some .int) 4 98 [.ref 0, .int a, .int p, .int d] h (Po h (op_judge a p d σ)) := by
  refine Ct.of (by decide) (Nat.le_of_ble_eq_true rfl) (fun Γ o ρ => ?_)
  show ca_G Γ 7 _ _ [_, _, _, _, _, _, _] _
  refine g_iload_n (pc := 0) o dX9_judge_0 rfl ?_
  refine g_callSi (pc := 1) o (c_isSheet a h) mt_X4_isSheet ms_X4_isSheet lk_X9_300 rfl (by decide) rfl (Nat.le_of_ble_eq_true rfl) dX9_judge_1 ?_
  refine g_if_ne (pc := 4) o 13 dX9_judge_4 (by decide) (fun c4 => ?_) (fun c4 => ?_)
  · skip
    have eq : op_judge a p d σ = if ¬ σ 5 (ca_n a) = 0 then (if rng p 0 5 ∧ rng d 0 29 then (jdF (σ 0) p (ca_n d) (bX (σ 0) p (ca_n d)) (fun m => σ 7 (ca_n a * 40 + m)) (ca_n (σ 6 (ca_n a))), σ) else fnd σ 0) else fnd σ 5 := if_pos (bI_n0.mp c4)
    rw [eq] at ρ
    obtain ⟨k, hk, rfl, ek⟩ := n_of (x := a) (b := 3) (bI_n0.mp c4) (by decide)
    rw [ek] at ρ
    clear eq
    obtain ⟨sz, hsz, es, -⟩ := I.sz k (by omega)
    refine g_aload_n (pc := 13) o dX9_judge_13 rfl ?_
    refine g_getR (pc := 14) o 5 rfl rfl rfl inX9 (by decide) lf_X9_33 dX9_judge_14 ?_
    refine g_iload_n (pc := 17) o dX9_judge_17 rfl ?_
    refine g_callVi (pc := 18) o (c_isMissing C k (by omega)) mt_X4_isMissing mv_X4_isMissing lk_X9_311 rfl rfl rfl (by decide) rfl (Nat.le_of_ble_eq_true rfl) dX9_judge_18 ?_
    refine g_if_eq (pc := 21) o 30 dX9_judge_21 (by decide) (fun c21 => ?_) (fun c21 => ?_)
    · skip
      rw [if_pos (bI_0.mp c21)] at ρ
      refine g_iload_n (pc := 30) o dX9_judge_30 rfl ?_
      refine g_callSi (pc := 31) o (c_isPerson p h) mt_X9_isPerson ms_X9_isPerson lk_X9_83 rfl (by decide) rfl (Nat.le_of_ble_eq_true rfl) dX9_judge_31 ?_
      refine g_if_eq (pc := 34) o 44 dX9_judge_34 (by decide) (fun c34 => ?_) (fun c34 => ?_)
      · skip
        refine g_aload_n (pc := 44) o dX9_judge_44 rfl ?_
        refine g_iconst (pc := 45) o dX9_judge_45 0 rfl ?_
        refine g_callVi (pc := 46) o (c_finding 0 (by decide) h) mt_X9_finding mv_X9_finding lk_X9_58 rfl rfl rfl (by decide) rfl (Nat.le_of_ble_eq_true rfl) dX9_judge_46 ?_
        exact g_iret o ρ dX9_judge_49 (Po.eq (if_neg (fun z => bI_0.mp c34 z.1)) (Po_fnd C (by decide)))
      · skip
        refine g_iload_n (pc := 37) o dX9_judge_37 rfl ?_
        refine g_callSi (pc := 38) o (c_isDay d h) mt_X9_isDay ms_X9_isDay lk_X9_126 rfl (by decide) rfl (Nat.le_of_ble_eq_true rfl) dX9_judge_38 ?_
        refine g_if_ne (pc := 41) o 50 dX9_judge_41 (by decide) (fun c41 => ?_) (fun c41 => ?_)
        · skip
          rw [if_pos ⟨bI_n0.mp c34, bI_n0.mp c41⟩] at ρ
          obtain ⟨j, hj, rfl, ej⟩ := n_of (x := p) (b := 5) (bI_n0.mp c34) (by decide)
          obtain ⟨dd, hd, rfl, ed⟩ := n_of (x := d) (b := 29) (bI_n0.mp c41) (by decide)
          rw [ed, es, show ca_n (nI sz) = sz from nI_clamp (by omega)] at ρ
          have h5 := five I.1 (show j < 6 by omega) (sub_self (σ 0) (nI j) dd)
          refine g_aload_n (pc := 50) o dX9_judge_50 rfl ?_
          refine g_getR (pc := 51) o 0 rfl rfl rfl inX9 (by decide) lf_X9_10 dX9_judge_51 ?_
          refine g_getR (pc := 54) o 2 rfl rfl rfl inX0 (by decide) lf_X9_137 dX9_judge_54 ?_
          refine g_iload_n (pc := 57) o dX9_judge_57 rfl ?_
          refine g_iload_n (pc := 58) o dX9_judge_58 rfl ?_
          refine g_callVi (pc := 59) o (c_binding C.1 I.1.terms (nI j) dd (by omega)) mt_X7_binding mv_X7_binding lk_X9_167 rfl rfl rfl (by decide) rfl (Nat.le_of_ble_eq_true rfl) dX9_judge_59 ?_
          refine g_istore (pc := 62) o dX9_judge_62 (by decide) ?_
          show ca_G Γ 7 _ _ [_, _, _, _, _, _, _] _
          refine g_aload_n (pc := 64) o dX9_judge_64 rfl ?_
          refine g_getR (pc := 65) o 6 rfl rfl rfl inX9 (by decide) lf_X9_40 dX9_judge_65 ?_
          refine g_aload_n (pc := 68) o dX9_judge_68 rfl ?_
          refine g_getR (pc := 69) o 0 rfl rfl rfl inX9 (by decide) lf_X9_10 dX9_judge_69 ?_
          refine g_iload_n (pc := 72) o dX9_judge_72 rfl ?_
          refine g_iload_n (pc := 73) o dX9_judge_73 rfl ?_
          refine g_iload (pc := 74) o dX9_judge_74 rfl ?_
          refine g_callVQv (pc := 76) o (c_prepare C.1 I.1 (nI j) dd (by omega) (bX (σ 0) (nI j) dd) h5) mt_X1_prepare mv_X1_prepare lk_X9_330 rfl rfl rfl (by decide) rfl (Nat.le_of_ble_eq_true rfl) dX9_judge_76 ?_
          rintro h1 w
          obtain ⟨P1, w1⟩ := w
          have w2 : offD h h1 := fun c hc => w1 c (by omega) (by omega) (by omega) (by omega)
          have C1 : CR h1 σ := CR_D C w2
          have cf := c_fwn C1 P1 k sz (by omega) hsz es
          have cl := c_lts C1 I.1 (bX (σ 0) (nI j) dd) k (by omega)
          unfold jdF at ρ
          cases e1 : fnF (wrb (σ 0) (nI j) dd (bX (σ 0) (nI j) dd) (fun m => σ 7 (k * 40 + m))) (min 24 sz) 0 with
          | some m =>
            rw [e1] at ρ cf
            obtain ⟨_, ml, _⟩ := fn_lt _ _ e1
            refine g_aload_n (pc := 79) o dX9_judge_79 rfl ?_
            refine g_iload_n (pc := 80) o dX9_judge_80 rfl ?_
            refine g_callVi (pc := 81) o (cf) mt_X9_firstWrongNumber mv_X9_firstWrongNumber lk_X9_334 rfl rfl rfl (by decide) rfl (Nat.le_of_ble_eq_true rfl) dX9_judge_81 ?_
            refine g_istore (pc := 84) o dX9_judge_84 (by decide) ?_
            show ca_G Γ 7 _ _ [_, _, _, _, _, _, _] _
            refine g_iload (pc := 86) o dX9_judge_86 rfl ?_
            refine g_iconst (pc := 88) o dX9_judge_88 (-1) rfl ?_
            refine g_ic_eq (pc := 89) o 97 dX9_judge_89 (by decide) (fun c89 => ?_) (fun c89 => ?_)
            · skip
              exact absurd c89 (nI_ne_m1 (by omega))
            · skip
              refine g_iconst (pc := 92) o dX9_judge_92 1 rfl ?_
              refine g_iload (pc := 93) o dX9_judge_93 rfl ?_
              refine g_iadd (pc := 95) o dX9_judge_95 ?_
              exact g_iret o ρ dX9_judge_96 (Po.mk (by show (1 : Int32) + nI m = nI (m + 1); rw [show (1 : Int32) = nI 1 from rfl, nI_add, Nat.add_comm]) (CR_D C w2) (kM_D w2))
          | none =>
            rw [e1] at ρ cf
            refine g_aload_n (pc := 79) o dX9_judge_79 rfl ?_
            refine g_iload_n (pc := 80) o dX9_judge_80 rfl ?_
            refine g_callVi (pc := 81) o (cf) mt_X9_firstWrongNumber mv_X9_firstWrongNumber lk_X9_334 rfl rfl rfl (by decide) rfl (Nat.le_of_ble_eq_true rfl) dX9_judge_81 ?_
            refine g_istore (pc := 84) o dX9_judge_84 (by decide) ?_
            show ca_G Γ 7 _ _ [_, _, _, _, _, _, _] _
            refine g_iload (pc := 86) o dX9_judge_86 rfl ?_
            refine g_iconst (pc := 88) o dX9_judge_88 (-1) rfl ?_
            refine g_ic_eq (pc := 89) o 97 dX9_judge_89 (by decide) (fun c89 => ?_) (fun c89 => ?_)
            · skip
              refine g_aload_n (pc := 97) o dX9_judge_97 rfl ?_
              refine g_getR (pc := 98) o 5 rfl rfl rfl inX9 (by decide) lf_X9_33 dX9_judge_98 ?_
              refine g_iload_n (pc := 101) o dX9_judge_101 rfl ?_
              refine g_callVi (pc := 102) o (c_shsize k (by omega) ((C1.b6 k (by omega)).trans es)) mt_X4_size mv_X4_size lk_X9_309 rfl rfl rfl (by decide) rfl (Nat.le_of_ble_eq_true rfl) dX9_judge_102 ?_
              refine g_bipush (pc := 105) o dX9_judge_105 24 rfl ?_
              refine g_ic_eq (pc := 107) o 113 dX9_judge_107 (by decide) (fun c107 => ?_) (fun c107 => ?_)
              · skip
                have s24 := (nI_eq (a := sz) (b := 24) (by omega) (by decide)).mp c107
                have ρ2 := ρ
                simp only [if_pos s24] at ρ2
                clear ρ
                have ρ := ρ2
                cases e2 : fnF (slb (σ 0) (bX (σ 0) (nI j) dd) (fun m => σ 7 (k * 40 + m))) 12 0 with
                | some t =>
                  rw [e2] at ρ cl
                  obtain ⟨_, tl, _⟩ := fn_lt _ _ e2
                  refine g_aload_n (pc := 113) o dX9_judge_113 rfl ?_
                  refine g_iload_n (pc := 114) o dX9_judge_114 rfl ?_
                  refine g_iload (pc := 115) o dX9_judge_115 rfl ?_
                  refine g_callVi (pc := 117) o (cl) mt_X9_leastTermTooSeldom mv_X9_leastTermTooSeldom lk_X9_337 rfl rfl rfl (by decide) rfl (Nat.le_of_ble_eq_true rfl) dX9_judge_117 ?_
                  refine g_istore (pc := 120) o dX9_judge_120 (by decide) ?_
                  show ca_G Γ 7 _ _ [_, _, _, _, _, _, _] _
                  refine g_iload (pc := 122) o dX9_judge_122 rfl ?_
                  refine g_iconst (pc := 124) o dX9_judge_124 (-1) rfl ?_
                  refine g_ic_ne (pc := 125) o 132 dX9_judge_125 (by decide) (fun c125 => ?_) (fun c125 => ?_)
                  · skip
                    refine g_bipush (pc := 132) o dX9_judge_132 26 rfl ?_
                    refine g_iload (pc := 134) o dX9_judge_134 rfl ?_
                    refine g_iadd (pc := 136) o dX9_judge_136 ?_
                    exact g_iret o ρ dX9_judge_137 (Po.mk (show (26 : Int32) + nI t = nI (26 + t) from nI_add 26 t) (CR_D C w2) (kM_D w2))
                  · skip
                    exact absurd c125 (nI_ne_m1 (by omega))
                | none =>
                  rw [e2] at ρ cl
                  refine g_aload_n (pc := 113) o dX9_judge_113 rfl ?_
                  refine g_iload_n (pc := 114) o dX9_judge_114 rfl ?_
                  refine g_iload (pc := 115) o dX9_judge_115 rfl ?_
                  refine g_callVi (pc := 117) o (cl) mt_X9_leastTermTooSeldom mv_X9_leastTermTooSeldom lk_X9_337 rfl rfl rfl (by decide) rfl (Nat.le_of_ble_eq_true rfl) dX9_judge_117 ?_
                  refine g_istore (pc := 120) o dX9_judge_120 (by decide) ?_
                  show ca_G Γ 7 _ _ [_, _, _, _, _, _, _] _
                  refine g_iload (pc := 122) o dX9_judge_122 rfl ?_
                  refine g_iconst (pc := 124) o dX9_judge_124 (-1) rfl ?_
                  refine g_ic_ne (pc := 125) o 132 dX9_judge_125 (by decide) (fun c125 => ?_) (fun c125 => ?_)
                  · skip
                    exact absurd rfl c125
                  · skip
                    refine g_iconst (pc := 128) o dX9_judge_128 0 rfl ?_
                    refine g_goto (pc := 129) o 137 dX9_judge_129 (by decide) ?_
                    exact g_iret o ρ dX9_judge_137 (Po.mk rfl (CR_D C w2) (kM_D w2))
              · skip
                have s24 : ¬ sz = 24 := fun y => c107 (by rw [y]; rfl)
                refine g_bipush (pc := 110) o dX9_judge_110 25 rfl ?_
                exact g_iret o ρ dX9_judge_112 (Po.mk (show (25 : Int32) = if sz = 24 then _ else 25 by rw [if_neg s24]) (CR_D C w2) (kM_D w2))
            · skip
              exact absurd rfl c89

        · skip
          refine g_aload_n (pc := 44) o dX9_judge_44 rfl ?_
          refine g_iconst (pc := 45) o dX9_judge_45 0 rfl ?_
          refine g_callVi (pc := 46) o (c_finding 0 (by decide) h) mt_X9_finding mv_X9_finding lk_X9_58 rfl rfl rfl (by decide) rfl (Nat.le_of_ble_eq_true rfl) dX9_judge_46 ?_
          exact g_iret o ρ dX9_judge_49 (Po.eq (if_neg (fun z => bI_0.mp c41 z.2)) (Po_fnd C (by decide)))
    · skip
      refine g_aload_n (pc := 24) o dX9_judge_24 rfl ?_
      refine g_iconst (pc := 25) o dX9_judge_25 5 rfl ?_
      refine g_callVi (pc := 26) o (c_finding 5 (by decide) h) mt_X9_finding mv_X9_finding lk_X9_58 rfl rfl rfl (by decide) rfl (Nat.le_of_ble_eq_true rfl) dX9_judge_26 ?_
      exact g_iret o ρ dX9_judge_29 (Po.eq (if_neg (fun z => z (bI_n0.mp c21))) (Po_fnd C (by decide)))
  · skip
    refine g_aload_n (pc := 7) o dX9_judge_7 rfl ?_
    refine g_iconst (pc := 8) o dX9_judge_8 0 rfl ?_
    refine g_callVi (pc := 9) o (c_finding 0 (by decide) h) mt_X9_finding mv_X9_finding lk_X9_58 rfl rfl rfl (by decide) rfl (Nat.le_of_ble_eq_true rfl) dX9_judge_9 ?_
    exact g_iret o ρ dX9_judge_12 (Po.eq (if_neg (fun z => bI_0.mp c4 z)) (Po_fnd C (by decide)))
