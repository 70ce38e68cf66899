/-! ===== could, may, way, ways, bars: what they answer, and the class ===== -/
noncomputable def ssF (P : Nat → Prop) : Nat → Int32
  | 0 => 0
  | n + 1 => @ite Int32 (P n) (Classical.propDecidable _) (ssF P n ||| jshl 1 (nI n)) (ssF P n)
theorem ssF_y {P : Nat → Prop} {n : Nat} (h : P n) : ssF P (n + 1) = ssF P n ||| jshl 1 (nI n) := @if_pos _ (Classical.propDecidable _) h _ _ _
theorem ssF_n {P : Nat → Prop} {n : Nat} (h : ¬ P n) : ssF P (n + 1) = ssF P n := @if_neg _ (Classical.propDecidable _) h _ _ _
theorem ssF_b (P : Nat → Prop) {q : Nat} (hq : q < 32) : ∀ n, n ≤ 32 → (bt (ssF P n) q = true ↔ q < n ∧ P q)
  | 0, _ => by
    show bt 0 q = true ↔ _
    rw [b_0]
    exact ⟨fun z => (by cases z), fun ⟨z, _⟩ => by omega⟩
  | n + 1, hn => by
    have ih := ssF_b P hq n (by omega)
    by_cases w : P n
    · rw [ssF_y w, b_or, bt_sh (by omega) hq, Bool.or_eq_true, decide_eq_true_eq, ih]
      constructor
      · rintro (⟨a, b⟩ | rfl)
        · exact ⟨by omega, b⟩
        · exact ⟨by omega, w⟩
      · rintro ⟨a, b⟩
        by_cases y : q = n
        · exact Or.inr y
        · exact Or.inl ⟨by omega, b⟩
    · rw [ssF_n w, ih]
      constructor
      · rintro ⟨a, b⟩; exact ⟨by omega, b⟩
      · rintro ⟨a, b⟩
        refine ⟨?_, b⟩
        by_cases y : q = n
        · subst y; exact absurd b w
        · omega
theorem ssF_eq {P : Nat → Prop} {x : Int32} (h : ∀ q, q < 32 → (bt x q = true ↔ q < 8 ∧ P q)) : x = ssF P 8 := by
  apply b_ext
  intro i hi
  have a := h i hi
  have b := ssF_b P hi 8 (by omega)
  rw [← b] at a
  cases e1 : bt x i <;> cases e2 : bt (ssF P 8) i <;> simp_all
abbrev inW (s : Nat → Int32) (p : Int32) (d : Nat) (X : Int32) (m q : Nat) : Prop := ∃ c, RCH (auM s p d X) m c q ∧ cgF (auM s p d X) (23 - m) c q < 1000
noncomputable def mayF (s : Nat → Int32) (p : Int32) (d : Nat) (X : Int32) (m : Nat) : Int32 := ssF (inW s p d X m) 8
def waysF (s : Nat → Int32) (p : Int32) (d : Nat) (X : Int32) : Nat := capF (smF (fun q => if bt ((auM s p d X).lw 0) q = true then bwF (auM s p d X) 23 ((auM s p d X).nx (auM s p d X).c0 0 q) q else 0) 8)
def fnF (f : Nat → Bool) : Nat → Nat → Option Nat
  | 0, _ => none
  | n + 1, i => if f i = true then some i else fnF f n (i + 1)
theorem fnF_s (f : Nat → Bool) (n i : Nat) : fnF f (n + 1) i = if f i = true then some i else fnF f n (i + 1) := rfl
abbrev lessX (X : Int32) (t : Nat) : Int32 := X &&& (jshl 1 (nI t) ^^^ -1)
def brb (s : Nat → Int32) (p : Int32) (d : Nat) (X : Int32) (t : Nat) : Bool := bt X t && decide (fewF s p d (lessX X t) < 1000)
def barsF (s : Nat → Int32) (p : Int32) (d : Nat) (X : Int32) : Option Nat := if fewF s p d X < 1000 then none else fnF (brb s p d X) 12 0
abbrev bX (s : Nat → Int32) (p : Int32) (d : Nat) : Int32 := bndF s p d (nT s)
def wyS (s : Nat → Int32) (p : Int32) (d : Nat) (X : Int32) (f : Nat → Int32) : Nat → Int32 := fun j => if j < 24 then nI (wyF (auM s p d X) j).1 else f j
def wayV (p : Int32) (d : Nat) (σ : Sg) : Int32 × Sg := if fewF (σ 0) p d (bX (σ 0) p d) < 1000 then (nI (fewF (σ 0) p d (bX (σ 0) p d)), sf (su σ 8 1 1) 3 (wyS (σ 0) p d (bX (σ 0) p d) (σ 3))) else fnd σ 3
noncomputable def op_could (a b : Int32) (σ : Sg) : Int32 × Sg := if rng a 0 5 ∧ wh b then (mayF (σ 0) a (ca_n (b / 100)) 0 (ca_n (jrem b 100)), σ) else fnd σ 0
noncomputable def op_may (a b : Int32) (σ : Sg) : Int32 × Sg := if rng a 0 5 ∧ wh b then (mayF (σ 0) a (ca_n (b / 100)) (bX (σ 0) a (ca_n (b / 100))) (ca_n (jrem b 100)), σ) else fnd σ 0
def op_way (a b : Int32) (σ : Sg) : Int32 × Sg := if rng a 0 5 ∧ rng b 0 29 then wayV a (ca_n b) σ else fnd σ 0
def op_ways (a b : Int32) (σ : Sg) : Int32 × Sg := if rng a 0 5 ∧ rng b 0 29 then (nI (waysF (σ 0) a (ca_n b) (bX (σ 0) a (ca_n b))), σ) else fnd σ 0
def op_bars (a b : Int32) (σ : Sg) : Int32 × Sg := if rng a 0 5 ∧ rng b 0 29 then stV (barsF (σ 0) a (ca_n b) (bX (σ 0) a (ca_n b))) σ else fnd σ 0
abbrev offD (h h2 : Mem) : Prop := ∀ c, c < 38 ∨ 46 < c → h2.1 c = h.1 c
theorem inC_D {k : Nat} (hk : inC k = true) : k < 38 ∨ 46 < k := by
  simp only [inC, inB, Bool.or_eq_true, beq_iff_eq] at hk
  omega
theorem inB_D {k : Nat} (hk : inB 1 k = true) : k < 38 ∨ 46 < k := by
  simp only [inB, Bool.or_eq_true, beq_iff_eq] at hk
  omega
theorem CR_D {h h2 : Mem} {σ : Sg} (C : CR h σ) (e : offD h h2) : CR h2 σ := C.of (fun k hk => e k (inC_D hk))
theorem BR_D {h h2 : Mem} {s : Nat → Int32} (B : BR h 1 s) (e : offD h h2) : BR h2 1 s := B.of (fun k hk => e k (inB_D hk))
theorem kM_D {h h2 : Mem} (e : offD h h2) : kM h h2 := fun k hk => e k (by omega)
theorem in_CM {s : Nat → Int32} {p : Int32} {d : Nat} {X : Int32} (ha : ∀ t, t < 12 → askT s t < 4) {N : Nat} (eN : debF s X 12 = N) (hN : N < mlF (rxC s X) 12) {m q : Nat} (hm : m < 24) (hq : q < 8) : (∃ c, c ≤ N ∧ cbF (auC s p d X) m c q < 255) ↔ inW s p d X m q := by
  have S := sim_CM (s := s) (p := p) (d := d) (X := X) ha
  constructor
  · rintro ⟨c, _, h⟩
    obtain ⟨a, b⟩ := cb_lt.mp h
    obtain ⟨c2, r, a2⟩ := S.rc m hm c q hq a
    exact ⟨c2, a2, by rw [← S.cg (23 - m) (by omega) c c2 q r]; exact b⟩
  · rintro ⟨c, a, b⟩
    obtain ⟨c2, r, a2⟩ := S.sy.rc m hm c q hq a
    exact ⟨c2, rch_le eN hN m c2 q a2, cb_lt.mpr ⟨a2, by rw [S.cg (23 - m) (by omega) c2 c q r]; exact b⟩⟩
theorem deb_lt {s : Nat → Int32} {X : Int32} (ha : ∀ t, t < 12 → askT s t < 4) : debF s X 12 < mlF (rxC s X) 12 := vlF_lt 12 (fun t ht => ak_C (ha t ht))
set_option maxRecDepth 100000 in
set_option maxHeartbeats 400000 in
theorem c_placesOf {h : Mem} {s : Nat → Int32} (B : BR h 1 s) (I : SI s) (p : Int32) (d m : Nat) (hd : d < 30) (hm : m < 24) (X : Int32) (h5 : akN s X 12 ≤ 5) : Ct yX9_placesOfWays cX9_placesOfWays 4 (some .int) 4 98 [.ref 0, .int p, .int (nI (100 * d + m)), .int X] h (Qi (fun r h2 => r = mayF s p d X m ∧ offD h h2)) := by
  refine Ct.of (by decide) (Nat.le_of_ble_eq_true rfl) (fun Γ o ρ => ?_)
  show ca_G Γ 4 _ _ [_, _, _, _] _
  have ha : ∀ t, t < 12 → askT s t < 4 := fun t ht => ask_lt I.tm ht
  have l := ml_1024 h5
  have hN := deb_lt (X := X) ha
  have wd := wq d m (by omega) (by omega)
  have cd := c_dayOf (nI (100 * d + m)) h
  rw [wd.1] at cd
  refine g_aload_n (pc := 0) o dX9_placesOfWays_0 rfl ?_
  refine g_getR (pc := 1) o 6 rfl rfl rfl inX9 (by decide) lf_X9_40 dX9_placesOfWays_1 ?_
  refine g_aload_n (pc := 4) o dX9_placesOfWays_4 rfl ?_
  refine g_getR (pc := 5) o 0 rfl rfl rfl inX9 (by decide) lf_X9_10 dX9_placesOfWays_5 ?_
  refine g_iload_n (pc := 8) o dX9_placesOfWays_8 rfl ?_
  refine g_iload_n (pc := 9) o dX9_placesOfWays_9 rfl ?_
  refine g_callSi (pc := 10) o (cd) mt_X9_dayOf ms_X9_dayOf lk_X9_99 rfl (by decide) rfl (Nat.le_of_ble_eq_true rfl) dX9_placesOfWays_10 ?_
  refine g_iload_n (pc := 13) o dX9_placesOfWays_13 rfl ?_
  refine g_callVQv (pc := 14) o (c_prepare B I p d hd X h5) mt_X1_prepare mv_X1_prepare lk_X9_330 rfl rfl rfl (by decide) rfl (Nat.le_of_ble_eq_true rfl) dX9_placesOfWays_14 ?_
  rintro h1 w
  obtain ⟨P1, w1⟩ := w
  refine g_aload_n (pc := 17) o dX9_placesOfWays_17 rfl ?_
  refine g_getR (pc := 18) o 6 rfl rfl rfl inX9 (by decide) lf_X9_40 dX9_placesOfWays_18 ?_
  refine g_callVQv (pc := 21) o (c_forth (h := h1) h5 P1 (debF s X 12) rfl hN) mt_X1_exploreForth mv_X1_exploreForth lk_X9_358 rfl rfl rfl (by decide) rfl (Nat.le_of_ble_eq_true rfl) dX9_placesOfWays_21 ?_
  rintro h2 u
  obtain ⟨E2, u1⟩ := u
  have P2 : PR h2 s p d X := P1.of (fun c hc => u1 c (by omega))
  refine g_aload_n (pc := 24) o dX9_placesOfWays_24 rfl ?_
  refine g_getR (pc := 25) o 6 rfl rfl rfl inX9 (by decide) lf_X9_40 dX9_placesOfWays_25 ?_
  refine g_callVQv (pc := 28) o (c_back (h := h2) h5 P2 (debF s X 12) rfl hN E2) mt_X1_exploreBack mv_X1_exploreBack lk_X9_184 rfl rfl rfl (by decide) rfl (Nat.le_of_ble_eq_true rfl) dX9_placesOfWays_28 ?_
  rintro h3 v
  obtain ⟨E3, v1⟩ := v
  have P3 : PR h3 s p d X := P2.of (fun c hc => v1 c (by omega))
  have ch := c_hourOf (nI (100 * d + m)) h3
  rw [wd.2] at ch
  refine g_aload_n (pc := 31) o dX9_placesOfWays_31 rfl ?_
  refine g_getR (pc := 32) o 6 rfl rfl rfl inX9 (by decide) lf_X9_40 dX9_placesOfWays_32 ?_
  refine g_iload_n (pc := 35) o dX9_placesOfWays_35 rfl ?_
  refine g_callSi (pc := 36) o (ch) mt_X9_hourOf ms_X9_hourOf lk_X9_102 rfl (by decide) rfl (Nat.le_of_ble_eq_true rfl) dX9_placesOfWays_36 ?_
  refine g_callVQi (pc := 39) o (c_placesIn (h := h3) P3.2.2.1 (by omega) (auC s p d X) m hm (E3 m hm)) mt_X1_placesIn mv_X1_placesIn lk_X9_361 rfl rfl rfl (by decide) rfl (Nat.le_of_ble_eq_true rfl) dX9_placesOfWays_39 ?_
  rintro r h4 y
  obtain ⟨rfl, y⟩ := y
  exact g_iret o ρ dX9_placesOfWays_42 ⟨_, rfl, ssF_eq (fun q hq => by rw [y q hq]; exact ⟨fun z => ⟨z.1, (in_CM ha rfl hN hm z.1).mp z.2⟩, fun z => ⟨z.1, (in_CM ha rfl hN hm z.1).mpr z.2⟩⟩), fun c hc => by rw [v1 c (by omega), u1 c (by omega), w1 c (by omega) (by omega) (by omega) (by omega)]⟩
set_option maxRecDepth 100000 in
set_option maxHeartbeats 400000 in
theorem co_could {h : Mem} {σ : Sg} (C : CR h σ) (I : Iv σ) (a b : Int32) : Ct yX9_could cX9_could 3 (some .int) 5 121 [.ref 0, .int a, .int b] h (Po h (op_could a b σ)) := by
  refine Ct.of (by decide) (Nat.le_of_ble_eq_true rfl) (fun Γ o ρ => ?_)
  show ca_G Γ 3 _ _ [_, _, _] _
  refine g_iload_n (pc := 0) o dX9_could_0 rfl ?_
  refine g_callSi (pc := 1) o (c_isPerson a h) mt_X9_isPerson ms_X9_isPerson lk_X9_83 rfl (by decide) rfl (Nat.le_of_ble_eq_true rfl) dX9_could_1 ?_
  refine g_if_eq (pc := 4) o 14 dX9_could_4 (by decide) (fun c4 => ?_) (fun c4 => ?_)
  · skip
    refine g_aload_n (pc := 14) o dX9_could_14 rfl ?_
    refine g_iconst (pc := 15) o dX9_could_15 0 rfl ?_
    refine g_callVi (pc := 16) o (c_finding 0 (by decide) h) mt_X9_finding mv_X9_finding lk_X9_58 rfl rfl rfl (by decide) rfl (Nat.le_of_ble_eq_true rfl) dX9_could_16 ?_
    exact g_iret o ρ dX9_could_19 (Po.eq (if_neg (fun z => bI_0.mp c4 z.1)) (Po_fnd C (by decide)))
  · skip
    refine g_iload_n (pc := 7) o dX9_could_7 rfl ?_
    refine g_callSi (pc := 8) o (c_isWhen b h) mt_X9_isWhen ms_X9_isWhen lk_X9_86 rfl (by decide) rfl (Nat.le_of_ble_eq_true rfl) dX9_could_8 ?_
    refine g_if_ne (pc := 11) o 20 dX9_could_11 (by decide) (fun c11 => ?_) (fun c11 => ?_)
    · skip
      have k1 := bI_n0.mp c4
      have k2 := bI_n0.mp c11
      have eq : op_could a b σ = (mayF (σ 0) a (ca_n (b / 100)) 0 (ca_n (jrem b 100)), σ) := if_pos ⟨k1, k2⟩
      rw [eq] at ρ
      obtain ⟨j, hj, rfl, ej⟩ := n_of (x := a) (b := 5) k1 (by decide)
      obtain ⟨d, m, hd, hm, rfl, ed, em⟩ := wh_of k2
      rw [ed, em, show ca_n (nI d) = d from nI_clamp (by omega), show ca_n (nI m) = m from nI_clamp (by omega)] at ρ
      refine g_aload_n (pc := 20) o dX9_could_20 rfl ?_
      refine g_iload_n (pc := 21) o dX9_could_21 rfl ?_
      refine g_iload_n (pc := 22) o dX9_could_22 rfl ?_
      refine g_iconst (pc := 23) o dX9_could_23 0 rfl ?_
      refine g_callVQi (pc := 24) o (c_placesOf C.1 I.1 (nI j) d m hd hm 0 (five I.1 (by omega) (sub_0 (σ 0) (nI j) d))) mt_X9_placesOfWays mv_X9_placesOfWays lk_X9_123 rfl rfl rfl (by decide) rfl (Nat.le_of_ble_eq_true rfl) dX9_could_24 ?_
      rintro r h2 w
      obtain ⟨rfl, w⟩ := w
      exact g_iret o ρ dX9_could_27 (Po.mk rfl (CR_D C w) (kM_D w))
    · skip
      refine g_aload_n (pc := 14) o dX9_could_14 rfl ?_
      refine g_iconst (pc := 15) o dX9_could_15 0 rfl ?_
      refine g_callVi (pc := 16) o (c_finding 0 (by decide) h) mt_X9_finding mv_X9_finding lk_X9_58 rfl rfl rfl (by decide) rfl (Nat.le_of_ble_eq_true rfl) dX9_could_16 ?_
      exact g_iret o ρ dX9_could_19 (Po.eq (if_neg (fun z => bI_0.mp c11 z.2)) (Po_fnd C (by decide)))
set_option maxRecDepth 100000 in
set_option maxHeartbeats 400000 in
theorem co_may {h : Mem} {σ : Sg} (C : CR h σ) (I : Iv σ) (a b : Int32) : Ct yX9_may cX9_may 3 (some .int) 5 121 [.ref 0, .int a, .int b] h (Po h (op_may a b σ)) := by
  refine Ct.of (by decide) (Nat.le_of_ble_eq_true rfl) (fun Γ o ρ => ?_)
  show ca_G Γ 3 _ _ [_, _, _] _
  refine g_iload_n (pc := 0) o dX9_may_0 rfl ?_
  refine g_callSi (pc := 1) o (c_isPerson a h) mt_X9_isPerson ms_X9_isPerson lk_X9_83 rfl (by decide) rfl (Nat.le_of_ble_eq_true rfl) dX9_may_1 ?_
  refine g_if_eq (pc := 4) o 14 dX9_may_4 (by decide) (fun c4 => ?_) (fun c4 => ?_)
  · skip
    refine g_aload_n (pc := 14) o dX9_may_14 rfl ?_
    refine g_iconst (pc := 15) o dX9_may_15 0 rfl ?_
    refine g_callVi (pc := 16) o (c_finding 0 (by decide) h) mt_X9_finding mv_X9_finding lk_X9_58 rfl rfl rfl (by decide) rfl (Nat.le_of_ble_eq_true rfl) dX9_may_16 ?_
    exact g_iret o ρ dX9_may_19 (Po.eq (if_neg (fun z => bI_0.mp c4 z.1)) (Po_fnd C (by decide)))
  · skip
    refine g_iload_n (pc := 7) o dX9_may_7 rfl ?_
    refine g_callSi (pc := 8) o (c_isWhen b h) mt_X9_isWhen ms_X9_isWhen lk_X9_86 rfl (by decide) rfl (Nat.le_of_ble_eq_true rfl) dX9_may_8 ?_
    refine g_if_ne (pc := 11) o 20 dX9_may_11 (by decide) (fun c11 => ?_) (fun c11 => ?_)
    · skip
      have k1 := bI_n0.mp c4
      have k2 := bI_n0.mp c11
      have eq : op_may a b σ = (mayF (σ 0) a (ca_n (b / 100)) (bX (σ 0) a (ca_n (b / 100))) (ca_n (jrem b 100)), σ) := if_pos ⟨k1, k2⟩
      rw [eq] at ρ
      obtain ⟨j, hj, rfl, ej⟩ := n_of (x := a) (b := 5) k1 (by decide)
      obtain ⟨d, m, hd, hm, rfl, ed, em⟩ := wh_of k2
      rw [ed, em, show ca_n (nI d) = d from nI_clamp (by omega), show ca_n (nI m) = m from nI_clamp (by omega)] at ρ
      have cd := c_dayOf (nI (100 * d + m)) h
      rw [ed] at cd
      refine g_aload_n (pc := 20) o dX9_may_20 rfl ?_
      refine g_iload_n (pc := 21) o dX9_may_21 rfl ?_
      refine g_iload_n (pc := 22) o dX9_may_22 rfl ?_
      refine g_aload_n (pc := 23) o dX9_may_23 rfl ?_
      refine g_getR (pc := 24) o 0 rfl rfl rfl inX9 (by decide) lf_X9_10 dX9_may_24 ?_
      refine g_getR (pc := 27) o 2 rfl rfl rfl inX0 (by decide) lf_X9_137 dX9_may_27 ?_
      refine g_iload_n (pc := 30) o dX9_may_30 rfl ?_
      refine g_iload_n (pc := 31) o dX9_may_31 rfl ?_
      refine g_callSi (pc := 32) o (cd) mt_X9_dayOf ms_X9_dayOf lk_X9_99 rfl (by decide) rfl (Nat.le_of_ble_eq_true rfl) dX9_may_32 ?_
      refine g_callVi (pc := 35) o (c_binding C.1 I.1.terms (nI j) d hd) mt_X7_binding mv_X7_binding lk_X9_167 rfl rfl rfl (by decide) rfl (Nat.le_of_ble_eq_true rfl) dX9_may_35 ?_
      refine g_callVQi (pc := 38) o (c_placesOf C.1 I.1 (nI j) d m hd hm (bX (σ 0) (nI j) d) (five I.1 (by omega) (sub_self (σ 0) (nI j) d))) mt_X9_placesOfWays mv_X9_placesOfWays lk_X9_123 rfl rfl rfl (by decide) rfl (Nat.le_of_ble_eq_true rfl) dX9_may_38 ?_
      rintro r h2 w
      obtain ⟨rfl, w⟩ := w
      exact g_iret o ρ dX9_may_41 (Po.mk rfl (CR_D C w) (kM_D w))
    · skip
      refine g_aload_n (pc := 14) o dX9_may_14 rfl ?_
      refine g_iconst (pc := 15) o dX9_may_15 0 rfl ?_
      refine g_callVi (pc := 16) o (c_finding 0 (by decide) h) mt_X9_finding mv_X9_finding lk_X9_58 rfl rfl rfl (by decide) rfl (Nat.le_of_ble_eq_true rfl) dX9_may_16 ?_
      exact g_iret o ρ dX9_may_19 (Po.eq (if_neg (fun z => bI_0.mp c11 z.2)) (Po_fnd C (by decide)))
theorem CR_way {h h2 : Mem} {σ : Sg} {f : Nat → Int32} (C : CR h σ) (e9 : h2.1 0 9 = 1) (e2 : h2.1 0 2 = h.1 0 2) (e50 : ∀ j, j < 24 → h2.1 50 j = f j) (e : ∀ c, ¬ c = 0 → c < 38 → h2.1 c = h.1 c) : CR h2 (sf (su σ 8 1 1) 3 f) := by
  obtain ⟨a1, a2, a3, a4, a5, a6, a7, a8, a9, a10, a11⟩ := C
  have b15 : ∀ k, inB 15 k = true → h2.1 k = h.1 k := fun k hk => e k (fun z => by subst z; revert hk; decide) (by simp only [inB, Bool.or_eq_true, beq_iff_eq] at hk; omega)
  have b1 : ∀ k, inB 1 k = true → h2.1 k = h.1 k := fun k hk => e k (fun z => by subst z; revert hk; decide) (by simp only [inB, Bool.or_eq_true, beq_iff_eq] at hk; omega)
  refine ⟨a1.of b1, fun j hj => ?_, e2.trans a3, fun z => (a4 z).of b15, e9, e50, ?_, fun j hj => ?_, fun j hj => ?_, fun j hj => ?_, fun j hj => ?_⟩
  · rw [e 29 (by decide) (by decide)]; exact a2 j hj
  · rw [e 30 (by decide) (by decide)]; exact a7
  · rw [e 31 (by decide) (by decide)]; exact a8 j hj
  · rw [e 35 (by decide) (by decide)]; exact a9 j hj
  · rw [e 36 (by decide) (by decide)]; exact a10 j hj
  · rw [e 37 (by decide) (by decide)]; exact a11 j hj
set_option maxRecDepth 100000 in
set_option maxHeartbeats 400000 in
theorem co_way {h : Mem} {σ : Sg} (C : CR h σ) (I : Iv σ) (a b : Int32) : Ct yX9_way cX9_way 3 (some .int) 5 121 [.ref 0, .int a, .int b] h (Po h (op_way a b σ)) := by
  refine Ct.of (by decide) (Nat.le_of_ble_eq_true rfl) (fun Γ o ρ => ?_)
  show ca_G Γ 3 _ _ [_, _, _] _
  refine g_iload_n (pc := 0) o dX9_way_0 rfl ?_
  refine g_callSi (pc := 1) o (c_isPerson a h) mt_X9_isPerson ms_X9_isPerson lk_X9_83 rfl (by decide) rfl (Nat.le_of_ble_eq_true rfl) dX9_way_1 ?_
  refine g_if_eq (pc := 4) o 14 dX9_way_4 (by decide) (fun c4 => ?_) (fun c4 => ?_)
  · skip
    refine g_aload_n (pc := 14) o dX9_way_14 rfl ?_
    refine g_iconst (pc := 15) o dX9_way_15 0 rfl ?_
    refine g_callVi (pc := 16) o (c_finding 0 (by decide) h) mt_X9_finding mv_X9_finding lk_X9_58 rfl rfl rfl (by decide) rfl (Nat.le_of_ble_eq_true rfl) dX9_way_16 ?_
    exact g_iret o ρ dX9_way_19 (Po.eq (if_neg (fun z => bI_0.mp c4 z.1)) (Po_fnd C (by decide)))
  · skip
    refine g_iload_n (pc := 7) o dX9_way_7 rfl ?_
    refine g_callSi (pc := 8) o (c_isDay b h) mt_X9_isDay ms_X9_isDay lk_X9_126 rfl (by decide) rfl (Nat.le_of_ble_eq_true rfl) dX9_way_8 ?_
    refine g_if_ne (pc := 11) o 20 dX9_way_11 (by decide) (fun c11 => ?_) (fun c11 => ?_)
    · skip
      have k1 := bI_n0.mp c4
      have k2 := bI_n0.mp c11
      have eq : op_way a b σ = wayV a (ca_n b) σ := if_pos ⟨k1, k2⟩
      rw [eq] at ρ
      obtain ⟨j, hj, rfl, ej⟩ := n_of (x := a) (b := 5) k1 (by decide)
      obtain ⟨d, hd, rfl, ed⟩ := n_of (x := b) (b := 29) k2 (by decide)
      rw [ed] at ρ
      have h5 := five I.1 (show j < 6 by omega) (sub_self (σ 0) (nI j) d)
      have ha : ∀ t, t < 12 → askT (σ 0) t < 4 := fun t ht => ask_lt I.1.tm ht
      have hN := deb_lt (X := bX (σ 0) (nI j) d) ha
      refine g_aload_n (pc := 20) o dX9_way_20 rfl ?_
      refine g_iload_n (pc := 21) o dX9_way_21 rfl ?_
      refine g_iload_n (pc := 22) o dX9_way_22 rfl ?_
      refine g_aload_n (pc := 23) o dX9_way_23 rfl ?_
      refine g_getR (pc := 24) o 0 rfl rfl rfl inX9 (by decide) lf_X9_10 dX9_way_24 ?_
      refine g_getR (pc := 27) o 2 rfl rfl rfl inX0 (by decide) lf_X9_137 dX9_way_27 ?_
      refine g_iload_n (pc := 30) o dX9_way_30 rfl ?_
      refine g_iload_n (pc := 31) o dX9_way_31 rfl ?_
      refine g_callVi (pc := 32) o (c_binding C.1 I.1.terms (nI j) d (by omega)) mt_X7_binding mv_X7_binding lk_X9_167 rfl rfl rfl (by decide) rfl (Nat.le_of_ble_eq_true rfl) dX9_way_32 ?_
      refine g_callVQi (pc := 35) o (c_isThereAWay C.1 I.1 (nI j) d (by omega) (bX (σ 0) (nI j) d) h5) mt_X9_isThereAWay mv_X9_isThereAWay lk_X9_180 rfl rfl rfl (by decide) rfl (Nat.le_of_ble_eq_true rfl) dX9_way_35 ?_
      rintro r h1 w
      obtain ⟨er, P1, R1, w⟩ := w
      rw [er]
      have w2 : offD h h1 := fun c hc => w c (by omega) (by omega) (by omega) (by omega) (by omega)
      refine g_if_ne (pc := 38) o 47 dX9_way_38 (by decide) (fun c38 => ?_) (fun c38 => ?_)
      · skip
        have z := bI_n0.mp c38
        have eq2 : wayV (nI j) d σ = (nI (fewF (σ 0) (nI j) d (bX (σ 0) (nI j) d)), sf (su σ 8 1 1) 3 (wyS (σ 0) (nI j) d (bX (σ 0) (nI j) d) (σ 3))) := if_pos z
        rw [eq2] at ρ
        have S := sim_CM (s := σ 0) (p := nI j) (d := d) (X := bX (σ 0) (nI j) d) ha
        obtain ⟨s0, s1⟩ := wy_sim S.sy (show bsF (auM (σ 0) (nI j) d (bX (σ 0) (nI j) d)) < 1000 from z)
        have zc : bsF (auC (σ 0) (nI j) d (bX (σ 0) (nI j) d)) < 1000 := by rw [← s0]; exact z
        refine g_aload_n (pc := 47) o dX9_way_47 rfl ?_
        refine g_getR (pc := 48) o 6 rfl rfl rfl inX9 (by decide) lf_X9_40 dX9_way_48 ?_
        refine g_callVQv (pc := 51) o (c_back (h := h1) h5 P1 (debF (σ 0) (bX (σ 0) (nI j) d) 12) rfl hN R1) mt_X1_exploreBack mv_X1_exploreBack lk_X9_184 rfl rfl rfl (by decide) rfl (Nat.le_of_ble_eq_true rfl) dX9_way_51 ?_
        rintro h2 v
        obtain ⟨E2, v⟩ := v
        have P2 : PR (mw h2 0 9 1) (σ 0) (nI j) d (bX (σ 0) (nI j) d) := P1.of (fun c hc => (mw_ne _ _ _ (by omega)).trans (v c (by omega)))
        refine g_aload_n (pc := 54) o dX9_way_54 rfl ?_
        refine g_iconst (pc := 55) o dX9_way_55 1 rfl ?_
        refine g_put (pc := 56) o 9 rfl rfl rfl inX9 tyX9_ok nmX9 (by decide) lf_X9_187 rfl rfl rfl dX9_way_56 ?_
        refine g_aload_n (pc := 59) o dX9_way_59 rfl ?_
        refine g_getR (pc := 60) o 6 rfl rfl rfl inX9 (by decide) lf_X9_40 dX9_way_60 ?_
        refine g_aload_n (pc := 63) o dX9_way_63 rfl ?_
        refine g_getR (pc := 64) o 8 rfl rfl rfl inX9 (by decide) lf_X9_51 dX9_way_64 ?_
        refine g_callVQi (pc := 67) o (c_tellBest (h := mw h2 0 9 1) h5 P2 (debF (σ 0) (bX (σ 0) (nI j) d) 12) rfl hN E2 zc) mt_X1_tellBest mv_X1_tellBest lk_X9_191 rfl rfl rfl (by decide) rfl (Nat.le_of_ble_eq_true rfl) dX9_way_67 ?_
        rintro r h3 u
        obtain ⟨rfl, u1, u2⟩ := u
        have f0 : h3.1 0 = upd (h.1 0) 9 1 := by rw [u2 0 (by decide) (by decide), mw_same, v 0 (by decide), w2 0 (by decide)]
        exact g_iret o ρ dX9_way_70 (Po.mk (by show nI _ = nI _; rw [← s0]; rfl) (CR_way C (by rw [f0]; rfl) (by rw [f0]; rfl) (fun j2 hj2 => by rw [u1 j2 hj2]; unfold wyS; rw [if_pos hj2, (s1 j2 (by omega)).1]) (fun c hc1 hc2 => by rw [u2 c (by omega) (by omega), mw_ne _ _ _ hc1, v c (by omega), w2 c (by omega)])) (fun c hc => by rw [u2 c (by omega) (by omega), mw_ne _ _ _ (by omega), v c (by omega), w2 c (by omega)]))
      · skip
        have z := bI_0.mp c38
        refine g_aload_n (pc := 41) o dX9_way_41 rfl ?_
        refine g_iconst (pc := 42) o dX9_way_42 3 rfl ?_
        refine g_callVi (pc := 43) o (c_finding 3 (by decide) h1) mt_X9_finding mv_X9_finding lk_X9_58 rfl rfl rfl (by decide) rfl (Nat.le_of_ble_eq_true rfl) dX9_way_43 ?_
        exact g_iret o ρ dX9_way_46 (Po.eq (if_neg z) (Po_fnd2 (CR_D C w2) (kM_D w2) (by decide)))
    · skip
      refine g_aload_n (pc := 14) o dX9_way_14 rfl ?_
      refine g_iconst (pc := 15) o dX9_way_15 0 rfl ?_
      refine g_callVi (pc := 16) o (c_finding 0 (by decide) h) mt_X9_finding mv_X9_finding lk_X9_58 rfl rfl rfl (by decide) rfl (Nat.le_of_ble_eq_true rfl) dX9_way_16 ?_
      exact g_iret o ρ dX9_way_19 (Po.eq (if_neg (fun z => bI_0.mp c11 z.2)) (Po_fnd C (by decide)))
theorem ways_C {s : Nat → Int32} {p : Int32} {d : Nat} {X : Int32} (ha : ∀ t, t < 12 → askT s t < 4) {N : Nat} (eN : debF s X 12 = N) (hN : N < mlF (rxC s X) 12) : capF (smF (fun q => fwF (auC s p d X) (N + 1) 23 0 q) 8) = waysF s p d X := by
  have S := sim_CM (s := s) (p := p) (d := d) (X := X) ha
  have c0 : (auC s p d X).c0 = N := eN
  rw [count_eq (auC s p d X) (N + 1) (by rw [c0]; omega) (fun c m q hc _ _ => Nat.lt_succ_of_le (Nat.le_trans (nx_le (by omega)) (Nat.le_of_lt_succ hc)))]
  unfold waysF
  refine congrArg capF (smF_c 8 (fun q hq => ?_))
  rw [S.bw 23 (by omega) _ _ q (S.rn _ _ 0 q (by omega) hq S.r0)]
  rfl
theorem ways_0 {s : Nat → Int32} {p : Int32} {d : Nat} {X : Int32} (ha : ∀ t, t < 12 → askT s t < 4) (h : ¬ fewF s p d X < 1000) : waysF s p d X = 0 := by
  rw [← ways_C ha rfl (deb_lt ha), sm_z 8 (fun q hq => ?_), cap_0]
  exact Classical.byContradiction (fun z => h ((few_iff ha).mpr ⟨q, hq, fw_rch 23 0 q z⟩))
set_option maxRecDepth 100000 in
set_option maxHeartbeats 400000 in
theorem co_ways {h : Mem} {σ : Sg} (C : CR h σ) (I : Iv σ) (a b : Int32) : Ct yX9_ways cX9_ways 3 (some .int) 5 121 [.ref 0, .int a, .int b] h (Po h (op_ways a b σ)) := by
  refine Ct.of (by decide) (Nat.le_of_ble_eq_true rfl) (fun Γ o ρ => ?_)
  show ca_G Γ 3 _ _ [_, _, _] _
  refine g_iload_n (pc := 0) o dX9_ways_0 rfl ?_
  refine g_callSi (pc := 1) o (c_isPerson a h) mt_X9_isPerson ms_X9_isPerson lk_X9_83 rfl (by decide) rfl (Nat.le_of_ble_eq_true rfl) dX9_ways_1 ?_
  refine g_if_eq (pc := 4) o 14 dX9_ways_4 (by decide) (fun c4 => ?_) (fun c4 => ?_)
  · skip
    refine g_aload_n (pc := 14) o dX9_ways_14 rfl ?_
    refine g_iconst (pc := 15) o dX9_ways_15 0 rfl ?_
    refine g_callVi (pc := 16) o (c_finding 0 (by decide) h) mt_X9_finding mv_X9_finding lk_X9_58 rfl rfl rfl (by decide) rfl (Nat.le_of_ble_eq_true rfl) dX9_ways_16 ?_
    exact g_iret o ρ dX9_ways_19 (Po.eq (if_neg (fun z => bI_0.mp c4 z.1)) (Po_fnd C (by decide)))
  · skip
    refine g_iload_n (pc := 7) o dX9_ways_7 rfl ?_
    refine g_callSi (pc := 8) o (c_isDay b h) mt_X9_isDay ms_X9_isDay lk_X9_126 rfl (by decide) rfl (Nat.le_of_ble_eq_true rfl) dX9_ways_8 ?_
    refine g_if_ne (pc := 11) o 20 dX9_ways_11 (by decide) (fun c11 => ?_) (fun c11 => ?_)
    · skip
      have k1 := bI_n0.mp c4
      have k2 := bI_n0.mp c11
      have eq : op_ways a b σ = (nI (waysF (σ 0) a (ca_n b) (bX (σ 0) a (ca_n b))), σ) := if_pos ⟨k1, k2⟩
      rw [eq] at ρ
      obtain ⟨j, hj, rfl, ej⟩ := n_of (x := a) (b := 5) k1 (by decide)
      obtain ⟨d, hd, rfl, ed⟩ := n_of (x := b) (b := 29) k2 (by decide)
      rw [ed] at ρ
      have h5 := five I.1 (show j < 6 by omega) (sub_self (σ 0) (nI j) d)
      have ha : ∀ t, t < 12 → askT (σ 0) t < 4 := fun t ht => ask_lt I.1.tm ht
      have hN := deb_lt (X := bX (σ 0) (nI j) d) ha
      refine g_aload_n (pc := 20) o dX9_ways_20 rfl ?_
      refine g_iload_n (pc := 21) o dX9_ways_21 rfl ?_
      refine g_iload_n (pc := 22) o dX9_ways_22 rfl ?_
      refine g_aload_n (pc := 23) o dX9_ways_23 rfl ?_
      refine g_getR (pc := 24) o 0 rfl rfl rfl inX9 (by decide) lf_X9_10 dX9_ways_24 ?_
      refine g_getR (pc := 27) o 2 rfl rfl rfl inX0 (by decide) lf_X9_137 dX9_ways_27 ?_
      refine g_iload_n (pc := 30) o dX9_ways_30 rfl ?_
      refine g_iload_n (pc := 31) o dX9_ways_31 rfl ?_
      refine g_callVi (pc := 32) o (c_binding C.1 I.1.terms (nI j) d (by omega)) mt_X7_binding mv_X7_binding lk_X9_167 rfl rfl rfl (by decide) rfl (Nat.le_of_ble_eq_true rfl) dX9_ways_32 ?_
      refine g_callVQi (pc := 35) o (c_isThereAWay C.1 I.1 (nI j) d (by omega) (bX (σ 0) (nI j) d) h5) mt_X9_isThereAWay mv_X9_isThereAWay lk_X9_180 rfl rfl rfl (by decide) rfl (Nat.le_of_ble_eq_true rfl) dX9_ways_35 ?_
      rintro r h1 w
      obtain ⟨er, P1, R1, w⟩ := w
      rw [er]
      have w2 : offD h h1 := fun c hc => w c (by omega) (by omega) (by omega) (by omega) (by omega)
      refine g_if_eq (pc := 38) o 51 dX9_ways_38 (by decide) (fun c38 => ?_) (fun c38 => ?_)
      · skip
        have z := bI_0.mp c38
        refine g_iconst (pc := 51) o dX9_ways_51 0 rfl ?_
        exact g_iret o ρ dX9_ways_52 (Po.mk (by show (0 : Int32) = nI _; rw [ways_0 ha z]; rfl) (CR_D C w2) (kM_D w2))
      · skip
        have z := bI_n0.mp c38
        refine g_aload_n (pc := 41) o dX9_ways_41 rfl ?_
        refine g_getR (pc := 42) o 6 rfl rfl rfl inX9 (by decide) lf_X9_40 dX9_ways_42 ?_
        refine g_callVQi (pc := 45) o (c_howMany (h := h1) I.1 h5 P1 (debF (σ 0) (bX (σ 0) (nI j) d) 12) rfl hN R1) mt_X1_howMany mv_X1_howMany lk_X9_195 rfl rfl rfl (by decide) rfl (Nat.le_of_ble_eq_true rfl) dX9_ways_45 ?_
        rintro r h2 v
        obtain ⟨rfl, v⟩ := v
        have v2 : offD h h2 := fun c hc => (v c (by omega) (by omega)).trans (w2 c hc)
        refine g_goto (pc := 48) o 52 dX9_ways_48 (by decide) ?_
        exact g_iret o ρ dX9_ways_52 (Po.mk (by show nI _ = nI _; rw [ways_C ha rfl hN]) (CR_D C v2) (kM_D v2))
    · skip
      refine g_aload_n (pc := 14) o dX9_ways_14 rfl ?_
      refine g_iconst (pc := 15) o dX9_ways_15 0 rfl ?_
      refine g_callVi (pc := 16) o (c_finding 0 (by decide) h) mt_X9_finding mv_X9_finding lk_X9_58 rfl rfl rfl (by decide) rfl (Nat.le_of_ble_eq_true rfl) dX9_ways_16 ?_
      exact g_iret o ρ dX9_ways_19 (Po.eq (if_neg (fun z => bI_0.mp c11 z.2)) (Po_fnd C (by decide)))
set_option maxRecDepth 100000 in
set_option maxHeartbeats 400000 in
theorem lp_bars {Γ : Fr} (o : ca_O Γ cX9_bars 5 RX9 5 121) {h0 : Mem} {σ : Sg} (C : CR h0 σ) (I : SI (σ 0)) (j d : Nat) (hj : j < 6) (hd : d < 30) (z : Option Nat) (ρ : ca_R Γ (some .int) (Po h0 (stV z σ))) : ∀ t, t ≤ 12 → ∀ (xt : Int32) (h : Mem), xt = nI t → fnF (brb (σ 0) (nI j) d (bX (σ 0) (nI j) d)) (12 - t) t = z → offD h0 h → ca_G Γ 5 h 52 [some (.ref 0), some (.int (nI j)), some (.int (nI d)), some (.int (bX (σ 0) (nI j) d)), some (.int xt)] [] := by
  refine downI 12 (fun t ht ih => ?_)
  rintro xt h rfl ez ew
  have C2 : CR h σ := CR_D C ew
  refine g_iload (pc := 52) o dX9_bars_52 rfl ?_
  refine g_bipush (pc := 54) o dX9_bars_54 12 rfl ?_
  refine g_ic_ge (pc := 56) o 94 dX9_bars_56 (by decide) (fun c56 => ?_) (fun c56 => ?_)
  · skip
    have q : t = 12 := ge8 (n := 12) (by decide) (by omega) c56
    subst q
    have ez : none = z := ez
    subst ez
    refine g_aload_n (pc := 94) o dX9_bars_94 rfl ?_
    refine g_iconst (pc := 95) o dX9_bars_95 3 rfl ?_
    refine g_callVi (pc := 96) o (c_finding 3 (by decide) h) mt_X9_finding mv_X9_finding lk_X9_58 rfl rfl rfl (by decide) rfl (Nat.le_of_ble_eq_true rfl) dX9_bars_96 ?_
    exact g_iret o ρ dX9_bars_99 (Po_fnd2 C2 (kM_D ew) (by decide))
  · skip
    have q : t < 12 := lt8 (n := 12) (by decide) (by omega) c56
    rw [show 12 - t = (12 - (t + 1)) + 1 by omega, fnF_s] at ez
    refine g_iload_n (pc := 59) o dX9_bars_59 rfl ?_
    refine g_iload (pc := 60) o dX9_bars_60 rfl ?_
    refine g_callSi (pc := 62) o (c_has (bX (σ 0) (nI j) d) t (by omega) h) mt_X9_has ms_X9_has lk_X9_198 rfl (by decide) rfl (Nat.le_of_ble_eq_true rfl) dX9_bars_62 ?_
    refine g_if_eq (pc := 65) o 88 dX9_bars_65 (by decide) (fun c65 => ?_) (fun c65 => ?_)
    · skip
      have y := bI_0.mp c65
      rw [if_neg (fun u => y (by unfold brb at u; rw [Bool.and_eq_true] at u; exact u.1))] at ez
      refine g_iinc (pc := 88) o dX9_bars_88 rfl 1 rfl (by decide) ?_
      show ca_G Γ 5 _ _ [_, _, _, _, _] _
      refine g_goto (pc := 91) o 52 dX9_bars_91 (by decide) ?_
      exact ih q _ h (nI_1 t) ez ew
    · skip
      have y := bI_n0.mp c65
      have h5 := five I hj (sub_and (sub_self (σ 0) (nI j) d) (jshl 1 (nI t) ^^^ -1))
      refine g_aload_n (pc := 68) o dX9_bars_68 rfl ?_
      refine g_iload_n (pc := 69) o dX9_bars_69 rfl ?_
      refine g_iload_n (pc := 70) o dX9_bars_70 rfl ?_
      refine g_iload_n (pc := 71) o dX9_bars_71 rfl ?_
      refine g_iconst (pc := 72) o dX9_bars_72 1 rfl ?_
      refine g_iload (pc := 73) o dX9_bars_73 rfl ?_
      refine g_ishl (pc := 75) o dX9_bars_75 ?_
      refine g_iconst (pc := 76) o dX9_bars_76 (-1) rfl ?_
      refine g_ixor (pc := 77) o dX9_bars_77 ?_
      refine g_iand (pc := 78) o dX9_bars_78 ?_
      refine g_callVQi (pc := 79) o (c_isThereAWay C2.1 I (nI j) d hd (lessX (bX (σ 0) (nI j) d) t) h5) mt_X9_isThereAWay mv_X9_isThereAWay lk_X9_180 rfl rfl rfl (by decide) rfl (Nat.le_of_ble_eq_true rfl) dX9_bars_79 ?_
      rintro r h1 w
      obtain ⟨er, _, _, w⟩ := w
      rw [er]
      have w2 : offD h0 h1 := fun c hc => (w c (by omega) (by omega) (by omega) (by omega) (by omega)).trans (ew c hc)
      refine g_if_eq (pc := 82) o 88 dX9_bars_82 (by decide) (fun c82 => ?_) (fun c82 => ?_)
      · skip
        have u := bI_0.mp c82
        rw [if_neg (fun v => u (by unfold brb at v; rw [Bool.and_eq_true, decide_eq_true_eq] at v; exact v.2))] at ez
        refine g_iinc (pc := 88) o dX9_bars_88 rfl 1 rfl (by decide) ?_
        show ca_G Γ 5 _ _ [_, _, _, _, _] _
        refine g_goto (pc := 91) o 52 dX9_bars_91 (by decide) ?_
        exact ih q _ h1 (nI_1 t) ez w2
      · skip
        have u := bI_n0.mp c82
        rw [if_pos (show brb (σ 0) (nI j) d (bX (σ 0) (nI j) d) t = true by unfold brb; rw [Bool.and_eq_true, decide_eq_true_eq]; exact ⟨y, u⟩)] at ez
        subst ez
        refine g_iload (pc := 85) o dX9_bars_85 rfl ?_
        exact g_iret o ρ dX9_bars_87 (Po.mk rfl (CR_D C w2) (kM_D w2))
set_option maxRecDepth 100000 in
set_option maxHeartbeats 400000 in
theorem co_bars {h : Mem} {σ : Sg} (C : CR h σ) (I : Iv σ) (a b : Int32) : Ct yX9_bars cX9_bars 5 (some .int) 5 121 [.ref 0, .int a, .int b] h (Po h (op_bars a b σ)) := by
  refine Ct.of (by decide) (Nat.le_of_ble_eq_true rfl) (fun Γ o ρ => ?_)
  show ca_G Γ 5 _ _ [_, _, _, _, _] _
  refine g_iload_n (pc := 0) o dX9_bars_0 rfl ?_
  refine g_callSi (pc := 1) o (c_isPerson a h) mt_X9_isPerson ms_X9_isPerson lk_X9_83 rfl (by decide) rfl (Nat.le_of_ble_eq_true rfl) dX9_bars_1 ?_
  refine g_if_eq (pc := 4) o 14 dX9_bars_4 (by decide) (fun c4 => ?_) (fun c4 => ?_)
  · skip
    refine g_aload_n (pc := 14) o dX9_bars_14 rfl ?_
    refine g_iconst (pc := 15) o dX9_bars_15 0 rfl ?_
    refine g_callVi (pc := 16) o (c_finding 0 (by decide) h) mt_X9_finding mv_X9_finding lk_X9_58 rfl rfl rfl (by decide) rfl (Nat.le_of_ble_eq_true rfl) dX9_bars_16 ?_
    exact g_iret o ρ dX9_bars_19 (Po.eq (if_neg (fun z => bI_0.mp c4 z.1)) (Po_fnd C (by decide)))
  · skip
    refine g_iload_n (pc := 7) o dX9_bars_7 rfl ?_
    refine g_callSi (pc := 8) o (c_isDay b h) mt_X9_isDay ms_X9_isDay lk_X9_126 rfl (by decide) rfl (Nat.le_of_ble_eq_true rfl) dX9_bars_8 ?_
    refine g_if_ne (pc := 11) o 20 dX9_bars_11 (by decide) (fun c11 => ?_) (fun c11 => ?_)
    · skip
      have k1 := bI_n0.mp c4
      have k2 := bI_n0.mp c11
      have eq : op_bars a b σ = stV (barsF (σ 0) a (ca_n b) (bX (σ 0) a (ca_n b))) σ := if_pos ⟨k1, k2⟩
      rw [eq] at ρ
      obtain ⟨j, hj, rfl, ej⟩ := n_of (x := a) (b := 5) k1 (by decide)
      obtain ⟨d, hd, rfl, ed⟩ := n_of (x := b) (b := 29) k2 (by decide)
      rw [ed] at ρ
      have h5 := five I.1 (show j < 6 by omega) (sub_self (σ 0) (nI j) d)
      refine g_aload_n (pc := 20) o dX9_bars_20 rfl ?_
      refine g_getR (pc := 21) o 0 rfl rfl rfl inX9 (by decide) lf_X9_10 dX9_bars_21 ?_
      refine g_getR (pc := 24) o 2 rfl rfl rfl inX0 (by decide) lf_X9_137 dX9_bars_24 ?_
      refine g_iload_n (pc := 27) o dX9_bars_27 rfl ?_
      refine g_iload_n (pc := 28) o dX9_bars_28 rfl ?_
      refine g_callVi (pc := 29) o (c_binding C.1 I.1.terms (nI j) d (by omega)) mt_X7_binding mv_X7_binding lk_X9_167 rfl rfl rfl (by decide) rfl (Nat.le_of_ble_eq_true rfl) dX9_bars_29 ?_
      refine g_istore_n (pc := 32) o dX9_bars_32 (by decide) ?_
      show ca_G Γ 5 _ _ [_, _, _, _, _] _
      refine g_aload_n (pc := 33) o dX9_bars_33 rfl ?_
      refine g_iload_n (pc := 34) o dX9_bars_34 rfl ?_
      refine g_iload_n (pc := 35) o dX9_bars_35 rfl ?_
      refine g_iload_n (pc := 36) o dX9_bars_36 rfl ?_
      refine g_callVQi (pc := 37) o (c_isThereAWay C.1 I.1 (nI j) d (by omega) (bX (σ 0) (nI j) d) h5) mt_X9_isThereAWay mv_X9_isThereAWay lk_X9_180 rfl rfl rfl (by decide) rfl (Nat.le_of_ble_eq_true rfl) dX9_bars_37 ?_
      rintro r h1 w
      obtain ⟨er, P1, R1, w⟩ := w
      rw [er]
      have w2 : offD h h1 := fun c hc => w c (by omega) (by omega) (by omega) (by omega) (by omega)
      refine g_if_eq (pc := 40) o 49 dX9_bars_40 (by decide) (fun c40 => ?_) (fun c40 => ?_)
      · skip
        have z := bI_0.mp c40
        have eq2 : barsF (σ 0) (nI j) d (bX (σ 0) (nI j) d) = fnF (brb (σ 0) (nI j) d (bX (σ 0) (nI j) d)) 12 0 := if_neg z
        rw [eq2] at ρ
        refine g_iconst (pc := 49) o dX9_bars_49 0 rfl ?_
        refine g_istore (pc := 50) o dX9_bars_50 (by decide) ?_
        show ca_G Γ 5 _ _ [_, _, _, _, _] _
        exact lp_bars o (h0 := h) C I.1 j d (by omega) (by omega) _ ρ 0 (by omega) _ h1 rfl rfl w2
      · skip
        have z := bI_n0.mp c40
        have eq2 : barsF (σ 0) (nI j) d (bX (σ 0) (nI j) d) = none := if_pos z
        rw [eq2] at ρ
        refine g_aload_n (pc := 43) o dX9_bars_43 rfl ?_
        refine g_iconst (pc := 44) o dX9_bars_44 3 rfl ?_
        refine g_callVi (pc := 45) o (c_finding 3 (by decide) h1) mt_X9_finding mv_X9_finding lk_X9_58 rfl rfl rfl (by decide) rfl (Nat.le_of_ble_eq_true rfl) dX9_bars_45 ?_
        exact g_iret o ρ dX9_bars_48 (Po_fnd2 (CR_D C w2) (kM_D w2) (by decide))

    · skip
      refine g_aload_n (pc := 14) o dX9_bars_14 rfl ?_
      refine g_iconst (pc := 15) o dX9_bars_15 0 rfl ?_
      refine g_callVi (pc := 16) o (c_finding 0 (by decide) h) mt_X9_finding mv_X9_finding lk_X9_58 rfl rfl rfl (by decide) rfl (Nat.le_of_ble_eq_true rfl) dX9_bars_16 ?_
      exact g_iret o ρ dX9_bars_19 (Po.eq (if_neg (fun z => bI_0.mp c11 z.2)) (Po_fnd C (by decide)))
