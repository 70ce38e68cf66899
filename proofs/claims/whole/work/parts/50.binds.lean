/-! ===== the model's terms of a day ===== -/
theorem m_askedE {h : Mem} {s : Nat → Int32} (es : h.1 52 = s) (T : okTm s) (t : Nat) (ht : t < 12) : Ct yX10_asked cX10_asked 3 (some .int) 1 22 [.ref 51, .int (nI t)] h (Ei (nI (askT s t)) h) := by
  subst es
  exact m_asked T t ht
theorem m_isAtE {h : Mem} {s : Nat → Int32} (es : h.1 52 = s) (t m : Nat) (ht : t < 12) (hm : m < 24) : Ct yX10_isAt cX10_isAt 3 (some .boolean) 1 25 [.ref 51, .int (nI t), .int (nI m)] h (Ei (bI (atF s t m)) h) := by
  subst es
  exact m_isAt t m ht hm
theorem m_badE {h : Mem} {s : Nat → Int32} (es : h.1 52 = s) (T : okTm s) (t : Nat) (ht : t < 12) : Ct yX10_badOf cX10_badOf 3 (some .int) 1 22 [.ref 51, .int (nI t)] h (Ei (badF s t) h) := by
  subst es
  exact m_badOf T t ht
theorem m_ofE {h : Mem} {s : Nat → Int32} (es : h.1 52 = s) (t w : Nat) (ht : t < 12) (hw : w < 7) : Ct yX10_of cX10_of 3 (some .int) 0 0 [.ref 51, .int (nI t), .int (nI w)] h (Ei (tmF s t w) h) := by
  subst es
  exact m_of t w ht hw
theorem m_inForceE {h : Mem} {s : Nat → Int32} (es : h.1 52 = s) (ok : okT s) (p : Int32) (d : Nat) (hd : d < 30) : Ct yX10_inForceOf cX10_inForceOf 5 (some .int) 2 47 [.ref 51, .int p, .int (nI d)] h (Ei (bndF s p d (nT s)) h) := by
  subst es
  exact m_inForceOf ok p d hd
def kbF (X : Int32) : Nat → Nat
  | 0 => 0
  | n + 1 => kbF X n + (if bt X n = true then 1 else 0)
theorem kb_s (X : Int32) (n : Nat) : kbF X (n + 1) = kbF X n + (if bt X n = true then 1 else 0) := rfl
theorem kb_le (X : Int32) {n : Nat} : ∀ m, n ≤ m → kbF X n ≤ kbF X m
  | 0, h => by rw [show n = 0 by omega]; exact Nat.le_refl _
  | m + 1, h => by
    by_cases w : n = m + 1
    · rw [w]; exact Nat.le_refl _
    · have := kb_le X m (by omega : n ≤ m)
      rw [kb_s]
      omega
theorem kb_y {X : Int32} {n : Nat} (h : bt X n = true) : kbF X (n + 1) = kbF X n + 1 := by rw [kb_s, if_pos h]
theorem kb_n {X : Int32} {n : Nat} (h : ¬ bt X n = true) : kbF X (n + 1) = kbF X n := by rw [kb_s, if_neg h, Nat.add_zero]
theorem kb_inj {X : Int32} {t u : Nat} (ht : bt X t = true) (hu : bt X u = true) (e : kbF X t = kbF X u) : t = u := by
  rcases Nat.lt_trichotomy t u with w | w | w
  · have := kb_le X u (show t + 1 ≤ u from w)
    rw [kb_y ht] at this
    omega
  · exact w
  · have := kb_le X t (show u + 1 ≤ t from w)
    rw [kb_y hu] at this
    omega
theorem kb_next {X : Int32} {n : Nat} : ∀ k, kbF X n < kbF X (n + k) → ∃ t, n ≤ t ∧ t < n + k ∧ bt X t = true ∧ kbF X t = kbF X n ∧ ∀ u, n ≤ u → u < t → ¬ bt X u = true
  | 0, h => absurd h (Nat.lt_irrefl _)
  | k + 1, h => by
    by_cases w : kbF X n < kbF X (n + k)
    · obtain ⟨t, a, b, c⟩ := kb_next k w
      exact ⟨t, a, by omega, c⟩
    · have l := kb_le X (n + k) (Nat.le_add_right n k)
      have e : kbF X (n + k) = kbF X n := by omega
      have y : bt X (n + k) = true := by
        by_cases z : bt X (n + k) = true
        · exact z
        · rw [show n + (k + 1) = (n + k) + 1 by omega, kb_n z] at h
          omega
      refine ⟨n + k, by omega, by omega, y, e, fun u h1 h2 z => ?_⟩
      have l1 := kb_le X u h1
      have l2 := kb_le X (n + k) (show u + 1 ≤ n + k from h2)
      rw [kb_y z] at l2
      omega
theorem kb_end {X : Int32} {n m : Nat} (h : kbF X n = kbF X m) : ∀ u, n ≤ u → u < m → ¬ bt X u = true := fun u h1 h2 z => by
  have l1 := kb_le X u h1
  have l2 := kb_le X m (show u + 1 ≤ m from h2)
  rw [kb_y z] at l2
  omega
theorem kb_cnt {s : Nat → Int32} {p : Int32} {X : Int32} (h : ∀ t, t < 12 → bt X t = true → tmF s t 1 = p) : ∀ n, n ≤ 12 → kbF X n ≤ cntP s p n
  | 0, _ => Nat.le_refl 0
  | n + 1, hn => by
    have ih := kb_cnt h n (by omega)
    show kbF X n + (if bt X n = true then 1 else 0) ≤ cntP s p n + (if tmF s n 1 = p then 1 else 0)
    by_cases z : bt X n = true
    · rw [if_pos z, if_pos (h n (by omega) z)]; omega
    · rw [if_neg z]; omega
theorem kb_five {s : Nat → Int32} (I : SI s) {p d : Nat} (hp : p < 6) {X : Int32} (h : subX s (nI p) d X) : kbF X 12 ≤ 5 := by
  have ok : okT s := I.terms
  obtain ⟨n, hn, e, c, _⟩ := I.2.2.2.1
  have en : nT s = n := (okT_of hn e).2
  have b : ∀ t, t < 12 → bt X t = true → t < nT s ∧ tmF s t 1 = nI p := fun t ht z => by
    have := bnd_tm (by omega) (nT s) ok.1 (h t (by omega) z)
    exact ⟨this.1, this.2.1⟩
  have l12 := ok.1
  have a1 : kbF X 12 = kbF X (nT s) := by
    have l := kb_le X 12 l12
    by_cases w : kbF X (nT s) < kbF X 12
    · rw [show (12 : Nat) = nT s + (12 - nT s) by omega] at w
      obtain ⟨t, h1, h2, h3, _⟩ := kb_next _ w
      have := (b t (by omega) h3).1
      omega
    · omega
  have a2 := kb_cnt (s := s) (p := nI p) (X := X) (fun t ht z => (b t ht z).2) (nT s) l12
  have a3 := c p hp
  rw [← en] at a3
  omega
theorem ml_M {s : Nat → Int32} {X : Int32} (ha : ∀ t, t < 12 → askT s t < 4) : ∀ n, n ≤ 12 → mlF (rxM s X) n ≤ 4 ^ kbF X n
  | 0, _ => Nat.le_refl 1
  | n + 1, hn => by
    have ih := ml_M (X := X) ha n (by omega)
    rw [mlF_s]
    unfold rxM
    by_cases z : bt X n = true
    · rw [if_pos z, kb_y z, Nat.pow_succ]
      have := ha n (by omega)
      exact Nat.mul_le_mul ih (by omega)
    · rw [if_neg z, kb_n z, Nat.mul_one]; exact ih
theorem ml_M5 {s : Nat → Int32} {X : Int32} (ha : ∀ t, t < 12 → askT s t < 4) (h5 : kbF X 12 ≤ 5) {n : Nat} (hn : n ≤ 12) : mlF (rxM s X) n ≤ 1024 := by
  have a := ml_M (X := X) ha n hn
  have b := kb_le X 12 hn
  have c : (4 : Nat) ^ kbF X n ≤ 4 ^ 5 := Nat.pow_le_pow_right (by decide) (by omega)
  omega
theorem ml_skip {s : Nat → Int32} {X : Int32} {n : Nat} : ∀ t, n ≤ t → (∀ u, n ≤ u → u < t → ¬ bt X u = true) → mlF (rxM s X) t = mlF (rxM s X) n
  | 0, h, _ => by rw [show n = 0 by omega]
  | t + 1, h, z => by
    by_cases w : n = t + 1
    · rw [w]
    · rw [mlF_s, ml_skip t (by omega) (fun u h1 h2 => z u h1 (by omega))]
      unfold rxM
      rw [if_neg (z t (by omega) (by omega)), Nat.mul_one]
theorem vl_skip {s : Nat → Int32} {X : Int32} {e : Nat → Nat} {n : Nat} : ∀ t, n ≤ t → (∀ u, n ≤ u → u < t → e u = 0) → vlF (rxM s X) e t = vlF (rxM s X) e n
  | 0, h, _ => by rw [show n = 0 by omega]
  | t + 1, h, z => by
    by_cases w : n = t + 1
    · rw [w]
    · rw [vlF_s, vl_skip t (by omega) (fun u h1 h2 => z u h1 (by omega)), z t (by omega) (by omega), Nat.zero_mul, Nat.add_zero]
theorem lw_skip {s : Nat → Int32} {p : Int32} {d : Nat} {X : Int32} {m n : Nat} : ∀ t, n ≤ t → (∀ u, n ≤ u → u < t → ¬ bt X u = true) → lwF s p d X m t = lwF s p d X m n
  | 0, h, _ => by rw [show n = 0 by omega]
  | t + 1, h, z => by
    by_cases w : n = t + 1
    · rw [w]
    · rw [lwF_s, if_neg (fun y => z t (by omega) (by omega) y.1), lw_skip t (by omega) (fun u h1 h2 => z u h1 (by omega))]
/-- what the model holds of a day under the terms X -/
def MB (h : Mem) (s : Nat → Int32) (p : Int32) (d : Nat) (X : Int32) (n : Nat) : Prop :=
  h.1 51 9 = nI (kbF X n) ∧ h.1 51 10 = nI (mlF (rxM s X) n) ∧ h.1 51 11 = nI (vlF (rxM s X) (akF s X) n) ∧
  (∀ t, t < n → bt X t = true → h.1 57 (kbF X t) = nI t ∧ h.1 58 (kbF X t) = nI (askT s t + 1) ∧ h.1 59 (kbF X t) = nI (mlF (rxM s X) t)) ∧ ∀ i, i < 24 → h.1 56 i = sgF s p d i
theorem MB.of {h h2 : Mem} {s : Nat → Int32} {p : Int32} {d : Nat} {X : Int32} {n : Nat} (M : MB h s p d X n) (e : ∀ c, c = 51 ∨ c = 56 ∨ c = 57 ∨ c = 58 ∨ c = 59 → h2.1 c = h.1 c) : MB h2 s p d X n := by
  obtain ⟨a, b, c, f, g⟩ := M
  refine ⟨?_, ?_, ?_, fun t ht z => ?_, fun i hi => ?_⟩
  · rw [e 51 (by decide)]; exact a
  · rw [e 51 (by decide)]; exact b
  · rw [e 51 (by decide)]; exact c
  · rw [e 57 (by decide), e 58 (by decide), e 59 (by decide)]; exact f t ht z
  · rw [e 56 (by decide)]; exact g i hi
/-- the bits of the terms in force but one -/
abbrev bndX (s : Nat → Int32) (p : Int32) (d : Nat) (w X : Int32) : Prop := (∀ t, t < nT s → (bt X t = true ↔ bt (bX s p d) t = true ∧ ¬ nI t = w)) ∧ ∀ t, nT s ≤ t → t < 32 → ¬ bt X t = true
abbrev mbO (h0 h : Mem) : Prop := (∀ c, c ≠ 51 → c ≠ 56 → c ≠ 57 → c ≠ 58 → c ≠ 59 → h.1 c = h0.1 c) ∧ ∀ j, j ≠ 9 → j ≠ 10 → j ≠ 11 → h.1 51 j = h0.1 51 j
theorem mbO.rf (h : Mem) : mbO h h := ⟨fun _ _ _ _ _ _ => rfl, fun _ _ _ _ => rfl⟩
theorem mbO.w5 {h0 h : Mem} (H : mbO h0 h) {k i : Nat} {v : Int32} (hk : k = 56 ∨ k = 57 ∨ k = 58 ∨ k = 59) : mbO h0 (mw h k i v) := ⟨fun c h1 h2 h3 h4 h5 => (mw_ne _ _ _ (by omega)).trans (H.1 c h1 h2 h3 h4 h5), fun j h1 h2 h3 => by rw [mw_ne _ _ _ (by omega)]; exact H.2 j h1 h2 h3⟩
theorem mbO.m5 {h0 h : Mem} (H : mbO h0 h) {i : Nat} {v : Int32} (hi : i = 9 ∨ i = 10 ∨ i = 11) : mbO h0 (mw h 51 i v) := ⟨fun c h1 h2 h3 h4 h5 => (mw_ne _ _ _ (by omega)).trans (H.1 c h1 h2 h3 h4 h5), fun j h1 h2 h3 => by rw [mw_same]; unfold upd; rw [if_neg (by omega)]; exact H.2 j h1 h2 h3⟩
theorem mbO.tr {a b c : Mem} (h1 : mbO a b) (h2 : mbO b c) : mbO a c := ⟨fun k x1 x2 x3 x4 x5 => (h2.1 k x1 x2 x3 x4 x5).trans (h1.1 k x1 x2 x3 x4 x5), fun j y1 y2 y3 => (h2.2 j y1 y2 y3).trans (h1.2 j y1 y2 y3)⟩
theorem mbO.kC {h0 h : Mem} (H : mbO h0 h) : kC h0 h := fun k hk => H.1 k (by omega) (by omega) (by omega) (by omega) (by omega)
theorem mbO.abs {h0 h : Mem} (H : mbO h0 h) : absM h = absM h0 := by
  funext k
  unfold absM
  rw [H.1 52 (by decide) (by decide) (by decide) (by decide) (by decide), H.1 55 (by decide) (by decide) (by decide) (by decide) (by decide), H.1 53 (by decide) (by decide) (by decide) (by decide) (by decide), H.1 62 (by decide) (by decide) (by decide) (by decide) (by decide), H.1 66 (by decide) (by decide) (by decide) (by decide) (by decide), H.1 67 (by decide) (by decide) (by decide) (by decide) (by decide), H.1 68 (by decide) (by decide) (by decide) (by decide) (by decide), H.1 69 (by decide) (by decide) (by decide) (by decide) (by decide), H.2 4 (by decide) (by decide) (by decide), H.2 15 (by decide) (by decide) (by decide), H.2 20 (by decide) (by decide) (by decide)]
set_option maxRecDepth 100000 in
set_option maxHeartbeats 800000 in
theorem lp_binds {Γ : Fr} (o : ca_O Γ cX10_binds 6 RX10 3 71) {Pr : Option Value → Mem → Prop} (ρ : ca_R Γ none Pr) {h0 : Mem} {s : Nat → Int32} (es : h0.1 52 = s) (I : SI s) (p : Int32) (d : Nat) (w X : Int32) (k5 : kbF X 12 ≤ 5) (bX1 : bndX s p d w X) (hp : ∀ h : Mem, MB h s p d X (nT s) → mbO h0 h → Pr none h) : ∀ n, n ≤ nT s → ∀ (xn : Int32) (h : Mem), xn = nI n → MB h s p d X n → mbO h0 h → ca_G Γ 6 h 32 [some (.ref 51), some (.int p), some (.int (nI d)), some (.int w), some (.int (bX s p d)), some (.int xn)] [] := by
  have ok : okT s := I.terms
  have T := I.tm
  have l12 := ok.1
  refine downI (nT s) (fun n hn ih => ?_)
  rintro xn h rfl M O
  have e52 : h.1 52 = s := (O.1 52 (by decide) (by decide) (by decide) (by decide) (by decide)).trans es
  have e189 : h.1 52 189 = nI (nT s) := by rw [e52]; exact ok.2.1
  obtain ⟨e9, e10, e11, ee, e56⟩ := M
  refine g_iload (pc := 32) o dX10_binds_32 rfl ?_
  refine g_aload_n (pc := 34) o dX10_binds_34 rfl ?_
  refine g_getR (pc := 35) o 0 rfl rfl rfl inX10 (by decide) lf_X10_7 dX10_binds_35 ?_
  refine g_sipush (pc := 38) o dX10_binds_38 189 rfl ?_
  refine n_ialdE (pc := 41) o 189 (rfl) rfl ((by omega)) (by decide) (e189) dX10_binds_41 ?_
  refine g_ic_ge (pc := 42) o 155 dX10_binds_42 (by decide) (fun c42 => ?_) (fun c42 => ?_)
  · skip
    have q : n = nT s := ge8 (n := nT s) (by omega) (by omega) c42
    subst q
    exact g_vret o ρ dX10_binds_155 (hp h ⟨e9, e10, e11, ee, e56⟩ O)
  · skip
    have q : n < nT s := lt8 (n := nT s) (by omega) (by omega) c42
    have no : ¬ bt X n = true → MB h s p d X (n + 1) := fun z => by
      refine ⟨by rw [kb_n z]; exact e9, ?_, ?_, fun t ht y => ?_, e56⟩
      · rw [mlF_s]; unfold rxM; rw [if_neg z, Nat.mul_one]; exact e10
      · rw [vlF_s]; unfold akF; rw [if_neg z, Nat.zero_mul, Nat.add_zero]; exact e11
      · by_cases u : t = n
        · subst u; exact absurd y z
        · exact ee t (by omega) y
    refine g_iload (pc := 45) o dX10_binds_45 rfl ?_
    refine g_iload (pc := 47) o dX10_binds_47 rfl ?_
    refine g_callSi (pc := 49) o (m_has (bX s p d) n (by omega) h) mt_X10_has ms_X10_has lk_X10_90 rfl (by decide) rfl (Nat.le_of_ble_eq_true rfl) dX10_binds_49 ?_
    refine g_if_eq (pc := 52) o 149 dX10_binds_52 (by decide) (fun c52 => ?_) (fun c52 => ?_)
    · skip
      have y := bI_0.mp c52
      refine g_iinc (pc := 149) o dX10_binds_149 rfl 1 rfl (by decide) ?_
      show ca_G Γ 6 _ _ [_, _, _, _, _, _] _
      refine g_goto (pc := 152) o 32 dX10_binds_152 (by decide) ?_
      exact ih q _ h (nI_1 n) (no (fun z => y ((bX1.1 n q).mp z).1)) O
    · skip
      have y := bI_n0.mp c52
      refine g_iload (pc := 55) o dX10_binds_55 rfl ?_
      refine g_iload_n (pc := 57) o dX10_binds_57 rfl ?_
      refine g_ic_eq (pc := 58) o 149 dX10_binds_58 (by decide) (fun c58 => ?_) (fun c58 => ?_)
      · skip
        refine g_iinc (pc := 149) o dX10_binds_149 rfl 1 rfl (by decide) ?_
        show ca_G Γ 6 _ _ [_, _, _, _, _, _] _
        refine g_goto (pc := 152) o 32 dX10_binds_152 (by decide) ?_
        exact ih q _ h (nI_1 n) (no (fun z => ((bX1.1 n q).mp z).2 c58)) O
      · skip
        have z : bt X n = true := (bX1.1 n q).mpr ⟨y, c58⟩
        have k6 : kbF X n < 5 := by
          have := kb_le X 12 (show n + 1 ≤ 12 by omega)
          rw [kb_y z] at this
          omega
        have n12 : n < 12 := by omega
        refine g_aload_n (pc := 61) o dX10_binds_61 rfl ?_
        refine g_getR (pc := 62) o 6 rfl rfl rfl inX10 (by decide) lf_X10_25 dX10_binds_62 ?_
        refine g_aload_n (pc := 65) o dX10_binds_65 rfl ?_
        refine g_getIE (pc := 66) o 9 rfl rfl rfl inX10 (by decide) lf_X10_175 (e9) dX10_binds_66 ?_
        refine g_iload (pc := 69) o dX10_binds_69 rfl ?_
        refine n_iast (pc := 71) o (kbF X n) (rfl) rfl ((by omega)) (by decide) dX10_binds_71 ?_
        refine g_aload_n (pc := 72) o dX10_binds_72 rfl ?_
        refine g_getR (pc := 73) o 7 rfl rfl rfl inX10 (by decide) lf_X10_28 dX10_binds_73 ?_
        refine g_aload_n (pc := 76) o dX10_binds_76 rfl ?_
        refine g_getIE (pc := 77) o 9 rfl rfl rfl inX10 (by decide) lf_X10_175 (e9) dX10_binds_77 ?_
        refine g_aload_n (pc := 80) o dX10_binds_80 rfl ?_
        refine g_iload (pc := 81) o dX10_binds_81 rfl ?_
        refine g_callVi (pc := 83) o (m_askedE (h := mw h 57 (kbF X n) (nI n)) e52 T n n12) mt_X10_asked mv_X10_asked lk_X10_148 rfl rfl rfl (by decide) rfl (Nat.le_of_ble_eq_true rfl) dX10_binds_83 ?_
        refine g_iconst (pc := 86) o dX10_binds_86 1 rfl ?_
        refine g_iadd (pc := 87) o dX10_binds_87 ?_
        rw [show nI (askT s n) + 1 = nI (askT s n + 1) from nI_1 _]
        refine n_iast (pc := 88) o (kbF X n) (rfl) rfl ((by omega)) (by decide) dX10_binds_88 ?_
        refine g_aload_n (pc := 89) o dX10_binds_89 rfl ?_
        refine g_getR (pc := 90) o 8 rfl rfl rfl inX10 (by decide) lf_X10_31 dX10_binds_90 ?_
        refine g_aload_n (pc := 93) o dX10_binds_93 rfl ?_
        refine g_getIE (pc := 94) o 9 rfl rfl rfl inX10 (by decide) lf_X10_175 (e9) dX10_binds_94 ?_
        refine g_aload_n (pc := 97) o dX10_binds_97 rfl ?_
        refine g_getIE (pc := 98) o 10 rfl rfl rfl inX10 (by decide) lf_X10_179 (e10) dX10_binds_98 ?_
        refine n_iast (pc := 101) o (kbF X n) (rfl) rfl ((by omega)) (by decide) dX10_binds_101 ?_
        refine g_aload_n (pc := 102) o dX10_binds_102 rfl ?_
        refine g_dup (pc := 103) o dX10_binds_103 rfl ?_
        refine g_getIE (pc := 104) o 11 rfl rfl rfl inX10 (by decide) lf_X10_182 (e11) dX10_binds_104 ?_
        refine g_aload_n (pc := 107) o dX10_binds_107 rfl ?_
        refine g_iload (pc := 108) o dX10_binds_108 rfl ?_
        refine g_callVi (pc := 110) o (m_askedE (h := mw (mw (mw h 57 (kbF X n) (nI n)) 58 (kbF X n) (nI (askT s n + 1))) 59 (kbF X n) (nI (mlF (rxM s X) n))) e52 T n n12) mt_X10_asked mv_X10_asked lk_X10_148 rfl rfl rfl (by decide) rfl (Nat.le_of_ble_eq_true rfl) dX10_binds_110 ?_
        refine g_aload_n (pc := 113) o dX10_binds_113 rfl ?_
        refine g_getIE (pc := 114) o 10 rfl rfl rfl inX10 (by decide) lf_X10_179 (e10) dX10_binds_114 ?_
        refine g_imul (pc := 117) o dX10_binds_117 ?_
        rw [pk_mul]
        refine g_iadd (pc := 118) o dX10_binds_118 ?_
        rw [nI_add]
        refine g_put (pc := 119) o 11 rfl rfl rfl inX10 tyX10_ok nmX10 (by decide) lf_X10_182 rfl rfl rfl dX10_binds_119 ?_
        refine g_aload_n (pc := 122) o dX10_binds_122 rfl ?_
        refine g_aload_n (pc := 123) o dX10_binds_123 rfl ?_
        refine g_getIE (pc := 124) o 10 rfl rfl rfl inX10 (by decide) lf_X10_179 (e10) dX10_binds_124 ?_
        refine g_aload_n (pc := 127) o dX10_binds_127 rfl ?_
        refine g_iload (pc := 128) o dX10_binds_128 rfl ?_
        refine g_callVi (pc := 130) o (m_askedE (h := mw (mw (mw (mw h 57 (kbF X n) (nI n)) 58 (kbF X n) (nI (askT s n + 1))) 59 (kbF X n) (nI (mlF (rxM s X) n))) 51 11 (nI (vlF (rxM s X) (akF s X) n + askT s n * mlF (rxM s X) n))) e52 T n n12) mt_X10_asked mv_X10_asked lk_X10_148 rfl rfl rfl (by decide) rfl (Nat.le_of_ble_eq_true rfl) dX10_binds_130 ?_
        refine g_iconst (pc := 133) o dX10_binds_133 1 rfl ?_
        refine g_iadd (pc := 134) o dX10_binds_134 ?_
        rw [show nI (askT s n) + 1 = nI (askT s n + 1) from nI_1 _]
        refine g_imul (pc := 135) o dX10_binds_135 ?_
        rw [pk_mul]
        refine g_put (pc := 136) o 10 rfl rfl rfl inX10 tyX10_ok nmX10 (by decide) lf_X10_179 rfl rfl rfl dX10_binds_136 ?_
        refine g_aload_n (pc := 139) o dX10_binds_139 rfl ?_
        refine g_dup (pc := 140) o dX10_binds_140 rfl ?_
        refine g_getIE (pc := 141) o 9 rfl rfl rfl inX10 (by decide) lf_X10_175 (e9) dX10_binds_141 ?_
        refine g_iconst (pc := 144) o dX10_binds_144 1 rfl ?_
        refine g_iadd (pc := 145) o dX10_binds_145 ?_
        refine g_put (pc := 146) o 9 rfl rfl rfl inX10 tyX10_ok nmX10 (by decide) lf_X10_175 rfl rfl rfl dX10_binds_146 ?_
        refine g_iinc (pc := 149) o dX10_binds_149 rfl 1 rfl (by decide) ?_
        show ca_G Γ 6 _ _ [_, _, _, _, _, _] _
        refine g_goto (pc := 152) o 32 dX10_binds_152 (by decide) ?_
        refine ih q _ _ (nI_1 n) ⟨?_, ?_, ?_, fun t ht u => ?_, e56⟩ ((((((O.w5 (k := 57) (by decide)).w5 (k := 58) (by decide)).w5 (k := 59) (by decide)).m5 (i := 11) (by decide)).m5 (i := 10) (by decide)).m5 (i := 9) (by decide))
        · rw [kb_y z]; exact nI_1 _
        · rw [mlF_s]; unfold rxM; rw [if_pos z]; rfl
        · rw [vlF_s]; unfold akF; rw [if_pos z]; rfl
        · show upd (h.1 57) (kbF X n) (nI n) (kbF X t) = nI t ∧ upd (h.1 58) (kbF X n) (nI (askT s n + 1)) (kbF X t) = nI (askT s t + 1) ∧ upd (h.1 59) (kbF X n) (nI (mlF (rxM s X) n)) (kbF X t) = nI (mlF (rxM s X) t)
          unfold upd
          by_cases v : t = n
          · subst v
            rw [if_pos rfl, if_pos rfl, if_pos rfl]
            exact ⟨rfl, rfl, rfl⟩
          · have v2 : ¬ kbF X t = kbF X n := fun v3 => v (kb_inj u z v3)
            rw [if_neg v2, if_neg v2, if_neg v2]
            exact ee t (by omega) u
theorem MB.to12 {h : Mem} {s : Nat → Int32} {p : Int32} {d : Nat} {X : Int32} (hT : nT s ≤ 12) (hX : ∀ t, nT s ≤ t → t < 32 → ¬ bt X t = true) (M : MB h s p d X (nT s)) : MB h s p d X 12 := by
  obtain ⟨a, b, c, f, g⟩ := M
  have hx : ∀ u, nT s ≤ u → u < 12 → ¬ bt X u = true := fun u h1 h2 => hX u h1 (by omega)
  refine ⟨?_, ?_, ?_, fun t ht z => ?_, g⟩
  · rw [a]
    congr 1
    have l := kb_le X 12 hT
    by_cases w : kbF X (nT s) < kbF X 12
    · rw [show (12 : Nat) = nT s + (12 - nT s) by omega] at w
      obtain ⟨t, h1, h2, h3, _⟩ := kb_next _ w
      exact absurd h3 (hx t h1 (by omega))
    · omega
  · rw [b, ml_skip 12 hT hx]
  · rw [c, vl_skip 12 hT (fun u h1 h2 => by unfold akF; rw [if_neg (hx u h1 h2)])]
  · by_cases w : t < nT s
    · exact f t w z
    · exact absurd z (hx t (by omega) ht)
set_option maxRecDepth 100000 in
set_option maxHeartbeats 400000 in
theorem m_binds {h : Mem} {s : Nat → Int32} (es : h.1 52 = s) (I : SI s) (p : Int32) (d : Nat) (hd : d < 30) (w X : Int32) (k5 : kbF X 12 ≤ 5) (bX1 : bndX s p d w X) : Ct yX10_binds cX10_binds 6 none 3 71 [.ref 51, .int p, .int (nI d), .int w] h (Qv (fun h2 => MB h2 s p d X 12 ∧ mbO h h2)) := by
  refine Ct.of (by decide) (Nat.le_of_ble_eq_true rfl) (fun Γ o ρ => ?_)
  show ca_G Γ 6 _ _ [_, _, _, _, _, _] _
  have ok : okT s := I.terms
  have l := m_looks (h := h) (by rw [es]; exact I.seen) (by rw [es]; exact I.see) p d hd
  rw [es] at l
  refine g_aload_n (pc := 0) o dX10_binds_0 rfl ?_
  refine g_iload_n (pc := 1) o dX10_binds_1 rfl ?_
  refine g_iload_n (pc := 2) o dX10_binds_2 rfl ?_
  refine g_callVQv (pc := 3) o (l) mt_X10_looks mv_X10_looks lk_X10_115 rfl rfl rfl (by decide) rfl (Nat.le_of_ble_eq_true rfl) dX10_binds_3 ?_
  rintro h1 w1
  obtain ⟨w1, w2⟩ := w1
  have e52 : h1.1 52 = s := (w2 52 (by decide)).trans es
  have O1 : mbO h h1 := ⟨fun c _ hc _ _ _ => w2 c hc, fun j _ _ _ => by rw [w2 51 (by decide)]⟩
  refine g_aload_n (pc := 6) o dX10_binds_6 rfl ?_
  refine g_iconst (pc := 7) o dX10_binds_7 0 rfl ?_
  refine g_put (pc := 8) o 9 rfl rfl rfl inX10 tyX10_ok nmX10 (by decide) lf_X10_175 rfl rfl rfl dX10_binds_8 ?_
  refine g_aload_n (pc := 11) o dX10_binds_11 rfl ?_
  refine g_iconst (pc := 12) o dX10_binds_12 1 rfl ?_
  refine g_put (pc := 13) o 10 rfl rfl rfl inX10 tyX10_ok nmX10 (by decide) lf_X10_179 rfl rfl rfl dX10_binds_13 ?_
  refine g_aload_n (pc := 16) o dX10_binds_16 rfl ?_
  refine g_iconst (pc := 17) o dX10_binds_17 0 rfl ?_
  refine g_put (pc := 18) o 11 rfl rfl rfl inX10 tyX10_ok nmX10 (by decide) lf_X10_182 rfl rfl rfl dX10_binds_18 ?_
  refine g_aload_n (pc := 21) o dX10_binds_21 rfl ?_
  refine g_iload_n (pc := 22) o dX10_binds_22 rfl ?_
  refine g_iload_n (pc := 23) o dX10_binds_23 rfl ?_
  refine g_callVi (pc := 24) o (m_inForceE (h := mw (mw (mw h1 51 9 0) 51 10 1) 51 11 0) e52 ok p d hd) mt_X10_inForceOf mv_X10_inForceOf lk_X10_160 rfl rfl rfl (by decide) rfl (Nat.le_of_ble_eq_true rfl) dX10_binds_24 ?_
  refine g_istore (pc := 27) o dX10_binds_27 (by decide) ?_
  show ca_G Γ 6 _ _ [_, _, _, _, _, _] _
  refine g_iconst (pc := 29) o dX10_binds_29 0 rfl ?_
  refine g_istore (pc := 30) o dX10_binds_30 (by decide) ?_
  show ca_G Γ 6 _ _ [_, _, _, _, _, _] _
  exact lp_binds o ρ (h0 := h) es I p d w X k5 bX1 (fun h2 a b => ⟨rfl, a.to12 ok.1 bX1.2, b⟩) 0 (by omega) _ _ rfl ⟨rfl, rfl, rfl, fun t ht => by omega, w1⟩ (((O1.m5 (i := 9) (by decide)).m5 (i := 10) (by decide)).m5 (i := 11) (by decide))
theorem M_lt {X : Int32} {n i : Nat} (hn : n ≤ 12) (e : kbF X n = i) (h : i < kbF X 12) : ∃ t, n ≤ t ∧ t < 12 ∧ bt X t = true ∧ kbF X t = i ∧ ∀ u, n ≤ u → u < t → ¬ bt X u = true := by
  rw [← e, show (12 : Nat) = n + (12 - n) by omega] at h
  obtain ⟨t, a, b, c, f, g⟩ := kb_next _ h
  exact ⟨t, a, by omega, c, f.trans e, g⟩
set_option maxRecDepth 100000 in
set_option maxHeartbeats 400000 in
theorem lp_lawful {Γ : Fr} (o : ca_O Γ cX10_lawful 4 RX10 2 47) {Pr : Option Value → Mem → Prop} (ρ : ca_R Γ (some .int) Pr) {h : Mem} {s : Nat → Int32} (es : h.1 52 = s) (I : SI s) (p : Int32) (d : Nat) (X : Int32) (k5 : kbF X 12 ≤ 5) (M : MB h s p d X 12) (m : Nat) (hm : m < 24) (hp : Pr (some (.int (lwF s p d X m 12))) h) : ∀ i, i ≤ kbF X 12 → ∀ (xi y : Int32) (n : Nat), xi = nI i → n ≤ 12 → kbF X n = i → y = lwF s p d X m n → ca_G Γ 4 h 8 [some (.ref 51), some (.int (nI m)), some (.int y), some (.int xi)] [] := by
  obtain ⟨e9, e10, e11, ee, e56⟩ := M
  refine downI (kbF X 12) (fun i hi ih => ?_)
  rintro xi y n rfl hn en rfl
  refine g_iload_n (pc := 8) o dX10_lawful_8 rfl ?_
  refine g_aload_n (pc := 9) o dX10_lawful_9 rfl ?_
  refine g_getIE (pc := 10) o 9 rfl rfl rfl inX10 (by decide) lf_X10_175 (e9) dX10_lawful_10 ?_
  refine g_ic_ge (pc := 13) o 55 dX10_lawful_13 (by decide) (fun c13 => ?_) (fun c13 => ?_)
  · skip
    have q : i = kbF X 12 := ge8 (n := kbF X 12) (by omega) (by omega) c13
    rw [← lw_skip (s := s) (p := p) (d := d) (m := m) 12 hn (kb_end (en.trans q))]
    refine g_iload_n (pc := 55) o dX10_lawful_55 rfl ?_
    exact g_iret o ρ dX10_lawful_56 hp
  · skip
    have q : i < kbF X 12 := lt8 (n := kbF X 12) (by omega) (by omega) c13
    obtain ⟨t, h1, h2, h3, h4, h6⟩ := M_lt hn en q
    obtain ⟨g1, g2, g3⟩ := ee t h2 h3
    rw [h4] at g1
    rw [← lw_skip (s := s) (p := p) (d := d) (m := m) t h1 h6]
    refine g_iload_n (pc := 16) o dX10_lawful_16 rfl ?_
    refine g_aload_n (pc := 17) o dX10_lawful_17 rfl ?_
    refine g_aload_n (pc := 18) o dX10_lawful_18 rfl ?_
    refine g_getR (pc := 19) o 6 rfl rfl rfl inX10 (by decide) lf_X10_25 dX10_lawful_19 ?_
    refine g_iload_n (pc := 22) o dX10_lawful_22 rfl ?_
    refine n_ialdE (pc := 23) o i (rfl) rfl ((by omega)) (by decide) (g1) dX10_lawful_23 ?_
    refine g_iload_n (pc := 24) o dX10_lawful_24 rfl ?_
    refine g_callVi (pc := 25) o (m_isAtE es t m h2 hm) mt_X10_isAt mv_X10_isAt lk_X10_167 rfl rfl rfl (by decide) rfl (Nat.le_of_ble_eq_true rfl) dX10_lawful_25 ?_
    refine g_if_eq (pc := 28) o 46 dX10_lawful_28 (by decide) (fun c28 => ?_) (fun c28 => ?_)
    · skip
      have z := bI_0.mp c28
      refine g_iconst (pc := 46) o dX10_lawful_46 (-1) rfl ?_
      refine g_iand (pc := 47) o dX10_lawful_47 ?_
      refine g_istore_n (pc := 48) o dX10_lawful_48 (by decide) ?_
      show ca_G Γ 4 _ _ [_, _, _, _] _
      refine g_iinc (pc := 49) o dX10_lawful_49 rfl 1 rfl (by decide) ?_
      show ca_G Γ 4 _ _ [_, _, _, _] _
      refine g_goto (pc := 52) o 8 dX10_lawful_52 (by decide) ?_
      exact ih q _ _ (t + 1) (nI_1 i) (by omega) (by rw [kb_y h3, h4]) (by rw [lwF_s, if_neg (fun y => z y.2)]; apply b_ext; intro j hj; rw [b_and, b_m1 j hj, Bool.and_true])
    · skip
      have z := bI_n0.mp c28
      refine g_aload_n (pc := 31) o dX10_lawful_31 rfl ?_
      refine g_aload_n (pc := 32) o dX10_lawful_32 rfl ?_
      refine g_getR (pc := 33) o 6 rfl rfl rfl inX10 (by decide) lf_X10_25 dX10_lawful_33 ?_
      refine g_iload_n (pc := 36) o dX10_lawful_36 rfl ?_
      refine n_ialdE (pc := 37) o i (rfl) rfl ((by omega)) (by decide) (g1) dX10_lawful_37 ?_
      refine g_callVi (pc := 38) o (m_badE es I.tm t h2) mt_X10_badOf mv_X10_badOf lk_X10_154 rfl rfl rfl (by decide) rfl (Nat.le_of_ble_eq_true rfl) dX10_lawful_38 ?_
      refine g_iconst (pc := 41) o dX10_lawful_41 (-1) rfl ?_
      refine g_ixor (pc := 42) o dX10_lawful_42 ?_
      refine g_goto (pc := 43) o 47 dX10_lawful_43 (by decide) ?_
      refine g_iand (pc := 47) o dX10_lawful_47 ?_
      refine g_istore_n (pc := 48) o dX10_lawful_48 (by decide) ?_
      show ca_G Γ 4 _ _ [_, _, _, _] _
      refine g_iinc (pc := 49) o dX10_lawful_49 rfl 1 rfl (by decide) ?_
      show ca_G Γ 4 _ _ [_, _, _, _] _
      refine g_goto (pc := 52) o 8 dX10_lawful_52 (by decide) ?_
      exact ih q _ _ (t + 1) (nI_1 i) (by omega) (by rw [kb_y h3, h4]) (by rw [lwF_s, if_pos ⟨h3, z⟩])
set_option maxRecDepth 100000 in
set_option maxHeartbeats 400000 in
theorem m_lawful {h : Mem} {s : Nat → Int32} (es : h.1 52 = s) (I : SI s) (p : Int32) (d : Nat) (X : Int32) (k5 : kbF X 12 ≤ 5) (M : MB h s p d X 12) (m : Nat) (hm : m < 24) : Ct yX10_lawful cX10_lawful 4 (some .int) 2 47 [.ref 51, .int (nI m)] h (Ei (lwF s p d X m 12) h) := by
  refine Ct.of (by decide) (Nat.le_of_ble_eq_true rfl) (fun Γ o ρ => ?_)
  show ca_G Γ 4 _ _ [_, _, _, _] _
  refine g_aload_n (pc := 0) o dX10_lawful_0 rfl ?_
  refine g_iload_n (pc := 1) o dX10_lawful_1 rfl ?_
  refine g_callVi (pc := 2) o (m_open (h := h) I.seen I.see M.2.2.2.2 m hm) mt_X10_open mv_X10_open lk_X10_119 rfl rfl rfl (by decide) rfl (Nat.le_of_ble_eq_true rfl) dX10_lawful_2 ?_
  refine g_istore_n (pc := 5) o dX10_lawful_5 (by decide) ?_
  show ca_G Γ 4 _ _ [_, _, _, _] _
  refine g_iconst (pc := 6) o dX10_lawful_6 0 rfl ?_
  refine g_istore_n (pc := 7) o dX10_lawful_7 (by decide) ?_
  show ca_G Γ 4 _ _ [_, _, _, _] _
  exact lp_lawful o ρ es I p d X k5 M m hm ⟨rfl, rfl⟩ 0 (by omega) _ _ 0 rfl (by omega) rfl rfl
/-- what is taken off in an hour at a place -/
def toF (s : Nat → Int32) (X : Int32) (c m q t : Nat) : Nat := if hitF s X t m q ∧ 0 < dgF (rxM s X) c t then 1 else 0
theorem to_nx {s : Nat → Int32} {p : Int32} {d : Nat} {X : Int32} {c m q : Nat} (hc : c < mlF (rxM s X) 12) : (auM s p d X).nx c m q = c - vlF (rxM s X) (toF s X c m q) 12 ∧ vlF (rxM s X) (toF s X c m q) 12 ≤ c := by
  have e1 := vlF_of (rxM_p s X) 12 c hc
  have le : ∀ t, t < 12 → toF s X c m q t ≤ dgF (rxM s X) c t := fun t _ => by
    unfold toF
    by_cases z : hitF s X t m q ∧ 0 < dgF (rxM s X) c t
    · rw [if_pos z]; exact z.2
    · rw [if_neg z]; exact Nat.zero_le _
  obtain ⟨u, v⟩ := vlF_sub (rx := rxM s X) 12 le
  rw [e1] at u v
  refine ⟨?_, v⟩
  rw [← u]
  show vlF (rxM s X) (fun t => dgF (rxM s X) c t - dlF s X t m q) 12 = _
  refine vlF_c 12 (fun t _ => ?_)
  unfold toF dlF
  by_cases z : hitF s X t m q
  · rw [if_pos z]
    by_cases y : 0 < dgF (rxM s X) c t
    · rw [if_pos ⟨z, y⟩]
    · rw [if_neg (fun u => y u.2)]; omega
  · rw [if_neg z, if_neg (fun u => z u.1)]
theorem vl_mono {rx e : Nat → Nat} {n : Nat} : ∀ m, n ≤ m → vlF rx e n ≤ vlF rx e m
  | 0, h => by rw [show n = 0 by omega]; exact Nat.le_refl _
  | m + 1, h => by
    by_cases w : n = m + 1
    · rw [w]; exact Nat.le_refl _
    · have := vl_mono (rx := rx) (e := e) m (by omega : n ≤ m)
      rw [vlF_s]
      omega
set_option maxRecDepth 100000 in
set_option maxHeartbeats 800000 in
theorem lp_after {Γ : Fr} (o : ca_O Γ cX10_after 7 RX10 2 47) {Pr : Option Value → Mem → Prop} (ρ : ca_R Γ (some .int) Pr) {h : Mem} {s : Nat → Int32} (es : h.1 52 = s) (I : SI s) (p : Int32) (d : Nat) (X : Int32) (k5 : kbF X 12 ≤ 5) (M : MB h s p d X 12) (c m q : Nat) (hm : m < 24) (hq : q < 8) (hc : c < mlF (rxM s X) 12) (hp : Pr (some (.int (nI (c - vlF (rxM s X) (toF s X c m q) 12)))) h) : ∀ i, i ≤ kbF X 12 → ∀ (xi y : Int32) (n : Nat) (v6 : Option Value), xi = nI i → n ≤ 12 → kbF X n = i → y = nI (c - vlF (rxM s X) (toF s X c m q) n) → ca_G Γ 7 h 6 [some (.ref 51), some (.int (nI c)), some (.int (nI m)), some (.int (nI q)), some (.int y), some (.int xi), v6] [] := by
  have ha : ∀ t, t < 12 → askT s t < 4 := fun t ht => ask_lt I.tm ht
  have l1024 := ml_M5 (X := X) ha k5 (Nat.le_refl 12)
  obtain ⟨e9, e10, e11, ee, e56⟩ := M
  obtain ⟨_, tl⟩ := to_nx (p := p) (d := d) (m := m) (q := q) hc
  have sk : ∀ n t, n ≤ t → (∀ u, n ≤ u → u < t → ¬ bt X u = true) → vlF (rxM s X) (toF s X c m q) t = vlF (rxM s X) (toF s X c m q) n := fun n t h1 h6 => vl_skip t h1 (fun u a b => by unfold toF; rw [if_neg (fun y => h6 u a b y.1.1)])
  refine downI (kbF X 12) (fun i hi ih => ?_)
  rintro xi y n v6 rfl hn en rfl
  refine g_iload (pc := 6) o dX10_after_6 rfl ?_
  refine g_aload_n (pc := 8) o dX10_after_8 rfl ?_
  refine g_getIE (pc := 9) o 9 rfl rfl rfl inX10 (by decide) lf_X10_175 (e9) dX10_after_9 ?_
  refine g_ic_ge (pc := 12) o 100 dX10_after_12 (by decide) (fun c12 => ?_) (fun c12 => ?_)
  · skip
    have z : i = kbF X 12 := ge8 (n := kbF X 12) (by omega) (by omega) c12
    rw [← sk n 12 hn (kb_end (en.trans z))]
    refine g_iload (pc := 100) o dX10_after_100 rfl ?_
    exact g_iret o ρ dX10_after_102 hp
  · skip
    have z : i < kbF X 12 := lt8 (n := kbF X 12) (by omega) (by omega) c12
    obtain ⟨t, h1, h2, h3, h4, h6⟩ := M_lt hn en z
    obtain ⟨g1, g2, g3⟩ := ee t h2 h3
    rw [h4] at g1 g2 g3
    rw [← sk n t h1 h6]
    have mp := mlF_p (rxM_p s X) t
    have m4 := ml_M5 (X := X) ha k5 (show t ≤ 12 by omega)
    have al := ha t h2
    have rx : rxM s X t = askT s t + 1 := by unfold rxM; rw [if_pos h3]
    have dg : jrem (nI c / nI (mlF (rxM s X) t)) (nI (askT s t + 1)) = nI (dgF (rxM s X) c t) := by
      rw [dv_nI (by omega) mp (by omega), rm_nI (by have := Nat.div_le_self c (mlF (rxM s X) t); omega) (by omega) (by omega), ← rx]
    have dl : dgF (rxM s X) c t < 4 := by
      have : dgF (rxM s X) c t < rxM s X t := Nat.mod_lt _ (rxM_p s X t)
      omega
    have vs := vlF_s (rxM s X) (toF s X c m q) t
    have vm := vl_mono (rx := rxM s X) (e := toF s X c m q) 12 (show t + 1 ≤ 12 by omega)
    have kb1 : kbF X (t + 1) = i + 1 := by rw [kb_y h3, h4]
    have st71 : ∀ (x : Int32) (v6 : Option Value), x = nI (toF s X c m q t) → ca_G Γ 7 h 71 [some (.ref 51), some (.int (nI c)), some (.int (nI m)), some (.int (nI q)), some (.int (nI (c - vlF (rxM s X) (toF s X c m q) t))), some (.int (nI i)), v6] [.int x] := by
      rintro x v6 rfl
      have t01 : toF s X c m q t = 0 ∨ toF s X c m q t = 1 := by unfold toF; split <;> simp
      refine g_istore (pc := 71) o dX10_after_71 (by decide) ?_
      show ca_G Γ 7 _ _ [_, _, _, _, _, _, _] _
      refine g_iload (pc := 73) o dX10_after_73 rfl ?_
      refine g_iload (pc := 75) o dX10_after_75 rfl ?_
      refine g_if_eq (pc := 77) o 90 dX10_after_77 (by decide) (fun c77 => ?_) (fun c77 => ?_)
      · skip
        have t0 : toF s X c m q t = 0 := by
          rcases t01 with u | u
          · exact u
          · rw [u] at c77; exact absurd c77 (by decide)
        refine g_iconst (pc := 90) o dX10_after_90 0 rfl ?_
        refine g_isub (pc := 91) o dX10_after_91 ?_
        refine g_istore (pc := 92) o dX10_after_92 (by decide) ?_
        show ca_G Γ 7 _ _ [_, _, _, _, _, _, _] _
        refine g_iinc (pc := 94) o dX10_after_94 rfl 1 rfl (by decide) ?_
        show ca_G Γ 7 _ _ [_, _, _, _, _, _, _] _
        refine g_goto (pc := 97) o 6 dX10_after_97 (by decide) ?_
        exact ih z _ _ (t + 1) _ (nI_1 i) (by omega) kb1 (by rw [vs, t0, Nat.zero_mul, Nat.add_zero]; exact Int32.sub_zero _)
      · skip
        have t1 : toF s X c m q t = 1 := by
          rcases t01 with u | u
          · rw [u] at c77; exact absurd rfl c77
          · exact u
        rw [t1, Nat.one_mul] at vs
        refine g_aload_n (pc := 80) o dX10_after_80 rfl ?_
        refine g_getR (pc := 81) o 8 rfl rfl rfl inX10 (by decide) lf_X10_31 dX10_after_81 ?_
        refine g_iload (pc := 84) o dX10_after_84 rfl ?_
        refine n_ialdE (pc := 86) o i (rfl) rfl ((by omega)) (by decide) (g3) dX10_after_86 ?_
        refine g_goto (pc := 87) o 91 dX10_after_87 (by decide) ?_
        refine g_isub (pc := 91) o dX10_after_91 ?_
        refine g_istore (pc := 92) o dX10_after_92 (by decide) ?_
        show ca_G Γ 7 _ _ [_, _, _, _, _, _, _] _
        refine g_iinc (pc := 94) o dX10_after_94 rfl 1 rfl (by decide) ?_
        show ca_G Γ 7 _ _ [_, _, _, _, _, _, _] _
        refine g_goto (pc := 97) o 6 dX10_after_97 (by decide) ?_
        exact ih z _ _ (t + 1) _ (nI_1 i) (by omega) kb1 (by rw [vs, pk_sub (by omega)]; congr 1; omega)
    have d1 : ¬ nI (mlF (rxM s X) t) = 0 := fun y => by
      have := (nI_eq (a := mlF (rxM s X) t) (b := 0) (by omega) (by decide)).mp y
      omega
    have d2 : ¬ nI (askT s t + 1) = 0 := fun y => by
      have := (nI_eq (a := askT s t + 1) (b := 0) (by omega) (by decide)).mp y
      omega
    refine g_iload_n (pc := 15) o dX10_after_15 rfl ?_
    refine g_aload_n (pc := 16) o dX10_after_16 rfl ?_
    refine g_getR (pc := 17) o 8 rfl rfl rfl inX10 (by decide) lf_X10_31 dX10_after_17 ?_
    refine g_iload (pc := 20) o dX10_after_20 rfl ?_
    refine n_ialdE (pc := 22) o i (rfl) rfl ((by omega)) (by decide) (g3) dX10_after_22 ?_
    refine g_idiv (pc := 23) o dX10_after_23 d1 ?_
    refine g_aload_n (pc := 24) o dX10_after_24 rfl ?_
    refine g_getR (pc := 25) o 7 rfl rfl rfl inX10 (by decide) lf_X10_28 dX10_after_25 ?_
    refine g_iload (pc := 28) o dX10_after_28 rfl ?_
    refine n_ialdE (pc := 30) o i (rfl) rfl ((by omega)) (by decide) (g2) dX10_after_30 ?_
    refine g_irem (pc := 31) o dX10_after_31 d2 ?_
    rw [dg]
    refine g_if_le (pc := 32) o 70 dX10_after_32 (by decide) (fun c32 => ?_) (fun c32 => ?_)
    · skip
      have u : ¬ 0 < dgF (rxM s X) c t := fun u => nI_nle u (by omega) c32
      refine g_iconst (pc := 70) o dX10_after_70 0 rfl ?_
      exact st71 _ _ (by unfold toF; rw [if_neg (fun y => u y.2)]; rfl)
    · skip
      have u : 0 < dgF (rxM s X) c t := by
        rcases Nat.eq_zero_or_pos (dgF (rxM s X) c t) with y | y
        · rw [y] at c32; exact absurd (by decide) c32
        · exact y
      refine g_aload_n (pc := 35) o dX10_after_35 rfl ?_
      refine g_aload_n (pc := 36) o dX10_after_36 rfl ?_
      refine g_getR (pc := 37) o 6 rfl rfl rfl inX10 (by decide) lf_X10_25 dX10_after_37 ?_
      refine g_iload (pc := 40) o dX10_after_40 rfl ?_
      refine n_ialdE (pc := 42) o i (rfl) rfl ((by omega)) (by decide) (g1) dX10_after_42 ?_
      refine g_iload_n (pc := 43) o dX10_after_43 rfl ?_
      refine g_callVi (pc := 44) o (m_isAtE es t m h2 hm) mt_X10_isAt mv_X10_isAt lk_X10_167 rfl rfl rfl (by decide) rfl (Nat.le_of_ble_eq_true rfl) dX10_after_44 ?_
      refine g_if_eq (pc := 47) o 70 dX10_after_47 (by decide) (fun c47 => ?_) (fun c47 => ?_)
      · skip
        have v := bI_0.mp c47
        refine g_iconst (pc := 70) o dX10_after_70 0 rfl ?_
        exact st71 _ _ (by unfold toF; rw [if_neg (fun y => v y.1.2.1)]; rfl)
      · skip
        have v := bI_n0.mp c47
        refine g_aload_n (pc := 50) o dX10_after_50 rfl ?_
        refine g_aload_n (pc := 51) o dX10_after_51 rfl ?_
        refine g_getR (pc := 52) o 6 rfl rfl rfl inX10 (by decide) lf_X10_25 dX10_after_52 ?_
        refine g_iload (pc := 55) o dX10_after_55 rfl ?_
        refine n_ialdE (pc := 57) o i (rfl) rfl ((by omega)) (by decide) (g1) dX10_after_57 ?_
        refine g_iconst (pc := 58) o dX10_after_58 2 rfl ?_
        refine g_callVi (pc := 59) o (m_ofE es t 2 h2 (by decide)) mt_X10_of mv_X10_of lk_X10_131 rfl rfl rfl (by decide) rfl (Nat.le_of_ble_eq_true rfl) dX10_after_59 ?_
        refine g_iload_n (pc := 62) o dX10_after_62 rfl ?_
        refine g_ic_ne (pc := 63) o 70 dX10_after_63 (by decide) (fun c63 => ?_) (fun c63 => ?_)
        · skip
          refine g_iconst (pc := 70) o dX10_after_70 0 rfl ?_
          exact st71 _ _ (by unfold toF; rw [if_neg (fun y => c63 y.1.2.2)]; rfl)
        · skip
          refine g_iconst (pc := 66) o dX10_after_66 1 rfl ?_
          refine g_goto (pc := 67) o 71 dX10_after_67 (by decide) ?_
          exact st71 _ _ (by unfold toF; rw [if_pos ⟨⟨h3, v, c63⟩, u⟩]; rfl)
set_option maxRecDepth 100000 in
set_option maxHeartbeats 400000 in
theorem m_after {h : Mem} {s : Nat → Int32} (es : h.1 52 = s) (I : SI s) (p : Int32) (d : Nat) (X : Int32) (k5 : kbF X 12 ≤ 5) (M : MB h s p d X 12) (c m q : Nat) (hm : m < 24) (hq : q < 8) (hc : c < mlF (rxM s X) 12) : Ct yX10_after cX10_after 7 (some .int) 2 47 [.ref 51, .int (nI c), .int (nI m), .int (nI q)] h (Ei (nI ((auM s p d X).nx c m q)) h) := by
  refine Ct.of (by decide) (Nat.le_of_ble_eq_true rfl) (fun Γ o ρ => ?_)
  show ca_G Γ 7 _ _ [_, _, _, _, _, _, _] _
  rw [(to_nx (p := p) (d := d) (m := m) (q := q) hc).1] at ρ
  refine g_iload_n (pc := 0) o dX10_after_0 rfl ?_
  refine g_istore (pc := 1) o dX10_after_1 (by decide) ?_
  show ca_G Γ 7 _ _ [_, _, _, _, _, _, _] _
  refine g_iconst (pc := 3) o dX10_after_3 0 rfl ?_
  refine g_istore (pc := 4) o dX10_after_4 (by decide) ?_
  show ca_G Γ 7 _ _ [_, _, _, _, _, _, _] _
  exact lp_after o ρ es I p d X k5 M c m q hm hq hc ⟨rfl, rfl⟩ 0 (by omega) _ _ 0 _ rfl (by omega) rfl rfl

