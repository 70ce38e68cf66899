/-! ===== the class prepares a day ===== -/
theorem or_dig : ∀ k, k < 5 → ∀ a, a < 4 ^ k → ∀ b, b < 4 → nI a ||| jshl (nI b) (nI (2 * k)) = nI (a + b * 4 ^ k) := by decide +kernel
abbrev debF (s : Nat → Int32) (X : Int32) (n : Nat) : Nat := vlF (rxC s X) (akF s X) n
def PI (h0 h : Mem) (s : Nat → Int32) (p : Int32) (d : Nat) (X : Int32) (n : Nat) : Prop :=
  (∀ m, m < 24 → h.1 39 m = lwF s p d X m n) ∧ (∀ m q, m < 24 → q < 8 → h.1 41 (8 * m + q) = nI (pyF s X m q n)) ∧ h.1 38 8 = nI (debF s X n) ∧ h.1 38 9 = nI (akN s X n) ∧ ∀ c, c ≠ 38 → c ≠ 39 → c ≠ 41 → h.1 c = h0.1 c
theorem pyF_s (s : Nat → Int32) (X : Int32) (m q n : Nat) : pyF s X m q (n + 1) = pyF s X m q n + (if asks s X n then dlF s X n m q else 0) * 4 ^ akN s X n := by
  unfold pyF
  rw [vlF_s, ml_C]
theorem debF_s (s : Nat → Int32) (X : Int32) (n : Nat) : debF s X (n + 1) = debF s X n + akF s X n * 4 ^ akN s X n := by
  show vlF (rxC s X) (akF s X) (n + 1) = _
  rw [vlF_s, ml_C]
theorem py_lt (s : Nat → Int32) (X : Int32) (m q n : Nat) : pyF s X m q n < 4 ^ akN s X n := by
  have := vl_half (s := s) (X := X) (f := fun t => if asks s X t then dlF s X t m q else 0) (fun t => by split; exact dl_le s X t m q; omega) (fun t z => if_neg z) n
  rw [ml_C] at this
  unfold pyF
  omega
theorem fd_lt {s : Nat → Int32} (X : Int32) (ha : ∀ t, t < 12 → askT s t < 4) {n : Nat} (hn : n ≤ 12) : debF s X n < 4 ^ akN s X n := by
  rw [← ml_C]
  exact vlF_lt n (fun t ht => ak_C (ha t (by omega)))
theorem akN_le (s : Nat → Int32) (X : Int32) {n : Nat} : ∀ m, n ≤ m → akN s X n ≤ akN s X m
  | 0, h => by rw [show n = 0 by omega]; exact Nat.le_refl _
  | m + 1, h => by
    by_cases w : n = m + 1
    · rw [w]; exact Nat.le_refl _
    · have := akN_le s X m (by omega : n ≤ m)
      rw [akN_s]
      omega
set_option maxRecDepth 100000 in
set_option maxHeartbeats 400000 in
theorem lp_obey {Γ : Fr} (o : ca_O Γ cX1_obey 10 RX1 2 44) {h0 : Mem} {s : Nat → Int32} (p : Int32) (d : Nat) (X : Int32) (n a b w : Nat) (hx : bt X n = true) (hn : n < 12) (hw : w < 8) (ab : a ≤ b) (hb : b < 24) (e2 : tmF s n 2 = nI w) (e3 : tmF s n 3 = nI a) (e4 : tmF s n 4 = nI b) (x7 x4 : Int32) (low : Int32) (hl : ∀ x, x < 4 ^ akN s X n → nI x ||| low = nI (x + (if asks s X n then 1 else 0) * 4 ^ akN s X n)) (kk : ∀ (h : Mem) (v : Option Value), (∀ m, m < 24 → h.1 39 m = lwF s p d X m (n + 1)) → (∀ m q, m < 24 → q < 8 → h.1 41 (8 * m + q) = nI (pyF s X m q (n + 1))) → (∀ c, c ≠ 39 → c ≠ 41 → h.1 c = h0.1 c) → ca_G Γ 10 h 132 [some (.ref 38), some (.ref 1), some (.int (nI n)), some (.int (badF s n)), some (.int x4), some (.int (nI w)), some (.int (nI b)), some (.int x7), some (.int low), v] []) : ∀ i, i ≤ b + 1 → a ≤ i → ∀ (xi : Int32) (h : Mem), xi = nI i → (∀ m, m < 24 → h.1 39 m = if m < i then lwF s p d X m (n + 1) else lwF s p d X m n) → (∀ m q, m < 24 → q < 8 → h.1 41 (8 * m + q) = nI (if m < i then pyF s X m q (n + 1) else pyF s X m q n)) → (∀ c, c ≠ 39 → c ≠ 41 → h.1 c = h0.1 c) → ca_G Γ 10 h 88 [some (.ref 38), some (.ref 1), some (.int (nI n)), some (.int (badF s n)), some (.int x4), some (.int (nI w)), some (.int (nI b)), some (.int x7), some (.int low), some (.int xi)] [] := by
  have ta : (tmF s n 3).toInt = a := by rw [e3]; exact nI_toInt (by omega)
  have tb : (tmF s n 4).toInt = b := by rw [e4]; exact nI_toInt (by omega)
  have at1 : ∀ m, atF s n m ↔ a ≤ m ∧ m ≤ b := by
    intro m
    unfold atF
    rw [ta, tb]
    omega
  have dl1 : ∀ m q, q < 8 → dlF s X n m q = if (a ≤ m ∧ m ≤ b) ∧ q = w then 1 else 0 := by
    intro m q hq
    unfold dlF
    by_cases z : (a ≤ m ∧ m ≤ b) ∧ q = w
    · rw [if_pos z, if_pos ⟨hx, (at1 m).mpr z.1, by rw [e2, z.2]⟩]
    · rw [if_neg z, if_neg (fun y => z ⟨(at1 m).mp y.2.1, ((nI_eq (by omega) (by omega)).mp (e2.symm.trans y.2.2)).symm⟩)]
  refine downI (b + 1) (fun i hi ih => ?_)
  rintro ai xi h rfl m1 m2 m3
  refine g_iload (pc := 88) o dX1_obey_88 rfl ?_
  refine g_iload (pc := 90) o dX1_obey_90 rfl ?_
  refine g_ic_gt (pc := 92) o 132 dX1_obey_92 (by decide) (fun c92 => ?_) (fun c92 => ?_)
  · skip
    have q : i = b + 1 := by have := (nI_ltI (by omega) (by omega)).mp c92; omega
    subst q
    refine kk h _ (fun m hm => ?_) (fun m q hm hq => ?_) m3
    · rw [m1 m hm]
      by_cases z : m < b + 1
      · rw [if_pos z]
      · rw [if_neg z, lwF_s, if_neg (fun y => by have := (at1 m).mp y.2; omega)]
    · rw [m2 m q hm hq]
      by_cases z : m < b + 1
      · rw [if_pos z]
      · rw [if_neg z, pyF_s, dl1 m q hq, if_neg (c := (a ≤ m ∧ m ≤ b) ∧ q = w) (fun y => by omega), ite_self, Nat.zero_mul, Nat.add_zero]
  · skip
    have iq : i ≤ b := by have := mt (nI_ltI (a := b) (b := i) (by omega) (by omega)).mpr c92; omega
    have v1 : h.1 39 i = lwF s p d X i n := by rw [m1 i (by omega), if_neg (by omega)]
    have st108 : ∀ h2 : Mem, (∀ m, m < 24 → h2.1 39 m = if m < i + 1 then lwF s p d X m (n + 1) else lwF s p d X m n) → h2.1 41 = h.1 41 → (∀ c, c ≠ 39 → c ≠ 41 → h2.1 c = h0.1 c) → ca_G Γ 10 h2 108 [some (.ref 38), some (.ref 1), some (.int (nI n)), some (.int (badF s n)), some (.int x4), some (.int (nI w)), some (.int (nI b)), some (.int x7), some (.int low), some (.int (nI i))] [] := by
      intro h2 w1 w2 w3
      have v2 : h2.1 41 (8 * i + w) = nI (pyF s X i w n) := by rw [w2, m2 i w (by omega) hw, if_neg (by omega)]
      have ei : nI i * nI 8 + nI w = nI (8 * i + w) := by rw [ix, Nat.mul_comm]
      refine g_aload_n (pc := 108) o dX1_obey_108 rfl ?_
      refine g_getR (pc := 109) o 2 rfl rfl rfl inX1 (by decide) lf_X1_18 dX1_obey_109 ?_
      refine g_iload (pc := 112) o dX1_obey_112 rfl ?_
      refine g_bipush (pc := 114) o dX1_obey_114 8 rfl ?_
      refine g_imul (pc := 116) o dX1_obey_116 ?_
      refine g_iload (pc := 117) o dX1_obey_117 rfl ?_
      refine g_iadd (pc := 119) o dX1_obey_119 ?_
      rw [show nI i * 8 + nI w = nI (8 * i + w) from ei]
      refine g_dup2 (pc := 120) o dX1_obey_120 rfl rfl ?_
      refine n_ialdE (pc := 121) o (8 * i + w) (rfl) rfl ((by omega)) (by decide) (v2) dX1_obey_121 ?_
      refine g_iload (pc := 122) o dX1_obey_122 rfl ?_
      refine g_ior (pc := 124) o dX1_obey_124 ?_
      rw [hl _ (py_lt s X i w n)]
      refine n_iast (pc := 125) o (8 * i + w) (rfl) rfl ((by omega)) (by decide) dX1_obey_125 ?_
      refine g_iinc (pc := 126) o dX1_obey_126 rfl 1 rfl (by decide) ?_
      show ca_G Γ 10 _ _ [_, _, _, _, _, _, _, _, _, _] _
      refine g_goto (pc := 129) o 88 dX1_obey_129 (by decide) ?_
      refine ih (by omega) (by omega) _ _ (nI_1 i) (fun m hm => ?_) (fun m q hm hq => ?_) (fun c hc1 hc2 => (mw_ne _ _ _ hc2).trans (w3 c hc1 hc2))
      · rw [mw_ne _ _ _ (by decide)]; exact w1 m hm
      · rw [mw_same]
        unfold upd
        by_cases z : m = i ∧ q = w
        · obtain ⟨rfl, rfl⟩ := z
          rw [if_pos rfl, if_pos (show m < m + 1 by omega), pyF_s, dl1 m q hq, if_pos (c := (a ≤ m ∧ m ≤ b) ∧ q = q) ⟨⟨ai, by omega⟩, rfl⟩]
        · rw [if_neg (by omega), w2, m2 m q hm hq]
          by_cases y : m = i
          · subst y
            rw [if_neg (by omega), if_pos (by omega), pyF_s, dl1 m q hq, if_neg (c := (a ≤ m ∧ m ≤ b) ∧ q = w) (fun u => z ⟨rfl, u.2⟩), ite_self, Nat.zero_mul, Nat.add_zero]
          · by_cases u : m < i
            · rw [if_pos u, if_pos (by omega)]
            · rw [if_neg u, if_neg (by omega)]
    refine g_aload_n (pc := 95) o dX1_obey_95 rfl ?_
    refine g_getR (pc := 96) o 0 rfl rfl rfl inX1 (by decide) lf_X1_9 dX1_obey_96 ?_
    refine g_iload (pc := 99) o dX1_obey_99 rfl ?_
    refine g_dup2 (pc := 101) o dX1_obey_101 rfl rfl ?_
    refine n_ialdE (pc := 102) o i (rfl) rfl ((by omega)) (by decide) (v1) dX1_obey_102 ?_
    refine g_iload_n (pc := 103) o dX1_obey_103 rfl ?_
    refine g_iconst (pc := 104) o dX1_obey_104 (-1) rfl ?_
    refine g_ixor (pc := 105) o dX1_obey_105 ?_
    refine g_iand (pc := 106) o dX1_obey_106 ?_
    refine n_iast (pc := 107) o i (rfl) rfl ((by omega)) (by decide) dX1_obey_107 ?_
    refine st108 _ (fun m hm => ?_) (mw_ne _ _ _ (by decide)) (fun c hc1 hc2 => (mw_ne _ _ _ hc1).trans (m3 c hc1 hc2))
    rw [mw_same]
    unfold upd
    by_cases z : m = i
    · subst z
      rw [if_pos rfl, if_pos (by omega), lwF_s, if_pos ⟨hx, (at1 m).mpr ⟨ai, iq⟩⟩]
    · rw [if_neg z, m1 m hm]
      by_cases u : m < i
      · rw [if_pos u, if_pos (by omega)]
      · rw [if_neg u, if_neg (by omega)]
set_option maxRecDepth 100000 in
set_option maxHeartbeats 400000 in
theorem c_obey {h0 h : Mem} {s : Nat → Int32} (B : BR h0 1 s) (I : SI s) (p : Int32) (d : Nat) (X : Int32) (n : Nat) (hn : n < 12) (hx : bt X n = true) (h5 : akN s X 12 ≤ 5) (P : PI h0 h s p d X n) : Ct yX1_obey cX1_obey 10 none 2 44 [.ref 38, .ref 1, .int (nI n)] h (Qv (fun h2 => PI h0 h2 s p d X (n + 1))) := by
  refine Ct.of (by decide) (Nat.le_of_ble_eq_true rfl) (fun Γ o ρ => ?_)
  show ca_G Γ 10 _ _ [_, _, _, _, _, _, _, _, _, _] _
  have T := I.tm
  obtain ⟨k, _, w, a, b, _, _, hk, _, hw, ab, hb, _, _, ek, _, e2, e3, e4, _⟩ := T n hn
  obtain ⟨p1, p2, p3, p4, p5⟩ := P
  have B2 : BR h 1 s := B.of (fun c hc => p5 c (fun z => by subst z; revert hc; decide) (fun z => by subst z; revert hc; decide) (fun z => by subst z; revert hc; decide))
  have ha : askT s n < 4 := ask_lt T hn
  have k5 : akN s X n ≤ 5 := Nat.le_trans (akN_le s X 12 (by omega)) h5
  have k6 : asks s X n → akN s X n < 5 := fun z => by
    have := akN_le s X 12 (by omega : n + 1 ≤ 12)
    rw [akN_s, if_pos z] at this
    omega
  have c2 := c_tf B2 n 2 hn (by decide)
  rw [e2] at c2
  have c4 := c_tf B2 n 4 hn (by decide)
  rw [e4] at c4
  have c3 := c_tf B2 n 3 hn (by decide)
  rw [e3] at c3
  have st75 : ∀ (low : Int32) (x7 : Int32) (v8 v9 : Option Value), x7 = bI (asks s X n) → (∀ x, x < 4 ^ akN s X n → nI x ||| low = nI (x + (if asks s X n then 1 else 0) * 4 ^ akN s X n)) → ca_G Γ 10 h 75 [some (.ref 38), some (.ref 1), some (.int (nI n)), some (.int (badF s n)), some (.int (nI (askT s n))), some (.int (nI w)), some (.int (nI b)), some (.int x7), v8, v9] [.int low] := by
    rintro low x7 v8 v9 rfl hl
    refine g_istore (pc := 75) o dX1_obey_75 (by decide) ?_
    show ca_G Γ 10 _ _ [_, _, _, _, _, _, _, _, _, _] _
    refine g_aload_n (pc := 77) o dX1_obey_77 rfl ?_
    refine g_getR (pc := 78) o 2 rfl rfl rfl inX0 (by decide) lf_X1_77 dX1_obey_78 ?_
    refine g_iload_n (pc := 81) o dX1_obey_81 rfl ?_
    refine g_iconst (pc := 82) o dX1_obey_82 3 rfl ?_
    refine g_callVi (pc := 83) o (c3) mt_X7_field mv_X7_field lk_X1_86 rfl rfl rfl (by decide) rfl (Nat.le_of_ble_eq_true rfl) dX1_obey_83 ?_
    refine g_istore (pc := 86) o dX1_obey_86 (by decide) ?_
    show ca_G Γ 10 _ _ [_, _, _, _, _, _, _, _, _, _] _
    refine lp_obey o (h0 := h) p d X n a b w hx hn hw ab hb e2 e3 e4 _ _ low hl (fun h2 v q1 q2 q3 => ?_) a (by omega) (Nat.le_refl _) _ h rfl (fun m hm => ?_) (fun m q hm hq => ?_) (fun c _ _ => rfl)
    · have f8 : h2.1 38 8 = nI (debF s X n) := by rw [q3 38 (by decide) (by decide)]; exact p3
      have f9 : h2.1 38 9 = nI (akN s X n) := by rw [q3 38 (by decide) (by decide)]; exact p4
      have fr : ∀ c, c ≠ 38 → c ≠ 39 → c ≠ 41 → h2.1 c = h0.1 c := fun c z1 z2 z3 => (q3 c z2 z3).trans (p5 c z1 z2 z3)
      refine g_iload (pc := 132) o dX1_obey_132 rfl ?_
      refine g_if_eq (pc := 134) o 165 dX1_obey_134 (by decide) (fun c134 => ?_) (fun c134 => ?_)
      · skip
        have z := bI_0.mp c134
        exact g_vret o ρ dX1_obey_165 ⟨rfl, q1, q2, by rw [f8, debF_s]; congr 1; unfold akF; rw [if_pos hx, show askT s n = 0 from Nat.eq_zero_of_not_pos (fun y => z ⟨hx, y⟩), Nat.zero_mul, Nat.add_zero], by rw [f9, akN_s, if_neg z, Nat.add_zero], fr⟩
      · skip
        have z := bI_n0.mp c134
        refine g_aload_n (pc := 137) o dX1_obey_137 rfl ?_
        refine g_dup (pc := 138) o dX1_obey_138 rfl ?_
        refine g_getIE (pc := 139) o 8 rfl rfl rfl inX1 (by decide) lf_X1_59 (f8) dX1_obey_139 ?_
        refine g_iload (pc := 142) o dX1_obey_142 rfl ?_
        refine g_iconst (pc := 144) o dX1_obey_144 2 rfl ?_
        refine g_aload_n (pc := 145) o dX1_obey_145 rfl ?_
        refine g_getIE (pc := 146) o 9 rfl rfl rfl inX1 (by decide) lf_X1_63 (f9) dX1_obey_146 ?_
        refine g_imul (pc := 149) o dX1_obey_149 ?_
        rw [show (2 : Int32) * nI (akN s X n) = nI (2 * akN s X n) from pk_mul 2 _]
        refine g_ishl (pc := 150) o dX1_obey_150 ?_
        refine g_ior (pc := 151) o dX1_obey_151 ?_
        rw [or_dig _ (k6 z) _ (fd_lt X (fun t ht => ask_lt T ht) (by omega)) _ ha]
        refine g_put (pc := 152) o 8 rfl rfl rfl inX1 tyX1_ok nmX1 (by decide) lf_X1_59 rfl rfl rfl dX1_obey_152 ?_
        have f92 : (mw h2 38 8 (nI (debF s X n + askT s n * 4 ^ akN s X n))).1 38 9 = nI (akN s X n) := by
          rw [mw_same]; unfold upd; rw [if_neg (by decide)]; exact f9
        refine g_aload_n (pc := 155) o dX1_obey_155 rfl ?_
        refine g_dup (pc := 156) o dX1_obey_156 rfl ?_
        refine g_getIE (pc := 157) o 9 rfl rfl rfl inX1 (by decide) lf_X1_63 (f92) dX1_obey_157 ?_
        refine g_iconst (pc := 160) o dX1_obey_160 1 rfl ?_
        refine g_iadd (pc := 161) o dX1_obey_161 ?_
        refine g_put (pc := 162) o 9 rfl rfl rfl inX1 tyX1_ok nmX1 (by decide) lf_X1_63 rfl rfl rfl dX1_obey_162 ?_
        exact g_vret o ρ dX1_obey_165 ⟨rfl, fun m hm => by rw [mw_ne _ _ _ (by decide), mw_ne _ _ _ (by decide)]; exact q1 m hm, fun m q hm hq => by rw [mw_ne _ _ _ (by decide), mw_ne _ _ _ (by decide)]; exact q2 m q hm hq, by rw [mw_same]; unfold upd; rw [if_neg (by decide), mw_same]; unfold upd; rw [if_pos rfl, debF_s]; congr 2; unfold akF; rw [if_pos hx], by rw [mw_same]; unfold upd; rw [if_pos rfl, akN_s, if_pos z]; exact nI_1 _, fun c z1 z2 z3 => by rw [mw_ne _ _ _ z1, mw_ne _ _ _ z1]; exact fr c z1 z2 z3⟩
    · rw [p1 m hm]
      by_cases z : m < a
      · rw [if_pos z, lwF_s, if_neg]
        intro y
        have := y.2.1
        rw [e3, nI_toInt (by omega)] at this
        omega
      · rw [if_neg z]
    · rw [p2 m q hm hq]
      by_cases z : m < a
      · rw [if_pos z, pyF_s]
        have : dlF s X n m q = 0 := by
          unfold dlF
          rw [if_neg]
          intro y
          have := y.2.1.1
          rw [e3, nI_toInt (by omega)] at this
          omega
        rw [this, ite_self, Nat.zero_mul, Nat.add_zero]
      · rw [if_neg z]
  have st56 : ∀ (x7 : Int32) (v7 v8 v9 : Option Value), x7 = bI (asks s X n) → ca_G Γ 10 h 56 [some (.ref 38), some (.ref 1), some (.int (nI n)), some (.int (badF s n)), some (.int (nI (askT s n))), some (.int (nI w)), some (.int (nI b)), v7, v8, v9] [.int x7] := by
    rintro x7 v7 v8 v9 rfl
    refine g_istore (pc := 56) o dX1_obey_56 (by decide) ?_
    show ca_G Γ 10 _ _ [_, _, _, _, _, _, _, _, _, _] _
    refine g_iload (pc := 58) o dX1_obey_58 rfl ?_
    refine g_if_eq (pc := 60) o 74 dX1_obey_60 (by decide) (fun c60 => ?_) (fun c60 => ?_)
    · skip
      have z := bI_0.mp c60
      refine g_iconst (pc := 74) o dX1_obey_74 0 rfl ?_
      exact st75 _ _ _ _ rfl (fun x hx => by rw [if_neg z, Nat.zero_mul, Nat.add_zero]; exact or_z _)
    · skip
      have z := bI_n0.mp c60
      refine g_iconst (pc := 63) o dX1_obey_63 1 rfl ?_
      refine g_iconst (pc := 64) o dX1_obey_64 2 rfl ?_
      refine g_aload_n (pc := 65) o dX1_obey_65 rfl ?_
      refine g_getIE (pc := 66) o 9 rfl rfl rfl inX1 (by decide) lf_X1_63 (p4) dX1_obey_66 ?_
      refine g_imul (pc := 69) o dX1_obey_69 ?_
      rw [show (2 : Int32) * nI (akN s X n) = nI (2 * akN s X n) from pk_mul 2 _]
      refine g_ishl (pc := 70) o dX1_obey_70 ?_
      refine g_goto (pc := 71) o 75 dX1_obey_71 (by decide) ?_
      exact st75 _ _ _ _ rfl (fun x hx => by rw [if_pos z]; exact or_dig _ (k6 z) x hx 1 (by decide))
  refine g_aload_n (pc := 0) o dX1_obey_0 rfl ?_
  refine g_iload_n (pc := 1) o dX1_obey_1 rfl ?_
  refine g_callVi (pc := 2) o (c_badPlaces B2 T n hn) mt_X0_badPlaces mv_X0_badPlaces lk_X1_74 rfl rfl rfl (by decide) rfl (Nat.le_of_ble_eq_true rfl) dX1_obey_2 ?_
  refine g_istore_n (pc := 5) o dX1_obey_5 (by decide) ?_
  show ca_G Γ 10 _ _ [_, _, _, _, _, _, _, _, _, _] _
  refine g_aload_n (pc := 6) o dX1_obey_6 rfl ?_
  refine g_getR (pc := 7) o 2 rfl rfl rfl inX0 (by decide) lf_X1_77 dX1_obey_7 ?_
  refine g_iload_n (pc := 10) o dX1_obey_10 rfl ?_
  refine g_callVi (pc := 11) o (c_asked B2 T n hn) mt_X7_asked mv_X7_asked lk_X1_81 rfl rfl rfl (by decide) rfl (Nat.le_of_ble_eq_true rfl) dX1_obey_11 ?_
  refine g_istore (pc := 14) o dX1_obey_14 (by decide) ?_
  show ca_G Γ 10 _ _ [_, _, _, _, _, _, _, _, _, _] _
  refine g_aload_n (pc := 16) o dX1_obey_16 rfl ?_
  refine g_getR (pc := 17) o 2 rfl rfl rfl inX0 (by decide) lf_X1_77 dX1_obey_17 ?_
  refine g_iload_n (pc := 20) o dX1_obey_20 rfl ?_
  refine g_iconst (pc := 21) o dX1_obey_21 2 rfl ?_
  refine g_callVi (pc := 22) o (c2) mt_X7_field mv_X7_field lk_X1_86 rfl rfl rfl (by decide) rfl (Nat.le_of_ble_eq_true rfl) dX1_obey_22 ?_
  refine g_istore (pc := 25) o dX1_obey_25 (by decide) ?_
  show ca_G Γ 10 _ _ [_, _, _, _, _, _, _, _, _, _] _
  refine g_aload_n (pc := 27) o dX1_obey_27 rfl ?_
  refine g_getR (pc := 28) o 2 rfl rfl rfl inX0 (by decide) lf_X1_77 dX1_obey_28 ?_
  refine g_iload_n (pc := 31) o dX1_obey_31 rfl ?_
  refine g_iconst (pc := 32) o dX1_obey_32 4 rfl ?_
  refine g_callVi (pc := 33) o (c4) mt_X7_field mv_X7_field lk_X1_86 rfl rfl rfl (by decide) rfl (Nat.le_of_ble_eq_true rfl) dX1_obey_33 ?_
  refine g_istore (pc := 36) o dX1_obey_36 (by decide) ?_
  show ca_G Γ 10 _ _ [_, _, _, _, _, _, _, _, _, _] _
  refine g_iload (pc := 38) o dX1_obey_38 rfl ?_
  refine g_if_le (pc := 40) o 55 dX1_obey_40 (by decide) (fun c40 => ?_) (fun c40 => ?_)
  · skip
    have z : askT s n = 0 := Classical.byContradiction (fun y => nI_nle (n := askT s n) (by omega) (by omega) c40)
    refine g_iconst (pc := 55) o dX1_obey_55 0 rfl ?_
    exact st56 _ _ _ _ (bI_f (fun y => by have := y.2; omega))
  · skip
    have z : 0 < askT s n := by
      rcases Nat.eq_zero_or_pos (askT s n) with y | y
      · exact absurd (by rw [y]; decide) c40
      · exact y
    refine g_aload_n (pc := 43) o dX1_obey_43 rfl ?_
    refine g_getIE (pc := 44) o 9 rfl rfl rfl inX1 (by decide) lf_X1_63 (p4) dX1_obey_44 ?_
    refine g_iconst (pc := 47) o dX1_obey_47 5 rfl ?_
    refine g_ic_ge (pc := 48) o 55 dX1_obey_48 (by decide) (fun c48 => ?_) (fun c48 => ?_)
    · skip
      exact absurd ((nI_leI (a := 5) (b := akN s X n) (by decide) (by omega)).mp c48) (by have := k6 ⟨hx, z⟩; omega)
    · skip
      refine g_iconst (pc := 51) o dX1_obey_51 1 rfl ?_
      refine g_goto (pc := 52) o 56 dX1_obey_52 (by decide) ?_
      exact st56 _ _ _ _ (bI_t ⟨hx, z⟩)
set_option maxRecDepth 100000 in
set_option maxHeartbeats 400000 in
theorem lp_pr3 {Γ : Fr} (o : ca_O Γ cX1_prepare 6 RX1 3 73) {Pr : Option Value → Mem → Prop} (ρ : ca_R Γ none Pr) {h0 : Mem} {s : Nat → Int32} (B : BR h0 1 s) (I : SI s) (p : Int32) (d : Nat) (X : Int32) (h5 : akN s X 12 ≤ 5) (hp : ∀ h : Mem, PI h0 h s p d X 12 → Pr none h) : ∀ n, n ≤ 12 → ∀ (xn : Int32) (h : Mem), xn = nI n → PI h0 h s p d X n → ca_G Γ 6 h 85 [some (.ref 38), some (.ref 1), some (.int p), some (.int (nI d)), some (.int X), some (.int xn)] [] := by
  refine downI 12 (fun n hn ih => ?_)
  rintro xn h rfl P
  refine g_iload (pc := 85) o dX1_prepare_85 rfl ?_
  refine g_bipush (pc := 87) o dX1_prepare_87 12 rfl ?_
  refine g_ic_ge (pc := 89) o 115 dX1_prepare_89 (by decide) (fun c89 => ?_) (fun c89 => ?_)
  · skip
    have q : n = 12 := ge8 (n := 12) (by decide) (by omega) c89
    subst q
    exact g_vret o ρ dX1_prepare_115 (hp h P)
  · skip
    have q : n < 12 := lt8 (n := 12) (by decide) (by omega) c89
    refine g_iload (pc := 92) o dX1_prepare_92 rfl ?_
    refine g_iload (pc := 94) o dX1_prepare_94 rfl ?_
    refine g_callNi (pc := 96) o (c_has X n (by omega) h) mt_X9_has ms_X9_has ln_X1_66 rfl (by decide) rfl (Nat.le_of_ble_eq_true rfl) dX1_prepare_96 ?_
    refine g_if_eq (pc := 99) o 109 dX1_prepare_99 (by decide) (fun c99 => ?_) (fun c99 => ?_)
    · skip
      have z := bI_0.mp c99
      refine g_iinc (pc := 109) o dX1_prepare_109 rfl 1 rfl (by decide) ?_
      show ca_G Γ 6 _ _ [_, _, _, _, _, _] _
      refine g_goto (pc := 112) o 85 dX1_prepare_112 (by decide) ?_
      refine ih q _ h (nI_1 n) ⟨fun m hm => ?_, fun m q hm hq => ?_, ?_, ?_, P.2.2.2.2⟩
      · rw [lwF_s, if_neg (fun y => z y.1)]; exact P.1 m hm
      · rw [pyF_s, if_neg (fun y => z y.1), Nat.zero_mul, Nat.add_zero]; exact P.2.1 m q hm hq
      · rw [debF_s]
        unfold akF
        rw [if_neg z, Nat.zero_mul, Nat.add_zero]
        exact P.2.2.1
      · rw [akN_s, if_neg (fun y => z y.1), Nat.add_zero]; exact P.2.2.2.1
    · skip
      have z := bI_n0.mp c99
      refine g_aload_n (pc := 102) o dX1_prepare_102 rfl ?_
      refine g_aload_n (pc := 103) o dX1_prepare_103 rfl ?_
      refine g_iload (pc := 104) o dX1_prepare_104 rfl ?_
      refine g_callVQv (pc := 106) o (c_obey B I p d X n q z h5 P) mt_X1_obey mv_X1_obey lk_X1_70 rfl rfl rfl (by decide) rfl (Nat.le_of_ble_eq_true rfl) dX1_prepare_106 ?_
      rintro h2 w
      refine g_iinc (pc := 109) o dX1_prepare_109 rfl 1 rfl (by decide) ?_
      show ca_G Γ 6 _ _ [_, _, _, _, _, _] _
      refine g_goto (pc := 112) o 85 dX1_prepare_112 (by decide) ?_
      exact ih q _ h2 (nI_1 n) w
set_option maxRecDepth 100000 in
set_option maxHeartbeats 400000 in
theorem lp_pr2 {Γ : Fr} (o : ca_O Γ cX1_prepare 6 RX1 3 73) {h0 : Mem} (x2 x3 x4 : Int32) (kk : ∀ h : Mem, (∀ j, j < 192 → h.1 41 j = 0) → (∀ c, c ≠ 41 → h.1 c = h0.1 c) → ca_G Γ 6 h 72 [some (.ref 38), some (.ref 1), some (.int x2), some (.int x3), some (.int x4), some (.int (nI 192))] []) : ∀ i, i ≤ 192 → ∀ (xi : Int32) (h : Mem), xi = nI i → (∀ j, j < i → h.1 41 j = 0) → (∀ c, c ≠ 41 → h.1 c = h0.1 c) → ca_G Γ 6 h 50 [some (.ref 38), some (.ref 1), some (.int x2), some (.int x3), some (.int x4), some (.int xi)] [] := by
  refine downI 192 (fun i hi ih => ?_)
  rintro xi h rfl e1 e2
  refine g_iload (pc := 50) o dX1_prepare_50 rfl ?_
  refine g_sipush (pc := 52) o dX1_prepare_52 192 rfl ?_
  refine g_ic_ge (pc := 55) o 72 dX1_prepare_55 (by decide) (fun c55 => ?_) (fun c55 => ?_)
  · skip
    have q : i = 192 := ge8 (n := 192) (by decide) (by omega) c55
    subst q
    exact kk h e1 e2
  · skip
    have q : i < 192 := lt8 (n := 192) (by decide) (by omega) c55
    refine g_aload_n (pc := 58) o dX1_prepare_58 rfl ?_
    refine g_getR (pc := 59) o 2 rfl rfl rfl inX1 (by decide) lf_X1_18 dX1_prepare_59 ?_
    refine g_iload (pc := 62) o dX1_prepare_62 rfl ?_
    refine g_iconst (pc := 64) o dX1_prepare_64 0 rfl ?_
    refine n_iast (pc := 65) o i (rfl) rfl ((by omega)) (by decide) dX1_prepare_65 ?_
    refine g_iinc (pc := 66) o dX1_prepare_66 rfl 1 rfl (by decide) ?_
    show ca_G Γ 6 _ _ [_, _, _, _, _, _] _
    refine g_goto (pc := 69) o 50 dX1_prepare_69 (by decide) ?_
    refine ih q _ _ (nI_1 i) (fun j hj => ?_) (fun c hc => (mw_ne _ _ _ hc).trans (e2 c hc))
    rw [mw_same]
    unfold upd
    by_cases w : j = i
    · rw [if_pos w]
    · rw [if_neg w]; exact e1 j (by omega)
set_option maxRecDepth 100000 in
set_option maxHeartbeats 400000 in
theorem lp_pr1 {Γ : Fr} (o : ca_O Γ cX1_prepare 6 RX1 3 73) {h0 : Mem} {s : Nat → Int32} (B : BR h0 1 s) (x2 x3 x4 : Int32) (kk : ∀ h : Mem, (∀ j, j < 8 → h.1 40 j = stepF s (jshl 1 (nI j)) 8) → (∀ c, c ≠ 40 → h.1 c = h0.1 c) → ca_G Γ 6 h 47 [some (.ref 38), some (.ref 1), some (.int x2), some (.int x3), some (.int x4), some (.int (nI 8))] []) : ∀ i, i ≤ 8 → ∀ (xi : Int32) (h : Mem), xi = nI i → (∀ j, j < i → h.1 40 j = stepF s (jshl 1 (nI j)) 8) → (∀ c, c ≠ 40 → h.1 c = h0.1 c) → ca_G Γ 6 h 16 [some (.ref 38), some (.ref 1), some (.int x2), some (.int x3), some (.int x4), some (.int xi)] [] := by
  refine downI 8 (fun i hi ih => ?_)
  rintro xi h rfl e1 e2
  have B2 : BR h 1 s := B.of (fun c hc => e2 c (fun z => by subst z; revert hc; decide))
  refine g_iload (pc := 16) o dX1_prepare_16 rfl ?_
  refine g_bipush (pc := 18) o dX1_prepare_18 8 rfl ?_
  refine g_ic_ge (pc := 20) o 47 dX1_prepare_20 (by decide) (fun c20 => ?_) (fun c20 => ?_)
  · skip
    have q : i = 8 := ge8 (n := 8) (by decide) (by omega) c20
    subst q
    exact kk h e1 e2
  · skip
    have q : i < 8 := lt8 (n := 8) (by decide) (by omega) c20
    refine g_aload_n (pc := 23) o dX1_prepare_23 rfl ?_
    refine g_getR (pc := 24) o 1 rfl rfl rfl inX1 (by decide) lf_X1_15 dX1_prepare_24 ?_
    refine g_iload (pc := 27) o dX1_prepare_27 rfl ?_
    refine g_aload_n (pc := 29) o dX1_prepare_29 rfl ?_
    refine g_getR (pc := 30) o 0 rfl rfl rfl inX0 (by decide) lf_X1_49 dX1_prepare_30 ?_
    refine g_iconst (pc := 33) o dX1_prepare_33 1 rfl ?_
    refine g_iload (pc := 34) o dX1_prepare_34 rfl ?_
    refine g_ishl (pc := 36) o dX1_prepare_36 ?_
    refine g_callVi (pc := 37) o (c_stepFrom B2 (jshl 1 (nI i))) mt_X2_stepFrom mv_X2_stepFrom lk_X1_53 rfl rfl rfl (by decide) rfl (Nat.le_of_ble_eq_true rfl) dX1_prepare_37 ?_
    refine n_iast (pc := 40) o i (rfl) rfl ((by omega)) (by decide) dX1_prepare_40 ?_
    refine g_iinc (pc := 41) o dX1_prepare_41 rfl 1 rfl (by decide) ?_
    show ca_G Γ 6 _ _ [_, _, _, _, _, _] _
    refine g_goto (pc := 44) o 16 dX1_prepare_44 (by decide) ?_
    refine ih q _ _ (nI_1 i) (fun j hj => ?_) (fun c hc => (mw_ne _ _ _ hc).trans (e2 c hc))
    rw [mw_same]
    unfold upd
    by_cases w : j = i
    · rw [if_pos w, w]
    · rw [if_neg w]; exact e1 j (by omega)
/-- a day is prepared: what the class then holds of it -/
abbrev PR (h : Mem) (s : Nat → Int32) (p : Int32) (d : Nat) (X : Int32) : Prop :=
  (∀ m, m < 24 → h.1 39 m = lwF s p d X m 12) ∧ (∀ m q, m < 24 → q < 8 → h.1 41 (8 * m + q) = nI (pyF s X m q 12)) ∧ h.1 38 8 = nI (debF s X 12) ∧ ∀ q, q < 8 → h.1 40 q = stepF s (jshl 1 (nI q)) 8
set_option maxRecDepth 100000 in
set_option maxHeartbeats 400000 in
theorem c_prepare {h : Mem} {s : Nat → Int32} (B : BR h 1 s) (I : SI s) (p : Int32) (d : Nat) (hd : d < 30) (X : Int32) (h5 : akN s X 12 ≤ 5) : Ct yX1_prepare cX1_prepare 6 none 3 73 [.ref 38, .ref 1, .int p, .int (nI d), .int X] h (Qv (fun h2 => PR h2 s p d X ∧ ∀ c, c ≠ 38 → c ≠ 39 → c ≠ 40 → c ≠ 41 → h2.1 c = h.1 c)) := by
  refine Ct.of (by decide) (Nat.le_of_ble_eq_true rfl) (fun Γ o ρ => ?_)
  show ca_G Γ 6 _ _ [_, _, _, _, _, _] _
  refine g_aload_n (pc := 0) o dX1_prepare_0 rfl ?_
  refine g_getR (pc := 1) o 1 rfl rfl rfl inX0 (by decide) lf_X1_37 dX1_prepare_1 ?_
  refine g_iload_n (pc := 4) o dX1_prepare_4 rfl ?_
  refine g_iload_n (pc := 5) o dX1_prepare_5 rfl ?_
  refine g_aload_n (pc := 6) o dX1_prepare_6 rfl ?_
  refine g_getR (pc := 7) o 0 rfl rfl rfl inX1 (by decide) lf_X1_9 dX1_prepare_7 ?_
  refine g_callVQv (pc := 10) o (c_pin39 B I.seen I.see p d hd) mt_X5_pin mv_X5_pin lk_X1_43 rfl rfl rfl (by decide) rfl (Nat.le_of_ble_eq_true rfl) dX1_prepare_10 ?_
  rintro h1 w
  obtain ⟨w1, w2⟩ := w
  have B1 : BR h1 1 s := B.of (fun c hc => w2 c (fun z => by subst z; revert hc; decide))
  refine g_iconst (pc := 13) o dX1_prepare_13 0 rfl ?_
  refine g_istore (pc := 14) o dX1_prepare_14 (by decide) ?_
  show ca_G Γ 6 _ _ [_, _, _, _, _, _] _
  refine lp_pr1 o B1 _ _ _ (fun h2 u1 u2 => ?_) 0 (by omega) _ h1 rfl (fun j hj => by omega) (fun c _ => rfl)
  refine g_iconst (pc := 47) o dX1_prepare_47 0 rfl ?_
  refine g_istore (pc := 48) o dX1_prepare_48 (by decide) ?_
  show ca_G Γ 6 _ _ [_, _, _, _, _, _] _
  refine lp_pr2 o (h0 := h2) _ _ _ (fun h3 v1 v2 => ?_) 0 (by omega) _ h2 rfl (fun j hj => by omega) (fun c _ => rfl)
  have B3 : BR h3 1 s := B1.of (fun c hc => (v2 c (fun z => by subst z; revert hc; decide)).trans (u2 c (fun z => by subst z; revert hc; decide)))
  refine g_aload_n (pc := 72) o dX1_prepare_72 rfl ?_
  refine g_iconst (pc := 73) o dX1_prepare_73 0 rfl ?_
  refine g_put (pc := 74) o 8 rfl rfl rfl inX1 tyX1_ok nmX1 (by decide) lf_X1_59 rfl rfl rfl dX1_prepare_74 ?_
  refine g_aload_n (pc := 77) o dX1_prepare_77 rfl ?_
  refine g_iconst (pc := 78) o dX1_prepare_78 0 rfl ?_
  refine g_put (pc := 79) o 9 rfl rfl rfl inX1 tyX1_ok nmX1 (by decide) lf_X1_63 rfl rfl rfl dX1_prepare_79 ?_
  refine g_iconst (pc := 82) o dX1_prepare_82 0 rfl ?_
  refine g_istore (pc := 83) o dX1_prepare_83 (by decide) ?_
  show ca_G Γ 6 _ _ [_, _, _, _, _, _] _
  refine lp_pr3 o ρ (h0 := h3) B3 I p d X h5 (fun h4 P => ⟨rfl, ⟨P.1, P.2.1, P.2.2.1, fun q hq => ?_⟩, fun c z1 z2 z3 z4 => ?_⟩) 0 (by omega) _ _ rfl ⟨fun m hm => ?_, fun m q hm hq => ?_, ?_, ?_, fun c z1 z2 z3 => ?_⟩
  · rw [P.2.2.2.2 40 (by decide) (by decide) (by decide), v2 40 (by decide)]; exact u1 q hq
  · rw [P.2.2.2.2 c z1 z2 z4, v2 c z4, u2 c z3]; exact w2 c z2
  · rw [mw_ne _ _ _ (by decide), mw_ne _ _ _ (by decide), v2 39 (by decide), u2 39 (by decide)]; exact w1 m hm
  · rw [mw_ne _ _ _ (by decide), mw_ne _ _ _ (by decide), v1 _ (by omega)]; rfl
  · rw [mw_same]; unfold upd; rw [if_neg (by decide), mw_same]; unfold upd; rw [if_pos rfl]; rfl
  · rw [mw_same]; unfold upd; rw [if_pos rfl]; rfl
  · rw [mw_ne _ _ _ z1, mw_ne _ _ _ z1]

