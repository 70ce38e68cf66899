/-! ===== the model: may ===== -/
theorem rchM_lt {s : Nat → Int32} {p : Int32} {d : Nat} {X : Int32} : ∀ m c q, RCH (auM s p d X) m c q → c < (mlF (rxM s X) 12)
  | 0, c, q, ⟨_, e⟩ => by rw [← e]; exact nxM_lt (c0_lt s X)
  | m + 1, c, q, ⟨c1, r, hr, a, _, e⟩ => by rw [← e]; exact nxM_lt (rchM_lt m c1 r a)
set_option maxRecDepth 100000 in
set_option maxHeartbeats 800000 in
theorem lp_my1 {Γ : Fr} (o : ca_O Γ cX10_may 9 RX10 4 103) {h0 : Mem} (E : Nat) (hE : E ≤ 1024) (e10 : h0.1 51 10 = nI E) (H : Nat) (hH : H < 24) (p x2 x3 x5 : Int32) (v7 v8 : Option Value) (kk : ∀ (h : Mem) (v6 : Option Value), (∀ i, i < 8 * E → (¬ h.1 64 i = 0 ↔ 0 < H ∧ ¬ h0.1 63 i = 0)) → (∀ i, i < 8 * E → h.1 63 i = 0) → (∀ c, c ≠ 63 → c ≠ 64 → h.1 c = h0.1 c) → ca_G Γ 9 h 109 [some (.ref 51), some (.int p), some (.int x2), some (.int x3), some (.int (nI H)), some (.int x5), v6, v7, v8] []) : ∀ k, k ≤ 8 * E → ∀ (xk : Int32) (h : Mem), xk = nI k → (∀ i, i < k → (¬ h.1 64 i = 0 ↔ 0 < H ∧ ¬ h0.1 63 i = 0)) → (∀ i, i < k → h.1 63 i = 0) → (∀ i, k ≤ i → h.1 63 i = h0.1 63 i) → (∀ c, c ≠ 63 → c ≠ 64 → h.1 c = h0.1 c) → ca_G Γ 9 h 56 [some (.ref 51), some (.int p), some (.int x2), some (.int x3), some (.int (nI H)), some (.int x5), some (.int xk), v7, v8] [] := by
  refine downI (8 * E) (fun k hk ih => ?_)
  rintro xk h rfl e1 e2 e3 e4
  have e10b : h.1 51 10 = nI E := by rw [e4 51 (by decide) (by decide)]; exact e10
  refine g_iload (pc := 56) o dX10_may_56 rfl ?_
  refine g_bipush (pc := 58) o dX10_may_58 8 rfl ?_
  refine g_aload_n (pc := 60) o dX10_may_60 rfl ?_
  refine g_getIE (pc := 61) o 10 rfl rfl rfl inX10 (by decide) lf_X10_179 (e10b) dX10_may_61 ?_
  refine g_imul (pc := 64) o dX10_may_64 ?_
  rw [show (8 : Int32) * nI E = nI (8 * E) from pk_mul 8 _]
  refine g_ic_ge (pc := 65) o 109 dX10_may_65 (by decide) (fun c65 => ?_) (fun c65 => ?_)
  · skip
    have z : k = 8 * E := ge8 (n := 8 * E) (by omega) (by omega) c65
    subst z
    exact kk h _ e1 e2 e4
  · skip
    have z : k < 8 * E := lt8 (n := 8 * E) (by omega) (by omega) c65
    have fin : ∀ (y : Int32), (¬ y = 0 ↔ 0 < H ∧ ¬ h0.1 63 k = 0) → ca_G Γ 9 (mw (mw h 64 k y) 63 k 0) 56 [some (.ref 51), some (.int p), some (.int x2), some (.int x3), some (.int (nI H)), some (.int x5), some (.int (nI k + 1)), v7, v8] [] := by
      intro y ey
      refine ih z _ _ (nI_1 k) (fun i hi => ?_) (fun i hi => ?_) (fun i hi => ?_) (fun c c1 c2 => by rw [mw_ne _ _ _ c1, mw_ne _ _ _ c2]; exact e4 c c1 c2)
      · rw [mw_ne _ _ _ (by decide), mw_same]
        unfold upd
        by_cases w : i = k
        · rw [if_pos w, w]; exact ey
        · rw [if_neg w]; exact e1 i (by omega)
      · rw [mw_same]
        unfold upd
        by_cases w : i = k
        · rw [if_pos w]
        · rw [if_neg w, mw_ne _ _ _ (by decide)]; exact e2 i (by omega)
      · rw [mw_same]
        unfold upd
        rw [if_neg (by omega), mw_ne _ _ _ (by decide)]; exact e3 i (by omega)
    refine g_aload_n (pc := 68) o dX10_may_68 rfl ?_
    refine g_getR (pc := 69) o 17 rfl rfl rfl inX10 (by decide) lf_X10_47 dX10_may_69 ?_
    refine g_iload (pc := 72) o dX10_may_72 rfl ?_
    refine g_iload (pc := 74) o dX10_may_74 rfl ?_
    refine g_if_le (pc := 76) o 93 dX10_may_76 (by decide) (fun c76 => ?_) (fun c76 => ?_)
    · skip
      have H0 : ¬ 0 < H := fun y => nI_nle y (by omega) c76
      refine g_iconst (pc := 93) o dX10_may_93 0 rfl ?_
      refine n_zast (pc := 94) o k (rfl) rfl ((by omega)) (by decide) rfl dX10_may_94 ?_
      refine g_aload_n (pc := 95) o dX10_may_95 rfl ?_
      refine g_getR (pc := 96) o 16 rfl rfl rfl inX10 (by decide) lf_X10_43 dX10_may_96 ?_
      refine g_iload (pc := 99) o dX10_may_99 rfl ?_
      refine g_iconst (pc := 101) o dX10_may_101 0 rfl ?_
      refine n_zast (pc := 102) o k (rfl) rfl ((by omega)) (by decide) rfl dX10_may_102 ?_
      refine g_iinc (pc := 103) o dX10_may_103 rfl 1 rfl (by decide) ?_
      show ca_G Γ 9 _ _ [_, _, _, _, _, _, _, _, _] _
      refine g_goto (pc := 106) o 56 dX10_may_106 (by decide) ?_
      exact fin 0 ⟨fun y => absurd rfl y, fun y => absurd y.1 H0⟩
    · skip
      have H0 : 0 < H := by
        rcases Nat.eq_zero_or_pos H with y | y
        · rw [y] at c76; exact absurd (by decide) c76
        · exact y
      refine g_aload_n (pc := 79) o dX10_may_79 rfl ?_
      refine g_getR (pc := 80) o 16 rfl rfl rfl inX10 (by decide) lf_X10_43 dX10_may_80 ?_
      refine g_iload (pc := 83) o dX10_may_83 rfl ?_
      refine n_zaldE (pc := 85) o k (rfl) rfl ((by omega)) (by decide) (e3 k (Nat.le_refl k)) dX10_may_85 ?_
      refine g_if_eq (pc := 86) o 93 dX10_may_86 (by decide) (fun c86 => ?_) (fun c86 => ?_)
      · skip
        refine g_iconst (pc := 93) o dX10_may_93 0 rfl ?_
        refine n_zast (pc := 94) o k (rfl) rfl ((by omega)) (by decide) rfl dX10_may_94 ?_
        refine g_aload_n (pc := 95) o dX10_may_95 rfl ?_
        refine g_getR (pc := 96) o 16 rfl rfl rfl inX10 (by decide) lf_X10_43 dX10_may_96 ?_
        refine g_iload (pc := 99) o dX10_may_99 rfl ?_
        refine g_iconst (pc := 101) o dX10_may_101 0 rfl ?_
        refine n_zast (pc := 102) o k (rfl) rfl ((by omega)) (by decide) rfl dX10_may_102 ?_
        refine g_iinc (pc := 103) o dX10_may_103 rfl 1 rfl (by decide) ?_
        show ca_G Γ 9 _ _ [_, _, _, _, _, _, _, _, _] _
        refine g_goto (pc := 106) o 56 dX10_may_106 (by decide) ?_
        exact fin 0 ⟨fun y => absurd rfl y, fun y => absurd c86 y.2⟩
      · skip
        refine g_iconst (pc := 89) o dX10_may_89 1 rfl ?_
        refine g_goto (pc := 90) o 94 dX10_may_90 (by decide) ?_
        refine n_zast (pc := 94) o k (rfl) rfl ((by omega)) (by decide) rfl dX10_may_94 ?_
        refine g_aload_n (pc := 95) o dX10_may_95 rfl ?_
        refine g_getR (pc := 96) o 16 rfl rfl rfl inX10 (by decide) lf_X10_43 dX10_may_96 ?_
        refine g_iload (pc := 99) o dX10_may_99 rfl ?_
        refine g_iconst (pc := 101) o dX10_may_101 0 rfl ?_
        refine n_zast (pc := 102) o k (rfl) rfl ((by omega)) (by decide) rfl dX10_may_102 ?_
        refine g_iinc (pc := 103) o dX10_may_103 rfl 1 rfl (by decide) ?_
        show ca_G Γ 9 _ _ [_, _, _, _, _, _, _, _, _] _
        refine g_goto (pc := 106) o 56 dX10_may_106 (by decide) ?_
        exact fin 1 ⟨fun _ => ⟨H0, c86⟩, fun _ => by decide⟩
set_option maxRecDepth 100000 in
set_option maxHeartbeats 800000 in
theorem lp_my2 {Γ : Fr} (o : ca_O Γ cX10_may 9 RX10 4 103) {h0 : Mem} {s : Nat → Int32} (I : SI s) (p : Int32) (d : Nat) (X : Int32) (k5 : kbF X 12 ≤ 5) (x2 x3 : Int32) (es : h0.1 52 = s) (M : MB h0 s p d X 12) (H : Nat) (hH : H < 24) (v7 v8 : Option Value) (kk : ∀ (h : Mem) (v6 : Option Value), (∀ k, k < 8 * (mlF (rxM s X) 12) → (¬ h.1 63 k = 0 ↔ H = 0 ∧ k % 8 < 8 ∧ bt (lwF s p d X 0 12) (k % 8) = true ∧ (auM s p d X).nx (auM s p d X).c0 0 (k % 8) = k / 8)) → (∀ c, c ≠ 63 → h.1 c = h0.1 c) → ca_G Γ 9 h 163 [some (.ref 51), some (.int p), some (.int x2), some (.int x3), some (.int (nI H)), some (.int (lwF s p d X H 12)), v6, v7, v8] []) : ∀ i, i ≤ 8 → ∀ (xi : Int32) (h : Mem), xi = nI i → (∀ k, k < 8 * (mlF (rxM s X) 12) → (¬ h.1 63 k = 0 ↔ H = 0 ∧ k % 8 < i ∧ bt (lwF s p d X 0 12) (k % 8) = true ∧ (auM s p d X).nx (auM s p d X).c0 0 (k % 8) = k / 8)) → (∀ c, c ≠ 63 → h.1 c = h0.1 c) → ca_G Γ 9 h 112 [some (.ref 51), some (.int p), some (.int x2), some (.int x3), some (.int (nI H)), some (.int (lwF s p d X H 12)), some (.int xi), v7, v8] [] := by
  have ha : ∀ t, t < 12 → askT s t < 4 := fun t ht => ask_lt I.tm ht
  have l1024 := ml_M5 (X := X) ha k5 (Nat.le_refl 12)
  refine downI 8 (fun i hi ih => ?_)
  rintro xi h rfl e1 e2
  have es2 : h.1 52 = s := (e2 52 (by decide)).trans es
  have M2 : MB h s p d X 12 := M.of (fun c hc => e2 c (by omega))
  refine g_iload (pc := 112) o dX10_may_112 rfl ?_
  refine g_bipush (pc := 114) o dX10_may_114 8 rfl ?_
  refine g_ic_ge (pc := 116) o 163 dX10_may_116 (by decide) (fun c116 => ?_) (fun c116 => ?_)
  · skip
    have z : i = 8 := ge8 (n := 8) (by decide) (by omega) c116
    subst z
    exact kk h _ e1 e2
  · skip
    have iq : i < 8 := lt8 (n := 8) (by decide) (by omega) c116
    have skip : ¬ (H = 0 ∧ bt (lwF s p d X 0 12) i = true) → (∀ k, k < 8 * (mlF (rxM s X) 12) → (¬ h.1 63 k = 0 ↔ H = 0 ∧ k % 8 < i + 1 ∧ bt (lwF s p d X 0 12) (k % 8) = true ∧ (auM s p d X).nx (auM s p d X).c0 0 (k % 8) = k / 8)) := fun y k hk => by
      rw [e1 k hk]
      constructor
      · rintro ⟨a, b, c⟩; exact ⟨a, by omega, c⟩
      · rintro ⟨a, b, c, e⟩
        refine ⟨a, ?_, c, e⟩
        by_cases w : k % 8 = i
        · rw [w] at c; exact absurd ⟨a, c⟩ y
        · omega
    refine g_iload (pc := 119) o dX10_may_119 rfl ?_
    refine g_if_ne (pc := 121) o 157 dX10_may_121 (by decide) (fun c121 => ?_) (fun c121 => ?_)
    · skip
      have H0 : ¬ H = 0 := fun y => c121 (by rw [y]; rfl)
      refine g_iinc (pc := 157) o dX10_may_157 rfl 1 rfl (by decide) ?_
      show ca_G Γ 9 _ _ [_, _, _, _, _, _, _, _, _] _
      refine g_goto (pc := 160) o 112 dX10_may_160 (by decide) ?_
      exact ih iq _ h (nI_1 i) (skip (fun y => H0 y.1)) e2
    · skip
      have H0 : H = 0 := (nI_eq (a := H) (b := 0) (by omega) (by decide)).mp c121
      subst H0
      refine g_iload (pc := 124) o dX10_may_124 rfl ?_
      refine g_iload (pc := 126) o dX10_may_126 rfl ?_
      refine g_callSi (pc := 128) o (m_has (lwF s p d X 0 12) i (by omega) h) mt_X10_has ms_X10_has lk_X10_90 rfl (by decide) rfl (Nat.le_of_ble_eq_true rfl) dX10_may_128 ?_
      refine g_if_eq (pc := 131) o 157 dX10_may_131 (by decide) (fun c131 => ?_) (fun c131 => ?_)
      · skip
        have z := bI_0.mp c131
        refine g_iinc (pc := 157) o dX10_may_157 rfl 1 rfl (by decide) ?_
        show ca_G Γ 9 _ _ [_, _, _, _, _, _, _, _, _] _
        refine g_goto (pc := 160) o 112 dX10_may_160 (by decide) ?_
        exact ih iq _ h (nI_1 i) (skip (fun y => z y.2)) e2
      · skip
        have z := bI_n0.mp c131
        have nl := nxM_lt (p := p) (d := d) (m := 0) (q := i) (c0_lt s X)
        refine g_aload_n (pc := 134) o dX10_may_134 rfl ?_
        refine g_getR (pc := 135) o 16 rfl rfl rfl inX10 (by decide) lf_X10_43 dX10_may_135 ?_
        refine g_bipush (pc := 138) o dX10_may_138 8 rfl ?_
        refine g_aload_n (pc := 140) o dX10_may_140 rfl ?_
        refine g_aload_n (pc := 141) o dX10_may_141 rfl ?_
        refine g_getIE (pc := 142) o 11 rfl rfl rfl inX10 (by decide) lf_X10_182 (M2.2.2.1) dX10_may_142 ?_
        refine g_iconst (pc := 145) o dX10_may_145 0 rfl ?_
        refine g_iload (pc := 146) o dX10_may_146 rfl ?_
        refine g_callVi (pc := 148) o (m_after es2 I p d X k5 M2 (vlF (rxM s X) (akF s X) 12) 0 i (by omega) iq (c0_lt s X)) mt_X10_after mv_X10_after lk_X10_188 rfl rfl rfl (by decide) rfl (Nat.le_of_ble_eq_true rfl) dX10_may_148 ?_
        refine g_imul (pc := 151) o dX10_may_151 ?_
        refine g_iload (pc := 152) o dX10_may_152 rfl ?_
        refine g_iadd (pc := 154) o dX10_may_154 ?_
        rw [show (8 : Int32) * nI ((auM s p d X).nx (vlF (rxM s X) (akF s X) 12) 0 i) + nI i = nI (8 * (auM s p d X).nx (vlF (rxM s X) (akF s X) 12) 0 i + i) from ix2 _ 8 i]
        refine g_iconst (pc := 155) o dX10_may_155 1 rfl ?_
        refine n_zast (pc := 156) o (8 * (auM s p d X).nx (vlF (rxM s X) (akF s X) 12) 0 i + i) (rfl) rfl ((by omega)) (by decide) rfl dX10_may_156 ?_
        refine g_iinc (pc := 157) o dX10_may_157 rfl 1 rfl (by decide) ?_
        show ca_G Γ 9 _ _ [_, _, _, _, _, _, _, _, _] _
        refine g_goto (pc := 160) o 112 dX10_may_160 (by decide) ?_
        refine ih iq _ _ (nI_1 i) (fun k hk => ?_) (fun c hc => (mw_ne _ _ _ hc).trans (e2 c hc))
        have c0e : (auM s p d X).c0 = vlF (rxM s X) (akF s X) 12 := rfl
        rw [mw_same]
        unfold upd
        by_cases w : k = 8 * (auM s p d X).nx (vlF (rxM s X) (akF s X) 12) 0 i + i
        · rw [if_pos w]
          have w2 : k % 8 = i := by omega
          refine ⟨fun _ => ⟨rfl, by omega, by rw [w2]; exact z, by rw [w2, c0e]; omega⟩, fun _ => by decide⟩
        · rw [if_neg w, e1 k hk]
          constructor
          · rintro ⟨a, b, c⟩; exact ⟨a, by omega, c⟩
          · rintro ⟨a, b, c, e⟩
            refine ⟨a, ?_, c, e⟩
            by_cases w2 : k % 8 = i
            · rw [w2, c0e] at e
              exact absurd (by omega) w
            · omega
set_option maxRecDepth 100000 in
set_option maxHeartbeats 800000 in
theorem lp_my4 {Γ : Fr} (o : ca_O Γ cX10_may 9 RX10 4 103) {h0 : Mem} {s : Nat → Int32} (I : SI s) (p : Int32) (d : Nat) (X : Int32) (k5 : kbF X 12 ≤ 5) (x2 x3 : Int32) (es : h0.1 52 = s) (M : MB h0 s p d X 12) (H : Nat) (hH : H < 24) (c1 r1 : Nat) (hc : c1 < (mlF (rxM s X) 12)) (hr1 : r1 < 8) (to : Int32) (Z : Nat → Prop) (kk : ∀ (h : Mem) (v8 : Option Value), (∀ k, k < 8 * (mlF (rxM s X) 12) → (¬ h.1 63 k = 0 ↔ Z k ∨ (bt to (k % 8) = true ∧ (auM s p d X).nx c1 H (k % 8) = k / 8))) → (∀ c, c ≠ 63 → h.1 c = h0.1 c) → ca_G Γ 9 h 269 [some (.ref 51), some (.int p), some (.int x2), some (.int x3), some (.int (nI H)), some (.int (lwF s p d X H 12)), some (.int (nI (8 * c1 + r1))), some (.int to), v8] []) : ∀ i, i ≤ 8 → ∀ (xi : Int32) (h : Mem), xi = nI i → (∀ k, k < 8 * (mlF (rxM s X) 12) → (¬ h.1 63 k = 0 ↔ Z k ∨ (k % 8 < i ∧ bt to (k % 8) = true ∧ (auM s p d X).nx c1 H (k % 8) = k / 8))) → (∀ c, c ≠ 63 → h.1 c = h0.1 c) → ca_G Γ 9 h 221 [some (.ref 51), some (.int p), some (.int x2), some (.int x3), some (.int (nI H)), some (.int (lwF s p d X H 12)), some (.int (nI (8 * c1 + r1))), some (.int to), some (.int xi)] [] := by
  have ha : ∀ t, t < 12 → askT s t < 4 := fun t ht => ask_lt I.tm ht
  have l1024 := ml_M5 (X := X) ha k5 (Nat.le_refl 12)
  refine downI 8 (fun i hi ih => ?_)
  rintro xi h rfl e1 e2
  have es2 : h.1 52 = s := (e2 52 (by decide)).trans es
  have M2 : MB h s p d X 12 := M.of (fun c hc => e2 c (by omega))
  refine g_iload (pc := 221) o dX10_may_221 rfl ?_
  refine g_bipush (pc := 223) o dX10_may_223 8 rfl ?_
  refine g_ic_ge (pc := 225) o 269 dX10_may_225 (by decide) (fun c225 => ?_) (fun c225 => ?_)
  · skip
    have z : i = 8 := ge8 (n := 8) (by decide) (by omega) c225
    subst z
    exact kk h _ (fun k hk => by rw [e1 k hk]; exact ⟨fun y => y.imp id (fun u => u.2), fun y => y.imp id (fun u => ⟨Nat.mod_lt _ (by decide), u⟩)⟩) e2
  · skip
    have iq : i < 8 := lt8 (n := 8) (by decide) (by omega) c225
    refine g_iload (pc := 228) o dX10_may_228 rfl ?_
    refine g_iload (pc := 230) o dX10_may_230 rfl ?_
    refine g_callSi (pc := 232) o (m_has to i (by omega) h) mt_X10_has ms_X10_has lk_X10_90 rfl (by decide) rfl (Nat.le_of_ble_eq_true rfl) dX10_may_232 ?_
    refine g_if_eq (pc := 235) o 263 dX10_may_235 (by decide) (fun c235 => ?_) (fun c235 => ?_)
    · skip
      have z := bI_0.mp c235
      refine g_iinc (pc := 263) o dX10_may_263 rfl 1 rfl (by decide) ?_
      show ca_G Γ 9 _ _ [_, _, _, _, _, _, _, _, _] _
      refine g_goto (pc := 266) o 221 dX10_may_266 (by decide) ?_
      refine ih iq _ h (nI_1 i) (fun k hk => ?_) e2
      rw [e1 k hk]
      refine ⟨fun y => y.imp id (fun u => ⟨by omega, u.2⟩), fun y => y.imp id (fun u => ⟨?_, u.2⟩)⟩
      by_cases w : k % 8 = i
      · have := u.2.1; rw [w] at this; exact absurd this z
      · omega
    · skip
      have z := bI_n0.mp c235
      have nl := nxM_lt (p := p) (d := d) (m := H) (q := i) hc
      refine g_aload_n (pc := 238) o dX10_may_238 rfl ?_
      refine g_getR (pc := 239) o 16 rfl rfl rfl inX10 (by decide) lf_X10_43 dX10_may_239 ?_
      refine g_bipush (pc := 242) o dX10_may_242 8 rfl ?_
      refine g_aload_n (pc := 244) o dX10_may_244 rfl ?_
      refine g_iload (pc := 245) o dX10_may_245 rfl ?_
      refine g_bipush (pc := 247) o dX10_may_247 8 rfl ?_
      refine g_idiv (pc := 249) o dX10_may_249 (by decide) ?_
      rw [show nI (8 * c1 + r1) / 8 = nI c1 from (dv_nI (d := 8) (by omega) (by decide) (by decide)).trans (by rw [(d8 c1 r1 hr1).1])]
      refine g_iload (pc := 250) o dX10_may_250 rfl ?_
      refine g_iload (pc := 252) o dX10_may_252 rfl ?_
      refine g_callVi (pc := 254) o (m_after es2 I p d X k5 M2 c1 H i hH iq hc) mt_X10_after mv_X10_after lk_X10_188 rfl rfl rfl (by decide) rfl (Nat.le_of_ble_eq_true rfl) dX10_may_254 ?_
      refine g_imul (pc := 257) o dX10_may_257 ?_
      refine g_iload (pc := 258) o dX10_may_258 rfl ?_
      refine g_iadd (pc := 260) o dX10_may_260 ?_
      rw [show (8 : Int32) * nI ((auM s p d X).nx c1 H i) + nI i = nI (8 * (auM s p d X).nx c1 H i + i) from ix2 _ 8 i]
      refine g_iconst (pc := 261) o dX10_may_261 1 rfl ?_
      refine n_zast (pc := 262) o (8 * (auM s p d X).nx c1 H i + i) (rfl) rfl ((by omega)) (by decide) rfl dX10_may_262 ?_
      refine g_iinc (pc := 263) o dX10_may_263 rfl 1 rfl (by decide) ?_
      show ca_G Γ 9 _ _ [_, _, _, _, _, _, _, _, _] _
      refine g_goto (pc := 266) o 221 dX10_may_266 (by decide) ?_
      refine ih iq _ _ (nI_1 i) (fun k hk => ?_) (fun c hc => (mw_ne _ _ _ hc).trans (e2 c hc))
      rw [mw_same]
      unfold upd
      by_cases w : k = 8 * (auM s p d X).nx c1 H i + i
      · rw [if_pos w]
        have w2 : k % 8 = i := by omega
        refine ⟨fun _ => Or.inr ⟨by omega, by rw [w2]; exact z, by rw [w2]; omega⟩, fun _ => by decide⟩
      · rw [if_neg w, e1 k hk]
        refine ⟨fun y => y.imp id (fun u => ⟨by omega, u.2⟩), fun y => y.imp id (fun u => ⟨?_, u.2⟩)⟩
        by_cases w2 : k % 8 = i
        · have := u.2.2
          rw [w2] at this
          exact absurd (by omega) w
        · omega
set_option maxRecDepth 100000 in
set_option maxHeartbeats 800000 in
theorem lp_my3 {Γ : Fr} (o : ca_O Γ cX10_may 9 RX10 4 103) {h0 : Mem} {s : Nat → Int32} (I : SI s) (p : Int32) (d : Nat) (X : Int32) (k5 : kbF X 12 ≤ 5) (x2 x3 : Int32) (es : h0.1 52 = s) (M : MB h0 s p d X 12) (H : Nat) (hH : H < 24) (Z : Nat → Prop) (kk : ∀ (h : Mem) (v6 v7 v8 : Option Value), (∀ k, k < 8 * (mlF (rxM s X) 12) → (¬ h.1 63 k = 0 ↔ Z k ∨ (0 < H ∧ ∃ k1, k1 < 8 * (mlF (rxM s X) 12) ∧ ¬ h0.1 64 k1 = 0 ∧ okA (auM s p d X) H (k1 % 8) (k % 8) ∧ (auM s p d X).nx (k1 / 8) H (k % 8) = k / 8))) → (∀ c, c ≠ 63 → h.1 c = h0.1 c) → ca_G Γ 9 h 275 [some (.ref 51), some (.int p), some (.int x2), some (.int x3), some (.int (nI H)), some (.int (lwF s p d X H 12)), v6, v7, v8] []) : ∀ K, K ≤ 8 * (mlF (rxM s X) 12) → ∀ (xK : Int32) (h : Mem) (v7 v8 : Option Value), xK = nI K → (∀ k, k < 8 * (mlF (rxM s X) 12) → (¬ h.1 63 k = 0 ↔ Z k ∨ (0 < H ∧ ∃ k1, k1 < K ∧ ¬ h0.1 64 k1 = 0 ∧ okA (auM s p d X) H (k1 % 8) (k % 8) ∧ (auM s p d X).nx (k1 / 8) H (k % 8) = k / 8))) → (∀ c, c ≠ 63 → h.1 c = h0.1 c) → ca_G Γ 9 h 166 [some (.ref 51), some (.int p), some (.int x2), some (.int x3), some (.int (nI H)), some (.int (lwF s p d X H 12)), some (.int xK), v7, v8] [] := by
  have ha : ∀ t, t < 12 → askT s t < 4 := fun t ht => ask_lt I.tm ht
  have l1024 := ml_M5 (X := X) ha k5 (Nat.le_refl 12)
  refine downI (8 * (mlF (rxM s X) 12)) (fun K hK ih => ?_)
  rintro xK h v7 v8 rfl e1 e2
  have es2 : h.1 52 = s := (e2 52 (by decide)).trans es
  have M2 : MB h s p d X 12 := M.of (fun c hc => e2 c (by omega))
  have e64 : h.1 64 K = h0.1 64 K := by rw [e2 64 (by decide)]
  refine g_iload (pc := 166) o dX10_may_166 rfl ?_
  refine g_bipush (pc := 168) o dX10_may_168 8 rfl ?_
  refine g_aload_n (pc := 170) o dX10_may_170 rfl ?_
  refine g_getIE (pc := 171) o 10 rfl rfl rfl inX10 (by decide) lf_X10_179 (M2.2.1) dX10_may_171 ?_
  refine g_imul (pc := 174) o dX10_may_174 ?_
  rw [show (8 : Int32) * nI (mlF (rxM s X) 12) = nI (8 * (mlF (rxM s X) 12)) from pk_mul 8 _]
  refine g_ic_ge (pc := 175) o 275 dX10_may_175 (by decide) (fun c175 => ?_) (fun c175 => ?_)
  · skip
    have z : K = 8 * (mlF (rxM s X) 12) := ge8 (n := 8 * (mlF (rxM s X) 12)) (by omega) (by omega) c175
    subst z
    exact kk h _ _ _ e1 e2
  · skip
    have z : K < 8 * (mlF (rxM s X) 12) := lt8 (n := 8 * (mlF (rxM s X) 12)) (by omega) (by omega) c175
    obtain ⟨c1, r1, hr1, rfl⟩ : ∃ c q, q < 8 ∧ K = 8 * c + q := ⟨K / 8, K % 8, by omega, by omega⟩
    have hc : c1 < (mlF (rxM s X) 12) := by omega
    have rm8 : jrem (nI (8 * c1 + r1)) 8 = nI r1 := (rm_nI (d := 8) (by omega) (by decide) (by decide)).trans (by rw [(d8 c1 r1 hr1).2])
    refine g_iload (pc := 178) o dX10_may_178 rfl ?_
    refine g_if_le (pc := 180) o 275 dX10_may_180 (by decide) (fun c180 => ?_) (fun c180 => ?_)
    · skip
      have H0 : ¬ 0 < H := fun y => nI_nle y (by omega) c180
      exact kk h _ _ _ (fun k hk => by rw [e1 k hk]; exact ⟨fun y => y.imp id (fun u => absurd u.1 H0), fun y => y.imp id (fun u => absurd u.1 H0)⟩) e2
    · skip
      have H0 : 0 < H := by
        rcases Nat.eq_zero_or_pos H with y | y
        · rw [y] at c180; exact absurd (by decide) c180
        · exact y
      refine g_aload_n (pc := 183) o dX10_may_183 rfl ?_
      refine g_getR (pc := 184) o 17 rfl rfl rfl inX10 (by decide) lf_X10_47 dX10_may_184 ?_
      refine g_iload (pc := 187) o dX10_may_187 rfl ?_
      refine n_zaldE (pc := 189) o (8 * c1 + r1) (rfl) rfl ((by omega)) (by decide) (e64) dX10_may_189 ?_
      refine g_if_eq (pc := 190) o 269 dX10_may_190 (by decide) (fun c190 => ?_) (fun c190 => ?_)
      · skip
        refine g_iinc (pc := 269) o dX10_may_269 rfl 1 rfl (by decide) ?_
        show ca_G Γ 9 _ _ [_, _, _, _, _, _, _, _, _] _
        refine g_goto (pc := 272) o 166 dX10_may_272 (by decide) ?_
        refine ih z _ h _ _ (nI_1 _) (fun k hk => ?_) e2
        rw [e1 k hk]
        refine ⟨fun y => y.imp id (fun ⟨u, k1, a, b⟩ => ⟨u, k1, by omega, b⟩), fun y => y.imp id (fun ⟨u, k1, a, b⟩ => ⟨u, k1, ?_, b⟩)⟩
        by_cases w : k1 = 8 * c1 + r1
        · subst w; exact absurd c190 b.1
        · omega
      · skip
        have sq : h.1 52 r1 = s r1 := by rw [es2]
        refine g_iconst (pc := 193) o dX10_may_193 1 rfl ?_
        refine g_iload (pc := 194) o dX10_may_194 rfl ?_
        refine g_bipush (pc := 196) o dX10_may_196 8 rfl ?_
        refine g_irem (pc := 198) o dX10_may_198 (by decide) ?_
        rw [rm8]
        refine g_ishl (pc := 199) o dX10_may_199 ?_
        refine g_aload_n (pc := 200) o dX10_may_200 rfl ?_
        refine g_getR (pc := 201) o 0 rfl rfl rfl inX10 (by decide) lf_X10_7 dX10_may_201 ?_
        refine g_iconst (pc := 204) o dX10_may_204 0 rfl ?_
        refine g_iload (pc := 205) o dX10_may_205 rfl ?_
        refine g_bipush (pc := 207) o dX10_may_207 8 rfl ?_
        refine g_irem (pc := 209) o dX10_may_209 (by decide) ?_
        rw [rm8]
        refine g_iadd (pc := 210) o dX10_may_210 ?_
        refine n_ialdE (pc := 211) o r1 (z0 r1) rfl ((by omega)) (by decide) (sq) dX10_may_211 ?_
        refine g_ior (pc := 212) o dX10_may_212 ?_
        refine g_iload (pc := 213) o dX10_may_213 rfl ?_
        refine g_iand (pc := 215) o dX10_may_215 ?_
        refine g_istore (pc := 216) o dX10_may_216 (by decide) ?_
        show ca_G Γ 9 _ _ [_, _, _, _, _, _, _, _, _] _
        refine g_iconst (pc := 218) o dX10_may_218 0 rfl ?_
        refine g_istore (pc := 219) o dX10_may_219 (by decide) ?_
        show ca_G Γ 9 _ _ [_, _, _, _, _, _, _, _, _] _
        refine lp_my4 o (h0 := h) I p d X k5 x2 x3 es2 M2 H hH c1 r1 hc hr1 _ (fun k => Z k ∨ (0 < H ∧ ∃ k1, k1 < 8 * c1 + r1 ∧ ¬ h0.1 64 k1 = 0 ∧ okA (auM s p d X) H (k1 % 8) (k % 8) ∧ (auM s p d X).nx (k1 / 8) H (k % 8) = k / 8)) (fun h2 v8 a b => ?_) 0 (by omega) _ h rfl (fun k hk => by rw [e1 k hk]; exact ⟨Or.inl, fun y => y.elim id (fun u => absurd u.1 (Nat.not_lt_zero _))⟩) (fun c _ => rfl)
        refine g_iinc (pc := 269) o dX10_may_269 rfl 1 rfl (by decide) ?_
        show ca_G Γ 9 _ _ [_, _, _, _, _, _, _, _, _] _
        refine g_goto (pc := 272) o 166 dX10_may_272 (by decide) ?_
        refine ih z _ h2 _ _ (nI_1 _) (fun k hk => ?_) (fun c hc => (b c hc).trans (e2 c hc))
        have l8 : k % 8 < 8 := Nat.mod_lt _ (by decide)
        have tob : bt ((jshl 1 (nI r1) ||| s r1) &&& lwF s p d X H 12) (k % 8) = true ↔ okA (auM s p d X) H r1 (k % 8) := by
          rw [b_and, b_or, bt_sh (by omega) (by omega), Bool.and_eq_true, Bool.or_eq_true, decide_eq_true_eq]
          exact ⟨fun y => ⟨y.2, y.1⟩, fun y => ⟨y.2, y.1⟩⟩
        rw [a k hk, tob]
        constructor
        · rintro ((y | ⟨u, k1, a1, b1⟩) | ⟨y1, y2⟩)
          · exact Or.inl y
          · exact Or.inr ⟨u, k1, by omega, b1⟩
          · exact Or.inr ⟨H0, 8 * c1 + r1, by omega, c190, by rw [(d8 c1 r1 hr1).2]; exact y1, by rw [(d8 c1 r1 hr1).1]; exact y2⟩
        · rintro (y | ⟨u, k1, a1, b1, b2, b3⟩)
          · exact Or.inl (Or.inl y)
          · by_cases w : k1 = 8 * c1 + r1
            · subst w
              rw [(d8 c1 r1 hr1).2] at b2
              rw [(d8 c1 r1 hr1).1] at b3
              exact Or.inr ⟨b2, b3⟩
            · exact Or.inl (Or.inr ⟨u, k1, by omega, b1, b2, b3⟩)
set_option maxRecDepth 100000 in
set_option maxHeartbeats 800000 in
theorem lp_my5 {Γ : Fr} (o : ca_O Γ cX10_may 9 RX10 4 103) {h0 : Mem} {s : Nat → Int32} (I : SI s) (p : Int32) (d : Nat) (X : Int32) (k5 : kbF X 12 ≤ 5) (x2 : Int32) (m : Nat) (hm : m < 24) (es : h0.1 52 = s) (M : MB h0 s p d X 12) (kk : ∀ (h : Mem) (v4 v5 v6 v7 v8 : Option Value), (∀ k, k < 8 * (mlF (rxM s X) 12) → (¬ h.1 63 k = 0 ↔ RCH (auM s p d X) m (k / 8) (k % 8))) → (∀ c, c ≠ 63 → c ≠ 64 → h.1 c = h0.1 c) → ca_G Γ 9 h 281 [some (.ref 51), some (.int p), some (.int x2), some (.int (nI m)), v4, v5, v6, v7, v8] []) : ∀ H, H ≤ m + 1 → ∀ (xH : Int32) (h : Mem) (v5 v6 v7 v8 : Option Value), xH = nI H → (0 < H → ∀ k, k < 8 * (mlF (rxM s X) 12) → (¬ h.1 63 k = 0 ↔ RCH (auM s p d X) (H - 1) (k / 8) (k % 8))) → (∀ c, c ≠ 63 → c ≠ 64 → h.1 c = h0.1 c) → ca_G Γ 9 h 39 [some (.ref 51), some (.int p), some (.int x2), some (.int (nI m)), some (.int xH), v5, v6, v7, v8] [] := by
  have ha : ∀ t, t < 12 → askT s t < 4 := fun t ht => ask_lt I.tm ht
  have l1024 := ml_M5 (X := X) ha k5 (Nat.le_refl 12)
  refine downI (m + 1) (fun H hH ih => ?_)
  rintro xH h v5 v6 v7 v8 rfl e1 e2
  have es2 : h.1 52 = s := (e2 52 (by decide) (by decide)).trans es
  have M2 : MB h s p d X 12 := M.of (fun c hc => e2 c (by omega) (by omega))
  refine g_iload (pc := 39) o dX10_may_39 rfl ?_
  refine g_iload_n (pc := 41) o dX10_may_41 rfl ?_
  refine g_ic_gt (pc := 42) o 281 dX10_may_42 (by decide) (fun c42 => ?_) (fun c42 => ?_)
  · skip
    have q := (nI_ltI (by omega) (by omega)).mp c42
    obtain rfl : H = m + 1 := by omega
    exact kk h _ _ _ _ _ (e1 (by omega)) e2
  · skip
    have q := mt (nI_ltI (a := m) (b := H) (by omega) (by omega)).mpr c42
    refine g_aload_n (pc := 45) o dX10_may_45 rfl ?_
    refine g_iload (pc := 46) o dX10_may_46 rfl ?_
    refine g_callVi (pc := 48) o (m_lawful es2 I p d X k5 M2 H (by omega)) mt_X10_lawful mv_X10_lawful lk_X10_185 rfl rfl rfl (by decide) rfl (Nat.le_of_ble_eq_true rfl) dX10_may_48 ?_
    refine g_istore (pc := 51) o dX10_may_51 (by decide) ?_
    show ca_G Γ 9 _ _ [_, _, _, _, _, _, _, _, _] _
    refine g_iconst (pc := 53) o dX10_may_53 0 rfl ?_
    refine g_istore (pc := 54) o dX10_may_54 (by decide) ?_
    show ca_G Γ 9 _ _ [_, _, _, _, _, _, _, _, _] _
    refine lp_my1 o (h0 := h) (mlF (rxM s X) 12) l1024 M2.2.1 H (by omega) p x2 _ _ _ _ (fun h1 v6 a1 a2 a3 => ?_) 0 (by omega) _ h rfl (fun i hi => by omega) (fun i hi => by omega) (fun i _ => rfl) (fun c _ _ => rfl)
    have es3 : h1.1 52 = s := (a3 52 (by decide) (by decide)).trans es2
    have M3 : MB h1 s p d X 12 := M2.of (fun c hc => a3 c (by omega) (by omega))
    refine g_iconst (pc := 109) o dX10_may_109 0 rfl ?_
    refine g_istore (pc := 110) o dX10_may_110 (by decide) ?_
    show ca_G Γ 9 _ _ [_, _, _, _, _, _, _, _, _] _
    refine lp_my2 o (h0 := h1) I p d X k5 x2 _ es3 M3 H (by omega) _ _ (fun h2 v6 b1 b2 => ?_) 0 (by omega) _ h1 rfl (fun k hk => by rw [a2 k hk]; exact ⟨fun y => absurd rfl y, fun y => absurd y.2.1 (Nat.not_lt_zero _)⟩) (fun c _ => rfl)
    have es4 : h2.1 52 = s := (b2 52 (by decide)).trans es3
    have M4 : MB h2 s p d X 12 := M3.of (fun c hc => b2 c (by omega))
    refine g_iconst (pc := 163) o dX10_may_163 0 rfl ?_
    refine g_istore (pc := 164) o dX10_may_164 (by decide) ?_
    show ca_G Γ 9 _ _ [_, _, _, _, _, _, _, _, _] _
    refine lp_my3 o (h0 := h2) I p d X k5 x2 _ es4 M4 H (by omega) (fun k => H = 0 ∧ k % 8 < 8 ∧ bt (lwF s p d X 0 12) (k % 8) = true ∧ (auM s p d X).nx (auM s p d X).c0 0 (k % 8) = k / 8) (fun h3 v6 v7 v8 f1 f2 => ?_) 0 (by omega) _ h2 _ _ rfl (fun k hk => by rw [b1 k hk]; exact ⟨Or.inl, fun y => y.elim id (fun ⟨_, k1, u, _⟩ => absurd u (Nat.not_lt_zero _))⟩) (fun c _ => rfl)
    refine g_iinc (pc := 275) o dX10_may_275 rfl 1 rfl (by decide) ?_
    show ca_G Γ 9 _ _ [_, _, _, _, _, _, _, _, _] _
    refine g_goto (pc := 278) o 39 dX10_may_278 (by decide) ?_
    refine ih (by omega) _ h3 _ _ _ _ (nI_1 H) (fun _ k hk => ?_) (fun c c1 c2 => (f2 c c1).trans ((b2 c c1).trans ((a3 c c1 c2).trans (e2 c c1 c2))))
    have w64 : ∀ k1, k1 < 8 * (mlF (rxM s X) 12) → (¬ h2.1 64 k1 = 0 ↔ 0 < H ∧ ¬ h.1 63 k1 = 0) := fun k1 y => by rw [b2 64 (by decide)]; exact a1 k1 y
    rw [f1 k hk, Nat.add_sub_cancel]
    cases H with
    | zero =>
      constructor
      · rintro (⟨_, _, u, v⟩ | ⟨u, _⟩)
        · exact ⟨u, v⟩
        · exact absurd u (Nat.lt_irrefl 0)
      · rintro ⟨u, v⟩
        exact Or.inl ⟨rfl, Nat.mod_lt _ (by decide), u, v⟩
    | succ n =>
      constructor
      · rintro (⟨u, _⟩ | ⟨_, k1, u1, u2, u3, u4⟩)
        · omega
        · have y := (e1 (by omega) k1 u1).mp ((w64 k1 u1).mp u2).2
          exact ⟨k1 / 8, k1 % 8, Nat.mod_lt _ (by decide), y, u3, u4⟩
      · rintro ⟨c1, r, hr, y, u3, u4⟩
        have cl := rchM_lt n c1 r y
        refine Or.inr ⟨by omega, 8 * c1 + r, by omega, (w64 _ (by omega)).mpr ⟨by omega, (e1 (by omega) _ (by omega)).mpr ?_⟩, ?_, ?_⟩
        · rw [(d8 c1 r hr).1, (d8 c1 r hr).2]; exact y
        · rw [(d8 c1 r hr).2]; exact u3
        · rw [(d8 c1 r hr).1]; exact u4
set_option maxRecDepth 100000 in
set_option maxHeartbeats 800000 in
theorem lp_my6 {Γ : Fr} (o : ca_O Γ cX10_may 9 RX10 4 103) {Pr : Option Value → Mem → Prop} (ρ : ca_R Γ (some .int) Pr) {h : Mem} {s : Nat → Int32} (I : SI s) (p : Int32) (d : Nat) (X : Int32) (k5 : kbF X 12 ≤ 5) (x2 x3 : Int32) (m : Nat) (hm : m < 24) (M : MB h s p d X 12) (e63 : ∀ k, k < 8 * (mlF (rxM s X) 12) → (¬ h.1 63 k = 0 ↔ RCH (auM s p d X) m (k / 8) (k % 8))) (e60 : ∀ c q, c < (mlF (rxM s X) 12) → q < 8 → h.1 60 (8 * c + q) = nI (cgF (auM s p d X) (23 - m) c q)) (v6 v7 v8 : Option Value) (hp : Pr (some (.int (mayF s p d X m))) h) : ∀ k, k ≤ 8 * (mlF (rxM s X) 12) → ∀ (xk y : Int32), xk = nI k → (∀ q, q < 32 → (bt y q = true ↔ ∃ k1, k1 < k ∧ k1 % 8 = q ∧ RCH (auM s p d X) m (k1 / 8) q ∧ cgF (auM s p d X) (23 - m) (k1 / 8) q < 1000)) → ca_G Γ 9 h 293 [some (.ref 51), some (.int p), some (.int x2), some (.int x3), some (.int y), some (.int xk), v6, v7, v8] [] := by
  have ha : ∀ t, t < 12 → askT s t < 4 := fun t ht => ask_lt I.tm ht
  have l1024 := ml_M5 (X := X) ha k5 (Nat.le_refl 12)
  refine downI (8 * (mlF (rxM s X) 12)) (fun k hk ih => ?_)
  rintro xk y rfl e1
  refine g_iload (pc := 293) o dX10_may_293 rfl ?_
  refine g_bipush (pc := 295) o dX10_may_295 8 rfl ?_
  refine g_aload_n (pc := 297) o dX10_may_297 rfl ?_
  refine g_getIE (pc := 298) o 10 rfl rfl rfl inX10 (by decide) lf_X10_179 (M.2.1) dX10_may_298 ?_
  refine g_imul (pc := 301) o dX10_may_301 ?_
  rw [show (8 : Int32) * nI (mlF (rxM s X) 12) = nI (8 * (mlF (rxM s X) 12)) from pk_mul 8 _]
  refine g_ic_ge (pc := 302) o 350 dX10_may_302 (by decide) (fun c302 => ?_) (fun c302 => ?_)
  · skip
    have z : k = 8 * (mlF (rxM s X) 12) := ge8 (n := 8 * (mlF (rxM s X) 12)) (by omega) (by omega) c302
    subst z
    have ey : y = mayF s p d X m := ssF_eq (fun q hq => by
      rw [e1 q hq]
      constructor
      · rintro ⟨k1, a, b, c, e⟩
        exact ⟨by omega, k1 / 8, c, e⟩
      · rintro ⟨q8, c, a, b⟩
        have cl := rchM_lt m c q a
        exact ⟨8 * c + q, by omega, (d8 c q q8).2, by rw [(d8 c q q8).1]; exact a, by rw [(d8 c q q8).1]; exact b⟩)
    rw [ey]
    refine g_iload (pc := 350) o dX10_may_350 rfl ?_
    exact g_iret o ρ dX10_may_352 hp
  · skip
    have z : k < 8 * (mlF (rxM s X) 12) := lt8 (n := 8 * (mlF (rxM s X) 12)) (by omega) (by omega) c302
    obtain ⟨c, q, hq, rfl⟩ : ∃ c q, q < 8 ∧ k = 8 * c + q := ⟨k / 8, k % 8, by omega, by omega⟩
    have hc : c < (mlF (rxM s X) 12) := by omega
    have f63 := e63 (8 * c + q) z
    rw [(d8 c q hq).1, (d8 c q hq).2] at f63
    have rm8 : jrem (nI (8 * c + q)) 8 = nI q := (rm_nI (d := 8) (by omega) (by decide) (by decide)).trans (by rw [(d8 c q hq).2])
    have cl := cg_1000 (auM s p d X) (23 - m) c q
    have st341 : ∀ (x : Int32), (∀ r, r < 32 → (bt x r = true ↔ r = q ∧ RCH (auM s p d X) m c q ∧ cgF (auM s p d X) (23 - m) c q < 1000)) → ca_G Γ 9 h 341 [some (.ref 51), some (.int p), some (.int x2), some (.int x3), some (.int y), some (.int (nI (8 * c + q))), v6, v7, v8] [.int x, .int y] := by
      intro x ex
      refine g_ior (pc := 341) o dX10_may_341 ?_
      refine g_istore (pc := 342) o dX10_may_342 (by decide) ?_
      show ca_G Γ 9 _ _ [_, _, _, _, _, _, _, _, _] _
      refine g_iinc (pc := 344) o dX10_may_344 rfl 1 rfl (by decide) ?_
      show ca_G Γ 9 _ _ [_, _, _, _, _, _, _, _, _] _
      refine g_goto (pc := 347) o 293 dX10_may_347 (by decide) ?_
      refine ih z _ _ (nI_1 _) (fun r hr => ?_)
      rw [b_or, Bool.or_eq_true, e1 r hr, ex r hr]
      constructor
      · rintro (⟨k1, a, b⟩ | ⟨rfl, a, b⟩)
        · exact ⟨k1, by omega, b⟩
        · exact ⟨8 * c + r, by omega, (d8 c r hq).2, by rw [(d8 c r hq).1]; exact a, by rw [(d8 c r hq).1]; exact b⟩
      · rintro ⟨k1, a, b, e, f⟩
        by_cases w : k1 = 8 * c + q
        · subst w
          rw [(d8 c q hq).2] at b
          subst b
          rw [(d8 c q hq).1] at e f
          exact Or.inr ⟨rfl, e, f⟩
        · exact Or.inl ⟨k1, by omega, b, e, f⟩
    refine g_iload (pc := 305) o dX10_may_305 rfl ?_
    refine g_aload_n (pc := 307) o dX10_may_307 rfl ?_
    refine g_getR (pc := 308) o 16 rfl rfl rfl inX10 (by decide) lf_X10_43 dX10_may_308 ?_
    refine g_iload (pc := 311) o dX10_may_311 rfl ?_
    refine n_zald (pc := 313) o (8 * c + q) (rfl) rfl ((by omega)) (by decide) dX10_may_313 ?_
    refine g_if_eq (pc := 314) o 340 dX10_may_314 (by decide) (fun c314 => ?_) (fun c314 => ?_)
    · skip
      refine g_iconst (pc := 340) o dX10_may_340 0 rfl ?_
      exact st341 _ (fun r _ => by rw [b_0]; exact ⟨fun z => (by cases z), fun z => absurd c314 (f63.mpr z.2.1)⟩)
    · skip
      refine g_aload_n (pc := 317) o dX10_may_317 rfl ?_
      refine g_getR (pc := 318) o 12 rfl rfl rfl inX10 (by decide) lf_X10_34 dX10_may_318 ?_
      refine g_iload (pc := 321) o dX10_may_321 rfl ?_
      refine n_ialdE (pc := 323) o (8 * c + q) (rfl) rfl ((by omega)) (by decide) (e60 c q hc hq) dX10_may_323 ?_
      refine g_sipush (pc := 324) o dX10_may_324 1000 rfl ?_
      refine g_ic_ge (pc := 327) o 340 dX10_may_327 (by decide) (fun c327 => ?_) (fun c327 => ?_)
      · skip
        have w := (nI_leI (a := 1000) (by decide) (by omega)).mp c327
        refine g_iconst (pc := 340) o dX10_may_340 0 rfl ?_
        exact st341 _ (fun r _ => by rw [b_0]; exact ⟨fun z => (by cases z), fun z => by have := z.2.2; omega⟩)
      · skip
        have w := mt (nI_leI (a := 1000) (b := cgF (auM s p d X) (23 - m) c q) (by decide) (by omega)).mpr c327
        refine g_iconst (pc := 330) o dX10_may_330 1 rfl ?_
        refine g_iload (pc := 331) o dX10_may_331 rfl ?_
        refine g_bipush (pc := 333) o dX10_may_333 8 rfl ?_
        refine g_irem (pc := 335) o dX10_may_335 (by decide) ?_
        rw [rm8]
        refine g_ishl (pc := 336) o dX10_may_336 ?_
        refine g_goto (pc := 337) o 341 dX10_may_337 (by decide) ?_
        exact st341 _ (fun r hr => by rw [bt_sh (by omega) hr, decide_eq_true_eq]; exact ⟨fun z => ⟨z, f63.mp c314, by omega⟩, fun z => z.1⟩)
set_option maxRecDepth 100000 in
set_option maxHeartbeats 400000 in
theorem mo_may {h : Mem} (I : Iv (absM h)) (a b : Int32) : Ct yX10_may cX10_may 9 (some .int) 4 103 [.ref 51, .int a, .int b] h (Pm h (op_may a b (absM h))) := by
  refine Ct.of (by decide) (Nat.le_of_ble_eq_true rfl) (fun Γ o ρ => ?_)
  show ca_G Γ 9 _ _ [_, _, _, _, _, _, _, _, _] _
  refine g_iload_n (pc := 0) o dX10_may_0 rfl ?_
  refine g_callSi (pc := 1) o (m_isPerson a h) mt_X10_isPerson ms_X10_isPerson lk_X10_98 rfl (by decide) rfl (Nat.le_of_ble_eq_true rfl) dX10_may_1 ?_
  refine g_if_eq (pc := 4) o 14 dX10_may_4 (by decide) (fun c4 => ?_) (fun c4 => ?_)
  · skip
    refine g_aload_n (pc := 14) o dX10_may_14 rfl ?_
    refine g_ldc (pc := 15) o dX10_may_15 lc_X10_68 ?_
    refine g_callVi (pc := 17) o (m_finds 0 (by decide) h) mt_X10_finds mv_X10_finds lk_X10_86 rfl rfl rfl (by decide) rfl (Nat.le_of_ble_eq_true rfl) dX10_may_17 ?_
    exact g_iret o ρ dX10_may_20 (Pm.eq (if_neg (fun z => bI_0.mp c4 z.1)) (Pm_fnd rfl (kC.rf h) (by decide)))
  · skip
    refine g_iload_n (pc := 7) o dX10_may_7 rfl ?_
    refine g_callSi (pc := 8) o (m_isWhen b h) mt_X10_isWhen ms_X10_isWhen lk_X10_101 rfl (by decide) rfl (Nat.le_of_ble_eq_true rfl) dX10_may_8 ?_
    refine g_if_ne (pc := 11) o 21 dX10_may_11 (by decide) (fun c11 => ?_) (fun c11 => ?_)
    · skip
      have k1 := bI_n0.mp c4
      have k2 := bI_n0.mp c11
      have eq : op_may a b (absM h) = (mayF (h.1 52) a (ca_n (b / 100)) (bX (h.1 52) a (ca_n (b / 100))) (ca_n (jrem b 100)), absM h) := if_pos ⟨k1, k2⟩
      rw [eq] at ρ
      obtain ⟨j, hj, rfl, ej⟩ := n_of (x := a) (b := 5) k1 (by decide)
      obtain ⟨d, m, hd, hm, rfl, ed, em⟩ := wh_of k2
      rw [ed, em, show ca_n (nI d) = d from nI_clamp (by omega), show ca_n (nI m) = m from nI_clamp (by omega)] at ρ
      have IS : SI (h.1 52) := I.1
      have k5 := kb_five IS (show j < 6 by omega) (sub_self (h.1 52) (nI j) d)
      have cb := m_binds (h := h) rfl IS (nI j) d hd (-1) (bX (h.1 52) (nI j) d) k5 (bnd_all IS.terms (nI j) d)
      refine g_aload_n (pc := 21) o dX10_may_21 rfl ?_
      refine g_iload_n (pc := 22) o dX10_may_22 rfl ?_
      refine g_iload_n (pc := 23) o dX10_may_23 rfl ?_
      refine g_bipush (pc := 24) o dX10_may_24 100 rfl ?_
      refine g_idiv (pc := 26) o dX10_may_26 (by decide) ?_
      rw [ed]
      refine g_iconst (pc := 27) o dX10_may_27 (-1) rfl ?_
      refine g_callVQv (pc := 28) o (cb) mt_X10_binds mv_X10_binds lk_X10_196 rfl rfl rfl (by decide) rfl (Nat.le_of_ble_eq_true rfl) dX10_may_28 ?_
      rintro h1 w
      obtain ⟨M1, O1⟩ := w
      have O2 : moO h h1 := (moO.rf h).b O1
      refine g_iload_n (pc := 31) o dX10_may_31 rfl ?_
      refine g_bipush (pc := 32) o dX10_may_32 100 rfl ?_
      refine g_irem (pc := 34) o dX10_may_34 (by decide) ?_
      rw [em]
      refine g_istore_n (pc := 35) o dX10_may_35 (by decide) ?_
      show ca_G Γ 9 _ _ [_, _, _, _, _, _, _, _, _] _
      refine g_iconst (pc := 36) o dX10_may_36 0 rfl ?_
      refine g_istore (pc := 37) o dX10_may_37 (by decide) ?_
      show ca_G Γ 9 _ _ [_, _, _, _, _, _, _, _, _] _
      refine lp_my5 o (h0 := h1) IS (nI j) d (bX (h.1 52) (nI j) d) k5 _ m hm O2.s M1 (fun h2 v4 v5 v6 v7 v8 a1 a2 => ?_) 0 (by omega) _ h1 _ _ _ _ rfl (fun y => absurd y (Nat.lt_irrefl 0)) (fun c _ _ => rfl)
      have es2 : h2.1 52 = h.1 52 := (a2 52 (by decide) (by decide)).trans O2.s
      have M2 : MB h2 (h.1 52) (nI j) d (bX (h.1 52) (nI j) d) 12 := M1.of (fun c hc => a2 c (by omega) (by omega))
      have cf := m_backF es2 IS (nI j) d (bX (h.1 52) (nI j) d) k5 M2 m hm
      refine g_aload_n (pc := 281) o dX10_may_281 rfl ?_
      refine g_iload_n (pc := 282) o dX10_may_282 rfl ?_
      refine g_iconst (pc := 283) o dX10_may_283 0 rfl ?_
      refine g_callVQv (pc := 284) o (cf) mt_X10_backTo mv_X10_backTo lk_X10_192 rfl rfl rfl (by decide) rfl (Nat.le_of_ble_eq_true rfl) dX10_may_284 ?_
      rintro h3 v
      obtain ⟨v1, v2⟩ := v
      have M3 : MB h3 (h.1 52) (nI j) d (bX (h.1 52) (nI j) d) 12 := M2.of (fun c hc => v2 c (by omega) (by omega))
      have ek : ∀ c, c = 52 ∨ c = 55 ∨ c = 53 ∨ c = 62 ∨ c = 66 ∨ c = 67 ∨ c = 68 ∨ c = 69 ∨ c < 51 → h3.1 c = h.1 c := fun c hc => by
        rw [v2 c (by omega) (by omega), a2 c (by omega) (by omega)]
        exact O2.1 c (by omega) (by omega) (by omega) (by omega) (by omega) (by omega) (by omega)
      have e51 : ∀ i, i ≠ 9 → i ≠ 10 → i ≠ 11 → h3.1 51 i = h.1 51 i := fun i y1 y2 y3 => by
        rw [v2 51 (by decide) (by decide), a2 51 (by decide) (by decide)]
        exact O2.2 i y1 y2 y3
      have ab : absM h3 = absM h := by
        funext i
        unfold absM
        rw [ek 52 (by decide), ek 55 (by decide), ek 53 (by decide), ek 62 (by decide), ek 66 (by decide), ek 67 (by decide), ek 68 (by decide), ek 69 (by decide), e51 4 (by decide) (by decide) (by decide), e51 15 (by decide) (by decide) (by decide), e51 20 (by decide) (by decide) (by decide)]
      refine g_iconst (pc := 287) o dX10_may_287 0 rfl ?_
      refine g_istore (pc := 288) o dX10_may_288 (by decide) ?_
      show ca_G Γ 9 _ _ [_, _, _, _, _, _, _, _, _] _
      refine g_iconst (pc := 290) o dX10_may_290 0 rfl ?_
      refine g_istore (pc := 291) o dX10_may_291 (by decide) ?_
      show ca_G Γ 9 _ _ [_, _, _, _, _, _, _, _, _] _
      refine lp_my6 o ρ IS (nI j) d (bX (h.1 52) (nI j) d) k5 _ _ m hm M3 (fun k hk => by rw [v2 63 (by decide) (by decide)]; exact a1 k hk) v1 _ _ _ (Pm.mk rfl ab (fun c hc => ek c (by omega))) 0 (by omega) _ _ rfl (fun q hq => ?_)
      rw [show bt 0 q = false from b_0 q]
      exact ⟨fun z => (by cases z), fun ⟨k1, z, _⟩ => by omega⟩

    · skip
      refine g_aload_n (pc := 14) o dX10_may_14 rfl ?_
      refine g_ldc (pc := 15) o dX10_may_15 lc_X10_68 ?_
      refine g_callVi (pc := 17) o (m_finds 0 (by decide) h) mt_X10_finds mv_X10_finds lk_X10_86 rfl rfl rfl (by decide) rfl (Nat.le_of_ble_eq_true rfl) dX10_may_17 ?_
      exact g_iret o ρ dX10_may_20 (Pm.eq (if_neg (fun z => bI_0.mp c11 z.2)) (Pm_fnd rfl (kC.rf h) (by decide)))
