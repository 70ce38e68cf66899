/-! ===== what the sightings of a day leave open ===== -/
def opN (s : Nat → Int32) (p : Int32) (d i n : Nat) : Int32 := if latF s p (nI (100 * d + i)) n = -1 then 255 else jshl 1 (s (10 + 3 * ca_n (latF s p (nI (100 * d + i)) n)))
def opF (s : Nat → Int32) (p : Int32) (d i : Nat) : Int32 := opN s p d i (nSeen s)
def sgF (s : Nat → Int32) (p : Int32) (d i : Nat) : Int32 := if latF s p (nI (100 * d + i)) (nSeen s) = -1 then -1 else s (10 + 3 * ca_n (latF s p (nI (100 * d + i)) (nSeen s)))
abbrev okS (s : Nat → Int32) : Prop := ∀ k, k < 60 → ∃ p q d m, p < 6 ∧ q < 8 ∧ d < 30 ∧ m < 24 ∧ s (9 + 3 * k) = nI p ∧ s (10 + 3 * k) = nI q ∧ s (11 + 3 * k) = nI (100 * d + m)
theorem SI.see {s : Nat → Int32} (I : SI s) : okS s := I.2.2.1
theorem opN_ne {s : Nat → Int32} {p : Int32} {d i n : Nat} (h : ¬ (s (9 + 3 * n) = p ∧ s (11 + 3 * n) = nI (100 * d + i))) : opN s p d i (n + 1) = opN s p d i n := by
  unfold opN
  rw [latF_s, if_neg h]
theorem opN_eq {s : Nat → Int32} {p : Int32} {d i n : Nat} (hn : n < 60) (h : s (9 + 3 * n) = p ∧ s (11 + 3 * n) = nI (100 * d + i)) : opN s p d i (n + 1) = jshl 1 (s (10 + 3 * n)) := by
  unfold opN
  rw [latF_s, if_pos h, if_neg (nI_ne_m1 (by omega)), show ca_n (nI n) = n from nI_clamp (by omega)]
set_option maxRecDepth 100000 in
set_option maxHeartbeats 400000 in
theorem lp_pinB39 {Γ : Fr} (o : ca_O Γ cX5_pin 5 RX5 2 45) {Pr : Option Value → Mem → Prop} (ρ : ca_R Γ none Pr) {h0 : Mem} {s : Nat → Int32} (B : BR h0 1 s) (ok : ok8 s) (S : okS s) (p : Int32) (d : Nat) (hd : d < 30) (hp : ∀ h : Mem, (∀ i, i < 24 → h.1 39 i = opF s p d i) → (∀ c, c ≠ 39 → h.1 c = h0.1 c) → Pr none h) : ∀ k, k ≤ nSeen s → ∀ (xk : Int32) (h : Mem), xk = nI k → (∀ i, i < 24 → h.1 39 i = opN s p d i k) → (∀ c, c ≠ 39 → h.1 c = h0.1 c) → ca_G Γ 5 h 26 [some (.ref 4), some (.int p), some (.int (nI d)), some (.ref 39), some (.int xk)] [] := by
  have l8 := ok.1
  refine downI (nSeen s) (fun k hk ih => ?_)
  rintro xk h rfl e1 e2
  have B2 : BR h 1 s := B.of (fun c hc => e2 c (fun z => by subst z; revert hc; decide))
  have e8 : h.1 4 1 = nI (nSeen s) := B2.2.1.trans ok.2.1
  refine g_iload (pc := 26) o dX5_pin_26 rfl ?_
  refine g_aload_n (pc := 28) o dX5_pin_28 rfl ?_
  refine g_getIE (pc := 29) o 1 rfl rfl rfl inX5 (by decide) lf_X5_15 (e8) dX5_pin_29 ?_
  refine g_ic_ge (pc := 32) o 70 dX5_pin_32 (by decide) (fun c32 => ?_) (fun c32 => ?_)
  · skip
    have q : k = nSeen s := ge8 (n := nSeen s) (by omega) (by omega) c32
    subst q
    exact g_vret o ρ dX5_pin_70 (hp h e1 e2)
  · skip
    have q : k < nSeen s := lt8 (n := nSeen s) (by omega) (by omega) c32
    obtain ⟨p2, q2, d2, m2, hp2, hq2, hd2, hm2, s1, s2, s3⟩ := S k (by omega)
    obtain ⟨w1, w2⟩ := wq d2 m2 (by omega) (by omega)
    obtain ⟨b1, b2, b3, b4⟩ := B2.2.2.1 k (by omega)
    refine g_aload_n (pc := 35) o dX5_pin_35 rfl ?_
    refine g_iload (pc := 36) o dX5_pin_36 rfl ?_
    refine g_iload_n (pc := 38) o dX5_pin_38 rfl ?_
    refine g_iload_n (pc := 39) o dX5_pin_39 rfl ?_
    refine g_callVi (pc := 40) o (c_isOf B2 k (by omega) p (nI d)) mt_X5_isOf mv_X5_isOf lk_X5_19 rfl rfl rfl (by decide) rfl (Nat.le_of_ble_eq_true rfl) dX5_pin_40 ?_
    refine g_if_eq (pc := 43) o 64 dX5_pin_43 (by decide) (fun c43 => ?_) (fun c43 => ?_)
    · skip
      have z : ¬ (s (9 + 3 * k) = p ∧ s (11 + 3 * k) / 100 = nI d) := bI_0.mp c43
      refine g_iinc (pc := 64) o dX5_pin_64 rfl 1 rfl (by decide) ?_
      show ca_G Γ 5 _ _ [_, _, _, _, _] _
      refine g_goto (pc := 67) o 26 dX5_pin_67 (by decide) ?_
      refine ih q _ h (nI_1 k) (fun i hi => (e1 i hi).trans (opN_ne (fun w => z ⟨w.1, ?_⟩)).symm) e2
      rw [w.2]
      exact (wq d i (by omega) (by omega)).1
    · skip
      have z : s (9 + 3 * k) = p ∧ s (11 + 3 * k) / 100 = nI d := bI_n0.mp c43
      have ed : d2 = d := by
        have := z.2
        rw [s3, w1] at this
        exact (nI_eq (by omega) (by omega)).mp this
      subst ed
      have f3 : h.1 5 (4 * k + 3) = nI m2 := by rw [b4, s3, w2]
      have f1 : h.1 5 (4 * k + 1) = s (10 + 3 * k) := b2
      have c3 := c_sfield (h := h) k 3 (by omega) (by decide)
      rw [f3] at c3
      have c1 := c_sfield (h := h) k 1 (by omega) (by decide)
      rw [f1] at c1
      refine g_aload_n (pc := 46) o dX5_pin_46 rfl ?_
      refine g_aload_n (pc := 47) o dX5_pin_47 rfl ?_
      refine g_iload (pc := 48) o dX5_pin_48 rfl ?_
      refine g_iconst (pc := 50) o dX5_pin_50 3 rfl ?_
      refine g_callVi (pc := 51) o (c3) mt_X5_field mv_X5_field lk_X5_23 rfl rfl rfl (by decide) rfl (Nat.le_of_ble_eq_true rfl) dX5_pin_51 ?_
      refine g_iconst (pc := 54) o dX5_pin_54 1 rfl ?_
      refine g_aload_n (pc := 55) o dX5_pin_55 rfl ?_
      refine g_iload (pc := 56) o dX5_pin_56 rfl ?_
      refine g_iconst (pc := 58) o dX5_pin_58 1 rfl ?_
      refine g_callVi (pc := 59) o (c1) mt_X5_field mv_X5_field lk_X5_23 rfl rfl rfl (by decide) rfl (Nat.le_of_ble_eq_true rfl) dX5_pin_59 ?_
      refine g_ishl (pc := 62) o dX5_pin_62 ?_
      refine n_iast (pc := 63) o m2 (rfl) rfl ((by omega)) (by decide) dX5_pin_63 ?_
      refine g_iinc (pc := 64) o dX5_pin_64 rfl 1 rfl (by decide) ?_
      show ca_G Γ 5 _ _ [_, _, _, _, _] _
      refine g_goto (pc := 67) o 26 dX5_pin_67 (by decide) ?_
      refine ih q _ _ (nI_1 k) (fun i hi => ?_) (fun c hc => (mw_ne _ _ _ hc).trans (e2 c hc))
      rw [mw_same]
      unfold upd
      by_cases w : i = m2
      · subst w
        rw [if_pos rfl, opN_eq (by omega) ⟨z.1, s3⟩]
      · rw [if_neg w, e1 i hi]
        refine (opN_ne (fun v => w ?_)).symm
        have := v.2
        rw [s3] at this
        have := (nI_eq (by omega) (by omega)).mp this
        omega
set_option maxRecDepth 100000 in
set_option maxHeartbeats 400000 in
theorem lp_pinA39 {Γ : Fr} (o : ca_O Γ cX5_pin 5 RX5 2 45) {Pr : Option Value → Mem → Prop} (ρ : ca_R Γ none Pr) {h0 : Mem} {s : Nat → Int32} (B : BR h0 1 s) (ok : ok8 s) (S : okS s) (p : Int32) (d : Nat) (hd : d < 30) (hp : ∀ h : Mem, (∀ i, i < 24 → h.1 39 i = opF s p d i) → (∀ c, c ≠ 39 → h.1 c = h0.1 c) → Pr none h) : ∀ k, k ≤ 24 → ∀ (xk : Int32) (h : Mem), xk = nI k → (∀ i, i < k → h.1 39 i = 255) → (∀ c, c ≠ 39 → h.1 c = h0.1 c) → ca_G Γ 5 h 3 [some (.ref 4), some (.int p), some (.int (nI d)), some (.ref 39), some (.int xk)] [] := by
  refine downI 24 (fun k hk ih => ?_)
  rintro xk h rfl e1 e2
  refine g_iload (pc := 3) o dX5_pin_3 rfl ?_
  refine g_bipush (pc := 5) o dX5_pin_5 24 rfl ?_
  refine g_ic_ge (pc := 7) o 23 dX5_pin_7 (by decide) (fun c7 => ?_) (fun c7 => ?_)
  · skip
    have q : k = 24 := ge8 (n := 24) (by omega) (by omega) c7
    subst q
    refine g_iconst (pc := 23) o dX5_pin_23 0 rfl ?_
    refine g_istore (pc := 24) o dX5_pin_24 (by decide) ?_
    show ca_G Γ 5 _ _ [_, _, _, _, _] _
    exact lp_pinB39 o ρ B ok S p d hd hp 0 (by omega) _ h rfl (fun i hi => (e1 i hi).trans rfl) e2
  · skip
    have q : k < 24 := lt8 (n := 24) (by omega) (by omega) c7
    refine g_aload_n (pc := 10) o dX5_pin_10 rfl ?_
    refine g_iload (pc := 11) o dX5_pin_11 rfl ?_
    refine g_sipush (pc := 13) o dX5_pin_13 255 rfl ?_
    refine n_iast (pc := 16) o k (rfl) rfl ((by omega)) (by decide) dX5_pin_16 ?_
    refine g_iinc (pc := 17) o dX5_pin_17 rfl 1 rfl (by decide) ?_
    show ca_G Γ 5 _ _ [_, _, _, _, _] _
    refine g_goto (pc := 20) o 3 dX5_pin_20 (by decide) ?_
    refine ih q _ _ (nI_1 k) (fun i hi => ?_) (fun c hc => (mw_ne _ _ _ hc).trans (e2 c hc))
    rw [mw_same]
    unfold upd
    by_cases w : i = k
    · rw [if_pos w]
    · rw [if_neg w]; exact e1 i (by omega)
set_option maxRecDepth 100000 in
set_option maxHeartbeats 400000 in
theorem c_pin39 {h : Mem} {s : Nat → Int32} (B : BR h 1 s) (ok : ok8 s) (S : okS s) (p : Int32) (d : Nat) (hd : d < 30) : Ct yX5_pin cX5_pin 5 none 2 45 [.ref 4, .int p, .int (nI d), .ref 39] h (Qv (fun h2 => (∀ i, i < 24 → h2.1 39 i = opF s p d i) ∧ ∀ c, c ≠ 39 → h2.1 c = h.1 c)) := by
  refine Ct.of (by decide) (Nat.le_of_ble_eq_true rfl) (fun Γ o ρ => ?_)
  show ca_G Γ 5 _ _ [_, _, _, _, _] _
  refine g_iconst (pc := 0) o dX5_pin_0 0 rfl ?_
  refine g_istore (pc := 1) o dX5_pin_1 (by decide) ?_
  show ca_G Γ 5 _ _ [_, _, _, _, _] _
  exact lp_pinA39 o ρ (h0 := h) B ok S p d hd (fun h2 a b => ⟨rfl, a, b⟩) 0 (by omega) _ h rfl (fun i hi => by omega) (fun c hc => rfl)
set_option maxRecDepth 100000 in
set_option maxHeartbeats 400000 in
theorem lp_pinB48 {Γ : Fr} (o : ca_O Γ cX5_pin 5 RX5 2 45) {Pr : Option Value → Mem → Prop} (ρ : ca_R Γ none Pr) {h0 : Mem} {s : Nat → Int32} (B : BR h0 1 s) (ok : ok8 s) (S : okS s) (p : Int32) (d : Nat) (hd : d < 30) (hp : ∀ h : Mem, (∀ i, i < 24 → h.1 48 i = opF s p d i) → (∀ c, c ≠ 48 → h.1 c = h0.1 c) → Pr none h) : ∀ k, k ≤ nSeen s → ∀ (xk : Int32) (h : Mem), xk = nI k → (∀ i, i < 24 → h.1 48 i = opN s p d i k) → (∀ c, c ≠ 48 → h.1 c = h0.1 c) → ca_G Γ 5 h 26 [some (.ref 4), some (.int p), some (.int (nI d)), some (.ref 48), some (.int xk)] [] := by
  have l8 := ok.1
  refine downI (nSeen s) (fun k hk ih => ?_)
  rintro xk h rfl e1 e2
  have B2 : BR h 1 s := B.of (fun c hc => e2 c (fun z => by subst z; revert hc; decide))
  have e8 : h.1 4 1 = nI (nSeen s) := B2.2.1.trans ok.2.1
  refine g_iload (pc := 26) o dX5_pin_26 rfl ?_
  refine g_aload_n (pc := 28) o dX5_pin_28 rfl ?_
  refine g_getIE (pc := 29) o 1 rfl rfl rfl inX5 (by decide) lf_X5_15 (e8) dX5_pin_29 ?_
  refine g_ic_ge (pc := 32) o 70 dX5_pin_32 (by decide) (fun c32 => ?_) (fun c32 => ?_)
  · skip
    have q : k = nSeen s := ge8 (n := nSeen s) (by omega) (by omega) c32
    subst q
    exact g_vret o ρ dX5_pin_70 (hp h e1 e2)
  · skip
    have q : k < nSeen s := lt8 (n := nSeen s) (by omega) (by omega) c32
    obtain ⟨p2, q2, d2, m2, hp2, hq2, hd2, hm2, s1, s2, s3⟩ := S k (by omega)
    obtain ⟨w1, w2⟩ := wq d2 m2 (by omega) (by omega)
    obtain ⟨b1, b2, b3, b4⟩ := B2.2.2.1 k (by omega)
    refine g_aload_n (pc := 35) o dX5_pin_35 rfl ?_
    refine g_iload (pc := 36) o dX5_pin_36 rfl ?_
    refine g_iload_n (pc := 38) o dX5_pin_38 rfl ?_
    refine g_iload_n (pc := 39) o dX5_pin_39 rfl ?_
    refine g_callVi (pc := 40) o (c_isOf B2 k (by omega) p (nI d)) mt_X5_isOf mv_X5_isOf lk_X5_19 rfl rfl rfl (by decide) rfl (Nat.le_of_ble_eq_true rfl) dX5_pin_40 ?_
    refine g_if_eq (pc := 43) o 64 dX5_pin_43 (by decide) (fun c43 => ?_) (fun c43 => ?_)
    · skip
      have z : ¬ (s (9 + 3 * k) = p ∧ s (11 + 3 * k) / 100 = nI d) := bI_0.mp c43
      refine g_iinc (pc := 64) o dX5_pin_64 rfl 1 rfl (by decide) ?_
      show ca_G Γ 5 _ _ [_, _, _, _, _] _
      refine g_goto (pc := 67) o 26 dX5_pin_67 (by decide) ?_
      refine ih q _ h (nI_1 k) (fun i hi => (e1 i hi).trans (opN_ne (fun w => z ⟨w.1, ?_⟩)).symm) e2
      rw [w.2]
      exact (wq d i (by omega) (by omega)).1
    · skip
      have z : s (9 + 3 * k) = p ∧ s (11 + 3 * k) / 100 = nI d := bI_n0.mp c43
      have ed : d2 = d := by
        have := z.2
        rw [s3, w1] at this
        exact (nI_eq (by omega) (by omega)).mp this
      subst ed
      have f3 : h.1 5 (4 * k + 3) = nI m2 := by rw [b4, s3, w2]
      have f1 : h.1 5 (4 * k + 1) = s (10 + 3 * k) := b2
      have c3 := c_sfield (h := h) k 3 (by omega) (by decide)
      rw [f3] at c3
      have c1 := c_sfield (h := h) k 1 (by omega) (by decide)
      rw [f1] at c1
      refine g_aload_n (pc := 46) o dX5_pin_46 rfl ?_
      refine g_aload_n (pc := 47) o dX5_pin_47 rfl ?_
      refine g_iload (pc := 48) o dX5_pin_48 rfl ?_
      refine g_iconst (pc := 50) o dX5_pin_50 3 rfl ?_
      refine g_callVi (pc := 51) o (c3) mt_X5_field mv_X5_field lk_X5_23 rfl rfl rfl (by decide) rfl (Nat.le_of_ble_eq_true rfl) dX5_pin_51 ?_
      refine g_iconst (pc := 54) o dX5_pin_54 1 rfl ?_
      refine g_aload_n (pc := 55) o dX5_pin_55 rfl ?_
      refine g_iload (pc := 56) o dX5_pin_56 rfl ?_
      refine g_iconst (pc := 58) o dX5_pin_58 1 rfl ?_
      refine g_callVi (pc := 59) o (c1) mt_X5_field mv_X5_field lk_X5_23 rfl rfl rfl (by decide) rfl (Nat.le_of_ble_eq_true rfl) dX5_pin_59 ?_
      refine g_ishl (pc := 62) o dX5_pin_62 ?_
      refine n_iast (pc := 63) o m2 (rfl) rfl ((by omega)) (by decide) dX5_pin_63 ?_
      refine g_iinc (pc := 64) o dX5_pin_64 rfl 1 rfl (by decide) ?_
      show ca_G Γ 5 _ _ [_, _, _, _, _] _
      refine g_goto (pc := 67) o 26 dX5_pin_67 (by decide) ?_
      refine ih q _ _ (nI_1 k) (fun i hi => ?_) (fun c hc => (mw_ne _ _ _ hc).trans (e2 c hc))
      rw [mw_same]
      unfold upd
      by_cases w : i = m2
      · subst w
        rw [if_pos rfl, opN_eq (by omega) ⟨z.1, s3⟩]
      · rw [if_neg w, e1 i hi]
        refine (opN_ne (fun v => w ?_)).symm
        have := v.2
        rw [s3] at this
        have := (nI_eq (by omega) (by omega)).mp this
        omega
set_option maxRecDepth 100000 in
set_option maxHeartbeats 400000 in
theorem lp_pinA48 {Γ : Fr} (o : ca_O Γ cX5_pin 5 RX5 2 45) {Pr : Option Value → Mem → Prop} (ρ : ca_R Γ none Pr) {h0 : Mem} {s : Nat → Int32} (B : BR h0 1 s) (ok : ok8 s) (S : okS s) (p : Int32) (d : Nat) (hd : d < 30) (hp : ∀ h : Mem, (∀ i, i < 24 → h.1 48 i = opF s p d i) → (∀ c, c ≠ 48 → h.1 c = h0.1 c) → Pr none h) : ∀ k, k ≤ 24 → ∀ (xk : Int32) (h : Mem), xk = nI k → (∀ i, i < k → h.1 48 i = 255) → (∀ c, c ≠ 48 → h.1 c = h0.1 c) → ca_G Γ 5 h 3 [some (.ref 4), some (.int p), some (.int (nI d)), some (.ref 48), some (.int xk)] [] := by
  refine downI 24 (fun k hk ih => ?_)
  rintro xk h rfl e1 e2
  refine g_iload (pc := 3) o dX5_pin_3 rfl ?_
  refine g_bipush (pc := 5) o dX5_pin_5 24 rfl ?_
  refine g_ic_ge (pc := 7) o 23 dX5_pin_7 (by decide) (fun c7 => ?_) (fun c7 => ?_)
  · skip
    have q : k = 24 := ge8 (n := 24) (by omega) (by omega) c7
    subst q
    refine g_iconst (pc := 23) o dX5_pin_23 0 rfl ?_
    refine g_istore (pc := 24) o dX5_pin_24 (by decide) ?_
    show ca_G Γ 5 _ _ [_, _, _, _, _] _
    exact lp_pinB48 o ρ B ok S p d hd hp 0 (by omega) _ h rfl (fun i hi => (e1 i hi).trans rfl) e2
  · skip
    have q : k < 24 := lt8 (n := 24) (by omega) (by omega) c7
    refine g_aload_n (pc := 10) o dX5_pin_10 rfl ?_
    refine g_iload (pc := 11) o dX5_pin_11 rfl ?_
    refine g_sipush (pc := 13) o dX5_pin_13 255 rfl ?_
    refine n_iast (pc := 16) o k (rfl) rfl ((by omega)) (by decide) dX5_pin_16 ?_
    refine g_iinc (pc := 17) o dX5_pin_17 rfl 1 rfl (by decide) ?_
    show ca_G Γ 5 _ _ [_, _, _, _, _] _
    refine g_goto (pc := 20) o 3 dX5_pin_20 (by decide) ?_
    refine ih q _ _ (nI_1 k) (fun i hi => ?_) (fun c hc => (mw_ne _ _ _ hc).trans (e2 c hc))
    rw [mw_same]
    unfold upd
    by_cases w : i = k
    · rw [if_pos w]
    · rw [if_neg w]; exact e1 i (by omega)
set_option maxRecDepth 100000 in
set_option maxHeartbeats 400000 in
theorem c_pin48 {h : Mem} {s : Nat → Int32} (B : BR h 1 s) (ok : ok8 s) (S : okS s) (p : Int32) (d : Nat) (hd : d < 30) : Ct yX5_pin cX5_pin 5 none 2 45 [.ref 4, .int p, .int (nI d), .ref 48] h (Qv (fun h2 => (∀ i, i < 24 → h2.1 48 i = opF s p d i) ∧ ∀ c, c ≠ 48 → h2.1 c = h.1 c)) := by
  refine Ct.of (by decide) (Nat.le_of_ble_eq_true rfl) (fun Γ o ρ => ?_)
  show ca_G Γ 5 _ _ [_, _, _, _, _] _
  refine g_iconst (pc := 0) o dX5_pin_0 0 rfl ?_
  refine g_istore (pc := 1) o dX5_pin_1 (by decide) ?_
  show ca_G Γ 5 _ _ [_, _, _, _, _] _
  exact lp_pinA48 o ρ (h0 := h) B ok S p d hd (fun h2 a b => ⟨rfl, a, b⟩) 0 (by omega) _ h rfl (fun i hi => by omega) (fun c hc => rfl)
theorem ix93 (j : Nat) : nI 9 + nI 3 * nI j + 1 = nI (10 + 3 * j) := by rw [pk_mul, nI_add, nI_1]; congr 1; omega
set_option maxRecDepth 100000 in
set_option maxHeartbeats 400000 in
theorem lp_looks {Γ : Fr} (o : ca_O Γ cX10_looks 5 RX10 1 24) {Pr : Option Value → Mem → Prop} (ρ : ca_R Γ none Pr) {h0 : Mem} (ok : ok8 (h0.1 52)) (S : okS (h0.1 52)) (p : Int32) (d : Nat) (hd : d < 30) (hp : ∀ h : Mem, (∀ i, i < 24 → h.1 56 i = sgF (h0.1 52) p d i) → (∀ c, c ≠ 56 → h.1 c = h0.1 c) → Pr none h) : ∀ k, k ≤ 24 → ∀ (xk : Int32) (h : Mem) (v : Option Value), xk = nI k → (∀ i, i < k → h.1 56 i = sgF (h0.1 52) p d i) → (∀ c, c ≠ 56 → h.1 c = h0.1 c) → ca_G Γ 5 h 2 [some (.ref 51), some (.int p), some (.int (nI d)), some (.int xk), v] [] := by
  have l8 := ok.1
  refine downI 24 (fun k hk ih => ?_)
  rintro xk h v rfl e1 e2
  have e52 : h.1 52 = h0.1 52 := e2 52 (by decide)
  refine g_iload_n (pc := 2) o dX10_looks_2 rfl ?_
  refine g_bipush (pc := 3) o dX10_looks_3 24 rfl ?_
  refine g_ic_ge (pc := 5) o 56 dX10_looks_5 (by decide) (fun c5 => ?_) (fun c5 => ?_)
  · skip
    have q : k = 24 := ge8 (n := 24) (by omega) (by omega) c5
    subst q
    exact g_vret o ρ dX10_looks_56 (hp h e1 e2)
  · skip
    have q : k < 24 := lt8 (n := 24) (by omega) (by omega) c5
    have fin : ∀ (z : Int32) (w : Option Value), z = sgF (h0.1 52) p d k → ca_G Γ 5 h 49 [some (.ref 51), some (.int p), some (.int (nI d)), some (.int (nI k)), w] [.int z, .int (nI k), .ref 56] := by
      intro z w ez
      refine n_iast (pc := 49) o k (rfl) rfl ((by omega)) (by decide) dX10_looks_49 ?_
      refine g_iinc (pc := 50) o dX10_looks_50 rfl 1 rfl (by decide) ?_
      show ca_G Γ 5 _ _ [_, _, _, _, _] _
      refine g_goto (pc := 53) o 2 dX10_looks_53 (by decide) ?_
      refine ih q _ _ w (nI_1 k) (fun i hi => ?_) (fun c hc => (mw_ne _ _ _ hc).trans (e2 c hc))
      rw [mw_same]
      unfold upd
      by_cases t : i = k
      · subst t; rw [if_pos rfl]; exact ez
      · rw [if_neg t]; exact e1 i (by omega)
    have cl := m_latest (h := h) (n := nSeen (h0.1 52)) ok.1 (by rw [e52]; exact ok.2.1) p (nI (100 * d + k))
    rw [e52] at cl
    have ew : (100 : Int32) * nI d + nI k = nI (100 * d + k) := ix2 d 100 k
    refine g_aload_n (pc := 8) o dX10_looks_8 rfl ?_
    refine g_iload_n (pc := 9) o dX10_looks_9 rfl ?_
    refine g_bipush (pc := 10) o dX10_looks_10 100 rfl ?_
    refine g_iload_n (pc := 12) o dX10_looks_12 rfl ?_
    refine g_imul (pc := 13) o dX10_looks_13 ?_
    refine g_iload_n (pc := 14) o dX10_looks_14 rfl ?_
    refine g_iadd (pc := 15) o dX10_looks_15 ?_
    rw [ew]
    refine g_callVi (pc := 16) o (cl) mt_X10_latest mv_X10_latest lk_X10_111 rfl rfl rfl (by decide) rfl (Nat.le_of_ble_eq_true rfl) dX10_looks_16 ?_
    refine g_istore (pc := 19) o dX10_looks_19 (by decide) ?_
    show ca_G Γ 5 _ _ [_, _, _, _, _] _
    refine g_aload_n (pc := 21) o dX10_looks_21 rfl ?_
    refine g_getR (pc := 22) o 5 rfl rfl rfl inX10 (by decide) lf_X10_22 dX10_looks_22 ?_
    refine g_iload_n (pc := 25) o dX10_looks_25 rfl ?_
    refine g_iload (pc := 26) o dX10_looks_26 rfl ?_
    refine g_if_ge (pc := 28) o 35 dX10_looks_28 (by decide) (fun c28 => ?_) (fun c28 => ?_)
    · skip
      rcases latF_c (h0.1 52) p (nI (100 * d + k)) (nSeen (h0.1 52)) with z | ⟨j, hj, z⟩
      · rw [z] at c28; exact absurd c28 (by decide)
      · rw [z]
        refine g_aload_n (pc := 35) o dX10_looks_35 rfl ?_
        refine g_getR (pc := 36) o 0 rfl rfl rfl inX10 (by decide) lf_X10_7 dX10_looks_36 ?_
        refine g_bipush (pc := 39) o dX10_looks_39 9 rfl ?_
        refine g_iconst (pc := 41) o dX10_looks_41 3 rfl ?_
        refine g_iload (pc := 42) o dX10_looks_42 rfl ?_
        refine g_imul (pc := 44) o dX10_looks_44 ?_
        refine g_iadd (pc := 45) o dX10_looks_45 ?_
        refine g_iconst (pc := 46) o dX10_looks_46 1 rfl ?_
        refine g_iadd (pc := 47) o dX10_looks_47 ?_
        refine n_iald (pc := 48) o (10 + 3 * j) (ix93 j) rfl ((by omega)) (by decide) dX10_looks_48 ?_
        refine fin _ _ ?_
        unfold sgF
        rw [z, if_neg (nI_ne_m1 (by omega)), show ca_n (nI j) = j from nI_clamp (by omega), e52]
    · skip
      rcases latF_c (h0.1 52) p (nI (100 * d + k)) (nSeen (h0.1 52)) with z | ⟨j, hj, z⟩
      · rw [z]
        refine g_iconst (pc := 31) o dX10_looks_31 (-1) rfl ?_
        refine g_goto (pc := 32) o 49 dX10_looks_32 (by decide) ?_
        exact fin _ _ (by unfold sgF; rw [if_pos z])
      · rw [z] at c28; exact absurd ((geN _ 0 (by decide)).mpr (by rw [nI_toInt (by omega)]; omega)) c28
set_option maxRecDepth 100000 in
set_option maxHeartbeats 400000 in
theorem m_looks {h : Mem} (ok : ok8 (h.1 52)) (S : okS (h.1 52)) (p : Int32) (d : Nat) (hd : d < 30) : Ct yX10_looks cX10_looks 5 none 1 24 [.ref 51, .int p, .int (nI d)] h (Qv (fun h2 => (∀ i, i < 24 → h2.1 56 i = sgF (h.1 52) p d i) ∧ ∀ c, c ≠ 56 → h2.1 c = h.1 c)) := by
  refine Ct.of (by decide) (Nat.le_of_ble_eq_true rfl) (fun Γ o ρ => ?_)
  show ca_G Γ 5 _ _ [_, _, _, _, _] _
  refine g_iconst (pc := 0) o dX10_looks_0 0 rfl ?_
  refine g_istore_n (pc := 1) o dX10_looks_1 (by decide) ?_
  show ca_G Γ 5 _ _ [_, _, _, _, _] _
  exact lp_looks o ρ (h0 := h) ok S p d hd (fun h2 a b => ⟨rfl, a, b⟩) 0 (by omega) _ h _ rfl (fun i hi => by omega) (fun c hc => rfl)
set_option maxRecDepth 100000 in
set_option maxHeartbeats 400000 in
theorem m_open {h : Mem} {s : Nat → Int32} {p : Int32} {d : Nat} (ok : ok8 s) (S : okS s) (e : ∀ i, i < 24 → h.1 56 i = sgF s p d i) (m : Nat) (hm : m < 24) : Ct yX10_open cX10_open 2 (some .int) 0 0 [.ref 51, .int (nI m)] h (Ei (opF s p d m) h) := by
  refine Ct.of (by decide) (Nat.le_of_ble_eq_true rfl) (fun Γ o ρ => ?_)
  show ca_G Γ 2 _ _ [_, _] _
  have l8 := ok.1
  have e0 := e m hm
  have e1 : opF s p d m = if latF s p (nI (100 * d + m)) (nSeen s) = -1 then 255 else jshl 1 (s (10 + 3 * ca_n (latF s p (nI (100 * d + m)) (nSeen s)))) := rfl
  unfold sgF at e0
  refine g_aload_n (pc := 0) o dX10_open_0 rfl ?_
  refine g_getR (pc := 1) o 5 rfl rfl rfl inX10 (by decide) lf_X10_22 dX10_open_1 ?_
  refine g_iload_n (pc := 4) o dX10_open_4 rfl ?_
  refine n_ialdE (pc := 5) o m (rfl) rfl ((by omega)) (by decide) (e0) dX10_open_5 ?_
  refine g_if_ge (pc := 6) o 15 dX10_open_6 (by decide) (fun c6 => ?_) (fun c6 => ?_)
  · skip
    rcases latF_c s p (nI (100 * d + m)) (nSeen s) with z | ⟨j, hj, z⟩
    · rw [if_pos z] at c6; exact absurd c6 (by decide)
    · rw [if_neg (by rw [z]; exact nI_ne_m1 (by omega))] at e1 e0
      refine g_iconst (pc := 15) o dX10_open_15 1 rfl ?_
      refine g_aload_n (pc := 16) o dX10_open_16 rfl ?_
      refine g_getR (pc := 17) o 5 rfl rfl rfl inX10 (by decide) lf_X10_22 dX10_open_17 ?_
      refine g_iload_n (pc := 20) o dX10_open_20 rfl ?_
      refine n_ialdE (pc := 21) o m (rfl) rfl ((by omega)) (by decide) (e0) dX10_open_21 ?_
      refine g_ishl (pc := 22) o dX10_open_22 ?_
      exact g_iret o ρ dX10_open_23 (Ei.mk e1.symm rfl)
  · skip
    rcases latF_c s p (nI (100 * d + m)) (nSeen s) with z | ⟨j, hj, z⟩
    · rw [if_pos z] at e1
      refine g_sipush (pc := 9) o dX10_open_9 255 rfl ?_
      refine g_goto (pc := 12) o 23 dX10_open_12 (by decide) ?_
      exact g_iret o ρ dX10_open_23 (Ei.mk e1.symm rfl)
    · obtain ⟨p2, q2, d2, m2, hp2, hq2, hd2, hm2, s1, s2, s3⟩ := S j (by omega)
      rw [if_neg (by rw [z]; exact nI_ne_m1 (by omega)), z, show ca_n (nI j) = j from nI_clamp (by omega), s2] at c6
      exact absurd ((geN _ 0 (by decide)).mpr (by rw [nI_toInt (by omega)]; omega)) c6

