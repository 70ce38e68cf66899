/-! ===== breach ===== -/
abbrev brk (s : Nat → Int32) (p : Int32) (e t : Nat) : Bool := bt (bndF s p e (nT s)) t && decide (kvF s t e = 2)
def brF (s : Nat → Int32) (p : Int32) : Nat → Nat → Option Nat
  | 0, _ => none
  | n + 1, e => if anyB (brk s p e) 12 = true then some e else brF s p n (e + 1)
theorem brF_s (s : Nat → Int32) (p : Int32) (n e : Nat) : brF s p (n + 1) e = if anyB (brk s p e) 12 = true then some e else brF s p n (e + 1) := rfl
def op_breach (p d : Int32) (σ : Sg) : Int32 × Sg := if rng p 0 5 ∧ rng d 0 29 then stV (brF (σ 0) p (30 - ca_n d) (ca_n d)) σ else fnd σ 0
theorem bnd_lt {s : Nat → Int32} {p : Int32} {d t : Nat} (ht : t < 32) : ∀ n, n ≤ 12 → bt (bndF s p d n) t = true → t < n
  | 0, _, h => by
    have h : bt 0 t = true := h
    rw [b_0] at h
    cases h
  | n + 1, hn, h => by
    rw [bndF_s] at h
    split at h
    · rw [b_or, bt_sh (by omega) ht, Bool.or_eq_true, decide_eq_true_eq] at h
      rcases h with h | h
      · have := bnd_lt ht n (by omega) h
        omega
      · omega
    · have := bnd_lt ht n (by omega) h
      omega
theorem any_nT {s : Nat → Int32} (ok : okT s) (p : Int32) (e : Nat) : anyB (brk s p e) 12 = true ↔ anyB (brk s p e) (nT s) = true := by
  have := ok.1
  rw [anyB_t, anyB_t]
  constructor
  · rintro ⟨j, hj, z⟩
    refine ⟨j, ?_, z⟩
    rw [Bool.and_eq_true] at z
    exact bnd_lt (by omega) _ ok.1 z.1
  · rintro ⟨j, hj, z⟩
    exact ⟨j, by omega, z⟩
set_option maxRecDepth 100000 in
set_option maxHeartbeats 400000 in
theorem lp_broken {Γ : Fr} (o : ca_O Γ cX9_isSomeTermBroken 5 RX9 4 97) {Pr : Option Value → Mem → Prop} (ρ : ca_R Γ (some .boolean) Pr) {h0 : Mem} {s : Nat → Int32} (B : BR h0 1 s) (I : SI s) (p : Int32) (e : Nat) (he : e < 30) (hp : ∀ h : Mem, (∀ c, c ≠ 47 → c ≠ 48 → c ≠ 49 → h.1 c = h0.1 c) → Pr (some (.int (bI (anyB (brk s p e) 12 = true)))) h) : ∀ t, t ≤ 12 → ∀ (xt : Int32) (h : Mem), xt = nI t → anyB (brk s p e) t = false → (∀ c, c ≠ 47 → c ≠ 48 → c ≠ 49 → h.1 c = h0.1 c) → ca_G Γ 5 h 16 [some (.ref 0), some (.int p), some (.int (nI e)), some (.int (bndF s p e (nT s))), some (.int xt)] [] := by
  refine downI 12 (fun t ht ih => ?_)
  rintro xt h rfl en ew
  have B2 : BR h 1 s := B.of (fun c hc => ew c (fun z => by subst z; revert hc; decide) (fun z => by subst z; revert hc; decide) (fun z => by subst z; revert hc; decide))
  refine g_iload (pc := 16) o dX9_isSomeTermBroken_16 rfl ?_
  refine g_bipush (pc := 18) o dX9_isSomeTermBroken_18 12 rfl ?_
  refine g_ic_ge (pc := 20) o 58 dX9_isSomeTermBroken_20 (by decide) (fun c20 => ?_) (fun c20 => ?_)
  · skip
    have q : t = 12 := ge8 (n := 12) (by decide) (by omega) c20
    subst q
    refine g_iconst (pc := 58) o dX9_isSomeTermBroken_58 0 rfl ?_
    exact g_zret o ρ (by first | rfl | exact bI_b) dX9_isSomeTermBroken_59 (by have := hp h ew; rw [en] at this; exact this)
  · skip
    have q : t < 12 := lt8 (n := 12) (by decide) (by omega) c20
    refine g_iload_n (pc := 23) o dX9_isSomeTermBroken_23 rfl ?_
    refine g_iload (pc := 24) o dX9_isSomeTermBroken_24 rfl ?_
    refine g_callSi (pc := 26) o (c_has (bndF s p e (nT s)) t (by omega) h) mt_X9_has ms_X9_has lk_X9_198 rfl (by decide) rfl (Nat.le_of_ble_eq_true rfl) dX9_isSomeTermBroken_26 ?_
    refine g_if_eq (pc := 29) o 52 dX9_isSomeTermBroken_29 (by decide) (fun c29 => ?_) (fun c29 => ?_)
    · skip
      have z := bI_0.mp c29
      refine g_iinc (pc := 52) o dX9_isSomeTermBroken_52 rfl 1 rfl (by decide) ?_
      show ca_G Γ 5 _ _ [_, _, _, _, _] _
      refine g_goto (pc := 55) o 16 dX9_isSomeTermBroken_55 (by decide) ?_
      exact ih q _ h (nI_1 t) (by rw [anyB_s, en]; simp [z]) ew
    · skip
      have z := bI_n0.mp c29
      refine g_aload_n (pc := 32) o dX9_isSomeTermBroken_32 rfl ?_
      refine g_getR (pc := 33) o 7 rfl rfl rfl inX9 (by decide) lf_X9_47 dX9_isSomeTermBroken_33 ?_
      refine g_aload_n (pc := 36) o dX9_isSomeTermBroken_36 rfl ?_
      refine g_getR (pc := 37) o 0 rfl rfl rfl inX9 (by decide) lf_X9_10 dX9_isSomeTermBroken_37 ?_
      refine g_iload (pc := 40) o dX9_isSomeTermBroken_40 rfl ?_
      refine g_iload_n (pc := 42) o dX9_isSomeTermBroken_42 rfl ?_
      refine g_callVQi (pc := 43) o (c_verdict B2 I t e q he) mt_X8_verdict mv_X8_verdict lk_X9_173 rfl rfl rfl (by decide) rfl (Nat.le_of_ble_eq_true rfl) dX9_isSomeTermBroken_43 ?_
      rintro r2 h2 w
      obtain ⟨rfl, w⟩ := w
      have ew2 : ∀ c, c ≠ 47 → c ≠ 48 → c ≠ 49 → h2.1 c = h0.1 c := fun c a1 a2 a3 => (w c a1 a2 a3).trans (ew c a1 a2 a3)
      refine g_iconst (pc := 46) o dX9_isSomeTermBroken_46 2 rfl ?_
      refine g_ic_ne (pc := 47) o 52 dX9_isSomeTermBroken_47 (by decide) (fun c47 => ?_) (fun c47 => ?_)
      · skip
        refine g_iinc (pc := 52) o dX9_isSomeTermBroken_52 rfl 1 rfl (by decide) ?_
        show ca_G Γ 5 _ _ [_, _, _, _, _] _
        refine g_goto (pc := 55) o 16 dX9_isSomeTermBroken_55 (by decide) ?_
        exact ih q _ h2 (nI_1 t) (by rw [anyB_s, en]; simp [c47]) ew2
      · skip
        have y : anyB (brk s p e) 12 = true := (anyB_t _ 12).mpr ⟨t, q, by simp [z, c47]⟩
        refine g_iconst (pc := 50) o dX9_isSomeTermBroken_50 1 rfl ?_
        exact g_zret o ρ (by first | rfl | exact bI_b) dX9_isSomeTermBroken_51 (by have := hp h2 ew2; rw [y] at this; exact this)
set_option maxRecDepth 100000 in
set_option maxHeartbeats 400000 in
theorem c_broken {h : Mem} {s : Nat → Int32} (B : BR h 1 s) (I : SI s) (p : Int32) (e : Nat) (he : e < 30) : Ct yX9_isSomeTermBroken cX9_isSomeTermBroken 5 (some .boolean) 4 97 [.ref 0, .int p, .int (nI e)] h (Qi (fun r h2 => r = bI (anyB (brk s p e) 12 = true) ∧ ∀ c, c ≠ 47 → c ≠ 48 → c ≠ 49 → h2.1 c = h.1 c)) := by
  refine Ct.of (by decide) (Nat.le_of_ble_eq_true rfl) (fun Γ o ρ => ?_)
  show ca_G Γ 5 _ _ [_, _, _, _, _] _
  refine g_aload_n (pc := 0) o dX9_isSomeTermBroken_0 rfl ?_
  refine g_getR (pc := 1) o 0 rfl rfl rfl inX9 (by decide) lf_X9_10 dX9_isSomeTermBroken_1 ?_
  refine g_getR (pc := 4) o 2 rfl rfl rfl inX0 (by decide) lf_X9_137 dX9_isSomeTermBroken_4 ?_
  refine g_iload_n (pc := 7) o dX9_isSomeTermBroken_7 rfl ?_
  refine g_iload_n (pc := 8) o dX9_isSomeTermBroken_8 rfl ?_
  refine g_callVi (pc := 9) o (c_binding B I.terms p e he) mt_X7_binding mv_X7_binding lk_X9_167 rfl rfl rfl (by decide) rfl (Nat.le_of_ble_eq_true rfl) dX9_isSomeTermBroken_9 ?_
  refine g_istore_n (pc := 12) o dX9_isSomeTermBroken_12 (by decide) ?_
  show ca_G Γ 5 _ _ [_, _, _, _, _] _
  refine g_iconst (pc := 13) o dX9_isSomeTermBroken_13 0 rfl ?_
  refine g_istore (pc := 14) o dX9_isSomeTermBroken_14 (by decide) ?_
  show ca_G Γ 5 _ _ [_, _, _, _, _] _
  exact lp_broken o ρ (h0 := h) B I p e he (fun h2 w => ⟨_, rfl, rfl, w⟩) 0 (by omega) _ h rfl rfl (fun c _ _ _ => rfl)
set_option maxRecDepth 100000 in
set_option maxHeartbeats 400000 in
theorem lp_breach {Γ : Fr} (o : ca_O Γ cX9_breach 4 RX9 5 121) {h0 : Mem} {σ : Sg} (C : CR h0 σ) (I : SI (σ 0)) (p x2 : Int32) (z : Option Nat) (ρ : ca_R Γ (some .int) (Po h0 (stV z σ))) : ∀ e, e ≤ 30 → ∀ (xe : Int32) (h : Mem), xe = nI e → brF (σ 0) p (30 - e) e = z → (∀ c, c ≠ 47 → c ≠ 48 → c ≠ 49 → h.1 c = h0.1 c) → ca_G Γ 4 h 22 [some (.ref 0), some (.int p), some (.int x2), some (.int xe)] [] := by
  refine downI 30 (fun e he ih => ?_)
  rintro xe h rfl ez ew
  have C2 : CR h σ := CR_tr C ew
  refine g_iload_n (pc := 22) o dX9_breach_22 rfl ?_
  refine g_bipush (pc := 23) o dX9_breach_23 30 rfl ?_
  refine g_ic_ge (pc := 25) o 45 dX9_breach_25 (by decide) (fun c25 => ?_) (fun c25 => ?_)
  · skip
    have q : e = 30 := ge8 (n := 30) (by decide) (by omega) c25
    subst q
    have ez : none = z := ez
    subst ez
    refine g_aload_n (pc := 45) o dX9_breach_45 rfl ?_
    refine g_iconst (pc := 46) o dX9_breach_46 3 rfl ?_
    refine g_callVi (pc := 47) o (c_finding 3 (by decide) h) mt_X9_finding mv_X9_finding lk_X9_58 rfl rfl rfl (by decide) rfl (Nat.le_of_ble_eq_true rfl) dX9_breach_47 ?_
    exact g_iret o ρ dX9_breach_50 (Po_fnd2 C2 (kM_tr ew) (by decide))
  · skip
    have q : e < 30 := lt8 (n := 30) (by decide) (by omega) c25
    rw [show 30 - e = (30 - (e + 1)) + 1 by omega, brF_s] at ez
    refine g_aload_n (pc := 28) o dX9_breach_28 rfl ?_
    refine g_iload_n (pc := 29) o dX9_breach_29 rfl ?_
    refine g_iload_n (pc := 30) o dX9_breach_30 rfl ?_
    refine g_callVQi (pc := 31) o (c_broken C2.1 I p e q) mt_X9_isSomeTermBroken mv_X9_isSomeTermBroken lk_X9_177 rfl rfl rfl (by decide) rfl (Nat.le_of_ble_eq_true rfl) dX9_breach_31 ?_
    rintro r2 h2 w
    obtain ⟨rfl, w⟩ := w
    have ew2 : ∀ c, c ≠ 47 → c ≠ 48 → c ≠ 49 → h2.1 c = h0.1 c := fun c a1 a2 a3 => (w c a1 a2 a3).trans (ew c a1 a2 a3)
    refine g_if_eq (pc := 34) o 39 dX9_breach_34 (by decide) (fun c34 => ?_) (fun c34 => ?_)
    · skip
      rw [if_neg (bI_0.mp c34)] at ez
      refine g_iinc (pc := 39) o dX9_breach_39 rfl 1 rfl (by decide) ?_
      show ca_G Γ 4 _ _ [_, _, _, _] _
      refine g_goto (pc := 42) o 22 dX9_breach_42 (by decide) ?_
      exact ih q _ h2 (nI_1 e) ez ew2
    · skip
      rw [if_pos (bI_n0.mp c34)] at ez
      subst ez
      refine g_iload_n (pc := 37) o dX9_breach_37 rfl ?_
      exact g_iret o ρ dX9_breach_38 (Po.mk rfl (CR_tr C ew2) (kM_tr ew2))
set_option maxRecDepth 100000 in
set_option maxHeartbeats 400000 in
theorem co_breach {h : Mem} {σ : Sg} (C : CR h σ) (I : Iv σ) (a b : Int32) : Ct yX9_breach cX9_breach 4 (some .int) 5 121 [.ref 0, .int a, .int b] h (Po h (op_breach a b σ)) := by
  refine Ct.of (by decide) (Nat.le_of_ble_eq_true rfl) (fun Γ o ρ => ?_)
  show ca_G Γ 4 _ _ [_, _, _, _] _
  refine g_iload_n (pc := 0) o dX9_breach_0 rfl ?_
  refine g_callSi (pc := 1) o (c_isPerson a h) mt_X9_isPerson ms_X9_isPerson lk_X9_83 rfl (by decide) rfl (Nat.le_of_ble_eq_true rfl) dX9_breach_1 ?_
  refine g_if_eq (pc := 4) o 14 dX9_breach_4 (by decide) (fun c4 => ?_) (fun c4 => ?_)
  · skip
    refine g_aload_n (pc := 14) o dX9_breach_14 rfl ?_
    refine g_iconst (pc := 15) o dX9_breach_15 0 rfl ?_
    refine g_callVi (pc := 16) o (c_finding 0 (by decide) h) mt_X9_finding mv_X9_finding lk_X9_58 rfl rfl rfl (by decide) rfl (Nat.le_of_ble_eq_true rfl) dX9_breach_16 ?_
    exact g_iret o ρ dX9_breach_19 (Po.eq (if_neg (fun z => bI_0.mp c4 z.1)) (Po_fnd C (by decide)))
  · skip
    refine g_iload_n (pc := 7) o dX9_breach_7 rfl ?_
    refine g_callSi (pc := 8) o (c_isDay b h) mt_X9_isDay ms_X9_isDay lk_X9_126 rfl (by decide) rfl (Nat.le_of_ble_eq_true rfl) dX9_breach_8 ?_
    refine g_if_ne (pc := 11) o 20 dX9_breach_11 (by decide) (fun c11 => ?_) (fun c11 => ?_)
    · skip
      have k1 := bI_n0.mp c4
      have k2 := bI_n0.mp c11
      have eq : op_breach a b σ = stV (brF (σ 0) a (30 - ca_n b) (ca_n b)) σ := if_pos ⟨k1, k2⟩
      rw [eq] at ρ
      obtain ⟨d, hd, rfl, ed⟩ := n_of (x := b) (b := 29) k2 (by decide)
      rw [ed] at ρ
      refine g_iload_n (pc := 20) o dX9_breach_20 rfl ?_
      refine g_istore_n (pc := 21) o dX9_breach_21 (by decide) ?_
      show ca_G Γ 4 _ _ [_, _, _, _] _
      exact lp_breach o (h0 := h) C I.1 a _ _ ρ d (by omega) _ h rfl rfl (fun c _ _ _ => rfl)
    · skip
      refine g_aload_n (pc := 14) o dX9_breach_14 rfl ?_
      refine g_iconst (pc := 15) o dX9_breach_15 0 rfl ?_
      refine g_callVi (pc := 16) o (c_finding 0 (by decide) h) mt_X9_finding mv_X9_finding lk_X9_58 rfl rfl rfl (by decide) rfl (Nat.le_of_ble_eq_true rfl) dX9_breach_16 ?_
      exact g_iret o ρ dX9_breach_19 (Po.eq (if_neg (fun z => bI_0.mp c11 z.2)) (Po_fnd C (by decide)))
set_option maxRecDepth 100000 in
set_option maxHeartbeats 400000 in
theorem lp_mbr {Γ : Fr} (o : ca_O Γ cX10_breach 6 RX10 4 108) {Pr : Option Value → Mem → Prop} (ρ : ca_R Γ (some .int) Pr) {h0 : Mem} (I : SI (h0.1 52)) (p x2 : Int32) (e : Nat) (he : e < 30) (hp : anyB (brk (h0.1 52) p e) 12 = true → ∀ h : Mem, (∀ c, c ≠ 56 → h.1 c = h0.1 c) → Pr (some (.int (nI e))) h) (kk : anyB (brk (h0.1 52) p e) 12 = false → ∀ (h : Mem) (v : Option Value), (∀ c, c ≠ 56 → h.1 c = h0.1 c) → ca_G Γ 6 h 23 [some (.ref 51), some (.int p), some (.int x2), some (.int (nI (e + 1))), some (.int (bndF (h0.1 52) p e (nT (h0.1 52)))), v] []) : ∀ t, t ≤ nT (h0.1 52) → ∀ (xt : Int32) (h : Mem), xt = nI t → anyB (brk (h0.1 52) p e) t = false → (∀ c, c ≠ 56 → h.1 c = h0.1 c) → ca_G Γ 6 h 40 [some (.ref 51), some (.int p), some (.int x2), some (.int (nI e)), some (.int (bndF (h0.1 52) p e (nT (h0.1 52)))), some (.int xt)] [] := by
  have ok : okT (h0.1 52) := I.terms
  have l12 := ok.1
  refine downI (nT (h0.1 52)) (fun t ht ih => ?_)
  rintro xt h rfl en ew
  have e52 : h.1 52 = h0.1 52 := ew 52 (by decide)
  have e189 : h.1 52 189 = nI (nT (h0.1 52)) := by rw [e52]; exact ok.2.1
  refine g_iload (pc := 40) o dX10_breach_40 rfl ?_
  refine g_aload_n (pc := 42) o dX10_breach_42 rfl ?_
  refine g_getR (pc := 43) o 0 rfl rfl rfl inX10 (by decide) lf_X10_7 dX10_breach_43 ?_
  refine g_sipush (pc := 46) o dX10_breach_46 189 rfl ?_
  refine n_ialdE (pc := 49) o 189 (rfl) rfl ((by omega)) (by decide) (e189) dX10_breach_49 ?_
  refine g_ic_ge (pc := 50) o 82 dX10_breach_50 (by decide) (fun c50 => ?_) (fun c50 => ?_)
  · skip
    have q : t = nT (h0.1 52) := ge8 (n := nT (h0.1 52)) (by omega) (by omega) c50
    subst q
    have y : anyB (brk (h0.1 52) p e) 12 = false := by
      cases w : anyB (brk (h0.1 52) p e) 12 with
      | false => rfl
      | true => rw [(any_nT ok p e).mp w] at en; cases en
    refine g_iinc (pc := 82) o dX10_breach_82 rfl 1 rfl (by decide) ?_
    show ca_G Γ 6 _ _ [_, _, _, _, _, _] _
    refine g_goto (pc := 85) o 23 dX10_breach_85 (by decide) ?_
    rw [show nI e + 1 = nI (e + 1) from nI_1 e]
    exact kk y h _ ew
  · skip
    have q : t < nT (h0.1 52) := lt8 (n := nT (h0.1 52)) (by omega) (by omega) c50
    have ck := m_keptOf (h := h) (by rw [e52]; exact I.seen) (by rw [e52]; exact I.see) (by rw [e52]; exact I.tm) t e (by omega) he
    rw [e52] at ck
    refine g_iload (pc := 53) o dX10_breach_53 rfl ?_
    refine g_iload (pc := 55) o dX10_breach_55 rfl ?_
    refine g_callSi (pc := 57) o (m_has (bndF (h0.1 52) p e (nT (h0.1 52))) t (by omega) h) mt_X10_has ms_X10_has lk_X10_90 rfl (by decide) rfl (Nat.le_of_ble_eq_true rfl) dX10_breach_57 ?_
    refine g_if_eq (pc := 60) o 76 dX10_breach_60 (by decide) (fun c60 => ?_) (fun c60 => ?_)
    · skip
      have z := bI_0.mp c60
      refine g_iinc (pc := 76) o dX10_breach_76 rfl 1 rfl (by decide) ?_
      show ca_G Γ 6 _ _ [_, _, _, _, _, _] _
      refine g_goto (pc := 79) o 40 dX10_breach_79 (by decide) ?_
      exact ih q _ h (nI_1 t) (by rw [anyB_s, en]; simp [z]) ew
    · skip
      have z := bI_n0.mp c60
      refine g_aload_n (pc := 63) o dX10_breach_63 rfl ?_
      refine g_iload (pc := 64) o dX10_breach_64 rfl ?_
      refine g_iload_n (pc := 66) o dX10_breach_66 rfl ?_
      refine g_callVQi (pc := 67) o (ck) mt_X10_keptOf mv_X10_keptOf lk_X10_170 rfl rfl rfl (by decide) rfl (Nat.le_of_ble_eq_true rfl) dX10_breach_67 ?_
      rintro r2 h2 w
      obtain ⟨rfl, w⟩ := w
      have ew2 : ∀ c, c ≠ 56 → h2.1 c = h0.1 c := fun c a1 => (w c a1).trans (ew c a1)
      refine g_iconst (pc := 70) o dX10_breach_70 2 rfl ?_
      refine g_ic_ne (pc := 71) o 76 dX10_breach_71 (by decide) (fun c71 => ?_) (fun c71 => ?_)
      · skip
        refine g_iinc (pc := 76) o dX10_breach_76 rfl 1 rfl (by decide) ?_
        show ca_G Γ 6 _ _ [_, _, _, _, _, _] _
        refine g_goto (pc := 79) o 40 dX10_breach_79 (by decide) ?_
        exact ih q _ h2 (nI_1 t) (by rw [anyB_s, en]; simp [c71]) ew2
      · skip
        have y : anyB (brk (h0.1 52) p e) 12 = true := (anyB_t _ 12).mpr ⟨t, by omega, by simp [z, c71]⟩
        refine g_iload_n (pc := 74) o dX10_breach_74 rfl ?_
        exact g_iret o ρ dX10_breach_75 (hp y h2 ew2)
set_option maxRecDepth 100000 in
set_option maxHeartbeats 400000 in
theorem lp_mbreach {Γ : Fr} (o : ca_O Γ cX10_breach 6 RX10 4 108) {h0 : Mem} (I : SI (h0.1 52)) (p x2 : Int32) (z : Option Nat) (ρ : ca_R Γ (some .int) (Pm h0 (stV z (absM h0)))) : ∀ e, e ≤ 30 → ∀ (xe : Int32) (h : Mem) (v4 v5 : Option Value), xe = nI e → brF (h0.1 52) p (30 - e) e = z → (∀ c, c ≠ 56 → h.1 c = h0.1 c) → ca_G Γ 6 h 23 [some (.ref 51), some (.int p), some (.int x2), some (.int xe), v4, v5] [] := by
  refine downI 30 (fun e he ih => ?_)
  rintro xe h v4 v5 rfl ez ew
  have e52 : h.1 52 = h0.1 52 := ew 52 (by decide)
  refine g_iload_n (pc := 23) o dX10_breach_23 rfl ?_
  refine g_bipush (pc := 24) o dX10_breach_24 30 rfl ?_
  refine g_ic_ge (pc := 26) o 88 dX10_breach_26 (by decide) (fun c26 => ?_) (fun c26 => ?_)
  · skip
    have q : e = 30 := ge8 (n := 30) (by decide) (by omega) c26
    subst q
    have ez : none = z := ez
    subst ez
    refine g_aload_n (pc := 88) o dX10_breach_88 rfl ?_
    refine g_ldc (pc := 89) o dX10_breach_89 lc_X10_97 ?_
    refine g_callVi (pc := 91) o (m_finds 3 (by decide) h) mt_X10_finds mv_X10_finds lk_X10_86 rfl rfl rfl (by decide) rfl (Nat.le_of_ble_eq_true rfl) dX10_breach_91 ?_
    exact g_iret o ρ dX10_breach_94 (Pm_fnd (abs_56 ew) (kC_56 ew) (by decide))
  · skip
    have q : e < 30 := lt8 (n := 30) (by decide) (by omega) c26
    rw [show 30 - e = (30 - (e + 1)) + 1 by omega, brF_s] at ez
    have ci := m_inForceOf (h := h) (by rw [e52]; exact I.terms) p e q
    rw [e52] at ci
    refine g_aload_n (pc := 29) o dX10_breach_29 rfl ?_
    refine g_iload_n (pc := 30) o dX10_breach_30 rfl ?_
    refine g_iload_n (pc := 31) o dX10_breach_31 rfl ?_
    refine g_callVi (pc := 32) o (ci) mt_X10_inForceOf mv_X10_inForceOf lk_X10_160 rfl rfl rfl (by decide) rfl (Nat.le_of_ble_eq_true rfl) dX10_breach_32 ?_
    refine g_istore (pc := 35) o dX10_breach_35 (by decide) ?_
    show ca_G Γ 6 _ _ [_, _, _, _, _, _] _
    refine g_iconst (pc := 37) o dX10_breach_37 0 rfl ?_
    refine g_istore (pc := 38) o dX10_breach_38 (by decide) ?_
    show ca_G Γ 6 _ _ [_, _, _, _, _, _] _
    refine lp_mbr o ρ (h0 := h0) I p x2 e q (fun y h2 w => ?_) (fun y h2 v w => ?_) 0 (by omega) _ h rfl rfl ew
    · rw [if_pos y] at ez
      subst ez
      exact Pm.mk rfl (abs_56 w) (kC_56 w)
    · rw [if_neg (by rw [y]; decide)] at ez
      exact ih q _ h2 _ v rfl ez w
set_option maxRecDepth 100000 in
set_option maxHeartbeats 400000 in
theorem mo_breach {h : Mem} (I : Iv (absM h)) (a b : Int32) : Ct yX10_breach cX10_breach 6 (some .int) 4 108 [.ref 51, .int a, .int b] h (Pm h (op_breach a b (absM h))) := by
  refine Ct.of (by decide) (Nat.le_of_ble_eq_true rfl) (fun Γ o ρ => ?_)
  show ca_G Γ 6 _ _ [_, _, _, _, _, _] _
  refine g_iload_n (pc := 0) o dX10_breach_0 rfl ?_
  refine g_callSi (pc := 1) o (m_isPerson a h) mt_X10_isPerson ms_X10_isPerson lk_X10_98 rfl (by decide) rfl (Nat.le_of_ble_eq_true rfl) dX10_breach_1 ?_
  refine g_if_eq (pc := 4) o 14 dX10_breach_4 (by decide) (fun c4 => ?_) (fun c4 => ?_)
  · skip
    refine g_aload_n (pc := 14) o dX10_breach_14 rfl ?_
    refine g_ldc (pc := 15) o dX10_breach_15 lc_X10_68 ?_
    refine g_callVi (pc := 17) o (m_finds 0 (by decide) h) mt_X10_finds mv_X10_finds lk_X10_86 rfl rfl rfl (by decide) rfl (Nat.le_of_ble_eq_true rfl) dX10_breach_17 ?_
    exact g_iret o ρ dX10_breach_20 (Pm.eq (if_neg (fun z => bI_0.mp c4 z.1)) (Pm_fnd rfl (kC.rf h) (by decide)))
  · skip
    refine g_iload_n (pc := 7) o dX10_breach_7 rfl ?_
    refine g_callSi (pc := 8) o (m_isDay b h) mt_X10_isDay ms_X10_isDay lk_X10_122 rfl (by decide) rfl (Nat.le_of_ble_eq_true rfl) dX10_breach_8 ?_
    refine g_if_ne (pc := 11) o 21 dX10_breach_11 (by decide) (fun c11 => ?_) (fun c11 => ?_)
    · skip
      have k1 := bI_n0.mp c4
      have k2 := bI_n0.mp c11
      have eq : op_breach a b (absM h) = stV (brF (h.1 52) a (30 - ca_n b) (ca_n b)) (absM h) := if_pos ⟨k1, k2⟩
      rw [eq] at ρ
      obtain ⟨d, hd, rfl, ed⟩ := n_of (x := b) (b := 29) k2 (by decide)
      rw [ed] at ρ
      refine g_iload_n (pc := 21) o dX10_breach_21 rfl ?_
      refine g_istore_n (pc := 22) o dX10_breach_22 (by decide) ?_
      show ca_G Γ 6 _ _ [_, _, _, _, _, _] _
      exact lp_mbreach o (h0 := h) I.1 a _ _ ρ d (by omega) _ h _ _ rfl rfl (fun c _ => rfl)

    · skip
      refine g_aload_n (pc := 14) o dX10_breach_14 rfl ?_
      refine g_ldc (pc := 15) o dX10_breach_15 lc_X10_68 ?_
      refine g_callVi (pc := 17) o (m_finds 0 (by decide) h) mt_X10_finds mv_X10_finds lk_X10_86 rfl rfl rfl (by decide) rfl (Nat.le_of_ble_eq_true rfl) dX10_breach_17 ?_
      exact g_iret o ρ dX10_breach_20 (Pm.eq (if_neg (fun z => bI_0.mp c11 z.2)) (Pm_fnd rfl (kC.rf h) (by decide)))
