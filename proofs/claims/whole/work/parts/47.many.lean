/-! ===== how many ways there are ===== -/
def capF (x : Nat) : Nat := min x 1000000
theorem cap_le (x : Nat) : capF x ≤ 1000000 := by unfold capF; omega
theorem cap_0 : capF 0 = 0 := rfl
theorem cap_a2 {x y : Nat} (a : Nat) (h : capF x = capF y) : capF (capF a + x) = capF (a + y) := by unfold capF at *; omega
theorem cap_sm (f : Nat → Nat) : ∀ n, capF (smF (fun r => capF (f r)) n) = capF (smF f n)
  | 0 => rfl
  | n + 1 => by
    have ih := cap_sm f n
    rw [smF_s, smF_s]
    unfold capF at *
    omega
theorem sm_le {f : Nat → Nat} {k : Nat} : ∀ n, (∀ r, r < n → f r ≤ k) → smF f n ≤ n * k
  | 0, _ => Nat.zero_le _
  | n + 1, h => by
    have ih := sm_le n (fun r hr => h r (by omega))
    have := h n (by omega)
    rw [smF_s, Nat.add_mul, Nat.one_mul]
    omega
theorem sm_z {f : Nat → Nat} (n : Nat) (h : ∀ r, r < n → f r = 0) : smF f n = 0 := by
  rw [smF_c n h, smF_0]
theorem sm_nz {f : Nat → Nat} : ∀ n, ¬ smF f n = 0 → ∃ r, r < n ∧ ¬ f r = 0
  | 0, h => absurd rfl h
  | n + 1, h => by
    by_cases w : f n = 0
    · rw [smF_s, w] at h
      obtain ⟨r, hr, e⟩ := sm_nz n h
      exact ⟨r, by omega, e⟩
    · exact ⟨n, by omega, w⟩
theorem fw_rch {A : Au} {N : Nat} : ∀ m c q, ¬ fwF A N m c q = 0 → RCH A m c q
  | 0, c, q, h => by
    have h : ¬ (if bt (A.lw 0) q = true ∧ A.nx A.c0 0 q = c then 1 else 0) = 0 := h
    by_cases z : bt (A.lw 0) q = true ∧ A.nx A.c0 0 q = c
    · exact z
    · rw [if_neg z] at h; exact absurd rfl h
  | m + 1, c, q, h => by
    rw [fwF_s] at h
    obtain ⟨c1, _, h⟩ := sm_nz _ h
    obtain ⟨r, hr, h⟩ := sm_nz _ h
    by_cases z : okA A (m + 1) r q ∧ A.nx c1 (m + 1) q = c
    · rw [if_pos z] at h
      exact ⟨c1, r, hr, fw_rch m c1 r h, z.1, z.2⟩
    · rw [if_neg z] at h; exact absurd rfl h
theorem ad_sy {s : Nat → Int32} (I : SI s) {q r : Nat} (hq : q < 8) (hr : r < 8) : ad s q r ↔ ad s r q := by
  constructor
  · rintro (h | h)
    · exact Or.inl h.symm
    · exact Or.inr (I.1 q r hq (by omega) h).2.2
  · rintro (h | h)
    · exact Or.inl h.symm
    · exact Or.inr (I.1 r q hr (by omega) h).2.2
theorem min_N (x : Nat) (hx : x < 2 ^ 31) : (if (1000000 : Int32) < nI x then (1000000 : Int32) else nI x) = nI (capF x) := by
  have e : (1000000 : Int32) = nI 1000000 := rfl
  rw [e]
  unfold capF
  by_cases w : 1000000 < x
  · rw [if_pos ((nI_ltI (by decide) hx).mpr w), Nat.min_eq_right (by omega)]
  · rw [if_neg (fun y => w ((nI_ltI (by decide) hx).mp y)), Nat.min_eq_left (by omega)]
theorem ix8 (a b : Nat) : nI a * nI 8 + nI b = nI (8 * a + b) := by rw [ix, Nat.mul_comm]
set_option maxRecDepth 100000 in
set_option maxHeartbeats 400000 in
theorem c_isAllowed {h : Mem} {s : Nat → Int32} {p : Int32} {d : Nat} {X : Int32} (P : PR h s p d X) (m q : Nat) (hm : m < 24) (hq : q < 32) : Ct yX1_isAllowed cX1_isAllowed 3 (some .boolean) 1 21 [.ref 38, .int (nI m), .int (nI q)] h (Ei (bI (bt ((auC s p d X).lw m) q = true)) h) := by
  refine Ct.of (by decide) (Nat.le_of_ble_eq_true rfl) (fun Γ o ρ => ?_)
  show ca_G Γ 3 _ _ [_, _, _] _
  refine g_aload_n (pc := 0) o dX1_isAllowed_0 rfl ?_
  refine g_getR (pc := 1) o 0 rfl rfl rfl inX1 (by decide) lf_X1_9 dX1_isAllowed_1 ?_
  refine g_iload_n (pc := 4) o dX1_isAllowed_4 rfl ?_
  refine n_ialdE (pc := 5) o m (rfl) rfl ((by omega)) (by decide) (P.1 m hm) dX1_isAllowed_5 ?_
  refine g_iload_n (pc := 6) o dX1_isAllowed_6 rfl ?_
  refine g_callNi (pc := 7) o (c_has (lwF s p d X m 12) q hq h) mt_X9_has ms_X9_has ln_X1_66 rfl (by decide) rfl (Nat.le_of_ble_eq_true rfl) dX1_isAllowed_7 ?_
  exact g_zret o ρ (by first | rfl | exact bI_b) dX1_isAllowed_10 (Ei.mk rfl rfl)
set_option maxRecDepth 100000 in
set_option maxHeartbeats 400000 in
theorem lp_clr {Γ : Fr} (o : ca_O Γ cX1_clearNext 3 RX1 0 0) {Pr : Option Value → Mem → Prop} (ρ : ca_R Γ none Pr) {h0 : Mem} (E : Nat) (hE : E ≤ 8192) (hp : ∀ h : Mem, (∀ j, j < E → h.1 45 j = 0) → (∀ c, c ≠ 45 → h.1 c = h0.1 c) → Pr none h) : ∀ i, i ≤ E → ∀ (xi : Int32) (h : Mem), xi = nI i → (∀ j, j < i → h.1 45 j = 0) → (∀ c, c ≠ 45 → h.1 c = h0.1 c) → ca_G Γ 3 h 2 [some (.ref 38), some (.int (nI E)), some (.int xi)] [] := by
  refine downI E (fun i hi ih => ?_)
  rintro xi h rfl e1 e2
  refine g_iload_n (pc := 2) o dX1_clearNext_2 rfl ?_
  refine g_iload_n (pc := 3) o dX1_clearNext_3 rfl ?_
  refine g_ic_ge (pc := 4) o 20 dX1_clearNext_4 (by decide) (fun c4 => ?_) (fun c4 => ?_)
  · skip
    have q : i = E := ge8 (n := E) (by omega) (by omega) c4
    subst q
    exact g_vret o ρ dX1_clearNext_20 (hp h e1 e2)
  · skip
    have q : i < E := lt8 (n := E) (by omega) (by omega) c4
    refine g_aload_n (pc := 7) o dX1_clearNext_7 rfl ?_
    refine g_getR (pc := 8) o 6 rfl rfl rfl inX1 (by decide) lf_X1_31 dX1_clearNext_8 ?_
    refine g_iload_n (pc := 11) o dX1_clearNext_11 rfl ?_
    refine g_iconst (pc := 12) o dX1_clearNext_12 0 rfl ?_
    refine n_iast (pc := 13) o i (rfl) rfl ((by omega)) (by decide) dX1_clearNext_13 ?_
    refine g_iinc (pc := 14) o dX1_clearNext_14 rfl 1 rfl (by decide) ?_
    show ca_G Γ 3 _ _ [_, _, _] _
    refine g_goto (pc := 17) o 2 dX1_clearNext_17 (by decide) ?_
    refine ih q _ _ (nI_1 i) (fun j hj => ?_) (fun c hc => (mw_ne _ _ _ hc).trans (e2 c hc))
    rw [mw_same]
    unfold upd
    by_cases w : j = i
    · rw [if_pos w]
    · rw [if_neg w]; exact e1 j (by omega)
set_option maxRecDepth 100000 in
set_option maxHeartbeats 400000 in
theorem c_clear {h : Mem} (E : Nat) (hE : E ≤ 8192) : Ct yX1_clearNext cX1_clearNext 3 none 0 0 [.ref 38, .int (nI E)] h (Qv (fun h2 => (∀ j, j < E → h2.1 45 j = 0) ∧ ∀ c, c ≠ 45 → h2.1 c = h.1 c)) := by
  refine Ct.of (by decide) (Nat.le_of_ble_eq_true rfl) (fun Γ o ρ => ?_)
  show ca_G Γ 3 _ _ [_, _, _] _
  refine g_iconst (pc := 0) o dX1_clearNext_0 0 rfl ?_
  refine g_istore_n (pc := 1) o dX1_clearNext_1 (by decide) ?_
  show ca_G Γ 3 _ _ [_, _, _] _
  exact lp_clr o ρ (h0 := h) E hE (fun h2 a b => ⟨rfl, a, b⟩) 0 (by omega) _ h rfl (fun j hj => by omega) (fun c _ => rfl)
set_option maxRecDepth 100000 in
set_option maxHeartbeats 400000 in
theorem lp_lto {Γ : Fr} (o : ca_O Γ cX1_leadingTo 5 RX1 1 21) {Pr : Option Value → Mem → Prop} (ρ : ca_R Γ (some .int) Pr) {h : Mem} {s : Nat → Int32} (D q : Nat) (hD : D < 1024) (hq : q < 8) (e40 : h.1 40 q = stpF s q) (f : Nat → Nat) (e44 : ∀ r, r < 8 → h.1 44 (8 * D + r) = nI (f r)) (hp : Pr (some (.int (nI (smF (fun r => if ad s q r then f r else 0) 8)))) h) : ∀ i, i ≤ 8 → ∀ (xi y : Int32), xi = nI i → y = nI (smF (fun r => if ad s q r then f r else 0) i) → ca_G Γ 5 h 5 [some (.ref 38), some (.int (nI D)), some (.int (nI q)), some (.int y), some (.int xi)] [] := by
  refine downI 8 (fun i hi ih => ?_)
  rintro xi y rfl rfl
  refine g_iload (pc := 5) o dX1_leadingTo_5 rfl ?_
  refine g_bipush (pc := 7) o dX1_leadingTo_7 8 rfl ?_
  refine g_ic_ge (pc := 9) o 47 dX1_leadingTo_9 (by decide) (fun c9 => ?_) (fun c9 => ?_)
  · skip
    have z : i = 8 := ge8 (n := 8) (by decide) (by omega) c9
    subst z
    refine g_iload_n (pc := 47) o dX1_leadingTo_47 rfl ?_
    exact g_iret o ρ dX1_leadingTo_48 hp
  · skip
    have iq : i < 8 := lt8 (n := 8) (by decide) (by omega) c9
    refine g_aload_n (pc := 12) o dX1_leadingTo_12 rfl ?_
    refine g_getR (pc := 13) o 1 rfl rfl rfl inX1 (by decide) lf_X1_15 dX1_leadingTo_13 ?_
    refine g_iload_n (pc := 16) o dX1_leadingTo_16 rfl ?_
    refine n_ialdE (pc := 17) o q (rfl) rfl ((by omega)) (by decide) (e40) dX1_leadingTo_17 ?_
    refine g_iload (pc := 18) o dX1_leadingTo_18 rfl ?_
    refine g_callNi (pc := 20) o (c_has (stpF s q) i (by omega) h) mt_X9_has ms_X9_has ln_X1_66 rfl (by decide) rfl (Nat.le_of_ble_eq_true rfl) dX1_leadingTo_20 ?_
    refine g_if_eq (pc := 23) o 41 dX1_leadingTo_23 (by decide) (fun c23 => ?_) (fun c23 => ?_)
    · skip
      have u := bI_0.mp c23
      refine g_iinc (pc := 41) o dX1_leadingTo_41 rfl 1 rfl (by decide) ?_
      show ca_G Γ 5 _ _ [_, _, _, _, _] _
      refine g_goto (pc := 44) o 5 dX1_leadingTo_44 (by decide) ?_
      exact ih iq _ _ (nI_1 i) (by rw [smF_s, if_neg (fun v => u ((stp_b hq (by omega)).mpr v)), Nat.add_zero])
    · skip
      have u := (stp_b hq (by omega)).mp (bI_n0.mp c23)
      refine g_iload_n (pc := 26) o dX1_leadingTo_26 rfl ?_
      refine g_aload_n (pc := 27) o dX1_leadingTo_27 rfl ?_
      refine g_getR (pc := 28) o 5 rfl rfl rfl inX1 (by decide) lf_X1_28 dX1_leadingTo_28 ?_
      refine g_iload_n (pc := 31) o dX1_leadingTo_31 rfl ?_
      refine g_bipush (pc := 32) o dX1_leadingTo_32 8 rfl ?_
      refine g_imul (pc := 34) o dX1_leadingTo_34 ?_
      refine g_iload (pc := 35) o dX1_leadingTo_35 rfl ?_
      refine g_iadd (pc := 37) o dX1_leadingTo_37 ?_
      rw [show nI D * 8 + nI i = nI (8 * D + i) from ix8 D i]
      refine n_ialdE (pc := 38) o (8 * D + i) (rfl) rfl ((by omega)) (by decide) (e44 i iq) dX1_leadingTo_38 ?_
      refine g_iadd (pc := 39) o dX1_leadingTo_39 ?_
      refine g_istore_n (pc := 40) o dX1_leadingTo_40 (by decide) ?_
      show ca_G Γ 5 _ _ [_, _, _, _, _] _
      refine g_iinc (pc := 41) o dX1_leadingTo_41 rfl 1 rfl (by decide) ?_
      show ca_G Γ 5 _ _ [_, _, _, _, _] _
      refine g_goto (pc := 44) o 5 dX1_leadingTo_44 (by decide) ?_
      exact ih iq _ _ (nI_1 i) (by rw [smF_s, if_pos u]; exact nI_add _ _)
set_option maxRecDepth 100000 in
set_option maxHeartbeats 400000 in
theorem c_leadingTo {h : Mem} {s : Nat → Int32} (D q : Nat) (hD : D < 1024) (hq : q < 8) (e40 : h.1 40 q = stpF s q) (f : Nat → Nat) (e44 : ∀ r, r < 8 → h.1 44 (8 * D + r) = nI (f r)) : Ct yX1_leadingTo cX1_leadingTo 5 (some .int) 1 21 [.ref 38, .int (nI D), .int (nI q)] h (Ei (nI (smF (fun r => if ad s q r then f r else 0) 8)) h) := by
  refine Ct.of (by decide) (Nat.le_of_ble_eq_true rfl) (fun Γ o ρ => ?_)
  show ca_G Γ 5 _ _ [_, _, _, _, _] _
  refine g_iconst (pc := 0) o dX1_leadingTo_0 0 rfl ?_
  refine g_istore_n (pc := 1) o dX1_leadingTo_1 (by decide) ?_
  show ca_G Γ 5 _ _ [_, _, _, _, _] _
  refine g_iconst (pc := 2) o dX1_leadingTo_2 0 rfl ?_
  refine g_istore (pc := 3) o dX1_leadingTo_3 (by decide) ?_
  show ca_G Γ 5 _ _ [_, _, _, _, _] _
  exact lp_lto o ρ D q hD hq e40 f e44 ⟨rfl, rfl⟩ 0 (by omega) _ _ rfl rfl
abbrev tmS (A : Au) (M D : Nat) (f : Nat → Nat) (c q : Nat) : Nat := smF (fun r => if okA A M r q ∧ A.nx D M q = c then f r else 0) 8
set_option maxRecDepth 100000 in
set_option maxHeartbeats 800000 in
theorem lp_lon {Γ : Fr} (o : ca_O Γ cX1_leadOn 5 RX1 2 45) {Pr : Option Value → Mem → Prop} (ρ : ca_R Γ none Pr) {h0 : Mem} {s : Nat → Int32} (I : SI s) {p : Int32} {d : Nat} {X : Int32} (h5 : akN s X 12 ≤ 5) (P : PR h0 s p d X) (N : Nat) (hN : N < mlF (rxC s X) 12) (M D : Nat) (hM : M < 24) (hD : D ≤ N) (f : Nat → Nat) (e44 : ∀ r, r < 8 → h0.1 44 (8 * D + r) = nI (capF (f r))) (g : Nat → Nat → Nat) (hp : ∀ h : Mem, (∀ c q, c ≤ N → q < 8 → h.1 45 (8 * c + q) = nI (capF (g c q + tmS (auC s p d X) M D f c q))) → (∀ c, c ≠ 45 → h.1 c = h0.1 c) → Pr none h) : ∀ i, i ≤ 8 → ∀ (xi : Int32) (h : Mem) (v4 : Option Value), xi = nI i → (∀ c q, c ≤ N → q < 8 → h.1 45 (8 * c + q) = nI (capF (g c q + (if q < i then tmS (auC s p d X) M D f c q else 0)))) → (∀ c, c ≠ 45 → h.1 c = h0.1 c) → ca_G Γ 5 h 2 [some (.ref 38), some (.int (nI M)), some (.int (nI D)), some (.int xi), v4] [] := by
  have l := ml_1024 h5
  refine downI 8 (fun i hi ih => ?_)
  rintro xi h v4 rfl e1 e2
  have P2 : PR h s p d X := P.of (fun c hc => e2 c (by omega))
  refine g_iload_n (pc := 2) o dX1_leadOn_2 rfl ?_
  refine g_bipush (pc := 3) o dX1_leadOn_3 8 rfl ?_
  refine g_ic_ge (pc := 5) o 63 dX1_leadOn_5 (by decide) (fun c5 => ?_) (fun c5 => ?_)
  · skip
    have z : i = 8 := ge8 (n := 8) (by decide) (by omega) c5
    subst z
    exact g_vret o ρ dX1_leadOn_63 (hp h (fun c q hc hq => by rw [e1 c q hc hq, if_pos hq]) e2)
  · skip
    have iq : i < 8 := lt8 (n := 8) (by decide) (by omega) c5
    refine g_aload_n (pc := 8) o dX1_leadOn_8 rfl ?_
    refine g_iload_n (pc := 9) o dX1_leadOn_9 rfl ?_
    refine g_iload_n (pc := 10) o dX1_leadOn_10 rfl ?_
    refine g_callVi (pc := 11) o (c_isAllowed P2 M i hM (by omega)) mt_X1_isAllowed mv_X1_isAllowed lk_X1_129 rfl rfl rfl (by decide) rfl (Nat.le_of_ble_eq_true rfl) dX1_leadOn_11 ?_
    refine g_if_eq (pc := 14) o 57 dX1_leadOn_14 (by decide) (fun c14 => ?_) (fun c14 => ?_)
    · skip
      have z := bI_0.mp c14
      refine g_iinc (pc := 57) o dX1_leadOn_57 rfl 1 rfl (by decide) ?_
      show ca_G Γ 5 _ _ [_, _, _, _, _] _
      refine g_goto (pc := 60) o 2 dX1_leadOn_60 (by decide) ?_
      refine ih iq _ h _ (nI_1 i) (fun c q hc hq => ?_) e2
      rw [e1 c q hc hq]
      by_cases w : q = i
      · subst w
        rw [if_neg (Nat.lt_irrefl q), if_pos (by omega), show tmS (auC s p d X) M D f c q = 0 from sm_z 8 (fun r _ => if_neg (fun y => z y.1.1))]
      · by_cases u : q < i
        · rw [if_pos u, if_pos (by omega)]
        · rw [if_neg u, if_neg (by omega)]
    · skip
      have z := bI_n0.mp c14
      have nl : (auC s p d X).nx D M i ≤ N := Nat.le_trans (nx_le (by omega)) hD
      refine g_aload_n (pc := 17) o dX1_leadOn_17 rfl ?_
      refine g_iload_n (pc := 18) o dX1_leadOn_18 rfl ?_
      refine g_iload_n (pc := 19) o dX1_leadOn_19 rfl ?_
      refine g_iload_n (pc := 20) o dX1_leadOn_20 rfl ?_
      refine g_callVi (pc := 21) o (c_pay h5 P2 D M i (by omega) hM iq) mt_X1_pay mv_X1_pay lk_X1_98 rfl rfl rfl (by decide) rfl (Nat.le_of_ble_eq_true rfl) dX1_leadOn_21 ?_
      refine g_bipush (pc := 24) o dX1_leadOn_24 8 rfl ?_
      refine g_imul (pc := 26) o dX1_leadOn_26 ?_
      refine g_iload_n (pc := 27) o dX1_leadOn_27 rfl ?_
      refine g_iadd (pc := 28) o dX1_leadOn_28 ?_
      rw [show nI ((auC s p d X).nx D M i) * 8 + nI i = nI (8 * (auC s p d X).nx D M i + i) from ix8 _ i]
      have v1 : h.1 45 (8 * (auC s p d X).nx D M i + i) = nI (capF (g ((auC s p d X).nx D M i) i)) := by
        rw [e1 _ i nl iq, if_neg (Nat.lt_irrefl i), Nat.add_zero]
      have cl := c_leadingTo (h := h) (s := s) D i (by omega) iq (P2.2.2.2 i iq) (fun r => capF (f r)) (fun r hr => by rw [e2 44 (by decide)]; exact e44 r hr)
      have bd : smF (fun r => if ad s i r then capF (f r) else 0) 8 ≤ 8 * 1000000 := sm_le 8 (fun r _ => by have := cap_le (f r); split <;> omega)
      have bd2 := cap_le (g ((auC s p d X).nx D M i) i)
      have key : capF (capF (g ((auC s p d X).nx D M i) i) + smF (fun r => if ad s i r then capF (f r) else 0) 8) = capF (g ((auC s p d X).nx D M i) i + tmS (auC s p d X) M D f ((auC s p d X).nx D M i) i) := by
        apply cap_a2
        have a1 : smF (fun r => if ad s i r then capF (f r) else 0) 8 = smF (fun r => capF (if okA (auC s p d X) M r i ∧ (auC s p d X).nx D M i = (auC s p d X).nx D M i then f r else 0)) 8 := by
          refine smF_c 8 (fun r hr => ?_)
          by_cases y : ad s i r
          · rw [if_pos y, if_pos ⟨⟨z, (ad_sy I iq hr).mp y⟩, rfl⟩]
          · rw [if_neg y, if_neg (fun u => y ((ad_sy I iq hr).mpr u.1.2)), cap_0]
        rw [a1]
        exact cap_sm _ 8
      refine g_istore (pc := 29) o dX1_leadOn_29 (by decide) ?_
      show ca_G Γ 5 _ _ [_, _, _, _, _] _
      refine g_aload_n (pc := 31) o dX1_leadOn_31 rfl ?_
      refine g_getR (pc := 32) o 6 rfl rfl rfl inX1 (by decide) lf_X1_31 dX1_leadOn_32 ?_
      refine g_iload (pc := 35) o dX1_leadOn_35 rfl ?_
      refine g_aload_n (pc := 37) o dX1_leadOn_37 rfl ?_
      refine g_getR (pc := 38) o 6 rfl rfl rfl inX1 (by decide) lf_X1_31 dX1_leadOn_38 ?_
      refine g_iload (pc := 41) o dX1_leadOn_41 rfl ?_
      refine n_ialdE (pc := 43) o (8 * (auC s p d X).nx D M i + i) (rfl) rfl ((by omega)) (by decide) (v1) dX1_leadOn_43 ?_
      refine g_aload_n (pc := 44) o dX1_leadOn_44 rfl ?_
      refine g_iload_n (pc := 45) o dX1_leadOn_45 rfl ?_
      refine g_iload_n (pc := 46) o dX1_leadOn_46 rfl ?_
      refine g_callVi (pc := 47) o (cl) mt_X1_leadingTo mv_X1_leadingTo lk_X1_147 rfl rfl rfl (by decide) rfl (Nat.le_of_ble_eq_true rfl) dX1_leadOn_47 ?_
      refine g_iadd (pc := 50) o dX1_leadOn_50 ?_
      rw [nI_add]
      refine g_ldc (pc := 51) o dX1_leadOn_51 lc_X1_141 ?_
      refine g_min (pc := 53) o lk_X1_142 ms_min mi_min mc_min (by decide) (Nat.le_of_ble_eq_true rfl) dX1_leadOn_53 ?_
      rw [min_N _ (by omega), key]
      refine n_iast (pc := 56) o (8 * (auC s p d X).nx D M i + i) (rfl) rfl ((by omega)) (by decide) dX1_leadOn_56 ?_
      refine g_iinc (pc := 57) o dX1_leadOn_57 rfl 1 rfl (by decide) ?_
      show ca_G Γ 5 _ _ [_, _, _, _, _] _
      refine g_goto (pc := 60) o 2 dX1_leadOn_60 (by decide) ?_
      refine ih iq _ _ _ (nI_1 i) (fun c q hc hq => ?_) (fun c hc => (mw_ne _ _ _ hc).trans (e2 c hc))
      rw [mw_same]
      unfold upd
      by_cases w : 8 * c + q = 8 * (auC s p d X).nx D M i + i
      · obtain ⟨rfl, rfl⟩ : c = (auC s p d X).nx D M i ∧ q = i := by omega
        rw [if_pos rfl, if_pos (by omega)]
      · rw [if_neg w, e1 c q hc hq]
        by_cases y : q = i
        · subst y
          rw [if_neg (Nat.lt_irrefl q), if_pos (by omega), show tmS (auC s p d X) M D f c q = 0 from sm_z 8 (fun r _ => if_neg (fun y => w (by rw [y.2])))]
        · by_cases u : q < i
          · rw [if_pos u, if_pos (by omega)]
          · rw [if_neg u, if_neg (by omega)]
set_option maxRecDepth 100000 in
set_option maxHeartbeats 400000 in
theorem c_leadOn {h : Mem} {s : Nat → Int32} (I : SI s) {p : Int32} {d : Nat} {X : Int32} (h5 : akN s X 12 ≤ 5) (P : PR h s p d X) (N : Nat) (hN : N < mlF (rxC s X) 12) (M D : Nat) (hM : M < 24) (hD : D ≤ N) (f : Nat → Nat) (e44 : ∀ r, r < 8 → h.1 44 (8 * D + r) = nI (capF (f r))) (g : Nat → Nat → Nat) (e45 : ∀ c q, c ≤ N → q < 8 → h.1 45 (8 * c + q) = nI (capF (g c q))) : Ct yX1_leadOn cX1_leadOn 5 none 2 45 [.ref 38, .int (nI M), .int (nI D)] h (Qv (fun h2 => (∀ c q, c ≤ N → q < 8 → h2.1 45 (8 * c + q) = nI (capF (g c q + tmS (auC s p d X) M D f c q))) ∧ ∀ c, c ≠ 45 → h2.1 c = h.1 c)) := by
  refine Ct.of (by decide) (Nat.le_of_ble_eq_true rfl) (fun Γ o ρ => ?_)
  show ca_G Γ 5 _ _ [_, _, _, _, _] _
  refine g_iconst (pc := 0) o dX1_leadOn_0 0 rfl ?_
  refine g_istore_n (pc := 1) o dX1_leadOn_1 (by decide) ?_
  show ca_G Γ 5 _ _ [_, _, _, _, _] _
  exact lp_lon o ρ (h0 := h) I h5 P N hN M D hM hD f e44 g (fun h2 a b => ⟨rfl, a, b⟩) 0 (by omega) _ h _ rfl (fun c q hc hq => by rw [if_neg (by omega), Nat.add_zero]; exact e45 c q hc hq) (fun c _ => rfl)
set_option maxRecDepth 100000 in
set_option maxHeartbeats 400000 in
theorem lp_hm4 {Γ : Fr} (o : ca_O Γ cX1_howMany 4 RX1 3 69) {Pr : Option Value → Mem → Prop} (ρ : ca_R Γ (some .int) Pr) {h : Mem} (x1 : Int32) (f : Nat → Nat) (e44 : ∀ r, r < 8 → h.1 44 r = nI (capF (f r))) (hp : Pr (some (.int (nI (capF (smF f 8))))) h) : ∀ i, i ≤ 8 → ∀ (xi y : Int32), xi = nI i → y = nI (smF (fun r => capF (f r)) i) → ca_G Γ 4 h 148 [some (.ref 38), some (.int x1), some (.int y), some (.int xi)] [] := by
  refine downI 8 (fun i hi ih => ?_)
  rintro xi y rfl rfl
  refine g_iload_n (pc := 148) o dX1_howMany_148 rfl ?_
  refine g_bipush (pc := 149) o dX1_howMany_149 8 rfl ?_
  refine g_ic_ge (pc := 151) o 169 dX1_howMany_151 (by decide) (fun c151 => ?_) (fun c151 => ?_)
  · skip
    have z : i = 8 := ge8 (n := 8) (by decide) (by omega) c151
    subst z
    have bd : smF (fun r => capF (f r)) 8 ≤ 8 * 1000000 := sm_le 8 (fun r _ => cap_le (f r))
    refine g_iload_n (pc := 169) o dX1_howMany_169 rfl ?_
    refine g_ldc (pc := 170) o dX1_howMany_170 lc_X1_141 ?_
    refine g_min (pc := 172) o lk_X1_142 ms_min mi_min mc_min (by decide) (Nat.le_of_ble_eq_true rfl) dX1_howMany_172 ?_
    rw [min_N _ (by omega), cap_sm]
    exact g_iret o ρ dX1_howMany_175 hp
  · skip
    have iq : i < 8 := lt8 (n := 8) (by decide) (by omega) c151
    refine g_iload_n (pc := 154) o dX1_howMany_154 rfl ?_
    refine g_aload_n (pc := 155) o dX1_howMany_155 rfl ?_
    refine g_getR (pc := 156) o 5 rfl rfl rfl inX1 (by decide) lf_X1_28 dX1_howMany_156 ?_
    refine g_iload_n (pc := 159) o dX1_howMany_159 rfl ?_
    refine n_ialdE (pc := 160) o i (rfl) rfl ((by omega)) (by decide) (e44 i iq) dX1_howMany_160 ?_
    refine g_iadd (pc := 161) o dX1_howMany_161 ?_
    refine g_istore_n (pc := 162) o dX1_howMany_162 (by decide) ?_
    show ca_G Γ 4 _ _ [_, _, _, _] _
    refine g_iinc (pc := 163) o dX1_howMany_163 rfl 1 rfl (by decide) ?_
    show ca_G Γ 4 _ _ [_, _, _, _] _
    refine g_goto (pc := 166) o 148 dX1_howMany_166 (by decide) ?_
    exact ih iq _ _ (nI_1 i) (by rw [smF_s]; exact nI_add _ _)
set_option maxRecDepth 100000 in
set_option maxHeartbeats 400000 in
theorem lp_hm3 {Γ : Fr} (o : ca_O Γ cX1_howMany 4 RX1 3 69) {h0 : Mem} {s : Nat → Int32} (I : SI s) {p : Int32} {d : Nat} {X : Int32} (h5 : akN s X 12 ≤ 5) (P : PR h0 s p d X) (N : Nat) (eN : debF s X 12 = N) (hN : N < mlF (rxC s X) 12) (R : RE h0 N (fun m c q => q < 8 ∧ RCH (auC s p d X) m c q)) (x1 : Int32) (m : Nat) (hm : m + 1 < 24) (e44 : ∀ c q, c ≤ N → q < 8 → h0.1 44 (8 * c + q) = nI (capF (fwF (auC s p d X) (N + 1) m c q))) (kk : ∀ (h : Mem) (v3 : Option Value), (∀ c q, c ≤ N → q < 8 → h.1 45 (8 * c + q) = nI (capF (fwF (auC s p d X) (N + 1) (m + 1) c q))) → (∀ c, c ≠ 45 → h.1 c = h0.1 c) → ca_G Γ 4 h 124 [some (.ref 38), some (.int x1), some (.int (nI (m + 1))), v3] []) : ∀ D, D ≤ N + 1 → ∀ (xD : Int32) (h : Mem), xD = nI D → (∀ c q, c ≤ N → q < 8 → h.1 45 (8 * c + q) = nI (capF (smF (fun c1 => tmS (auC s p d X) (m + 1) c1 (fun r => fwF (auC s p d X) (N + 1) m c1 r) c q) D))) → (∀ c, c ≠ 45 → h.1 c = h0.1 c) → ca_G Γ 4 h 88 [some (.ref 38), some (.int x1), some (.int (nI (m + 1))), some (.int xD)] [] := by
  have l := ml_1024 h5
  refine downI (N + 1) (fun D hD ih => ?_)
  rintro xD h rfl e1 e2
  have P2 : PR h s p d X := P.of (fun c hc => e2 c (by omega))
  have f8 : h.1 38 8 = nI N := by rw [← eN]; exact P2.2.2.1
  refine g_iload_n (pc := 88) o dX1_howMany_88 rfl ?_
  refine g_aload_n (pc := 89) o dX1_howMany_89 rfl ?_
  refine g_getIE (pc := 90) o 8 rfl rfl rfl inX1 (by decide) lf_X1_59 (f8) dX1_howMany_90 ?_
  refine g_ic_gt (pc := 93) o 124 dX1_howMany_93 (by decide) (fun c93 => ?_) (fun c93 => ?_)
  · skip
    have q : D = N + 1 := by have := (nI_ltI (by omega) (by omega)).mp c93; omega
    subst q
    exact kk h _ e1 e2
  · skip
    have iD : D ≤ N := by have := mt (nI_ltI (a := N) (b := D) (by omega) (by omega)).mpr c93; omega
    have rl := row_lt (m := m) (by omega : N < 1024) (by omega) iD
    refine g_aload_n (pc := 96) o dX1_howMany_96 rfl ?_
    refine g_getR (pc := 97) o 3 rfl rfl rfl inX1 (by decide) lf_X1_21 dX1_howMany_97 ?_
    refine g_aload_n (pc := 100) o dX1_howMany_100 rfl ?_
    refine g_iload_n (pc := 101) o dX1_howMany_101 rfl ?_
    refine g_iconst (pc := 102) o dX1_howMany_102 1 rfl ?_
    refine g_isub (pc := 103) o dX1_howMany_103 ?_
    rw [show nI (m + 1) - 1 = nI m from nI_pred m]
    refine g_iload_n (pc := 104) o dX1_howMany_104 rfl ?_
    refine g_callVi (pc := 105) o (c_row f8 m D) mt_X1_row mv_X1_row lk_X1_90 rfl rfl rfl (by decide) rfl (Nat.le_of_ble_eq_true rfl) dX1_howMany_105 ?_
    refine n_iald (pc := 108) o (m * (N + 1) + D) (rfl) rfl ((by omega)) (by decide) dX1_howMany_108 ?_
    refine g_if_eq (pc := 109) o 118 dX1_howMany_109 (by decide) (fun c109 => ?_) (fun c109 => ?_)
    · skip
      refine g_iinc (pc := 118) o dX1_howMany_118 rfl 1 rfl (by decide) ?_
      show ca_G Γ 4 _ _ [_, _, _, _] _
      refine g_goto (pc := 121) o 88 dX1_howMany_121 (by decide) ?_
      refine ih (by omega) _ h (nI_1 D) (fun c q hc hq => ?_) e2
      have t0 : tmS (auC s p d X) (m + 1) D (fun r => fwF (auC s p d X) (N + 1) m D r) c q = 0 := sm_z 8 (fun r hr => by
        by_cases y : fwF (auC s p d X) (N + 1) m D r = 0
        · show (if _ then fwF (auC s p d X) (N + 1) m D r else 0) = 0
          rw [y, ite_self]
        · have := (R m D r (by omega) iD (by omega)).mpr ⟨hr, fw_rch m D r y⟩
          rw [← e2 42 (by decide), c109, b_0] at this
          cases this)
      rw [e1 c q hc hq, smF_s, t0]
      rfl
    · skip
      have cl := c_leadOn (h := h) I h5 P2 N hN (m + 1) D hm iD (fun r => fwF (auC s p d X) (N + 1) m D r) (fun r hr => by rw [e2 44 (by decide)]; exact e44 D r iD hr) (fun c q => smF (fun c1 => tmS (auC s p d X) (m + 1) c1 (fun r => fwF (auC s p d X) (N + 1) m c1 r) c q) D) e1
      refine g_aload_n (pc := 112) o dX1_howMany_112 rfl ?_
      refine g_iload_n (pc := 113) o dX1_howMany_113 rfl ?_
      refine g_iload_n (pc := 114) o dX1_howMany_114 rfl ?_
      refine g_callVQv (pc := 115) o (cl) mt_X1_leadOn mv_X1_leadOn lk_X1_138 rfl rfl rfl (by decide) rfl (Nat.le_of_ble_eq_true rfl) dX1_howMany_115 ?_
      rintro h2 w
      refine g_iinc (pc := 118) o dX1_howMany_118 rfl 1 rfl (by decide) ?_
      show ca_G Γ 4 _ _ [_, _, _, _] _
      refine g_goto (pc := 121) o 88 dX1_howMany_121 (by decide) ?_
      obtain ⟨w1, w2⟩ := w
      exact ih (by omega) _ h2 (nI_1 D) (fun c q hc hq => by rw [w1 c q hc hq, smF_s]) (fun c hc => (w2 c hc).trans (e2 c hc))
set_option maxRecDepth 100000 in
set_option maxHeartbeats 400000 in
theorem lp_hm2 {Γ : Fr} (o : ca_O Γ cX1_howMany 4 RX1 3 69) {Pr : Option Value → Mem → Prop} (ρ : ca_R Γ (some .int) Pr) {h0 : Mem} {s : Nat → Int32} (I : SI s) {p : Int32} {d : Nat} {X : Int32} (h5 : akN s X 12 ≤ 5) (P : PR h0 s p d X) (N : Nat) (eN : debF s X 12 = N) (hN : N < mlF (rxC s X) 12) (R : RE h0 N (fun m c q => q < 8 ∧ RCH (auC s p d X) m c q)) (hp : ∀ h : Mem, (∀ c, c ≠ 44 → c ≠ 45 → h.1 c = h0.1 c) → Pr (some (.int (nI (capF (smF (fun q => fwF (auC s p d X) (N + 1) 23 0 q) 8))))) h) : ∀ m, m ≤ 23 → ∀ (xm : Int32) (h : Mem) (v3 : Option Value), xm = nI (m + 1) → (∀ c q, c ≤ N → q < 8 → h.1 44 (8 * c + q) = nI (capF (fwF (auC s p d X) (N + 1) m c q))) → (∀ c, c ≠ 44 → c ≠ 45 → h.1 c = h0.1 c) → ca_G Γ 4 h 75 [some (.ref 38), some (.int (nI (8 * (N + 1)))), some (.int xm), v3] [] := by
  have l := ml_1024 h5
  refine downI 23 (fun m hm ih => ?_)
  rintro xm h v3 rfl e1 e2
  refine g_iload_n (pc := 75) o dX1_howMany_75 rfl ?_
  refine g_bipush (pc := 76) o dX1_howMany_76 24 rfl ?_
  refine g_ic_ge (pc := 78) o 144 dX1_howMany_78 (by decide) (fun c78 => ?_) (fun c78 => ?_)
  · skip
    have z : m + 1 = 24 := ge8 (n := 24) (by decide) (by omega) c78
    obtain rfl : m = 23 := by omega
    refine g_iconst (pc := 144) o dX1_howMany_144 0 rfl ?_
    refine g_istore_n (pc := 145) o dX1_howMany_145 (by decide) ?_
    show ca_G Γ 4 _ _ [_, _, _, _] _
    refine g_iconst (pc := 146) o dX1_howMany_146 0 rfl ?_
    refine g_istore_n (pc := 147) o dX1_howMany_147 (by decide) ?_
    show ca_G Γ 4 _ _ [_, _, _, _] _
    exact lp_hm4 o ρ _ (fun q => fwF (auC s p d X) (N + 1) 23 0 q) (fun r hr => by have := e1 0 r (Nat.zero_le N) hr; rw [show 8 * 0 + r = r by omega] at this; exact this) (hp h e2) 0 (by omega) _ _ rfl rfl
  · skip
    have z : m + 1 < 24 := lt8 (n := 24) (by decide) (by omega) c78
    refine g_aload_n (pc := 81) o dX1_howMany_81 rfl ?_
    refine g_iload_n (pc := 82) o dX1_howMany_82 rfl ?_
    refine g_callVQv (pc := 83) o (c_clear (h := h) (8 * (N + 1)) (by omega)) mt_X1_clearNext mv_X1_clearNext lk_X1_125 rfl rfl rfl (by decide) rfl (Nat.le_of_ble_eq_true rfl) dX1_howMany_83 ?_
    rintro h2 w
    obtain ⟨w1, w2⟩ := w
    have P2 : PR h2 s p d X := P.of (fun c hc => (w2 c (by omega)).trans (e2 c (by omega) (by omega)))
    have R2 := re_of (h2 := h2) R ((w2 42 (by decide)).trans (e2 42 (by decide) (by decide)))
    refine g_iconst (pc := 86) o dX1_howMany_86 0 rfl ?_
    refine g_istore_n (pc := 87) o dX1_howMany_87 (by decide) ?_
    show ca_G Γ 4 _ _ [_, _, _, _] _
    refine lp_hm3 o (h0 := h2) I h5 P2 N eN hN R2 _ m z (fun c q hc hq => by rw [w2 44 (by decide)]; exact e1 c q hc hq) (fun h3 v3 a b => ?_) 0 (by omega) _ h2 rfl (fun c q hc hq => by rw [w1 _ (by omega)]; rfl) (fun c _ => rfl)
    refine g_aload_n (pc := 124) o dX1_howMany_124 rfl ?_
    refine g_getR (pc := 125) o 6 rfl rfl rfl inX1 (by decide) lf_X1_31 dX1_howMany_125 ?_
    refine g_iconst (pc := 128) o dX1_howMany_128 0 rfl ?_
    refine g_aload_n (pc := 129) o dX1_howMany_129 rfl ?_
    refine g_getR (pc := 130) o 5 rfl rfl rfl inX1 (by decide) lf_X1_28 dX1_howMany_130 ?_
    refine g_iconst (pc := 133) o dX1_howMany_133 0 rfl ?_
    refine g_iload_n (pc := 134) o dX1_howMany_134 rfl ?_
    refine n_acopy (pc := 135) o (0) (0) (8 * (N + 1)) (rfl) (rfl) (rfl) rfl rfl (by omega) (by omega) (by decide) lk_X1_132 mn_acopy ms_acopy mi_acopy (by decide) (Nat.le_of_ble_eq_true rfl) dX1_howMany_135 ?_
    refine g_iinc (pc := 138) o dX1_howMany_138 rfl 1 rfl (by decide) ?_
    show ca_G Γ 4 _ _ [_, _, _, _] _
    refine g_goto (pc := 141) o 75 dX1_howMany_141 (by decide) ?_
    refine ih (by omega) _ _ _ (nI_1 (m + 1)) (fun c q hc hq => ?_) (fun c hc1 hc2 => (mcp_ne _ _ _ _ hc1).trans ((b c hc2).trans ((w2 c hc2).trans (e2 c hc1 hc2))))
    rw [mcp_same, cp0 (by omega)]
    exact a c q hc hq
set_option maxRecDepth 100000 in
set_option maxHeartbeats 400000 in
theorem lp_hm1 {Γ : Fr} (o : ca_O Γ cX1_howMany 4 RX1 3 69) {h0 : Mem} {s : Nat → Int32} {p : Int32} {d : Nat} {X : Int32} (h5 : akN s X 12 ≤ 5) (P : PR h0 s p d X) (N : Nat) (eN : debF s X 12 = N) (hN : N < mlF (rxC s X) 12) (x1 : Int32) (kk : ∀ (h : Mem) (v2 v3 : Option Value), (∀ c q, c ≤ N → q < 8 → h.1 45 (8 * c + q) = nI (fwF (auC s p d X) (N + 1) 0 c q)) → (∀ c, c ≠ 45 → h.1 c = h0.1 c) → ca_G Γ 4 h 59 [some (.ref 38), some (.int x1), v2, v3] []) : ∀ i, i ≤ 8 → ∀ (xi : Int32) (h : Mem) (v3 : Option Value), xi = nI i → (∀ c q, c ≤ N → q < 8 → h.1 45 (8 * c + q) = nI (if q < i then fwF (auC s p d X) (N + 1) 0 c q else 0)) → (∀ c, c ≠ 45 → h.1 c = h0.1 c) → ca_G Γ 4 h 17 [some (.ref 38), some (.int x1), some (.int xi), v3] [] := by
  have l := ml_1024 h5
  have c0 : (auC s p d X).c0 = N := eN
  have fw0 : ∀ c q, fwF (auC s p d X) (N + 1) 0 c q = if bt ((auC s p d X).lw 0) q = true ∧ (auC s p d X).nx N 0 q = c then 1 else 0 := fun c q => by rw [← c0]; rfl
  refine downI 8 (fun i hi ih => ?_)
  rintro xi h v3 rfl e1 e2
  have P2 : PR h s p d X := P.of (fun c hc => e2 c (by omega))
  have f8 : h.1 38 8 = nI N := by rw [← eN]; exact P2.2.2.1
  refine g_iload_n (pc := 17) o dX1_howMany_17 rfl ?_
  refine g_bipush (pc := 18) o dX1_howMany_18 8 rfl ?_
  refine g_ic_ge (pc := 20) o 59 dX1_howMany_20 (by decide) (fun c20 => ?_) (fun c20 => ?_)
  · skip
    have z : i = 8 := ge8 (n := 8) (by decide) (by omega) c20
    subst z
    exact kk h _ _ (fun c q hc hq => by rw [e1 c q hc hq, if_pos hq]) e2
  · skip
    have iq : i < 8 := lt8 (n := 8) (by decide) (by omega) c20
    refine g_aload_n (pc := 23) o dX1_howMany_23 rfl ?_
    refine g_iconst (pc := 24) o dX1_howMany_24 0 rfl ?_
    refine g_iload_n (pc := 25) o dX1_howMany_25 rfl ?_
    refine g_callVi (pc := 26) o (c_isAllowed P2 0 i (by omega) (by omega)) mt_X1_isAllowed mv_X1_isAllowed lk_X1_129 rfl rfl rfl (by decide) rfl (Nat.le_of_ble_eq_true rfl) dX1_howMany_26 ?_
    refine g_if_eq (pc := 29) o 53 dX1_howMany_29 (by decide) (fun c29 => ?_) (fun c29 => ?_)
    · skip
      have z := bI_0.mp c29
      refine g_iinc (pc := 53) o dX1_howMany_53 rfl 1 rfl (by decide) ?_
      show ca_G Γ 4 _ _ [_, _, _, _] _
      refine g_goto (pc := 56) o 17 dX1_howMany_56 (by decide) ?_
      refine ih iq _ h _ (nI_1 i) (fun c q hc hq => ?_) e2
      rw [e1 c q hc hq]
      by_cases w : q = i
      · subst w
        rw [if_neg (Nat.lt_irrefl q), if_pos (by omega), fw0, if_neg (fun y => z y.1)]
      · by_cases u : q < i
        · rw [if_pos u, if_pos (by omega)]
        · rw [if_neg u, if_neg (by omega)]
    · skip
      have z := bI_n0.mp c29
      have nl : (auC s p d X).nx N 0 i ≤ N := nx_le hN
      refine g_aload_n (pc := 32) o dX1_howMany_32 rfl ?_
      refine g_getR (pc := 33) o 6 rfl rfl rfl inX1 (by decide) lf_X1_31 dX1_howMany_33 ?_
      refine g_aload_n (pc := 36) o dX1_howMany_36 rfl ?_
      refine g_aload_n (pc := 37) o dX1_howMany_37 rfl ?_
      refine g_getIE (pc := 38) o 8 rfl rfl rfl inX1 (by decide) lf_X1_59 (f8) dX1_howMany_38 ?_
      refine g_iconst (pc := 41) o dX1_howMany_41 0 rfl ?_
      refine g_iload_n (pc := 42) o dX1_howMany_42 rfl ?_
      refine g_callVi (pc := 43) o (c_pay h5 P2 N 0 i hN (by omega) iq) mt_X1_pay mv_X1_pay lk_X1_98 rfl rfl rfl (by decide) rfl (Nat.le_of_ble_eq_true rfl) dX1_howMany_43 ?_
      refine g_bipush (pc := 46) o dX1_howMany_46 8 rfl ?_
      refine g_imul (pc := 48) o dX1_howMany_48 ?_
      refine g_iload_n (pc := 49) o dX1_howMany_49 rfl ?_
      refine g_iadd (pc := 50) o dX1_howMany_50 ?_
      rw [show nI ((auC s p d X).nx N 0 i) * 8 + nI i = nI (8 * (auC s p d X).nx N 0 i + i) from ix8 _ i]
      refine g_iconst (pc := 51) o dX1_howMany_51 1 rfl ?_
      refine n_iast (pc := 52) o (8 * (auC s p d X).nx N 0 i + i) (rfl) rfl ((by omega)) (by decide) dX1_howMany_52 ?_
      refine g_iinc (pc := 53) o dX1_howMany_53 rfl 1 rfl (by decide) ?_
      show ca_G Γ 4 _ _ [_, _, _, _] _
      refine g_goto (pc := 56) o 17 dX1_howMany_56 (by decide) ?_
      refine ih iq _ _ _ (nI_1 i) (fun c q hc hq => ?_) (fun c hc => (mw_ne _ _ _ hc).trans (e2 c hc))
      rw [mw_same]
      unfold upd
      by_cases w : 8 * c + q = 8 * (auC s p d X).nx N 0 i + i
      · obtain ⟨rfl, rfl⟩ : c = (auC s p d X).nx N 0 i ∧ q = i := by omega
        rw [if_pos rfl, if_pos (by omega), fw0, if_pos ⟨z, rfl⟩]
        rfl
      · rw [if_neg w, e1 c q hc hq]
        by_cases y : q = i
        · subst y
          rw [if_neg (Nat.lt_irrefl q), if_pos (by omega), fw0, if_neg (fun y => w (by rw [y.2]))]
        · by_cases u : q < i
          · rw [if_pos u, if_pos (by omega)]
          · rw [if_neg u, if_neg (by omega)]
set_option maxRecDepth 100000 in
set_option maxHeartbeats 400000 in
theorem c_howMany {h : Mem} {s : Nat → Int32} (I : SI s) {p : Int32} {d : Nat} {X : Int32} (h5 : akN s X 12 ≤ 5) (P : PR h s p d X) (N : Nat) (eN : debF s X 12 = N) (hN : N < mlF (rxC s X) 12) (R : RE h N (fun m c q => q < 8 ∧ RCH (auC s p d X) m c q)) : Ct yX1_howMany cX1_howMany 4 (some .int) 3 69 [.ref 38] h (Qi (fun r h2 => r = nI (capF (smF (fun q => fwF (auC s p d X) (N + 1) 23 0 q) 8)) ∧ ∀ c, c ≠ 44 → c ≠ 45 → h2.1 c = h.1 c)) := by
  refine Ct.of (by decide) (Nat.le_of_ble_eq_true rfl) (fun Γ o ρ => ?_)
  show ca_G Γ 4 _ _ [_, _, _, _] _
  have l := ml_1024 h5
  have f8 : h.1 38 8 = nI N := by rw [← eN]; exact P.2.2.1
  refine g_aload_n (pc := 0) o dX1_howMany_0 rfl ?_
  refine g_getIE (pc := 1) o 8 rfl rfl rfl inX1 (by decide) lf_X1_59 (f8) dX1_howMany_1 ?_
  refine g_iconst (pc := 4) o dX1_howMany_4 1 rfl ?_
  refine g_iadd (pc := 5) o dX1_howMany_5 ?_
  refine g_bipush (pc := 6) o dX1_howMany_6 8 rfl ?_
  refine g_imul (pc := 8) o dX1_howMany_8 ?_
  rw [show (nI N + 1) * 8 = nI (8 * (N + 1)) by rw [nI_1, Nat.mul_comm]; exact pk_mul (N + 1) 8]
  refine g_istore_n (pc := 9) o dX1_howMany_9 (by decide) ?_
  show ca_G Γ 4 _ _ [_, _, _, _] _
  refine g_aload_n (pc := 10) o dX1_howMany_10 rfl ?_
  refine g_iload_n (pc := 11) o dX1_howMany_11 rfl ?_
  refine g_callVQv (pc := 12) o (c_clear (h := h) (8 * (N + 1)) (by omega)) mt_X1_clearNext mv_X1_clearNext lk_X1_125 rfl rfl rfl (by decide) rfl (Nat.le_of_ble_eq_true rfl) dX1_howMany_12 ?_
  rintro h2 w
  obtain ⟨w1, w2⟩ := w
  have P2 : PR h2 s p d X := P.of (fun c hc => w2 c (by omega))
  refine g_iconst (pc := 15) o dX1_howMany_15 0 rfl ?_
  refine g_istore_n (pc := 16) o dX1_howMany_16 (by decide) ?_
  show ca_G Γ 4 _ _ [_, _, _, _] _
  refine lp_hm1 o (h0 := h2) h5 P2 N eN hN _ (fun h3 v2 v3 a b => ?_) 0 (by omega) _ h2 _ rfl (fun c q hc hq => by rw [w1 _ (by omega), if_neg (by omega)]; rfl) (fun c _ => rfl)
  refine g_aload_n (pc := 59) o dX1_howMany_59 rfl ?_
  refine g_getR (pc := 60) o 6 rfl rfl rfl inX1 (by decide) lf_X1_31 dX1_howMany_60 ?_
  refine g_iconst (pc := 63) o dX1_howMany_63 0 rfl ?_
  refine g_aload_n (pc := 64) o dX1_howMany_64 rfl ?_
  refine g_getR (pc := 65) o 5 rfl rfl rfl inX1 (by decide) lf_X1_28 dX1_howMany_65 ?_
  refine g_iconst (pc := 68) o dX1_howMany_68 0 rfl ?_
  refine g_iload_n (pc := 69) o dX1_howMany_69 rfl ?_
  refine n_acopy (pc := 70) o (0) (0) (8 * (N + 1)) (rfl) (rfl) (rfl) rfl rfl (by omega) (by omega) (by decide) lk_X1_132 mn_acopy ms_acopy mi_acopy (by decide) (Nat.le_of_ble_eq_true rfl) dX1_howMany_70 ?_
  refine g_iconst (pc := 73) o dX1_howMany_73 1 rfl ?_
  refine g_istore_n (pc := 74) o dX1_howMany_74 (by decide) ?_
  show ca_G Γ 4 _ _ [_, _, _, _] _
  refine lp_hm2 o ρ (h0 := h) I h5 P N eN hN R (fun h4 k => ⟨_, rfl, rfl, k⟩) 0 (by omega) _ _ _ rfl (fun c q hc hq => ?_) (fun c hc1 hc2 => (mcp_ne _ _ _ _ hc1).trans ((b c hc2).trans (w2 c hc2)))
  rw [mcp_same, cp0 (by omega), a c q hc hq]
  congr 1
  have : fwF (auC s p d X) (N + 1) 0 c q ≤ 1 := by
    show (if bt ((auC s p d X).lw 0) q = true ∧ (auC s p d X).nx (auC s p d X).c0 0 q = c then 1 else 0) ≤ 1
    split <;> omega
  unfold capF
  omega

