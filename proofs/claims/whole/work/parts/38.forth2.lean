/-! ===== exploreForth ===== -/
abbrev RE (h : Mem) (N : Nat) (Q : Nat → Nat → Nat → Prop) : Prop := ∀ m c q, m < 24 → c ≤ N → q < 32 → (bt (h.1 42 (m * (N + 1) + c)) q = true ↔ Q m c q)
theorem rch_le {s : Nat → Int32} {p : Int32} {d : Nat} {X : Int32} {N : Nat} (eN : debF s X 12 = N) (hN : N < mlF (rxC s X) 12) : ∀ m c q, RCH (auC s p d X) m c q → c ≤ N
  | 0, c, q, ⟨_, e⟩ => by
    rw [← e]
    have : (auC s p d X).c0 = N := eN
    rw [this]
    exact nx_le hN
  | m + 1, c, q, ⟨c1, r, hr, a, _, e⟩ => by
    have := rch_le eN hN m c1 r a
    rw [← e]
    exact Nat.le_trans (nx_le (by omega)) this
set_option maxRecDepth 100000 in
set_option maxHeartbeats 400000 in
theorem lp_ef3 {Γ : Fr} (o : ca_O Γ cX1_exploreForth 5 RX1 2 47) {h0 : Mem} {s : Nat → Int32} {p : Int32} {d : Nat} {X : Int32} (h5 : akN s X 12 ≤ 5) (P : PR h0 s p d X) (N : Nat) (eN : debF s X 12 = N) (hN : N < mlF (rxC s X) 12) (H : Nat) (hH : H + 1 < 24) (x1 : Int32) (kk : ∀ (h : Mem) (v3 v4 : Option Value), RE h N (fun m c q => m < H + 2 ∧ q < 8 ∧ RCH (auC s p d X) m c q) → (∀ c, c ≠ 42 → h.1 c = h0.1 c) → ca_G Γ 5 h 45 [some (.ref 38), some (.int x1), some (.int (nI (H + 2))), v3, v4] []) : ∀ D, D ≤ N + 1 → ∀ (xD : Int32) (h : Mem) (v4 : Option Value), xD = nI D → RE h N (fun m c q => (m < H + 1 ∧ q < 8 ∧ RCH (auC s p d X) m c q) ∨ (m = H + 1 ∧ q < 8 ∧ ∃ c1 r, c1 < D ∧ r < 8 ∧ RCH (auC s p d X) H c1 r ∧ okA (auC s p d X) (H + 1) r q ∧ (auC s p d X).nx c1 (H + 1) q = c)) → (∀ c, c ≠ 42 → h.1 c = h0.1 c) → ca_G Γ 5 h 53 [some (.ref 38), some (.int x1), some (.int (nI (H + 1))), some (.int xD), v4] [] := by
  have l := ml_1024 h5
  refine downI (N + 1) (fun D hD ih => ?_)
  rintro xD h v4 rfl e1 e2
  have P2 : PR h s p d X := P.of (fun c hc => e2 c (by omega))
  have f8 : h.1 38 8 = nI N := by rw [← eN]; exact P2.2.2.1
  refine g_iload_n (pc := 53) o dX1_exploreForth_53 rfl ?_
  refine g_aload_n (pc := 54) o dX1_exploreForth_54 rfl ?_
  refine g_getIE (pc := 55) o 8 rfl rfl rfl inX1 (by decide) lf_X1_59 (f8) dX1_exploreForth_55 ?_
  refine g_ic_gt (pc := 58) o 106 dX1_exploreForth_58 (by decide) (fun c58 => ?_) (fun c58 => ?_)
  · skip
    have q : D = N + 1 := by have := (nI_ltI (by omega) (by omega)).mp c58; omega
    subst q
    refine g_iinc (pc := 106) o dX1_exploreForth_106 rfl 1 rfl (by decide) ?_
    show ca_G Γ 5 _ _ [_, _, _, _, _] _
    refine g_goto (pc := 109) o 45 dX1_exploreForth_109 (by decide) ?_
    rw [show nI (H + 1) + 1 = nI (H + 2) from nI_1 _]
    refine kk h _ _ (fun m c q hm hc hq => ?_) e2
    rw [e1 m c q hm hc hq]
    constructor
    · rintro (⟨a, b, k⟩ | ⟨rfl, b, c1, r, _, hr, k, z, e⟩)
      · exact ⟨by omega, b, k⟩
      · exact ⟨by omega, b, c1, r, hr, k, z, e⟩
    · rintro ⟨a, b, k⟩
      by_cases w : m < H + 1
      · exact Or.inl ⟨w, b, k⟩
      · obtain rfl : m = H + 1 := by omega
        obtain ⟨c1, r, hr, k, z, e⟩ := k
        exact Or.inr ⟨rfl, b, c1, r, Nat.lt_succ_of_le (rch_le eN hN H c1 r k), hr, k, z, e⟩
  · skip
    have iD : D ≤ N := by have := mt (nI_ltI (a := N) (b := D) (by omega) (by omega)).mpr c58; omega
    have rl := row_lt (m := H) (by omega : N < 1024) (by omega) iD
    have sj : nI (H + 1) - 1 = nI H := nI_pred H
    have fr : ∀ r, r < 32 → (bt (h.1 42 (H * (N + 1) + D)) r = true ↔ r < 8 ∧ RCH (auC s p d X) H D r) := by
      intro r hr
      rw [e1 H D r (by omega) iD hr]
      constructor
      · rintro (⟨_, b, k⟩ | ⟨a, _⟩)
        · exact ⟨b, k⟩
        · omega
      · rintro ⟨b, k⟩
        exact Or.inl ⟨by omega, b, k⟩
    refine g_aload_n (pc := 61) o dX1_exploreForth_61 rfl ?_
    refine g_getR (pc := 62) o 3 rfl rfl rfl inX1 (by decide) lf_X1_21 dX1_exploreForth_62 ?_
    refine g_aload_n (pc := 65) o dX1_exploreForth_65 rfl ?_
    refine g_iload_n (pc := 66) o dX1_exploreForth_66 rfl ?_
    refine g_iconst (pc := 67) o dX1_exploreForth_67 1 rfl ?_
    refine g_isub (pc := 68) o dX1_exploreForth_68 ?_
    rw [sj]
    refine g_iload_n (pc := 69) o dX1_exploreForth_69 rfl ?_
    refine g_callVi (pc := 70) o (c_row f8 H D) mt_X1_row mv_X1_row lk_X1_90 rfl rfl rfl (by decide) rfl (Nat.le_of_ble_eq_true rfl) dX1_exploreForth_70 ?_
    refine n_iald (pc := 73) o (H * (N + 1) + D) (rfl) rfl ((by omega)) (by decide) dX1_exploreForth_73 ?_
    refine g_istore (pc := 74) o dX1_exploreForth_74 (by decide) ?_
    show ca_G Γ 5 _ _ [_, _, _, _, _] _
    refine g_iload (pc := 76) o dX1_exploreForth_76 rfl ?_
    refine g_if_eq (pc := 78) o 100 dX1_exploreForth_78 (by decide) (fun c78 => ?_) (fun c78 => ?_)
    · skip
      refine g_iinc (pc := 100) o dX1_exploreForth_100 rfl 1 rfl (by decide) ?_
      show ca_G Γ 5 _ _ [_, _, _, _, _] _
      refine g_goto (pc := 103) o 53 dX1_exploreForth_103 (by decide) ?_
      refine ih (by omega) _ h _ (nI_1 D) (fun m c q hm hc hq => ?_) e2
      rw [e1 m c q hm hc hq]
      constructor
      · rintro (a | ⟨a, b, c1, r, h1, z⟩)
        · exact Or.inl a
        · exact Or.inr ⟨a, b, c1, r, by omega, z⟩
      · rintro (a | ⟨a, b, c1, r, h1, hr, k, z⟩)
        · exact Or.inl a
        · refine Or.inr ⟨a, b, c1, r, ?_, hr, k, z⟩
          by_cases w : c1 = D
          · subst w
            have := (fr r (by omega)).mpr ⟨hr, k⟩
            rw [c78, b_0] at this
            cases this
          · omega
    · skip
      have al : h.1 39 (H + 1) = lwF s p d X (H + 1) 12 := P2.1 (H + 1) hH
      have cs := c_wstep (h := h) (s := s) P2.2.2.2 (h.1 42 (H * (N + 1) + D))
      have ca := c_arrive (h := h) h5 P2 N eN hN (H + 1) D hH iD (osF (stpF s) (h.1 42 (H * (N + 1) + D)) 8 &&& lwF s p d X (H + 1) 12)
      refine g_aload_n (pc := 81) o dX1_exploreForth_81 rfl ?_
      refine g_iload_n (pc := 82) o dX1_exploreForth_82 rfl ?_
      refine g_iload_n (pc := 83) o dX1_exploreForth_83 rfl ?_
      refine g_aload_n (pc := 84) o dX1_exploreForth_84 rfl ?_
      refine g_iload (pc := 85) o dX1_exploreForth_85 rfl ?_
      refine g_callVi (pc := 87) o (cs) mt_X1_stepFrom mv_X1_stepFrom lk_X1_97 rfl rfl rfl (by decide) rfl (Nat.le_of_ble_eq_true rfl) dX1_exploreForth_87 ?_
      refine g_aload_n (pc := 90) o dX1_exploreForth_90 rfl ?_
      refine g_getR (pc := 91) o 0 rfl rfl rfl inX1 (by decide) lf_X1_9 dX1_exploreForth_91 ?_
      refine g_iload_n (pc := 94) o dX1_exploreForth_94 rfl ?_
      refine n_ialdE (pc := 95) o (H + 1) (rfl) rfl ((by omega)) (by decide) (al) dX1_exploreForth_95 ?_
      refine g_iand (pc := 96) o dX1_exploreForth_96 ?_
      refine g_callVQv (pc := 97) o (ca) mt_X1_arrive mv_X1_arrive lk_X1_93 rfl rfl rfl (by decide) rfl (Nat.le_of_ble_eq_true rfl) dX1_exploreForth_97 ?_
      rintro h2 w
      refine g_iinc (pc := 100) o dX1_exploreForth_100 rfl 1 rfl (by decide) ?_
      show ca_G Γ 5 _ _ [_, _, _, _, _] _
      refine g_goto (pc := 103) o 53 dX1_exploreForth_103 (by decide) ?_
      obtain ⟨w1, w2⟩ := w
      refine ih (by omega) _ h2 _ (nI_1 D) (fun m c q hm hc hq => ?_) (fun c hc => (w2 c hc).trans (e2 c hc))
      rw [w1 m c q hm hc hq, e1 m c q hm hc hq, b_and, Bool.and_eq_true, os_b]
      constructor
      · rintro ((a | ⟨a, b, c1, r, h1, z⟩) | ⟨a, b, ⟨⟨r, hr, k, y⟩, z⟩, e⟩)
        · exact Or.inl a
        · exact Or.inr ⟨a, b, c1, r, by omega, z⟩
        · exact Or.inr ⟨a, b, D, r, by omega, hr, ((fr r (by omega)).mp k).2, ⟨z, (stp_b hr hq).mp y⟩, e⟩
      · rintro (a | ⟨a, b, c1, r, h1, hr, k, z, e⟩)
        · exact Or.inl (Or.inl a)
        · by_cases w : c1 = D
          · subst w
            exact Or.inr ⟨a, b, ⟨⟨r, hr, (fr r (by omega)).mpr ⟨hr, k⟩, (stp_b hr hq).mpr z.2⟩, z.1⟩, e⟩
          · exact Or.inl (Or.inr ⟨a, b, c1, r, by omega, hr, k, z, e⟩)
set_option maxRecDepth 100000 in
set_option maxHeartbeats 400000 in
theorem lp_ef2 {Γ : Fr} (o : ca_O Γ cX1_exploreForth 5 RX1 2 47) {Pr : Option Value → Mem → Prop} (ρ : ca_R Γ none Pr) {h0 : Mem} {s : Nat → Int32} {p : Int32} {d : Nat} {X : Int32} (h5 : akN s X 12 ≤ 5) (P : PR h0 s p d X) (N : Nat) (eN : debF s X 12 = N) (hN : N < mlF (rxC s X) 12) (x1 : Int32) (hp : ∀ h : Mem, RE h N (fun m c q => q < 8 ∧ RCH (auC s p d X) m c q) → (∀ c, c ≠ 42 → h.1 c = h0.1 c) → Pr none h) : ∀ H, H ≤ 23 → ∀ (xH : Int32) (h : Mem) (v3 v4 : Option Value), xH = nI (H + 1) → RE h N (fun m c q => m < H + 1 ∧ q < 8 ∧ RCH (auC s p d X) m c q) → (∀ c, c ≠ 42 → h.1 c = h0.1 c) → ca_G Γ 5 h 45 [some (.ref 38), some (.int x1), some (.int xH), v3, v4] [] := by
  refine downI 23 (fun H hH ih => ?_)
  rintro xH h v3 v4 rfl e1 e2
  refine g_iload_n (pc := 45) o dX1_exploreForth_45 rfl ?_
  refine g_bipush (pc := 46) o dX1_exploreForth_46 24 rfl ?_
  refine g_ic_ge (pc := 48) o 112 dX1_exploreForth_48 (by decide) (fun c48 => ?_) (fun c48 => ?_)
  · skip
    have q : H + 1 = 24 := ge8 (n := 24) (by decide) (by omega) c48
    exact g_vret o ρ dX1_exploreForth_112 (hp h (fun m c q hm hc hq => by rw [e1 m c q hm hc hq]; exact ⟨fun z => z.2, fun z => ⟨by omega, z⟩⟩) e2)
  · skip
    have q : H + 1 < 24 := lt8 (n := 24) (by decide) (by omega) c48
    refine g_iconst (pc := 51) o dX1_exploreForth_51 0 rfl ?_
    refine g_istore_n (pc := 52) o dX1_exploreForth_52 (by decide) ?_
    show ca_G Γ 5 _ _ [_, _, _, _, _] _
    exact lp_ef3 o (h0 := h0) h5 P N eN hN H q x1 (fun h2 v3 v4 a b => ih (by omega) _ h2 v3 v4 rfl a b) 0 (by omega) _ h _ rfl (fun m c q hm hc hq => by rw [e1 m c q hm hc hq]; exact ⟨Or.inl, fun z => z.elim id (fun ⟨_, _, c1, r, y, _⟩ => by omega)⟩) e2
set_option maxRecDepth 100000 in
set_option maxHeartbeats 400000 in
theorem lp_ef1 {Γ : Fr} (o : ca_O Γ cX1_exploreForth 5 RX1 2 47) {h0 : Mem} (E : Nat) (hE : E ≤ 24576) (kk : ∀ (h : Mem) (v3 v4 : Option Value), (∀ j, j < E → h.1 42 j = 0) → (∀ c, c ≠ 42 → h.1 c = h0.1 c) → ca_G Γ 5 h 28 [some (.ref 38), some (.int (nI E)), some (.int (nI E)), v3, v4] []) : ∀ i, i ≤ E → ∀ (xi : Int32) (h : Mem) (v3 v4 : Option Value), xi = nI i → (∀ j, j < i → h.1 42 j = 0) → (∀ c, c ≠ 42 → h.1 c = h0.1 c) → ca_G Γ 5 h 10 [some (.ref 38), some (.int (nI E)), some (.int xi), v3, v4] [] := by
  refine downI E (fun i hi ih => ?_)
  rintro xi h v3 v4 rfl e1 e2
  refine g_iload_n (pc := 10) o dX1_exploreForth_10 rfl ?_
  refine g_iload_n (pc := 11) o dX1_exploreForth_11 rfl ?_
  refine g_ic_ge (pc := 12) o 28 dX1_exploreForth_12 (by decide) (fun c12 => ?_) (fun c12 => ?_)
  · skip
    have q : i = E := ge8 (n := E) (by omega) (by omega) c12
    subst q
    exact kk h _ _ e1 e2
  · skip
    have q : i < E := lt8 (n := E) (by omega) (by omega) c12
    refine g_aload_n (pc := 15) o dX1_exploreForth_15 rfl ?_
    refine g_getR (pc := 16) o 3 rfl rfl rfl inX1 (by decide) lf_X1_21 dX1_exploreForth_16 ?_
    refine g_iload_n (pc := 19) o dX1_exploreForth_19 rfl ?_
    refine g_iconst (pc := 20) o dX1_exploreForth_20 0 rfl ?_
    refine n_iast (pc := 21) o i (rfl) rfl ((by omega)) (by decide) dX1_exploreForth_21 ?_
    refine g_iinc (pc := 22) o dX1_exploreForth_22 rfl 1 rfl (by decide) ?_
    show ca_G Γ 5 _ _ [_, _, _, _, _] _
    refine g_goto (pc := 25) o 10 dX1_exploreForth_25 (by decide) ?_
    refine ih q _ _ _ _ (nI_1 i) (fun j hj => ?_) (fun c hc => (mw_ne _ _ _ hc).trans (e2 c hc))
    rw [mw_same]
    unfold upd
    by_cases w : j = i
    · rw [if_pos w]
    · rw [if_neg w]; exact e1 j (by omega)
set_option maxRecDepth 100000 in
set_option maxHeartbeats 400000 in
theorem c_forth {h : Mem} {s : Nat → Int32} {p : Int32} {d : Nat} {X : Int32} (h5 : akN s X 12 ≤ 5) (P : PR h s p d X) (N : Nat) (eN : debF s X 12 = N) (hN : N < mlF (rxC s X) 12) : Ct yX1_exploreForth cX1_exploreForth 5 none 2 47 [.ref 38] h (Qv (fun h2 => RE h2 N (fun m c q => q < 8 ∧ RCH (auC s p d X) m c q) ∧ ∀ c, c ≠ 42 → h2.1 c = h.1 c)) := by
  refine Ct.of (by decide) (Nat.le_of_ble_eq_true rfl) (fun Γ o ρ => ?_)
  show ca_G Γ 5 _ _ [_, _, _, _, _] _
  have l := ml_1024 h5
  have f8 : h.1 38 8 = nI N := by rw [← eN]; exact P.2.2.1
  refine g_aload_n (pc := 0) o dX1_exploreForth_0 rfl ?_
  refine g_bipush (pc := 1) o dX1_exploreForth_1 24 rfl ?_
  refine g_iconst (pc := 3) o dX1_exploreForth_3 0 rfl ?_
  refine g_callVi (pc := 4) o (c_row f8 24 0) mt_X1_row mv_X1_row lk_X1_90 rfl rfl rfl (by decide) rfl (Nat.le_of_ble_eq_true rfl) dX1_exploreForth_4 ?_
  refine g_istore_n (pc := 7) o dX1_exploreForth_7 (by decide) ?_
  show ca_G Γ 5 _ _ [_, _, _, _, _] _
  refine g_iconst (pc := 8) o dX1_exploreForth_8 0 rfl ?_
  refine g_istore_n (pc := 9) o dX1_exploreForth_9 (by decide) ?_
  show ca_G Γ 5 _ _ [_, _, _, _, _] _
  have eE : 24 * (N + 1) + 0 ≤ 24576 := by omega
  refine lp_ef1 o (h0 := h) (24 * (N + 1) + 0) eE (fun h1 v3 v4 u1 u2 => ?_) 0 (by omega) _ h _ _ rfl (fun j hj => by omega) (fun c _ => rfl)
  have P1 : PR h1 s p d X := P.of (fun c hc => u2 c (by omega))
  have f81 : h1.1 38 8 = nI N := by rw [← eN]; exact P1.2.2.1
  have al : h1.1 39 0 = lwF s p d X 0 12 := P1.1 0 (by omega)
  refine g_aload_n (pc := 28) o dX1_exploreForth_28 rfl ?_
  refine g_iconst (pc := 29) o dX1_exploreForth_29 0 rfl ?_
  refine g_aload_n (pc := 30) o dX1_exploreForth_30 rfl ?_
  refine g_getIE (pc := 31) o 8 rfl rfl rfl inX1 (by decide) lf_X1_59 (f81) dX1_exploreForth_31 ?_
  refine g_aload_n (pc := 34) o dX1_exploreForth_34 rfl ?_
  refine g_getR (pc := 35) o 0 rfl rfl rfl inX1 (by decide) lf_X1_9 dX1_exploreForth_35 ?_
  refine g_iconst (pc := 38) o dX1_exploreForth_38 0 rfl ?_
  refine n_ialdE (pc := 39) o 0 (rfl) rfl ((by omega)) (by decide) (al) dX1_exploreForth_39 ?_
  refine g_callVQv (pc := 40) o (c_arrive (h := h1) h5 P1 N eN hN 0 N (by omega) (Nat.le_refl N) (lwF s p d X 0 12)) mt_X1_arrive mv_X1_arrive lk_X1_93 rfl rfl rfl (by decide) rfl (Nat.le_of_ble_eq_true rfl) dX1_exploreForth_40 ?_
  rintro h2 w
  refine g_iconst (pc := 43) o dX1_exploreForth_43 1 rfl ?_
  refine g_istore_n (pc := 44) o dX1_exploreForth_44 (by decide) ?_
  show ca_G Γ 5 _ _ [_, _, _, _, _] _
  obtain ⟨w1, w2⟩ := w
  refine lp_ef2 o ρ (h0 := h) h5 P N eN hN _ (fun h3 a b => ⟨rfl, a, b⟩) 0 (by omega) _ h2 _ _ rfl (fun m c q hm hc hq => ?_) (fun c hc => (w2 c hc).trans (u2 c hc))
  have rl := row_lt (m := m) (by omega : N < 1024) hm hc
  have z0 : h1.1 42 (m * (N + 1) + c) = 0 := u1 _ (by
    have : m * (N + 1) ≤ 23 * (N + 1) := Nat.mul_le_mul_right _ (by omega)
    omega)
  rw [w1 m c q hm hc hq, z0, b_0]
  constructor
  · rintro (a | ⟨rfl, b, k, e⟩)
    · cases a
    · exact ⟨by omega, b, k, by rw [show (auC s p d X).c0 = N from eN]; exact e⟩
  · rintro ⟨a, b, k⟩
    obtain rfl : m = 0 := by omega
    obtain ⟨k1, k2⟩ := k
    rw [show (auC s p d X).c0 = N from eN] at k2
    exact Or.inr ⟨rfl, b, k1, k2⟩

