/-! ===== the class walks back; where the walks are in an hour ===== -/
theorem re_of {h h2 : Mem} {N : Nat} {Q : Nat → Nat → Nat → Prop} (R : RE h N Q) (e : h2.1 42 = h.1 42) : RE h2 N Q := by
  intro m c q hm hc hq
  rw [e]
  exact R m c q hm hc hq
set_option maxRecDepth 100000 in
set_option maxHeartbeats 400000 in
theorem lp_eb4 {Γ : Fr} (o : ca_O Γ cX1_exploreBack 4 RX1 3 71) {h0 : Mem} {s : Nat → Int32} {p : Int32} {d : Nat} {X : Int32} (h5 : akN s X 12 ≤ 5) (P : PR h0 s p d X) (N : Nat) (eN : debF s X 12 = N) (hN : N < mlF (rxC s X) 12) (R : RE h0 N (fun m c q => q < 8 ∧ RCH (auC s p d X) m c q)) (H : Nat) (hH : H < 23) (x1 : Int32) (kk : ∀ (h : Mem) (v3 : Option Value), (∀ m, H ≤ m → m < 24 → TG h N (auC s p d X) m) → (∀ c, c ≠ 46 → h.1 c = h0.1 c) → ca_G Γ 4 h 108 [some (.ref 38), some (.int x1), some (.int (nI H)), v3] []) : ∀ D, D ≤ N + 1 → ∀ (xD : Int32) (h : Mem), xD = nI D → (∀ m, H < m → m < 24 → TG h N (auC s p d X) m) → (∀ c q, c < D → q < 8 → byteF (h.2 (H * (N + 1) + c)) q = nI (cbF (auC s p d X) H c q)) → (∀ c, c ≠ 46 → h.1 c = h0.1 c) → ca_G Γ 4 h 88 [some (.ref 38), some (.int x1), some (.int (nI H)), some (.int xD)] [] := by
  have l := ml_1024 h5
  refine downI (N + 1) (fun D hD ih => ?_)
  rintro xD h rfl e1 e2 e3
  have P2 : PR h s p d X := P.of (fun c hc => e3 c (by omega))
  have f8 : h.1 38 8 = nI N := by rw [← eN]; exact P2.2.2.1
  have R2 := re_of R (e3 42 (by decide))
  refine g_iload_n (pc := 88) o dX1_exploreBack_88 rfl ?_
  refine g_aload_n (pc := 89) o dX1_exploreBack_89 rfl ?_
  refine g_getIE (pc := 90) o 8 rfl rfl rfl inX1 (by decide) lf_X1_59 (f8) dX1_exploreBack_90 ?_
  refine g_ic_gt (pc := 93) o 108 dX1_exploreBack_93 (by decide) (fun c93 => ?_) (fun c93 => ?_)
  · skip
    have q : D = N + 1 := by have := (nI_ltI (by omega) (by omega)).mp c93; omega
    subst q
    refine kk h _ (fun m hm hm2 => ?_) e3
    by_cases w : m = H
    · subst w
      exact fun c q hc hq => e2 c q (by omega) hq
    · exact e1 m (by omega) hm2
  · skip
    have iD : D ≤ N := by have := mt (nI_ltI (a := N) (b := D) (by omega) (by omega)).mpr c93; omega
    refine g_aload_n (pc := 96) o dX1_exploreBack_96 rfl ?_
    refine g_iload_n (pc := 97) o dX1_exploreBack_97 rfl ?_
    refine g_iload_n (pc := 98) o dX1_exploreBack_98 rfl ?_
    refine g_callVQv (pc := 99) o (c_weigh (h := h) h5 P2 N eN hN R2 H D hH iD (e1 (H + 1) (by omega) (by omega))) mt_X1_weigh mv_X1_weigh lk_X1_107 rfl rfl rfl (by decide) rfl (Nat.le_of_ble_eq_true rfl) dX1_exploreBack_99 ?_
    rintro h2 w
    refine g_iinc (pc := 102) o dX1_exploreBack_102 rfl 1 rfl (by decide) ?_
    show ca_G Γ 4 _ _ [_, _, _, _] _
    refine g_goto (pc := 105) o 88 dX1_exploreBack_105 (by decide) ?_
    obtain ⟨w1, w2, w3⟩ := w
    refine ih (by omega) _ h2 (nI_1 D) (fun m hm hm2 c q hc hq => ?_) (fun c q hc hq => ?_) (fun c hc => (w3 c hc).trans (e3 c hc))
    · rw [w2 _ (fun y => by have := (row_inj hc iD y).1; omega)]
      exact e1 m hm hm2 c q hc hq
    · by_cases u : c = D
      · subst u; exact w1 q hq
      · rw [w2 _ (fun y => u (row_inj (by omega) iD y).2)]
        exact e2 c q (by omega) hq
set_option maxRecDepth 100000 in
set_option maxHeartbeats 400000 in
theorem lp_eb3 {Γ : Fr} (o : ca_O Γ cX1_exploreBack 4 RX1 3 71) {Pr : Option Value → Mem → Prop} (ρ : ca_R Γ none Pr) {h0 : Mem} {s : Nat → Int32} {p : Int32} {d : Nat} {X : Int32} (h5 : akN s X 12 ≤ 5) (P : PR h0 s p d X) (N : Nat) (eN : debF s X 12 = N) (hN : N < mlF (rxC s X) 12) (R : RE h0 N (fun m c q => q < 8 ∧ RCH (auC s p d X) m c q)) (x1 : Int32) (hp : ∀ h : Mem, (∀ m, m < 24 → TG h N (auC s p d X) m) → (∀ c, c ≠ 46 → h.1 c = h0.1 c) → Pr none h) : ∀ n, n ≤ 23 → ∀ (xn : Int32) (h : Mem) (v3 : Option Value), xn = nI n - 1 → (∀ m, n ≤ m → m < 24 → TG h N (auC s p d X) m) → (∀ c, c ≠ 46 → h.1 c = h0.1 c) → ca_G Γ 4 h 82 [some (.ref 38), some (.int x1), some (.int xn), v3] [] := by
  intro n
  induction n with
  | zero =>
    rintro _ xn h v3 rfl e1 e2
    refine g_iload_n (pc := 82) o dX1_exploreBack_82 rfl ?_
    refine g_if_lt (pc := 83) o 114 dX1_exploreBack_83 (by decide) (fun c83 => ?_) (fun c83 => ?_)
    · skip
      exact g_vret o ρ dX1_exploreBack_114 (hp h (fun m hm => e1 m (by omega) hm) e2)
    · skip
      exact absurd (by decide) c83
  | succ n ih =>
    rintro hn xn h v3 rfl e1 e2
    rw [nI_pred]
    have P2 : PR h s p d X := P.of (fun c hc => e2 c (by omega))
    have R2 := re_of R (e2 42 (by decide))
    refine g_iload_n (pc := 82) o dX1_exploreBack_82 rfl ?_
    refine g_if_lt (pc := 83) o 114 dX1_exploreBack_83 (by decide) (fun c83 => ?_) (fun c83 => ?_)
    · skip
      exact absurd c83 (nI_pos (by omega))
    · skip
      refine g_iconst (pc := 86) o dX1_exploreBack_86 0 rfl ?_
      refine g_istore_n (pc := 87) o dX1_exploreBack_87 (by decide) ?_
      show ca_G Γ 4 _ _ [_, _, _, _] _
      refine lp_eb4 o (h0 := h) h5 P2 N eN hN R2 n (by omega) x1 (fun h2 w3 a b => ?_) 0 (by omega) _ h rfl (fun m hm hm2 => e1 m (by omega) hm2) (fun c q hc _ => by omega) (fun c _ => rfl)
      refine g_iinc (pc := 108) o dX1_exploreBack_108 rfl (-1) rfl (by decide) ?_
      show ca_G Γ 4 _ _ [_, _, _, _] _
      refine g_goto (pc := 111) o 82 dX1_exploreBack_111 (by decide) ?_
      exact ih (by omega) _ h2 _ (Int32.sub_eq_add_neg _ _).symm a (fun c hc => (b c hc).trans (e2 c hc))
set_option maxRecDepth 100000 in
set_option maxHeartbeats 400000 in
theorem lp_eb2 {Γ : Fr} (o : ca_O Γ cX1_exploreBack 4 RX1 3 71) {h0 : Mem} {N : Nat} (f8 : h0.1 38 8 = nI N) (hN : N < 1024) (A : Au) (S : Int32) (hS : ∀ q, q < 8 → (bt S q = true ↔ RCH A 23 0 q)) (kk : ∀ (h : Mem) (v3 : Option Value), (∀ q, q < 8 → byteF (h.2 (23 * (N + 1) + 0)) q = nI (cbF A 23 0 q)) → (∀ j, j ≠ 23 * (N + 1) + 0 → h.2 j = h0.2 j) → h.1 = h0.1 → ca_G Γ 4 h 79 [some (.ref 38), some (.int S), some (.int (nI 8)), v3] []) : ∀ i, i ≤ 8 → ∀ (xi : Int32) (h : Mem) (v3 : Option Value), xi = nI i → (∀ q, q < 8 → byteF (h.2 (23 * (N + 1) + 0)) q = nI (if q < i then cbF A 23 0 q else 255)) → (∀ j, j ≠ 23 * (N + 1) + 0 → h.2 j = h0.2 j) → h.1 = h0.1 → ca_G Γ 4 h 46 [some (.ref 38), some (.int S), some (.int xi), v3] [] := by
  have rl := row_lt (m := 23) hN (by omega) (Nat.zero_le N)
  refine downI 8 (fun i hi ih => ?_)
  rintro xi h v3 rfl e1 e2 e3
  have f82 : h.1 38 8 = nI N := by rw [e3]; exact f8
  refine g_iload_n (pc := 46) o dX1_exploreBack_46 rfl ?_
  refine g_bipush (pc := 47) o dX1_exploreBack_47 8 rfl ?_
  refine g_ic_ge (pc := 49) o 79 dX1_exploreBack_49 (by decide) (fun c49 => ?_) (fun c49 => ?_)
  · skip
    have q : i = 8 := ge8 (n := 8) (by decide) (by omega) c49
    subst q
    exact kk h _ (fun q hq => by rw [e1 q hq, if_pos hq]) e2 e3
  · skip
    have iq : i < 8 := lt8 (n := 8) (by decide) (by omega) c49
    refine g_iload_n (pc := 52) o dX1_exploreBack_52 rfl ?_
    refine g_iload_n (pc := 53) o dX1_exploreBack_53 rfl ?_
    refine g_callNi (pc := 54) o (c_has S i (by omega) h) mt_X9_has ms_X9_has ln_X1_66 rfl (by decide) rfl (Nat.le_of_ble_eq_true rfl) dX1_exploreBack_54 ?_
    refine g_if_eq (pc := 57) o 73 dX1_exploreBack_57 (by decide) (fun c57 => ?_) (fun c57 => ?_)
    · skip
      have z := bI_0.mp c57
      refine g_iinc (pc := 73) o dX1_exploreBack_73 rfl 1 rfl (by decide) ?_
      show ca_G Γ 4 _ _ [_, _, _, _] _
      refine g_goto (pc := 76) o 46 dX1_exploreBack_76 (by decide) ?_
      refine ih iq _ h _ (nI_1 i) (fun q hq => ?_) e2 e3
      rw [e1 q hq]
      by_cases w : q = i
      · subst w
        rw [if_neg (Nat.lt_irrefl q), if_pos (by omega), cb_n (fun y => z ((hS q hq).mpr y.1))]
      · by_cases u : q < i
        · rw [if_pos u, if_pos (by omega)]
        · rw [if_neg u, if_neg (by omega)]
    · skip
      have z := bI_n0.mp c57
      have c0 : cbF A 23 0 i = 0 := cb_y ⟨(hS i iq).mp z, by show (if 0 = 0 then 0 else 1000) < 1000; decide⟩
      refine g_aload_n (pc := 60) o dX1_exploreBack_60 rfl ?_
      refine g_aload_n (pc := 61) o dX1_exploreBack_61 rfl ?_
      refine g_bipush (pc := 62) o dX1_exploreBack_62 23 rfl ?_
      refine g_iconst (pc := 64) o dX1_exploreBack_64 0 rfl ?_
      refine g_callVi (pc := 65) o (c_row f82 23 0) mt_X1_row mv_X1_row lk_X1_90 rfl rfl rfl (by decide) rfl (Nat.le_of_ble_eq_true rfl) dX1_exploreBack_65 ?_
      refine g_iload_n (pc := 68) o dX1_exploreBack_68 rfl ?_
      refine g_iconst (pc := 69) o dX1_exploreBack_69 0 rfl ?_
      refine g_callVv (pc := 70) o (c_setCost (h := h) (23 * (N + 1) + 0) i (nI 0) rl) mt_X1_setCost mv_X1_setCost lk_X1_104 rfl rfl rfl (by decide) rfl (Nat.le_of_ble_eq_true rfl) dX1_exploreBack_70 ?_
      refine g_iinc (pc := 73) o dX1_exploreBack_73 rfl 1 rfl (by decide) ?_
      show ca_G Γ 4 _ _ [_, _, _, _] _
      refine g_goto (pc := 76) o 46 dX1_exploreBack_76 (by decide) ?_
      refine ih iq _ _ _ (nI_1 i) (fun q hq => ?_) (fun j hj => (ml_off h _ hj).trans (e2 j hj)) e3
      rw [ml_at, se_by _ iq hq (by decide), e1 q hq]
      by_cases w : q = i
      · subst w
        rw [if_pos rfl, if_pos (by omega), c0]
      · rw [if_neg w]
        by_cases u : q < i
        · rw [if_pos u, if_pos (by omega)]
        · rw [if_neg u, if_neg (by omega)]
set_option maxRecDepth 100000 in
set_option maxHeartbeats 400000 in
theorem lp_eb1 {Γ : Fr} (o : ca_O Γ cX1_exploreBack 4 RX1 3 71) {h0 : Mem} {N : Nat} (f8 : h0.1 38 8 = nI N) (hN : N < 1024) (kk : ∀ (h : Mem) (v1 v2 v3 : Option Value), (∀ c, c ≤ N → h.2 (23 * (N + 1) + c) = -1) → h.1 = h0.1 → ca_G Γ 4 h 31 [some (.ref 38), v1, v2, v3] []) : ∀ D, D ≤ N + 1 → ∀ (xD : Int32) (h : Mem) (v2 v3 : Option Value), xD = nI D → (∀ c, c < D → h.2 (23 * (N + 1) + c) = -1) → h.1 = h0.1 → ca_G Γ 4 h 2 [some (.ref 38), some (.int xD), v2, v3] [] := by
  refine downI (N + 1) (fun D hD ih => ?_)
  rintro xD h v2 v3 rfl e1 e2
  have f82 : h.1 38 8 = nI N := by rw [e2]; exact f8
  refine g_iload_n (pc := 2) o dX1_exploreBack_2 rfl ?_
  refine g_aload_n (pc := 3) o dX1_exploreBack_3 rfl ?_
  refine g_getIE (pc := 4) o 8 rfl rfl rfl inX1 (by decide) lf_X1_59 (f82) dX1_exploreBack_4 ?_
  refine g_ic_gt (pc := 7) o 31 dX1_exploreBack_7 (by decide) (fun c7 => ?_) (fun c7 => ?_)
  · skip
    have q : D = N + 1 := by have := (nI_ltI (by omega) (by omega)).mp c7; omega
    subst q
    exact kk h _ _ _ (fun c hc => e1 c (by omega)) e2
  · skip
    have iD : D ≤ N := by have := mt (nI_ltI (a := N) (b := D) (by omega) (by omega)).mpr c7; omega
    have rl := row_lt (m := 23) hN (by omega) iD
    refine g_aload_n (pc := 10) o dX1_exploreBack_10 rfl ?_
    refine g_getR (pc := 11) o 4 rfl rfl rfl inX1 (by decide) lf_X1_24 dX1_exploreBack_11 ?_
    refine g_aload_n (pc := 14) o dX1_exploreBack_14 rfl ?_
    refine g_bipush (pc := 15) o dX1_exploreBack_15 23 rfl ?_
    refine g_iload_n (pc := 17) o dX1_exploreBack_17 rfl ?_
    refine g_callVi (pc := 18) o (c_row f82 23 D) mt_X1_row mv_X1_row lk_X1_90 rfl rfl rfl (by decide) rfl (Nat.le_of_ble_eq_true rfl) dX1_exploreBack_18 ?_
    refine g_ldc2 (pc := 21) o dX1_exploreBack_21 lc_X1_102 ?_
    refine n_last (pc := 24) o (23 * (N + 1) + D) (rfl) rfl ((by omega)) (by decide) dX1_exploreBack_24 ?_
    refine g_iinc (pc := 25) o dX1_exploreBack_25 rfl 1 rfl (by decide) ?_
    show ca_G Γ 4 _ _ [_, _, _, _] _
    refine g_goto (pc := 28) o 2 dX1_exploreBack_28 (by decide) ?_
    refine ih (by omega) _ _ _ _ (nI_1 D) (fun c hc => ?_) e2
    by_cases u : c = D
    · rw [u]; exact ml_at _ _ _
    · rw [ml_off h _ (by omega)]
      exact e1 c (by omega)
set_option maxRecDepth 100000 in
set_option maxHeartbeats 400000 in
theorem c_back {h : Mem} {s : Nat → Int32} {p : Int32} {d : Nat} {X : Int32} (h5 : akN s X 12 ≤ 5) (P : PR h s p d X) (N : Nat) (eN : debF s X 12 = N) (hN : N < mlF (rxC s X) 12) (R : RE h N (fun m c q => q < 8 ∧ RCH (auC s p d X) m c q)) : Ct yX1_exploreBack cX1_exploreBack 4 none 3 71 [.ref 38] h (Qv (fun h2 => (∀ m, m < 24 → TG h2 N (auC s p d X) m) ∧ ∀ c, c ≠ 46 → h2.1 c = h.1 c)) := by
  refine Ct.of (by decide) (Nat.le_of_ble_eq_true rfl) (fun Γ o ρ => ?_)
  show ca_G Γ 4 _ _ [_, _, _, _] _
  have l := ml_1024 h5
  have f8 : h.1 38 8 = nI N := by rw [← eN]; exact P.2.2.1
  have rl := row_lt (m := 23) (by omega : N < 1024) (by omega) (Nat.zero_le N)
  refine g_iconst (pc := 0) o dX1_exploreBack_0 0 rfl ?_
  refine g_istore_n (pc := 1) o dX1_exploreBack_1 (by decide) ?_
  show ca_G Γ 4 _ _ [_, _, _, _] _
  refine lp_eb1 o (h0 := h) f8 (by omega) (fun h1 v1 v2 v3 a1 a2 => ?_) 0 (by omega) _ h _ _ rfl (fun c hc => by omega) rfl
  have f81 : h1.1 38 8 = nI N := by rw [a2]; exact f8
  have hS : ∀ q, q < 8 → (bt (h1.1 42 (23 * (N + 1) + 0)) q = true ↔ RCH (auC s p d X) 23 0 q) := fun q hq => by
    rw [a2, R 23 0 q (by omega) (Nat.zero_le N) (by omega)]
    exact ⟨fun y => y.2, fun y => ⟨hq, y⟩⟩
  refine g_aload_n (pc := 31) o dX1_exploreBack_31 rfl ?_
  refine g_getR (pc := 32) o 3 rfl rfl rfl inX1 (by decide) lf_X1_21 dX1_exploreBack_32 ?_
  refine g_aload_n (pc := 35) o dX1_exploreBack_35 rfl ?_
  refine g_bipush (pc := 36) o dX1_exploreBack_36 23 rfl ?_
  refine g_iconst (pc := 38) o dX1_exploreBack_38 0 rfl ?_
  refine g_callVi (pc := 39) o (c_row f81 23 0) mt_X1_row mv_X1_row lk_X1_90 rfl rfl rfl (by decide) rfl (Nat.le_of_ble_eq_true rfl) dX1_exploreBack_39 ?_
  refine n_iald (pc := 42) o (23 * (N + 1) + 0) (rfl) rfl ((by omega)) (by decide) dX1_exploreBack_42 ?_
  refine g_istore_n (pc := 43) o dX1_exploreBack_43 (by decide) ?_
  show ca_G Γ 4 _ _ [_, _, _, _] _
  refine g_iconst (pc := 44) o dX1_exploreBack_44 0 rfl ?_
  refine g_istore_n (pc := 45) o dX1_exploreBack_45 (by decide) ?_
  show ca_G Γ 4 _ _ [_, _, _, _] _
  refine lp_eb2 o (h0 := h1) f81 (by omega) (auC s p d X) (h1.1 42 (23 * (N + 1) + 0)) hS (fun h2 w3 b1 b2 b3 => ?_) 0 (by omega) _ h1 _ rfl (fun q hq => ?_) (fun _ _ => rfl) rfl
  · have E23 : TG h2 N (auC s p d X) 23 := fun c q hc hq => by
      by_cases u : c = 0
      · subst u; exact b1 q hq
      · rw [b2 _ (fun y => u (by omega)), a1 c hc, by_m1 q hq, cb_n (fun y => ?_)]
        have y2 : (if c = 0 then 0 else 1000) < 1000 := y.2
        rw [if_neg u] at y2
        exact absurd y2 (Nat.lt_irrefl 1000)
    have P2 : PR h2 s p d X := P.of (fun c _ => by rw [b3, a2])
    have R2 := re_of (h2 := h2) R (by rw [b3, a2])
    refine g_bipush (pc := 79) o dX1_exploreBack_79 22 rfl ?_
    refine g_istore_n (pc := 81) o dX1_exploreBack_81 (by decide) ?_
    show ca_G Γ 4 _ _ [_, _, _, _] _
    refine lp_eb3 o ρ (h0 := h2) h5 P2 N eN hN R2 _ (fun h3 a b => ⟨rfl, a, fun c hc => ?_⟩) 23 (by omega) _ h2 _ rfl (fun m hm hm2 => ?_) (fun c _ => rfl)
    · rw [b c hc, b3, a2]
    · obtain rfl : m = 23 := by omega
      exact E23
  · rw [a1 0 (Nat.zero_le N), by_m1 q hq, if_neg (by omega)]
set_option maxRecDepth 100000 in
set_option maxHeartbeats 400000 in
theorem lp_pi2 {Γ : Fr} (o : ca_O Γ cX1_placesIn 6 RX1 1 22) {h : Mem} {N : Nat} (A : Au) (H D : Nat) (rl : H * (N + 1) + D < 24576) (hD : D ≤ N) (E : TG h N A H) (Z : Nat → Prop) (kk : ∀ (x : Int32) (v4 v5 : Option Value), (∀ q, q < 32 → (bt x q = true ↔ Z q ∨ (q < 8 ∧ cbF A H D q < 255))) → ca_G Γ 6 h 71 [some (.ref 38), some (.int (nI H)), some (.int x), some (.int (nI D)), v4, v5] []) : ∀ i, i ≤ 8 → ∀ (xi x : Int32), xi = nI i → (∀ q, q < 32 → (bt x q = true ↔ Z q ∨ (q < i ∧ cbF A H D q < 255))) → ca_G Γ 6 h 23 [some (.ref 38), some (.int (nI H)), some (.int x), some (.int (nI D)), some (.int (nI (H * (N + 1) + D))), some (.int xi)] [] := by
  refine downI 8 (fun i hi ih => ?_)
  rintro xi x rfl e1
  refine g_aload_n (pc := 23) o dX1_placesIn_23 rfl ?_
  refine g_getR (pc := 24) o 4 rfl rfl rfl inX1 (by decide) lf_X1_24 dX1_placesIn_24 ?_
  refine g_iload (pc := 27) o dX1_placesIn_27 rfl ?_
  refine n_lald (pc := 29) o (H * (N + 1) + D) (rfl) rfl ((by omega)) (by decide) dX1_placesIn_29 ?_
  refine g_ldc2 (pc := 30) o dX1_placesIn_30 lc_X1_102 ?_
  refine g_lcmp (pc := 33) o dX1_placesIn_33 ?_
  refine g_if_eq (pc := 34) o 71 dX1_placesIn_34 (by decide) (fun c34 => ?_) (fun c34 => ?_)
  · skip
    have z := (lg_cmp_eq _ _).mp c34
    have n255 : ∀ q, q < 8 → cbF A H D q = 255 := fun q hq => by
      have := E D q hD hq
      rw [z, by_m1 q hq] at this
      exact ((nI_eq (by decide) (by have := cb_le A H D q; omega)).mp this).symm
    refine kk x _ _ (fun q hq => ?_)
    rw [e1 q hq]
    constructor
    · rintro (a | ⟨a, b⟩)
      · exact Or.inl a
      · rw [n255 q (by omega)] at b; exact absurd b (Nat.lt_irrefl 255)
    · rintro (a | ⟨a, b⟩)
      · exact Or.inl a
      · rw [n255 q (by omega)] at b; exact absurd b (Nat.lt_irrefl 255)
  · skip
    refine g_iload (pc := 37) o dX1_placesIn_37 rfl ?_
    refine g_bipush (pc := 39) o dX1_placesIn_39 8 rfl ?_
    refine g_ic_ge (pc := 41) o 71 dX1_placesIn_41 (by decide) (fun c41 => ?_) (fun c41 => ?_)
    · skip
      have q : i = 8 := ge8 (n := 8) (by decide) (by omega) c41
      subst q
      exact kk x _ _ e1
    · skip
      have iq : i < 8 := lt8 (n := 8) (by decide) (by omega) c41
      have cc := c_cost (h := h) (H * (N + 1) + D) i rl
      rw [E D i hD iq] at cc
      have cl := cb_le A H D i
      refine g_aload_n (pc := 44) o dX1_placesIn_44 rfl ?_
      refine g_iload (pc := 45) o dX1_placesIn_45 rfl ?_
      refine g_iload (pc := 47) o dX1_placesIn_47 rfl ?_
      refine g_callVi (pc := 49) o (cc) mt_X1_cost mv_X1_cost lk_X1_117 rfl rfl rfl (by decide) rfl (Nat.le_of_ble_eq_true rfl) dX1_placesIn_49 ?_
      refine g_sipush (pc := 52) o dX1_placesIn_52 255 rfl ?_
      refine g_ic_eq (pc := 55) o 65 dX1_placesIn_55 (by decide) (fun c55 => ?_) (fun c55 => ?_)
      · skip
        have z := (nI_eq (a := cbF A H D i) (b := 255) (by omega) (by decide)).mp c55
        refine g_iinc (pc := 65) o dX1_placesIn_65 rfl 1 rfl (by decide) ?_
        show ca_G Γ 6 _ _ [_, _, _, _, _, _] _
        refine g_goto (pc := 68) o 23 dX1_placesIn_68 (by decide) ?_
        refine ih iq _ x (nI_1 i) (fun q hq => ?_)
        rw [e1 q hq]
        constructor
        · rintro (a | ⟨a, b⟩)
          · exact Or.inl a
          · exact Or.inr ⟨by omega, b⟩
        · rintro (a | ⟨a, b⟩)
          · exact Or.inl a
          · refine Or.inr ⟨?_, b⟩
            by_cases u : q = i
            · subst u; omega
            · omega
      · skip
        have z : cbF A H D i < 255 := by
          have := mt (nI_eq (a := cbF A H D i) (b := 255) (by omega) (by decide)).mpr c55
          omega
        refine g_iload_n (pc := 58) o dX1_placesIn_58 rfl ?_
        refine g_iconst (pc := 59) o dX1_placesIn_59 1 rfl ?_
        refine g_iload (pc := 60) o dX1_placesIn_60 rfl ?_
        refine g_ishl (pc := 62) o dX1_placesIn_62 ?_
        refine g_ior (pc := 63) o dX1_placesIn_63 ?_
        refine g_istore_n (pc := 64) o dX1_placesIn_64 (by decide) ?_
        show ca_G Γ 6 _ _ [_, _, _, _, _, _] _
        refine g_iinc (pc := 65) o dX1_placesIn_65 rfl 1 rfl (by decide) ?_
        show ca_G Γ 6 _ _ [_, _, _, _, _, _] _
        refine g_goto (pc := 68) o 23 dX1_placesIn_68 (by decide) ?_
        refine ih iq _ _ (nI_1 i) (fun q hq => ?_)
        rw [b_or, bt_sh (by omega) hq, Bool.or_eq_true, decide_eq_true_eq, e1 q hq]
        constructor
        · rintro ((a | ⟨a, b⟩) | a)
          · exact Or.inl a
          · exact Or.inr ⟨by omega, b⟩
          · subst a; exact Or.inr ⟨by omega, z⟩
        · rintro (a | ⟨a, b⟩)
          · exact Or.inl (Or.inl a)
          · by_cases u : q = i
            · exact Or.inr u
            · exact Or.inl (Or.inr ⟨by omega, b⟩)
set_option maxRecDepth 100000 in
set_option maxHeartbeats 400000 in
theorem lp_pi1 {Γ : Fr} (o : ca_O Γ cX1_placesIn 6 RX1 1 22) {Pr : Option Value → Mem → Prop} (ρ : ca_R Γ (some .int) Pr) {h : Mem} {N : Nat} (f8 : h.1 38 8 = nI N) (hN : N < 1024) (A : Au) (H : Nat) (hH : H < 24) (E : TG h N A H) (hp : ∀ x : Int32, (∀ q, q < 32 → (bt x q = true ↔ q < 8 ∧ ∃ c, c ≤ N ∧ cbF A H c q < 255)) → Pr (some (.int x)) h) : ∀ D, D ≤ N + 1 → ∀ (xD x : Int32) (v4 v5 : Option Value), xD = nI D → (∀ q, q < 32 → (bt x q = true ↔ q < 8 ∧ ∃ c, c < D ∧ cbF A H c q < 255)) → ca_G Γ 6 h 4 [some (.ref 38), some (.int (nI H)), some (.int x), some (.int xD), v4, v5] [] := by
  refine downI (N + 1) (fun D hD ih => ?_)
  rintro xD x v4 v5 rfl e1
  refine g_iload_n (pc := 4) o dX1_placesIn_4 rfl ?_
  refine g_aload_n (pc := 5) o dX1_placesIn_5 rfl ?_
  refine g_getIE (pc := 6) o 8 rfl rfl rfl inX1 (by decide) lf_X1_59 (f8) dX1_placesIn_6 ?_
  refine g_ic_gt (pc := 9) o 77 dX1_placesIn_9 (by decide) (fun c9 => ?_) (fun c9 => ?_)
  · skip
    have q : D = N + 1 := by have := (nI_ltI (by omega) (by omega)).mp c9; omega
    subst q
    refine g_iload_n (pc := 77) o dX1_placesIn_77 rfl ?_
    exact g_iret o ρ dX1_placesIn_78 (hp x (fun q hq => by rw [e1 q hq]; exact ⟨fun ⟨a, c, b, z⟩ => ⟨a, c, by omega, z⟩, fun ⟨a, c, b, z⟩ => ⟨a, c, by omega, z⟩⟩))
  · skip
    have iD : D ≤ N := by have := mt (nI_ltI (a := N) (b := D) (by omega) (by omega)).mpr c9; omega
    have rl := row_lt (m := H) hN hH iD
    refine g_aload_n (pc := 12) o dX1_placesIn_12 rfl ?_
    refine g_iload_n (pc := 13) o dX1_placesIn_13 rfl ?_
    refine g_iload_n (pc := 14) o dX1_placesIn_14 rfl ?_
    refine g_callVi (pc := 15) o (c_row f8 H D) mt_X1_row mv_X1_row lk_X1_90 rfl rfl rfl (by decide) rfl (Nat.le_of_ble_eq_true rfl) dX1_placesIn_15 ?_
    refine g_istore (pc := 18) o dX1_placesIn_18 (by decide) ?_
    show ca_G Γ 6 _ _ [_, _, _, _, _, _] _
    refine g_iconst (pc := 20) o dX1_placesIn_20 0 rfl ?_
    refine g_istore (pc := 21) o dX1_placesIn_21 (by decide) ?_
    show ca_G Γ 6 _ _ [_, _, _, _, _, _] _
    refine lp_pi2 o A H D rl iD E (fun q => q < 8 ∧ ∃ c, c < D ∧ cbF A H c q < 255) (fun y v4 v5 e2 => ?_) 0 (by omega) _ x rfl (fun q hq => ?_)
    · skip
      refine g_iinc (pc := 71) o dX1_placesIn_71 rfl 1 rfl (by decide) ?_
      show ca_G Γ 6 _ _ [_, _, _, _, _, _] _
      refine g_goto (pc := 74) o 4 dX1_placesIn_74 (by decide) ?_
      refine ih (by omega) _ y _ _ (nI_1 D) (fun q hq => ?_)
      rw [e2 q hq]
      constructor
      · rintro (⟨a, c, b, z⟩ | ⟨a, z⟩)
        · exact ⟨a, c, by omega, z⟩
        · exact ⟨a, D, by omega, z⟩
      · rintro ⟨a, c, b, z⟩
        by_cases u : c = D
        · subst u; exact Or.inr ⟨a, z⟩
        · exact Or.inl ⟨a, c, by omega, z⟩
    · rw [e1 q hq]
      exact ⟨Or.inl, fun y => y.elim id (fun z => by omega)⟩
set_option maxRecDepth 100000 in
set_option maxHeartbeats 400000 in
theorem c_placesIn {h : Mem} {N : Nat} (f8 : h.1 38 8 = nI N) (hN : N < 1024) (A : Au) (H : Nat) (hH : H < 24) (E : TG h N A H) : Ct yX1_placesIn cX1_placesIn 6 (some .int) 1 22 [.ref 38, .int (nI H)] h (Qi (fun x h2 => h2 = h ∧ ∀ q, q < 32 → (bt x q = true ↔ q < 8 ∧ ∃ c, c ≤ N ∧ cbF A H c q < 255))) := by
  refine Ct.of (by decide) (Nat.le_of_ble_eq_true rfl) (fun Γ o ρ => ?_)
  show ca_G Γ 6 _ _ [_, _, _, _, _, _] _
  refine g_iconst (pc := 0) o dX1_placesIn_0 0 rfl ?_
  refine g_istore_n (pc := 1) o dX1_placesIn_1 (by decide) ?_
  show ca_G Γ 6 _ _ [_, _, _, _, _, _] _
  refine g_iconst (pc := 2) o dX1_placesIn_2 0 rfl ?_
  refine g_istore_n (pc := 3) o dX1_placesIn_3 (by decide) ?_
  show ca_G Γ 6 _ _ [_, _, _, _, _, _] _
  exact lp_pi1 o ρ f8 hN A H hH E (fun x a => ⟨_, rfl, rfl, a⟩) 0 (by omega) _ _ _ _ rfl (fun q hq => by rw [show bt 0 q = false from b_0 q]; exact ⟨fun z => (by cases z), fun ⟨_, c, z, _⟩ => by omega⟩)

