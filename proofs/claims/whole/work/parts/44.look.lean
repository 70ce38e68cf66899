/-! ===== the class looks ahead; the least of what lies ahead ===== -/
theorem by_m1 : ∀ q, q < 8 → byteF (-1) q = nI 255 := by decide +kernel
abbrev TG (h : Mem) (N : Nat) (A : Au) (m : Nat) : Prop := ∀ c q, c ≤ N → q < 8 → byteF (h.2 (m * (N + 1) + c)) q = nI (cbF A m c q)
theorem ml_1 (h : Mem) (i : Nat) (v : Int64) : (ml h i v).1 = h.1 := rfl
theorem ml_at (h : Mem) (i : Nat) (v : Int64) : (ml h i v).2 i = v := if_pos rfl
theorem ml_off (h : Mem) {i j : Nat} (v : Int64) (hj : j ≠ i) : (ml h i v).2 j = h.2 j := if_neg hj
set_option maxRecDepth 100000 in
set_option maxHeartbeats 400000 in
theorem lp_look {Γ : Fr} (o : ca_O Γ cX1_lookAhead 4 RX1 1 23) {Pr : Option Value → Mem → Prop} (ρ : ca_R Γ none Pr) {h0 : Mem} {s : Nat → Int32} {p : Int32} {d : Nat} {X : Int32} (h5 : akN s X 12 ≤ 5) (P : PR h0 s p d X) (N : Nat) (eN : debF s X 12 = N) (hN : N < mlF (rxC s X) 12) (H D : Nat) (hH : H < 23) (hD : D ≤ N) (E : TG h0 N (auC s p d X) (H + 1)) (hp : ∀ h : Mem, (∀ q, q < 8 → h.1 46 q = nI (cbF (auC s p d X) (H + 1) ((auC s p d X).nx D (H + 1) q) q)) → (∀ c, c ≠ 46 → h.1 c = h0.1 c) → h.2 = h0.2 → Pr none h) : ∀ i, i ≤ 8 → ∀ (xi : Int32) (h : Mem), xi = nI i → (∀ q, q < i → h.1 46 q = nI (cbF (auC s p d X) (H + 1) ((auC s p d X).nx D (H + 1) q) q)) → (∀ c, c ≠ 46 → h.1 c = h0.1 c) → h.2 = h0.2 → ca_G Γ 4 h 2 [some (.ref 38), some (.int (nI H)), some (.int (nI D)), some (.int xi)] [] := by
  have l := ml_1024 h5
  refine downI 8 (fun i hi ih => ?_)
  rintro xi h rfl e1 e2 e3
  have P2 : PR h s p d X := P.of (fun c hc => e2 c (by omega))
  have f8 : h.1 38 8 = nI N := by rw [← eN]; exact P2.2.2.1
  refine g_iload_n (pc := 2) o dX1_lookAhead_2 rfl ?_
  refine g_bipush (pc := 3) o dX1_lookAhead_3 8 rfl ?_
  refine g_ic_ge (pc := 5) o 41 dX1_lookAhead_5 (by decide) (fun c5 => ?_) (fun c5 => ?_)
  · skip
    have q : i = 8 := ge8 (n := 8) (by decide) (by omega) c5
    subst q
    exact g_vret o ρ dX1_lookAhead_41 (hp h e1 e2 e3)
  · skip
    have iq : i < 8 := lt8 (n := 8) (by decide) (by omega) c5
    have nl : (auC s p d X).nx D (H + 1) i ≤ N := Nat.le_trans (nx_le (by omega)) hD
    have rl := row_lt (m := H + 1) (by omega : N < 1024) (by omega) nl
    have sj : nI H + 1 = nI (H + 1) := nI_1 H
    refine g_aload_n (pc := 8) o dX1_lookAhead_8 rfl ?_
    refine g_getR (pc := 9) o 7 rfl rfl rfl inX1 (by decide) lf_X1_34 dX1_lookAhead_9 ?_
    refine g_iload_n (pc := 12) o dX1_lookAhead_12 rfl ?_
    refine g_aload_n (pc := 13) o dX1_lookAhead_13 rfl ?_
    refine g_aload_n (pc := 14) o dX1_lookAhead_14 rfl ?_
    refine g_iload_n (pc := 15) o dX1_lookAhead_15 rfl ?_
    refine g_iconst (pc := 16) o dX1_lookAhead_16 1 rfl ?_
    refine g_iadd (pc := 17) o dX1_lookAhead_17 ?_
    rw [sj]
    refine g_aload_n (pc := 18) o dX1_lookAhead_18 rfl ?_
    refine g_iload_n (pc := 19) o dX1_lookAhead_19 rfl ?_
    refine g_iload_n (pc := 20) o dX1_lookAhead_20 rfl ?_
    refine g_iconst (pc := 21) o dX1_lookAhead_21 1 rfl ?_
    refine g_iadd (pc := 22) o dX1_lookAhead_22 ?_
    rw [sj]
    refine g_iload_n (pc := 23) o dX1_lookAhead_23 rfl ?_
    refine g_callVi (pc := 24) o (c_pay h5 P2 D (H + 1) i (by omega) (by omega) iq) mt_X1_pay mv_X1_pay lk_X1_98 rfl rfl rfl (by decide) rfl (Nat.le_of_ble_eq_true rfl) dX1_lookAhead_24 ?_
    refine g_callVi (pc := 27) o (c_row f8 (H + 1) ((auC s p d X).nx D (H + 1) i)) mt_X1_row mv_X1_row lk_X1_90 rfl rfl rfl (by decide) rfl (Nat.le_of_ble_eq_true rfl) dX1_lookAhead_27 ?_
    refine g_iload_n (pc := 30) o dX1_lookAhead_30 rfl ?_
    refine g_callVi (pc := 31) o (c_cost (h := h) ((H + 1) * (N + 1) + (auC s p d X).nx D (H + 1) i) i rl) mt_X1_cost mv_X1_cost lk_X1_117 rfl rfl rfl (by decide) rfl (Nat.le_of_ble_eq_true rfl) dX1_lookAhead_31 ?_
    refine n_iast (pc := 34) o i (rfl) rfl ((by omega)) (by decide) dX1_lookAhead_34 ?_
    refine g_iinc (pc := 35) o dX1_lookAhead_35 rfl 1 rfl (by decide) ?_
    show ca_G Γ 4 _ _ [_, _, _, _] _
    refine g_goto (pc := 38) o 2 dX1_lookAhead_38 (by decide) ?_
    refine ih iq _ _ (nI_1 i) (fun q hq => ?_) (fun c hc => (mw_ne _ _ _ hc).trans (e2 c hc)) e3
    rw [mw_same]
    unfold upd
    by_cases w : q = i
    · subst w
      rw [if_pos rfl, e3]
      exact E _ q nl iq
    · rw [if_neg w]; exact e1 q (by omega)
set_option maxRecDepth 100000 in
set_option maxHeartbeats 400000 in
theorem c_look {h : Mem} {s : Nat → Int32} {p : Int32} {d : Nat} {X : Int32} (h5 : akN s X 12 ≤ 5) (P : PR h s p d X) (N : Nat) (eN : debF s X 12 = N) (hN : N < mlF (rxC s X) 12) (H D : Nat) (hH : H < 23) (hD : D ≤ N) (E : TG h N (auC s p d X) (H + 1)) : Ct yX1_lookAhead cX1_lookAhead 4 none 1 23 [.ref 38, .int (nI H), .int (nI D)] h (Qv (fun h2 => (∀ q, q < 8 → h2.1 46 q = nI (cbF (auC s p d X) (H + 1) ((auC s p d X).nx D (H + 1) q) q)) ∧ (∀ c, c ≠ 46 → h2.1 c = h.1 c) ∧ h2.2 = h.2)) := by
  refine Ct.of (by decide) (Nat.le_of_ble_eq_true rfl) (fun Γ o ρ => ?_)
  show ca_G Γ 4 _ _ [_, _, _, _] _
  refine g_iconst (pc := 0) o dX1_lookAhead_0 0 rfl ?_
  refine g_istore_n (pc := 1) o dX1_lookAhead_1 (by decide) ?_
  show ca_G Γ 4 _ _ [_, _, _, _] _
  exact lp_look o ρ (h0 := h) h5 P N eN hN H D hH hD E (fun h2 a b c => ⟨rfl, a, b, c⟩) 0 (by omega) _ h rfl (fun q hq => by omega) (fun c _ => rfl) rfl
set_option maxRecDepth 100000 in
set_option maxHeartbeats 400000 in
theorem lp_least {Γ : Fr} (o : ca_O Γ cX1_leastCost 4 RX1 1 21) {Pr : Option Value → Mem → Prop} (ρ : ca_R Γ (some .int) Pr) {h : Mem} {s : Nat → Int32} (e40 : ∀ q, q < 8 → h.1 40 q = stpF s q) (a : Nat → Nat) (ha : ∀ q, q < 8 → a q ≤ 255) (e46 : ∀ q, q < 8 → h.1 46 q = nI (a q)) (z : Nat) (hz : z < 8) (hp : Pr (some (.int (nI (lcN a (stpF s z) z 8)))) h) : ∀ i, i ≤ 8 → ∀ (xi y : Int32), xi = nI i → y = nI (lcN a (stpF s z) z i) → ca_G Γ 4 h 9 [some (.ref 38), some (.int (nI z)), some (.int y), some (.int xi)] [] := by
  refine downI 8 (fun i hi ih => ?_)
  rintro xi y rfl rfl
  have lz := lc_z a (stpF s z) z i
  have az := ha z hz
  refine g_iload_n (pc := 9) o dX1_leastCost_9 rfl ?_
  refine g_bipush (pc := 10) o dX1_leastCost_10 8 rfl ?_
  refine g_ic_ge (pc := 12) o 55 dX1_leastCost_12 (by decide) (fun c12 => ?_) (fun c12 => ?_)
  · skip
    have q : i = 8 := ge8 (n := 8) (by decide) (by omega) c12
    subst q
    refine g_iload_n (pc := 55) o dX1_leastCost_55 rfl ?_
    exact g_iret o ρ dX1_leastCost_56 hp
  · skip
    have iq : i < 8 := lt8 (n := 8) (by decide) (by omega) c12
    have ai := ha i iq
    refine g_aload_n (pc := 15) o dX1_leastCost_15 rfl ?_
    refine g_getR (pc := 16) o 7 rfl rfl rfl inX1 (by decide) lf_X1_34 dX1_leastCost_16 ?_
    refine g_iload_n (pc := 19) o dX1_leastCost_19 rfl ?_
    refine n_ialdE (pc := 20) o i (rfl) rfl ((by omega)) (by decide) (e46 i iq) dX1_leastCost_20 ?_
    refine g_iconst (pc := 21) o dX1_leastCost_21 1 rfl ?_
    refine g_iadd (pc := 22) o dX1_leastCost_22 ?_
    rw [show nI (a i) + 1 = nI (a i + 1) from nI_1 _]
    refine g_iload_n (pc := 23) o dX1_leastCost_23 rfl ?_
    refine g_ic_ge (pc := 24) o 49 dX1_leastCost_24 (by decide) (fun c24 => ?_) (fun c24 => ?_)
    · skip
      have w := (nI_leI (by omega) (by omega)).mp c24
      refine g_iinc (pc := 49) o dX1_leastCost_49 rfl 1 rfl (by decide) ?_
      show ca_G Γ 4 _ _ [_, _, _, _] _
      refine g_goto (pc := 52) o 9 dX1_leastCost_52 (by decide) ?_
      exact ih iq _ _ (nI_1 i) (by rw [lcN_s, if_neg (fun u => by have := u.1; omega)])
    · skip
      have w : a i + 1 < lcN a (stpF s z) z i := by have := mt (nI_leI (by omega) (by omega)).mpr c24; omega
      refine g_aload_n (pc := 27) o dX1_leastCost_27 rfl ?_
      refine g_getR (pc := 28) o 1 rfl rfl rfl inX1 (by decide) lf_X1_15 dX1_leastCost_28 ?_
      refine g_iload_n (pc := 31) o dX1_leastCost_31 rfl ?_
      refine n_ialdE (pc := 32) o z (rfl) rfl ((by omega)) (by decide) (e40 z hz) dX1_leastCost_32 ?_
      refine g_iload_n (pc := 33) o dX1_leastCost_33 rfl ?_
      refine g_callNi (pc := 34) o (c_has (stpF s z) i (by omega) h) mt_X9_has ms_X9_has ln_X1_66 rfl (by decide) rfl (Nat.le_of_ble_eq_true rfl) dX1_leastCost_34 ?_
      refine g_if_eq (pc := 37) o 49 dX1_leastCost_37 (by decide) (fun c37 => ?_) (fun c37 => ?_)
      · skip
        have u := bI_0.mp c37
        refine g_iinc (pc := 49) o dX1_leastCost_49 rfl 1 rfl (by decide) ?_
        show ca_G Γ 4 _ _ [_, _, _, _] _
        refine g_goto (pc := 52) o 9 dX1_leastCost_52 (by decide) ?_
        exact ih iq _ _ (nI_1 i) (by rw [lcN_s, if_neg (fun v => u v.2)])
      · skip
        have u := bI_n0.mp c37
        refine g_aload_n (pc := 40) o dX1_leastCost_40 rfl ?_
        refine g_getR (pc := 41) o 7 rfl rfl rfl inX1 (by decide) lf_X1_34 dX1_leastCost_41 ?_
        refine g_iload_n (pc := 44) o dX1_leastCost_44 rfl ?_
        refine n_ialdE (pc := 45) o i (rfl) rfl ((by omega)) (by decide) (e46 i iq) dX1_leastCost_45 ?_
        refine g_iconst (pc := 46) o dX1_leastCost_46 1 rfl ?_
        refine g_iadd (pc := 47) o dX1_leastCost_47 ?_
        refine g_istore_n (pc := 48) o dX1_leastCost_48 (by decide) ?_
        show ca_G Γ 4 _ _ [_, _, _, _] _
        refine g_iinc (pc := 49) o dX1_leastCost_49 rfl 1 rfl (by decide) ?_
        show ca_G Γ 4 _ _ [_, _, _, _] _
        refine g_goto (pc := 52) o 9 dX1_leastCost_52 (by decide) ?_
        exact ih iq _ _ (nI_1 i) (by rw [lcN_s, if_pos ⟨w, u⟩]; exact nI_1 _)
set_option maxRecDepth 100000 in
set_option maxHeartbeats 400000 in
theorem c_least {h : Mem} {s : Nat → Int32} (e40 : ∀ q, q < 8 → h.1 40 q = stpF s q) (a : Nat → Nat) (ha : ∀ q, q < 8 → a q ≤ 255) (e46 : ∀ q, q < 8 → h.1 46 q = nI (a q)) (z : Nat) (hz : z < 8) : Ct yX1_leastCost cX1_leastCost 4 (some .int) 1 21 [.ref 38, .int (nI z)] h (Ei (nI (lcN a (stpF s z) z 8)) h) := by
  refine Ct.of (by decide) (Nat.le_of_ble_eq_true rfl) (fun Γ o ρ => ?_)
  show ca_G Γ 4 _ _ [_, _, _, _] _
  refine g_aload_n (pc := 0) o dX1_leastCost_0 rfl ?_
  refine g_getR (pc := 1) o 7 rfl rfl rfl inX1 (by decide) lf_X1_34 dX1_leastCost_1 ?_
  refine g_iload_n (pc := 4) o dX1_leastCost_4 rfl ?_
  refine n_ialdE (pc := 5) o z (rfl) rfl ((by omega)) (by decide) (e46 z hz) dX1_leastCost_5 ?_
  refine g_istore_n (pc := 6) o dX1_leastCost_6 (by decide) ?_
  show ca_G Γ 4 _ _ [_, _, _, _] _
  refine g_iconst (pc := 7) o dX1_leastCost_7 0 rfl ?_
  refine g_istore_n (pc := 8) o dX1_leastCost_8 (by decide) ?_
  show ca_G Γ 4 _ _ [_, _, _, _] _
  exact lp_least o ρ e40 a ha e46 z hz ⟨rfl, rfl⟩ 0 (by omega) _ _ rfl rfl
set_option maxRecDepth 100000 in
set_option maxHeartbeats 400000 in
theorem lp_weigh {Γ : Fr} (o : ca_O Γ cX1_weigh 6 RX1 2 46) {Pr : Option Value → Mem → Prop} (ρ : ca_R Γ none Pr) {h0 : Mem} {s : Nat → Int32} (e40 : ∀ q, q < 8 → h0.1 40 q = stpF s q) (A : Au) (eA : A.s = s) (H D r : Nat) (hH : H < 23) (hr : r < 24576) (e46 : ∀ q, q < 8 → h0.1 46 q = nI (cbF A (H + 1) (A.nx D (H + 1) q) q)) (S : Int32) (hS : ∀ q, q < 8 → (bt S q = true ↔ RCH A H D q)) (hp : ∀ h : Mem, (∀ q, q < 8 → byteF (h.2 r) q = nI (cbF A H D q)) → (∀ j, j ≠ r → h.2 j = h0.2 j) → h.1 = h0.1 → Pr none h) : ∀ i, i ≤ 8 → ∀ (xi : Int32) (h : Mem), xi = nI i → (∀ q, q < 8 → byteF (h.2 r) q = nI (if q < i then cbF A H D q else 255)) → (∀ j, j ≠ r → h.2 j = h0.2 j) → h.1 = h0.1 → ca_G Γ 6 h 39 [some (.ref 38), some (.int (nI H)), some (.int (nI D)), some (.int (nI r)), some (.int S), some (.int xi)] [] := by
  refine downI 8 (fun i hi ih => ?_)
  rintro xi h rfl e1 e2 e3
  refine g_iload (pc := 39) o dX1_weigh_39 rfl ?_
  refine g_bipush (pc := 41) o dX1_weigh_41 8 rfl ?_
  refine g_ic_ge (pc := 43) o 75 dX1_weigh_43 (by decide) (fun c43 => ?_) (fun c43 => ?_)
  · skip
    have q : i = 8 := ge8 (n := 8) (by decide) (by omega) c43
    subst q
    exact g_vret o ρ dX1_weigh_75 (hp h (fun q hq => by rw [e1 q hq, if_pos hq]) e2 e3)
  · skip
    have iq : i < 8 := lt8 (n := 8) (by decide) (by omega) c43
    refine g_iload (pc := 46) o dX1_weigh_46 rfl ?_
    refine g_iload (pc := 48) o dX1_weigh_48 rfl ?_
    refine g_callNi (pc := 50) o (c_has S i (by omega) h) mt_X9_has ms_X9_has ln_X1_66 rfl (by decide) rfl (Nat.le_of_ble_eq_true rfl) dX1_weigh_50 ?_
    refine g_if_eq (pc := 53) o 69 dX1_weigh_53 (by decide) (fun c53 => ?_) (fun c53 => ?_)
    · skip
      have z := bI_0.mp c53
      refine g_iinc (pc := 69) o dX1_weigh_69 rfl 1 rfl (by decide) ?_
      show ca_G Γ 6 _ _ [_, _, _, _, _, _] _
      refine g_goto (pc := 72) o 39 dX1_weigh_72 (by decide) ?_
      refine ih iq _ h (nI_1 i) (fun q hq => ?_) e2 e3
      rw [e1 q hq]
      by_cases w : q = i
      · subst w
        rw [if_neg (Nat.lt_irrefl q), if_pos (by omega), cb_n (fun y => z ((hS q hq).mpr y.1))]
      · by_cases u : q < i
        · rw [if_pos u, if_pos (by omega)]
        · rw [if_neg u, if_neg (by omega)]
    · skip
      have z := bI_n0.mp c53
      have cl := c_least (h := h) (s := s) (by rw [e3]; exact e40) (fun q => cbF A (H + 1) (A.nx D (H + 1) q) q) (fun q _ => cb_le _ _ _ _) (by rw [e3]; exact e46) i iq
      rw [least_eq (A := A) (st := stpF s i) hH iq (fun q hq => by rw [eA]; exact stp_b iq (by omega)) ((hS i iq).mp z)] at cl
      refine g_aload_n (pc := 56) o dX1_weigh_56 rfl ?_
      refine g_iload_n (pc := 57) o dX1_weigh_57 rfl ?_
      refine g_iload (pc := 58) o dX1_weigh_58 rfl ?_
      refine g_aload_n (pc := 60) o dX1_weigh_60 rfl ?_
      refine g_iload (pc := 61) o dX1_weigh_61 rfl ?_
      refine g_callVi (pc := 63) o (cl) mt_X1_leastCost mv_X1_leastCost lk_X1_114 rfl rfl rfl (by decide) rfl (Nat.le_of_ble_eq_true rfl) dX1_weigh_63 ?_
      refine g_callVv (pc := 66) o (c_setCost (h := h) r i (nI (cbF A H D i)) hr) mt_X1_setCost mv_X1_setCost lk_X1_104 rfl rfl rfl (by decide) rfl (Nat.le_of_ble_eq_true rfl) dX1_weigh_66 ?_
      refine g_iinc (pc := 69) o dX1_weigh_69 rfl 1 rfl (by decide) ?_
      show ca_G Γ 6 _ _ [_, _, _, _, _, _] _
      refine g_goto (pc := 72) o 39 dX1_weigh_72 (by decide) ?_
      refine ih iq _ _ (nI_1 i) (fun q hq => ?_) (fun j hj => (ml_off h _ hj).trans (e2 j hj)) e3
      rw [ml_at, se_by _ iq hq (by have := cb_le A H D i; omega), e1 q hq]
      by_cases w : q = i
      · subst w
        rw [if_pos rfl, if_pos (by omega)]
      · rw [if_neg w]
        by_cases u : q < i
        · rw [if_pos u, if_pos (by omega)]
        · rw [if_neg u, if_neg (by omega)]
set_option maxRecDepth 100000 in
set_option maxHeartbeats 400000 in
theorem c_weigh {h : Mem} {s : Nat → Int32} {p : Int32} {d : Nat} {X : Int32} (h5 : akN s X 12 ≤ 5) (P : PR h s p d X) (N : Nat) (eN : debF s X 12 = N) (hN : N < mlF (rxC s X) 12) (R : RE h N (fun m c q => q < 8 ∧ RCH (auC s p d X) m c q)) (H D : Nat) (hH : H < 23) (hD : D ≤ N) (E : TG h N (auC s p d X) (H + 1)) : Ct yX1_weigh cX1_weigh 6 none 2 46 [.ref 38, .int (nI H), .int (nI D)] h (Qv (fun h2 => (∀ q, q < 8 → byteF (h2.2 (H * (N + 1) + D)) q = nI (cbF (auC s p d X) H D q)) ∧ (∀ j, j ≠ H * (N + 1) + D → h2.2 j = h.2 j) ∧ ∀ c, c ≠ 46 → h2.1 c = h.1 c)) := by
  refine Ct.of (by decide) (Nat.le_of_ble_eq_true rfl) (fun Γ o ρ => ?_)
  show ca_G Γ 6 _ _ [_, _, _, _, _, _] _
  have l := ml_1024 h5
  have f8 : h.1 38 8 = nI N := by rw [← eN]; exact P.2.2.1
  have rl := row_lt (m := H) (by omega : N < 1024) (by omega) hD
  have hS : ∀ q, q < 8 → (bt (h.1 42 (H * (N + 1) + D)) q = true ↔ RCH (auC s p d X) H D q) := fun q hq => by
    rw [R H D q (by omega) hD (by omega)]
    exact ⟨fun y => y.2, fun y => ⟨hq, y⟩⟩
  refine g_aload_n (pc := 0) o dX1_weigh_0 rfl ?_
  refine g_iload_n (pc := 1) o dX1_weigh_1 rfl ?_
  refine g_iload_n (pc := 2) o dX1_weigh_2 rfl ?_
  refine g_callVi (pc := 3) o (c_row f8 H D) mt_X1_row mv_X1_row lk_X1_90 rfl rfl rfl (by decide) rfl (Nat.le_of_ble_eq_true rfl) dX1_weigh_3 ?_
  refine g_istore_n (pc := 6) o dX1_weigh_6 (by decide) ?_
  show ca_G Γ 6 _ _ [_, _, _, _, _, _] _
  refine g_aload_n (pc := 7) o dX1_weigh_7 rfl ?_
  refine g_getR (pc := 8) o 3 rfl rfl rfl inX1 (by decide) lf_X1_21 dX1_weigh_8 ?_
  refine g_iload_n (pc := 11) o dX1_weigh_11 rfl ?_
  refine n_iald (pc := 12) o (H * (N + 1) + D) (rfl) rfl ((by omega)) (by decide) dX1_weigh_12 ?_
  refine g_istore (pc := 13) o dX1_weigh_13 (by decide) ?_
  show ca_G Γ 6 _ _ [_, _, _, _, _, _] _
  refine g_aload_n (pc := 15) o dX1_weigh_15 rfl ?_
  refine g_getR (pc := 16) o 4 rfl rfl rfl inX1 (by decide) lf_X1_24 dX1_weigh_16 ?_
  refine g_iload_n (pc := 19) o dX1_weigh_19 rfl ?_
  refine g_ldc2 (pc := 20) o dX1_weigh_20 lc_X1_102 ?_
  refine n_last (pc := 23) o (H * (N + 1) + D) (rfl) rfl ((by omega)) (by decide) dX1_weigh_23 ?_
  refine g_iload (pc := 24) o dX1_weigh_24 rfl ?_
  refine g_if_ne (pc := 26) o 30 dX1_weigh_26 (by decide) (fun c26 => ?_) (fun c26 => ?_)
  · skip
    have P1 : PR (ml h (H * (N + 1) + D) (-1)) s p d X := P.of (fun c _ => rfl)
    have E1 : TG (ml h (H * (N + 1) + D) (-1)) N (auC s p d X) (H + 1) := fun c q hc hq => by
      rw [ml_off h _ (fun y => by have := (row_inj hc hD y).1; omega)]
      exact E c q hc hq
    refine g_aload_n (pc := 30) o dX1_weigh_30 rfl ?_
    refine g_iload_n (pc := 31) o dX1_weigh_31 rfl ?_
    refine g_iload_n (pc := 32) o dX1_weigh_32 rfl ?_
    refine g_callVQv (pc := 33) o (c_look (h := ml h (H * (N + 1) + D) (-1)) h5 P1 N eN hN H D hH hD E1) mt_X1_lookAhead mv_X1_lookAhead lk_X1_111 rfl rfl rfl (by decide) rfl (Nat.le_of_ble_eq_true rfl) dX1_weigh_33 ?_
    rintro h2 w
    refine g_iconst (pc := 36) o dX1_weigh_36 0 rfl ?_
    refine g_istore (pc := 37) o dX1_weigh_37 (by decide) ?_
    show ca_G Γ 6 _ _ [_, _, _, _, _, _] _
    obtain ⟨w1, w2, w3⟩ := w
    refine lp_weigh o ρ (h0 := h2) (s := s) (fun q hq => by rw [w2 40 (by decide)]; exact P1.2.2.2 q hq) (auC s p d X) rfl H D (H * (N + 1) + D) hH rl w1 (h.1 42 (H * (N + 1) + D)) hS (fun h3 a b c => ⟨rfl, a, fun j hj => ?_, fun j hj => ?_⟩) 0 (by omega) _ h2 rfl (fun q hq => ?_) (fun _ _ => rfl) rfl
    · rw [b j hj, w3]; exact ml_off h _ hj
    · rw [c]; exact w2 j hj
    · rw [w3, ml_at, by_m1 q hq, if_neg (by omega)]
  · skip
    exact g_vret o ρ dX1_weigh_29 ⟨rfl, fun q hq => by rw [ml_at, by_m1 q hq, cb_n (fun y => by have := (hS q hq).mpr y.1; rw [c26, b_0] at this; cases this)], fun j hj => ml_off h _ hj, fun c _ => rfl⟩

