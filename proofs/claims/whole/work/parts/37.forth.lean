/-! ===== the class walks forth ===== -/
abbrev auC (s : Nat → Int32) (p : Int32) (d : Nat) (X : Int32) : Au := auF s p d X (rxC s X)
theorem nI_or (a b : Nat) : nI a ||| nI b = nI (a ||| b) := by
  apply Int32.toBitVec_inj.mp
  show BitVec.ofNat 32 a ||| BitVec.ofNat 32 b = BitVec.ofNat 32 (a ||| b)
  apply BitVec.eq_of_getLsbD_eq
  intro i hi
  simp [BitVec.getLsbD_ofNat, hi]
theorem nI_and (a b : Nat) : nI a &&& nI b = nI (a &&& b) := by
  apply Int32.toBitVec_inj.mp
  show BitVec.ofNat 32 a &&& BitVec.ofNat 32 b = BitVec.ofNat 32 (a &&& b)
  apply BitVec.eq_of_getLsbD_eq
  intro i hi
  simp [BitVec.getLsbD_ofNat, hi]
theorem shr1 : ∀ c, c < 1024 → jshr (nI c) 1 = nI (c >>> 1) := by decide +kernel
theorem ml_1024 {s : Nat → Int32} {X : Int32} (h5 : akN s X 12 ≤ 5) : mlF (rxC s X) 12 ≤ 1024 := by
  rw [ml_C]
  exact Nat.pow_le_pow_right (n := 4) (by decide) h5
set_option maxRecDepth 100000 in
set_option maxHeartbeats 400000 in
theorem c_pay {h : Mem} {s : Nat → Int32} {p : Int32} {d : Nat} {X : Int32} (h5 : akN s X 12 ≤ 5) (P : PR h s p d X) (c m q : Nat) (hc : c < mlF (rxC s X) 12) (hm : m < 24) (hq : q < 8) : Ct yX1_pay cX1_pay 4 (some .int) 0 0 [.ref 38, .int (nI c), .int (nI m), .int (nI q)] h (Ei (nI ((auC s p d X).nx c m q)) h) := by
  refine Ct.of (by decide) (Nat.le_of_ble_eq_true rfl) (fun Γ o ρ => ?_)
  show ca_G Γ 4 _ _ [_, _, _, _] _
  have l := ml_1024 h5
  obtain ⟨e1, e2⟩ := pay_nx (p := p) (d := d) (m := m) (q := q) hc
  have ei : nI m * nI 8 + nI q = nI (8 * m + q) := by rw [ix, Nat.mul_comm]
  have e3 : nI c - (nI (pyF s X m q 12) &&& (nI c ||| jshr (nI c) 1)) = nI ((auC s p d X).nx c m q) := by
    rw [shr1 c (by omega), nI_or, nI_and, pk_sub e2]
    exact congrArg nI e1
  refine g_iload_n (pc := 0) o dX1_pay_0 rfl ?_
  refine g_aload_n (pc := 1) o dX1_pay_1 rfl ?_
  refine g_getR (pc := 2) o 2 rfl rfl rfl inX1 (by decide) lf_X1_18 dX1_pay_2 ?_
  refine g_iload_n (pc := 5) o dX1_pay_5 rfl ?_
  refine g_bipush (pc := 6) o dX1_pay_6 8 rfl ?_
  refine g_imul (pc := 8) o dX1_pay_8 ?_
  refine g_iload_n (pc := 9) o dX1_pay_9 rfl ?_
  refine g_iadd (pc := 10) o dX1_pay_10 ?_
  rw [show nI m * 8 + nI q = nI (8 * m + q) from ei]
  refine n_ialdE (pc := 11) o (8 * m + q) (rfl) rfl ((by omega)) (by decide) (P.2.1 m q hm hq) dX1_pay_11 ?_
  refine g_iload_n (pc := 12) o dX1_pay_12 rfl ?_
  refine g_iload_n (pc := 13) o dX1_pay_13 rfl ?_
  refine g_iconst (pc := 14) o dX1_pay_14 1 rfl ?_
  refine g_ishr (pc := 15) o dX1_pay_15 ?_
  refine g_ior (pc := 16) o dX1_pay_16 ?_
  refine g_iand (pc := 17) o dX1_pay_17 ?_
  refine g_isub (pc := 18) o dX1_pay_18 ?_
  rw [e3]
  exact g_iret o ρ dX1_pay_19 (Ei.mk rfl rfl)
set_option maxRecDepth 100000 in
set_option maxHeartbeats 400000 in
theorem c_row {h : Mem} {N : Nat} (e : h.1 38 8 = nI N) (m c : Nat) : Ct yX1_row cX1_row 3 (some .int) 0 0 [.ref 38, .int (nI m), .int (nI c)] h (Ei (nI (m * (N + 1) + c)) h) := by
  refine Ct.of (by decide) (Nat.le_of_ble_eq_true rfl) (fun Γ o ρ => ?_)
  show ca_G Γ 3 _ _ [_, _, _] _
  refine g_iload_n (pc := 0) o dX1_row_0 rfl ?_
  refine g_aload_n (pc := 1) o dX1_row_1 rfl ?_
  refine g_getIE (pc := 2) o 8 rfl rfl rfl inX1 (by decide) lf_X1_59 (e) dX1_row_2 ?_
  refine g_iconst (pc := 5) o dX1_row_5 1 rfl ?_
  refine g_iadd (pc := 6) o dX1_row_6 ?_
  refine g_imul (pc := 7) o dX1_row_7 ?_
  refine g_iload_n (pc := 8) o dX1_row_8 rfl ?_
  refine g_iadd (pc := 9) o dX1_row_9 ?_
  rw [show nI m * (nI N + 1) + nI c = nI (m * (N + 1) + c) by rw [nI_1, pk_mul, nI_add]]
  exact g_iret o ρ dX1_row_10 (Ei.mk rfl rfl)
theorem row_d {N m c : Nat} (hc : c ≤ N) : (m * (N + 1) + c) / (N + 1) = m := by rw [Nat.mul_comm, Nat.mul_add_div (Nat.succ_pos N), Nat.div_eq_of_lt (by omega), Nat.add_zero]
theorem row_inj {N m c m' c' : Nat} (hc : c ≤ N) (hc' : c' ≤ N) (e : m * (N + 1) + c = m' * (N + 1) + c') : m = m' ∧ c = c' := by
  have a := row_d (m := m) hc
  rw [e, row_d hc'] at a
  subst a
  exact ⟨rfl, by omega⟩
theorem row_lt {N m c : Nat} (hN : N < 1024) (hm : m < 24) (hc : c ≤ N) : m * (N + 1) + c < 24576 := by
  have a : m * (N + 1) ≤ 23 * (N + 1) := Nat.mul_le_mul_right _ (by omega)
  omega
theorem nx_le {s : Nat → Int32} {p : Int32} {d : Nat} {X : Int32} {c m q : Nat} (hc : c < mlF (rxC s X) 12) : (auC s p d X).nx c m q ≤ c := by
  obtain ⟨e1, _⟩ := pay_nx (p := p) (d := d) (m := m) (q := q) hc
  rw [← e1]
  omega
theorem PR.of {h h2 : Mem} {s : Nat → Int32} {p : Int32} {d : Nat} {X : Int32} (P : PR h s p d X) (e : ∀ c, c = 38 ∨ c = 39 ∨ c = 40 ∨ c = 41 → h2.1 c = h.1 c) : PR h2 s p d X := by
  refine ⟨?_, ?_, ?_, ?_⟩
  · rw [e 39 (by decide)]; exact P.1
  · rw [e 41 (by decide)]; exact P.2.1
  · rw [e 38 (by decide)]; exact P.2.2.1
  · rw [e 40 (by decide)]; exact P.2.2.2
def osF (f : Nat → Int32) (x : Int32) : Nat → Int32
  | 0 => 0
  | n + 1 => if bt x n = true then osF f x n ||| f n else osF f x n
theorem osF_s (f : Nat → Int32) (x : Int32) (n : Nat) : osF f x (n + 1) = if bt x n = true then osF f x n ||| f n else osF f x n := rfl
theorem os_b (f : Nat → Int32) (x : Int32) (q : Nat) : ∀ n, bt (osF f x n) q = true ↔ ∃ r, r < n ∧ bt x r = true ∧ bt (f r) q = true
  | 0 => by
    show bt 0 q = true ↔ _
    rw [b_0]
    exact ⟨fun z => (by cases z), fun ⟨r, hr, _⟩ => by omega⟩
  | n + 1 => by
    have ih := os_b f x q n
    rw [osF_s]
    split
    · rename_i z
      rw [b_or, Bool.or_eq_true, ih]
      constructor
      · rintro (⟨r, hr, a⟩ | a)
        · exact ⟨r, by omega, a⟩
        · exact ⟨n, by omega, z, a⟩
      · rintro ⟨r, hr, a, b⟩
        by_cases w : r = n
        · subst w; exact Or.inr b
        · exact Or.inl ⟨r, by omega, a, b⟩
    · rename_i z
      rw [ih]
      constructor
      · rintro ⟨r, hr, a⟩; exact ⟨r, by omega, a⟩
      · rintro ⟨r, hr, a, b⟩
        by_cases w : r = n
        · subst w; exact absurd a z
        · exact ⟨r, by omega, a, b⟩
abbrev stpF (s : Nat → Int32) (q : Nat) : Int32 := stepF s (jshl 1 (nI q)) 8
theorem stp_b {s : Nat → Int32} {r q : Nat} (hr : r < 8) (hq : q < 32) : bt (stpF s r) q = true ↔ ad s r q := by
  rw [st_b, bt_sh (by omega) hq, decide_eq_true_eq]
  constructor
  · rintro (a | ⟨r2, h2, a, b⟩)
    · exact Or.inl a
    · rw [bt_sh (by omega) (by omega), decide_eq_true_eq] at a
      subst a; exact Or.inr b
  · rintro (a | a)
    · exact Or.inl a
    · exact Or.inr ⟨r, hr, by rw [bt_sh (by omega) (by omega)]; exact decide_eq_true rfl, a⟩
set_option maxRecDepth 100000 in
theorem lp_wstep {Γ : Fr} (o : ca_O Γ cX1_stepFrom 4 RX1 1 21) {Pr : Option Value → Mem → Prop} (ρ : ca_R Γ (some .int) Pr) {h : Mem} {s : Nat → Int32} (e40 : ∀ q, q < 8 → h.1 40 q = stpF s q) (x : Int32) (hp : Pr (some (.int (osF (stpF s) x 8))) h) : ∀ i, i ≤ 8 → ∀ (xi a : Int32), xi = nI i → a = osF (stpF s) x i → ca_G Γ 4 h 4 [some (.ref 38), some (.int x), some (.int a), some (.int xi)] [] := by
  refine downI 8 (fun i hi ih => ?_)
  rintro xi a rfl rfl
  refine g_iload_n (pc := 4) o dX1_stepFrom_4 rfl ?_
  refine g_bipush (pc := 5) o dX1_stepFrom_5 8 rfl ?_
  refine g_ic_ge (pc := 7) o 33 dX1_stepFrom_7 (by decide) (fun c7 => ?_) (fun c7 => ?_)
  · skip
    have e : i = 8 := ge8 (n := 8) (by decide) (by omega) c7
    subst e
    refine g_iload_n (pc := 33) o dX1_stepFrom_33 rfl ?_
    exact g_iret o ρ dX1_stepFrom_34 hp
  · skip
    have e : i < 8 := lt8 (n := 8) (by decide) (by omega) c7
    refine g_iload_n (pc := 10) o dX1_stepFrom_10 rfl ?_
    refine g_iload_n (pc := 11) o dX1_stepFrom_11 rfl ?_
    refine g_callNi (pc := 12) o (c_has x i (by omega) h) mt_X9_has ms_X9_has ln_X1_66 rfl (by decide) rfl (Nat.le_of_ble_eq_true rfl) dX1_stepFrom_12 ?_
    refine g_if_eq (pc := 15) o 27 dX1_stepFrom_15 (by decide) (fun c15 => ?_) (fun c15 => ?_)
    · skip
      refine g_iinc (pc := 27) o dX1_stepFrom_27 rfl 1 rfl (by decide) ?_
      show ca_G Γ 4 _ _ [_, _, _, _] _
      refine g_goto (pc := 30) o 4 dX1_stepFrom_30 (by decide) ?_
      exact ih e _ _ (nI_1 i) (by rw [osF_s, if_neg (bI_0.mp c15)])
    · skip
      refine g_iload_n (pc := 18) o dX1_stepFrom_18 rfl ?_
      refine g_aload_n (pc := 19) o dX1_stepFrom_19 rfl ?_
      refine g_getR (pc := 20) o 1 rfl rfl rfl inX1 (by decide) lf_X1_15 dX1_stepFrom_20 ?_
      refine g_iload_n (pc := 23) o dX1_stepFrom_23 rfl ?_
      refine n_ialdE (pc := 24) o i (rfl) rfl ((by omega)) (by decide) (e40 i e) dX1_stepFrom_24 ?_
      refine g_ior (pc := 25) o dX1_stepFrom_25 ?_
      refine g_istore_n (pc := 26) o dX1_stepFrom_26 (by decide) ?_
      show ca_G Γ 4 _ _ [_, _, _, _] _
      refine g_iinc (pc := 27) o dX1_stepFrom_27 rfl 1 rfl (by decide) ?_
      show ca_G Γ 4 _ _ [_, _, _, _] _
      refine g_goto (pc := 30) o 4 dX1_stepFrom_30 (by decide) ?_
      exact ih e _ _ (nI_1 i) (by rw [osF_s, if_pos (bI_n0.mp c15)])
set_option maxRecDepth 100000 in
set_option maxHeartbeats 400000 in
theorem c_wstep {h : Mem} {s : Nat → Int32} (e40 : ∀ q, q < 8 → h.1 40 q = stpF s q) (x : Int32) : Ct yX1_stepFrom cX1_stepFrom 4 (some .int) 1 21 [.ref 38, .int x] h (Ei (osF (stpF s) x 8) h) := by
  refine Ct.of (by decide) (Nat.le_of_ble_eq_true rfl) (fun Γ o ρ => ?_)
  show ca_G Γ 4 _ _ [_, _, _, _] _
  refine g_iconst (pc := 0) o dX1_stepFrom_0 0 rfl ?_
  refine g_istore_n (pc := 1) o dX1_stepFrom_1 (by decide) ?_
  show ca_G Γ 4 _ _ [_, _, _, _] _
  refine g_iconst (pc := 2) o dX1_stepFrom_2 0 rfl ?_
  refine g_istore_n (pc := 3) o dX1_stepFrom_3 (by decide) ?_
  show ca_G Γ 4 _ _ [_, _, _, _] _
  exact lp_wstep o ρ e40 x ⟨rfl, rfl⟩ 0 (by omega) _ _ rfl rfl
set_option maxRecDepth 100000 in
set_option maxHeartbeats 400000 in
theorem lp_arrive {Γ : Fr} (o : ca_O Γ cX1_arrive 5 RX1 1 23) {Pr : Option Value → Mem → Prop} (ρ : ca_R Γ none Pr) {h0 : Mem} {s : Nat → Int32} {p : Int32} {d : Nat} {X : Int32} (h5 : akN s X 12 ≤ 5) (P : PR h0 s p d X) (N : Nat) (eN : debF s X 12 = N) (hN : N < mlF (rxC s X) 12) (H D : Nat) (hH : H < 24) (hD : D ≤ N) (S : Int32) (hp : ∀ h : Mem, (∀ m c q, m < 24 → c ≤ N → q < 32 → (bt (h.1 42 (m * (N + 1) + c)) q = true ↔ bt (h0.1 42 (m * (N + 1) + c)) q = true ∨ (m = H ∧ q < 8 ∧ bt S q = true ∧ (auC s p d X).nx D H q = c))) → (∀ c, c ≠ 42 → h.1 c = h0.1 c) → Pr none h) : ∀ i, i ≤ 8 → ∀ (xi : Int32) (h : Mem), xi = nI i → (∀ m c q, m < 24 → c ≤ N → q < 32 → (bt (h.1 42 (m * (N + 1) + c)) q = true ↔ bt (h0.1 42 (m * (N + 1) + c)) q = true ∨ (m = H ∧ q < i ∧ bt S q = true ∧ (auC s p d X).nx D H q = c))) → (∀ c, c ≠ 42 → h.1 c = h0.1 c) → ca_G Γ 5 h 3 [some (.ref 38), some (.int (nI H)), some (.int (nI D)), some (.int S), some (.int xi)] [] := by
  have l := ml_1024 h5
  refine downI 8 (fun i hi ih => ?_)
  rintro xi h rfl e1 e2
  have P2 : PR h s p d X := P.of (fun c hc => e2 c (by omega))
  have f8 : h.1 38 8 = nI N := by rw [← eN]; exact P2.2.2.1
  refine g_iload (pc := 3) o dX1_arrive_3 rfl ?_
  refine g_bipush (pc := 5) o dX1_arrive_5 8 rfl ?_
  refine g_ic_ge (pc := 7) o 50 dX1_arrive_7 (by decide) (fun c7 => ?_) (fun c7 => ?_)
  · skip
    have q : i = 8 := ge8 (n := 8) (by decide) (by omega) c7
    subst q
    exact g_vret o ρ dX1_arrive_50 (hp h e1 e2)
  · skip
    have iq : i < 8 := lt8 (n := 8) (by decide) (by omega) c7
    have nl : (auC s p d X).nx D H i ≤ N := Nat.le_trans (nx_le (by omega)) hD
    have rl := row_lt (m := H) (by omega : N < 1024) hH nl
    refine g_iload_n (pc := 10) o dX1_arrive_10 rfl ?_
    refine g_iload (pc := 11) o dX1_arrive_11 rfl ?_
    refine g_callNi (pc := 13) o (c_has S i (by omega) h) mt_X9_has ms_X9_has ln_X1_66 rfl (by decide) rfl (Nat.le_of_ble_eq_true rfl) dX1_arrive_13 ?_
    refine g_if_eq (pc := 16) o 44 dX1_arrive_16 (by decide) (fun c16 => ?_) (fun c16 => ?_)
    · skip
      have z := bI_0.mp c16
      refine g_iinc (pc := 44) o dX1_arrive_44 rfl 1 rfl (by decide) ?_
      show ca_G Γ 5 _ _ [_, _, _, _, _] _
      refine g_goto (pc := 47) o 3 dX1_arrive_47 (by decide) ?_
      refine ih iq _ h (nI_1 i) (fun m c q hm hc hq => ?_) e2
      rw [e1 m c q hm hc hq]
      constructor
      · rintro (a | ⟨a, b, c⟩)
        · exact Or.inl a
        · exact Or.inr ⟨a, by omega, c⟩
      · rintro (a | ⟨a, b, c, e⟩)
        · exact Or.inl a
        · refine Or.inr ⟨a, ?_, c, e⟩
          rcases Nat.lt_or_ge q i with w | w
          · exact w
          · rw [show q = i by omega] at c; exact absurd c z
    · skip
      have z := bI_n0.mp c16
      refine g_aload_n (pc := 19) o dX1_arrive_19 rfl ?_
      refine g_getR (pc := 20) o 3 rfl rfl rfl inX1 (by decide) lf_X1_21 dX1_arrive_20 ?_
      refine g_aload_n (pc := 23) o dX1_arrive_23 rfl ?_
      refine g_iload_n (pc := 24) o dX1_arrive_24 rfl ?_
      refine g_aload_n (pc := 25) o dX1_arrive_25 rfl ?_
      refine g_iload_n (pc := 26) o dX1_arrive_26 rfl ?_
      refine g_iload_n (pc := 27) o dX1_arrive_27 rfl ?_
      refine g_iload (pc := 28) o dX1_arrive_28 rfl ?_
      refine g_callVi (pc := 30) o (c_pay h5 P2 D H i (by omega) hH iq) mt_X1_pay mv_X1_pay lk_X1_98 rfl rfl rfl (by decide) rfl (Nat.le_of_ble_eq_true rfl) dX1_arrive_30 ?_
      refine g_callVi (pc := 33) o (c_row f8 H ((auC s p d X).nx D H i)) mt_X1_row mv_X1_row lk_X1_90 rfl rfl rfl (by decide) rfl (Nat.le_of_ble_eq_true rfl) dX1_arrive_33 ?_
      refine g_dup2 (pc := 36) o dX1_arrive_36 rfl rfl ?_
      refine n_iald (pc := 37) o (H * (N + 1) + (auC s p d X).nx D H i) (rfl) rfl ((by omega)) (by decide) dX1_arrive_37 ?_
      refine g_iconst (pc := 38) o dX1_arrive_38 1 rfl ?_
      refine g_iload (pc := 39) o dX1_arrive_39 rfl ?_
      refine g_ishl (pc := 41) o dX1_arrive_41 ?_
      refine g_ior (pc := 42) o dX1_arrive_42 ?_
      refine n_iast (pc := 43) o (H * (N + 1) + (auC s p d X).nx D H i) (rfl) rfl ((by omega)) (by decide) dX1_arrive_43 ?_
      refine g_iinc (pc := 44) o dX1_arrive_44 rfl 1 rfl (by decide) ?_
      show ca_G Γ 5 _ _ [_, _, _, _, _] _
      refine g_goto (pc := 47) o 3 dX1_arrive_47 (by decide) ?_
      refine ih iq _ _ (nI_1 i) (fun m c q hm hc hq => ?_) (fun c hc => (mw_ne _ _ _ hc).trans (e2 c hc))
      rw [mw_same]
      unfold upd
      by_cases w : m * (N + 1) + c = H * (N + 1) + (auC s p d X).nx D H i
      · obtain ⟨rfl, rfl⟩ := row_inj hc nl w
        rw [if_pos rfl, b_or, bt_sh (by omega) hq, Bool.or_eq_true, decide_eq_true_eq, e1 m _ q hm hc hq]
        constructor
        · rintro ((a | ⟨a, b, c⟩) | a)
          · exact Or.inl a
          · exact Or.inr ⟨a, by omega, c⟩
          · subst a; exact Or.inr ⟨rfl, by omega, z, rfl⟩
        · rintro (a | ⟨a, b, c, e⟩)
          · exact Or.inl (Or.inl a)
          · by_cases y : q = i
            · exact Or.inr y
            · exact Or.inl (Or.inr ⟨a, by omega, c, e⟩)
      · rw [if_neg w, e1 m c q hm hc hq]
        constructor
        · rintro (a | ⟨a, b, c⟩)
          · exact Or.inl a
          · exact Or.inr ⟨a, by omega, c⟩
        · rintro (a | ⟨a, b, c, e⟩)
          · exact Or.inl a
          · refine Or.inr ⟨a, ?_, c, e⟩
            by_cases y : q = i
            · subst y; subst a; subst e; exact absurd rfl w
            · omega
set_option maxRecDepth 100000 in
set_option maxHeartbeats 400000 in
theorem c_arrive {h : Mem} {s : Nat → Int32} {p : Int32} {d : Nat} {X : Int32} (h5 : akN s X 12 ≤ 5) (P : PR h s p d X) (N : Nat) (eN : debF s X 12 = N) (hN : N < mlF (rxC s X) 12) (H D : Nat) (hH : H < 24) (hD : D ≤ N) (S : Int32) : Ct yX1_arrive cX1_arrive 5 none 1 23 [.ref 38, .int (nI H), .int (nI D), .int S] h (Qv (fun h2 => (∀ m c q, m < 24 → c ≤ N → q < 32 → (bt (h2.1 42 (m * (N + 1) + c)) q = true ↔ bt (h.1 42 (m * (N + 1) + c)) q = true ∨ (m = H ∧ q < 8 ∧ bt S q = true ∧ (auC s p d X).nx D H q = c))) ∧ ∀ c, c ≠ 42 → h2.1 c = h.1 c)) := by
  refine Ct.of (by decide) (Nat.le_of_ble_eq_true rfl) (fun Γ o ρ => ?_)
  show ca_G Γ 5 _ _ [_, _, _, _, _] _
  refine g_iconst (pc := 0) o dX1_arrive_0 0 rfl ?_
  refine g_istore (pc := 1) o dX1_arrive_1 (by decide) ?_
  show ca_G Γ 5 _ _ [_, _, _, _, _] _
  exact lp_arrive o ρ (h0 := h) h5 P N eN hN H D hH hD S (fun h2 a b => ⟨rfl, a, b⟩) 0 (by omega) _ h rfl (fun m c q hm hc hq => ⟨Or.inl, fun z => z.elim id (fun y => by have := y.2.1; omega)⟩) (fun c _ => rfl)

