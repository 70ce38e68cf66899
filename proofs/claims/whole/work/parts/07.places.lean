/-! ===== PLACES ===== -/
def stepF (f : Nat → Int32) (x : Int32) : Nat → Int32
  | 0 => x
  | n + 1 => if bt x n = true then stepF f x n ||| f n else stepF f x n
def farL (f : Nat → Int32) (to : Nat) : Nat → Nat → Int32 → Int32
  | 0, _, _ => -1
  | n + 1, m, x => if bt x to = true then nI m else farL f to n (m + 1) (stepF f x 8)
def setR (x : Int32) (k : Nat) (c : Int32) : Int32 := if c = 0 then x &&& (jshl 1 (nI k) ^^^ -1) else x ||| jshl 1 (nI k)
theorem ge8 {i n : Nat} (hn : n < 2 ^ 31) (hi : i ≤ n) (c : nI n ≤ nI i) : i = n := by
  have := (nI_leI hn (by omega)).mp c
  omega
theorem lt8 {i n : Nat} (hn : n < 2 ^ 31) (hi : i ≤ n) (c : ¬ nI n ≤ nI i) : i < n := by
  rcases Nat.lt_or_ge i n with h | h
  · exact h
  · exact absurd (nI_le h (by omega)) c
set_option maxRecDepth 100000 in
set_option maxHeartbeats 4000000 in
theorem c_areJoined {h : Mem} {s : Nat → Int32} (B : BR h 1 s) (i j : Nat) (hi : i < 8) (hj : j < 32) : Ct yX2_areJoined cX2_areJoined 3 (some .boolean) 1 21 [.ref 2, .int (nI i), .int (nI j)] h (Ei (bI (bt (s i) j = true)) h) := by
  refine Ct.of (by decide) (Nat.le_of_ble_eq_true rfl) (fun Γ o ρ => ?_)
  refine g_aload_n (pc := 0) o dX2_areJoined_0 rfl ?_
  refine g_getR (pc := 1) o 0 rfl rfl rfl inX2 (by decide) lf_X2_9 dX2_areJoined_1 ?_
  refine g_iload_n (pc := 4) o dX2_areJoined_4 rfl ?_
  refine n_ialdE (pc := 5) o i (rfl) rfl (by omega) (by decide) (B.1 i hi) dX2_areJoined_5 ?_
  refine g_iload_n (pc := 6) o dX2_areJoined_6 rfl ?_
  refine g_callNi (pc := 7) o (c_has (s i) j hj h) mt_X9_has ms_X9_has ln_X2_15 rfl (by decide) rfl (Nat.le_of_ble_eq_true rfl) dX2_areJoined_7 ?_
  exact g_zret o ρ (by first | rfl | exact bI_b) dX2_areJoined_10 (Ei.mk rfl rfl)
set_option maxRecDepth 100000 in
set_option maxHeartbeats 4000000 in
theorem c_neighboursOf {h : Mem} {s : Nat → Int32} (B : BR h 1 s) (i : Nat) (hi : i < 8) : Ct yX2_neighboursOf cX2_neighboursOf 2 (some .int) 0 0 [.ref 2, .int (nI i)] h (Ei (s i) h) := by
  refine Ct.of (by decide) (Nat.le_of_ble_eq_true rfl) (fun Γ o ρ => ?_)
  refine g_aload_n (pc := 0) o dX2_neighboursOf_0 rfl ?_
  refine g_getR (pc := 1) o 0 rfl rfl rfl inX2 (by decide) lf_X2_9 dX2_neighboursOf_1 ?_
  refine g_iload_n (pc := 4) o dX2_neighboursOf_4 rfl ?_
  refine n_ialdE (pc := 5) o i (rfl) rfl (by omega) (by decide) (B.1 i hi) dX2_neighboursOf_5 ?_
  exact g_iret o ρ dX2_neighboursOf_6 (Ei.mk rfl rfl)
set_option maxRecDepth 100000 in
set_option maxHeartbeats 4000000 in
theorem c_join {h : Mem} {s : Nat → Int32} (B : BR h 1 s) (i j : Nat) (c : Int32) (hi : i < 8) (hj : j < 8) (hij : i ≠ j) : Ct yX2_join cX2_join 4 none 0 0 [.ref 2, .int (nI i), .int (nI j), .int c] h (Ev (mw (mw h 3 i (setR (s i) j c)) 3 j (setR (s j) i c))) := by
  refine Ct.of (by decide) (Nat.le_of_ble_eq_true rfl) (fun Γ o ρ => ?_)
  have e2 : ∀ v, (mw h 3 i v).1 3 j = s j := fun v => by rw [mw_same, pk_un (Ne.symm hij)]; exact B.1 j hj
  refine g_iload_n (pc := 0) o dX2_join_0 rfl ?_
  refine g_if_eq (pc := 1) o 31 dX2_join_1 (by decide) (fun c1 => ?_) (fun c1 => ?_)
  · skip
    refine g_aload_n (pc := 31) o dX2_join_31 rfl ?_
    refine g_getR (pc := 32) o 0 rfl rfl rfl inX2 (by decide) lf_X2_9 dX2_join_32 ?_
    refine g_iload_n (pc := 35) o dX2_join_35 rfl ?_
    refine g_dup2 (pc := 36) o dX2_join_36 rfl rfl ?_
    refine n_ialdE (pc := 37) o i (rfl) rfl (by omega) (by decide) (B.1 i hi) dX2_join_37 ?_
    refine g_iconst (pc := 38) o dX2_join_38 1 rfl ?_
    refine g_iload_n (pc := 39) o dX2_join_39 rfl ?_
    refine g_ishl (pc := 40) o dX2_join_40 ?_
    refine g_iconst (pc := 41) o dX2_join_41 (-1) rfl ?_
    refine g_ixor (pc := 42) o dX2_join_42 ?_
    refine g_iand (pc := 43) o dX2_join_43 ?_
    refine n_iast (pc := 44) o i (rfl) rfl (by omega) (by decide) dX2_join_44 ?_
    refine g_aload_n (pc := 45) o dX2_join_45 rfl ?_
    refine g_getR (pc := 46) o 0 rfl rfl rfl inX2 (by decide) lf_X2_9 dX2_join_46 ?_
    refine g_iload_n (pc := 49) o dX2_join_49 rfl ?_
    refine g_dup2 (pc := 50) o dX2_join_50 rfl rfl ?_
    refine n_ialdE (pc := 51) o j (rfl) rfl (by omega) (by decide) (e2 _) dX2_join_51 ?_
    refine g_iconst (pc := 52) o dX2_join_52 1 rfl ?_
    refine g_iload_n (pc := 53) o dX2_join_53 rfl ?_
    refine g_ishl (pc := 54) o dX2_join_54 ?_
    refine g_iconst (pc := 55) o dX2_join_55 (-1) rfl ?_
    refine g_ixor (pc := 56) o dX2_join_56 ?_
    refine g_iand (pc := 57) o dX2_join_57 ?_
    refine n_iast (pc := 58) o j (rfl) rfl (by omega) (by decide) dX2_join_58 ?_
    exact g_vret o ρ dX2_join_59 ⟨rfl, by unfold setR; rw [if_pos c1, if_pos c1]⟩
  · skip
    refine g_aload_n (pc := 4) o dX2_join_4 rfl ?_
    refine g_getR (pc := 5) o 0 rfl rfl rfl inX2 (by decide) lf_X2_9 dX2_join_5 ?_
    refine g_iload_n (pc := 8) o dX2_join_8 rfl ?_
    refine g_dup2 (pc := 9) o dX2_join_9 rfl rfl ?_
    refine n_ialdE (pc := 10) o i (rfl) rfl (by omega) (by decide) (B.1 i hi) dX2_join_10 ?_
    refine g_iconst (pc := 11) o dX2_join_11 1 rfl ?_
    refine g_iload_n (pc := 12) o dX2_join_12 rfl ?_
    refine g_ishl (pc := 13) o dX2_join_13 ?_
    refine g_ior (pc := 14) o dX2_join_14 ?_
    refine n_iast (pc := 15) o i (rfl) rfl (by omega) (by decide) dX2_join_15 ?_
    refine g_aload_n (pc := 16) o dX2_join_16 rfl ?_
    refine g_getR (pc := 17) o 0 rfl rfl rfl inX2 (by decide) lf_X2_9 dX2_join_17 ?_
    refine g_iload_n (pc := 20) o dX2_join_20 rfl ?_
    refine g_dup2 (pc := 21) o dX2_join_21 rfl rfl ?_
    refine n_ialdE (pc := 22) o j (rfl) rfl (by omega) (by decide) (e2 _) dX2_join_22 ?_
    refine g_iconst (pc := 23) o dX2_join_23 1 rfl ?_
    refine g_iload_n (pc := 24) o dX2_join_24 rfl ?_
    refine g_ishl (pc := 25) o dX2_join_25 ?_
    refine g_ior (pc := 26) o dX2_join_26 ?_
    refine n_iast (pc := 27) o j (rfl) rfl (by omega) (by decide) dX2_join_27 ?_
    refine g_goto (pc := 28) o 59 dX2_join_28 (by decide) ?_
    exact g_vret o ρ dX2_join_59 ⟨rfl, by unfold setR; rw [if_neg c1, if_neg c1]⟩
theorem stepF_0 (f : Nat → Int32) : ∀ n, stepF f 0 n = 0
  | 0 => rfl
  | n + 1 => by unfold stepF; rw [if_neg (by rw [b_0]; decide)]; exact stepF_0 f n
theorem stepF_s (f : Nat → Int32) (x : Int32) (n : Nat) : stepF f x (n + 1) = if bt x n = true then stepF f x n ||| f n else stepF f x n := rfl
theorem farL_s (f : Nat → Int32) (to n m : Nat) (x : Int32) : farL f to (n + 1) m x = if bt x to = true then nI m else farL f to n (m + 1) (stepF f x 8) := rfl
theorem downI (N : Nat) {P : Nat → Prop} (h : ∀ i, i ≤ N → (i < N → P (i + 1)) → P i) : ∀ i, i ≤ N → P i := by
  have key : ∀ n i, i + n = N → P i := by
    intro n
    induction n with
    | zero => intro i hi; exact h i (by omega) (fun z => by omega)
    | succ n ih => intro i hi; exact h i (by omega) (fun _ => ih (i + 1) (by omega))
  exact fun i hi => key (N - i) i (by omega)
set_option maxRecDepth 100000 in
theorem lp_stepFrom {Γ : Fr} (o : ca_O Γ cX2_stepFrom 4 RX2 1 21) {Pr : Option Value → Mem → Prop} (ρ : ca_R Γ (some .int) Pr) {h : Mem} {s : Nat → Int32} (B : BR h 1 s) (x : Int32) (hp : Pr (some (.int (stepF s x 8))) h) : ∀ i, i ≤ 8 → ∀ (xi a : Int32), xi = nI i → a = stepF s x i → ca_G Γ 4 h 4 [some (.ref 2), some (.int x), some (.int a), some (.int xi)] [] := by
  refine downI 8 (fun i hi ih => ?_)
  rintro xi a rfl rfl
  refine g_iload_n (pc := 4) o dX2_stepFrom_4 rfl ?_
  refine g_if_eq (pc := 5) o 37 dX2_stepFrom_5 (by decide) (fun c5 => ?_) (fun c5 => ?_)
  · skip
    refine g_iload_n (pc := 37) o dX2_stepFrom_37 rfl ?_
    subst c5
    exact g_iret o ρ dX2_stepFrom_38 (by rw [stepF_0] at hp ⊢; exact hp)
  · skip
    refine g_iload_n (pc := 8) o dX2_stepFrom_8 rfl ?_
    refine g_bipush (pc := 9) o dX2_stepFrom_9 8 rfl ?_
    refine g_ic_ge (pc := 11) o 37 dX2_stepFrom_11 (by decide) (fun c11 => ?_) (fun c11 => ?_)
    · skip
      have e : i = 8 := ge8 (n := 8) (by decide) (by omega) c11
      subst e
      refine g_iload_n (pc := 37) o dX2_stepFrom_37 rfl ?_
      exact g_iret o ρ dX2_stepFrom_38 hp
    · skip
      have e : i < 8 := lt8 (n := 8) (by decide) (by omega) c11
      refine g_iload_n (pc := 14) o dX2_stepFrom_14 rfl ?_
      refine g_iload_n (pc := 15) o dX2_stepFrom_15 rfl ?_
      refine g_callNi (pc := 16) o (c_has x i (by omega) h) mt_X9_has ms_X9_has ln_X2_15 rfl (by decide) rfl (Nat.le_of_ble_eq_true rfl) dX2_stepFrom_16 ?_
      refine g_if_eq (pc := 19) o 31 dX2_stepFrom_19 (by decide) (fun c19 => ?_) (fun c19 => ?_)
      · skip
        refine g_iinc (pc := 31) o dX2_stepFrom_31 rfl 1 rfl (by decide) ?_
        refine g_goto (pc := 34) o 4 dX2_stepFrom_34 (by decide) ?_
        exact ih e _ _ (nI_1 i) (by rw [stepF_s, if_neg (bI_0.mp c19)])
      · skip
        refine g_iload_n (pc := 22) o dX2_stepFrom_22 rfl ?_
        refine g_aload_n (pc := 23) o dX2_stepFrom_23 rfl ?_
        refine g_getR (pc := 24) o 0 rfl rfl rfl inX2 (by decide) lf_X2_9 dX2_stepFrom_24 ?_
        refine g_iload_n (pc := 27) o dX2_stepFrom_27 rfl ?_
        refine n_ialdE (pc := 28) o i (rfl) rfl (by omega) (by decide) (B.1 i e) dX2_stepFrom_28 ?_
        refine g_ior (pc := 29) o dX2_stepFrom_29 ?_
        refine g_istore_n (pc := 30) o dX2_stepFrom_30 (by decide) ?_
        refine g_iinc (pc := 31) o dX2_stepFrom_31 rfl 1 rfl (by decide) ?_
        refine g_goto (pc := 34) o 4 dX2_stepFrom_34 (by decide) ?_
        exact ih e _ _ (nI_1 i) (by rw [stepF_s, if_pos (bI_n0.mp c19)])
set_option maxRecDepth 100000 in
set_option maxHeartbeats 4000000 in
theorem c_stepFrom {h : Mem} {s : Nat → Int32} (B : BR h 1 s) (x : Int32) : Ct yX2_stepFrom cX2_stepFrom 4 (some .int) 1 21 [.ref 2, .int x] h (Ei (stepF s x 8) h) := by
  refine Ct.of (by decide) (Nat.le_of_ble_eq_true rfl) (fun Γ o ρ => ?_)
  refine g_iload_n (pc := 0) o dX2_stepFrom_0 rfl ?_
  refine g_istore_n (pc := 1) o dX2_stepFrom_1 (by decide) ?_
  refine g_iconst (pc := 2) o dX2_stepFrom_2 0 rfl ?_
  refine g_istore_n (pc := 3) o dX2_stepFrom_3 (by decide) ?_
  exact lp_stepFrom o ρ B x ⟨rfl, rfl⟩ 0 (by decide) 0 x rfl rfl
set_option maxRecDepth 100000 in
theorem lp_fewestMoves {Γ : Fr} (o : ca_O Γ cX2_fewestMoves 5 RX2 2 44) {Pr : Option Value → Mem → Prop} (ρ : ca_R Γ (some .int) Pr) {h : Mem} {s : Nat → Int32} (B : BR h 1 s) (a to : Nat) (hto : to < 32) (z : Int32) (hp : Pr (some (.int z)) h) : ∀ i, i ≤ 8 → ∀ (xi x : Int32), xi = nI i → farL s to (8 - i) i x = z → ca_G Γ 5 h 7 [some (.ref 2), some (.int (nI a)), some (.int (nI to)), some (.int x), some (.int xi)] [] := by
  refine downI 8 (fun i hi ih => ?_)
  rintro xi x rfl e2
  refine g_iload (pc := 7) o dX2_fewestMoves_7 rfl ?_
  refine g_bipush (pc := 9) o dX2_fewestMoves_9 8 rfl ?_
  refine g_ic_ge (pc := 11) o 37 dX2_fewestMoves_11 (by decide) (fun c11 => ?_) (fun c11 => ?_)
  · skip
    have e : i = 8 := ge8 (n := 8) (by decide) (by omega) c11
    subst e
    refine g_iconst (pc := 37) o dX2_fewestMoves_37 (-1) rfl ?_
    exact g_iret o ρ dX2_fewestMoves_38 (by rw [show (-1 : Int32) = z from e2]; exact hp)
  · skip
    have e : i < 8 := lt8 (n := 8) (by decide) (by omega) c11
    rw [show 8 - i = (8 - (i + 1)) + 1 by omega, farL_s] at e2
    refine g_iload_n (pc := 14) o dX2_fewestMoves_14 rfl ?_
    refine g_iload_n (pc := 15) o dX2_fewestMoves_15 rfl ?_
    refine g_callNi (pc := 16) o (c_has x to hto h) mt_X9_has ms_X9_has ln_X2_15 rfl (by decide) rfl (Nat.le_of_ble_eq_true rfl) dX2_fewestMoves_16 ?_
    refine g_if_eq (pc := 19) o 25 dX2_fewestMoves_19 (by decide) (fun c19 => ?_) (fun c19 => ?_)
    · skip
      rw [if_neg (bI_0.mp c19)] at e2
      refine g_aload_n (pc := 25) o dX2_fewestMoves_25 rfl ?_
      refine g_iload_n (pc := 26) o dX2_fewestMoves_26 rfl ?_
      refine g_callVi (pc := 27) o (c_stepFrom B x) mt_X2_stepFrom mv_X2_stepFrom lk_X2_19 rfl rfl rfl (by decide) rfl (Nat.le_of_ble_eq_true rfl) dX2_fewestMoves_27 ?_
      refine g_istore_n (pc := 30) o dX2_fewestMoves_30 (by decide) ?_
      refine g_iinc (pc := 31) o dX2_fewestMoves_31 rfl 1 rfl (by decide) ?_
      refine g_goto (pc := 34) o 7 dX2_fewestMoves_34 (by decide) ?_
      exact ih e _ _ (nI_1 i) e2
    · skip
      rw [if_pos (bI_n0.mp c19)] at e2
      refine g_iload (pc := 22) o dX2_fewestMoves_22 rfl ?_
      exact g_iret o ρ dX2_fewestMoves_24 (by rw [e2]; exact hp)
set_option maxRecDepth 100000 in
set_option maxHeartbeats 4000000 in
theorem c_fewestMoves {h : Mem} {s : Nat → Int32} (B : BR h 1 s) (a to : Nat) (hto : to < 32) : Ct yX2_fewestMoves cX2_fewestMoves 5 (some .int) 2 44 [.ref 2, .int (nI a), .int (nI to)] h (Ei (farL s to 8 0 (jshl 1 (nI a))) h) := by
  refine Ct.of (by decide) (Nat.le_of_ble_eq_true rfl) (fun Γ o ρ => ?_)
  refine g_iconst (pc := 0) o dX2_fewestMoves_0 1 rfl ?_
  refine g_iload_n (pc := 1) o dX2_fewestMoves_1 rfl ?_
  refine g_ishl (pc := 2) o dX2_fewestMoves_2 ?_
  refine g_istore_n (pc := 3) o dX2_fewestMoves_3 (by decide) ?_
  refine g_iconst (pc := 4) o dX2_fewestMoves_4 0 rfl ?_
  refine g_istore (pc := 5) o dX2_fewestMoves_5 (by decide) ?_
  exact lp_fewestMoves o ρ B a to hto _ ⟨rfl, rfl⟩ 0 (by decide) 0 _ rfl rfl
theorem CR_s {h h2 : Mem} {σ : Sg} {s2 : Nat → Int32} (C : CR h σ) (B : BR h2 1 s2) (e : ∀ k, inC k = true → inB 1 k = false → h2.1 k = h.1 k) : CR h2 (sf σ 0 s2) := by
  obtain ⟨a1, a2, a3, a4, a5, a6, a7, a8, a9, a10, a11⟩ := C
  refine ⟨B, ?_, ?_, fun q => ?_, ?_, ?_, ?_, ?_, ?_, ?_, ?_⟩
  · rw [e 29 (by decide) (by decide)]; exact a2
  · rw [e 0 (by decide) (by decide)]; exact a3
  · refine BR.of (a4 q) (fun k hk => e k (by simp [inC, hk]) ?_)
    simp only [inB, Bool.or_eq_true, beq_iff_eq] at hk
    simp only [inB, Bool.or_eq_false_iff, beq_eq_false_iff_ne, ne_eq]
    omega
  · rw [e 0 (by decide) (by decide)]; exact a5
  · rw [e 50 (by decide) (by decide)]; exact a6
  · rw [e 30 (by decide) (by decide)]; exact a7
  · rw [e 31 (by decide) (by decide)]; exact a8
  · rw [e 35 (by decide) (by decide)]; exact a9
  · rw [e 36 (by decide) (by decide)]; exact a10
  · rw [e 37 (by decide) (by decide)]; exact a11

