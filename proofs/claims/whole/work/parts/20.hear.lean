/-! ===== hearing, heard, seed, hold, as ===== -/
def hoN (s : Nat → Int32) (d b : Int32) : Nat → Nat
  | 0 => 0
  | n + 1 => hoN s d b n + (if ¬ nI n = b ∧ s (331 + n) = d then 1 else 0)
theorem hoN_s (s : Nat → Int32) (d b : Int32) (n : Nat) : hoN s d b (n + 1) = hoN s d b n + (if ¬ nI n = b ∧ s (331 + n) = d then 1 else 0) := rfl
theorem hoN_le (s : Nat → Int32) (d b : Int32) : ∀ n, hoN s d b n ≤ cntD s d n
  | 0 => Nat.le_refl 0
  | n + 1 => by
    have := hoN_le s d b n
    rw [hoN_s, cntD]
    split
    · rename_i z; rw [if_pos z.2]; omega
    · split <;> omega
theorem hoN_u (s : Nat → Int32) (d : Int32) (p : Nat) (hp : p < 6) : ∀ n, n ≤ 6 → hoN (upd s (331 + p) d) d (-1) n = hoN s d (nI p) n + (if p < n then 1 else 0)
  | 0, _ => rfl
  | n + 1, hn => by
    have ih := hoN_u s d p hp n (by omega)
    rw [hoN_s, hoN_s, ih]
    have e1 : ¬ nI n = -1 := nI_ne_m1 (by omega)
    by_cases e : n = p
    · subst e
      rw [if_neg (Nat.lt_irrefl n), if_pos (by omega : n < n + 1), if_pos ⟨e1, pk_us⟩, if_neg (fun z => z.1 rfl)]
    · have e2 : ¬ nI n = nI p := fun z => e ((nI_eq (by omega) (by omega)).mp z)
      have e3 : upd s (331 + p) d (331 + n) = s (331 + n) := pk_un (by omega)
      rw [e3]
      have q : (if p < n + 1 then 1 else 0 : Nat) = if p < n then 1 else 0 := by
        split <;> split <;> omega
      rw [q]
      simp only [e1, e2, not_false_eq_true, true_and]
      omega
set_option maxRecDepth 100000 in
theorem lp_ho {Γ : Fr} (o : ca_O Γ cX0_hearingsOfOthers 5 RX0 0 0) {Pr : Option Value → Mem → Prop} (ρ : ca_R Γ (some .int) Pr) {h : Mem} {s : Nat → Int32} (B : BR h 1 s) (p d : Int32) (hp : Pr (some (.int (nI (hoN s d p 6)))) h) : ∀ i, i ≤ 6 → ∀ xi a : Int32, xi = nI i → a = nI (hoN s d p i) → ca_G Γ 5 h 5 [some (.ref 1), some (.int p), some (.int d), some (.int a), some (.int xi)] [] := by
  refine downI 6 (fun i hi ih => ?_)
  rintro xi a rfl rfl
  refine g_iload (pc := 5) o dX0_hearingsOfOthers_5 rfl ?_
  refine g_bipush (pc := 7) o dX0_hearingsOfOthers_7 6 rfl ?_
  refine g_ic_ge (pc := 9) o 38 dX0_hearingsOfOthers_9 (by decide) (fun c9 => ?_) (fun c9 => ?_)
  · skip
    have e : i = 6 := ge8 (n := 6) (by omega) (by omega) c9
    subst e
    refine g_iload_n (pc := 38) o dX0_hearingsOfOthers_38 rfl ?_
    exact g_iret o ρ dX0_hearingsOfOthers_39 hp
  · skip
    have e : i < 6 := lt8 (n := 6) (by omega) (by omega) c9
    refine g_iload (pc := 12) o dX0_hearingsOfOthers_12 rfl ?_
    refine g_iload_n (pc := 14) o dX0_hearingsOfOthers_14 rfl ?_
    refine g_ic_eq (pc := 15) o 32 dX0_hearingsOfOthers_15 (by decide) (fun c15 => ?_) (fun c15 => ?_)
    · skip
      refine g_iinc (pc := 32) o dX0_hearingsOfOthers_32 rfl 1 rfl (by decide) ?_
      show ca_G Γ 5 _ _ [_, _, _, _, _] _
      refine g_goto (pc := 35) o 5 dX0_hearingsOfOthers_35 (by decide) ?_
      exact ih e _ _ (nI_1 i) (by rw [hoN_s, if_neg (fun z => z.1 c15)]; rfl)
    · skip
      refine g_aload_n (pc := 18) o dX0_hearingsOfOthers_18 rfl ?_
      refine g_getR (pc := 19) o 4 rfl rfl rfl inX0 (by decide) lf_X0_39 dX0_hearingsOfOthers_19 ?_
      refine g_iload (pc := 22) o dX0_hearingsOfOthers_22 rfl ?_
      refine n_ialdE (pc := 24) o i (rfl) rfl ((by omega)) (by decide) (B.hr i e) dX0_hearingsOfOthers_24 ?_
      refine g_iload_n (pc := 25) o dX0_hearingsOfOthers_25 rfl ?_
      refine g_ic_ne (pc := 26) o 32 dX0_hearingsOfOthers_26 (by decide) (fun c26 => ?_) (fun c26 => ?_)
      · skip
        refine g_iinc (pc := 32) o dX0_hearingsOfOthers_32 rfl 1 rfl (by decide) ?_
        show ca_G Γ 5 _ _ [_, _, _, _, _] _
        refine g_goto (pc := 35) o 5 dX0_hearingsOfOthers_35 (by decide) ?_
        exact ih e _ _ (nI_1 i) (by rw [hoN_s, if_neg (fun z => c26 z.2)]; rfl)
      · skip
        refine g_iinc (pc := 29) o dX0_hearingsOfOthers_29 rfl 1 rfl (by decide) ?_
        show ca_G Γ 5 _ _ [_, _, _, _, _] _
        refine g_iinc (pc := 32) o dX0_hearingsOfOthers_32 rfl 1 rfl (by decide) ?_
        show ca_G Γ 5 _ _ [_, _, _, _, _] _
        refine g_goto (pc := 35) o 5 dX0_hearingsOfOthers_35 (by decide) ?_
        exact ih e _ _ (nI_1 i) (by rw [hoN_s, if_pos ⟨c15, c26⟩]; exact nI_1 _)
set_option maxRecDepth 100000 in
set_option maxHeartbeats 400000 in
theorem c_ho {h : Mem} {s : Nat → Int32} (B : BR h 1 s) (p d : Int32) : Ct yX0_hearingsOfOthers cX0_hearingsOfOthers 5 (some .int) 0 0 [.ref 1, .int p, .int d] h (Ei (nI (hoN s d p 6)) h) := by
  refine Ct.of (by decide) (Nat.le_of_ble_eq_true rfl) (fun Γ o ρ => ?_)
  show ca_G Γ 5 _ _ [_, _, _, _, _] _
  refine g_iconst (pc := 0) o dX0_hearingsOfOthers_0 0 rfl ?_
  refine g_istore_n (pc := 1) o dX0_hearingsOfOthers_1 (by decide) ?_
  show ca_G Γ 5 _ _ [_, _, _, _, _] _
  refine g_iconst (pc := 2) o dX0_hearingsOfOthers_2 0 rfl ?_
  refine g_istore (pc := 3) o dX0_hearingsOfOthers_3 (by decide) ?_
  show ca_G Γ 5 _ _ [_, _, _, _, _] _
  exact lp_ho o ρ B p d ⟨rfl, rfl⟩ 0 (by omega) 0 0 rfl rfl
set_option maxRecDepth 100000 in
theorem lp_mho {Γ : Fr} (o : ca_O Γ cX10_hearingsOn 5 RX10 0 0) {Pr : Option Value → Mem → Prop} (ρ : ca_R Γ (some .int) Pr) {h : Mem} (p d : Int32) (hp : Pr (some (.int (nI (hoN (h.1 52) d p 6)))) h) : ∀ i, i ≤ 6 → ∀ xi a : Int32, xi = nI i → a = nI (hoN (h.1 52) d p i) → ca_G Γ 5 h 5 [some (.ref 51), some (.int d), some (.int p), some (.int a), some (.int xi)] [] := by
  refine downI 6 (fun i hi ih => ?_)
  rintro xi a rfl rfl
  refine g_iload (pc := 5) o dX10_hearingsOn_5 rfl ?_
  refine g_bipush (pc := 7) o dX10_hearingsOn_7 6 rfl ?_
  refine g_ic_ge (pc := 9) o 47 dX10_hearingsOn_9 (by decide) (fun c9 => ?_) (fun c9 => ?_)
  · skip
    have e : i = 6 := ge8 (n := 6) (by omega) (by omega) c9
    subst e
    refine g_iload_n (pc := 47) o dX10_hearingsOn_47 rfl ?_
    exact g_iret o ρ dX10_hearingsOn_48 hp
  · skip
    have e : i < 6 := lt8 (n := 6) (by omega) (by omega) c9
    refine g_iload_n (pc := 12) o dX10_hearingsOn_12 rfl ?_
    refine g_iload (pc := 13) o dX10_hearingsOn_13 rfl ?_
    refine g_iload_n (pc := 15) o dX10_hearingsOn_15 rfl ?_
    refine g_ic_eq (pc := 16) o 38 dX10_hearingsOn_16 (by decide) (fun c16 => ?_) (fun c16 => ?_)
    · skip
      refine g_iconst (pc := 38) o dX10_hearingsOn_38 0 rfl ?_
      refine g_iadd (pc := 39) o dX10_hearingsOn_39 ?_
      refine g_istore_n (pc := 40) o dX10_hearingsOn_40 (by decide) ?_
      show ca_G Γ 5 _ _ [_, _, _, _, _] _
      refine g_iinc (pc := 41) o dX10_hearingsOn_41 rfl 1 rfl (by decide) ?_
      show ca_G Γ 5 _ _ [_, _, _, _, _] _
      refine g_goto (pc := 44) o 5 dX10_hearingsOn_44 (by decide) ?_
      exact ih e _ _ (nI_1 i) (by rw [hoN_s, if_neg (fun z => z.1 c16)]; exact nI_add _ 0)
    · skip
      refine g_aload_n (pc := 19) o dX10_hearingsOn_19 rfl ?_
      refine g_getR (pc := 20) o 0 rfl rfl rfl inX10 (by decide) lf_X10_7 dX10_hearingsOn_20 ?_
      refine g_sipush (pc := 23) o dX10_hearingsOn_23 331 rfl ?_
      refine g_iload (pc := 26) o dX10_hearingsOn_26 rfl ?_
      refine g_iadd (pc := 28) o dX10_hearingsOn_28 ?_
      refine n_iald (pc := 29) o (331 + i) (nI_add 331 i) rfl ((by omega)) (by decide) dX10_hearingsOn_29 ?_
      refine g_iload_n (pc := 30) o dX10_hearingsOn_30 rfl ?_
      refine g_ic_ne (pc := 31) o 38 dX10_hearingsOn_31 (by decide) (fun c31 => ?_) (fun c31 => ?_)
      · skip
        refine g_iconst (pc := 38) o dX10_hearingsOn_38 0 rfl ?_
        refine g_iadd (pc := 39) o dX10_hearingsOn_39 ?_
        refine g_istore_n (pc := 40) o dX10_hearingsOn_40 (by decide) ?_
        show ca_G Γ 5 _ _ [_, _, _, _, _] _
        refine g_iinc (pc := 41) o dX10_hearingsOn_41 rfl 1 rfl (by decide) ?_
        show ca_G Γ 5 _ _ [_, _, _, _, _] _
        refine g_goto (pc := 44) o 5 dX10_hearingsOn_44 (by decide) ?_
        exact ih e _ _ (nI_1 i) (by rw [hoN_s, if_neg (fun z => c31 z.2)]; exact nI_add _ 0)
      · skip
        refine g_iconst (pc := 34) o dX10_hearingsOn_34 1 rfl ?_
        refine g_goto (pc := 35) o 39 dX10_hearingsOn_35 (by decide) ?_
        refine g_iadd (pc := 39) o dX10_hearingsOn_39 ?_
        refine g_istore_n (pc := 40) o dX10_hearingsOn_40 (by decide) ?_
        show ca_G Γ 5 _ _ [_, _, _, _, _] _
        refine g_iinc (pc := 41) o dX10_hearingsOn_41 rfl 1 rfl (by decide) ?_
        show ca_G Γ 5 _ _ [_, _, _, _, _] _
        refine g_goto (pc := 44) o 5 dX10_hearingsOn_44 (by decide) ?_
        exact ih e _ _ (nI_1 i) (by rw [hoN_s, if_pos ⟨c16, c31⟩]; exact nI_1 _)
set_option maxRecDepth 100000 in
set_option maxHeartbeats 400000 in
theorem m_ho {h : Mem} (p d : Int32) : Ct yX10_hearingsOn cX10_hearingsOn 5 (some .int) 0 0 [.ref 51, .int d, .int p] h (Ei (nI (hoN (h.1 52) d p 6)) h) := by
  refine Ct.of (by decide) (Nat.le_of_ble_eq_true rfl) (fun Γ o ρ => ?_)
  show ca_G Γ 5 _ _ [_, _, _, _, _] _
  refine g_iconst (pc := 0) o dX10_hearingsOn_0 0 rfl ?_
  refine g_istore_n (pc := 1) o dX10_hearingsOn_1 (by decide) ?_
  show ca_G Γ 5 _ _ [_, _, _, _, _] _
  refine g_iconst (pc := 2) o dX10_hearingsOn_2 0 rfl ?_
  refine g_istore (pc := 3) o dX10_hearingsOn_3 (by decide) ?_
  show ca_G Γ 5 _ _ [_, _, _, _, _] _
  exact lp_mho o ρ p d ⟨rfl, rfl⟩ 0 (by omega) 0 0 rfl rfl
def op_hearing (p d : Int32) (σ : Sg) : Int32 × Sg := if rng p 0 5 ∧ rng d 0 29 then (if hoN (σ 0) d p 6 < 2 then (nI (hoN (σ 0) d p 6) + 1, sf σ 0 (upd (σ 0) (331 + ca_n p) d)) else fnd σ 1) else fnd σ 0
def op_heard (p : Int32) (σ : Sg) : Int32 × Sg := if rng p 0 5 then (if σ 0 (331 + ca_n p) = -1 then fnd σ 3 else (σ 0 (331 + ca_n p), σ)) else fnd σ 0
def op_seed (v : Int32) (σ : Sg) : Int32 × Sg := (σ 0 284, sf σ 0 (upd (σ 0) 284 v))
theorem cntD_le (s : Nat → Int32) (d : Int32) : ∀ n, cntD s d n ≤ n
  | 0 => Nat.le_refl 0
  | n + 1 => by
    have := cntD_le s d n
    rw [cntD]
    split <;> omega
set_option maxRecDepth 100000 in
set_option maxHeartbeats 400000 in
theorem co_hearing {h : Mem} {σ : Sg} (C : CR h σ) (p d : Int32) : Ct yX9_hearing cX9_hearing 4 (some .int) 1 24 [.ref 0, .int p, .int d] h (Po h (op_hearing p d σ)) := by
  refine Ct.of (by decide) (Nat.le_of_ble_eq_true rfl) (fun Γ o ρ => ?_)
  show ca_G Γ 4 _ _ [_, _, _, _] _
  refine g_iload_n (pc := 0) o dX9_hearing_0 rfl ?_
  refine g_callSi (pc := 1) o (c_isPerson p h) mt_X9_isPerson ms_X9_isPerson lk_X9_83 rfl (by decide) rfl (Nat.le_of_ble_eq_true rfl) dX9_hearing_1 ?_
  refine g_if_eq (pc := 4) o 14 dX9_hearing_4 (by decide) (fun c4 => ?_) (fun c4 => ?_)
  · skip
    refine g_aload_n (pc := 14) o dX9_hearing_14 rfl ?_
    refine g_iconst (pc := 15) o dX9_hearing_15 0 rfl ?_
    refine g_callVi (pc := 16) o (c_finding 0 (by decide) h) mt_X9_finding mv_X9_finding lk_X9_58 rfl rfl rfl (by decide) rfl (Nat.le_of_ble_eq_true rfl) dX9_hearing_16 ?_
    exact g_iret o ρ dX9_hearing_19 (Po.eq (if_neg (fun z => bI_0.mp c4 z.1)) (Po_fnd C (by decide)))
  · skip
    refine g_iload_n (pc := 7) o dX9_hearing_7 rfl ?_
    refine g_callSi (pc := 8) o (c_isDay d h) mt_X9_isDay ms_X9_isDay lk_X9_126 rfl (by decide) rfl (Nat.le_of_ble_eq_true rfl) dX9_hearing_8 ?_
    refine g_if_ne (pc := 11) o 20 dX9_hearing_11 (by decide) (fun c11 => ?_) (fun c11 => ?_)
    · skip
      have eq : op_hearing p d σ = if hoN (σ 0) d p 6 < 2 then (nI (hoN (σ 0) d p 6) + 1, sf σ 0 (upd (σ 0) (331 + ca_n p) d)) else fnd σ 1 := if_pos ⟨bI_n0.mp c4, bI_n0.mp c11⟩
      rw [eq] at ρ
      have hl := Nat.le_trans (hoN_le (σ 0) d p 6) (cntD_le (σ 0) d 6)
      obtain ⟨k, hk, rfl, ek⟩ := n_of (x := p) (b := 5) (bI_n0.mp c4) (by decide)
      rw [ek] at ρ
      refine g_aload_n (pc := 20) o dX9_hearing_20 rfl ?_
      refine g_getR (pc := 21) o 0 rfl rfl rfl inX9 (by decide) lf_X9_10 dX9_hearing_21 ?_
      refine g_iload_n (pc := 24) o dX9_hearing_24 rfl ?_
      refine g_iload_n (pc := 25) o dX9_hearing_25 rfl ?_
      refine g_callVi (pc := 26) o (c_ho C.1 (nI k) d) mt_X0_hearingsOfOthers mv_X0_hearingsOfOthers lk_X9_260 rfl rfl rfl (by decide) rfl (Nat.le_of_ble_eq_true rfl) dX9_hearing_26 ?_
      refine g_istore_n (pc := 29) o dX9_hearing_29 (by decide) ?_
      show ca_G Γ 4 _ _ [_, _, _, _] _
      refine g_iload_n (pc := 30) o dX9_hearing_30 rfl ?_
      refine g_iconst (pc := 31) o dX9_hearing_31 2 rfl ?_
      refine g_ic_lt (pc := 32) o 41 dX9_hearing_32 (by decide) (fun c32 => ?_) (fun c32 => ?_)
      · skip
        refine g_aload_n (pc := 41) o dX9_hearing_41 rfl ?_
        refine g_getR (pc := 42) o 0 rfl rfl rfl inX9 (by decide) lf_X9_10 dX9_hearing_42 ?_
        refine g_getR (pc := 45) o 4 rfl rfl rfl inX0 (by decide) lf_X9_263 dX9_hearing_45 ?_
        refine g_iload_n (pc := 48) o dX9_hearing_48 rfl ?_
        refine g_iload_n (pc := 49) o dX9_hearing_49 rfl ?_
        refine n_iast (pc := 50) o k (rfl) rfl ((by omega)) (by decide) dX9_hearing_50 ?_
        refine g_iload_n (pc := 51) o dX9_hearing_51 rfl ?_
        refine g_iconst (pc := 52) o dX9_hearing_52 1 rfl ?_
        refine g_iadd (pc := 53) o dX9_hearing_53 ?_
        exact g_iret o ρ dX9_hearing_54 (Po.eq (if_pos ((nI_ltI (b := 2) (by omega) (by decide)).mp c32)) (Po_s C (BR_hr C.1 (by omega)) ((offB.rf h).mw (by decide))))
      · skip
        refine g_aload_n (pc := 35) o dX9_hearing_35 rfl ?_
        refine g_iconst (pc := 36) o dX9_hearing_36 1 rfl ?_
        refine g_callVi (pc := 37) o (c_finding 1 (by decide) h) mt_X9_finding mv_X9_finding lk_X9_58 rfl rfl rfl (by decide) rfl (Nat.le_of_ble_eq_true rfl) dX9_hearing_37 ?_
        exact g_iret o ρ dX9_hearing_40 (Po.eq (if_neg (fun z => c32 ((nI_ltI (by omega) (by decide)).mpr z))) (Po_fnd C (by decide)))
    · skip
      refine g_aload_n (pc := 14) o dX9_hearing_14 rfl ?_
      refine g_iconst (pc := 15) o dX9_hearing_15 0 rfl ?_
      refine g_callVi (pc := 16) o (c_finding 0 (by decide) h) mt_X9_finding mv_X9_finding lk_X9_58 rfl rfl rfl (by decide) rfl (Nat.le_of_ble_eq_true rfl) dX9_hearing_16 ?_
      exact g_iret o ρ dX9_hearing_19 (Po.eq (if_neg (fun z => bI_0.mp c11 z.2)) (Po_fnd C (by decide)))
set_option maxRecDepth 100000 in
set_option maxHeartbeats 400000 in
theorem mo_hearing {h : Mem} (I : Iv (absM h)) (p d : Int32) : Ct yX10_hearing cX10_hearing 3 (some .int) 2 45 [.ref 51, .int p, .int d] h (Pm h (op_hearing p d (absM h))) := by
  refine Ct.of (by decide) (Nat.le_of_ble_eq_true rfl) (fun Γ o ρ => ?_)
  show ca_G Γ 3 _ _ [_, _, _] _
  refine g_iload_n (pc := 0) o dX10_hearing_0 rfl ?_
  refine g_callSi (pc := 1) o (m_isPerson p h) mt_X10_isPerson ms_X10_isPerson lk_X10_98 rfl (by decide) rfl (Nat.le_of_ble_eq_true rfl) dX10_hearing_1 ?_
  refine g_if_eq (pc := 4) o 14 dX10_hearing_4 (by decide) (fun c4 => ?_) (fun c4 => ?_)
  · skip
    refine g_aload_n (pc := 14) o dX10_hearing_14 rfl ?_
    refine g_ldc (pc := 15) o dX10_hearing_15 lc_X10_68 ?_
    refine g_callVi (pc := 17) o (m_finds 0 (by decide) h) mt_X10_finds mv_X10_finds lk_X10_86 rfl rfl rfl (by decide) rfl (Nat.le_of_ble_eq_true rfl) dX10_hearing_17 ?_
    exact g_iret o ρ dX10_hearing_20 (Pm.eq (if_neg (fun z => bI_0.mp c4 z.1)) (Pm_fnd rfl (kC.rf h) (by decide)))
  · skip
    refine g_iload_n (pc := 7) o dX10_hearing_7 rfl ?_
    refine g_callSi (pc := 8) o (m_isDay d h) mt_X10_isDay ms_X10_isDay lk_X10_122 rfl (by decide) rfl (Nat.le_of_ble_eq_true rfl) dX10_hearing_8 ?_
    refine g_if_ne (pc := 11) o 21 dX10_hearing_11 (by decide) (fun c11 => ?_) (fun c11 => ?_)
    · skip
      have eq : op_hearing p d (absM h) = if hoN (h.1 52) d p 6 < 2 then (nI (hoN (h.1 52) d p 6) + 1, sf (absM h) 0 (upd (h.1 52) (331 + ca_n p) d)) else fnd (absM h) 1 := if_pos ⟨bI_n0.mp c4, bI_n0.mp c11⟩
      rw [eq] at ρ
      obtain ⟨e, he, rfl, -⟩ := n_of (x := d) (b := 29) (bI_n0.mp c11) (by decide)
      have hl : hoN (h.1 52) (nI e) p 6 ≤ 2 := Nat.le_trans (hoN_le (h.1 52) (nI e) p 6) (I.1.2.2.2.2.2.2 e (by omega))
      obtain ⟨k, hk, rfl, ek⟩ := n_of (x := p) (b := 5) (bI_n0.mp c4) (by decide)
      rw [ek] at ρ
      refine g_aload_n (pc := 21) o dX10_hearing_21 rfl ?_
      refine g_iload_n (pc := 22) o dX10_hearing_22 rfl ?_
      refine g_iload_n (pc := 23) o dX10_hearing_23 rfl ?_
      refine g_callVi (pc := 24) o (m_ho (h := h) (nI k) (nI e)) mt_X10_hearingsOn mv_X10_hearingsOn lk_X10_232 rfl rfl rfl (by decide) rfl (Nat.le_of_ble_eq_true rfl) dX10_hearing_24 ?_
      refine g_iconst (pc := 27) o dX10_hearing_27 2 rfl ?_
      refine g_ic_ne (pc := 28) o 38 dX10_hearing_28 (by decide) (fun c28 => ?_) (fun c28 => ?_)
      · skip
        have hl2 : hoN (h.1 52) (nI e) (nI k) 6 < 2 := by
          rcases Nat.lt_or_ge (hoN (h.1 52) (nI e) (nI k) 6) 2 with q | q
          · exact q
          · exact absurd (show nI (hoN (h.1 52) (nI e) (nI k) 6) = nI 2 by rw [show hoN (h.1 52) (nI e) (nI k) 6 = 2 by omega]) c28
        have hu := hoN_u (h.1 52) (nI e) k (by omega) 6 (Nat.le_refl 6)
        rw [if_pos (by omega)] at hu
        have hm := m_ho (h := mw h 52 (331 + k) (nI e)) (-1) (nI e)
        rw [mw_same, hu] at hm
        refine g_aload_n (pc := 38) o dX10_hearing_38 rfl ?_
        refine g_getR (pc := 39) o 0 rfl rfl rfl inX10 (by decide) lf_X10_7 dX10_hearing_39 ?_
        refine g_sipush (pc := 42) o dX10_hearing_42 331 rfl ?_
        refine g_iload_n (pc := 45) o dX10_hearing_45 rfl ?_
        refine g_iadd (pc := 46) o dX10_hearing_46 ?_
        refine g_iload_n (pc := 47) o dX10_hearing_47 rfl ?_
        refine n_iast (pc := 48) o (331 + k) (nI_add 331 k) rfl ((by omega)) (by decide) dX10_hearing_48 ?_
        refine g_aload_n (pc := 49) o dX10_hearing_49 rfl ?_
        refine g_iload_n (pc := 50) o dX10_hearing_50 rfl ?_
        refine g_iconst (pc := 51) o dX10_hearing_51 (-1) rfl ?_
        refine g_callVi (pc := 52) o (hm) mt_X10_hearingsOn mv_X10_hearingsOn lk_X10_232 rfl rfl rfl (by decide) rfl (Nat.le_of_ble_eq_true rfl) dX10_hearing_52 ?_
        exact g_iret o ρ dX10_hearing_55 (Pm.eq (if_pos hl2) (by rw [nI_1]; exact Pm_s rfl (offM.rf h).mw))
      · skip
        refine g_aload_n (pc := 31) o dX10_hearing_31 rfl ?_
        refine g_ldc (pc := 32) o dX10_hearing_32 lc_X10_104 ?_
        refine g_callVi (pc := 34) o (m_finds 1 (by decide) h) mt_X10_finds mv_X10_finds lk_X10_86 rfl rfl rfl (by decide) rfl (Nat.le_of_ble_eq_true rfl) dX10_hearing_34 ?_
        exact g_iret o ρ dX10_hearing_37 (Pm.eq (if_neg (fun z => by have q := (nI_eq (b := 2) (by omega) (by decide)).mp c28; omega)) (Pm_fnd rfl (kC.rf h) (by decide)))
    · skip
      refine g_aload_n (pc := 14) o dX10_hearing_14 rfl ?_
      refine g_ldc (pc := 15) o dX10_hearing_15 lc_X10_68 ?_
      refine g_callVi (pc := 17) o (m_finds 0 (by decide) h) mt_X10_finds mv_X10_finds lk_X10_86 rfl rfl rfl (by decide) rfl (Nat.le_of_ble_eq_true rfl) dX10_hearing_17 ?_
      exact g_iret o ρ dX10_hearing_20 (Pm.eq (if_neg (fun z => bI_0.mp c11 z.2)) (Pm_fnd rfl (kC.rf h) (by decide)))
set_option maxRecDepth 100000 in
set_option maxHeartbeats 400000 in
theorem co_heard {h : Mem} {σ : Sg} (C : CR h σ) (p : Int32) : Ct yX9_heard cX9_heard 2 (some .int) 1 21 [.ref 0, .int p] h (Po h (op_heard p σ)) := by
  refine Ct.of (by decide) (Nat.le_of_ble_eq_true rfl) (fun Γ o ρ => ?_)
  show ca_G Γ 2 _ _ [_, _] _
  refine g_iload_n (pc := 0) o dX9_heard_0 rfl ?_
  refine g_callSi (pc := 1) o (c_isPerson p h) mt_X9_isPerson ms_X9_isPerson lk_X9_83 rfl (by decide) rfl (Nat.le_of_ble_eq_true rfl) dX9_heard_1 ?_
  refine g_if_ne (pc := 4) o 13 dX9_heard_4 (by decide) (fun c4 => ?_) (fun c4 => ?_)
  · skip
    have eq : op_heard p σ = if σ 0 (331 + ca_n p) = -1 then fnd σ 3 else (σ 0 (331 + ca_n p), σ) := if_pos (bI_n0.mp c4)
    rw [eq] at ρ
    obtain ⟨k, hk, rfl, ek⟩ := n_of (x := p) (b := 5) (bI_n0.mp c4) (by decide)
    rw [ek] at ρ
    refine g_aload_n (pc := 13) o dX9_heard_13 rfl ?_
    refine g_getR (pc := 14) o 0 rfl rfl rfl inX9 (by decide) lf_X9_10 dX9_heard_14 ?_
    refine g_getR (pc := 17) o 4 rfl rfl rfl inX0 (by decide) lf_X9_263 dX9_heard_17 ?_
    refine g_iload_n (pc := 20) o dX9_heard_20 rfl ?_
    refine n_ialdE (pc := 21) o k (rfl) rfl ((by omega)) (by decide) (C.1.hr k (by omega)) dX9_heard_21 ?_
    refine g_iconst (pc := 22) o dX9_heard_22 (-1) rfl ?_
    refine g_ic_ne (pc := 23) o 34 dX9_heard_23 (by decide) (fun c23 => ?_) (fun c23 => ?_)
    · skip
      refine g_aload_n (pc := 34) o dX9_heard_34 rfl ?_
      refine g_getR (pc := 35) o 0 rfl rfl rfl inX9 (by decide) lf_X9_10 dX9_heard_35 ?_
      refine g_getR (pc := 38) o 4 rfl rfl rfl inX0 (by decide) lf_X9_263 dX9_heard_38 ?_
      refine g_iload_n (pc := 41) o dX9_heard_41 rfl ?_
      refine n_ialdE (pc := 42) o k (rfl) rfl ((by omega)) (by decide) (C.1.hr k (by omega)) dX9_heard_42 ?_
      exact g_iret o ρ dX9_heard_43 (Po.eq (if_neg c23) (Po.mk rfl C (kM.rf h)))
    · skip
      refine g_aload_n (pc := 26) o dX9_heard_26 rfl ?_
      refine g_iconst (pc := 27) o dX9_heard_27 3 rfl ?_
      refine g_callVi (pc := 28) o (c_finding 3 (by decide) h) mt_X9_finding mv_X9_finding lk_X9_58 rfl rfl rfl (by decide) rfl (Nat.le_of_ble_eq_true rfl) dX9_heard_28 ?_
      refine g_goto (pc := 31) o 43 dX9_heard_31 (by decide) ?_
      exact g_iret o ρ dX9_heard_43 (Po.eq (if_pos c23) (Po_fnd C (by decide)))
  · skip
    refine g_aload_n (pc := 7) o dX9_heard_7 rfl ?_
    refine g_iconst (pc := 8) o dX9_heard_8 0 rfl ?_
    refine g_callVi (pc := 9) o (c_finding 0 (by decide) h) mt_X9_finding mv_X9_finding lk_X9_58 rfl rfl rfl (by decide) rfl (Nat.le_of_ble_eq_true rfl) dX9_heard_9 ?_
    exact g_iret o ρ dX9_heard_12 (Po.eq (if_neg (fun z => bI_0.mp c4 z)) (Po_fnd C (by decide)))
set_option maxRecDepth 100000 in
set_option maxHeartbeats 400000 in
theorem mo_heard {h : Mem} (I : Iv (absM h)) (p : Int32) : Ct yX10_heard cX10_heard 2 (some .int) 2 45 [.ref 51, .int p] h (Pm h (op_heard p (absM h))) := by
  refine Ct.of (by decide) (Nat.le_of_ble_eq_true rfl) (fun Γ o ρ => ?_)
  show ca_G Γ 2 _ _ [_, _] _
  refine g_iload_n (pc := 0) o dX10_heard_0 rfl ?_
  refine g_callSi (pc := 1) o (m_isPerson p h) mt_X10_isPerson ms_X10_isPerson lk_X10_98 rfl (by decide) rfl (Nat.le_of_ble_eq_true rfl) dX10_heard_1 ?_
  refine g_if_ne (pc := 4) o 14 dX10_heard_4 (by decide) (fun c4 => ?_) (fun c4 => ?_)
  · skip
    have eq : op_heard p (absM h) = if h.1 52 (331 + ca_n p) = -1 then fnd (absM h) 3 else (h.1 52 (331 + ca_n p), absM h) := if_pos (bI_n0.mp c4)
    rw [eq] at ρ
    obtain ⟨k, hk, rfl, ek⟩ := n_of (x := p) (b := 5) (bI_n0.mp c4) (by decide)
    rw [ek] at ρ
    have hv : h.1 52 (331 + k) = -1 ∨ ∃ d, d < 30 ∧ h.1 52 (331 + k) = nI d := I.1.2.2.2.2.2.1 k (by omega)
    refine g_aload_n (pc := 14) o dX10_heard_14 rfl ?_
    refine g_getR (pc := 15) o 0 rfl rfl rfl inX10 (by decide) lf_X10_7 dX10_heard_15 ?_
    refine g_sipush (pc := 18) o dX10_heard_18 331 rfl ?_
    refine g_iload_n (pc := 21) o dX10_heard_21 rfl ?_
    refine g_iadd (pc := 22) o dX10_heard_22 ?_
    refine n_iald (pc := 23) o (331 + k) (nI_add 331 k) rfl ((by omega)) (by decide) dX10_heard_23 ?_
    refine g_if_ge (pc := 24) o 36 dX10_heard_24 (by decide) (fun c24 => ?_) (fun c24 => ?_)
    · skip
      have ne : ¬ h.1 52 (331 + k) = -1 := fun z => by rw [z] at c24; exact absurd c24 (by decide)
      refine g_aload_n (pc := 36) o dX10_heard_36 rfl ?_
      refine g_getR (pc := 37) o 0 rfl rfl rfl inX10 (by decide) lf_X10_7 dX10_heard_37 ?_
      refine g_sipush (pc := 40) o dX10_heard_40 331 rfl ?_
      refine g_iload_n (pc := 43) o dX10_heard_43 rfl ?_
      refine g_iadd (pc := 44) o dX10_heard_44 ?_
      refine n_iald (pc := 45) o (331 + k) (nI_add 331 k) rfl ((by omega)) (by decide) dX10_heard_45 ?_
      exact g_iret o ρ dX10_heard_46 (Pm.eq (if_neg ne) (Pm.mk rfl rfl (kC.rf h)))
    · skip
      have ne : h.1 52 (331 + k) = -1 := by
        rcases hv with z | ⟨d, hd, z⟩
        · exact z
        · rw [z] at c24; exact absurd (nI_pos' (by omega)) c24
      refine g_aload_n (pc := 27) o dX10_heard_27 rfl ?_
      refine g_ldc (pc := 28) o dX10_heard_28 lc_X10_97 ?_
      refine g_callVi (pc := 30) o (m_finds 3 (by decide) h) mt_X10_finds mv_X10_finds lk_X10_86 rfl rfl rfl (by decide) rfl (Nat.le_of_ble_eq_true rfl) dX10_heard_30 ?_
      refine g_goto (pc := 33) o 46 dX10_heard_33 (by decide) ?_
      exact g_iret o ρ dX10_heard_46 (Pm.eq (if_pos ne) (Pm_fnd rfl (kC.rf h) (by decide)))
  · skip
    refine g_aload_n (pc := 7) o dX10_heard_7 rfl ?_
    refine g_ldc (pc := 8) o dX10_heard_8 lc_X10_68 ?_
    refine g_callVi (pc := 10) o (m_finds 0 (by decide) h) mt_X10_finds mv_X10_finds lk_X10_86 rfl rfl rfl (by decide) rfl (Nat.le_of_ble_eq_true rfl) dX10_heard_10 ?_
    exact g_iret o ρ dX10_heard_13 (Pm.eq (if_neg (fun z => bI_0.mp c4 z)) (Pm_fnd rfl (kC.rf h) (by decide)))
set_option maxRecDepth 100000 in
set_option maxHeartbeats 400000 in
theorem co_seed {h : Mem} {σ : Sg} (C : CR h σ) (v : Int32) : Ct yX9_seed cX9_seed 3 (some .int) 0 0 [.ref 0, .int v] h (Po h (op_seed v σ)) := by
  refine Ct.of (by decide) (Nat.le_of_ble_eq_true rfl) (fun Γ o ρ => ?_)
  show ca_G Γ 3 _ _ [_, _, _] _
  refine g_aload_n (pc := 0) o dX9_seed_0 rfl ?_
  refine g_getR (pc := 1) o 0 rfl rfl rfl inX9 (by decide) lf_X9_10 dX9_seed_1 ?_
  refine g_getIE (pc := 4) o 6 rfl rfl rfl inX0 (by decide) lf_X9_266 (C.1.2.2.2.2.2.2.1) dX9_seed_4 ?_
  refine g_istore_n (pc := 7) o dX9_seed_7 (by decide) ?_
  show ca_G Γ 3 _ _ [_, _, _] _
  refine g_aload_n (pc := 8) o dX9_seed_8 rfl ?_
  refine g_getR (pc := 9) o 0 rfl rfl rfl inX9 (by decide) lf_X9_10 dX9_seed_9 ?_
  refine g_iload_n (pc := 12) o dX9_seed_12 rfl ?_
  refine g_put (pc := 13) o 6 rfl rfl rfl inX0 tyX0_ok nmX0 (by decide) lf_X9_266 rfl rfl rfl dX9_seed_13 ?_
  refine g_iload_n (pc := 16) o dX9_seed_16 rfl ?_
  exact g_iret o ρ dX9_seed_17 (Po_s C (BR_bo C.1) ((offB.rf h).mw (by decide)))
set_option maxRecDepth 100000 in
set_option maxHeartbeats 400000 in
theorem mo_seed {h : Mem} (v : Int32) : Ct yX10_seed cX10_seed 3 (some .int) 0 0 [.ref 51, .int v] h (Pm h (op_seed v (absM h))) := by
  refine Ct.of (by decide) (Nat.le_of_ble_eq_true rfl) (fun Γ o ρ => ?_)
  show ca_G Γ 3 _ _ [_, _, _] _
  refine g_aload_n (pc := 0) o dX10_seed_0 rfl ?_
  refine g_getR (pc := 1) o 0 rfl rfl rfl inX10 (by decide) lf_X10_7 dX10_seed_1 ?_
  refine g_sipush (pc := 4) o dX10_seed_4 284 rfl ?_
  refine n_iald (pc := 7) o 284 (rfl) rfl ((by omega)) (by decide) dX10_seed_7 ?_
  refine g_istore_n (pc := 8) o dX10_seed_8 (by decide) ?_
  show ca_G Γ 3 _ _ [_, _, _] _
  refine g_aload_n (pc := 9) o dX10_seed_9 rfl ?_
  refine g_getR (pc := 10) o 0 rfl rfl rfl inX10 (by decide) lf_X10_7 dX10_seed_10 ?_
  refine g_sipush (pc := 13) o dX10_seed_13 284 rfl ?_
  refine g_iload_n (pc := 16) o dX10_seed_16 rfl ?_
  refine n_iast (pc := 17) o 284 (rfl) rfl ((by omega)) (by decide) dX10_seed_17 ?_
  refine g_iload_n (pc := 18) o dX10_seed_18 rfl ?_
  exact g_iret o ρ dX10_seed_19 (Pm_s rfl (offM.rf h).mw)
def clF (a : Int32) : Nat → Int32 → Bool
  | 0, _ => false
  | n + 1, k => if k = -1 then false else if k = a then true else clF a n (ca_above.getD (ca_n k) 0)
theorem clF_s (a : Int32) (n : Nat) (k : Int32) : clF a (n + 1) k = if k = -1 then false else if k = a then true else clF a n (ca_above.getD (ca_n k) 0) := rfl
theorem above_in : ∀ k, k < 7 → ca_above.getD k 0 = -1 ∨ ∃ j, j < 7 ∧ ca_above.getD k 0 = nI j := by
  intro k hk
  rcases (by omega : k = 0 ∨ k = 1 ∨ k = 2 ∨ k = 3 ∨ k = 4 ∨ k = 5 ∨ k = 6) with rfl | rfl | rfl | rfl | rfl | rfl | rfl
  · exact Or.inl rfl
  · exact Or.inr ⟨0, by decide, rfl⟩
  · exact Or.inr ⟨0, by decide, rfl⟩
  · exact Or.inr ⟨2, by decide, rfl⟩
  · exact Or.inr ⟨1, by decide, rfl⟩
  · exact Or.inr ⟨0, by decide, rfl⟩
  · exact Or.inr ⟨3, by decide, rfl⟩
set_option maxRecDepth 100000 in
theorem lp_isOfKind {Γ : Fr} (o : ca_O Γ cX7_isOfKind 5 RX7 1 22) {Pr : Option Value → Mem → Prop} (ρ : ca_R Γ (some .boolean) Pr) {h : Mem} (t : Nat) (a : Int32) (z : Bool) (hp : Pr (some (.int (bI (z = true)))) h) : ∀ i, i ≤ 7 → ∀ xi x : Int32, xi = nI i → (x = -1 ∨ ∃ j, j < 7 ∧ x = nI j) → clF a (7 - i) x = z → ca_G Γ 5 h 10 [some (.ref 6), some (.int (nI t)), some (.int a), some (.int x), some (.int xi)] [] := by
  refine downI 7 (fun i hi ih => ?_)
  rintro xi x rfl hx e
  refine g_iload (pc := 10) o dX7_isOfKind_10 rfl ?_
  refine g_bipush (pc := 12) o dX7_isOfKind_12 7 rfl ?_
  refine g_ic_ge (pc := 14) o 41 dX7_isOfKind_14 (by decide) (fun c14 => ?_) (fun c14 => ?_)
  · skip
    have e7 : i = 7 := ge8 (n := 7) (by omega) (by omega) c14
    subst e7
    have ez : z = false := e.symm
    subst ez
    refine g_iconst (pc := 41) o dX7_isOfKind_41 0 rfl ?_
    exact g_zret o ρ (by first | rfl | exact bI_b) dX7_isOfKind_42 hp
  · skip
    have e7 : i < 7 := lt8 (n := 7) (by omega) (by omega) c14
    rw [show 7 - i = (7 - (i + 1)) + 1 by omega, clF_s] at e
    refine g_iload_n (pc := 17) o dX7_isOfKind_17 rfl ?_
    refine g_iconst (pc := 18) o dX7_isOfKind_18 (-1) rfl ?_
    refine g_ic_eq (pc := 19) o 41 dX7_isOfKind_19 (by decide) (fun c19 => ?_) (fun c19 => ?_)
    · skip
      rw [if_pos c19] at e
      subst e
      refine g_iconst (pc := 41) o dX7_isOfKind_41 0 rfl ?_
      exact g_zret o ρ (by first | rfl | exact bI_b) dX7_isOfKind_42 hp
    · skip
      rw [if_neg c19] at e
      rcases hx with hx | ⟨j, hj, rfl⟩
      · exact absurd hx c19
      refine g_iload_n (pc := 22) o dX7_isOfKind_22 rfl ?_
      refine g_iload_n (pc := 23) o dX7_isOfKind_23 rfl ?_
      refine g_ic_ne (pc := 24) o 29 dX7_isOfKind_24 (by decide) (fun c24 => ?_) (fun c24 => ?_)
      · skip
        rw [if_neg c24] at e
        have ej : ca_n (nI j) = j := nI_clamp (by omega)
        rw [ej] at e
        refine g_above (pc := 29) o lf_X7_37 dX7_isOfKind_29 ?_
        refine g_iload_n (pc := 32) o dX7_isOfKind_32 rfl ?_
        refine n_above (pc := 33) o j (rfl) (hj) dX7_isOfKind_33 ?_
        refine g_istore_n (pc := 34) o dX7_isOfKind_34 (by decide) ?_
        show ca_G Γ 5 _ _ [_, _, _, _, _] _
        refine g_iinc (pc := 35) o dX7_isOfKind_35 rfl 1 rfl (by decide) ?_
        show ca_G Γ 5 _ _ [_, _, _, _, _] _
        refine g_goto (pc := 38) o 10 dX7_isOfKind_38 (by decide) ?_
        exact ih e7 _ _ (nI_1 i) (above_in j hj) e
      · skip
        rw [if_pos c24] at e
        subst e
        refine g_iconst (pc := 27) o dX7_isOfKind_27 1 rfl ?_
        exact g_zret o ρ (by first | rfl | exact bI_b) dX7_isOfKind_28 hp
set_option maxRecDepth 100000 in
set_option maxHeartbeats 400000 in
theorem c_isOfKind {h : Mem} {s : Nat → Int32} (B : BR h 1 s) (T : okTm s) (t : Nat) (ht : t < 12) (a : Int32) : Ct yX7_isOfKind cX7_isOfKind 5 (some .boolean) 1 22 [.ref 6, .int (nI t), .int a] h (Ei (bI (clF a 7 (tmF s t 0) = true)) h) := by
  refine Ct.of (by decide) (Nat.le_of_ble_eq_true rfl) (fun Γ o ρ => ?_)
  show ca_G Γ 5 _ _ [_, _, _, _, _] _
  obtain ⟨k, _, _, _, _, _, _, hk, -, -, -, -, -, -, e0, -⟩ := T t ht
  refine g_aload_n (pc := 0) o dX7_isOfKind_0 rfl ?_
  refine g_iload_n (pc := 1) o dX7_isOfKind_1 rfl ?_
  refine g_iconst (pc := 2) o dX7_isOfKind_2 0 rfl ?_
  refine g_callVi (pc := 3) o (c_tf B t 0 ht (by decide)) mt_X7_field mv_X7_field lk_X7_19 rfl rfl rfl (by decide) rfl (Nat.le_of_ble_eq_true rfl) dX7_isOfKind_3 ?_
  refine g_istore_n (pc := 6) o dX7_isOfKind_6 (by decide) ?_
  show ca_G Γ 5 _ _ [_, _, _, _, _] _
  refine g_iconst (pc := 7) o dX7_isOfKind_7 0 rfl ?_
  refine g_istore (pc := 8) o dX7_isOfKind_8 (by decide) ?_
  show ca_G Γ 5 _ _ [_, _, _, _, _] _
  exact lp_isOfKind o ρ t a _ ⟨rfl, rfl⟩ 0 (by omega) 0 _ rfl (Or.inr ⟨k, hk, e0⟩) rfl
abbrev undF (k a : Int32) : Prop := k = a ∨ a = 0 ∨ (a = 1 ∧ k = 4) ∨ (a = 2 ∧ (k = 3 ∨ k = 6)) ∨ (a = 3 ∧ k = 6)
theorem clF_und : ∀ k, k < 7 → ∀ a, a < 7 → (clF (nI a) 7 (nI k) = true ↔ undF (nI k) (nI a)) := by decide +kernel
set_option maxRecDepth 100000 in
set_option maxHeartbeats 400000 in
theorem m_isUnder (k a : Int32) (h : Mem) : Ct yX10_isUnder cX10_isUnder 2 (some .boolean) 0 0 [.int k, .int a] h (Ei (bI (undF k a)) h) := by
  refine Ct.of (by decide) (Nat.le_of_ble_eq_true rfl) (fun Γ o ρ => ?_)
  show ca_G Γ 2 _ _ [_, _] _
  refine g_iload_n (pc := 0) o dX10_isUnder_0 rfl ?_
  refine g_iload_n (pc := 1) o dX10_isUnder_1 rfl ?_
  refine g_ic_eq (pc := 2) o 46 dX10_isUnder_2 (by decide) (fun c2 => ?_) (fun c2 => ?_)
  · skip
    refine g_iconst (pc := 46) o dX10_isUnder_46 1 rfl ?_
    refine g_goto (pc := 47) o 51 dX10_isUnder_47 (by decide) ?_
    exact g_zret o ρ (by first | rfl | exact bI_b) dX10_isUnder_51 (Ei.mk (by first | exact bI_t (Or.inl c2) | exact bI_t (Or.inr (Or.inl c6)) | exact bI_t (Or.inr (Or.inr (Or.inl ⟨c11, c16⟩))) | exact bI_t (Or.inr (Or.inr (Or.inr (Or.inl ⟨c21, Or.inl c26⟩)))) | exact bI_t (Or.inr (Or.inr (Or.inr (Or.inl ⟨c21, Or.inr c32⟩)))) | exact bI_t (Or.inr (Or.inr (Or.inr (Or.inr ⟨c37, c43⟩)))) | (refine bI_f ?_; simp_all; done)) rfl)
  · skip
    refine g_iload_n (pc := 5) o dX10_isUnder_5 rfl ?_
    refine g_if_eq (pc := 6) o 46 dX10_isUnder_6 (by decide) (fun c6 => ?_) (fun c6 => ?_)
    · skip
      refine g_iconst (pc := 46) o dX10_isUnder_46 1 rfl ?_
      refine g_goto (pc := 47) o 51 dX10_isUnder_47 (by decide) ?_
      exact g_zret o ρ (by first | rfl | exact bI_b) dX10_isUnder_51 (Ei.mk (by first | exact bI_t (Or.inl c2) | exact bI_t (Or.inr (Or.inl c6)) | exact bI_t (Or.inr (Or.inr (Or.inl ⟨c11, c16⟩))) | exact bI_t (Or.inr (Or.inr (Or.inr (Or.inl ⟨c21, Or.inl c26⟩)))) | exact bI_t (Or.inr (Or.inr (Or.inr (Or.inl ⟨c21, Or.inr c32⟩)))) | exact bI_t (Or.inr (Or.inr (Or.inr (Or.inr ⟨c37, c43⟩)))) | (refine bI_f ?_; simp_all; done)) rfl)
    · skip
      refine g_iload_n (pc := 9) o dX10_isUnder_9 rfl ?_
      refine g_iconst (pc := 10) o dX10_isUnder_10 1 rfl ?_
      refine g_ic_ne (pc := 11) o 19 dX10_isUnder_11 (by decide) (fun c11 => ?_) (fun c11 => ?_)
      · skip
        refine g_iload_n (pc := 19) o dX10_isUnder_19 rfl ?_
        refine g_iconst (pc := 20) o dX10_isUnder_20 2 rfl ?_
        refine g_ic_ne (pc := 21) o 35 dX10_isUnder_21 (by decide) (fun c21 => ?_) (fun c21 => ?_)
        · skip
          refine g_iload_n (pc := 35) o dX10_isUnder_35 rfl ?_
          refine g_iconst (pc := 36) o dX10_isUnder_36 3 rfl ?_
          refine g_ic_ne (pc := 37) o 50 dX10_isUnder_37 (by decide) (fun c37 => ?_) (fun c37 => ?_)
          · skip
            refine g_iconst (pc := 50) o dX10_isUnder_50 0 rfl ?_
            exact g_zret o ρ (by first | rfl | exact bI_b) dX10_isUnder_51 (Ei.mk (by first | exact bI_t (Or.inl c2) | exact bI_t (Or.inr (Or.inl c6)) | exact bI_t (Or.inr (Or.inr (Or.inl ⟨c11, c16⟩))) | exact bI_t (Or.inr (Or.inr (Or.inr (Or.inl ⟨c21, Or.inl c26⟩)))) | exact bI_t (Or.inr (Or.inr (Or.inr (Or.inl ⟨c21, Or.inr c32⟩)))) | exact bI_t (Or.inr (Or.inr (Or.inr (Or.inr ⟨c37, c43⟩)))) | (refine bI_f ?_; simp_all; done)) rfl)
          · skip
            refine g_iload_n (pc := 40) o dX10_isUnder_40 rfl ?_
            refine g_bipush (pc := 41) o dX10_isUnder_41 6 rfl ?_
            refine g_ic_ne (pc := 43) o 50 dX10_isUnder_43 (by decide) (fun c43 => ?_) (fun c43 => ?_)
            · skip
              refine g_iconst (pc := 50) o dX10_isUnder_50 0 rfl ?_
              exact g_zret o ρ (by first | rfl | exact bI_b) dX10_isUnder_51 (Ei.mk (by first | exact bI_t (Or.inl c2) | exact bI_t (Or.inr (Or.inl c6)) | exact bI_t (Or.inr (Or.inr (Or.inl ⟨c11, c16⟩))) | exact bI_t (Or.inr (Or.inr (Or.inr (Or.inl ⟨c21, Or.inl c26⟩)))) | exact bI_t (Or.inr (Or.inr (Or.inr (Or.inl ⟨c21, Or.inr c32⟩)))) | exact bI_t (Or.inr (Or.inr (Or.inr (Or.inr ⟨c37, c43⟩)))) | (refine bI_f ?_; simp_all; done)) rfl)
            · skip
              refine g_iconst (pc := 46) o dX10_isUnder_46 1 rfl ?_
              refine g_goto (pc := 47) o 51 dX10_isUnder_47 (by decide) ?_
              exact g_zret o ρ (by first | rfl | exact bI_b) dX10_isUnder_51 (Ei.mk (by first | exact bI_t (Or.inl c2) | exact bI_t (Or.inr (Or.inl c6)) | exact bI_t (Or.inr (Or.inr (Or.inl ⟨c11, c16⟩))) | exact bI_t (Or.inr (Or.inr (Or.inr (Or.inl ⟨c21, Or.inl c26⟩)))) | exact bI_t (Or.inr (Or.inr (Or.inr (Or.inl ⟨c21, Or.inr c32⟩)))) | exact bI_t (Or.inr (Or.inr (Or.inr (Or.inr ⟨c37, c43⟩)))) | (refine bI_f ?_; simp_all; done)) rfl)
        · skip
          refine g_iload_n (pc := 24) o dX10_isUnder_24 rfl ?_
          refine g_iconst (pc := 25) o dX10_isUnder_25 3 rfl ?_
          refine g_ic_eq (pc := 26) o 46 dX10_isUnder_26 (by decide) (fun c26 => ?_) (fun c26 => ?_)
          · skip
            refine g_iconst (pc := 46) o dX10_isUnder_46 1 rfl ?_
            refine g_goto (pc := 47) o 51 dX10_isUnder_47 (by decide) ?_
            exact g_zret o ρ (by first | rfl | exact bI_b) dX10_isUnder_51 (Ei.mk (by first | exact bI_t (Or.inl c2) | exact bI_t (Or.inr (Or.inl c6)) | exact bI_t (Or.inr (Or.inr (Or.inl ⟨c11, c16⟩))) | exact bI_t (Or.inr (Or.inr (Or.inr (Or.inl ⟨c21, Or.inl c26⟩)))) | exact bI_t (Or.inr (Or.inr (Or.inr (Or.inl ⟨c21, Or.inr c32⟩)))) | exact bI_t (Or.inr (Or.inr (Or.inr (Or.inr ⟨c37, c43⟩)))) | (refine bI_f ?_; simp_all; done)) rfl)
          · skip
            refine g_iload_n (pc := 29) o dX10_isUnder_29 rfl ?_
            refine g_bipush (pc := 30) o dX10_isUnder_30 6 rfl ?_
            refine g_ic_eq (pc := 32) o 46 dX10_isUnder_32 (by decide) (fun c32 => ?_) (fun c32 => ?_)
            · skip
              refine g_iconst (pc := 46) o dX10_isUnder_46 1 rfl ?_
              refine g_goto (pc := 47) o 51 dX10_isUnder_47 (by decide) ?_
              exact g_zret o ρ (by first | rfl | exact bI_b) dX10_isUnder_51 (Ei.mk (by first | exact bI_t (Or.inl c2) | exact bI_t (Or.inr (Or.inl c6)) | exact bI_t (Or.inr (Or.inr (Or.inl ⟨c11, c16⟩))) | exact bI_t (Or.inr (Or.inr (Or.inr (Or.inl ⟨c21, Or.inl c26⟩)))) | exact bI_t (Or.inr (Or.inr (Or.inr (Or.inl ⟨c21, Or.inr c32⟩)))) | exact bI_t (Or.inr (Or.inr (Or.inr (Or.inr ⟨c37, c43⟩)))) | (refine bI_f ?_; simp_all; done)) rfl)
            · skip
              refine g_iload_n (pc := 35) o dX10_isUnder_35 rfl ?_
              refine g_iconst (pc := 36) o dX10_isUnder_36 3 rfl ?_
              refine g_ic_ne (pc := 37) o 50 dX10_isUnder_37 (by decide) (fun c37 => ?_) (fun c37 => ?_)
              · skip
                refine g_iconst (pc := 50) o dX10_isUnder_50 0 rfl ?_
                exact g_zret o ρ (by first | rfl | exact bI_b) dX10_isUnder_51 (Ei.mk (by first | exact bI_t (Or.inl c2) | exact bI_t (Or.inr (Or.inl c6)) | exact bI_t (Or.inr (Or.inr (Or.inl ⟨c11, c16⟩))) | exact bI_t (Or.inr (Or.inr (Or.inr (Or.inl ⟨c21, Or.inl c26⟩)))) | exact bI_t (Or.inr (Or.inr (Or.inr (Or.inl ⟨c21, Or.inr c32⟩)))) | exact bI_t (Or.inr (Or.inr (Or.inr (Or.inr ⟨c37, c43⟩)))) | (refine bI_f ?_; simp_all; done)) rfl)
              · skip
                refine g_iload_n (pc := 40) o dX10_isUnder_40 rfl ?_
                refine g_bipush (pc := 41) o dX10_isUnder_41 6 rfl ?_
                refine g_ic_ne (pc := 43) o 50 dX10_isUnder_43 (by decide) (fun c43 => ?_) (fun c43 => ?_)
                · skip
                  refine g_iconst (pc := 50) o dX10_isUnder_50 0 rfl ?_
                  exact g_zret o ρ (by first | rfl | exact bI_b) dX10_isUnder_51 (Ei.mk (by first | exact bI_t (Or.inl c2) | exact bI_t (Or.inr (Or.inl c6)) | exact bI_t (Or.inr (Or.inr (Or.inl ⟨c11, c16⟩))) | exact bI_t (Or.inr (Or.inr (Or.inr (Or.inl ⟨c21, Or.inl c26⟩)))) | exact bI_t (Or.inr (Or.inr (Or.inr (Or.inl ⟨c21, Or.inr c32⟩)))) | exact bI_t (Or.inr (Or.inr (Or.inr (Or.inr ⟨c37, c43⟩)))) | (refine bI_f ?_; simp_all; done)) rfl)
                · skip
                  refine g_iconst (pc := 46) o dX10_isUnder_46 1 rfl ?_
                  refine g_goto (pc := 47) o 51 dX10_isUnder_47 (by decide) ?_
                  exact g_zret o ρ (by first | rfl | exact bI_b) dX10_isUnder_51 (Ei.mk (by first | exact bI_t (Or.inl c2) | exact bI_t (Or.inr (Or.inl c6)) | exact bI_t (Or.inr (Or.inr (Or.inl ⟨c11, c16⟩))) | exact bI_t (Or.inr (Or.inr (Or.inr (Or.inl ⟨c21, Or.inl c26⟩)))) | exact bI_t (Or.inr (Or.inr (Or.inr (Or.inl ⟨c21, Or.inr c32⟩)))) | exact bI_t (Or.inr (Or.inr (Or.inr (Or.inr ⟨c37, c43⟩)))) | (refine bI_f ?_; simp_all; done)) rfl)
      · skip
        refine g_iload_n (pc := 14) o dX10_isUnder_14 rfl ?_
        refine g_iconst (pc := 15) o dX10_isUnder_15 4 rfl ?_
        refine g_ic_eq (pc := 16) o 46 dX10_isUnder_16 (by decide) (fun c16 => ?_) (fun c16 => ?_)
        · skip
          refine g_iconst (pc := 46) o dX10_isUnder_46 1 rfl ?_
          refine g_goto (pc := 47) o 51 dX10_isUnder_47 (by decide) ?_
          exact g_zret o ρ (by first | rfl | exact bI_b) dX10_isUnder_51 (Ei.mk (by first | exact bI_t (Or.inl c2) | exact bI_t (Or.inr (Or.inl c6)) | exact bI_t (Or.inr (Or.inr (Or.inl ⟨c11, c16⟩))) | exact bI_t (Or.inr (Or.inr (Or.inr (Or.inl ⟨c21, Or.inl c26⟩)))) | exact bI_t (Or.inr (Or.inr (Or.inr (Or.inl ⟨c21, Or.inr c32⟩)))) | exact bI_t (Or.inr (Or.inr (Or.inr (Or.inr ⟨c37, c43⟩)))) | (refine bI_f ?_; simp_all; done)) rfl)
        · skip
          refine g_iload_n (pc := 19) o dX10_isUnder_19 rfl ?_
          refine g_iconst (pc := 20) o dX10_isUnder_20 2 rfl ?_
          refine g_ic_ne (pc := 21) o 35 dX10_isUnder_21 (by decide) (fun c21 => ?_) (fun c21 => ?_)
          · skip
            refine g_iload_n (pc := 35) o dX10_isUnder_35 rfl ?_
            refine g_iconst (pc := 36) o dX10_isUnder_36 3 rfl ?_
            refine g_ic_ne (pc := 37) o 50 dX10_isUnder_37 (by decide) (fun c37 => ?_) (fun c37 => ?_)
            · skip
              refine g_iconst (pc := 50) o dX10_isUnder_50 0 rfl ?_
              exact g_zret o ρ (by first | rfl | exact bI_b) dX10_isUnder_51 (Ei.mk (by first | exact bI_t (Or.inl c2) | exact bI_t (Or.inr (Or.inl c6)) | exact bI_t (Or.inr (Or.inr (Or.inl ⟨c11, c16⟩))) | exact bI_t (Or.inr (Or.inr (Or.inr (Or.inl ⟨c21, Or.inl c26⟩)))) | exact bI_t (Or.inr (Or.inr (Or.inr (Or.inl ⟨c21, Or.inr c32⟩)))) | exact bI_t (Or.inr (Or.inr (Or.inr (Or.inr ⟨c37, c43⟩)))) | (refine bI_f ?_; simp_all; done)) rfl)
            · skip
              refine g_iload_n (pc := 40) o dX10_isUnder_40 rfl ?_
              refine g_bipush (pc := 41) o dX10_isUnder_41 6 rfl ?_
              refine g_ic_ne (pc := 43) o 50 dX10_isUnder_43 (by decide) (fun c43 => ?_) (fun c43 => ?_)
              · skip
                refine g_iconst (pc := 50) o dX10_isUnder_50 0 rfl ?_
                exact g_zret o ρ (by first | rfl | exact bI_b) dX10_isUnder_51 (Ei.mk (by first | exact bI_t (Or.inl c2) | exact bI_t (Or.inr (Or.inl c6)) | exact bI_t (Or.inr (Or.inr (Or.inl ⟨c11, c16⟩))) | exact bI_t (Or.inr (Or.inr (Or.inr (Or.inl ⟨c21, Or.inl c26⟩)))) | exact bI_t (Or.inr (Or.inr (Or.inr (Or.inl ⟨c21, Or.inr c32⟩)))) | exact bI_t (Or.inr (Or.inr (Or.inr (Or.inr ⟨c37, c43⟩)))) | (refine bI_f ?_; simp_all; done)) rfl)
              · skip
                refine g_iconst (pc := 46) o dX10_isUnder_46 1 rfl ?_
                refine g_goto (pc := 47) o 51 dX10_isUnder_47 (by decide) ?_
                exact g_zret o ρ (by first | rfl | exact bI_b) dX10_isUnder_51 (Ei.mk (by first | exact bI_t (Or.inl c2) | exact bI_t (Or.inr (Or.inl c6)) | exact bI_t (Or.inr (Or.inr (Or.inl ⟨c11, c16⟩))) | exact bI_t (Or.inr (Or.inr (Or.inr (Or.inl ⟨c21, Or.inl c26⟩)))) | exact bI_t (Or.inr (Or.inr (Or.inr (Or.inl ⟨c21, Or.inr c32⟩)))) | exact bI_t (Or.inr (Or.inr (Or.inr (Or.inr ⟨c37, c43⟩)))) | (refine bI_f ?_; simp_all; done)) rfl)
          · skip
            refine g_iload_n (pc := 24) o dX10_isUnder_24 rfl ?_
            refine g_iconst (pc := 25) o dX10_isUnder_25 3 rfl ?_
            refine g_ic_eq (pc := 26) o 46 dX10_isUnder_26 (by decide) (fun c26 => ?_) (fun c26 => ?_)
            · skip
              refine g_iconst (pc := 46) o dX10_isUnder_46 1 rfl ?_
              refine g_goto (pc := 47) o 51 dX10_isUnder_47 (by decide) ?_
              exact g_zret o ρ (by first | rfl | exact bI_b) dX10_isUnder_51 (Ei.mk (by first | exact bI_t (Or.inl c2) | exact bI_t (Or.inr (Or.inl c6)) | exact bI_t (Or.inr (Or.inr (Or.inl ⟨c11, c16⟩))) | exact bI_t (Or.inr (Or.inr (Or.inr (Or.inl ⟨c21, Or.inl c26⟩)))) | exact bI_t (Or.inr (Or.inr (Or.inr (Or.inl ⟨c21, Or.inr c32⟩)))) | exact bI_t (Or.inr (Or.inr (Or.inr (Or.inr ⟨c37, c43⟩)))) | (refine bI_f ?_; simp_all; done)) rfl)
            · skip
              refine g_iload_n (pc := 29) o dX10_isUnder_29 rfl ?_
              refine g_bipush (pc := 30) o dX10_isUnder_30 6 rfl ?_
              refine g_ic_eq (pc := 32) o 46 dX10_isUnder_32 (by decide) (fun c32 => ?_) (fun c32 => ?_)
              · skip
                refine g_iconst (pc := 46) o dX10_isUnder_46 1 rfl ?_
                refine g_goto (pc := 47) o 51 dX10_isUnder_47 (by decide) ?_
                exact g_zret o ρ (by first | rfl | exact bI_b) dX10_isUnder_51 (Ei.mk (by first | exact bI_t (Or.inl c2) | exact bI_t (Or.inr (Or.inl c6)) | exact bI_t (Or.inr (Or.inr (Or.inl ⟨c11, c16⟩))) | exact bI_t (Or.inr (Or.inr (Or.inr (Or.inl ⟨c21, Or.inl c26⟩)))) | exact bI_t (Or.inr (Or.inr (Or.inr (Or.inl ⟨c21, Or.inr c32⟩)))) | exact bI_t (Or.inr (Or.inr (Or.inr (Or.inr ⟨c37, c43⟩)))) | (refine bI_f ?_; simp_all; done)) rfl)
              · skip
                refine g_iload_n (pc := 35) o dX10_isUnder_35 rfl ?_
                refine g_iconst (pc := 36) o dX10_isUnder_36 3 rfl ?_
                refine g_ic_ne (pc := 37) o 50 dX10_isUnder_37 (by decide) (fun c37 => ?_) (fun c37 => ?_)
                · skip
                  refine g_iconst (pc := 50) o dX10_isUnder_50 0 rfl ?_
                  exact g_zret o ρ (by first | rfl | exact bI_b) dX10_isUnder_51 (Ei.mk (by first | exact bI_t (Or.inl c2) | exact bI_t (Or.inr (Or.inl c6)) | exact bI_t (Or.inr (Or.inr (Or.inl ⟨c11, c16⟩))) | exact bI_t (Or.inr (Or.inr (Or.inr (Or.inl ⟨c21, Or.inl c26⟩)))) | exact bI_t (Or.inr (Or.inr (Or.inr (Or.inl ⟨c21, Or.inr c32⟩)))) | exact bI_t (Or.inr (Or.inr (Or.inr (Or.inr ⟨c37, c43⟩)))) | (refine bI_f ?_; simp_all; done)) rfl)
                · skip
                  refine g_iload_n (pc := 40) o dX10_isUnder_40 rfl ?_
                  refine g_bipush (pc := 41) o dX10_isUnder_41 6 rfl ?_
                  refine g_ic_ne (pc := 43) o 50 dX10_isUnder_43 (by decide) (fun c43 => ?_) (fun c43 => ?_)
                  · skip
                    refine g_iconst (pc := 50) o dX10_isUnder_50 0 rfl ?_
                    exact g_zret o ρ (by first | rfl | exact bI_b) dX10_isUnder_51 (Ei.mk (by first | exact bI_t (Or.inl c2) | exact bI_t (Or.inr (Or.inl c6)) | exact bI_t (Or.inr (Or.inr (Or.inl ⟨c11, c16⟩))) | exact bI_t (Or.inr (Or.inr (Or.inr (Or.inl ⟨c21, Or.inl c26⟩)))) | exact bI_t (Or.inr (Or.inr (Or.inr (Or.inl ⟨c21, Or.inr c32⟩)))) | exact bI_t (Or.inr (Or.inr (Or.inr (Or.inr ⟨c37, c43⟩)))) | (refine bI_f ?_; simp_all; done)) rfl)
                  · skip
                    refine g_iconst (pc := 46) o dX10_isUnder_46 1 rfl ?_
                    refine g_goto (pc := 47) o 51 dX10_isUnder_47 (by decide) ?_
                    exact g_zret o ρ (by first | rfl | exact bI_b) dX10_isUnder_51 (Ei.mk (by first | exact bI_t (Or.inl c2) | exact bI_t (Or.inr (Or.inl c6)) | exact bI_t (Or.inr (Or.inr (Or.inl ⟨c11, c16⟩))) | exact bI_t (Or.inr (Or.inr (Or.inr (Or.inl ⟨c21, Or.inl c26⟩)))) | exact bI_t (Or.inr (Or.inr (Or.inr (Or.inl ⟨c21, Or.inr c32⟩)))) | exact bI_t (Or.inr (Or.inr (Or.inr (Or.inr ⟨c37, c43⟩)))) | (refine bI_f ?_; simp_all; done)) rfl)
def op_hold (a t : Int32) (σ : Sg) : Int32 × Sg := if rng a 0 9 ∧ (t = -1 ∨ isT (σ 0) t) then (1, sf σ 0 (upd (σ 0) (274 + ca_n a) t)) else fnd σ 0
def op_as (a k : Int32) (σ : Sg) : Int32 × Sg := if rng a 0 9 ∧ rng k 0 6 then (if σ 0 (274 + ca_n a) = -1 then fnd σ 5 else if undF (tmF (σ 0) (ca_n (σ 0 (274 + ca_n a))) 0) k then (σ 0 (274 + ca_n a), σ) else fnd σ 2) else fnd σ 0
set_option maxRecDepth 100000 in
set_option maxHeartbeats 400000 in
theorem co_hold {h : Mem} {σ : Sg} (C : CR h σ) (a t : Int32) : Ct yX9_hold cX9_hold 3 (some .int) 1 21 [.ref 0, .int a, .int t] h (Po h (op_hold a t σ)) := by
  refine Ct.of (by decide) (Nat.le_of_ble_eq_true rfl) (fun Γ o ρ => ?_)
  show ca_G Γ 3 _ _ [_, _, _] _
  refine g_iload_n (pc := 0) o dX9_hold_0 rfl ?_
  refine g_callSi (pc := 1) o (c_isSpot a h) mt_X9_isSpot ms_X9_isSpot lk_X9_291 rfl (by decide) rfl (Nat.le_of_ble_eq_true rfl) dX9_hold_1 ?_
  refine g_if_eq (pc := 4) o 26 dX9_hold_4 (by decide) (fun c4 => ?_) (fun c4 => ?_)
  · skip
    refine g_aload_n (pc := 26) o dX9_hold_26 rfl ?_
    refine g_iconst (pc := 27) o dX9_hold_27 0 rfl ?_
    refine g_callVi (pc := 28) o (c_finding 0 (by decide) h) mt_X9_finding mv_X9_finding lk_X9_58 rfl rfl rfl (by decide) rfl (Nat.le_of_ble_eq_true rfl) dX9_hold_28 ?_
    exact g_iret o ρ dX9_hold_31 (Po.eq (if_neg (fun z => bI_0.mp c4 z.1)) (Po_fnd C (by decide)))
  · skip
    have ha := bI_n0.mp c4
    have eq : (t = -1 ∨ isT (σ 0) t) → op_hold a t σ = (1, sf σ 0 (upd (σ 0) (274 + ca_n a) t)) := fun z => if_pos ⟨ha, z⟩
    obtain ⟨k, hk, e1, ek⟩ := n_of (x := a) (b := 9) ha (by decide)
    rw [ek] at eq
    have fin : ca_n a = k := ek
    refine g_iload_n (pc := 7) o dX9_hold_7 rfl ?_
    refine g_iconst (pc := 8) o dX9_hold_8 (-1) rfl ?_
    refine g_ic_eq (pc := 9) o 32 dX9_hold_9 (by decide) (fun c9 => ?_) (fun c9 => ?_)
    · skip
      subst e1
      refine g_aload_n (pc := 32) o dX9_hold_32 rfl ?_
      refine g_getR (pc := 33) o 0 rfl rfl rfl inX9 (by decide) lf_X9_10 dX9_hold_33 ?_
      refine g_getR (pc := 36) o 5 rfl rfl rfl inX0 (by decide) lf_X9_294 dX9_hold_36 ?_
      refine g_iload_n (pc := 39) o dX9_hold_39 rfl ?_
      refine g_iload_n (pc := 40) o dX9_hold_40 rfl ?_
      refine n_iast (pc := 41) o k (rfl) rfl ((by omega)) (by decide) dX9_hold_41 ?_
      refine g_iconst (pc := 42) o dX9_hold_42 1 rfl ?_
      exact g_iret o ρ dX9_hold_43 (Po.eq (eq (Or.inl c9)) (Po_s C (BR_sp C.1 (by omega)) ((offB.rf h).mw (by decide))))
    · skip
      refine g_aload_n (pc := 12) o dX9_hold_12 rfl ?_
      refine g_getR (pc := 13) o 0 rfl rfl rfl inX9 (by decide) lf_X9_10 dX9_hold_13 ?_
      refine g_getR (pc := 16) o 2 rfl rfl rfl inX0 (by decide) lf_X9_137 dX9_hold_16 ?_
      refine g_iload_n (pc := 19) o dX9_hold_19 rfl ?_
      refine g_callVi (pc := 20) o (c_isTerm C.1 t) mt_X7_isTerm mv_X7_isTerm lk_X9_146 rfl rfl rfl (by decide) rfl (Nat.le_of_ble_eq_true rfl) dX9_hold_20 ?_
      refine g_if_ne (pc := 23) o 32 dX9_hold_23 (by decide) (fun c23 => ?_) (fun c23 => ?_)
      · skip
        subst e1
        refine g_aload_n (pc := 32) o dX9_hold_32 rfl ?_
        refine g_getR (pc := 33) o 0 rfl rfl rfl inX9 (by decide) lf_X9_10 dX9_hold_33 ?_
        refine g_getR (pc := 36) o 5 rfl rfl rfl inX0 (by decide) lf_X9_294 dX9_hold_36 ?_
        refine g_iload_n (pc := 39) o dX9_hold_39 rfl ?_
        refine g_iload_n (pc := 40) o dX9_hold_40 rfl ?_
        refine n_iast (pc := 41) o k (rfl) rfl ((by omega)) (by decide) dX9_hold_41 ?_
        refine g_iconst (pc := 42) o dX9_hold_42 1 rfl ?_
        exact g_iret o ρ dX9_hold_43 (Po.eq (eq (Or.inr (bI_n0.mp c23))) (Po_s C (BR_sp C.1 (by omega)) ((offB.rf h).mw (by decide))))
      · skip
        refine g_aload_n (pc := 26) o dX9_hold_26 rfl ?_
        refine g_iconst (pc := 27) o dX9_hold_27 0 rfl ?_
        refine g_callVi (pc := 28) o (c_finding 0 (by decide) h) mt_X9_finding mv_X9_finding lk_X9_58 rfl rfl rfl (by decide) rfl (Nat.le_of_ble_eq_true rfl) dX9_hold_28 ?_
        exact g_iret o ρ dX9_hold_31 (Po.eq (if_neg (fun z => (z.2.elim c9 (bI_0.mp c23)))) (Po_fnd C (by decide)))
set_option maxRecDepth 100000 in
set_option maxHeartbeats 400000 in
theorem mo_hold {h : Mem} (I : Iv (absM h)) (a t : Int32) : Ct yX10_hold cX10_hold 3 (some .int) 2 46 [.ref 51, .int a, .int t] h (Pm h (op_hold a t (absM h))) := by
  refine Ct.of (by decide) (Nat.le_of_ble_eq_true rfl) (fun Γ o ρ => ?_)
  show ca_G Γ 3 _ _ [_, _, _] _
  have ok : okT (h.1 52) := I.1.terms
  have d1 := in_rng a 0 9 (by decide)
  refine g_iload_n (pc := 0) o dX10_hold_0 rfl ?_
  refine g_i2l (pc := 1) o dX10_hold_1 ?_
  refine g_lconst (pc := 2) o dX10_hold_2 0 rfl ?_
  refine g_ldc2 (pc := 3) o dX10_hold_3 lc_X10_209 ?_
  refine g_callSi (pc := 6) o (m_in a.toInt64 0 9 h) mt_X10_in ms_X10_in lk_X10_71 rfl (by decide) rfl (Nat.le_of_ble_eq_true rfl) dX10_hold_6 ?_
  refine g_if_eq (pc := 9) o 25 dX10_hold_9 (by decide) (fun c9 => ?_) (fun c9 => ?_)
  · skip
    refine g_aload_n (pc := 25) o dX10_hold_25 rfl ?_
    refine g_ldc (pc := 26) o dX10_hold_26 lc_X10_68 ?_
    refine g_callVi (pc := 28) o (m_finds 0 (by decide) h) mt_X10_finds mv_X10_finds lk_X10_86 rfl rfl rfl (by decide) rfl (Nat.le_of_ble_eq_true rfl) dX10_hold_28 ?_
    exact g_iret o ρ dX10_hold_31 (Pm.eq (if_neg (fun z => (by rw [d1] at c9; exact bI_0.mp c9 z.1))) (Pm_fnd rfl (kC.rf h) (by decide)))
  · skip
    rw [d1] at c9
    have ha := bI_n0.mp c9
    have eq : (t = -1 ∨ isT (h.1 52) t) → op_hold a t (absM h) = (1, sf (absM h) 0 (upd (h.1 52) (274 + ca_n a) t)) := fun z => if_pos ⟨ha, z⟩
    obtain ⟨k, hk, e1, ek⟩ := n_of (x := a) (b := 9) ha (by decide)
    rw [ek] at eq
    refine g_iload_n (pc := 12) o dX10_hold_12 rfl ?_
    refine g_iconst (pc := 13) o dX10_hold_13 (-1) rfl ?_
    refine g_ic_eq (pc := 14) o 32 dX10_hold_14 (by decide) (fun c14 => ?_) (fun c14 => ?_)
    · skip
      subst e1
      refine g_aload_n (pc := 32) o dX10_hold_32 rfl ?_
      refine g_getR (pc := 33) o 0 rfl rfl rfl inX10 (by decide) lf_X10_7 dX10_hold_33 ?_
      refine g_sipush (pc := 36) o dX10_hold_36 274 rfl ?_
      refine g_iload_n (pc := 39) o dX10_hold_39 rfl ?_
      refine g_iadd (pc := 40) o dX10_hold_40 ?_
      refine g_iload_n (pc := 41) o dX10_hold_41 rfl ?_
      refine n_iast (pc := 42) o (274 + k) (nI_add 274 k) rfl ((by omega)) (by decide) dX10_hold_42 ?_
      refine g_iconst (pc := 43) o dX10_hold_43 1 rfl ?_
      exact g_iret o ρ dX10_hold_44 (Pm.eq (eq (Or.inl c14)) (Pm_s rfl (offM.rf h).mw))
    · skip
      refine g_aload_n (pc := 17) o dX10_hold_17 rfl ?_
      refine g_iload_n (pc := 18) o dX10_hold_18 rfl ?_
      refine g_callVi (pc := 19) o (m_isTerm ok t) mt_X10_isTerm mv_X10_isTerm lk_X10_145 rfl rfl rfl (by decide) rfl (Nat.le_of_ble_eq_true rfl) dX10_hold_19 ?_
      refine g_if_ne (pc := 22) o 32 dX10_hold_22 (by decide) (fun c22 => ?_) (fun c22 => ?_)
      · skip
        subst e1
        refine g_aload_n (pc := 32) o dX10_hold_32 rfl ?_
        refine g_getR (pc := 33) o 0 rfl rfl rfl inX10 (by decide) lf_X10_7 dX10_hold_33 ?_
        refine g_sipush (pc := 36) o dX10_hold_36 274 rfl ?_
        refine g_iload_n (pc := 39) o dX10_hold_39 rfl ?_
        refine g_iadd (pc := 40) o dX10_hold_40 ?_
        refine g_iload_n (pc := 41) o dX10_hold_41 rfl ?_
        refine n_iast (pc := 42) o (274 + k) (nI_add 274 k) rfl ((by omega)) (by decide) dX10_hold_42 ?_
        refine g_iconst (pc := 43) o dX10_hold_43 1 rfl ?_
        exact g_iret o ρ dX10_hold_44 (Pm.eq (eq (Or.inr (bI_n0.mp c22))) (Pm_s rfl (offM.rf h).mw))
      · skip
        refine g_aload_n (pc := 25) o dX10_hold_25 rfl ?_
        refine g_ldc (pc := 26) o dX10_hold_26 lc_X10_68 ?_
        refine g_callVi (pc := 28) o (m_finds 0 (by decide) h) mt_X10_finds mv_X10_finds lk_X10_86 rfl rfl rfl (by decide) rfl (Nat.le_of_ble_eq_true rfl) dX10_hold_28 ?_
        exact g_iret o ρ dX10_hold_31 (Pm.eq (if_neg (fun z => (z.2.elim c14 (bI_0.mp c22)))) (Pm_fnd rfl (kC.rf h) (by decide)))
theorem SI.sp {s : Nat → Int32} (I : SI s) (j : Nat) (hj : j < 10) : s (274 + j) = -1 ∨ ∃ t, t < nT s ∧ t < 12 ∧ s (274 + j) = nI t := by
  obtain ⟨n, hn, e, -, h2⟩ := I.2.2.2.1
  have e2 := (okT_of hn e).2
  rcases h2 j hj with h | ⟨t, ht, h⟩
  · exact Or.inl h
  · exact Or.inr ⟨t, by omega, by omega, h⟩
set_option maxRecDepth 100000 in
set_option maxHeartbeats 400000 in
theorem co_as {h : Mem} {σ : Sg} (C : CR h σ) (I : Iv σ) (a k : Int32) : Ct yX9_as cX9_as 4 (some .int) 2 46 [.ref 0, .int a, .int k] h (Po h (op_as a k σ)) := by
  refine Ct.of (by decide) (Nat.le_of_ble_eq_true rfl) (fun Γ o ρ => ?_)
  show ca_G Γ 4 _ _ [_, _, _, _] _
  have ok := I.1.terms
  refine g_iload_n (pc := 0) o dX9_as_0 rfl ?_
  refine g_callSi (pc := 1) o (c_isSpot a h) mt_X9_isSpot ms_X9_isSpot lk_X9_291 rfl (by decide) rfl (Nat.le_of_ble_eq_true rfl) dX9_as_1 ?_
  refine g_if_eq (pc := 4) o 14 dX9_as_4 (by decide) (fun c4 => ?_) (fun c4 => ?_)
  · skip
    refine g_aload_n (pc := 14) o dX9_as_14 rfl ?_
    refine g_iconst (pc := 15) o dX9_as_15 0 rfl ?_
    refine g_callVi (pc := 16) o (c_finding 0 (by decide) h) mt_X9_finding mv_X9_finding lk_X9_58 rfl rfl rfl (by decide) rfl (Nat.le_of_ble_eq_true rfl) dX9_as_16 ?_
    exact g_iret o ρ dX9_as_19 (Po.eq (if_neg (fun z => bI_0.mp c4 z.1)) (Po_fnd C (by decide)))
  · skip
    refine g_iload_n (pc := 7) o dX9_as_7 rfl ?_
    refine g_callSi (pc := 8) o (c_isKind k h) mt_X7_isKind ms_X7_isKind lk_X9_132 rfl (by decide) rfl (Nat.le_of_ble_eq_true rfl) dX9_as_8 ?_
    refine g_if_ne (pc := 11) o 20 dX9_as_11 (by decide) (fun c11 => ?_) (fun c11 => ?_)
    · skip
      have eq : op_as a k σ = if σ 0 (274 + ca_n a) = -1 then fnd σ 5 else if undF (tmF (σ 0) (ca_n (σ 0 (274 + ca_n a))) 0) k then (σ 0 (274 + ca_n a), σ) else fnd σ 2 := if_pos ⟨bI_n0.mp c4, bI_n0.mp c11⟩
      rw [eq] at ρ
      obtain ⟨i, hi, rfl, ei⟩ := n_of (x := a) (b := 9) (bI_n0.mp c4) (by decide)
      obtain ⟨b, hb, rfl, -⟩ := n_of (x := k) (b := 6) (bI_n0.mp c11) (by decide)
      rw [ei] at ρ
      clear eq
      rcases I.1.sp i (by omega) with z | ⟨t, ht, ht2, z⟩
      · rw [if_pos z] at ρ
        refine g_aload_n (pc := 20) o dX9_as_20 rfl ?_
        refine g_getR (pc := 21) o 0 rfl rfl rfl inX9 (by decide) lf_X9_10 dX9_as_21 ?_
        refine g_getR (pc := 24) o 5 rfl rfl rfl inX0 (by decide) lf_X9_294 dX9_as_24 ?_
        refine g_iload_n (pc := 27) o dX9_as_27 rfl ?_
        refine n_ialdE (pc := 28) o i (rfl) rfl ((by omega)) (by decide) ((C.1.sp i (by omega)).trans z) dX9_as_28 ?_
        refine g_istore_n (pc := 29) o dX9_as_29 (by decide) ?_
        show ca_G Γ 4 _ _ [_, _, _, _] _
        refine g_aload_n (pc := 30) o dX9_as_30 rfl ?_
        refine g_getR (pc := 31) o 0 rfl rfl rfl inX9 (by decide) lf_X9_10 dX9_as_31 ?_
        refine g_getR (pc := 34) o 2 rfl rfl rfl inX0 (by decide) lf_X9_137 dX9_as_34 ?_
        refine g_iload_n (pc := 37) o dX9_as_37 rfl ?_
        refine g_callVi (pc := 38) o (c_isTerm C.1 (-1)) mt_X7_isTerm mv_X7_isTerm lk_X9_146 rfl rfl rfl (by decide) rfl (Nat.le_of_ble_eq_true rfl) dX9_as_38 ?_
        refine g_if_ne (pc := 41) o 50 dX9_as_41 (by decide) (fun c41 => ?_) (fun c41 => ?_)
        · skip
          exact absurd (bI_n0.mp c41).1 (by decide)
        · skip
          refine g_aload_n (pc := 44) o dX9_as_44 rfl ?_
          refine g_iconst (pc := 45) o dX9_as_45 5 rfl ?_
          refine g_callVi (pc := 46) o (c_finding 5 (by decide) h) mt_X9_finding mv_X9_finding lk_X9_58 rfl rfl rfl (by decide) rfl (Nat.le_of_ble_eq_true rfl) dX9_as_46 ?_
          exact g_iret o ρ dX9_as_49 (Po_fnd C (by decide))
      · have et : ca_n (nI t) = t := nI_clamp (by omega)
        rw [if_neg (by rw [z]; exact nI_ne_m1 (by omega)), z, et] at ρ
        obtain ⟨kd, _, _, _, _, _, _, hkd, -, -, -, -, -, -, e0, -⟩ := I.1.tm t ht2
        refine g_aload_n (pc := 20) o dX9_as_20 rfl ?_
        refine g_getR (pc := 21) o 0 rfl rfl rfl inX9 (by decide) lf_X9_10 dX9_as_21 ?_
        refine g_getR (pc := 24) o 5 rfl rfl rfl inX0 (by decide) lf_X9_294 dX9_as_24 ?_
        refine g_iload_n (pc := 27) o dX9_as_27 rfl ?_
        refine n_ialdE (pc := 28) o i (rfl) rfl ((by omega)) (by decide) ((C.1.sp i (by omega)).trans z) dX9_as_28 ?_
        refine g_istore_n (pc := 29) o dX9_as_29 (by decide) ?_
        show ca_G Γ 4 _ _ [_, _, _, _] _
        refine g_aload_n (pc := 30) o dX9_as_30 rfl ?_
        refine g_getR (pc := 31) o 0 rfl rfl rfl inX9 (by decide) lf_X9_10 dX9_as_31 ?_
        refine g_getR (pc := 34) o 2 rfl rfl rfl inX0 (by decide) lf_X9_137 dX9_as_34 ?_
        refine g_iload_n (pc := 37) o dX9_as_37 rfl ?_
        refine g_callVi (pc := 38) o (c_isTerm C.1 (nI t)) mt_X7_isTerm mv_X7_isTerm lk_X9_146 rfl rfl rfl (by decide) rfl (Nat.le_of_ble_eq_true rfl) dX9_as_38 ?_
        refine g_if_ne (pc := 41) o 50 dX9_as_41 (by decide) (fun c41 => ?_) (fun c41 => ?_)
        · skip
          have un := clF_und kd hkd b (by omega)
          rw [← e0] at un
          refine g_aload_n (pc := 50) o dX9_as_50 rfl ?_
          refine g_getR (pc := 51) o 0 rfl rfl rfl inX9 (by decide) lf_X9_10 dX9_as_51 ?_
          refine g_getR (pc := 54) o 2 rfl rfl rfl inX0 (by decide) lf_X9_137 dX9_as_54 ?_
          refine g_iload_n (pc := 57) o dX9_as_57 rfl ?_
          refine g_iload_n (pc := 58) o dX9_as_58 rfl ?_
          refine g_callVi (pc := 59) o (c_isOfKind C.1 I.1.tm t ht2 (nI b)) mt_X7_isOfKind mv_X7_isOfKind lk_X9_297 rfl rfl rfl (by decide) rfl (Nat.le_of_ble_eq_true rfl) dX9_as_59 ?_
          refine g_if_eq (pc := 62) o 69 dX9_as_62 (by decide) (fun c62 => ?_) (fun c62 => ?_)
          · skip
            refine g_aload_n (pc := 69) o dX9_as_69 rfl ?_
            refine g_iconst (pc := 70) o dX9_as_70 2 rfl ?_
            refine g_callVi (pc := 71) o (c_finding 2 (by decide) h) mt_X9_finding mv_X9_finding lk_X9_58 rfl rfl rfl (by decide) rfl (Nat.le_of_ble_eq_true rfl) dX9_as_71 ?_
            exact g_iret o ρ dX9_as_74 (Po.eq (if_neg (fun q => bI_0.mp c62 (un.mpr q))) (Po_fnd C (by decide)))
          · skip
            refine g_iload_n (pc := 65) o dX9_as_65 rfl ?_
            refine g_goto (pc := 66) o 74 dX9_as_66 (by decide) ?_
            exact g_iret o ρ dX9_as_74 (Po.eq (if_pos (un.mp (bI_n0.mp c62))) (Po.mk rfl C (kM.rf h)))
        · skip
          exact absurd ⟨by rw [nI_toInt (by omega)]; omega, by rw [nI_toInt (by omega), ok.2.2]; omega⟩ (bI_0.mp c41)
    · skip
      refine g_aload_n (pc := 14) o dX9_as_14 rfl ?_
      refine g_iconst (pc := 15) o dX9_as_15 0 rfl ?_
      refine g_callVi (pc := 16) o (c_finding 0 (by decide) h) mt_X9_finding mv_X9_finding lk_X9_58 rfl rfl rfl (by decide) rfl (Nat.le_of_ble_eq_true rfl) dX9_as_16 ?_
      exact g_iret o ρ dX9_as_19 (Po.eq (if_neg (fun z => bI_0.mp c11 z.2)) (Po_fnd C (by decide)))
set_option maxRecDepth 100000 in
set_option maxHeartbeats 400000 in
theorem mo_as {h : Mem} (I : Iv (absM h)) (a k : Int32) : Ct yX10_as cX10_as 4 (some .int) 1 25 [.ref 51, .int a, .int k] h (Pm h (op_as a k (absM h))) := by
  refine Ct.of (by decide) (Nat.le_of_ble_eq_true rfl) (fun Γ o ρ => ?_)
  show ca_G Γ 4 _ _ [_, _, _, _] _
  have ok : okT (h.1 52) := I.1.terms
  have d1 := in_rng a 0 9 (by decide)
  have d2 := in_rng k 0 6 (by decide)
  refine g_iload_n (pc := 0) o dX10_as_0 rfl ?_
  refine g_i2l (pc := 1) o dX10_as_1 ?_
  refine g_lconst (pc := 2) o dX10_as_2 0 rfl ?_
  refine g_ldc2 (pc := 3) o dX10_as_3 lc_X10_209 ?_
  refine g_callSi (pc := 6) o (m_in a.toInt64 0 9 h) mt_X10_in ms_X10_in lk_X10_71 rfl (by decide) rfl (Nat.le_of_ble_eq_true rfl) dX10_as_6 ?_
  refine g_if_eq (pc := 9) o 24 dX10_as_9 (by decide) (fun c9 => ?_) (fun c9 => ?_)
  · skip
    refine g_aload_n (pc := 24) o dX10_as_24 rfl ?_
    refine g_ldc (pc := 25) o dX10_as_25 lc_X10_68 ?_
    refine g_callVi (pc := 27) o (m_finds 0 (by decide) h) mt_X10_finds mv_X10_finds lk_X10_86 rfl rfl rfl (by decide) rfl (Nat.le_of_ble_eq_true rfl) dX10_as_27 ?_
    exact g_iret o ρ dX10_as_30 (Pm.eq (if_neg (fun z => (by rw [d1] at c9; exact bI_0.mp c9 z.1))) (Pm_fnd rfl (kC.rf h) (by decide)))
  · skip
    refine g_iload_n (pc := 12) o dX10_as_12 rfl ?_
    refine g_i2l (pc := 13) o dX10_as_13 ?_
    refine g_lconst (pc := 14) o dX10_as_14 0 rfl ?_
    refine g_ldc2 (pc := 15) o dX10_as_15 lc_X10_137 ?_
    refine g_callSi (pc := 18) o (m_in k.toInt64 0 6 h) mt_X10_in ms_X10_in lk_X10_71 rfl (by decide) rfl (Nat.le_of_ble_eq_true rfl) dX10_as_18 ?_
    refine g_if_ne (pc := 21) o 31 dX10_as_21 (by decide) (fun c21 => ?_) (fun c21 => ?_)
    · skip
      rw [d1] at c9
      rw [d2] at c21
      have eq : op_as a k (absM h) = if h.1 52 (274 + ca_n a) = -1 then fnd (absM h) 5 else if undF (tmF (h.1 52) (ca_n (h.1 52 (274 + ca_n a))) 0) k then (h.1 52 (274 + ca_n a), absM h) else fnd (absM h) 2 := if_pos ⟨bI_n0.mp c9, bI_n0.mp c21⟩
      rw [eq] at ρ
      obtain ⟨i, hi, rfl, ei⟩ := n_of (x := a) (b := 9) (bI_n0.mp c9) (by decide)
      rw [ei] at ρ
      clear eq
      have sp : h.1 52 (274 + i) = -1 ∨ ∃ t, t < nT (h.1 52) ∧ t < 12 ∧ h.1 52 (274 + i) = nI t := I.1.sp i (by omega)
      rcases sp with z | ⟨t, ht, ht2, z⟩
      · rw [if_pos z] at ρ
        refine g_aload_n (pc := 31) o dX10_as_31 rfl ?_
        refine g_getR (pc := 32) o 0 rfl rfl rfl inX10 (by decide) lf_X10_7 dX10_as_32 ?_
        refine g_sipush (pc := 35) o dX10_as_35 274 rfl ?_
        refine g_iload_n (pc := 38) o dX10_as_38 rfl ?_
        refine g_iadd (pc := 39) o dX10_as_39 ?_
        refine n_ialdE (pc := 40) o (274 + i) (nI_add 274 i) rfl ((by omega)) (by decide) (z) dX10_as_40 ?_
        refine g_istore_n (pc := 41) o dX10_as_41 (by decide) ?_
        show ca_G Γ 4 _ _ [_, _, _, _] _
        refine g_iload_n (pc := 42) o dX10_as_42 rfl ?_
        refine g_if_ge (pc := 43) o 54 dX10_as_43 (by decide) (fun c43 => ?_) (fun c43 => ?_)
        · skip
          exact absurd c43 (by decide)
        · skip
          refine g_aload_n (pc := 46) o dX10_as_46 rfl ?_
          refine g_ldcw (pc := 47) o dX10_as_47 lc_X10_306 ?_
          refine g_callVi (pc := 50) o (m_finds 5 (by decide) h) mt_X10_finds mv_X10_finds lk_X10_86 rfl rfl rfl (by decide) rfl (Nat.le_of_ble_eq_true rfl) dX10_as_50 ?_
          exact g_iret o ρ dX10_as_53 (Pm_fnd rfl (kC.rf h) (by decide))
      · have et : ca_n (nI t) = t := nI_clamp (by omega)
        rw [if_neg (by rw [z]; exact nI_ne_m1 (by omega)), z, et] at ρ
        refine g_aload_n (pc := 31) o dX10_as_31 rfl ?_
        refine g_getR (pc := 32) o 0 rfl rfl rfl inX10 (by decide) lf_X10_7 dX10_as_32 ?_
        refine g_sipush (pc := 35) o dX10_as_35 274 rfl ?_
        refine g_iload_n (pc := 38) o dX10_as_38 rfl ?_
        refine g_iadd (pc := 39) o dX10_as_39 ?_
        refine n_ialdE (pc := 40) o (274 + i) (nI_add 274 i) rfl ((by omega)) (by decide) (z) dX10_as_40 ?_
        refine g_istore_n (pc := 41) o dX10_as_41 (by decide) ?_
        show ca_G Γ 4 _ _ [_, _, _, _] _
        refine g_iload_n (pc := 42) o dX10_as_42 rfl ?_
        refine g_if_ge (pc := 43) o 54 dX10_as_43 (by decide) (fun c43 => ?_) (fun c43 => ?_)
        · skip
          refine g_aload_n (pc := 54) o dX10_as_54 rfl ?_
          refine g_iload_n (pc := 55) o dX10_as_55 rfl ?_
          refine g_iconst (pc := 56) o dX10_as_56 0 rfl ?_
          refine g_callVi (pc := 57) o (m_of t 0 ht2 (by decide)) mt_X10_of mv_X10_of lk_X10_131 rfl rfl rfl (by decide) rfl (Nat.le_of_ble_eq_true rfl) dX10_as_57 ?_
          refine g_iload_n (pc := 60) o dX10_as_60 rfl ?_
          refine g_callSi (pc := 61) o (m_isUnder (tmF (h.1 52) t 0) k h) mt_X10_isUnder ms_X10_isUnder lk_X10_307 rfl (by decide) rfl (Nat.le_of_ble_eq_true rfl) dX10_as_61 ?_
          refine g_if_eq (pc := 64) o 71 dX10_as_64 (by decide) (fun c64 => ?_) (fun c64 => ?_)
          · skip
            refine g_aload_n (pc := 71) o dX10_as_71 rfl ?_
            refine g_ldcw (pc := 72) o dX10_as_72 lc_X10_310 ?_
            refine g_callVi (pc := 75) o (m_finds 2 (by decide) h) mt_X10_finds mv_X10_finds lk_X10_86 rfl rfl rfl (by decide) rfl (Nat.le_of_ble_eq_true rfl) dX10_as_75 ?_
            exact g_iret o ρ dX10_as_78 (Pm.eq (if_neg (bI_0.mp c64)) (Pm_fnd rfl (kC.rf h) (by decide)))
          · skip
            refine g_iload_n (pc := 67) o dX10_as_67 rfl ?_
            refine g_goto (pc := 68) o 78 dX10_as_68 (by decide) ?_
            exact g_iret o ρ dX10_as_78 (Pm.eq (if_pos (bI_n0.mp c64)) (Pm.mk rfl rfl (kC.rf h)))
        · skip
          exact absurd (nI_pos' (by omega)) c43

    · skip
      refine g_aload_n (pc := 24) o dX10_as_24 rfl ?_
      refine g_ldc (pc := 25) o dX10_as_25 lc_X10_68 ?_
      refine g_callVi (pc := 27) o (m_finds 0 (by decide) h) mt_X10_finds mv_X10_finds lk_X10_86 rfl rfl rfl (by decide) rfl (Nat.le_of_ble_eq_true rfl) dX10_as_27 ?_
      exact g_iret o ρ dX10_as_30 (Pm.eq (if_neg (fun z => (by rw [d2] at c21; exact bI_0.mp c21 z.2))) (Pm_fnd rfl (kC.rf h) (by decide)))
