/-! ===== road, roads, far ===== -/
theorem su_sf (σ : Sg) (k i : Nat) (v : Int32) : su σ k i v = sf σ k (upd (σ k) i v) := rfl
theorem sf_sf (σ : Sg) (k : Nat) (f g : Nat → Int32) : sf (sf σ k f) k g = sf σ k g := by
  funext j
  unfold sf
  split <;> rfl
theorem sf_id (σ : Sg) (k : Nat) : sf σ k (σ k) = σ := by
  funext j
  unfold sf
  split
  · rename_i e; rw [e]
  · rfl
def inM (k : Nat) : Bool := k == 51 || k == 53 || k == 55 || k == 62 || k == 66 || k == 67 || k == 68 || k == 69
theorem abs_s {h h2 : Mem} (e : ∀ k, inM k = true → h2.1 k = h.1 k) : absM h2 = sf (absM h) 0 (h2.1 52) := by
  refine abs_f _ _ rfl ?_ ?_ ?_ ?_ ?_ ?_ ?_ ?_ (fun k hk => ?_)
  · exact e 55 rfl
  · exact e 53 rfl
  · exact e 62 rfl
  · exact e 66 rfl
  · exact e 67 rfl
  · exact e 68 rfl
  · exact e 69 rfl
  · show absM h2 8 = absM h 8
    show (fun i => match i with | 0 => h2.1 51 4 | 1 => h2.1 51 15 | _ => h2.1 51 20) = (fun i => match i with | 0 => h.1 51 4 | 1 => h.1 51 15 | _ => h.1 51 20)
    rw [e 51 rfl]
  · obtain ⟨n, rfl⟩ := Nat.exists_eq_add_of_le hk
    rw [show 9 + n = n + 9 by omega]
    rfl
theorem n_of {x : Int32} {b : Nat} (h : rng x 0 b) (hb : b < 2 ^ 31) : ∃ j : Nat, j ≤ b ∧ x = nI j ∧ ca_n x = j := by
  obtain ⟨j, hj, e⟩ := rng_of h hb
  exact ⟨j, hj, e, by rw [e]; exact nI_clamp (by omega)⟩
theorem or_z (x : Int32) : x ||| 0 = x := by apply b_ext; intro i _; rw [b_or, b_0, Bool.or_false]
theorem z0 (i : Nat) : nI 0 + nI i = nI i := by rw [nI_add, Nat.zero_add]
theorem nI_ne_m1 {i : Nat} (h : i < 2 ^ 31) : ¬ nI i = -1 := fun z => by
  have := congrArg Int32.toInt z
  rw [nI_toInt h] at this
  have e : (-1 : Int32).toInt = -1 := by decide
  omega
def rdS (s : Nat → Int32) (i j : Nat) (c : Int32) : Nat → Int32 := upd (upd s i (setR (s i) j c)) j (setR (s j) i c)
def op_road (a b c : Int32) (σ : Sg) : Int32 × Sg := if rng a 0 7 ∧ rng b 0 7 ∧ ¬ a = b then (bI (bt (σ 0 (ca_n a)) (ca_n b) = true), sf σ 0 (rdS (σ 0) (ca_n a) (ca_n b) c)) else fnd σ 0
def op_roads (a : Int32) (σ : Sg) : Int32 × Sg := if rng a 0 7 then (σ 0 (ca_n a), σ) else fnd σ 0
def op_far (a b : Int32) (σ : Sg) : Int32 × Sg := if rng a 0 7 ∧ rng b 0 7 then (if farL (σ 0) (ca_n b) 8 0 (jshl 1 a) = -1 then fnd σ 3 else (farL (σ 0) (ca_n b) 8 0 (jshl 1 a), σ)) else fnd σ 0
theorem BR_rd {h : Mem} {s : Nat → Int32} (B : BR h 1 s) {i j : Nat} (hi : i < 8) (hj : j < 8) (c : Int32) : BR (mw (mw h 3 i (setR (s i) j c)) 3 j (setR (s j) i c)) 1 (rdS s i j c) := BR_nb (BR_nb B hi) hj
set_option maxRecDepth 100000 in
set_option maxHeartbeats 4000000 in
theorem co_road {h : Mem} {σ : Sg} (C : CR h σ) (a b c : Int32) : Ct yX9_road cX9_road 5 (some .int) 2 43 [.ref 0, .int a, .int b, .int c] h (Po h (op_road a b c σ)) := by
  refine Ct.of (by decide) (Nat.le_of_ble_eq_true rfl) (fun Γ o ρ => ?_)
  refine g_iload_n (pc := 0) o dX9_road_0 rfl ?_
  refine g_callSi (pc := 1) o (c_isPlace a h) mt_X9_isPlace ms_X9_isPlace lk_X9_54 rfl (by decide) rfl (Nat.le_of_ble_eq_true rfl) dX9_road_1 ?_
  refine g_if_eq (pc := 4) o 19 dX9_road_4 (by decide) (fun c4 => ?_) (fun c4 => ?_)
  · skip
    refine g_aload_n (pc := 19) o dX9_road_19 rfl ?_
    refine g_iconst (pc := 20) o dX9_road_20 0 rfl ?_
    refine g_callVi (pc := 21) o (c_finding 0 (by decide) h) mt_X9_finding mv_X9_finding lk_X9_58 rfl rfl rfl (by decide) rfl (Nat.le_of_ble_eq_true rfl) dX9_road_21 ?_
    exact g_iret o ρ dX9_road_24 (Po.eq (if_neg (fun z => bI_0.mp c4 z.1)) (Po_fnd C (by decide)))
  · skip
    have ha := bI_n0.mp c4
    refine g_iload_n (pc := 7) o dX9_road_7 rfl ?_
    refine g_callSi (pc := 8) o (c_isPlace b h) mt_X9_isPlace ms_X9_isPlace lk_X9_54 rfl (by decide) rfl (Nat.le_of_ble_eq_true rfl) dX9_road_8 ?_
    refine g_if_eq (pc := 11) o 19 dX9_road_11 (by decide) (fun c11 => ?_) (fun c11 => ?_)
    · skip
      refine g_aload_n (pc := 19) o dX9_road_19 rfl ?_
      refine g_iconst (pc := 20) o dX9_road_20 0 rfl ?_
      refine g_callVi (pc := 21) o (c_finding 0 (by decide) h) mt_X9_finding mv_X9_finding lk_X9_58 rfl rfl rfl (by decide) rfl (Nat.le_of_ble_eq_true rfl) dX9_road_21 ?_
      exact g_iret o ρ dX9_road_24 (Po.eq (if_neg (fun z => bI_0.mp c11 z.2.1)) (Po_fnd C (by decide)))
    · skip
      have hb := bI_n0.mp c11
      refine g_iload_n (pc := 14) o dX9_road_14 rfl ?_
      refine g_iload_n (pc := 15) o dX9_road_15 rfl ?_
      refine g_ic_ne (pc := 16) o 25 dX9_road_16 (by decide) (fun c16 => ?_) (fun c16 => ?_)
      · skip
        obtain ⟨i, hi, e1, e2⟩ := n_of (b := 7) ha (by decide)
        obtain ⟨j, hj, e3, e4⟩ := n_of (b := 7) hb (by decide)
        refine g_mem (h2 := h) rfl ?_
        have eq : op_road a b c σ = (bI (bt (σ 0 i) j = true), sf σ 0 (rdS (σ 0) i j c)) := by rw [← e2, ← e4]; exact if_pos ⟨ha, hb, c16⟩
        rw [eq] at ρ
        clear eq ha hb c4 c11 e2 e4
        subst e1 e3
        have hij : i ≠ j := fun z => c16 (by rw [z])
        have CRn : CR (mw (mw h 3 i (setR (σ 0 i) j c)) 3 j (setR (σ 0 j) i c)) (sf σ 0 (rdS (σ 0) i j c)) := CR_s C (BR_rd C.1 (by omega) (by omega) c) (fun k _ hk2 => by
          have : k ≠ 3 := fun z => by subst z; revert hk2; decide
          rw [mw_ne _ _ _ this, mw_ne _ _ _ this])
        refine g_aload_n (pc := 25) o dX9_road_25 rfl ?_
        refine g_getR (pc := 26) o 0 rfl rfl rfl inX9 (by decide) lf_X9_10 dX9_road_26 ?_
        refine g_getR (pc := 29) o 0 rfl rfl rfl inX0 (by decide) lf_X9_62 dX9_road_29 ?_
        refine g_iload_n (pc := 32) o dX9_road_32 rfl ?_
        refine g_iload_n (pc := 33) o dX9_road_33 rfl ?_
        refine g_callVi (pc := 34) o (c_areJoined C.1 i j (by omega) (by omega)) mt_X2_areJoined mv_X2_areJoined lk_X9_66 rfl rfl rfl (by decide) rfl (Nat.le_of_ble_eq_true rfl) dX9_road_34 ?_
        refine g_if_eq (pc := 37) o 44 dX9_road_37 (by decide) (fun c37 => ?_) (fun c37 => ?_)
        · skip
          refine g_iconst (pc := 44) o dX9_road_44 0 rfl ?_
          refine g_istore (pc := 45) o dX9_road_45 (by decide) ?_
          refine g_aload_n (pc := 47) o dX9_road_47 rfl ?_
          refine g_getR (pc := 48) o 0 rfl rfl rfl inX9 (by decide) lf_X9_10 dX9_road_48 ?_
          refine g_getR (pc := 51) o 0 rfl rfl rfl inX0 (by decide) lf_X9_62 dX9_road_51 ?_
          refine g_iload_n (pc := 54) o dX9_road_54 rfl ?_
          refine g_iload_n (pc := 55) o dX9_road_55 rfl ?_
          refine g_iload_n (pc := 56) o dX9_road_56 rfl ?_
          refine g_callVv (pc := 57) o (c_join C.1 i j c (by omega) (by omega) hij) mt_X2_join mv_X2_join lk_X9_72 rfl rfl rfl (by decide) rfl (Nat.le_of_ble_eq_true rfl) dX9_road_57 ?_
          refine g_iload (pc := 60) o dX9_road_60 rfl ?_
          exact g_iret o ρ dX9_road_62 (Po.mk (bI_f (bI_0.mp c37)) CRn (((kM.rf h).mw (by decide)).mw (by decide)))
        · skip
          refine g_iconst (pc := 40) o dX9_road_40 1 rfl ?_
          refine g_goto (pc := 41) o 45 dX9_road_41 (by decide) ?_
          refine g_istore (pc := 45) o dX9_road_45 (by decide) ?_
          refine g_aload_n (pc := 47) o dX9_road_47 rfl ?_
          refine g_getR (pc := 48) o 0 rfl rfl rfl inX9 (by decide) lf_X9_10 dX9_road_48 ?_
          refine g_getR (pc := 51) o 0 rfl rfl rfl inX0 (by decide) lf_X9_62 dX9_road_51 ?_
          refine g_iload_n (pc := 54) o dX9_road_54 rfl ?_
          refine g_iload_n (pc := 55) o dX9_road_55 rfl ?_
          refine g_iload_n (pc := 56) o dX9_road_56 rfl ?_
          refine g_callVv (pc := 57) o (c_join C.1 i j c (by omega) (by omega) hij) mt_X2_join mv_X2_join lk_X9_72 rfl rfl rfl (by decide) rfl (Nat.le_of_ble_eq_true rfl) dX9_road_57 ?_
          refine g_iload (pc := 60) o dX9_road_60 rfl ?_
          exact g_iret o ρ dX9_road_62 (Po.mk (bI_t (bI_n0.mp c37)) CRn (((kM.rf h).mw (by decide)).mw (by decide)))
      · skip
        refine g_aload_n (pc := 19) o dX9_road_19 rfl ?_
        refine g_iconst (pc := 20) o dX9_road_20 0 rfl ?_
        refine g_callVi (pc := 21) o (c_finding 0 (by decide) h) mt_X9_finding mv_X9_finding lk_X9_58 rfl rfl rfl (by decide) rfl (Nat.le_of_ble_eq_true rfl) dX9_road_21 ?_
        exact g_iret o ρ dX9_road_24 (Po.eq (if_neg (fun z => z.2.2 c16)) (Po_fnd C (by decide)))
set_option maxRecDepth 100000 in
set_option maxHeartbeats 4000000 in
theorem co_roads {h : Mem} {σ : Sg} (C : CR h σ) (a : Int32) : Ct yX9_roads cX9_roads 2 (some .int) 1 21 [.ref 0, .int a] h (Po h (op_roads a σ)) := by
  refine Ct.of (by decide) (Nat.le_of_ble_eq_true rfl) (fun Γ o ρ => ?_)
  refine g_iload_n (pc := 0) o dX9_roads_0 rfl ?_
  refine g_callSi (pc := 1) o (c_isPlace a h) mt_X9_isPlace ms_X9_isPlace lk_X9_54 rfl (by decide) rfl (Nat.le_of_ble_eq_true rfl) dX9_roads_1 ?_
  refine g_if_eq (pc := 4) o 21 dX9_roads_4 (by decide) (fun c4 => ?_) (fun c4 => ?_)
  · skip
    refine g_aload_n (pc := 21) o dX9_roads_21 rfl ?_
    refine g_iconst (pc := 22) o dX9_roads_22 0 rfl ?_
    refine g_callVi (pc := 23) o (c_finding 0 (by decide) h) mt_X9_finding mv_X9_finding lk_X9_58 rfl rfl rfl (by decide) rfl (Nat.le_of_ble_eq_true rfl) dX9_roads_23 ?_
    exact g_iret o ρ dX9_roads_26 (Po.eq (if_neg (bI_0.mp c4)) (Po_fnd C (by decide)))
  · skip
    have ha := bI_n0.mp c4
    obtain ⟨i, hi, e1, e2⟩ := n_of (b := 7) ha (by decide)
    have eq : op_roads a σ = (σ 0 i, σ) := by rw [← e2]; exact if_pos ha
    rw [eq] at ρ
    subst e1
    refine g_aload_n (pc := 7) o dX9_roads_7 rfl ?_
    refine g_getR (pc := 8) o 0 rfl rfl rfl inX9 (by decide) lf_X9_10 dX9_roads_8 ?_
    refine g_getR (pc := 11) o 0 rfl rfl rfl inX0 (by decide) lf_X9_62 dX9_roads_11 ?_
    refine g_iload_n (pc := 14) o dX9_roads_14 rfl ?_
    refine g_callVi (pc := 15) o (c_neighboursOf C.1 i (by omega)) mt_X2_neighboursOf mv_X2_neighboursOf lk_X9_76 rfl rfl rfl (by decide) rfl (Nat.le_of_ble_eq_true rfl) dX9_roads_15 ?_
    refine g_goto (pc := 18) o 26 dX9_roads_18 (by decide) ?_
    exact g_iret o ρ dX9_roads_26 (Po.mk rfl C (kM.rf h))
set_option maxRecDepth 100000 in
set_option maxHeartbeats 4000000 in
theorem co_far {h : Mem} {σ : Sg} (C : CR h σ) (a b : Int32) : Ct yX9_far cX9_far 4 (some .int) 3 68 [.ref 0, .int a, .int b] h (Po h (op_far a b σ)) := by
  refine Ct.of (by decide) (Nat.le_of_ble_eq_true rfl) (fun Γ o ρ => ?_)
  refine g_iload_n (pc := 0) o dX9_far_0 rfl ?_
  refine g_callSi (pc := 1) o (c_isPlace a h) mt_X9_isPlace ms_X9_isPlace lk_X9_54 rfl (by decide) rfl (Nat.le_of_ble_eq_true rfl) dX9_far_1 ?_
  refine g_if_eq (pc := 4) o 14 dX9_far_4 (by decide) (fun c4 => ?_) (fun c4 => ?_)
  · skip
    refine g_aload_n (pc := 14) o dX9_far_14 rfl ?_
    refine g_iconst (pc := 15) o dX9_far_15 0 rfl ?_
    refine g_callVi (pc := 16) o (c_finding 0 (by decide) h) mt_X9_finding mv_X9_finding lk_X9_58 rfl rfl rfl (by decide) rfl (Nat.le_of_ble_eq_true rfl) dX9_far_16 ?_
    exact g_iret o ρ dX9_far_19 (Po.eq (if_neg (fun z => bI_0.mp c4 z.1)) (Po_fnd C (by decide)))
  · skip
    have ha := bI_n0.mp c4
    refine g_iload_n (pc := 7) o dX9_far_7 rfl ?_
    refine g_callSi (pc := 8) o (c_isPlace b h) mt_X9_isPlace ms_X9_isPlace lk_X9_54 rfl (by decide) rfl (Nat.le_of_ble_eq_true rfl) dX9_far_8 ?_
    refine g_if_ne (pc := 11) o 20 dX9_far_11 (by decide) (fun c11 => ?_) (fun c11 => ?_)
    · skip
      have hb := bI_n0.mp c11
      obtain ⟨i, hi, e1, e2⟩ := n_of (b := 7) ha (by decide)
      obtain ⟨j, hj, e3, e4⟩ := n_of (b := 7) hb (by decide)
      have eq : op_far a b σ = if farL (σ 0) j 8 0 (jshl 1 a) = -1 then fnd σ 3 else (farL (σ 0) j 8 0 (jshl 1 a), σ) := by rw [← e4]; exact if_pos ⟨ha, hb⟩
      rw [eq] at ρ
      subst e1 e3
      refine g_aload_n (pc := 20) o dX9_far_20 rfl ?_
      refine g_getR (pc := 21) o 0 rfl rfl rfl inX9 (by decide) lf_X9_10 dX9_far_21 ?_
      refine g_getR (pc := 24) o 0 rfl rfl rfl inX0 (by decide) lf_X9_62 dX9_far_24 ?_
      refine g_iload_n (pc := 27) o dX9_far_27 rfl ?_
      refine g_iload_n (pc := 28) o dX9_far_28 rfl ?_
      refine g_callVi (pc := 29) o (c_fewestMoves C.1 i j (by omega)) mt_X2_fewestMoves mv_X2_fewestMoves lk_X9_79 rfl rfl rfl (by decide) rfl (Nat.le_of_ble_eq_true rfl) dX9_far_29 ?_
      refine g_istore_n (pc := 32) o dX9_far_32 (by decide) ?_
      refine g_iload_n (pc := 33) o dX9_far_33 rfl ?_
      refine g_iconst (pc := 34) o dX9_far_34 (-1) rfl ?_
      refine g_ic_ne (pc := 35) o 46 dX9_far_35 (by decide) (fun c35 => ?_) (fun c35 => ?_)
      · skip
        refine g_iload_n (pc := 46) o dX9_far_46 rfl ?_
        exact g_iret o ρ dX9_far_47 (Po.eq (if_neg c35) (Po.mk rfl C (kM.rf h)))
      · skip
        refine g_aload_n (pc := 38) o dX9_far_38 rfl ?_
        refine g_iconst (pc := 39) o dX9_far_39 3 rfl ?_
        refine g_callVi (pc := 40) o (c_finding 3 (by decide) h) mt_X9_finding mv_X9_finding lk_X9_58 rfl rfl rfl (by decide) rfl (Nat.le_of_ble_eq_true rfl) dX9_far_40 ?_
        refine g_goto (pc := 43) o 47 dX9_far_43 (by decide) ?_
        exact g_iret o ρ dX9_far_47 (Po.eq (if_pos c35) (Po_fnd C (by decide)))
    · skip
      refine g_aload_n (pc := 14) o dX9_far_14 rfl ?_
      refine g_iconst (pc := 15) o dX9_far_15 0 rfl ?_
      refine g_callVi (pc := 16) o (c_finding 0 (by decide) h) mt_X9_finding mv_X9_finding lk_X9_58 rfl rfl rfl (by decide) rfl (Nat.le_of_ble_eq_true rfl) dX9_far_16 ?_
      exact g_iret o ρ dX9_far_19 (Po.eq (if_neg (fun z => bI_0.mp c11 z.2)) (Po_fnd C (by decide)))
/-! the model's -/
set_option maxRecDepth 100000 in
theorem lp_further {Γ : Fr} (o : ca_O Γ cX10_further 4 RX10 1 21) {Pr : Option Value → Mem → Prop} (ρ : ca_R Γ (some .int) Pr) {h : Mem} (x : Int32) (hp : Pr (some (.int (stepF (h.1 52) x 8))) h) : ∀ i, i ≤ 8 → ∀ (xi a : Int32), xi = nI i → a = stepF (h.1 52) x i → ca_G Γ 4 h 4 [some (.ref 51), some (.int x), some (.int a), some (.int xi)] [] := by
  refine downI 8 (fun i hi ih => ?_)
  rintro xi a rfl rfl
  refine g_iload_n (pc := 4) o dX10_further_4 rfl ?_
  refine g_bipush (pc := 5) o dX10_further_5 8 rfl ?_
  refine g_ic_ge (pc := 7) o 39 dX10_further_7 (by decide) (fun c7 => ?_) (fun c7 => ?_)
  · skip
    have e : i = 8 := ge8 (n := 8) (by decide) (by omega) c7
    subst e
    refine g_iload_n (pc := 39) o dX10_further_39 rfl ?_
    exact g_iret o ρ dX10_further_40 hp
  · skip
    have e : i < 8 := lt8 (n := 8) (by decide) (by omega) c7
    refine g_iload_n (pc := 10) o dX10_further_10 rfl ?_
    refine g_iload_n (pc := 11) o dX10_further_11 rfl ?_
    refine g_iload_n (pc := 12) o dX10_further_12 rfl ?_
    refine g_callSi (pc := 13) o (m_has x i (by omega) h) mt_X10_has ms_X10_has lk_X10_90 rfl (by decide) rfl (Nat.le_of_ble_eq_true rfl) dX10_further_13 ?_
    refine g_if_eq (pc := 16) o 30 dX10_further_16 (by decide) (fun c16 => ?_) (fun c16 => ?_)
    · skip
      refine g_iconst (pc := 30) o dX10_further_30 0 rfl ?_
      refine g_ior (pc := 31) o dX10_further_31 ?_
      refine g_istore_n (pc := 32) o dX10_further_32 (by decide) ?_
      refine g_iinc (pc := 33) o dX10_further_33 rfl 1 rfl (by decide) ?_
      refine g_goto (pc := 36) o 4 dX10_further_36 (by decide) ?_
      exact ih e _ _ (nI_1 i) (by rw [stepF_s, if_neg (bI_0.mp c16)]; exact or_z _)
    · skip
      refine g_aload_n (pc := 19) o dX10_further_19 rfl ?_
      refine g_getR (pc := 20) o 0 rfl rfl rfl inX10 (by decide) lf_X10_7 dX10_further_20 ?_
      refine g_iconst (pc := 23) o dX10_further_23 0 rfl ?_
      refine g_iload_n (pc := 24) o dX10_further_24 rfl ?_
      refine g_iadd (pc := 25) o dX10_further_25 ?_
      refine n_iald (pc := 26) o i (z0 i) rfl ((by omega)) (by decide) dX10_further_26 ?_
      refine g_goto (pc := 27) o 31 dX10_further_27 (by decide) ?_
      refine g_ior (pc := 31) o dX10_further_31 ?_
      refine g_istore_n (pc := 32) o dX10_further_32 (by decide) ?_
      refine g_iinc (pc := 33) o dX10_further_33 rfl 1 rfl (by decide) ?_
      refine g_goto (pc := 36) o 4 dX10_further_36 (by decide) ?_
      exact ih e _ _ (nI_1 i) (by rw [stepF_s, if_pos (bI_n0.mp c16)])
set_option maxRecDepth 100000 in
set_option maxHeartbeats 4000000 in
theorem m_further (x : Int32) (h : Mem) : Ct yX10_further cX10_further 4 (some .int) 1 21 [.ref 51, .int x] h (Ei (stepF (h.1 52) x 8) h) := by
  refine Ct.of (by decide) (Nat.le_of_ble_eq_true rfl) (fun Γ o ρ => ?_)
  refine g_iload_n (pc := 0) o dX10_further_0 rfl ?_
  refine g_istore_n (pc := 1) o dX10_further_1 (by decide) ?_
  refine g_iconst (pc := 2) o dX10_further_2 0 rfl ?_
  refine g_istore_n (pc := 3) o dX10_further_3 (by decide) ?_
  exact lp_further o ρ x ⟨rfl, rfl⟩ 0 (by decide) 0 x rfl rfl
set_option maxRecDepth 100000 in
set_option maxHeartbeats 4000000 in
theorem mo_road {h : Mem} (a b c : Int32) : Ct yX10_road cX10_road 5 (some .int) 2 45 [.ref 51, .int a, .int b, .int c] h (Pm h (op_road a b c (absM h))) := by
  refine Ct.of (by decide) (Nat.le_of_ble_eq_true rfl) (fun Γ o ρ => ?_)
  refine g_iload_n (pc := 0) o dX10_road_0 rfl ?_
  refine g_callSi (pc := 1) o (m_isPlace a h) mt_X10_isPlace ms_X10_isPlace lk_X10_82 rfl (by decide) rfl (Nat.le_of_ble_eq_true rfl) dX10_road_1 ?_
  refine g_if_eq (pc := 4) o 19 dX10_road_4 (by decide) (fun c4 => ?_) (fun c4 => ?_)
  · skip
    refine g_aload_n (pc := 19) o dX10_road_19 rfl ?_
    refine g_ldc (pc := 20) o dX10_road_20 lc_X10_68 ?_
    refine g_callVi (pc := 22) o (m_finds 0 (by decide) h) mt_X10_finds mv_X10_finds lk_X10_86 rfl rfl rfl (by decide) rfl (Nat.le_of_ble_eq_true rfl) dX10_road_22 ?_
    exact g_iret o ρ dX10_road_25 (Pm.eq (if_neg (fun z => bI_0.mp c4 z.1)) (Pm_fnd rfl (kC.rf h) (by decide)))
  · skip
    have ha := bI_n0.mp c4
    refine g_iload_n (pc := 7) o dX10_road_7 rfl ?_
    refine g_callSi (pc := 8) o (m_isPlace b h) mt_X10_isPlace ms_X10_isPlace lk_X10_82 rfl (by decide) rfl (Nat.le_of_ble_eq_true rfl) dX10_road_8 ?_
    refine g_if_eq (pc := 11) o 19 dX10_road_11 (by decide) (fun c11 => ?_) (fun c11 => ?_)
    · skip
      refine g_aload_n (pc := 19) o dX10_road_19 rfl ?_
      refine g_ldc (pc := 20) o dX10_road_20 lc_X10_68 ?_
      refine g_callVi (pc := 22) o (m_finds 0 (by decide) h) mt_X10_finds mv_X10_finds lk_X10_86 rfl rfl rfl (by decide) rfl (Nat.le_of_ble_eq_true rfl) dX10_road_22 ?_
      exact g_iret o ρ dX10_road_25 (Pm.eq (if_neg (fun z => bI_0.mp c11 z.2.1)) (Pm_fnd rfl (kC.rf h) (by decide)))
    · skip
      have hb := bI_n0.mp c11
      refine g_iload_n (pc := 14) o dX10_road_14 rfl ?_
      refine g_iload_n (pc := 15) o dX10_road_15 rfl ?_
      refine g_ic_ne (pc := 16) o 26 dX10_road_16 (by decide) (fun c16 => ?_) (fun c16 => ?_)
      · skip
        obtain ⟨i, hi, e1, e2⟩ := n_of (b := 7) ha (by decide)
        obtain ⟨j, hj, e3, e4⟩ := n_of (b := 7) hb (by decide)
        have eq : op_road a b c (absM h) = (bI (bt (h.1 52 i) j = true), sf (absM h) 0 (rdS (h.1 52) i j c)) := by rw [← e2, ← e4]; exact if_pos ⟨ha, hb, c16⟩
        rw [eq] at ρ
        clear eq ha hb c4 c11 e2 e4
        subst e1 e3
        have hij : i ≠ j := fun z => c16 (by rw [z])
        have e2 : ∀ v, (mw h 52 i v).1 52 j = h.1 52 j := fun v => by rw [mw_same, pk_un (Ne.symm hij)]
        have fin : ∀ u w, u = setR (h.1 52 i) j c → w = setR (h.1 52 j) i c → Pm h (bI (bt (h.1 52 i) j = true), sf (absM h) 0 (rdS (h.1 52) i j c)) (some (.int (jshr (h.1 52 i) (nI j) &&& 1))) (mw (mw h 52 i u) 52 j w) := by
          rintro u w rfl rfl
          refine Pm.mk (has_s _ (by omega)) ?_ (((kC.rf h).mw (by decide)).mw (by decide))
          exact abs_s (fun k hk => by
            have : k ≠ 52 := fun z => by subst z; revert hk; decide
            rw [mw_ne _ _ _ this, mw_ne _ _ _ this])
        refine g_aload_n (pc := 26) o dX10_road_26 rfl ?_
        refine g_getR (pc := 27) o 0 rfl rfl rfl inX10 (by decide) lf_X10_7 dX10_road_27 ?_
        refine g_iconst (pc := 30) o dX10_road_30 0 rfl ?_
        refine g_iload_n (pc := 31) o dX10_road_31 rfl ?_
        refine g_iadd (pc := 32) o dX10_road_32 ?_
        refine n_iald (pc := 33) o i (z0 i) rfl ((by omega)) (by decide) dX10_road_33 ?_
        refine g_iload_n (pc := 34) o dX10_road_34 rfl ?_
        refine g_ishr (pc := 35) o dX10_road_35 ?_
        refine g_iconst (pc := 36) o dX10_road_36 1 rfl ?_
        refine g_iand (pc := 37) o dX10_road_37 ?_
        refine g_istore (pc := 38) o dX10_road_38 (by decide) ?_
        refine g_aload_n (pc := 40) o dX10_road_40 rfl ?_
        refine g_getR (pc := 41) o 0 rfl rfl rfl inX10 (by decide) lf_X10_7 dX10_road_41 ?_
        refine g_iconst (pc := 44) o dX10_road_44 0 rfl ?_
        refine g_iload_n (pc := 45) o dX10_road_45 rfl ?_
        refine g_iadd (pc := 46) o dX10_road_46 ?_
        refine g_iload_n (pc := 47) o dX10_road_47 rfl ?_
        refine g_if_eq (pc := 48) o 66 dX10_road_48 (by decide) (fun c48 => ?_) (fun c48 => ?_)
        · skip
          have q : ∀ x k, x &&& (jshl 1 (nI k) ^^^ -1) = setR x k c := fun x k => by unfold setR; rw [if_pos c48]
          refine g_aload_n (pc := 66) o dX10_road_66 rfl ?_
          refine g_getR (pc := 67) o 0 rfl rfl rfl inX10 (by decide) lf_X10_7 dX10_road_67 ?_
          refine g_iconst (pc := 70) o dX10_road_70 0 rfl ?_
          refine g_iload_n (pc := 71) o dX10_road_71 rfl ?_
          refine g_iadd (pc := 72) o dX10_road_72 ?_
          refine n_iald (pc := 73) o i (z0 i) rfl ((by omega)) (by decide) dX10_road_73 ?_
          refine g_iconst (pc := 74) o dX10_road_74 1 rfl ?_
          refine g_iload_n (pc := 75) o dX10_road_75 rfl ?_
          refine g_ishl (pc := 76) o dX10_road_76 ?_
          refine g_iconst (pc := 77) o dX10_road_77 (-1) rfl ?_
          refine g_ixor (pc := 78) o dX10_road_78 ?_
          refine g_iand (pc := 79) o dX10_road_79 ?_
          refine n_iast (pc := 80) o i (z0 i) rfl ((by omega)) (by decide) dX10_road_80 ?_
          refine g_aload_n (pc := 81) o dX10_road_81 rfl ?_
          refine g_getR (pc := 82) o 0 rfl rfl rfl inX10 (by decide) lf_X10_7 dX10_road_82 ?_
          refine g_iconst (pc := 85) o dX10_road_85 0 rfl ?_
          refine g_iload_n (pc := 86) o dX10_road_86 rfl ?_
          refine g_iadd (pc := 87) o dX10_road_87 ?_
          refine g_iload_n (pc := 88) o dX10_road_88 rfl ?_
          refine g_if_eq (pc := 89) o 107 dX10_road_89 (by decide) (fun c89 => ?_) (fun c89 => ?_)
          · skip
            refine g_aload_n (pc := 107) o dX10_road_107 rfl ?_
            refine g_getR (pc := 108) o 0 rfl rfl rfl inX10 (by decide) lf_X10_7 dX10_road_108 ?_
            refine g_iconst (pc := 111) o dX10_road_111 0 rfl ?_
            refine g_iload_n (pc := 112) o dX10_road_112 rfl ?_
            refine g_iadd (pc := 113) o dX10_road_113 ?_
            refine n_ialdE (pc := 114) o j (z0 j) rfl ((by omega)) (by decide) (e2 _) dX10_road_114 ?_
            refine g_iconst (pc := 115) o dX10_road_115 1 rfl ?_
            refine g_iload_n (pc := 116) o dX10_road_116 rfl ?_
            refine g_ishl (pc := 117) o dX10_road_117 ?_
            refine g_iconst (pc := 118) o dX10_road_118 (-1) rfl ?_
            refine g_ixor (pc := 119) o dX10_road_119 ?_
            refine g_iand (pc := 120) o dX10_road_120 ?_
            refine n_iast (pc := 121) o j (z0 j) rfl ((by omega)) (by decide) dX10_road_121 ?_
            refine g_iload (pc := 122) o dX10_road_122 rfl ?_
            exact g_iret o ρ dX10_road_124 (fin _ _ (q _ _) (q _ _))
          · skip
            exact absurd c48 c89
        · skip
          have q : ∀ x k, x ||| jshl 1 (nI k) = setR x k c := fun x k => by unfold setR; rw [if_neg c48]
          refine g_aload_n (pc := 51) o dX10_road_51 rfl ?_
          refine g_getR (pc := 52) o 0 rfl rfl rfl inX10 (by decide) lf_X10_7 dX10_road_52 ?_
          refine g_iconst (pc := 55) o dX10_road_55 0 rfl ?_
          refine g_iload_n (pc := 56) o dX10_road_56 rfl ?_
          refine g_iadd (pc := 57) o dX10_road_57 ?_
          refine n_iald (pc := 58) o i (z0 i) rfl ((by omega)) (by decide) dX10_road_58 ?_
          refine g_iconst (pc := 59) o dX10_road_59 1 rfl ?_
          refine g_iload_n (pc := 60) o dX10_road_60 rfl ?_
          refine g_ishl (pc := 61) o dX10_road_61 ?_
          refine g_ior (pc := 62) o dX10_road_62 ?_
          refine g_goto (pc := 63) o 80 dX10_road_63 (by decide) ?_
          refine n_iast (pc := 80) o i (z0 i) rfl ((by omega)) (by decide) dX10_road_80 ?_
          refine g_aload_n (pc := 81) o dX10_road_81 rfl ?_
          refine g_getR (pc := 82) o 0 rfl rfl rfl inX10 (by decide) lf_X10_7 dX10_road_82 ?_
          refine g_iconst (pc := 85) o dX10_road_85 0 rfl ?_
          refine g_iload_n (pc := 86) o dX10_road_86 rfl ?_
          refine g_iadd (pc := 87) o dX10_road_87 ?_
          refine g_iload_n (pc := 88) o dX10_road_88 rfl ?_
          refine g_if_eq (pc := 89) o 107 dX10_road_89 (by decide) (fun c89 => ?_) (fun c89 => ?_)
          · skip
            exact absurd c89 c48
          · skip
            refine g_aload_n (pc := 92) o dX10_road_92 rfl ?_
            refine g_getR (pc := 93) o 0 rfl rfl rfl inX10 (by decide) lf_X10_7 dX10_road_93 ?_
            refine g_iconst (pc := 96) o dX10_road_96 0 rfl ?_
            refine g_iload_n (pc := 97) o dX10_road_97 rfl ?_
            refine g_iadd (pc := 98) o dX10_road_98 ?_
            refine n_ialdE (pc := 99) o j (z0 j) rfl ((by omega)) (by decide) (e2 _) dX10_road_99 ?_
            refine g_iconst (pc := 100) o dX10_road_100 1 rfl ?_
            refine g_iload_n (pc := 101) o dX10_road_101 rfl ?_
            refine g_ishl (pc := 102) o dX10_road_102 ?_
            refine g_ior (pc := 103) o dX10_road_103 ?_
            refine g_goto (pc := 104) o 121 dX10_road_104 (by decide) ?_
            refine n_iast (pc := 121) o j (z0 j) rfl ((by omega)) (by decide) dX10_road_121 ?_
            refine g_iload (pc := 122) o dX10_road_122 rfl ?_
            exact g_iret o ρ dX10_road_124 (fin _ _ (q _ _) (q _ _))
      · skip
        refine g_aload_n (pc := 19) o dX10_road_19 rfl ?_
        refine g_ldc (pc := 20) o dX10_road_20 lc_X10_68 ?_
        refine g_callVi (pc := 22) o (m_finds 0 (by decide) h) mt_X10_finds mv_X10_finds lk_X10_86 rfl rfl rfl (by decide) rfl (Nat.le_of_ble_eq_true rfl) dX10_road_22 ?_
        exact g_iret o ρ dX10_road_25 (Pm.eq (if_neg (fun z => z.2.2 c16)) (Pm_fnd rfl (kC.rf h) (by decide)))
set_option maxRecDepth 100000 in
set_option maxHeartbeats 4000000 in
theorem mo_roads {h : Mem} (a : Int32) : Ct yX10_roads cX10_roads 2 (some .int) 2 45 [.ref 51, .int a] h (Pm h (op_roads a (absM h))) := by
  refine Ct.of (by decide) (Nat.le_of_ble_eq_true rfl) (fun Γ o ρ => ?_)
  refine g_iload_n (pc := 0) o dX10_roads_0 rfl ?_
  refine g_callSi (pc := 1) o (m_isPlace a h) mt_X10_isPlace ms_X10_isPlace lk_X10_82 rfl (by decide) rfl (Nat.le_of_ble_eq_true rfl) dX10_roads_1 ?_
  refine g_if_eq (pc := 4) o 18 dX10_roads_4 (by decide) (fun c4 => ?_) (fun c4 => ?_)
  · skip
    refine g_aload_n (pc := 18) o dX10_roads_18 rfl ?_
    refine g_ldc (pc := 19) o dX10_roads_19 lc_X10_68 ?_
    refine g_callVi (pc := 21) o (m_finds 0 (by decide) h) mt_X10_finds mv_X10_finds lk_X10_86 rfl rfl rfl (by decide) rfl (Nat.le_of_ble_eq_true rfl) dX10_roads_21 ?_
    exact g_iret o ρ dX10_roads_24 (Pm.eq (if_neg (bI_0.mp c4)) (Pm_fnd rfl (kC.rf h) (by decide)))
  · skip
    have ha := bI_n0.mp c4
    obtain ⟨i, hi, e1, e2⟩ := n_of (b := 7) ha (by decide)
    have eq : op_roads a (absM h) = (h.1 52 i, absM h) := by rw [← e2]; exact if_pos ha
    rw [eq] at ρ
    subst e1
    refine g_aload_n (pc := 7) o dX10_roads_7 rfl ?_
    refine g_getR (pc := 8) o 0 rfl rfl rfl inX10 (by decide) lf_X10_7 dX10_roads_8 ?_
    refine g_iconst (pc := 11) o dX10_roads_11 0 rfl ?_
    refine g_iload_n (pc := 12) o dX10_roads_12 rfl ?_
    refine g_iadd (pc := 13) o dX10_roads_13 ?_
    refine n_iald (pc := 14) o i (z0 i) rfl ((by omega)) (by decide) dX10_roads_14 ?_
    refine g_goto (pc := 15) o 24 dX10_roads_15 (by decide) ?_
    exact g_iret o ρ dX10_roads_24 (Pm.mk rfl rfl (kC.rf h))
set_option maxRecDepth 100000 in
theorem lp_far {Γ : Fr} (o : ca_O Γ cX10_far 5 RX10 2 45) {Pr : Option Value → Mem → Prop} (ρ : ca_R Γ (some .int) Pr) {h : Mem} (a to : Nat) (hto : to < 32) (z : Int32) (hz : z = farL (h.1 52) to 8 0 (jshl 1 (nI a))) (h1 : ¬ z = -1 → Pr (some (.int z)) h) (h2 : z = -1 → Pr (some (.int (-1000001 - nI 3))) (mw h 55 3 (h.1 55 3 + 1))) : ∀ i, i ≤ 8 → ∀ (xi x : Int32), xi = nI i → farL (h.1 52) to (8 - i) i x = z → ca_G Γ 5 h 28 [some (.ref 51), some (.int (nI a)), some (.int (nI to)), some (.int x), some (.int xi)] [] := by
  refine downI 8 (fun i hi ih => ?_)
  rintro xi x rfl e2
  refine g_iload (pc := 28) o dX10_far_28 rfl ?_
  refine g_bipush (pc := 30) o dX10_far_30 8 rfl ?_
  refine g_ic_ge (pc := 32) o 58 dX10_far_32 (by decide) (fun c32 => ?_) (fun c32 => ?_)
  · skip
    have e : i = 8 := ge8 (n := 8) (by decide) (by omega) c32
    subst e
    refine g_aload_n (pc := 58) o dX10_far_58 rfl ?_
    refine g_ldc (pc := 59) o dX10_far_59 lc_X10_97 ?_
    refine g_callVi (pc := 61) o (m_finds 3 (by decide) h) mt_X10_finds mv_X10_finds lk_X10_86 rfl rfl rfl (by decide) rfl (Nat.le_of_ble_eq_true rfl) dX10_far_61 ?_
    exact g_iret o ρ dX10_far_64 (h2 e2.symm)
  · skip
    have e : i < 8 := lt8 (n := 8) (by decide) (by omega) c32
    rw [show 8 - i = (8 - (i + 1)) + 1 by omega, farL_s] at e2
    refine g_iload_n (pc := 35) o dX10_far_35 rfl ?_
    refine g_iload_n (pc := 36) o dX10_far_36 rfl ?_
    refine g_callSi (pc := 37) o (m_has x to hto h) mt_X10_has ms_X10_has lk_X10_90 rfl (by decide) rfl (Nat.le_of_ble_eq_true rfl) dX10_far_37 ?_
    refine g_if_eq (pc := 40) o 46 dX10_far_40 (by decide) (fun c40 => ?_) (fun c40 => ?_)
    · skip
      rw [if_neg (bI_0.mp c40)] at e2
      refine g_aload_n (pc := 46) o dX10_far_46 rfl ?_
      refine g_iload_n (pc := 47) o dX10_far_47 rfl ?_
      refine g_callVi (pc := 48) o (m_further x h) mt_X10_further mv_X10_further lk_X10_94 rfl rfl rfl (by decide) rfl (Nat.le_of_ble_eq_true rfl) dX10_far_48 ?_
      refine g_istore_n (pc := 51) o dX10_far_51 (by decide) ?_
      refine g_iinc (pc := 52) o dX10_far_52 rfl 1 rfl (by decide) ?_
      refine g_goto (pc := 55) o 28 dX10_far_55 (by decide) ?_
      exact ih e _ _ (nI_1 i) e2
    · skip
      rw [if_pos (bI_n0.mp c40)] at e2
      refine g_iload (pc := 43) o dX10_far_43 rfl ?_
      exact g_iret o ρ dX10_far_45 (by rw [e2]; exact h1 (fun q => absurd (e2.trans q) (nI_ne_m1 (by omega))))
set_option maxRecDepth 100000 in
set_option maxHeartbeats 4000000 in
theorem mo_far {h : Mem} (a b : Int32) : Ct yX10_far cX10_far 5 (some .int) 2 45 [.ref 51, .int a, .int b] h (Pm h (op_far a b (absM h))) := by
  refine Ct.of (by decide) (Nat.le_of_ble_eq_true rfl) (fun Γ o ρ => ?_)
  refine g_iload_n (pc := 0) o dX10_far_0 rfl ?_
  refine g_callSi (pc := 1) o (m_isPlace a h) mt_X10_isPlace ms_X10_isPlace lk_X10_82 rfl (by decide) rfl (Nat.le_of_ble_eq_true rfl) dX10_far_1 ?_
  refine g_if_eq (pc := 4) o 14 dX10_far_4 (by decide) (fun c4 => ?_) (fun c4 => ?_)
  · skip
    refine g_aload_n (pc := 14) o dX10_far_14 rfl ?_
    refine g_ldc (pc := 15) o dX10_far_15 lc_X10_68 ?_
    refine g_callVi (pc := 17) o (m_finds 0 (by decide) h) mt_X10_finds mv_X10_finds lk_X10_86 rfl rfl rfl (by decide) rfl (Nat.le_of_ble_eq_true rfl) dX10_far_17 ?_
    exact g_iret o ρ dX10_far_20 (Pm.eq (if_neg (fun z => bI_0.mp c4 z.1)) (Pm_fnd rfl (kC.rf h) (by decide)))
  · skip
    have ha := bI_n0.mp c4
    refine g_iload_n (pc := 7) o dX10_far_7 rfl ?_
    refine g_callSi (pc := 8) o (m_isPlace b h) mt_X10_isPlace ms_X10_isPlace lk_X10_82 rfl (by decide) rfl (Nat.le_of_ble_eq_true rfl) dX10_far_8 ?_
    refine g_if_ne (pc := 11) o 21 dX10_far_11 (by decide) (fun c11 => ?_) (fun c11 => ?_)
    · skip
      have hb := bI_n0.mp c11
      obtain ⟨i, hi, e1, e2⟩ := n_of (b := 7) ha (by decide)
      obtain ⟨j, hj, e3, e4⟩ := n_of (b := 7) hb (by decide)
      have eq : op_far a b (absM h) = if farL (h.1 52) j 8 0 (jshl 1 a) = -1 then fnd (absM h) 3 else (farL (h.1 52) j 8 0 (jshl 1 a), absM h) := by rw [← e4]; exact if_pos ⟨ha, hb⟩
      rw [eq] at ρ
      subst e1 e3
      refine g_iconst (pc := 21) o dX10_far_21 1 rfl ?_
      refine g_iload_n (pc := 22) o dX10_far_22 rfl ?_
      refine g_ishl (pc := 23) o dX10_far_23 ?_
      refine g_istore_n (pc := 24) o dX10_far_24 (by decide) ?_
      refine g_iconst (pc := 25) o dX10_far_25 0 rfl ?_
      refine g_istore (pc := 26) o dX10_far_26 (by decide) ?_
      exact lp_far o ρ i j (by omega) _ rfl (fun q => Pm.eq (if_neg q) (Pm.mk rfl rfl (kC.rf h))) (fun q => Pm.eq (if_pos q) (Pm_fnd rfl (kC.rf h) (by decide))) 0 (by decide) 0 _ rfl rfl
    · skip
      refine g_aload_n (pc := 14) o dX10_far_14 rfl ?_
      refine g_ldc (pc := 15) o dX10_far_15 lc_X10_68 ?_
      refine g_callVi (pc := 17) o (m_finds 0 (by decide) h) mt_X10_finds mv_X10_finds lk_X10_86 rfl rfl rfl (by decide) rfl (Nat.le_of_ble_eq_true rfl) dX10_far_17 ?_
      exact g_iret o ρ dX10_far_20 (Pm.eq (if_neg (fun z => bI_0.mp c11 z.2)) (Pm_fnd rfl (kC.rf h) (by decide)))

