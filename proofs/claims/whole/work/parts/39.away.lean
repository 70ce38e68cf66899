/-! ===== is there a way ===== -/
abbrev auM (s : Nat → Int32) (p : Int32) (d : Nat) (X : Int32) : Au := auF s p d X (rxM s X)
/-- the moves of the best way, 1000 where there is none -/
def fewF (s : Nat → Int32) (p : Int32) (d : Nat) (X : Int32) : Nat := mnF (fun q => if bt (lwF s p d X 0 12) q = true then cgF (auM s p d X) 23 ((auM s p d X).nx (auM s p d X).c0 0 q) q else 1000) 8
theorem few_iff {s : Nat → Int32} {p : Int32} {d : Nat} {X : Int32} (ha : ∀ t, t < 12 → askT s t < 4) : fewF s p d X < 1000 ↔ ∃ q, q < 8 ∧ RCH (auC s p d X) 23 0 q := by
  have S := sim_CM (s := s) (p := p) (d := d) (X := X) ha
  have w := way_iff (auC s p d X)
  rw [← w]
  constructor
  · intro h
    obtain ⟨r, hr, e⟩ := mnF_ex _ _ h
    have h2 := h
    unfold fewF at h2
    rw [← e] at h2
    by_cases z : bt (lwF s p d X 0 12) r = true
    · rw [if_pos z] at h2
      refine ⟨r, hr, z, ?_⟩
      rw [S.cg 23 (by omega) _ _ r (S.rn _ _ 0 r (by omega) hr S.r0)]
      exact h2
    · rw [if_neg z] at h2
      exact absurd h2 (Nat.lt_irrefl 1000)
  · rintro ⟨r, hr, z, h⟩
    refine Nat.lt_of_le_of_lt (mnF_le _ 8 hr) ?_
    rw [if_pos (show bt (lwF s p d X 0 12) r = true from z)]
    rw [S.cg 23 (by omega) _ _ r (S.rn _ _ 0 r (by omega) hr S.r0)] at h
    exact h
set_option maxRecDepth 100000 in
set_option maxHeartbeats 400000 in
theorem c_isThereOne {h : Mem} (N : Nat) (f8 : h.1 38 8 = nI N) (hN : N < 1024) : Ct yX1_isThereOne cX1_isThereOne 1 (some .boolean) 1 22 [.ref 38] h (Ei (bI (¬ h.1 42 (23 * (N + 1) + 0) = 0)) h) := by
  refine Ct.of (by decide) (Nat.le_of_ble_eq_true rfl) (fun Γ o ρ => ?_)
  show ca_G Γ 1 _ _ [_] _
  have rl := row_lt (m := 23) hN (by omega) (Nat.zero_le N)
  refine g_aload_n (pc := 0) o dX1_isThereOne_0 rfl ?_
  refine g_getR (pc := 1) o 3 rfl rfl rfl inX1 (by decide) lf_X1_21 dX1_isThereOne_1 ?_
  refine g_aload_n (pc := 4) o dX1_isThereOne_4 rfl ?_
  refine g_bipush (pc := 5) o dX1_isThereOne_5 23 rfl ?_
  refine g_iconst (pc := 7) o dX1_isThereOne_7 0 rfl ?_
  refine g_callVi (pc := 8) o (c_row f8 23 0) mt_X1_row mv_X1_row lk_X1_90 rfl rfl rfl (by decide) rfl (Nat.le_of_ble_eq_true rfl) dX1_isThereOne_8 ?_
  refine n_iald (pc := 11) o (23 * (N + 1) + 0) (rfl) rfl ((by omega)) (by decide) dX1_isThereOne_11 ?_
  refine g_if_eq (pc := 12) o 19 dX1_isThereOne_12 (by decide) (fun c12 => ?_) (fun c12 => ?_)
  · skip
    refine g_iconst (pc := 19) o dX1_isThereOne_19 0 rfl ?_
    exact g_zret o ρ (by first | rfl | exact bI_b) dX1_isThereOne_20 (Ei.mk (bI_f (fun z => z c12)) rfl)
  · skip
    refine g_iconst (pc := 15) o dX1_isThereOne_15 1 rfl ?_
    refine g_goto (pc := 16) o 20 dX1_isThereOne_16 (by decide) ?_
    exact g_zret o ρ (by first | rfl | exact bI_b) dX1_isThereOne_20 (Ei.mk (bI_t c12) rfl)
set_option maxRecDepth 100000 in
set_option maxHeartbeats 400000 in
theorem c_isThereAWay {h : Mem} {s : Nat → Int32} (B : BR h 1 s) (I : SI s) (p : Int32) (d : Nat) (hd : d < 30) (X : Int32) (h5 : akN s X 12 ≤ 5) : Ct yX9_isThereAWay cX9_isThereAWay 4 (some .boolean) 4 98 [.ref 0, .int p, .int (nI d), .int X] h (Qi (fun r h2 => r = bI (fewF s p d X < 1000) ∧ PR h2 s p d X ∧ RE h2 (debF s X 12) (fun m c q => q < 8 ∧ RCH (auC s p d X) m c q) ∧ ∀ c, c ≠ 38 → c ≠ 39 → c ≠ 40 → c ≠ 41 → c ≠ 42 → h2.1 c = h.1 c)) := by
  refine Ct.of (by decide) (Nat.le_of_ble_eq_true rfl) (fun Γ o ρ => ?_)
  show ca_G Γ 4 _ _ [_, _, _, _] _
  have ha : ∀ t, t < 12 → askT s t < 4 := fun t ht => ask_lt I.tm ht
  have l := ml_1024 h5
  have hN : debF s X 12 < mlF (rxC s X) 12 := vlF_lt 12 (fun t ht => ak_C (ha t ht))
  refine g_aload_n (pc := 0) o dX9_isThereAWay_0 rfl ?_
  refine g_getR (pc := 1) o 6 rfl rfl rfl inX9 (by decide) lf_X9_40 dX9_isThereAWay_1 ?_
  refine g_aload_n (pc := 4) o dX9_isThereAWay_4 rfl ?_
  refine g_getR (pc := 5) o 0 rfl rfl rfl inX9 (by decide) lf_X9_10 dX9_isThereAWay_5 ?_
  refine g_iload_n (pc := 8) o dX9_isThereAWay_8 rfl ?_
  refine g_iload_n (pc := 9) o dX9_isThereAWay_9 rfl ?_
  refine g_iload_n (pc := 10) o dX9_isThereAWay_10 rfl ?_
  refine g_callVQv (pc := 11) o (c_prepare B I p d hd X h5) mt_X1_prepare mv_X1_prepare lk_X9_330 rfl rfl rfl (by decide) rfl (Nat.le_of_ble_eq_true rfl) dX9_isThereAWay_11 ?_
  rintro h1 w
  obtain ⟨P1, w1⟩ := w
  refine g_aload_n (pc := 14) o dX9_isThereAWay_14 rfl ?_
  refine g_getR (pc := 15) o 6 rfl rfl rfl inX9 (by decide) lf_X9_40 dX9_isThereAWay_15 ?_
  refine g_callVQv (pc := 18) o (c_forth (h := h1) h5 P1 (debF s X 12) rfl hN) mt_X1_exploreForth mv_X1_exploreForth lk_X9_358 rfl rfl rfl (by decide) rfl (Nat.le_of_ble_eq_true rfl) dX9_isThereAWay_18 ?_
  rintro h2 u
  obtain ⟨E2, u1⟩ := u
  have P2 : PR h2 s p d X := P1.of (fun c hc => u1 c (by omega))
  have key : ¬ h2.1 42 (23 * (debF s X 12 + 1) + 0) = 0 ↔ fewF s p d X < 1000 := by
    rw [nz_b, few_iff ha]
    constructor
    · rintro ⟨q, hq, e⟩
      exact ⟨q, (E2 23 0 q (by omega) (Nat.zero_le _) hq).mp e⟩
    · rintro ⟨q, hq, e⟩
      exact ⟨q, by omega, (E2 23 0 q (by omega) (Nat.zero_le _) (by omega)).mpr ⟨hq, e⟩⟩
  refine g_aload_n (pc := 21) o dX9_isThereAWay_21 rfl ?_
  refine g_getR (pc := 22) o 6 rfl rfl rfl inX9 (by decide) lf_X9_40 dX9_isThereAWay_22 ?_
  refine g_callVi (pc := 25) o (c_isThereOne (h := h2) (debF s X 12) P2.2.2.1 (by omega)) mt_X1_isThereOne mv_X1_isThereOne lk_X9_364 rfl rfl rfl (by decide) rfl (Nat.le_of_ble_eq_true rfl) dX9_isThereAWay_25 ?_
  exact g_zret o ρ (by first | rfl | exact bI_b) dX9_isThereAWay_28 ⟨_, rfl, (by unfold bI; by_cases z : fewF s p d X < 1000; rw [if_pos z, if_pos (key.mpr z)]; rw [if_neg z, if_neg (fun y => z (key.mp y))]), P2, E2, fun c z1 z2 z3 z4 z5 => (u1 c z5).trans (w1 c z1 z2 z3 z4)⟩

