section GVal
variable {Γ : Fr} {cc : ByteArray} {nL : Nat} {own : String} {fr lo : Nat} {h : Mem} {pc : Nat} {L : List (Option Value)} {S : List Value} {b : Nat}
theorem n_ialdE (o : ca_O Γ cc nL own fr lo) {n : Nat} {i v : Int32} (j : Nat) (e : i = nI j) (hb : ca_lay[b]? = some (.inr (0, n))) (hj : j < n) (hn : n < 2 ^ 31) (hv : h.1 b j = v) (d : decode cc pc = .ok (.iaload, 1)) (k : ca_G Γ nL h (pc + 1) L (.int v :: S)) : ca_G Γ nL h pc L (.int i :: .ref b :: S) := by
  subst hv
  exact n_iald o j e hb hj hn d k
theorem n_zaldE (o : ca_O Γ cc nL own fr lo) {n : Nat} {i v : Int32} (j : Nat) (e : i = nI j) (hb : ca_lay[b]? = some (.inr (1, n))) (hj : j < n) (hn : n < 2 ^ 31) (hv : h.1 b j = v) (d : decode cc pc = .ok (.baload, 1)) (k : ca_G Γ nL h (pc + 1) L (.int v :: S)) : ca_G Γ nL h pc L (.int i :: .ref b :: S) := by
  subst hv
  exact n_zald o j e hb hj hn d k
theorem n_laldE (o : ca_O Γ cc nL own fr lo) {n : Nat} {i : Int32} {v : Int64} (j : Nat) (e : i = nI j) (hb : ca_lay[b]? = some (.inr (2, n))) (hj : j < n) (hn : n < 2 ^ 31) (hv : h.2 j = v) (d : decode cc pc = .ok (.laload, 1)) (k : ca_G Γ nL h (pc + 1) L (.long v :: S)) : ca_G Γ nL h pc L (.int i :: .ref b :: S) := by
  subst hv
  exact n_lald o j e hb hj hn d k
theorem g_getIE (o : ca_O Γ cc nL own fr lo) {ci : Nat} {fs : List (Option Nat)} {C : String} {T : u_T} {N idx : Nat} {v : Int32} (q : Nat) (hb : ca_lay[b]? = some (.inl (ci, fs))) (hf : fs[q]? = some none) (hc : vwCl[ci]? = some (C, T, N)) (hin : ∀ w ∈ u_ws C T N, w ∈ T0) (hq : q < N) (hlk : Cond.fieldLink own idx (T q).1 (T q).2.1 (T q).2.2.1 ∈ T0) (hv : h.1 b q = v) (d : decode cc pc = .ok (.getfield idx, 3)) (k : ca_G Γ nL h (pc + 3) L (.int v :: S)) : ca_G Γ nL h pc L (.ref b :: S) := by
  subst hv
  exact g_getI o q hb hf hc hin hq hlk d k
end GVal
/-! ===== ReleaseTerms: the static helpers ===== -/
set_option maxRecDepth 100000 in
set_option maxHeartbeats 4000000 in
theorem c_has (x : Int32) (k : Nat) (hk : k < 32) (h : Mem) : Ct yX9_has cX9_has 2 (some .boolean) 0 0 [.int x, .int (nI k)] h (Ei (bI (bt x k = true)) h) := by
  refine Ct.of (by decide) (Nat.le_of_ble_eq_true rfl) (fun Γ o ρ => ?_)
  refine g_iload_n (pc := 0) o dX9_has_0 rfl ?_
  refine g_iload_n (pc := 1) o dX9_has_1 rfl ?_
  refine g_iushr (pc := 2) o dX9_has_2 ?_
  refine g_iconst (pc := 3) o dX9_has_3 1 rfl ?_
  refine g_iand (pc := 4) o dX9_has_4 ?_
  refine g_if_eq (pc := 5) o 12 dX9_has_5 (by decide) (fun c5 => ?_) (fun c5 => ?_)
  · skip
    rw [has_u x hk] at c5
    refine g_iconst (pc := 12) o dX9_has_12 0 rfl ?_
    exact g_zret o ρ (by first | rfl | exact bI_b) dX9_has_13 (Ei.mk (bI_f (bI_0.mp c5)) rfl)
  · skip
    rw [has_u x hk] at c5
    refine g_iconst (pc := 8) o dX9_has_8 1 rfl ?_
    refine g_goto (pc := 9) o 13 dX9_has_9 (by decide) ?_
    exact g_zret o ρ (by first | rfl | exact bI_b) dX9_has_13 (Ei.mk (bI_t (bI_n0.mp c5)) rfl)
set_option maxRecDepth 100000 in
set_option maxHeartbeats 4000000 in
theorem c_isPlace (x : Int32) (h : Mem) : Ct yX9_isPlace cX9_isPlace 1 (some .boolean) 0 0 [.int x] h (Ei (bI (rng x 0 7)) h) := by
  refine Ct.of (by decide) (Nat.le_of_ble_eq_true rfl) (fun Γ o ρ => ?_)
  refine g_iload_n (pc := 0) o dX9_isPlace_0 rfl ?_
  refine g_if_lt (pc := 1) o 14 dX9_isPlace_1 (by decide) (fun c1 => ?_) (fun c1 => ?_)
  · skip
    refine g_iconst (pc := 14) o dX9_isPlace_14 0 rfl ?_
    exact g_zret o ρ (by first | rfl | exact bI_b) dX9_isPlace_15 (Ei.mk (by first | (refine bI_t ?_; simp only [Int32.lt_iff_toInt_lt, Int32.le_iff_toInt_le, ← Int32.toInt_inj, Int32.reduceToInt] at *; omega) | (refine bI_f ?_; simp only [Int32.lt_iff_toInt_lt, Int32.le_iff_toInt_le, ← Int32.toInt_inj, Int32.reduceToInt] at *; omega)) rfl)
  · skip
    refine g_iload_n (pc := 4) o dX9_isPlace_4 rfl ?_
    refine g_bipush (pc := 5) o dX9_isPlace_5 8 rfl ?_
    refine g_ic_ge (pc := 7) o 14 dX9_isPlace_7 (by decide) (fun c7 => ?_) (fun c7 => ?_)
    · skip
      refine g_iconst (pc := 14) o dX9_isPlace_14 0 rfl ?_
      exact g_zret o ρ (by first | rfl | exact bI_b) dX9_isPlace_15 (Ei.mk (by first | (refine bI_t ?_; simp only [Int32.lt_iff_toInt_lt, Int32.le_iff_toInt_le, ← Int32.toInt_inj, Int32.reduceToInt] at *; omega) | (refine bI_f ?_; simp only [Int32.lt_iff_toInt_lt, Int32.le_iff_toInt_le, ← Int32.toInt_inj, Int32.reduceToInt] at *; omega)) rfl)
    · skip
      refine g_iconst (pc := 10) o dX9_isPlace_10 1 rfl ?_
      refine g_goto (pc := 11) o 15 dX9_isPlace_11 (by decide) ?_
      exact g_zret o ρ (by first | rfl | exact bI_b) dX9_isPlace_15 (Ei.mk (by first | (refine bI_t ?_; simp only [Int32.lt_iff_toInt_lt, Int32.le_iff_toInt_le, ← Int32.toInt_inj, Int32.reduceToInt] at *; omega) | (refine bI_f ?_; simp only [Int32.lt_iff_toInt_lt, Int32.le_iff_toInt_le, ← Int32.toInt_inj, Int32.reduceToInt] at *; omega)) rfl)
set_option maxRecDepth 100000 in
set_option maxHeartbeats 4000000 in
theorem c_isPerson (x : Int32) (h : Mem) : Ct yX9_isPerson cX9_isPerson 1 (some .boolean) 0 0 [.int x] h (Ei (bI (rng x 0 5)) h) := by
  refine Ct.of (by decide) (Nat.le_of_ble_eq_true rfl) (fun Γ o ρ => ?_)
  refine g_iload_n (pc := 0) o dX9_isPerson_0 rfl ?_
  refine g_if_lt (pc := 1) o 14 dX9_isPerson_1 (by decide) (fun c1 => ?_) (fun c1 => ?_)
  · skip
    refine g_iconst (pc := 14) o dX9_isPerson_14 0 rfl ?_
    exact g_zret o ρ (by first | rfl | exact bI_b) dX9_isPerson_15 (Ei.mk (by first | (refine bI_t ?_; simp only [Int32.lt_iff_toInt_lt, Int32.le_iff_toInt_le, ← Int32.toInt_inj, Int32.reduceToInt] at *; omega) | (refine bI_f ?_; simp only [Int32.lt_iff_toInt_lt, Int32.le_iff_toInt_le, ← Int32.toInt_inj, Int32.reduceToInt] at *; omega)) rfl)
  · skip
    refine g_iload_n (pc := 4) o dX9_isPerson_4 rfl ?_
    refine g_bipush (pc := 5) o dX9_isPerson_5 6 rfl ?_
    refine g_ic_ge (pc := 7) o 14 dX9_isPerson_7 (by decide) (fun c7 => ?_) (fun c7 => ?_)
    · skip
      refine g_iconst (pc := 14) o dX9_isPerson_14 0 rfl ?_
      exact g_zret o ρ (by first | rfl | exact bI_b) dX9_isPerson_15 (Ei.mk (by first | (refine bI_t ?_; simp only [Int32.lt_iff_toInt_lt, Int32.le_iff_toInt_le, ← Int32.toInt_inj, Int32.reduceToInt] at *; omega) | (refine bI_f ?_; simp only [Int32.lt_iff_toInt_lt, Int32.le_iff_toInt_le, ← Int32.toInt_inj, Int32.reduceToInt] at *; omega)) rfl)
    · skip
      refine g_iconst (pc := 10) o dX9_isPerson_10 1 rfl ?_
      refine g_goto (pc := 11) o 15 dX9_isPerson_11 (by decide) ?_
      exact g_zret o ρ (by first | rfl | exact bI_b) dX9_isPerson_15 (Ei.mk (by first | (refine bI_t ?_; simp only [Int32.lt_iff_toInt_lt, Int32.le_iff_toInt_le, ← Int32.toInt_inj, Int32.reduceToInt] at *; omega) | (refine bI_f ?_; simp only [Int32.lt_iff_toInt_lt, Int32.le_iff_toInt_le, ← Int32.toInt_inj, Int32.reduceToInt] at *; omega)) rfl)
set_option maxRecDepth 100000 in
set_option maxHeartbeats 4000000 in
theorem c_isDay (x : Int32) (h : Mem) : Ct yX9_isDay cX9_isDay 1 (some .boolean) 0 0 [.int x] h (Ei (bI (rng x 0 29)) h) := by
  refine Ct.of (by decide) (Nat.le_of_ble_eq_true rfl) (fun Γ o ρ => ?_)
  refine g_iload_n (pc := 0) o dX9_isDay_0 rfl ?_
  refine g_if_lt (pc := 1) o 14 dX9_isDay_1 (by decide) (fun c1 => ?_) (fun c1 => ?_)
  · skip
    refine g_iconst (pc := 14) o dX9_isDay_14 0 rfl ?_
    exact g_zret o ρ (by first | rfl | exact bI_b) dX9_isDay_15 (Ei.mk (by first | (refine bI_t ?_; simp only [Int32.lt_iff_toInt_lt, Int32.le_iff_toInt_le, ← Int32.toInt_inj, Int32.reduceToInt] at *; omega) | (refine bI_f ?_; simp only [Int32.lt_iff_toInt_lt, Int32.le_iff_toInt_le, ← Int32.toInt_inj, Int32.reduceToInt] at *; omega)) rfl)
  · skip
    refine g_iload_n (pc := 4) o dX9_isDay_4 rfl ?_
    refine g_bipush (pc := 5) o dX9_isDay_5 30 rfl ?_
    refine g_ic_ge (pc := 7) o 14 dX9_isDay_7 (by decide) (fun c7 => ?_) (fun c7 => ?_)
    · skip
      refine g_iconst (pc := 14) o dX9_isDay_14 0 rfl ?_
      exact g_zret o ρ (by first | rfl | exact bI_b) dX9_isDay_15 (Ei.mk (by first | (refine bI_t ?_; simp only [Int32.lt_iff_toInt_lt, Int32.le_iff_toInt_le, ← Int32.toInt_inj, Int32.reduceToInt] at *; omega) | (refine bI_f ?_; simp only [Int32.lt_iff_toInt_lt, Int32.le_iff_toInt_le, ← Int32.toInt_inj, Int32.reduceToInt] at *; omega)) rfl)
    · skip
      refine g_iconst (pc := 10) o dX9_isDay_10 1 rfl ?_
      refine g_goto (pc := 11) o 15 dX9_isDay_11 (by decide) ?_
      exact g_zret o ρ (by first | rfl | exact bI_b) dX9_isDay_15 (Ei.mk (by first | (refine bI_t ?_; simp only [Int32.lt_iff_toInt_lt, Int32.le_iff_toInt_le, ← Int32.toInt_inj, Int32.reduceToInt] at *; omega) | (refine bI_f ?_; simp only [Int32.lt_iff_toInt_lt, Int32.le_iff_toInt_le, ← Int32.toInt_inj, Int32.reduceToInt] at *; omega)) rfl)
set_option maxRecDepth 100000 in
set_option maxHeartbeats 4000000 in
theorem c_isSurety (x : Int32) (h : Mem) : Ct yX9_isSurety cX9_isSurety 1 (some .boolean) 0 0 [.int x] h (Ei (bI (rng x 0 4)) h) := by
  refine Ct.of (by decide) (Nat.le_of_ble_eq_true rfl) (fun Γ o ρ => ?_)
  refine g_iload_n (pc := 0) o dX9_isSurety_0 rfl ?_
  refine g_if_lt (pc := 1) o 13 dX9_isSurety_1 (by decide) (fun c1 => ?_) (fun c1 => ?_)
  · skip
    refine g_iconst (pc := 13) o dX9_isSurety_13 0 rfl ?_
    exact g_zret o ρ (by first | rfl | exact bI_b) dX9_isSurety_14 (Ei.mk (by first | (refine bI_t ?_; simp only [Int32.lt_iff_toInt_lt, Int32.le_iff_toInt_le, ← Int32.toInt_inj, Int32.reduceToInt] at *; omega) | (refine bI_f ?_; simp only [Int32.lt_iff_toInt_lt, Int32.le_iff_toInt_le, ← Int32.toInt_inj, Int32.reduceToInt] at *; omega)) rfl)
  · skip
    refine g_iload_n (pc := 4) o dX9_isSurety_4 rfl ?_
    refine g_iconst (pc := 5) o dX9_isSurety_5 5 rfl ?_
    refine g_ic_ge (pc := 6) o 13 dX9_isSurety_6 (by decide) (fun c6 => ?_) (fun c6 => ?_)
    · skip
      refine g_iconst (pc := 13) o dX9_isSurety_13 0 rfl ?_
      exact g_zret o ρ (by first | rfl | exact bI_b) dX9_isSurety_14 (Ei.mk (by first | (refine bI_t ?_; simp only [Int32.lt_iff_toInt_lt, Int32.le_iff_toInt_le, ← Int32.toInt_inj, Int32.reduceToInt] at *; omega) | (refine bI_f ?_; simp only [Int32.lt_iff_toInt_lt, Int32.le_iff_toInt_le, ← Int32.toInt_inj, Int32.reduceToInt] at *; omega)) rfl)
    · skip
      refine g_iconst (pc := 9) o dX9_isSurety_9 1 rfl ?_
      refine g_goto (pc := 10) o 14 dX9_isSurety_10 (by decide) ?_
      exact g_zret o ρ (by first | rfl | exact bI_b) dX9_isSurety_14 (Ei.mk (by first | (refine bI_t ?_; simp only [Int32.lt_iff_toInt_lt, Int32.le_iff_toInt_le, ← Int32.toInt_inj, Int32.reduceToInt] at *; omega) | (refine bI_f ?_; simp only [Int32.lt_iff_toInt_lt, Int32.le_iff_toInt_le, ← Int32.toInt_inj, Int32.reduceToInt] at *; omega)) rfl)
set_option maxRecDepth 100000 in
set_option maxHeartbeats 4000000 in
theorem c_isSpot (x : Int32) (h : Mem) : Ct yX9_isSpot cX9_isSpot 1 (some .boolean) 0 0 [.int x] h (Ei (bI (rng x 0 9)) h) := by
  refine Ct.of (by decide) (Nat.le_of_ble_eq_true rfl) (fun Γ o ρ => ?_)
  refine g_iload_n (pc := 0) o dX9_isSpot_0 rfl ?_
  refine g_if_lt (pc := 1) o 14 dX9_isSpot_1 (by decide) (fun c1 => ?_) (fun c1 => ?_)
  · skip
    refine g_iconst (pc := 14) o dX9_isSpot_14 0 rfl ?_
    exact g_zret o ρ (by first | rfl | exact bI_b) dX9_isSpot_15 (Ei.mk (by first | (refine bI_t ?_; simp only [Int32.lt_iff_toInt_lt, Int32.le_iff_toInt_le, ← Int32.toInt_inj, Int32.reduceToInt] at *; omega) | (refine bI_f ?_; simp only [Int32.lt_iff_toInt_lt, Int32.le_iff_toInt_le, ← Int32.toInt_inj, Int32.reduceToInt] at *; omega)) rfl)
  · skip
    refine g_iload_n (pc := 4) o dX9_isSpot_4 rfl ?_
    refine g_bipush (pc := 5) o dX9_isSpot_5 10 rfl ?_
    refine g_ic_ge (pc := 7) o 14 dX9_isSpot_7 (by decide) (fun c7 => ?_) (fun c7 => ?_)
    · skip
      refine g_iconst (pc := 14) o dX9_isSpot_14 0 rfl ?_
      exact g_zret o ρ (by first | rfl | exact bI_b) dX9_isSpot_15 (Ei.mk (by first | (refine bI_t ?_; simp only [Int32.lt_iff_toInt_lt, Int32.le_iff_toInt_le, ← Int32.toInt_inj, Int32.reduceToInt] at *; omega) | (refine bI_f ?_; simp only [Int32.lt_iff_toInt_lt, Int32.le_iff_toInt_le, ← Int32.toInt_inj, Int32.reduceToInt] at *; omega)) rfl)
    · skip
      refine g_iconst (pc := 10) o dX9_isSpot_10 1 rfl ?_
      refine g_goto (pc := 11) o 15 dX9_isSpot_11 (by decide) ?_
      exact g_zret o ρ (by first | rfl | exact bI_b) dX9_isSpot_15 (Ei.mk (by first | (refine bI_t ?_; simp only [Int32.lt_iff_toInt_lt, Int32.le_iff_toInt_le, ← Int32.toInt_inj, Int32.reduceToInt] at *; omega) | (refine bI_f ?_; simp only [Int32.lt_iff_toInt_lt, Int32.le_iff_toInt_le, ← Int32.toInt_inj, Int32.reduceToInt] at *; omega)) rfl)
set_option maxRecDepth 100000 in
set_option maxHeartbeats 4000000 in
theorem c_isMoney (x : Int32) (h : Mem) : Ct yX9_isMoney cX9_isMoney 1 (some .boolean) 0 0 [.int x] h (Ei (bI (rng x 0 9999)) h) := by
  refine Ct.of (by decide) (Nat.le_of_ble_eq_true rfl) (fun Γ o ρ => ?_)
  refine g_iload_n (pc := 0) o dX9_isMoney_0 rfl ?_
  refine g_if_lt (pc := 1) o 15 dX9_isMoney_1 (by decide) (fun c1 => ?_) (fun c1 => ?_)
  · skip
    refine g_iconst (pc := 15) o dX9_isMoney_15 0 rfl ?_
    exact g_zret o ρ (by first | rfl | exact bI_b) dX9_isMoney_16 (Ei.mk (by first | (refine bI_t ?_; simp only [Int32.lt_iff_toInt_lt, Int32.le_iff_toInt_le, ← Int32.toInt_inj, Int32.reduceToInt] at *; omega) | (refine bI_f ?_; simp only [Int32.lt_iff_toInt_lt, Int32.le_iff_toInt_le, ← Int32.toInt_inj, Int32.reduceToInt] at *; omega)) rfl)
  · skip
    refine g_iload_n (pc := 4) o dX9_isMoney_4 rfl ?_
    refine g_sipush (pc := 5) o dX9_isMoney_5 9999 rfl ?_
    refine g_ic_gt (pc := 8) o 15 dX9_isMoney_8 (by decide) (fun c8 => ?_) (fun c8 => ?_)
    · skip
      refine g_iconst (pc := 15) o dX9_isMoney_15 0 rfl ?_
      exact g_zret o ρ (by first | rfl | exact bI_b) dX9_isMoney_16 (Ei.mk (by first | (refine bI_t ?_; simp only [Int32.lt_iff_toInt_lt, Int32.le_iff_toInt_le, ← Int32.toInt_inj, Int32.reduceToInt] at *; omega) | (refine bI_f ?_; simp only [Int32.lt_iff_toInt_lt, Int32.le_iff_toInt_le, ← Int32.toInt_inj, Int32.reduceToInt] at *; omega)) rfl)
    · skip
      refine g_iconst (pc := 11) o dX9_isMoney_11 1 rfl ?_
      refine g_goto (pc := 12) o 16 dX9_isMoney_12 (by decide) ?_
      exact g_zret o ρ (by first | rfl | exact bI_b) dX9_isMoney_16 (Ei.mk (by first | (refine bI_t ?_; simp only [Int32.lt_iff_toInt_lt, Int32.le_iff_toInt_le, ← Int32.toInt_inj, Int32.reduceToInt] at *; omega) | (refine bI_f ?_; simp only [Int32.lt_iff_toInt_lt, Int32.le_iff_toInt_le, ← Int32.toInt_inj, Int32.reduceToInt] at *; omega)) rfl)
set_option maxRecDepth 100000 in
set_option maxHeartbeats 4000000 in
theorem c_areRiskBounds (x y : Int32) (h : Mem) : Ct yX9_areRiskBounds cX9_areRiskBounds 2 (some .boolean) 0 0 [.int x, .int y] h (Ei (bI (rng x 0 10 ∧ rng y 1 9)) h) := by
  refine Ct.of (by decide) (Nat.le_of_ble_eq_true rfl) (fun Γ o ρ => ?_)
  refine g_iload_n (pc := 0) o dX9_areRiskBounds_0 rfl ?_
  refine g_if_lt (pc := 1) o 25 dX9_areRiskBounds_1 (by decide) (fun c1 => ?_) (fun c1 => ?_)
  · skip
    refine g_iconst (pc := 25) o dX9_areRiskBounds_25 0 rfl ?_
    exact g_zret o ρ (by first | rfl | exact bI_b) dX9_areRiskBounds_26 (Ei.mk (by first | (refine bI_t ?_; simp only [Int32.lt_iff_toInt_lt, Int32.le_iff_toInt_le, ← Int32.toInt_inj, Int32.reduceToInt] at *; omega) | (refine bI_f ?_; simp only [Int32.lt_iff_toInt_lt, Int32.le_iff_toInt_le, ← Int32.toInt_inj, Int32.reduceToInt] at *; omega)) rfl)
  · skip
    refine g_iload_n (pc := 4) o dX9_areRiskBounds_4 rfl ?_
    refine g_bipush (pc := 5) o dX9_areRiskBounds_5 10 rfl ?_
    refine g_ic_gt (pc := 7) o 25 dX9_areRiskBounds_7 (by decide) (fun c7 => ?_) (fun c7 => ?_)
    · skip
      refine g_iconst (pc := 25) o dX9_areRiskBounds_25 0 rfl ?_
      exact g_zret o ρ (by first | rfl | exact bI_b) dX9_areRiskBounds_26 (Ei.mk (by first | (refine bI_t ?_; simp only [Int32.lt_iff_toInt_lt, Int32.le_iff_toInt_le, ← Int32.toInt_inj, Int32.reduceToInt] at *; omega) | (refine bI_f ?_; simp only [Int32.lt_iff_toInt_lt, Int32.le_iff_toInt_le, ← Int32.toInt_inj, Int32.reduceToInt] at *; omega)) rfl)
    · skip
      refine g_iload_n (pc := 10) o dX9_areRiskBounds_10 rfl ?_
      refine g_iconst (pc := 11) o dX9_areRiskBounds_11 1 rfl ?_
      refine g_ic_lt (pc := 12) o 25 dX9_areRiskBounds_12 (by decide) (fun c12 => ?_) (fun c12 => ?_)
      · skip
        refine g_iconst (pc := 25) o dX9_areRiskBounds_25 0 rfl ?_
        exact g_zret o ρ (by first | rfl | exact bI_b) dX9_areRiskBounds_26 (Ei.mk (by first | (refine bI_t ?_; simp only [Int32.lt_iff_toInt_lt, Int32.le_iff_toInt_le, ← Int32.toInt_inj, Int32.reduceToInt] at *; omega) | (refine bI_f ?_; simp only [Int32.lt_iff_toInt_lt, Int32.le_iff_toInt_le, ← Int32.toInt_inj, Int32.reduceToInt] at *; omega)) rfl)
      · skip
        refine g_iload_n (pc := 15) o dX9_areRiskBounds_15 rfl ?_
        refine g_bipush (pc := 16) o dX9_areRiskBounds_16 9 rfl ?_
        refine g_ic_gt (pc := 18) o 25 dX9_areRiskBounds_18 (by decide) (fun c18 => ?_) (fun c18 => ?_)
        · skip
          refine g_iconst (pc := 25) o dX9_areRiskBounds_25 0 rfl ?_
          exact g_zret o ρ (by first | rfl | exact bI_b) dX9_areRiskBounds_26 (Ei.mk (by first | (refine bI_t ?_; simp only [Int32.lt_iff_toInt_lt, Int32.le_iff_toInt_le, ← Int32.toInt_inj, Int32.reduceToInt] at *; omega) | (refine bI_f ?_; simp only [Int32.lt_iff_toInt_lt, Int32.le_iff_toInt_le, ← Int32.toInt_inj, Int32.reduceToInt] at *; omega)) rfl)
        · skip
          refine g_iconst (pc := 21) o dX9_areRiskBounds_21 1 rfl ?_
          refine g_goto (pc := 22) o 26 dX9_areRiskBounds_22 (by decide) ?_
          exact g_zret o ρ (by first | rfl | exact bI_b) dX9_areRiskBounds_26 (Ei.mk (by first | (refine bI_t ?_; simp only [Int32.lt_iff_toInt_lt, Int32.le_iff_toInt_le, ← Int32.toInt_inj, Int32.reduceToInt] at *; omega) | (refine bI_f ?_; simp only [Int32.lt_iff_toInt_lt, Int32.le_iff_toInt_le, ← Int32.toInt_inj, Int32.reduceToInt] at *; omega)) rfl)
set_option maxRecDepth 100000 in
set_option maxHeartbeats 4000000 in
theorem c_dayOf (x : Int32) (h : Mem) : Ct yX9_dayOf cX9_dayOf 1 (some .int) 0 0 [.int x] h (Ei (x / 100) h) := by
  refine Ct.of (by decide) (Nat.le_of_ble_eq_true rfl) (fun Γ o ρ => ?_)
  refine g_iload_n (pc := 0) o dX9_dayOf_0 rfl ?_
  refine g_bipush (pc := 1) o dX9_dayOf_1 100 rfl ?_
  refine g_idiv (pc := 3) o dX9_dayOf_3 (by decide) ?_
  exact g_iret o ρ dX9_dayOf_4 (Ei.mk rfl rfl)
set_option maxRecDepth 100000 in
set_option maxHeartbeats 4000000 in
theorem c_hourOf (x : Int32) (h : Mem) : Ct yX9_hourOf cX9_hourOf 1 (some .int) 0 0 [.int x] h (Ei (jrem x 100) h) := by
  refine Ct.of (by decide) (Nat.le_of_ble_eq_true rfl) (fun Γ o ρ => ?_)
  refine g_iload_n (pc := 0) o dX9_hourOf_0 rfl ?_
  refine g_bipush (pc := 1) o dX9_hourOf_1 100 rfl ?_
  refine g_irem (pc := 3) o dX9_hourOf_3 (by decide) ?_
  exact g_iret o ρ dX9_hourOf_4 (Ei.mk rfl rfl)
set_option maxRecDepth 100000 in
set_option maxHeartbeats 4000000 in
theorem c_isKind (x : Int32) (h : Mem) : Ct yX7_isKind cX7_isKind 1 (some .boolean) 0 0 [.int x] h (Ei (bI (rng x 0 6)) h) := by
  refine Ct.of (by decide) (Nat.le_of_ble_eq_true rfl) (fun Γ o ρ => ?_)
  refine g_iload_n (pc := 0) o dX7_isKind_0 rfl ?_
  refine g_if_lt (pc := 1) o 14 dX7_isKind_1 (by decide) (fun c1 => ?_) (fun c1 => ?_)
  · skip
    refine g_iconst (pc := 14) o dX7_isKind_14 0 rfl ?_
    exact g_zret o ρ (by first | rfl | exact bI_b) dX7_isKind_15 (Ei.mk (by first | (refine bI_t ?_; simp only [Int32.lt_iff_toInt_lt, Int32.le_iff_toInt_le, ← Int32.toInt_inj, Int32.reduceToInt] at *; omega) | (refine bI_f ?_; simp only [Int32.lt_iff_toInt_lt, Int32.le_iff_toInt_le, ← Int32.toInt_inj, Int32.reduceToInt] at *; omega)) rfl)
  · skip
    refine g_iload_n (pc := 4) o dX7_isKind_4 rfl ?_
    refine g_bipush (pc := 5) o dX7_isKind_5 7 rfl ?_
    refine g_ic_ge (pc := 7) o 14 dX7_isKind_7 (by decide) (fun c7 => ?_) (fun c7 => ?_)
    · skip
      refine g_iconst (pc := 14) o dX7_isKind_14 0 rfl ?_
      exact g_zret o ρ (by first | rfl | exact bI_b) dX7_isKind_15 (Ei.mk (by first | (refine bI_t ?_; simp only [Int32.lt_iff_toInt_lt, Int32.le_iff_toInt_le, ← Int32.toInt_inj, Int32.reduceToInt] at *; omega) | (refine bI_f ?_; simp only [Int32.lt_iff_toInt_lt, Int32.le_iff_toInt_le, ← Int32.toInt_inj, Int32.reduceToInt] at *; omega)) rfl)
    · skip
      refine g_iconst (pc := 10) o dX7_isKind_10 1 rfl ?_
      refine g_goto (pc := 11) o 15 dX7_isKind_11 (by decide) ?_
      exact g_zret o ρ (by first | rfl | exact bI_b) dX7_isKind_15 (Ei.mk (by first | (refine bI_t ?_; simp only [Int32.lt_iff_toInt_lt, Int32.le_iff_toInt_le, ← Int32.toInt_inj, Int32.reduceToInt] at *; omega) | (refine bI_f ?_; simp only [Int32.lt_iff_toInt_lt, Int32.le_iff_toInt_le, ← Int32.toInt_inj, Int32.reduceToInt] at *; omega)) rfl)
set_option maxRecDepth 100000 in
set_option maxHeartbeats 4000000 in
theorem c_isSheet (x : Int32) (h : Mem) : Ct yX4_isSheet cX4_isSheet 1 (some .boolean) 0 0 [.int x] h (Ei (bI (rng x 0 3)) h) := by
  refine Ct.of (by decide) (Nat.le_of_ble_eq_true rfl) (fun Γ o ρ => ?_)
  refine g_iload_n (pc := 0) o dX4_isSheet_0 rfl ?_
  refine g_if_lt (pc := 1) o 13 dX4_isSheet_1 (by decide) (fun c1 => ?_) (fun c1 => ?_)
  · skip
    refine g_iconst (pc := 13) o dX4_isSheet_13 0 rfl ?_
    exact g_zret o ρ (by first | rfl | exact bI_b) dX4_isSheet_14 (Ei.mk (by first | (refine bI_t ?_; simp only [Int32.lt_iff_toInt_lt, Int32.le_iff_toInt_le, ← Int32.toInt_inj, Int32.reduceToInt] at *; omega) | (refine bI_f ?_; simp only [Int32.lt_iff_toInt_lt, Int32.le_iff_toInt_le, ← Int32.toInt_inj, Int32.reduceToInt] at *; omega)) rfl)
  · skip
    refine g_iload_n (pc := 4) o dX4_isSheet_4 rfl ?_
    refine g_iconst (pc := 5) o dX4_isSheet_5 4 rfl ?_
    refine g_ic_ge (pc := 6) o 13 dX4_isSheet_6 (by decide) (fun c6 => ?_) (fun c6 => ?_)
    · skip
      refine g_iconst (pc := 13) o dX4_isSheet_13 0 rfl ?_
      exact g_zret o ρ (by first | rfl | exact bI_b) dX4_isSheet_14 (Ei.mk (by first | (refine bI_t ?_; simp only [Int32.lt_iff_toInt_lt, Int32.le_iff_toInt_le, ← Int32.toInt_inj, Int32.reduceToInt] at *; omega) | (refine bI_f ?_; simp only [Int32.lt_iff_toInt_lt, Int32.le_iff_toInt_le, ← Int32.toInt_inj, Int32.reduceToInt] at *; omega)) rfl)
    · skip
      refine g_iconst (pc := 9) o dX4_isSheet_9 1 rfl ?_
      refine g_goto (pc := 10) o 14 dX4_isSheet_10 (by decide) ?_
      exact g_zret o ρ (by first | rfl | exact bI_b) dX4_isSheet_14 (Ei.mk (by first | (refine bI_t ?_; simp only [Int32.lt_iff_toInt_lt, Int32.le_iff_toInt_le, ← Int32.toInt_inj, Int32.reduceToInt] at *; omega) | (refine bI_f ?_; simp only [Int32.lt_iff_toInt_lt, Int32.le_iff_toInt_le, ← Int32.toInt_inj, Int32.reduceToInt] at *; omega)) rfl)
set_option maxRecDepth 100000 in
set_option maxHeartbeats 4000000 in
theorem c_areBits (x : Int32) (h : Mem) : Ct yX4_areBits cX4_areBits 1 (some .boolean) 0 0 [.int x] h (Ei (bI (x = 0 ∨ x = 8 ∨ x = 16 ∨ x = 32)) h) := by
  refine Ct.of (by decide) (Nat.le_of_ble_eq_true rfl) (fun Γ o ρ => ?_)
  refine g_iload_n (pc := 0) o dX4_areBits_0 rfl ?_
  refine g_if_eq (pc := 1) o 22 dX4_areBits_1 (by decide) (fun c1 => ?_) (fun c1 => ?_)
  · skip
    refine g_iconst (pc := 22) o dX4_areBits_22 1 rfl ?_
    refine g_goto (pc := 23) o 27 dX4_areBits_23 (by decide) ?_
    exact g_zret o ρ (by first | rfl | exact bI_b) dX4_areBits_27 (Ei.mk (by first | (exact bI_t (by simp_all)) | (exact bI_f (by simp_all))) rfl)
  · skip
    refine g_iload_n (pc := 4) o dX4_areBits_4 rfl ?_
    refine g_bipush (pc := 5) o dX4_areBits_5 8 rfl ?_
    refine g_ic_eq (pc := 7) o 22 dX4_areBits_7 (by decide) (fun c7 => ?_) (fun c7 => ?_)
    · skip
      refine g_iconst (pc := 22) o dX4_areBits_22 1 rfl ?_
      refine g_goto (pc := 23) o 27 dX4_areBits_23 (by decide) ?_
      exact g_zret o ρ (by first | rfl | exact bI_b) dX4_areBits_27 (Ei.mk (by first | (exact bI_t (by simp_all)) | (exact bI_f (by simp_all))) rfl)
    · skip
      refine g_iload_n (pc := 10) o dX4_areBits_10 rfl ?_
      refine g_bipush (pc := 11) o dX4_areBits_11 16 rfl ?_
      refine g_ic_eq (pc := 13) o 22 dX4_areBits_13 (by decide) (fun c13 => ?_) (fun c13 => ?_)
      · skip
        refine g_iconst (pc := 22) o dX4_areBits_22 1 rfl ?_
        refine g_goto (pc := 23) o 27 dX4_areBits_23 (by decide) ?_
        exact g_zret o ρ (by first | rfl | exact bI_b) dX4_areBits_27 (Ei.mk (by first | (exact bI_t (by simp_all)) | (exact bI_f (by simp_all))) rfl)
      · skip
        refine g_iload_n (pc := 16) o dX4_areBits_16 rfl ?_
        refine g_bipush (pc := 17) o dX4_areBits_17 32 rfl ?_
        refine g_ic_ne (pc := 19) o 26 dX4_areBits_19 (by decide) (fun c19 => ?_) (fun c19 => ?_)
        · skip
          refine g_iconst (pc := 26) o dX4_areBits_26 0 rfl ?_
          exact g_zret o ρ (by first | rfl | exact bI_b) dX4_areBits_27 (Ei.mk (by first | (exact bI_t (by simp_all)) | (exact bI_f (by simp_all))) rfl)
        · skip
          refine g_iconst (pc := 22) o dX4_areBits_22 1 rfl ?_
          refine g_goto (pc := 23) o 27 dX4_areBits_23 (by decide) ?_
          exact g_zret o ρ (by first | rfl | exact bI_b) dX4_areBits_27 (Ei.mk (by first | (exact bI_t (by simp_all)) | (exact bI_f (by simp_all))) rfl)
/-! ===== ReleaseTermsModel: the static helpers ===== -/
set_option maxRecDepth 100000 in
set_option maxHeartbeats 4000000 in
theorem m_in (a b c : Int64) (h : Mem) : Ct yX10_in cX10_in 6 (some .boolean) 0 0 [.long a, .long b, .long c] h (Ei (bI (b ≤ a ∧ a ≤ c)) h) := by
  refine Ct.of (by decide) (Nat.le_of_ble_eq_true rfl) (fun Γ o ρ => ?_)
  refine g_lload_n (pc := 0) o dX10_in_0 rfl ?_
  refine g_lload_n (pc := 1) o dX10_in_1 rfl ?_
  refine g_lcmp (pc := 2) o dX10_in_2 ?_
  refine g_if_lt (pc := 3) o 17 dX10_in_3 (by decide) (fun c3 => ?_) (fun c3 => ?_)
  · skip
    refine g_iconst (pc := 17) o dX10_in_17 0 rfl ?_
    exact g_zret o ρ (by first | rfl | exact bI_b) dX10_in_18 (Ei.mk (by rw [lg_cmp_lt] at c3; first | (rw [lg_cmp_gt] at c10; first | (exact bI_t ⟨Int64.not_lt.mp c3, Int64.not_lt.mp c10⟩) | (exact bI_f (fun z => (Int64.not_le.mpr c10) z.2))) | (exact bI_f (fun z => (Int64.not_le.mpr c3) z.1))) rfl)
  · skip
    refine g_lload_n (pc := 6) o dX10_in_6 rfl ?_
    refine g_lload (pc := 7) o dX10_in_7 rfl ?_
    refine g_lcmp (pc := 9) o dX10_in_9 ?_
    refine g_if_gt (pc := 10) o 17 dX10_in_10 (by decide) (fun c10 => ?_) (fun c10 => ?_)
    · skip
      refine g_iconst (pc := 17) o dX10_in_17 0 rfl ?_
      exact g_zret o ρ (by first | rfl | exact bI_b) dX10_in_18 (Ei.mk (by rw [lg_cmp_lt] at c3; first | (rw [lg_cmp_gt] at c10; first | (exact bI_t ⟨Int64.not_lt.mp c3, Int64.not_lt.mp c10⟩) | (exact bI_f (fun z => (Int64.not_le.mpr c10) z.2))) | (exact bI_f (fun z => (Int64.not_le.mpr c3) z.1))) rfl)
    · skip
      refine g_iconst (pc := 13) o dX10_in_13 1 rfl ?_
      refine g_goto (pc := 14) o 18 dX10_in_14 (by decide) ?_
      exact g_zret o ρ (by first | rfl | exact bI_b) dX10_in_18 (Ei.mk (by rw [lg_cmp_lt] at c3; first | (rw [lg_cmp_gt] at c10; first | (exact bI_t ⟨Int64.not_lt.mp c3, Int64.not_lt.mp c10⟩) | (exact bI_f (fun z => (Int64.not_le.mpr c10) z.2))) | (exact bI_f (fun z => (Int64.not_le.mpr c3) z.1))) rfl)
theorem in_rng (x : Int32) (a b : Int64) (ha : -2 ^ 31 ≤ a.toInt) : (bI (a ≤ x.toInt64 ∧ x.toInt64 ≤ b)) = bI (rng x a.toInt b.toInt) := by
  unfold bI rng
  simp only [Int64.le_iff_toInt_le, Int32.toInt_toInt64]
set_option maxRecDepth 100000 in
set_option maxHeartbeats 4000000 in
theorem m_has (x : Int32) (k : Nat) (hk : k < 32) (h : Mem) : Ct yX10_has cX10_has 2 (some .boolean) 0 0 [.int x, .int (nI k)] h (Ei (bI (bt x k = true)) h) := by
  refine Ct.of (by decide) (Nat.le_of_ble_eq_true rfl) (fun Γ o ρ => ?_)
  refine g_iload_n (pc := 0) o dX10_has_0 rfl ?_
  refine g_iload_n (pc := 1) o dX10_has_1 rfl ?_
  refine g_ishr (pc := 2) o dX10_has_2 ?_
  refine g_iconst (pc := 3) o dX10_has_3 1 rfl ?_
  refine g_iand (pc := 4) o dX10_has_4 ?_
  refine g_iconst (pc := 5) o dX10_has_5 1 rfl ?_
  refine g_ic_ne (pc := 6) o 13 dX10_has_6 (by decide) (fun c6 => ?_) (fun c6 => ?_)
  · skip
    rw [has_s x hk] at c6
    refine g_iconst (pc := 13) o dX10_has_13 0 rfl ?_
    exact g_zret o ρ (by first | rfl | exact bI_b) dX10_has_14 (Ei.mk (bI_f (by intro z; rw [show bI (bt x k = true) = 1 from (bI_t z).symm] at c6; exact c6 rfl)) rfl)
  · skip
    rw [has_s x hk] at c6
    refine g_iconst (pc := 9) o dX10_has_9 1 rfl ?_
    refine g_goto (pc := 10) o 14 dX10_has_10 (by decide) ?_
    exact g_zret o ρ (by first | rfl | exact bI_b) dX10_has_14 (Ei.mk (by rw [c6]) rfl)
set_option maxRecDepth 100000 in
set_option maxHeartbeats 4000000 in
theorem m_isPerson (x : Int32) (h : Mem) : Ct yX10_isPerson cX10_isPerson 1 (some .boolean) 1 25 [.int x] h (Ei (bI (rng x 0 5)) h) := by
  refine Ct.of (by decide) (Nat.le_of_ble_eq_true rfl) (fun Γ o ρ => ?_)
  refine g_iload_n (pc := 0) o dX10_isPerson_0 rfl ?_
  refine g_i2l (pc := 1) o dX10_isPerson_1 ?_
  refine g_lconst (pc := 2) o dX10_isPerson_2 0 rfl ?_
  refine g_ldc2 (pc := 3) o dX10_isPerson_3 lc_X10_69 ?_
  refine g_callSi (pc := 6) o (m_in x.toInt64 0 5 h) mt_X10_in ms_X10_in lk_X10_71 rfl (by decide) rfl (Nat.le_of_ble_eq_true rfl) dX10_isPerson_6 ?_
  exact g_zret o ρ (by first | rfl | exact bI_b) dX10_isPerson_9 (Ei.mk (in_rng x 0 5 (by decide)) rfl)
set_option maxRecDepth 100000 in
set_option maxHeartbeats 4000000 in
theorem m_isPlace (x : Int32) (h : Mem) : Ct yX10_isPlace cX10_isPlace 1 (some .boolean) 1 25 [.int x] h (Ei (bI (rng x 0 7)) h) := by
  refine Ct.of (by decide) (Nat.le_of_ble_eq_true rfl) (fun Γ o ρ => ?_)
  refine g_iload_n (pc := 0) o dX10_isPlace_0 rfl ?_
  refine g_i2l (pc := 1) o dX10_isPlace_1 ?_
  refine g_lconst (pc := 2) o dX10_isPlace_2 0 rfl ?_
  refine g_ldc2 (pc := 3) o dX10_isPlace_3 lc_X10_75 ?_
  refine g_callSi (pc := 6) o (m_in x.toInt64 0 7 h) mt_X10_in ms_X10_in lk_X10_71 rfl (by decide) rfl (Nat.le_of_ble_eq_true rfl) dX10_isPlace_6 ?_
  exact g_zret o ρ (by first | rfl | exact bI_b) dX10_isPlace_9 (Ei.mk (in_rng x 0 7 (by decide)) rfl)
set_option maxRecDepth 100000 in
set_option maxHeartbeats 4000000 in
theorem m_isDay (x : Int32) (h : Mem) : Ct yX10_isDay cX10_isDay 1 (some .boolean) 1 25 [.int x] h (Ei (bI (rng x 0 29)) h) := by
  refine Ct.of (by decide) (Nat.le_of_ble_eq_true rfl) (fun Γ o ρ => ?_)
  refine g_iload_n (pc := 0) o dX10_isDay_0 rfl ?_
  refine g_i2l (pc := 1) o dX10_isDay_1 ?_
  refine g_lconst (pc := 2) o dX10_isDay_2 0 rfl ?_
  refine g_ldc2 (pc := 3) o dX10_isDay_3 lc_X10_77 ?_
  refine g_callSi (pc := 6) o (m_in x.toInt64 0 29 h) mt_X10_in ms_X10_in lk_X10_71 rfl (by decide) rfl (Nat.le_of_ble_eq_true rfl) dX10_isDay_6 ?_
  exact g_zret o ρ (by first | rfl | exact bI_b) dX10_isDay_9 (Ei.mk (in_rng x 0 29 (by decide)) rfl)
set_option maxRecDepth 100000 in
set_option maxHeartbeats 4000000 in
theorem m_isOne (x : Int32) (h : Mem) : Ct yX10_isOne cX10_isOne 1 (some .boolean) 1 25 [.int x] h (Ei (bI (rng x 0 3)) h) := by
  refine Ct.of (by decide) (Nat.le_of_ble_eq_true rfl) (fun Γ o ρ => ?_)
  refine g_iload_n (pc := 0) o dX10_isOne_0 rfl ?_
  refine g_i2l (pc := 1) o dX10_isOne_1 ?_
  refine g_lconst (pc := 2) o dX10_isOne_2 0 rfl ?_
  refine g_ldc2 (pc := 3) o dX10_isOne_3 lc_X10_173 ?_
  refine g_callSi (pc := 6) o (m_in x.toInt64 0 3 h) mt_X10_in ms_X10_in lk_X10_71 rfl (by decide) rfl (Nat.le_of_ble_eq_true rfl) dX10_isOne_6 ?_
  exact g_zret o ρ (by first | rfl | exact bI_b) dX10_isOne_9 (Ei.mk (in_rng x 0 3 (by decide)) rfl)
set_option maxRecDepth 100000 in
set_option maxHeartbeats 4000000 in
theorem m_isLetter (x : Int32) (h : Mem) : Ct yX10_isLetter cX10_isLetter 1 (some .boolean) 1 25 [.int x] h (Ei (bI (rng x 97 122)) h) := by
  refine Ct.of (by decide) (Nat.le_of_ble_eq_true rfl) (fun Γ o ρ => ?_)
  refine g_iload_n (pc := 0) o dX10_isLetter_0 rfl ?_
  refine g_i2l (pc := 1) o dX10_isLetter_1 ?_
  refine g_ldc2 (pc := 2) o dX10_isLetter_2 lc_X10_238 ?_
  refine g_ldc2 (pc := 5) o dX10_isLetter_5 lc_X10_240 ?_
  refine g_callSi (pc := 8) o (m_in x.toInt64 97 122 h) mt_X10_in ms_X10_in lk_X10_71 rfl (by decide) rfl (Nat.le_of_ble_eq_true rfl) dX10_isLetter_8 ?_
  exact g_zret o ρ (by first | rfl | exact bI_b) dX10_isLetter_11 (Ei.mk (in_rng x 97 122 (by decide)) rfl)
set_option maxRecDepth 100000 in
set_option maxHeartbeats 4000000 in
theorem m_isDigit (x : Int32) (h : Mem) : Ct yX10_isDigit cX10_isDigit 1 (some .boolean) 1 25 [.int x] h (Ei (bI (rng x 48 57)) h) := by
  refine Ct.of (by decide) (Nat.le_of_ble_eq_true rfl) (fun Γ o ρ => ?_)
  refine g_iload_n (pc := 0) o dX10_isDigit_0 rfl ?_
  refine g_i2l (pc := 1) o dX10_isDigit_1 ?_
  refine g_ldc2 (pc := 2) o dX10_isDigit_2 lc_X10_242 ?_
  refine g_ldc2 (pc := 5) o dX10_isDigit_5 lc_X10_244 ?_
  refine g_callSi (pc := 8) o (m_in x.toInt64 48 57 h) mt_X10_in ms_X10_in lk_X10_71 rfl (by decide) rfl (Nat.le_of_ble_eq_true rfl) dX10_isDigit_8 ?_
  exact g_zret o ρ (by first | rfl | exact bI_b) dX10_isDigit_11 (Ei.mk (in_rng x 48 57 (by decide)) rfl)
/-! ===== findings ===== -/
set_option maxRecDepth 100000 in
set_option maxHeartbeats 4000000 in
theorem c_finding (k : Nat) (hk : k < 7) (h : Mem) : Ct yX9_finding cX9_finding 2 (some .int) 0 0 [.ref 0, .int (nI k)] h (Ei (-1000001 - nI k) (mw h 29 k (h.1 29 k + 1))) := by
  refine Ct.of (by decide) (Nat.le_of_ble_eq_true rfl) (fun Γ o ρ => ?_)
  refine g_aload_n (pc := 0) o dX9_finding_0 rfl ?_
  refine g_getR (pc := 1) o 3 rfl rfl rfl inX9 (by decide) lf_X9_19 dX9_finding_1 ?_
  refine g_iload_n (pc := 4) o dX9_finding_4 rfl ?_
  refine g_dup2 (pc := 5) o dX9_finding_5 rfl rfl ?_
  refine n_iald (pc := 6) o k (rfl) rfl (by omega) (by decide) dX9_finding_6 ?_
  refine g_iconst (pc := 7) o dX9_finding_7 1 rfl ?_
  refine g_iadd (pc := 8) o dX9_finding_8 ?_
  refine n_iast (pc := 9) o k (rfl) rfl (by omega) (by decide) dX9_finding_9 ?_
  refine g_ldcw (pc := 10) o dX9_finding_10 lc_X9_357 ?_
  refine g_iload_n (pc := 13) o dX9_finding_13 rfl ?_
  refine g_isub (pc := 14) o dX9_finding_14 ?_
  exact g_iret o ρ dX9_finding_15 (Ei.mk rfl rfl)
set_option maxRecDepth 100000 in
set_option maxHeartbeats 4000000 in
theorem m_finds (k : Nat) (hk : k < 7) (h : Mem) : Ct yX10_finds cX10_finds 2 (some .int) 0 0 [.ref 51, .int (-1000001 - nI k)] h (Ei (-1000001 - nI k) (mw h 55 k (h.1 55 k + 1))) := by
  refine Ct.of (by decide) (Nat.le_of_ble_eq_true rfl) (fun Γ o ρ => ?_)
  have e : (-1000001 : Int32) - (-1000001 - nI k) = nI k := by
    have : ∀ k, k < 7 → (-1000001 : Int32) - (-1000001 - nI k) = nI k := by decide +kernel
    exact this k hk
  refine g_aload_n (pc := 0) o dX10_finds_0 rfl ?_
  refine g_getR (pc := 1) o 3 rfl rfl rfl inX10 (by decide) lf_X10_19 dX10_finds_1 ?_
  refine g_ldc (pc := 4) o dX10_finds_4 lc_X10_68 ?_
  refine g_iload_n (pc := 6) o dX10_finds_6 rfl ?_
  refine g_isub (pc := 7) o dX10_finds_7 ?_
  refine g_dup2 (pc := 8) o dX10_finds_8 rfl rfl ?_
  refine n_iald (pc := 9) o k (e) rfl (by omega) (by decide) dX10_finds_9 ?_
  refine g_iconst (pc := 10) o dX10_finds_10 1 rfl ?_
  refine g_iadd (pc := 11) o dX10_finds_11 ?_
  refine n_iast (pc := 12) o k (e) rfl (by omega) (by decide) dX10_finds_12 ?_
  refine g_iload_n (pc := 13) o dX10_finds_13 rfl ?_
  exact g_iret o ρ dX10_finds_14 (Ei.mk rfl rfl)

