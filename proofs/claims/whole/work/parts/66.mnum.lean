/-! ===== the model's reader: numbers, kinds, spans ===== -/
set_option maxRecDepth 100000 in
set_option maxHeartbeats 400000 in
theorem m_isWordX {h : Mem} (e24 : h.1 51 24 = 1) (a b c d e g i : Int32) : Ct yX10_isWord cX10_isWord 9 (some .boolean) 2 43 [.ref 51, .int a, .int b, .int c, .int d, .int e, .int g, .int i] h (Ei 0 h) := by
  refine Ct.of (by decide) (Nat.le_of_ble_eq_true rfl) (fun Γ o ρ => ?_)
  show ca_G Γ 9 _ _ [_, _, _, _, _, _, _, _, _] _
  have st47 : ∀ (x : Int32), ca_G Γ 9 h 47 [some (.ref 51), some (.int a), some (.int b), some (.int c), some (.int d), some (.int e), some (.int g), some (.int i), none] [.int x] := by
    intro x
    refine g_istore (pc := 47) o dX10_isWord_47 (by decide) ?_
    show ca_G Γ 9 _ _ [_, _, _, _, _, _, _, _, _] _
    refine g_aload_n (pc := 49) o dX10_isWord_49 rfl ?_
    refine g_getIE (pc := 50) o 24 rfl rfl rfl inX10 (by decide) lf_X10_261 (e24) dX10_isWord_50 ?_
    refine g_if_ne (pc := 53) o 142 dX10_isWord_53 (by decide) (fun c53 => ?_) (fun c53 => ?_)
    · skip
      refine g_iconst (pc := 142) o dX10_isWord_142 0 rfl ?_
      exact g_zret o ρ (by first | rfl | exact bI_b) dX10_isWord_143 (Ei.mk rfl rfl)
    · skip
      exact absurd c53 (by decide)
  refine g_iload_n (pc := 0) o dX10_isWord_0 rfl ?_
  refine g_if_ne (pc := 1) o 8 dX10_isWord_1 (by decide) (fun c1 => ?_) (fun c1 => ?_)
  · skip
    refine g_iload (pc := 8) o dX10_isWord_8 rfl ?_
    refine g_if_ne (pc := 10) o 17 dX10_isWord_10 (by decide) (fun c10 => ?_) (fun c10 => ?_)
    · skip
      refine g_iload (pc := 17) o dX10_isWord_17 rfl ?_
      refine g_if_ne (pc := 19) o 26 dX10_isWord_19 (by decide) (fun c19 => ?_) (fun c19 => ?_)
      · skip
        refine g_iload (pc := 26) o dX10_isWord_26 rfl ?_
        refine g_if_ne (pc := 28) o 35 dX10_isWord_28 (by decide) (fun c28 => ?_) (fun c28 => ?_)
        · skip
          refine g_iload (pc := 35) o dX10_isWord_35 rfl ?_
          refine g_if_ne (pc := 37) o 45 dX10_isWord_37 (by decide) (fun c37 => ?_) (fun c37 => ?_)
          · skip
            refine g_bipush (pc := 45) o dX10_isWord_45 7 rfl ?_
            exact st47 _
          · skip
            refine g_bipush (pc := 40) o dX10_isWord_40 6 rfl ?_
            refine g_goto (pc := 42) o 47 dX10_isWord_42 (by decide) ?_
            exact st47 _
        · skip
          refine g_iconst (pc := 31) o dX10_isWord_31 5 rfl ?_
          refine g_goto (pc := 32) o 47 dX10_isWord_32 (by decide) ?_
          exact st47 _
      · skip
        refine g_iconst (pc := 22) o dX10_isWord_22 4 rfl ?_
        refine g_goto (pc := 23) o 47 dX10_isWord_23 (by decide) ?_
        exact st47 _
    · skip
      refine g_iconst (pc := 13) o dX10_isWord_13 3 rfl ?_
      refine g_goto (pc := 14) o 47 dX10_isWord_14 (by decide) ?_
      exact st47 _
  · skip
    refine g_iconst (pc := 4) o dX10_isWord_4 2 rfl ?_
    refine g_goto (pc := 5) o 47 dX10_isWord_5 (by decide) ?_
    exact st47 _
theorem rn_all {f : Nat → Int32} {n x : Nat} : ∀ k i j, i ≤ j → j < rnF f n x k i → srF f n j = x
  | 0, i, j, h1, h2 => by
    have h2 : j < i := h2
    omega
  | k + 1, i, j, h1, h2 => by
    rw [rnF_s] at h2
    split at h2
    · rename_i z
      by_cases w : j = i
      · rw [w]; exact z
      · exact rn_all k (i + 1) j (by omega) h2
    · omega
theorem te_all {f : Nat → Int32} {n : Nat} {t : Nat × Nat} (R : tkR f n t) (lg : lgF f n t.1) {j : Nat} (h1 : t.1 ≤ j) (h2 : j < t.2) : srF f n j = srF f n t.1 := by
  rw [R.2] at h2
  have lt := sr_pos (f := f) (n := n) (b := t.1) (by rcases lg with y | y <;> rw [y] <;> decide)
  unfold teF at h2
  rw [if_pos lt, if_pos lg] at h2
  by_cases w : j = t.1
  · rw [w]
  · exact rn_all _ _ j (by omega) h2
def nvI (f : Nat → Int32) (b : Nat) : Nat → Int32
  | 0 => 0
  | k + 1 => if nvI f b k ≤ 9999 then 10 * nvI f b k + f (b + k) - 48 else nvI f b k
theorem nvI_s (f : Nat → Int32) (b k : Nat) : nvI f b (k + 1) = if nvI f b k ≤ 9999 then 10 * nvI f b k + f (b + k) - 48 else nvI f b k := rfl
theorem nv_d {f : Nat → Int32} {n b : Nat} : ∀ k, (∀ j, j < k → srF f n (b + j) = 2) → nvI f b k = nI (nvF f b k) ∧ nvF f b k ≤ 99999
  | 0, _ => ⟨rfl, Nat.zero_le _⟩
  | k + 1, h => by
    obtain ⟨a, l⟩ := nv_d (f := f) (n := n) (b := b) k (fun j hj => h j (by omega))
    obtain ⟨_, rg⟩ := sr_2 (h k (by omega))
    obtain ⟨c, c1, c2, ec⟩ := dig_of rg
    rw [nvI_s, nvF_s, a, ec, show ca_n (nI c) = c from nI_clamp (by omega)]
    by_cases w : 9999 < nvF f b k
    · rw [if_neg (fun y => by have := (nI_leI (a := nvF f b k) (b := 9999) (by omega) (by decide)).mp y; omega), if_pos w]
      exact ⟨rfl, l⟩
    · rw [if_pos (show nI (nvF f b k) ≤ 9999 from (nI_leI (a := nvF f b k) (b := 9999) (by omega) (by decide)).mpr (by omega)), if_neg w]
      refine ⟨?_, by omega⟩
      rw [show (10 : Int32) = nI 10 from rfl, show (48 : Int32) = nI 48 from rfl, pk_mul, nI_add, pk_sub (by omega)]
      congr 1
      omega
theorem va_d {f : Nat → Int32} {n : Nat} {t : Nat × Nat} (R : tkR f n t) (s2 : srF f n t.1 = 2) : nvI f t.1 (t.2 - t.1) = nI (vaF f t) ∧ vaF f t ≤ 99999 := nv_d _ (fun j hj => (te_all R (Or.inr s2) (by omega) (by have := R.1; omega)).trans s2)
theorem bI_2 (f : Nat → Int32) (n b : Nat) : bI (rng (bA f n b) 48 57) = bI (srF f n b = 2) := by
  unfold bI
  by_cases y : srF f n b = 2
  · rw [if_pos y, if_pos ((bA_2 f n b).mpr y)]
  · rw [if_neg y, if_neg (mt (bA_2 f n b).mp y)]
/-- how a number is taken -/
def nuP (h h2 : Mem) (f : Nat → Int32) (n : Nat) (t : Nat × Nat) (lo hi : Nat) : Prop := offT h h2 ∧ ((∃ v, pNum f n t lo hi = some v ∧ h2.1 51 23 = nI v ∧ MT h2 (nxF f n t) ∧ h2.1 51 24 = 0) ∨ (pNum f n t lo hi = none ∧ h2.1 51 24 = 1 ∧ MT h2 t))
set_option maxRecDepth 100000 in
set_option maxHeartbeats 800000 in
theorem lp_num {Γ : Fr} (o : ca_O Γ cX10_number 6 RX10 4 88) {h : Mem} {f : Nat → Int32} {n : Nat} (M : MP h f n) {t : Nat × Nat} (R : MT h t) (ok : tkR f n t) (x1 x2 : Int32) (kk : ∀ (v : Int32) (v5 : Option Value), (srF f n t.1 = 2 → v = nvI f t.1 (t.2 - t.1)) → ca_G Γ 6 h 79 [some (.ref 51), some (.int x1), some (.int x2), some (.int (bI (srF f n t.1 = 2))), some (.int v), v5] []) : ∀ k, k ≤ t.2 → t.1 ≤ k → ∀ (xk y : Int32), xk = nI k → y = nvI f t.1 (k - t.1) → ca_G Γ 6 h 29 [some (.ref 51), some (.int x1), some (.int x2), some (.int (bI (srF f n t.1 = 2))), some (.int y), some (.int xk)] [] := by
  have l := M.2.1
  have ol := ok.1
  refine downI t.2 (fun k hk ih => ?_)
  rintro bk xk y rfl rfl
  refine g_iload (pc := 29) o dX10_number_29 rfl ?_
  refine g_aload_n (pc := 31) o dX10_number_31 rfl ?_
  refine g_getIE (pc := 32) o 22 rfl rfl rfl inX10 (by decide) lf_X10_246 (R.2) dX10_number_32 ?_
  refine g_ic_ge (pc := 35) o 79 dX10_number_35 (by decide) (fun c35 => ?_) (fun c35 => ?_)
  · skip
    have z : k = t.2 := ge8 (n := t.2) (by omega) (by omega) c35
    subst z
    exact kk _ _ (fun _ => rfl)
  · skip
    have z : k < t.2 := lt8 (n := t.2) (by omega) (by omega) c35
    have e66 : h.1 66 k = f k := by rw [M.2.2]
    refine g_iload_n (pc := 38) o dX10_number_38 rfl ?_
    refine g_if_eq (pc := 39) o 79 dX10_number_39 (by decide) (fun c39 => ?_) (fun c39 => ?_)
    · skip
      have u := bI_0.mp c39
      exact kk _ _ (fun w => absurd w u)
    · skip
      refine g_iload (pc := 42) o dX10_number_42 rfl ?_
      refine g_sipush (pc := 44) o dX10_number_44 9999 rfl ?_
      refine g_ic_le (pc := 47) o 55 dX10_number_47 (by decide) (fun c47 => ?_) (fun c47 => ?_)
      · skip
        refine g_bipush (pc := 55) o dX10_number_55 10 rfl ?_
        refine g_iload (pc := 57) o dX10_number_57 rfl ?_
        refine g_imul (pc := 59) o dX10_number_59 ?_
        refine g_aload_n (pc := 60) o dX10_number_60 rfl ?_
        refine g_getR (pc := 61) o 19 rfl rfl rfl inX10 (by decide) lf_X10_53 dX10_number_61 ?_
        refine g_iload (pc := 64) o dX10_number_64 rfl ?_
        refine n_ialdE (pc := 66) o k (rfl) rfl ((by omega)) (by decide) (e66) dX10_number_66 ?_
        refine g_iadd (pc := 67) o dX10_number_67 ?_
        refine g_bipush (pc := 68) o dX10_number_68 48 rfl ?_
        refine g_isub (pc := 70) o dX10_number_70 ?_
        refine g_istore (pc := 71) o dX10_number_71 (by decide) ?_
        show ca_G Γ 6 _ _ [_, _, _, _, _, _] _
        refine g_iinc (pc := 73) o dX10_number_73 rfl 1 rfl (by decide) ?_
        show ca_G Γ 6 _ _ [_, _, _, _, _, _] _
        refine g_goto (pc := 76) o 29 dX10_number_76 (by decide) ?_
        exact ih z (by omega) _ _ (nI_1 k) (by rw [show k + 1 - t.1 = (k - t.1) + 1 by omega, nvI_s, if_pos c47, show t.1 + (k - t.1) = k by omega])
      · skip
        refine g_iload (pc := 50) o dX10_number_50 rfl ?_
        refine g_goto (pc := 52) o 71 dX10_number_52 (by decide) ?_
        refine g_istore (pc := 71) o dX10_number_71 (by decide) ?_
        show ca_G Γ 6 _ _ [_, _, _, _, _, _] _
        refine g_iinc (pc := 73) o dX10_number_73 rfl 1 rfl (by decide) ?_
        show ca_G Γ 6 _ _ [_, _, _, _, _, _] _
        refine g_goto (pc := 76) o 29 dX10_number_76 (by decide) ?_
        exact ih z (by omega) _ _ (nI_1 k) (by rw [show k + 1 - t.1 = (k - t.1) + 1 by omega, nvI_s, if_neg c47])
set_option maxRecDepth 100000 in
set_option maxHeartbeats 400000 in
theorem m_number {h : Mem} {f : Nat → Int32} {n : Nat} (M : MP h f n) {t : Nat × Nat} (R : MT h t) (ok : tkR f n t) (e24 : h.1 51 24 = 0) (lo hi : Nat) (hl : lo ≤ 9999) (hh : hi ≤ 9999) : Ct yX10_number cX10_number 6 none 4 88 [.ref 51, .int (nI lo), .int (nI hi)] h (Qv (fun h2 => nuP h h2 f n t lo hi)) := by
  refine Ct.of (by decide) (Nat.le_of_ble_eq_true rfl) (fun Γ o ρ => ?_)
  show ca_G Γ 6 _ _ [_, _, _, _, _, _] _
  have l := M.2.1
  have ol := ok.1
  have md := m_isDigit (bA f n t.1) h
  rw [bI_2] at md
  refine g_aload_n (pc := 0) o dX10_number_0 rfl ?_
  refine g_getIE (pc := 1) o 24 rfl rfl rfl inX10 (by decide) lf_X10_261 (e24) dX10_number_1 ?_
  refine g_if_eq (pc := 4) o 8 dX10_number_4 (by decide) (fun c4 => ?_) (fun c4 => ?_)
  · skip
    refine g_aload_n (pc := 8) o dX10_number_8 rfl ?_
    refine g_aload_n (pc := 9) o dX10_number_9 rfl ?_
    refine g_getIE (pc := 10) o 21 rfl rfl rfl inX10 (by decide) lf_X10_249 (R.1) dX10_number_10 ?_
    refine g_callVi (pc := 13) o (m_byteAt M t.1 (by omega)) mt_X10_byteAt mv_X10_byteAt lk_X10_252 rfl rfl rfl (by decide) rfl (Nat.le_of_ble_eq_true rfl) dX10_number_13 ?_
    refine g_callSi (pc := 16) o (md) mt_X10_isDigit ms_X10_isDigit lk_X10_258 rfl (by decide) rfl (Nat.le_of_ble_eq_true rfl) dX10_number_16 ?_
    refine g_istore_n (pc := 19) o dX10_number_19 (by decide) ?_
    show ca_G Γ 6 _ _ [_, _, _, _, _, _] _
    refine g_iconst (pc := 20) o dX10_number_20 0 rfl ?_
    refine g_istore (pc := 21) o dX10_number_21 (by decide) ?_
    show ca_G Γ 6 _ _ [_, _, _, _, _, _] _
    refine g_aload_n (pc := 23) o dX10_number_23 rfl ?_
    refine g_getIE (pc := 24) o 21 rfl rfl rfl inX10 (by decide) lf_X10_249 (R.1) dX10_number_24 ?_
    refine g_istore (pc := 27) o dX10_number_27 (by decide) ?_
    show ca_G Γ 6 _ _ [_, _, _, _, _, _] _
    refine lp_num o M R ok _ _ (fun v v5 hv => ?_) t.1 ol.1 (Nat.le_refl _) _ _ rfl (by rw [Nat.sub_self]; rfl)
    have O1 : offT h (mw h 51 23 v) := (offT.rf h).w (by decide)
    have M1 := M.of O1
    have R1 : MT (mw h 51 23 v) t := R
    have e24b : (mw h 51 23 v).1 51 24 = 0 := e24
    have bad : ¬ (srF f n t.1 = 2 ∧ lo ≤ vaF f t ∧ vaF f t ≤ hi) → ca_G Γ 6 (mw h 51 23 v) 107 [some (.ref 51), some (.int (nI lo)), some (.int (nI hi)), some (.int (bI (srF f n t.1 = 2))), some (.int v), v5] [.ref 51] := by
      intro nb
      refine g_iconst (pc := 107) o dX10_number_107 0 rfl ?_
      refine g_callVv (pc := 108) o (m_needs0 e24b) mt_X10_needs mv_X10_needs lk_X10_273 rfl rfl rfl (by decide) rfl (Nat.le_of_ble_eq_true rfl) dX10_number_108 ?_
      exact g_vret o ρ dX10_number_111 ⟨rfl, O1.w (by decide), Or.inr ⟨if_neg nb, rfl, R⟩⟩
    refine g_aload_n (pc := 79) o dX10_number_79 rfl ?_
    refine g_iload (pc := 80) o dX10_number_80 rfl ?_
    refine g_put (pc := 82) o 23 rfl rfl rfl inX10 tyX10_ok nmX10 (by decide) lf_X10_270 rfl rfl rfl dX10_number_82 ?_
    refine g_aload_n (pc := 85) o dX10_number_85 rfl ?_
    refine g_iload_n (pc := 86) o dX10_number_86 rfl ?_
    refine g_if_eq (pc := 87) o 107 dX10_number_87 (by decide) (fun c87 => ?_) (fun c87 => ?_)
    · skip
      exact bad (fun y => bI_0.mp c87 y.1)
    · skip
      have s2 := bI_n0.mp c87
      have va := va_d ok s2
      have ev : v = nI (vaF f t) := (hv s2).trans va.1
      have q3 := in_3 v (nI lo) (nI hi)
      rw [ev, nI_toInt (n := lo) (by omega), nI_toInt (n := hi) (by omega), nI_toInt (n := vaF f t) (by omega)] at q3
      have mi := m_in v.toInt64 (nI lo).toInt64 (nI hi).toInt64 (mw h 51 23 v)
      rw [ev] at mi
      rw [q3] at mi
      rw [← ev] at mi
      refine g_iload (pc := 90) o dX10_number_90 rfl ?_
      refine g_i2l (pc := 92) o dX10_number_92 ?_
      refine g_iload_n (pc := 93) o dX10_number_93 rfl ?_
      refine g_i2l (pc := 94) o dX10_number_94 ?_
      refine g_iload_n (pc := 95) o dX10_number_95 rfl ?_
      refine g_i2l (pc := 96) o dX10_number_96 ?_
      refine g_callSi (pc := 97) o (mi) mt_X10_in ms_X10_in lk_X10_71 rfl (by decide) rfl (Nat.le_of_ble_eq_true rfl) dX10_number_97 ?_
      refine g_if_eq (pc := 100) o 107 dX10_number_100 (by decide) (fun c100 => ?_) (fun c100 => ?_)
      · skip
        have y := bI_0.mp c100
        exact bad (fun w => y ⟨by have := w.2.1; omega, by have := w.2.2; omega⟩)
      · skip
        have y := bI_n0.mp c100
        refine g_iconst (pc := 103) o dX10_number_103 1 rfl ?_
        refine g_goto (pc := 104) o 108 dX10_number_104 (by decide) ?_
        refine g_callVQv (pc := 108) o (m_needs1 M1 R1 ol e24b 1 (by decide)) mt_X10_needs mv_X10_needs lk_X10_273 rfl rfl rfl (by decide) rfl (Nat.le_of_ble_eq_true rfl) dX10_number_108 ?_
        rintro h2 w
        obtain ⟨w1, w2, w3, w4⟩ := w
        exact g_vret o ρ dX10_number_111 ⟨rfl, O1.tr w3, Or.inl ⟨vaF f t, if_pos ⟨s2, by omega, by omega⟩, w4.trans ev, w1, w2⟩⟩
  · skip
    exact absurd rfl c4
set_option maxRecDepth 100000 in
set_option maxHeartbeats 400000 in
theorem m_numberX {h : Mem} (e24 : h.1 51 24 = 1) (x y : Int32) : Ct yX10_number cX10_number 6 none 4 88 [.ref 51, .int x, .int y] h (Ev h) := by
  refine Ct.of (by decide) (Nat.le_of_ble_eq_true rfl) (fun Γ o ρ => ?_)
  show ca_G Γ 6 _ _ [_, _, _, _, _, _] _
  refine g_aload_n (pc := 0) o dX10_number_0 rfl ?_
  refine g_getIE (pc := 1) o 24 rfl rfl rfl inX10 (by decide) lf_X10_261 (e24) dX10_number_1 ?_
  refine g_if_eq (pc := 4) o 8 dX10_number_4 (by decide) (fun c4 => ?_) (fun c4 => ?_)
  · skip
    exact absurd c4 (by decide)
  · skip
    exact g_vret o ρ dX10_number_7 ⟨rfl, rfl⟩
set_option maxRecDepth 100000 in
set_option maxHeartbeats 400000 in
theorem lp_nh {Γ : Fr} (o : ca_O Γ cX10_numberHere 3 RX10 2 45) {h : Mem} {f : Nat → Int32} {n : Nat} (M : MP h f n) {t : Nat × Nat} (R : MT h t) (ok : tkR f n t) (kk : ∀ v2 : Option Value, ca_G Γ 3 h 47 [some (.ref 51), some (.int (nvI f t.1 (t.2 - t.1))), v2] []) : ∀ k, k ≤ t.2 → t.1 ≤ k → ∀ (xk y : Int32), xk = nI k → y = nvI f t.1 (k - t.1) → ca_G Γ 3 h 7 [some (.ref 51), some (.int y), some (.int xk)] [] := by
  have l := M.2.1
  have ol := ok.1
  refine downI t.2 (fun k hk ih => ?_)
  rintro bk xk y rfl rfl
  refine g_iload_n (pc := 7) o dX10_numberHere_7 rfl ?_
  refine g_aload_n (pc := 8) o dX10_numberHere_8 rfl ?_
  refine g_getIE (pc := 9) o 22 rfl rfl rfl inX10 (by decide) lf_X10_246 (R.2) dX10_numberHere_9 ?_
  refine g_ic_ge (pc := 12) o 47 dX10_numberHere_12 (by decide) (fun c12 => ?_) (fun c12 => ?_)
  · skip
    have z : k = t.2 := ge8 (n := t.2) (by omega) (by omega) c12
    subst z
    exact kk _
  · skip
    have z : k < t.2 := lt8 (n := t.2) (by omega) (by omega) c12
    have e66 : h.1 66 k = f k := by rw [M.2.2]
    refine g_iload_n (pc := 15) o dX10_numberHere_15 rfl ?_
    refine g_sipush (pc := 16) o dX10_numberHere_16 9999 rfl ?_
    refine g_ic_le (pc := 19) o 26 dX10_numberHere_19 (by decide) (fun c19 => ?_) (fun c19 => ?_)
    · skip
      refine g_bipush (pc := 26) o dX10_numberHere_26 10 rfl ?_
      refine g_iload_n (pc := 28) o dX10_numberHere_28 rfl ?_
      refine g_imul (pc := 29) o dX10_numberHere_29 ?_
      refine g_aload_n (pc := 30) o dX10_numberHere_30 rfl ?_
      refine g_getR (pc := 31) o 19 rfl rfl rfl inX10 (by decide) lf_X10_53 dX10_numberHere_31 ?_
      refine g_iload_n (pc := 34) o dX10_numberHere_34 rfl ?_
      refine n_ialdE (pc := 35) o k (rfl) rfl ((by omega)) (by decide) (e66) dX10_numberHere_35 ?_
      refine g_iadd (pc := 36) o dX10_numberHere_36 ?_
      refine g_bipush (pc := 37) o dX10_numberHere_37 48 rfl ?_
      refine g_isub (pc := 39) o dX10_numberHere_39 ?_
      refine g_istore_n (pc := 40) o dX10_numberHere_40 (by decide) ?_
      show ca_G Γ 3 _ _ [_, _, _] _
      refine g_iinc (pc := 41) o dX10_numberHere_41 rfl 1 rfl (by decide) ?_
      show ca_G Γ 3 _ _ [_, _, _] _
      refine g_goto (pc := 44) o 7 dX10_numberHere_44 (by decide) ?_
      exact ih z (by omega) _ _ (nI_1 k) (by rw [show k + 1 - t.1 = (k - t.1) + 1 by omega, nvI_s, if_pos c19, show t.1 + (k - t.1) = k by omega])
    · skip
      refine g_iload_n (pc := 22) o dX10_numberHere_22 rfl ?_
      refine g_goto (pc := 23) o 40 dX10_numberHere_23 (by decide) ?_
      refine g_istore_n (pc := 40) o dX10_numberHere_40 (by decide) ?_
      show ca_G Γ 3 _ _ [_, _, _] _
      refine g_iinc (pc := 41) o dX10_numberHere_41 rfl 1 rfl (by decide) ?_
      show ca_G Γ 3 _ _ [_, _, _] _
      refine g_goto (pc := 44) o 7 dX10_numberHere_44 (by decide) ?_
      exact ih z (by omega) _ _ (nI_1 k) (by rw [show k + 1 - t.1 = (k - t.1) + 1 by omega, nvI_s, if_neg c19])
set_option maxRecDepth 100000 in
set_option maxHeartbeats 400000 in
theorem m_numHere {h : Mem} {f : Nat → Int32} {n : Nat} (M : MP h f n) {t : Nat × Nat} (R : MT h t) (ok : tkR f n t) : Ct yX10_numberHere cX10_numberHere 3 (some .int) 2 45 [.ref 51] h (Ei (if srF f n t.1 = 2 then nI (vaF f t) else -1) h) := by
  refine Ct.of (by decide) (Nat.le_of_ble_eq_true rfl) (fun Γ o ρ => ?_)
  show ca_G Γ 3 _ _ [_, _, _] _
  have l := M.2.1
  have ol := ok.1
  have md := m_isDigit (bA f n t.1) h
  rw [bI_2] at md
  refine g_iconst (pc := 0) o dX10_numberHere_0 0 rfl ?_
  refine g_istore_n (pc := 1) o dX10_numberHere_1 (by decide) ?_
  show ca_G Γ 3 _ _ [_, _, _] _
  refine g_aload_n (pc := 2) o dX10_numberHere_2 rfl ?_
  refine g_getIE (pc := 3) o 21 rfl rfl rfl inX10 (by decide) lf_X10_249 (R.1) dX10_numberHere_3 ?_
  refine g_istore_n (pc := 6) o dX10_numberHere_6 (by decide) ?_
  show ca_G Γ 3 _ _ [_, _, _] _
  refine lp_nh o M R ok (fun v2 => ?_) t.1 ol.1 (Nat.le_refl _) _ _ rfl (by rw [Nat.sub_self]; rfl)
  refine g_aload_n (pc := 47) o dX10_numberHere_47 rfl ?_
  refine g_aload_n (pc := 48) o dX10_numberHere_48 rfl ?_
  refine g_getIE (pc := 49) o 21 rfl rfl rfl inX10 (by decide) lf_X10_249 (R.1) dX10_numberHere_49 ?_
  refine g_callVi (pc := 52) o (m_byteAt M t.1 (by omega)) mt_X10_byteAt mv_X10_byteAt lk_X10_252 rfl rfl rfl (by decide) rfl (Nat.le_of_ble_eq_true rfl) dX10_numberHere_52 ?_
  refine g_callSi (pc := 55) o (md) mt_X10_isDigit ms_X10_isDigit lk_X10_258 rfl (by decide) rfl (Nat.le_of_ble_eq_true rfl) dX10_numberHere_55 ?_
  refine g_if_eq (pc := 58) o 65 dX10_numberHere_58 (by decide) (fun c58 => ?_) (fun c58 => ?_)
  · skip
    have y := bI_0.mp c58
    refine g_iconst (pc := 65) o dX10_numberHere_65 (-1) rfl ?_
    exact g_iret o ρ dX10_numberHere_66 (Ei.mk (by rw [if_neg y]) rfl)
  · skip
    have y := bI_n0.mp c58
    refine g_iload_n (pc := 61) o dX10_numberHere_61 rfl ?_
    refine g_goto (pc := 62) o 66 dX10_numberHere_62 (by decide) ?_
    exact g_iret o ρ dX10_numberHere_66 (Ei.mk (by rw [if_pos y]; exact (va_d ok y).1) rfl)
theorem fn_at {f : Nat → Bool} {k : Nat} : ∀ n i, i ≤ k → k < i + n → f k = true → (∀ j, i ≤ j → j < k → ¬ f j = true) → fnF f n i = some k
  | 0, i, h1, h2, _, _ => by omega
  | n + 1, i, h1, h2, h3, h4 => by
    rw [fnF_s]
    by_cases w : i = k
    · subst w; rw [if_pos h3]
    · rw [if_neg (h4 i (Nat.le_refl i) (by omega)), fn_at n (i + 1) (by omega) (by omega) h3 (fun j a b => h4 j (by omega) b)]
set_option maxRecDepth 100000 in
set_option maxHeartbeats 400000 in
theorem m_kindX {h : Mem} (e24 : h.1 51 24 = 1) : Ct yX10_kindHere cX10_kindHere 1 (some .int) 3 71 [.ref 51] h (Ei (-1) h) := by
  refine Ct.of (by decide) (Nat.le_of_ble_eq_true rfl) (fun Γ o ρ => ?_)
  show ca_G Γ 1 _ _ [_] _
  refine g_aload_n (pc := 0) o dX10_kindHere_0 rfl ?_
  refine g_bipush (pc := 1) o dX10_kindHere_1 116 rfl ?_
  refine g_bipush (pc := 3) o dX10_kindHere_3 101 rfl ?_
  refine g_bipush (pc := 5) o dX10_kindHere_5 114 rfl ?_
  refine g_bipush (pc := 7) o dX10_kindHere_7 109 rfl ?_
  refine g_iconst (pc := 9) o dX10_kindHere_9 0 rfl ?_
  refine g_iconst (pc := 10) o dX10_kindHere_10 0 rfl ?_
  refine g_iconst (pc := 11) o dX10_kindHere_11 0 rfl ?_
  refine g_callVi (pc := 12) o (m_isWordX e24 116 101 114 109 0 0 0) mt_X10_isWord mv_X10_isWord lk_X10_277 rfl rfl rfl (by decide) rfl (Nat.le_of_ble_eq_true rfl) dX10_kindHere_12 ?_
  refine g_if_eq (pc := 15) o 20 dX10_kindHere_15 (by decide) (fun c15 => ?_) (fun c15 => ?_)
  · skip
    refine g_aload_n (pc := 20) o dX10_kindHere_20 rfl ?_
    refine g_bipush (pc := 21) o dX10_kindHere_21 98 rfl ?_
    refine g_bipush (pc := 23) o dX10_kindHere_23 97 rfl ?_
    refine g_bipush (pc := 25) o dX10_kindHere_25 114 rfl ?_
    refine g_bipush (pc := 27) o dX10_kindHere_27 114 rfl ?_
    refine g_bipush (pc := 29) o dX10_kindHere_29 101 rfl ?_
    refine g_bipush (pc := 31) o dX10_kindHere_31 100 rfl ?_
    refine g_iconst (pc := 33) o dX10_kindHere_33 0 rfl ?_
    refine g_callVi (pc := 34) o (m_isWordX e24 98 97 114 114 101 100 0) mt_X10_isWord mv_X10_isWord lk_X10_277 rfl rfl rfl (by decide) rfl (Nat.le_of_ble_eq_true rfl) dX10_kindHere_34 ?_
    refine g_if_eq (pc := 37) o 44 dX10_kindHere_37 (by decide) (fun c37 => ?_) (fun c37 => ?_)
    · skip
      refine g_aload_n (pc := 44) o dX10_kindHere_44 rfl ?_
      refine g_bipush (pc := 45) o dX10_kindHere_45 114 rfl ?_
      refine g_bipush (pc := 47) o dX10_kindHere_47 101 rfl ?_
      refine g_bipush (pc := 49) o dX10_kindHere_49 112 rfl ?_
      refine g_bipush (pc := 51) o dX10_kindHere_51 111 rfl ?_
      refine g_bipush (pc := 53) o dX10_kindHere_53 114 rfl ?_
      refine g_bipush (pc := 55) o dX10_kindHere_55 116 rfl ?_
      refine g_iconst (pc := 57) o dX10_kindHere_57 0 rfl ?_
      refine g_callVi (pc := 58) o (m_isWordX e24 114 101 112 111 114 116 0) mt_X10_isWord mv_X10_isWord lk_X10_277 rfl rfl rfl (by decide) rfl (Nat.le_of_ble_eq_true rfl) dX10_kindHere_58 ?_
      refine g_if_eq (pc := 61) o 68 dX10_kindHere_61 (by decide) (fun c61 => ?_) (fun c61 => ?_)
      · skip
        refine g_aload_n (pc := 68) o dX10_kindHere_68 rfl ?_
        refine g_bipush (pc := 69) o dX10_kindHere_69 99 rfl ?_
        refine g_bipush (pc := 71) o dX10_kindHere_71 111 rfl ?_
        refine g_bipush (pc := 73) o dX10_kindHere_73 117 rfl ?_
        refine g_bipush (pc := 75) o dX10_kindHere_75 110 rfl ?_
        refine g_bipush (pc := 77) o dX10_kindHere_77 116 rfl ?_
        refine g_bipush (pc := 79) o dX10_kindHere_79 101 rfl ?_
        refine g_bipush (pc := 81) o dX10_kindHere_81 100 rfl ?_
        refine g_callVi (pc := 83) o (m_isWordX e24 99 111 117 110 116 101 100) mt_X10_isWord mv_X10_isWord lk_X10_277 rfl rfl rfl (by decide) rfl (Nat.le_of_ble_eq_true rfl) dX10_kindHere_83 ?_
        refine g_if_eq (pc := 86) o 93 dX10_kindHere_86 (by decide) (fun c86 => ?_) (fun c86 => ?_)
        · skip
          refine g_aload_n (pc := 93) o dX10_kindHere_93 rfl ?_
          refine g_bipush (pc := 94) o dX10_kindHere_94 110 rfl ?_
          refine g_bipush (pc := 96) o dX10_kindHere_96 101 rfl ?_
          refine g_bipush (pc := 98) o dX10_kindHere_98 97 rfl ?_
          refine g_bipush (pc := 100) o dX10_kindHere_100 114 rfl ?_
          refine g_iconst (pc := 102) o dX10_kindHere_102 0 rfl ?_
          refine g_iconst (pc := 103) o dX10_kindHere_103 0 rfl ?_
          refine g_iconst (pc := 104) o dX10_kindHere_104 0 rfl ?_
          refine g_callVi (pc := 105) o (m_isWordX e24 110 101 97 114 0 0 0) mt_X10_isWord mv_X10_isWord lk_X10_277 rfl rfl rfl (by decide) rfl (Nat.le_of_ble_eq_true rfl) dX10_kindHere_105 ?_
          refine g_if_eq (pc := 108) o 115 dX10_kindHere_108 (by decide) (fun c108 => ?_) (fun c108 => ?_)
          · skip
            refine g_aload_n (pc := 115) o dX10_kindHere_115 rfl ?_
            refine g_bipush (pc := 116) o dX10_kindHere_116 119 rfl ?_
            refine g_bipush (pc := 118) o dX10_kindHere_118 101 rfl ?_
            refine g_bipush (pc := 120) o dX10_kindHere_120 101 rfl ?_
            refine g_bipush (pc := 122) o dX10_kindHere_122 107 rfl ?_
            refine g_bipush (pc := 124) o dX10_kindHere_124 108 rfl ?_
            refine g_bipush (pc := 126) o dX10_kindHere_126 121 rfl ?_
            refine g_iconst (pc := 128) o dX10_kindHere_128 0 rfl ?_
            refine g_callVi (pc := 129) o (m_isWordX e24 119 101 101 107 108 121 0) mt_X10_isWord mv_X10_isWord lk_X10_277 rfl rfl rfl (by decide) rfl (Nat.le_of_ble_eq_true rfl) dX10_kindHere_129 ?_
            refine g_if_eq (pc := 132) o 139 dX10_kindHere_132 (by decide) (fun c132 => ?_) (fun c132 => ?_)
            · skip
              refine g_aload_n (pc := 139) o dX10_kindHere_139 rfl ?_
              refine g_bipush (pc := 140) o dX10_kindHere_140 115 rfl ?_
              refine g_bipush (pc := 142) o dX10_kindHere_142 116 rfl ?_
              refine g_bipush (pc := 144) o dX10_kindHere_144 114 rfl ?_
              refine g_bipush (pc := 146) o dX10_kindHere_146 105 rfl ?_
              refine g_bipush (pc := 148) o dX10_kindHere_148 99 rfl ?_
              refine g_bipush (pc := 150) o dX10_kindHere_150 116 rfl ?_
              refine g_iconst (pc := 152) o dX10_kindHere_152 0 rfl ?_
              refine g_callVi (pc := 153) o (m_isWordX e24 115 116 114 105 99 116 0) mt_X10_isWord mv_X10_isWord lk_X10_277 rfl rfl rfl (by decide) rfl (Nat.le_of_ble_eq_true rfl) dX10_kindHere_153 ?_
              refine g_if_eq (pc := 156) o 164 dX10_kindHere_156 (by decide) (fun c156 => ?_) (fun c156 => ?_)
              · skip
                refine g_iconst (pc := 164) o dX10_kindHere_164 (-1) rfl ?_
                exact g_iret o ρ dX10_kindHere_165 (Ei.mk rfl rfl)
              · skip
                exact absurd rfl c156
            · skip
              exact absurd rfl c132
          · skip
            exact absurd rfl c108
        · skip
          exact absurd rfl c86
      · skip
        exact absurd rfl c61
    · skip
      exact absurd rfl c37
  · skip
    exact absurd rfl c15
set_option maxRecDepth 100000 in
set_option maxHeartbeats 400000 in
theorem m_kindHere {h : Mem} {f : Nat → Int32} {n : Nat} (M : MP h f n) {t : Nat × Nat} (R : MT h t) (ok : tkO n t) (e24 : h.1 51 24 = 0) : Ct yX10_kindHere cX10_kindHere 1 (some .int) 3 71 [.ref 51] h (Ei (ogV (fnF (kdB f t) 7 0)) h) := by
  refine Ct.of (by decide) (Nat.le_of_ble_eq_true rfl) (fun Γ o ρ => ?_)
  show ca_G Γ 1 _ _ [_] _
  have kd : ∀ k, kdB f t k = true ↔ wdP f t (2 + k) := fun k => by unfold kdB; exact decide_eq_true_iff
  refine g_aload_n (pc := 0) o dX10_kindHere_0 rfl ?_
  refine g_bipush (pc := 1) o dX10_kindHere_1 116 rfl ?_
  refine g_bipush (pc := 3) o dX10_kindHere_3 101 rfl ?_
  refine g_bipush (pc := 5) o dX10_kindHere_5 114 rfl ?_
  refine g_bipush (pc := 7) o dX10_kindHere_7 109 rfl ?_
  refine g_iconst (pc := 9) o dX10_kindHere_9 0 rfl ?_
  refine g_iconst (pc := 10) o dX10_kindHere_10 0 rfl ?_
  refine g_iconst (pc := 11) o dX10_kindHere_11 0 rfl ?_
  refine g_callVi (pc := 12) o (m_isWord M R ok e24 2 (by decide)) mt_X10_isWord mv_X10_isWord lk_X10_277 rfl rfl rfl (by decide) rfl (Nat.le_of_ble_eq_true rfl) dX10_kindHere_12 ?_
  refine g_if_eq (pc := 15) o 20 dX10_kindHere_15 (by decide) (fun c15 => ?_) (fun c15 => ?_)
  · skip
    have n0 : ¬ kdB f t 0 = true := fun y => bI_0.mp c15 ((kd 0).mp y)
    refine g_aload_n (pc := 20) o dX10_kindHere_20 rfl ?_
    refine g_bipush (pc := 21) o dX10_kindHere_21 98 rfl ?_
    refine g_bipush (pc := 23) o dX10_kindHere_23 97 rfl ?_
    refine g_bipush (pc := 25) o dX10_kindHere_25 114 rfl ?_
    refine g_bipush (pc := 27) o dX10_kindHere_27 114 rfl ?_
    refine g_bipush (pc := 29) o dX10_kindHere_29 101 rfl ?_
    refine g_bipush (pc := 31) o dX10_kindHere_31 100 rfl ?_
    refine g_iconst (pc := 33) o dX10_kindHere_33 0 rfl ?_
    refine g_callVi (pc := 34) o (m_isWord M R ok e24 3 (by decide)) mt_X10_isWord mv_X10_isWord lk_X10_277 rfl rfl rfl (by decide) rfl (Nat.le_of_ble_eq_true rfl) dX10_kindHere_34 ?_
    refine g_if_eq (pc := 37) o 44 dX10_kindHere_37 (by decide) (fun c37 => ?_) (fun c37 => ?_)
    · skip
      have n1 : ¬ kdB f t 1 = true := fun y => bI_0.mp c37 ((kd 1).mp y)
      refine g_aload_n (pc := 44) o dX10_kindHere_44 rfl ?_
      refine g_bipush (pc := 45) o dX10_kindHere_45 114 rfl ?_
      refine g_bipush (pc := 47) o dX10_kindHere_47 101 rfl ?_
      refine g_bipush (pc := 49) o dX10_kindHere_49 112 rfl ?_
      refine g_bipush (pc := 51) o dX10_kindHere_51 111 rfl ?_
      refine g_bipush (pc := 53) o dX10_kindHere_53 114 rfl ?_
      refine g_bipush (pc := 55) o dX10_kindHere_55 116 rfl ?_
      refine g_iconst (pc := 57) o dX10_kindHere_57 0 rfl ?_
      refine g_callVi (pc := 58) o (m_isWord M R ok e24 4 (by decide)) mt_X10_isWord mv_X10_isWord lk_X10_277 rfl rfl rfl (by decide) rfl (Nat.le_of_ble_eq_true rfl) dX10_kindHere_58 ?_
      refine g_if_eq (pc := 61) o 68 dX10_kindHere_61 (by decide) (fun c61 => ?_) (fun c61 => ?_)
      · skip
        have n2 : ¬ kdB f t 2 = true := fun y => bI_0.mp c61 ((kd 2).mp y)
        refine g_aload_n (pc := 68) o dX10_kindHere_68 rfl ?_
        refine g_bipush (pc := 69) o dX10_kindHere_69 99 rfl ?_
        refine g_bipush (pc := 71) o dX10_kindHere_71 111 rfl ?_
        refine g_bipush (pc := 73) o dX10_kindHere_73 117 rfl ?_
        refine g_bipush (pc := 75) o dX10_kindHere_75 110 rfl ?_
        refine g_bipush (pc := 77) o dX10_kindHere_77 116 rfl ?_
        refine g_bipush (pc := 79) o dX10_kindHere_79 101 rfl ?_
        refine g_bipush (pc := 81) o dX10_kindHere_81 100 rfl ?_
        refine g_callVi (pc := 83) o (m_isWord M R ok e24 5 (by decide)) mt_X10_isWord mv_X10_isWord lk_X10_277 rfl rfl rfl (by decide) rfl (Nat.le_of_ble_eq_true rfl) dX10_kindHere_83 ?_
        refine g_if_eq (pc := 86) o 93 dX10_kindHere_86 (by decide) (fun c86 => ?_) (fun c86 => ?_)
        · skip
          have n3 : ¬ kdB f t 3 = true := fun y => bI_0.mp c86 ((kd 3).mp y)
          refine g_aload_n (pc := 93) o dX10_kindHere_93 rfl ?_
          refine g_bipush (pc := 94) o dX10_kindHere_94 110 rfl ?_
          refine g_bipush (pc := 96) o dX10_kindHere_96 101 rfl ?_
          refine g_bipush (pc := 98) o dX10_kindHere_98 97 rfl ?_
          refine g_bipush (pc := 100) o dX10_kindHere_100 114 rfl ?_
          refine g_iconst (pc := 102) o dX10_kindHere_102 0 rfl ?_
          refine g_iconst (pc := 103) o dX10_kindHere_103 0 rfl ?_
          refine g_iconst (pc := 104) o dX10_kindHere_104 0 rfl ?_
          refine g_callVi (pc := 105) o (m_isWord M R ok e24 6 (by decide)) mt_X10_isWord mv_X10_isWord lk_X10_277 rfl rfl rfl (by decide) rfl (Nat.le_of_ble_eq_true rfl) dX10_kindHere_105 ?_
          refine g_if_eq (pc := 108) o 115 dX10_kindHere_108 (by decide) (fun c108 => ?_) (fun c108 => ?_)
          · skip
            have n4 : ¬ kdB f t 4 = true := fun y => bI_0.mp c108 ((kd 4).mp y)
            refine g_aload_n (pc := 115) o dX10_kindHere_115 rfl ?_
            refine g_bipush (pc := 116) o dX10_kindHere_116 119 rfl ?_
            refine g_bipush (pc := 118) o dX10_kindHere_118 101 rfl ?_
            refine g_bipush (pc := 120) o dX10_kindHere_120 101 rfl ?_
            refine g_bipush (pc := 122) o dX10_kindHere_122 107 rfl ?_
            refine g_bipush (pc := 124) o dX10_kindHere_124 108 rfl ?_
            refine g_bipush (pc := 126) o dX10_kindHere_126 121 rfl ?_
            refine g_iconst (pc := 128) o dX10_kindHere_128 0 rfl ?_
            refine g_callVi (pc := 129) o (m_isWord M R ok e24 7 (by decide)) mt_X10_isWord mv_X10_isWord lk_X10_277 rfl rfl rfl (by decide) rfl (Nat.le_of_ble_eq_true rfl) dX10_kindHere_129 ?_
            refine g_if_eq (pc := 132) o 139 dX10_kindHere_132 (by decide) (fun c132 => ?_) (fun c132 => ?_)
            · skip
              have n5 : ¬ kdB f t 5 = true := fun y => bI_0.mp c132 ((kd 5).mp y)
              refine g_aload_n (pc := 139) o dX10_kindHere_139 rfl ?_
              refine g_bipush (pc := 140) o dX10_kindHere_140 115 rfl ?_
              refine g_bipush (pc := 142) o dX10_kindHere_142 116 rfl ?_
              refine g_bipush (pc := 144) o dX10_kindHere_144 114 rfl ?_
              refine g_bipush (pc := 146) o dX10_kindHere_146 105 rfl ?_
              refine g_bipush (pc := 148) o dX10_kindHere_148 99 rfl ?_
              refine g_bipush (pc := 150) o dX10_kindHere_150 116 rfl ?_
              refine g_iconst (pc := 152) o dX10_kindHere_152 0 rfl ?_
              refine g_callVi (pc := 153) o (m_isWord M R ok e24 8 (by decide)) mt_X10_isWord mv_X10_isWord lk_X10_277 rfl rfl rfl (by decide) rfl (Nat.le_of_ble_eq_true rfl) dX10_kindHere_153 ?_
              refine g_if_eq (pc := 156) o 164 dX10_kindHere_156 (by decide) (fun c156 => ?_) (fun c156 => ?_)
              · skip
                have n6 : ¬ kdB f t 6 = true := fun y => bI_0.mp c156 ((kd 6).mp y)
                have nn := fn_none (f := kdB f t) 7 0 (fun j _ hj => by rcases (by omega : j = 0 ∨ j = 1 ∨ j = 2 ∨ j = 3 ∨ j = 4 ∨ j = 5 ∨ j = 6) with u | u | u | u | u | u | u <;> rw [u] <;> assumption)
                refine g_iconst (pc := 164) o dX10_kindHere_164 (-1) rfl ?_
                exact g_iret o ρ dX10_kindHere_165 (Ei.mk (by rw [nn]; rfl) rfl)
              · skip
                have yy := (kd 6).mpr (bI_n0.mp c156)
                have nn := fn_at (f := kdB f t) (k := 6) 7 0 (by decide) (by decide) yy (fun j _ hj => by rcases (by omega : j = 0 ∨ j = 1 ∨ j = 2 ∨ j = 3 ∨ j = 4 ∨ j = 5) with u | u | u | u | u | u <;> rw [u] <;> assumption)
                refine g_bipush (pc := 159) o dX10_kindHere_159 6 rfl ?_
                refine g_goto (pc := 161) o 165 dX10_kindHere_161 (by decide) ?_
                exact g_iret o ρ dX10_kindHere_165 (Ei.mk (by rw [nn]; rfl) rfl)
            · skip
              have yy := (kd 5).mpr (bI_n0.mp c132)
              have nn := fn_at (f := kdB f t) (k := 5) 7 0 (by decide) (by decide) yy (fun j _ hj => by rcases (by omega : j = 0 ∨ j = 1 ∨ j = 2 ∨ j = 3 ∨ j = 4) with u | u | u | u | u <;> rw [u] <;> assumption)
              refine g_iconst (pc := 135) o dX10_kindHere_135 5 rfl ?_
              refine g_goto (pc := 136) o 165 dX10_kindHere_136 (by decide) ?_
              exact g_iret o ρ dX10_kindHere_165 (Ei.mk (by rw [nn]; rfl) rfl)
          · skip
            have yy := (kd 4).mpr (bI_n0.mp c108)
            have nn := fn_at (f := kdB f t) (k := 4) 7 0 (by decide) (by decide) yy (fun j _ hj => by rcases (by omega : j = 0 ∨ j = 1 ∨ j = 2 ∨ j = 3) with u | u | u | u <;> rw [u] <;> assumption)
            refine g_iconst (pc := 111) o dX10_kindHere_111 4 rfl ?_
            refine g_goto (pc := 112) o 165 dX10_kindHere_112 (by decide) ?_
            exact g_iret o ρ dX10_kindHere_165 (Ei.mk (by rw [nn]; rfl) rfl)
        · skip
          have yy := (kd 3).mpr (bI_n0.mp c86)
          have nn := fn_at (f := kdB f t) (k := 3) 7 0 (by decide) (by decide) yy (fun j _ hj => by rcases (by omega : j = 0 ∨ j = 1 ∨ j = 2) with u | u | u <;> rw [u] <;> assumption)
          refine g_iconst (pc := 89) o dX10_kindHere_89 3 rfl ?_
          refine g_goto (pc := 90) o 165 dX10_kindHere_90 (by decide) ?_
          exact g_iret o ρ dX10_kindHere_165 (Ei.mk (by rw [nn]; rfl) rfl)
      · skip
        have yy := (kd 2).mpr (bI_n0.mp c61)
        have nn := fn_at (f := kdB f t) (k := 2) 7 0 (by decide) (by decide) yy (fun j _ hj => by rcases (by omega : j = 0 ∨ j = 1) with u | u <;> rw [u] <;> assumption)
        refine g_iconst (pc := 64) o dX10_kindHere_64 2 rfl ?_
        refine g_goto (pc := 65) o 165 dX10_kindHere_65 (by decide) ?_
        exact g_iret o ρ dX10_kindHere_165 (Ei.mk (by rw [nn]; rfl) rfl)
    · skip
      have yy := (kd 1).mpr (bI_n0.mp c37)
      have nn := fn_at (f := kdB f t) (k := 1) 7 0 (by decide) (by decide) yy (fun j _ hj => by rw [show j = 0 by omega]; exact n0)
      refine g_iconst (pc := 40) o dX10_kindHere_40 1 rfl ?_
      refine g_goto (pc := 41) o 165 dX10_kindHere_41 (by decide) ?_
      exact g_iret o ρ dX10_kindHere_165 (Ei.mk (by rw [nn]; rfl) rfl)
  · skip
    have yy := (kd 0).mpr (bI_n0.mp c15)
    have nn := fn_at (f := kdB f t) (k := 0) 7 0 (by decide) (by decide) yy (fun j _ hj => by omega)
    refine g_iconst (pc := 18) o dX10_kindHere_18 0 rfl ?_
    exact g_iret o ρ dX10_kindHere_19 (Ei.mk (by rw [nn]; rfl) rfl)
def offS (h h2 : Mem) : Prop := (∀ c, c ≠ 51 → c ≠ 52 → h2.1 c = h.1 c) ∧ ∀ j, j < 21 ∨ 24 < j → h2.1 51 j = h.1 51 j
theorem offS.rf (h : Mem) : offS h h := ⟨fun _ _ _ => rfl, fun _ _ => rfl⟩
theorem offS.tr {a b c : Mem} (x : offS a b) (y : offS b c) : offS a c := ⟨fun k h1 h2 => (y.1 k h1 h2).trans (x.1 k h1 h2), fun j hj => (y.2 j hj).trans (x.2 j hj)⟩
theorem offT.s {a b : Mem} (x : offT a b) : offS a b := ⟨fun k h1 _ => x.1 k h1, x.2⟩
theorem offS.w {a b : Mem} (x : offS a b) {i : Nat} {v : Int32} : offS a (mw b 52 i v) := ⟨fun k h1 h2 => (mw_ne _ _ _ h2).trans (x.1 k h1 h2), fun j hj => by rw [mw_ne _ _ _ (by decide)]; exact x.2 j hj⟩
theorem MP.ofS {h h2 : Mem} {f : Nat → Int32} {n : Nat} (M : MP h f n) (o : offS h h2) : MP h2 f n := ⟨(o.2 20 (by decide)).trans M.1, M.2.1, (o.1 66 (by decide) (by decide)).trans M.2.2⟩
def spP (h h2 : Mem) (f : Nat → Int32) (n : Nat) (t : Nat × Nat) (u w hi : Nat) : Prop := offS h h2 ∧ ((∃ x, pSpan f n t hi = .inl x ∧ h2.1 51 24 = 1 ∧ h2.1 51 21 = nI x ∧ h2.1 52 = h.1 52) ∨ (∃ y, pSpan f n t hi = .inr y ∧ h2.1 51 24 = 0 ∧ MT h2 y.1 ∧ h2.1 52 = setS (h.1 52) u w (nI y.2.1) (nI y.2.2)))
set_option maxRecDepth 100000 in
set_option maxHeartbeats 400000 in
theorem m_span0 {h : Mem} {f : Nat → Int32} {n : Nat} (M : MP h f n) {t : Nat × Nat} (R : MT h t) (ok : tkR f n t) (e24 : h.1 51 24 = 0) (u : Nat) (hu : u < 12) : Ct yX10_spanItem cX10_spanItem 4 none 5 113 [.ref 51, .int (nI u), .int 0] h (Qv (fun h2 => spP h h2 f n (nxF f n t) u 3 23)) := by
  refine Ct.of (by decide) (Nat.le_of_ble_eq_true rfl) (fun Γ o ρ => ?_)
  show ca_G Γ 4 _ _ [_, _, _, _] _
  have ok1 := nx_R ok
  have ok2 := nx_R ok1
  have i1 : (190 : Int32) + 7 * nI u + 3 + 2 * 0 = nI (190 + (u * 7 + 3)) := by
    rw [show (190 : Int32) + 7 * nI u + 3 + 2 * 0 = nI 190 + nI 7 * nI u + nI 3 + nI 0 from rfl, pk_mul, nI_add, nI_add, nI_add]
    congr 1
    omega
  have i2 : (190 : Int32) + 7 * nI u + 3 + 2 * 0 + 1 = nI (190 + (u * 7 + (3 + 1))) := by rw [i1, nI_1]; rfl
  refine g_aload_n (pc := 0) o dX10_spanItem_0 rfl ?_
  refine g_iconst (pc := 1) o dX10_spanItem_1 1 rfl ?_
  refine g_callVQv (pc := 2) o (m_needs1 M R ok.1 e24 1 (by decide)) mt_X10_needs mv_X10_needs lk_X10_273 rfl rfl rfl (by decide) rfl (Nat.le_of_ble_eq_true rfl) dX10_spanItem_2 ?_
  rintro h1 w
  obtain ⟨R1, e1, O1, _⟩ := w
  have M1 := M.of O1
  refine g_aload_n (pc := 5) o dX10_spanItem_5 rfl ?_
  refine g_iconst (pc := 6) o dX10_spanItem_6 0 rfl ?_
  refine g_iload_n (pc := 7) o dX10_spanItem_7 rfl ?_
  refine g_if_ne (pc := 8) o 16 dX10_spanItem_8 (by decide) (fun c8 => ?_) (fun c8 => ?_)
  · skip
    exact absurd rfl c8
  · skip
    refine g_bipush (pc := 11) o dX10_spanItem_11 23 rfl ?_
    refine g_goto (pc := 13) o 18 dX10_spanItem_13 (by decide) ?_
    refine g_callVQv (pc := 18) o (m_number M1 R1 ok1 e1 0 23 (by decide) (by decide)) mt_X10_number mv_X10_number lk_X10_281 rfl rfl rfl (by decide) rfl (Nat.le_of_ble_eq_true rfl) dX10_spanItem_18 ?_
    rintro h2 w
    obtain ⟨O2, w⟩ := w
    have O3 := O1.tr O2
    have M2 := M.of O3
    unfold spP pSpan at ρ
    rcases w with ⟨a, ea, e23, R2, e2⟩ | ⟨ea, e2, R2⟩
    · rw [ea] at ρ
      simp only at ρ
      have al := (num_len ok1 ea).2.2.1
      refine g_aload_n (pc := 21) o dX10_spanItem_21 rfl ?_
      refine g_getIE (pc := 22) o 23 rfl rfl rfl inX10 (by decide) lf_X10_270 (e23) dX10_spanItem_22 ?_
      refine g_istore_n (pc := 25) o dX10_spanItem_25 (by decide) ?_
      show ca_G Γ 4 _ _ [_, _, _, _] _
      refine g_aload_n (pc := 26) o dX10_spanItem_26 rfl ?_
      refine g_iload_n (pc := 27) o dX10_spanItem_27 rfl ?_
      refine g_iload_n (pc := 28) o dX10_spanItem_28 rfl ?_
      refine g_if_ne (pc := 29) o 37 dX10_spanItem_29 (by decide) (fun c29 => ?_) (fun c29 => ?_)
      · skip
        exact absurd rfl c29
      · skip
        refine g_bipush (pc := 32) o dX10_spanItem_32 23 rfl ?_
        refine g_goto (pc := 34) o 39 dX10_spanItem_34 (by decide) ?_
        refine g_callVQv (pc := 39) o (m_number M2 R2 ok2 e2 a 23 (by omega) (by decide)) mt_X10_number mv_X10_number lk_X10_281 rfl rfl rfl (by decide) rfl (Nat.le_of_ble_eq_true rfl) dX10_spanItem_39 ?_
        rintro h3 w
        obtain ⟨O4, w⟩ := w
        have O5 := O3.tr O4
        have e52 : h3.1 52 = h.1 52 := O5.1 52 (by decide)
        rcases w with ⟨b, eb, e23b, R3, e3⟩ | ⟨eb, e3, R3⟩
        · rw [eb] at ρ
          simp only at ρ
          refine g_aload_n (pc := 42) o dX10_spanItem_42 rfl ?_
          refine g_getIE (pc := 43) o 24 rfl rfl rfl inX10 (by decide) lf_X10_261 (e3) dX10_spanItem_43 ?_
          refine g_if_ne (pc := 46) o 94 dX10_spanItem_46 (by decide) (fun c46 => ?_) (fun c46 => ?_)
          · skip
            exact absurd rfl c46
          · skip
            refine g_aload_n (pc := 49) o dX10_spanItem_49 rfl ?_
            refine g_getR (pc := 50) o 0 rfl rfl rfl inX10 (by decide) lf_X10_7 dX10_spanItem_50 ?_
            refine g_sipush (pc := 53) o dX10_spanItem_53 190 rfl ?_
            refine g_bipush (pc := 56) o dX10_spanItem_56 7 rfl ?_
            refine g_iload_n (pc := 58) o dX10_spanItem_58 rfl ?_
            refine g_imul (pc := 59) o dX10_spanItem_59 ?_
            refine g_iadd (pc := 60) o dX10_spanItem_60 ?_
            refine g_iconst (pc := 61) o dX10_spanItem_61 3 rfl ?_
            refine g_iadd (pc := 62) o dX10_spanItem_62 ?_
            refine g_iconst (pc := 63) o dX10_spanItem_63 2 rfl ?_
            refine g_iload_n (pc := 64) o dX10_spanItem_64 rfl ?_
            refine g_imul (pc := 65) o dX10_spanItem_65 ?_
            refine g_iadd (pc := 66) o dX10_spanItem_66 ?_
            refine g_iload_n (pc := 67) o dX10_spanItem_67 rfl ?_
            refine n_iast (pc := 68) o (190 + (u * 7 + 3)) (i1) rfl ((by omega)) (by decide) dX10_spanItem_68 ?_
            refine g_aload_n (pc := 69) o dX10_spanItem_69 rfl ?_
            refine g_getR (pc := 70) o 0 rfl rfl rfl inX10 (by decide) lf_X10_7 dX10_spanItem_70 ?_
            refine g_sipush (pc := 73) o dX10_spanItem_73 190 rfl ?_
            refine g_bipush (pc := 76) o dX10_spanItem_76 7 rfl ?_
            refine g_iload_n (pc := 78) o dX10_spanItem_78 rfl ?_
            refine g_imul (pc := 79) o dX10_spanItem_79 ?_
            refine g_iadd (pc := 80) o dX10_spanItem_80 ?_
            refine g_iconst (pc := 81) o dX10_spanItem_81 3 rfl ?_
            refine g_iadd (pc := 82) o dX10_spanItem_82 ?_
            refine g_iconst (pc := 83) o dX10_spanItem_83 2 rfl ?_
            refine g_iload_n (pc := 84) o dX10_spanItem_84 rfl ?_
            refine g_imul (pc := 85) o dX10_spanItem_85 ?_
            refine g_iadd (pc := 86) o dX10_spanItem_86 ?_
            refine g_iconst (pc := 87) o dX10_spanItem_87 1 rfl ?_
            refine g_iadd (pc := 88) o dX10_spanItem_88 ?_
            refine g_aload_n (pc := 89) o dX10_spanItem_89 rfl ?_
            refine g_getIE (pc := 90) o 23 rfl rfl rfl inX10 (by decide) lf_X10_270 (e23b) dX10_spanItem_90 ?_
            refine n_iast (pc := 93) o (190 + (u * 7 + (3 + 1))) (i2) rfl ((by omega)) (by decide) dX10_spanItem_93 ?_
            exact g_vret o ρ dX10_spanItem_94 ⟨rfl, (O5.s.w).w, Or.inr ⟨_, rfl, e3, R3, by show upd (upd (h3.1 52) _ _) _ _ = _; rw [e52]; rfl⟩⟩
        · rw [eb] at ρ
          simp only at ρ
          refine g_aload_n (pc := 42) o dX10_spanItem_42 rfl ?_
          refine g_getIE (pc := 43) o 24 rfl rfl rfl inX10 (by decide) lf_X10_261 (e3) dX10_spanItem_43 ?_
          refine g_if_ne (pc := 46) o 94 dX10_spanItem_46 (by decide) (fun c46 => ?_) (fun c46 => ?_)
          · skip
            exact g_vret o ρ dX10_spanItem_94 ⟨rfl, O5.s, Or.inl ⟨_, rfl, e3, R3.1, e52⟩⟩
          · skip
            exact absurd c46 (by decide)
    · rw [ea] at ρ
      simp only at ρ
      refine g_aload_n (pc := 21) o dX10_spanItem_21 rfl ?_
      refine g_getI (pc := 22) o 23 rfl rfl rfl inX10 (by decide) lf_X10_270 dX10_spanItem_22 ?_
      refine g_istore_n (pc := 25) o dX10_spanItem_25 (by decide) ?_
      show ca_G Γ 4 _ _ [_, _, _, _] _
      refine g_aload_n (pc := 26) o dX10_spanItem_26 rfl ?_
      refine g_iload_n (pc := 27) o dX10_spanItem_27 rfl ?_
      refine g_iload_n (pc := 28) o dX10_spanItem_28 rfl ?_
      refine g_if_ne (pc := 29) o 37 dX10_spanItem_29 (by decide) (fun c29 => ?_) (fun c29 => ?_)
      · skip
        exact absurd rfl c29
      · skip
        refine g_bipush (pc := 32) o dX10_spanItem_32 23 rfl ?_
        refine g_goto (pc := 34) o 39 dX10_spanItem_34 (by decide) ?_
        refine g_callVv (pc := 39) o (m_numberX e2 _ 23) mt_X10_number mv_X10_number lk_X10_281 rfl rfl rfl (by decide) rfl (Nat.le_of_ble_eq_true rfl) dX10_spanItem_39 ?_
        refine g_aload_n (pc := 42) o dX10_spanItem_42 rfl ?_
        refine g_getIE (pc := 43) o 24 rfl rfl rfl inX10 (by decide) lf_X10_261 (e2) dX10_spanItem_43 ?_
        refine g_if_ne (pc := 46) o 94 dX10_spanItem_46 (by decide) (fun c46 => ?_) (fun c46 => ?_)
        · skip
          exact g_vret o ρ dX10_spanItem_94 ⟨rfl, O3.s, Or.inl ⟨_, rfl, e2, R2.1, O3.1 52 (by decide)⟩⟩
        · skip
          exact absurd c46 (by decide)
set_option maxRecDepth 100000 in
set_option maxHeartbeats 400000 in
theorem m_span1 {h : Mem} {f : Nat → Int32} {n : Nat} (M : MP h f n) {t : Nat × Nat} (R : MT h t) (ok : tkR f n t) (e24 : h.1 51 24 = 0) (u : Nat) (hu : u < 12) : Ct yX10_spanItem cX10_spanItem 4 none 5 113 [.ref 51, .int (nI u), .int 1] h (Qv (fun h2 => spP h h2 f n (nxF f n t) u 5 29)) := by
  refine Ct.of (by decide) (Nat.le_of_ble_eq_true rfl) (fun Γ o ρ => ?_)
  show ca_G Γ 4 _ _ [_, _, _, _] _
  have ok1 := nx_R ok
  have ok2 := nx_R ok1
  have i1 : (190 : Int32) + 7 * nI u + 3 + 2 * 1 = nI (190 + (u * 7 + 5)) := by
    rw [show (190 : Int32) + 7 * nI u + 3 + 2 * 1 = nI 190 + nI 7 * nI u + nI 3 + nI 2 from rfl, pk_mul, nI_add, nI_add, nI_add]
    congr 1
    omega
  have i2 : (190 : Int32) + 7 * nI u + 3 + 2 * 1 + 1 = nI (190 + (u * 7 + (5 + 1))) := by rw [i1, nI_1]; rfl
  refine g_aload_n (pc := 0) o dX10_spanItem_0 rfl ?_
  refine g_iconst (pc := 1) o dX10_spanItem_1 1 rfl ?_
  refine g_callVQv (pc := 2) o (m_needs1 M R ok.1 e24 1 (by decide)) mt_X10_needs mv_X10_needs lk_X10_273 rfl rfl rfl (by decide) rfl (Nat.le_of_ble_eq_true rfl) dX10_spanItem_2 ?_
  rintro h1 w
  obtain ⟨R1, e1, O1, _⟩ := w
  have M1 := M.of O1
  refine g_aload_n (pc := 5) o dX10_spanItem_5 rfl ?_
  refine g_iconst (pc := 6) o dX10_spanItem_6 0 rfl ?_
  refine g_iload_n (pc := 7) o dX10_spanItem_7 rfl ?_
  refine g_if_ne (pc := 8) o 16 dX10_spanItem_8 (by decide) (fun c8 => ?_) (fun c8 => ?_)
  · skip
    refine g_bipush (pc := 16) o dX10_spanItem_16 29 rfl ?_
    refine g_callVQv (pc := 18) o (m_number M1 R1 ok1 e1 0 29 (by decide) (by decide)) mt_X10_number mv_X10_number lk_X10_281 rfl rfl rfl (by decide) rfl (Nat.le_of_ble_eq_true rfl) dX10_spanItem_18 ?_
    rintro h2 w
    obtain ⟨O2, w⟩ := w
    have O3 := O1.tr O2
    have M2 := M.of O3
    unfold spP pSpan at ρ
    rcases w with ⟨a, ea, e23, R2, e2⟩ | ⟨ea, e2, R2⟩
    · rw [ea] at ρ
      simp only at ρ
      have al := (num_len ok1 ea).2.2.1
      refine g_aload_n (pc := 21) o dX10_spanItem_21 rfl ?_
      refine g_getIE (pc := 22) o 23 rfl rfl rfl inX10 (by decide) lf_X10_270 (e23) dX10_spanItem_22 ?_
      refine g_istore_n (pc := 25) o dX10_spanItem_25 (by decide) ?_
      show ca_G Γ 4 _ _ [_, _, _, _] _
      refine g_aload_n (pc := 26) o dX10_spanItem_26 rfl ?_
      refine g_iload_n (pc := 27) o dX10_spanItem_27 rfl ?_
      refine g_iload_n (pc := 28) o dX10_spanItem_28 rfl ?_
      refine g_if_ne (pc := 29) o 37 dX10_spanItem_29 (by decide) (fun c29 => ?_) (fun c29 => ?_)
      · skip
        refine g_bipush (pc := 37) o dX10_spanItem_37 29 rfl ?_
        refine g_callVQv (pc := 39) o (m_number M2 R2 ok2 e2 a 29 (by omega) (by decide)) mt_X10_number mv_X10_number lk_X10_281 rfl rfl rfl (by decide) rfl (Nat.le_of_ble_eq_true rfl) dX10_spanItem_39 ?_
        rintro h3 w
        obtain ⟨O4, w⟩ := w
        have O5 := O3.tr O4
        have e52 : h3.1 52 = h.1 52 := O5.1 52 (by decide)
        rcases w with ⟨b, eb, e23b, R3, e3⟩ | ⟨eb, e3, R3⟩
        · rw [eb] at ρ
          simp only at ρ
          refine g_aload_n (pc := 42) o dX10_spanItem_42 rfl ?_
          refine g_getIE (pc := 43) o 24 rfl rfl rfl inX10 (by decide) lf_X10_261 (e3) dX10_spanItem_43 ?_
          refine g_if_ne (pc := 46) o 94 dX10_spanItem_46 (by decide) (fun c46 => ?_) (fun c46 => ?_)
          · skip
            exact absurd rfl c46
          · skip
            refine g_aload_n (pc := 49) o dX10_spanItem_49 rfl ?_
            refine g_getR (pc := 50) o 0 rfl rfl rfl inX10 (by decide) lf_X10_7 dX10_spanItem_50 ?_
            refine g_sipush (pc := 53) o dX10_spanItem_53 190 rfl ?_
            refine g_bipush (pc := 56) o dX10_spanItem_56 7 rfl ?_
            refine g_iload_n (pc := 58) o dX10_spanItem_58 rfl ?_
            refine g_imul (pc := 59) o dX10_spanItem_59 ?_
            refine g_iadd (pc := 60) o dX10_spanItem_60 ?_
            refine g_iconst (pc := 61) o dX10_spanItem_61 3 rfl ?_
            refine g_iadd (pc := 62) o dX10_spanItem_62 ?_
            refine g_iconst (pc := 63) o dX10_spanItem_63 2 rfl ?_
            refine g_iload_n (pc := 64) o dX10_spanItem_64 rfl ?_
            refine g_imul (pc := 65) o dX10_spanItem_65 ?_
            refine g_iadd (pc := 66) o dX10_spanItem_66 ?_
            refine g_iload_n (pc := 67) o dX10_spanItem_67 rfl ?_
            refine n_iast (pc := 68) o (190 + (u * 7 + 5)) (i1) rfl ((by omega)) (by decide) dX10_spanItem_68 ?_
            refine g_aload_n (pc := 69) o dX10_spanItem_69 rfl ?_
            refine g_getR (pc := 70) o 0 rfl rfl rfl inX10 (by decide) lf_X10_7 dX10_spanItem_70 ?_
            refine g_sipush (pc := 73) o dX10_spanItem_73 190 rfl ?_
            refine g_bipush (pc := 76) o dX10_spanItem_76 7 rfl ?_
            refine g_iload_n (pc := 78) o dX10_spanItem_78 rfl ?_
            refine g_imul (pc := 79) o dX10_spanItem_79 ?_
            refine g_iadd (pc := 80) o dX10_spanItem_80 ?_
            refine g_iconst (pc := 81) o dX10_spanItem_81 3 rfl ?_
            refine g_iadd (pc := 82) o dX10_spanItem_82 ?_
            refine g_iconst (pc := 83) o dX10_spanItem_83 2 rfl ?_
            refine g_iload_n (pc := 84) o dX10_spanItem_84 rfl ?_
            refine g_imul (pc := 85) o dX10_spanItem_85 ?_
            refine g_iadd (pc := 86) o dX10_spanItem_86 ?_
            refine g_iconst (pc := 87) o dX10_spanItem_87 1 rfl ?_
            refine g_iadd (pc := 88) o dX10_spanItem_88 ?_
            refine g_aload_n (pc := 89) o dX10_spanItem_89 rfl ?_
            refine g_getIE (pc := 90) o 23 rfl rfl rfl inX10 (by decide) lf_X10_270 (e23b) dX10_spanItem_90 ?_
            refine n_iast (pc := 93) o (190 + (u * 7 + (5 + 1))) (i2) rfl ((by omega)) (by decide) dX10_spanItem_93 ?_
            exact g_vret o ρ dX10_spanItem_94 ⟨rfl, (O5.s.w).w, Or.inr ⟨_, rfl, e3, R3, by show upd (upd (h3.1 52) _ _) _ _ = _; rw [e52]; rfl⟩⟩
        · rw [eb] at ρ
          simp only at ρ
          refine g_aload_n (pc := 42) o dX10_spanItem_42 rfl ?_
          refine g_getIE (pc := 43) o 24 rfl rfl rfl inX10 (by decide) lf_X10_261 (e3) dX10_spanItem_43 ?_
          refine g_if_ne (pc := 46) o 94 dX10_spanItem_46 (by decide) (fun c46 => ?_) (fun c46 => ?_)
          · skip
            exact g_vret o ρ dX10_spanItem_94 ⟨rfl, O5.s, Or.inl ⟨_, rfl, e3, R3.1, e52⟩⟩
          · skip
            exact absurd c46 (by decide)
      · skip
        exact absurd c29 (by decide)
    · rw [ea] at ρ
      simp only at ρ
      refine g_aload_n (pc := 21) o dX10_spanItem_21 rfl ?_
      refine g_getI (pc := 22) o 23 rfl rfl rfl inX10 (by decide) lf_X10_270 dX10_spanItem_22 ?_
      refine g_istore_n (pc := 25) o dX10_spanItem_25 (by decide) ?_
      show ca_G Γ 4 _ _ [_, _, _, _] _
      refine g_aload_n (pc := 26) o dX10_spanItem_26 rfl ?_
      refine g_iload_n (pc := 27) o dX10_spanItem_27 rfl ?_
      refine g_iload_n (pc := 28) o dX10_spanItem_28 rfl ?_
      refine g_if_ne (pc := 29) o 37 dX10_spanItem_29 (by decide) (fun c29 => ?_) (fun c29 => ?_)
      · skip
        refine g_bipush (pc := 37) o dX10_spanItem_37 29 rfl ?_
        refine g_callVv (pc := 39) o (m_numberX e2 _ 29) mt_X10_number mv_X10_number lk_X10_281 rfl rfl rfl (by decide) rfl (Nat.le_of_ble_eq_true rfl) dX10_spanItem_39 ?_
        refine g_aload_n (pc := 42) o dX10_spanItem_42 rfl ?_
        refine g_getIE (pc := 43) o 24 rfl rfl rfl inX10 (by decide) lf_X10_261 (e2) dX10_spanItem_43 ?_
        refine g_if_ne (pc := 46) o 94 dX10_spanItem_46 (by decide) (fun c46 => ?_) (fun c46 => ?_)
        · skip
          exact g_vret o ρ dX10_spanItem_94 ⟨rfl, O3.s, Or.inl ⟨_, rfl, e2, R2.1, O3.1 52 (by decide)⟩⟩
        · skip
          exact absurd c46 (by decide)
      · skip
        exact absurd c29 (by decide)
  · skip
    exact absurd c8 (by decide)

