/-! ===== verdict, kept, count, breach ===== -/
theorem nz_b (x : Int32) : ¬ x = 0 ↔ ∃ q, q < 32 ∧ bt x q = true := by
  constructor
  · intro z
    refine Classical.byContradiction (fun w => z (b_ext (fun i hi => ?_)))
    rw [b_0]
    cases e : bt x i with
    | false => rfl
    | true => exact absurd ⟨i, hi, e⟩ w
  · rintro ⟨q, hq, e⟩ z
    rw [z, b_0] at e
    cases e
theorem ask_lt {s : Nat → Int32} (T : okTm s) {t : Nat} (ht : t < 12) : askT s t < 4 := by
  obtain ⟨k, _, _, _, _, _, _, hk, _, _, _, _, _, _, ek, _⟩ := T t ht
  unfold askT
  rw [ek, show ca_n (nI k) = k from nI_clamp (by omega)]
  have := askN_le k hk
  omega
theorem CK_end {s : Nat → Int32} {t : Nat} {p : Int32} {d : Nat} (ha : askT s t < 4) {C : Nat → Int32} {F : Int32} (H : CK s t p d 24 C F) : (anyB (gA (kpL s t p d 24)) 64 = true ↔ ¬ C 0 = 0) ∧ (anyB (gB (kpL s t p d 24)) 64 = true ↔ ¬ F ||| C 1 ||| C 2 ||| C 3 = 0) := by
  have kb : ∀ i, i < 64 → (bl (kpL s t p d 24) i = true ↔ KP s t p d 24 i) := kp_b ha 23
  constructor
  · rw [anyB_t, nz_b]
    constructor
    · rintro ⟨j, hj, e⟩
      simp only [Bool.and_eq_true, decide_eq_true_eq] at e
      exact ⟨j, by omega, (H.1 0 (by omega) j (by omega)).mpr ⟨by omega, by rw [show 8 * 0 + j = j by omega]; exact (kb j hj).mp e.1⟩⟩
    · rintro ⟨q, hq, e⟩
      obtain ⟨q8, k⟩ := (H.1 0 (by omega) q hq).mp e
      refine ⟨q, by omega, ?_⟩
      simp only [Bool.and_eq_true, decide_eq_true_eq]
      exact ⟨(kb q (by omega)).mpr (by rw [show 8 * 0 + q = q by omega] at k; exact k), by omega⟩
  · rw [anyB_t, nz_b]
    constructor
    · rintro ⟨j, hj, e⟩
      simp only [Bool.and_eq_true, Bool.not_eq_true', decide_eq_false_iff_not] at e
      have k := (kb j hj).mp e.1
      refine ⟨j % 8, by omega, ?_⟩
      rw [b_or, b_or, b_or]
      simp only [Bool.or_eq_true]
      by_cases w : j < 32
      · have k2 : bt (C (j / 8)) (j % 8) = true := (H.1 (j / 8) (by omega) (j % 8) (by omega)).mpr ⟨by omega, by rw [show 8 * (j / 8) + j % 8 = j by omega]; exact k⟩
        rcases (by omega : j / 8 = 1 ∨ j / 8 = 2 ∨ j / 8 = 3) with z | z | z
        · rw [z] at k2; exact Or.inl (Or.inl (Or.inr k2))
        · rw [z] at k2; exact Or.inl (Or.inr k2)
        · rw [z] at k2; exact Or.inr k2
      · exact Or.inl (Or.inl (Or.inl ((H.2 (j % 8) (by omega)).mpr ⟨by omega, j / 8 - 4, by omega, by rw [show 8 * (4 + (j / 8 - 4)) + j % 8 = j by omega]; exact k⟩)))
    · rintro ⟨q, hq, e⟩
      rw [b_or, b_or, b_or] at e
      simp only [Bool.or_eq_true] at e
      have key : ∀ x, 1 ≤ x → x < 4 → bt (C x) q = true → ∃ j, j < 64 ∧ gB (kpL s t p d 24) j = true := by
        intro x h1 h2 e
        obtain ⟨q8, k⟩ := (H.1 x h2 q hq).mp e
        refine ⟨8 * x + q, by omega, ?_⟩
        simp only [Bool.and_eq_true, Bool.not_eq_true', decide_eq_false_iff_not]
        exact ⟨(kb _ (by omega)).mpr k, by omega⟩
      rcases e with ((e | e) | e) | e
      · obtain ⟨q8, x, hx, k⟩ := (H.2 q hq).mp e
        refine ⟨8 * (4 + x) + q, by omega, ?_⟩
        simp only [Bool.and_eq_true, Bool.not_eq_true', decide_eq_false_iff_not]
        exact ⟨(kb _ (by omega)).mpr k, by omega⟩
      · exact key 1 (by omega) (by omega) e
      · exact key 2 (by omega) (by omega) e
      · exact key 3 (by omega) (by omega) e
set_option maxRecDepth 100000 in
set_option maxHeartbeats 400000 in
theorem lp_vd2 {Γ : Fr} (o : ca_O Γ cX8_verdict 5 RX8 3 73) {Pr : Option Value → Mem → Prop} (ρ : ca_R Γ (some .int) Pr) {h0 : Mem} {s : Nat → Int32} (B : BR h0 1 s) (I : SI s) (t d : Nat) (ht : t < 12) (hp : ∀ h : Mem, (∀ c, c ≠ 47 → c ≠ 48 → c ≠ 49 → h.1 c = h0.1 c) → Pr (some (.int (kvF s t d))) h) : ∀ m, m ≤ 24 → ∀ (xm : Int32) (h : Mem) (C : Nat → Int32) (F : Int32), xm = nI m → CK s t (tmF s t 1) d m C F → (∀ x, x < 4 → h.1 49 x = C x) → h.1 47 2 = F → (∀ i, i < 24 → h.1 48 i = opF s (tmF s t 1) d i) → (∀ c, c ≠ 47 → c ≠ 48 → c ≠ 49 → h.1 c = h0.1 c) → ca_G Γ 5 h 68 [some (.ref 47), some (.ref 1), some (.int (nI t)), some (.int (nI d)), some (.int xm)] [] := by
  have ha := ask_lt I.tm ht
  refine downI 24 (fun m hm ih => ?_)
  rintro xm h C F rfl H e49 e47 e48 e
  have B2 : BR h 1 s := B.of (fun c hc => e c (fun z => by subst z; revert hc; decide) (fun z => by subst z; revert hc; decide) (fun z => by subst z; revert hc; decide))
  refine g_iload (pc := 68) o dX8_verdict_68 rfl ?_
  refine g_bipush (pc := 70) o dX8_verdict_70 24 rfl ?_
  refine g_ic_ge (pc := 72) o 89 dX8_verdict_72 (by decide) (fun c72 => ?_) (fun c72 => ?_)
  · skip
    have q : m = 24 := ge8 (n := 24) (by decide) (by omega) c72
    subst q
    obtain ⟨k1, k2⟩ := CK_end ha H
    have hp2 := hp h e
    unfold kvF kvL at hp2
    have st122 : ∀ x : Int32, x = bI (anyB (gB (kpL s t (tmF s t 1) d 24)) 64 = true) → ca_G Γ 5 h 122 [some (.ref 47), some (.ref 1), some (.int (nI t)), some (.int (nI d)), some (.int (nI 24))] [.int x] := by
      rintro x rfl
      refine g_istore (pc := 122) o dX8_verdict_122 (by decide) ?_
      show ca_G Γ 5 _ _ [_, _, _, _, _] _
      refine g_aload_n (pc := 124) o dX8_verdict_124 rfl ?_
      refine g_getR (pc := 125) o 1 rfl rfl rfl inX8 (by decide) lf_X8_15 dX8_verdict_125 ?_
      refine g_iconst (pc := 128) o dX8_verdict_128 0 rfl ?_
      refine n_ialdE (pc := 129) o 0 (rfl) rfl ((by omega)) (by decide) (e49 0 (by omega)) dX8_verdict_129 ?_
      refine g_if_ne (pc := 130) o 144 dX8_verdict_130 (by decide) (fun c130 => ?_) (fun c130 => ?_)
      · skip
        rw [if_pos (k1.mpr c130)] at hp2
        refine g_iload (pc := 144) o dX8_verdict_144 rfl ?_
        refine g_if_eq (pc := 146) o 153 dX8_verdict_146 (by decide) (fun c146 => ?_) (fun c146 => ?_)
        · skip
          rw [if_neg (bI_0.mp c146)] at hp2
          refine g_iconst (pc := 153) o dX8_verdict_153 0 rfl ?_
          exact g_iret o ρ dX8_verdict_154 hp2
        · skip
          rw [if_pos (bI_n0.mp c146)] at hp2
          refine g_iconst (pc := 149) o dX8_verdict_149 1 rfl ?_
          refine g_goto (pc := 150) o 154 dX8_verdict_150 (by decide) ?_
          exact g_iret o ρ dX8_verdict_154 hp2
      · skip
        rw [if_neg (fun z => k1.mp z c130)] at hp2
        refine g_iload (pc := 133) o dX8_verdict_133 rfl ?_
        refine g_if_eq (pc := 135) o 142 dX8_verdict_135 (by decide) (fun c135 => ?_) (fun c135 => ?_)
        · skip
          rw [if_neg (bI_0.mp c135)] at hp2
          refine g_iconst (pc := 142) o dX8_verdict_142 3 rfl ?_
          exact g_iret o ρ dX8_verdict_143 hp2
        · skip
          rw [if_pos (bI_n0.mp c135)] at hp2
          refine g_iconst (pc := 138) o dX8_verdict_138 2 rfl ?_
          refine g_goto (pc := 139) o 143 dX8_verdict_139 (by decide) ?_
          exact g_iret o ρ dX8_verdict_143 hp2
    refine g_aload_n (pc := 89) o dX8_verdict_89 rfl ?_
    refine g_getIE (pc := 90) o 2 rfl rfl rfl inX8 (by decide) lf_X8_44 (e47) dX8_verdict_90 ?_
    refine g_aload_n (pc := 93) o dX8_verdict_93 rfl ?_
    refine g_getR (pc := 94) o 1 rfl rfl rfl inX8 (by decide) lf_X8_15 dX8_verdict_94 ?_
    refine g_iconst (pc := 97) o dX8_verdict_97 1 rfl ?_
    refine n_ialdE (pc := 98) o 1 (rfl) rfl ((by omega)) (by decide) (e49 1 (by omega)) dX8_verdict_98 ?_
    refine g_ior (pc := 99) o dX8_verdict_99 ?_
    refine g_aload_n (pc := 100) o dX8_verdict_100 rfl ?_
    refine g_getR (pc := 101) o 1 rfl rfl rfl inX8 (by decide) lf_X8_15 dX8_verdict_101 ?_
    refine g_iconst (pc := 104) o dX8_verdict_104 2 rfl ?_
    refine n_ialdE (pc := 105) o 2 (rfl) rfl ((by omega)) (by decide) (e49 2 (by omega)) dX8_verdict_105 ?_
    refine g_ior (pc := 106) o dX8_verdict_106 ?_
    refine g_aload_n (pc := 107) o dX8_verdict_107 rfl ?_
    refine g_getR (pc := 108) o 1 rfl rfl rfl inX8 (by decide) lf_X8_15 dX8_verdict_108 ?_
    refine g_iconst (pc := 111) o dX8_verdict_111 3 rfl ?_
    refine n_ialdE (pc := 112) o 3 (rfl) rfl ((by omega)) (by decide) (e49 3 (by omega)) dX8_verdict_112 ?_
    refine g_ior (pc := 113) o dX8_verdict_113 ?_
    refine g_if_eq (pc := 114) o 121 dX8_verdict_114 (by decide) (fun c114 => ?_) (fun c114 => ?_)
    · skip
      refine g_iconst (pc := 121) o dX8_verdict_121 0 rfl ?_
      exact st122 _ (bI_f (fun z => k2.mp z c114))
    · skip
      refine g_iconst (pc := 117) o dX8_verdict_117 1 rfl ?_
      refine g_goto (pc := 118) o 122 dX8_verdict_118 (by decide) ?_
      exact st122 _ (bI_t (k2.mpr c114))
  · skip
    have q : m < 24 := lt8 (n := 24) (by decide) (by omega) c72
    have cg := c_goThrough B2 I.tm t m ht q ha _ (e48 m q) C F e49 e47
    refine g_aload_n (pc := 75) o dX8_verdict_75 rfl ?_
    refine g_aload_n (pc := 76) o dX8_verdict_76 rfl ?_
    refine g_iload_n (pc := 77) o dX8_verdict_77 rfl ?_
    refine g_iload (pc := 78) o dX8_verdict_78 rfl ?_
    refine g_callVQv (pc := 80) o (cg) mt_X8_goThrough mv_X8_goThrough lk_X8_48 rfl rfl rfl (by decide) rfl (Nat.le_of_ble_eq_true rfl) dX8_verdict_80 ?_
    rintro h2 w
    refine g_iinc (pc := 83) o dX8_verdict_83 rfl 1 rfl (by decide) ?_
    show ca_G Γ 5 _ _ [_, _, _, _, _] _
    refine g_goto (pc := 86) o 68 dX8_verdict_86 (by decide) ?_
    obtain ⟨w1, w2, w3⟩ := w
    exact ih q _ h2 _ _ (nI_1 m) (CK_s I ht ha H) w1 w2 (fun i hi => by rw [w3 48 (by decide) (by decide)]; exact e48 i hi) (fun c hc1 hc2 hc3 => (w3 c hc1 hc3).trans (e c hc1 hc2 hc3))
set_option maxRecDepth 100000 in
set_option maxHeartbeats 400000 in
theorem lp_vd1 {Γ : Fr} (o : ca_O Γ cX8_verdict 5 RX8 3 73) {h0 : Mem} (x2 x3 : Int32) (kk : ∀ h : Mem, (∀ x, x < 4 → h.1 49 x = 0) → (∀ c, c ≠ 49 → h.1 c = h0.1 c) → ca_G Γ 5 h 44 [some (.ref 47), some (.ref 1), some (.int x2), some (.int x3), some (.int 4)] []) : ∀ m, m ≤ 4 → ∀ (xm : Int32) (h : Mem), xm = nI m → (∀ x, x < m → h.1 49 x = 0) → (∀ c, c ≠ 49 → h.1 c = h0.1 c) → ca_G Γ 5 h 24 [some (.ref 47), some (.ref 1), some (.int x2), some (.int x3), some (.int xm)] [] := by
  refine downI 4 (fun m hm ih => ?_)
  rintro xm h rfl e1 e2
  refine g_iload (pc := 24) o dX8_verdict_24 rfl ?_
  refine g_iconst (pc := 26) o dX8_verdict_26 3 rfl ?_
  refine g_ic_gt (pc := 27) o 44 dX8_verdict_27 (by decide) (fun c27 => ?_) (fun c27 => ?_)
  · skip
    have q : m = 4 := by have := (nI_ltI (a := 3) (b := m) (by decide) (by omega)).mp c27; omega
    subst q
    exact kk h e1 e2
  · skip
    have q : m < 4 := by have := mt (nI_ltI (a := 3) (b := m) (by decide) (by omega)).mpr c27; omega
    refine g_aload_n (pc := 30) o dX8_verdict_30 rfl ?_
    refine g_getR (pc := 31) o 1 rfl rfl rfl inX8 (by decide) lf_X8_15 dX8_verdict_31 ?_
    refine g_iload (pc := 34) o dX8_verdict_34 rfl ?_
    refine g_iconst (pc := 36) o dX8_verdict_36 0 rfl ?_
    refine n_iast (pc := 37) o m (rfl) rfl ((by omega)) (by decide) dX8_verdict_37 ?_
    refine g_iinc (pc := 38) o dX8_verdict_38 rfl 1 rfl (by decide) ?_
    show ca_G Γ 5 _ _ [_, _, _, _, _] _
    refine g_goto (pc := 41) o 24 dX8_verdict_41 (by decide) ?_
    refine ih q _ _ (nI_1 m) (fun x hx => ?_) (fun c hc => (mw_ne _ _ _ hc).trans (e2 c hc))
    rw [mw_same]
    unfold upd
    by_cases w : x = m
    · rw [if_pos w]
    · rw [if_neg w]; exact e1 x (by omega)
theorem CK_0 {s : Nat → Int32} {t : Nat} {p : Int32} {d : Nat} (ha : askT s t < 4) : CK s t p d 0 (upd (fun _ => 0) (askT s t) 255) 0 := by
  refine ⟨fun x hx q hq => ?_, fun q hq => ?_⟩
  · show _ ↔ q < 8 ∧ (8 * x + q) / 8 = askT s t
    unfold upd
    split
    · rename_i z
      rw [b_255, decide_eq_true_eq]
      exact ⟨fun a => ⟨a, by omega⟩, fun a => a.1⟩
    · rename_i z
      rw [b_0]
      exact ⟨fun a => (by cases a), fun a => absurd (by have := a.1; have := a.2; omega) z⟩
  · rw [b_0]
    refine ⟨fun a => (by cases a), ?_⟩
    rintro ⟨q8, x, hx, k⟩
    have k : (8 * (4 + x) + q) / 8 = askT s t := k
    omega
set_option maxRecDepth 100000 in
set_option maxHeartbeats 400000 in
theorem c_verdict {h : Mem} {s : Nat → Int32} (B : BR h 1 s) (I : SI s) (t d : Nat) (ht : t < 12) (hd : d < 30) : Ct yX8_verdict cX8_verdict 5 (some .int) 3 73 [.ref 47, .ref 1, .int (nI t), .int (nI d)] h (Qi (fun r h2 => r = kvF s t d ∧ ∀ c, c ≠ 47 → c ≠ 48 → c ≠ 49 → h2.1 c = h.1 c)) := by
  refine Ct.of (by decide) (Nat.le_of_ble_eq_true rfl) (fun Γ o ρ => ?_)
  show ca_G Γ 5 _ _ [_, _, _, _, _] _
  have ha := ask_lt I.tm ht
  refine g_aload_n (pc := 0) o dX8_verdict_0 rfl ?_
  refine g_getR (pc := 1) o 1 rfl rfl rfl inX0 (by decide) lf_X8_18 dX8_verdict_1 ?_
  refine g_aload_n (pc := 4) o dX8_verdict_4 rfl ?_
  refine g_getR (pc := 5) o 2 rfl rfl rfl inX0 (by decide) lf_X8_24 dX8_verdict_5 ?_
  refine g_iload_n (pc := 8) o dX8_verdict_8 rfl ?_
  refine g_iconst (pc := 9) o dX8_verdict_9 1 rfl ?_
  refine g_callVi (pc := 10) o (c_tf B t 1 ht (by decide)) mt_X7_field mv_X7_field lk_X8_30 rfl rfl rfl (by decide) rfl (Nat.le_of_ble_eq_true rfl) dX8_verdict_10 ?_
  refine g_iload_n (pc := 13) o dX8_verdict_13 rfl ?_
  refine g_aload_n (pc := 14) o dX8_verdict_14 rfl ?_
  refine g_getR (pc := 15) o 0 rfl rfl rfl inX8 (by decide) lf_X8_9 dX8_verdict_15 ?_
  refine g_callVQv (pc := 18) o (c_pin48 B I.seen I.see (tmF s t 1) d hd) mt_X5_pin mv_X5_pin lk_X8_34 rfl rfl rfl (by decide) rfl (Nat.le_of_ble_eq_true rfl) dX8_verdict_18 ?_
  rintro h1 w
  obtain ⟨w1, w2⟩ := w
  refine g_iconst (pc := 21) o dX8_verdict_21 0 rfl ?_
  refine g_istore (pc := 22) o dX8_verdict_22 (by decide) ?_
  show ca_G Γ 5 _ _ [_, _, _, _, _] _
  refine lp_vd1 o (h0 := h1) _ _ (fun h2 z1 z2 => ?_) 0 (by omega) _ h1 rfl (fun x hx => by omega) (fun c hc => rfl)
  have B2 : BR h2 1 s := B.of (fun c hc => (z2 c (fun z => by subst z; revert hc; decide)).trans (w2 c (fun z => by subst z; revert hc; decide)))
  refine g_aload_n (pc := 44) o dX8_verdict_44 rfl ?_
  refine g_getR (pc := 45) o 1 rfl rfl rfl inX8 (by decide) lf_X8_15 dX8_verdict_45 ?_
  refine g_aload_n (pc := 48) o dX8_verdict_48 rfl ?_
  refine g_getR (pc := 49) o 2 rfl rfl rfl inX0 (by decide) lf_X8_24 dX8_verdict_49 ?_
  refine g_iload_n (pc := 52) o dX8_verdict_52 rfl ?_
  refine g_callVi (pc := 53) o (c_asked B2 I.tm t ht) mt_X7_asked mv_X7_asked lk_X8_40 rfl rfl rfl (by decide) rfl (Nat.le_of_ble_eq_true rfl) dX8_verdict_53 ?_
  refine g_sipush (pc := 56) o dX8_verdict_56 255 rfl ?_
  refine n_iast (pc := 59) o (askT s t) (rfl) rfl ((by omega)) (by decide) dX8_verdict_59 ?_
  refine g_aload_n (pc := 60) o dX8_verdict_60 rfl ?_
  refine g_iconst (pc := 61) o dX8_verdict_61 0 rfl ?_
  refine g_put (pc := 62) o 2 rfl rfl rfl inX8 tyX8_ok nmX8 (by decide) lf_X8_44 rfl rfl rfl dX8_verdict_62 ?_
  refine g_iconst (pc := 65) o dX8_verdict_65 0 rfl ?_
  refine g_istore (pc := 66) o dX8_verdict_66 (by decide) ?_
  show ca_G Γ 5 _ _ [_, _, _, _, _] _
  refine lp_vd2 o ρ (h0 := h) B I t d ht (fun h3 e => ⟨_, rfl, rfl, e⟩) 0 (by omega) _ _ _ _ rfl (CK_0 ha) (fun x hx => ?_) ?_ (fun i hi => ?_) (fun c hc1 hc2 hc3 => ?_)
  · rw [mw_ne _ _ _ (by decide), mw_same]
    unfold upd
    by_cases w : x = askT s t
    · rw [if_pos w, if_pos w]
    · rw [if_neg w, if_neg w]; exact z1 x hx
  · rw [mw_same]; rfl
  · rw [mw_ne _ _ _ (by decide), mw_ne _ _ _ (by decide), z2 48 (by decide)]; exact w1 i hi
  · rw [mw_ne _ _ _ hc1, mw_ne _ _ _ hc3, z2 c hc3]; exact w2 c hc2
/-! the operations -/
def op_kept (a b : Int32) (σ : Sg) : Int32 × Sg := if isT (σ 0) a ∧ rng b 0 29 then (if inF (σ 0) (ca_n a) (ca_n b) then (kvF (σ 0) (ca_n a) (ca_n b), σ) else fnd σ 3) else fnd σ 0
theorem CR_tr {h h2 : Mem} {σ : Sg} (C : CR h σ) (e : ∀ c, c ≠ 47 → c ≠ 48 → c ≠ 49 → h2.1 c = h.1 c) : CR h2 σ := C.of (fun k hk => e k (fun z => by subst z; revert hk; decide) (fun z => by subst z; revert hk; decide) (fun z => by subst z; revert hk; decide))
theorem kM_tr {h h2 : Mem} (e : ∀ c, c ≠ 47 → c ≠ 48 → c ≠ 49 → h2.1 c = h.1 c) : kM h h2 := fun k hk => e k (by omega) (by omega) (by omega)
theorem abs_56 {h h2 : Mem} (e : ∀ c, c ≠ 56 → h2.1 c = h.1 c) : absM h2 = absM h := (abs_s (fun k hk => e k (fun z => by subst z; revert hk; decide))).trans (by rw [e 52 (by decide)]; exact sf_id _ _)
theorem kC_56 {h h2 : Mem} (e : ∀ c, c ≠ 56 → h2.1 c = h.1 c) : kC h h2 := fun k hk => e k (by omega)
set_option maxRecDepth 100000 in
set_option maxHeartbeats 400000 in
theorem co_kept {h : Mem} {σ : Sg} (C : CR h σ) (I : Iv σ) (a b : Int32) : Ct yX9_kept cX9_kept 3 (some .int) 4 97 [.ref 0, .int a, .int b] h (Po h (op_kept a b σ)) := by
  refine Ct.of (by decide) (Nat.le_of_ble_eq_true rfl) (fun Γ o ρ => ?_)
  show ca_G Γ 3 _ _ [_, _, _] _
  refine g_aload_n (pc := 0) o dX9_kept_0 rfl ?_
  refine g_getR (pc := 1) o 0 rfl rfl rfl inX9 (by decide) lf_X9_10 dX9_kept_1 ?_
  refine g_getR (pc := 4) o 2 rfl rfl rfl inX0 (by decide) lf_X9_137 dX9_kept_4 ?_
  refine g_iload_n (pc := 7) o dX9_kept_7 rfl ?_
  refine g_callVi (pc := 8) o (c_isTerm C.1 a) mt_X7_isTerm mv_X7_isTerm lk_X9_146 rfl rfl rfl (by decide) rfl (Nat.le_of_ble_eq_true rfl) dX9_kept_8 ?_
  refine g_if_eq (pc := 11) o 21 dX9_kept_11 (by decide) (fun c11 => ?_) (fun c11 => ?_)
  · skip
    refine g_aload_n (pc := 21) o dX9_kept_21 rfl ?_
    refine g_iconst (pc := 22) o dX9_kept_22 0 rfl ?_
    refine g_callVi (pc := 23) o (c_finding 0 (by decide) h) mt_X9_finding mv_X9_finding lk_X9_58 rfl rfl rfl (by decide) rfl (Nat.le_of_ble_eq_true rfl) dX9_kept_23 ?_
    exact g_iret o ρ dX9_kept_26 (Po.eq (if_neg (fun z => bI_0.mp c11 z.1)) (Po_fnd C (by decide)))
  · skip
    refine g_iload_n (pc := 14) o dX9_kept_14 rfl ?_
    refine g_callSi (pc := 15) o (c_isDay b h) mt_X9_isDay ms_X9_isDay lk_X9_126 rfl (by decide) rfl (Nat.le_of_ble_eq_true rfl) dX9_kept_15 ?_
    refine g_if_ne (pc := 18) o 27 dX9_kept_18 (by decide) (fun c18 => ?_) (fun c18 => ?_)
    · skip
      have k1 := bI_n0.mp c11
      have k2 := bI_n0.mp c18
      have eq : op_kept a b σ = if inF (σ 0) (ca_n a) (ca_n b) then (kvF (σ 0) (ca_n a) (ca_n b), σ) else fnd σ 3 := if_pos ⟨k1, k2⟩
      rw [eq] at ρ
      obtain ⟨t, ht, ht2, rfl, et⟩ := t_of I.1.terms k1
      obtain ⟨d, hd, rfl, ed⟩ := n_of (x := b) (b := 29) k2 (by decide)
      rw [et, ed] at ρ
      refine g_aload_n (pc := 27) o dX9_kept_27 rfl ?_
      refine g_getR (pc := 28) o 0 rfl rfl rfl inX9 (by decide) lf_X9_10 dX9_kept_28 ?_
      refine g_getR (pc := 31) o 2 rfl rfl rfl inX0 (by decide) lf_X9_137 dX9_kept_31 ?_
      refine g_iload_n (pc := 34) o dX9_kept_34 rfl ?_
      refine g_iload_n (pc := 35) o dX9_kept_35 rfl ?_
      refine g_callVi (pc := 36) o (c_isBinding C.1 t d ht2 (by omega)) mt_X7_isBinding mv_X7_isBinding lk_X9_170 rfl rfl rfl (by decide) rfl (Nat.le_of_ble_eq_true rfl) dX9_kept_36 ?_
      refine g_if_ne (pc := 39) o 48 dX9_kept_39 (by decide) (fun c39 => ?_) (fun c39 => ?_)
      · skip
        have k3 := bI_n0.mp c39
        rw [if_pos k3] at ρ
        refine g_aload_n (pc := 48) o dX9_kept_48 rfl ?_
        refine g_getR (pc := 49) o 7 rfl rfl rfl inX9 (by decide) lf_X9_47 dX9_kept_49 ?_
        refine g_aload_n (pc := 52) o dX9_kept_52 rfl ?_
        refine g_getR (pc := 53) o 0 rfl rfl rfl inX9 (by decide) lf_X9_10 dX9_kept_53 ?_
        refine g_iload_n (pc := 56) o dX9_kept_56 rfl ?_
        refine g_iload_n (pc := 57) o dX9_kept_57 rfl ?_
        refine g_callVQi (pc := 58) o (c_verdict C.1 I.1 t d ht2 (by omega)) mt_X8_verdict mv_X8_verdict lk_X9_173 rfl rfl rfl (by decide) rfl (Nat.le_of_ble_eq_true rfl) dX9_kept_58 ?_
        rintro r h2 w
        obtain ⟨rfl, w⟩ := w
        exact g_iret o ρ dX9_kept_61 (Po.mk rfl (CR_tr C w) (kM_tr w))
      · skip
        refine g_aload_n (pc := 42) o dX9_kept_42 rfl ?_
        refine g_iconst (pc := 43) o dX9_kept_43 3 rfl ?_
        refine g_callVi (pc := 44) o (c_finding 3 (by decide) h) mt_X9_finding mv_X9_finding lk_X9_58 rfl rfl rfl (by decide) rfl (Nat.le_of_ble_eq_true rfl) dX9_kept_44 ?_
        exact g_iret o ρ dX9_kept_47 (Po.eq (if_neg (fun z => bI_0.mp c39 z)) (Po_fnd C (by decide)))
    · skip
      refine g_aload_n (pc := 21) o dX9_kept_21 rfl ?_
      refine g_iconst (pc := 22) o dX9_kept_22 0 rfl ?_
      refine g_callVi (pc := 23) o (c_finding 0 (by decide) h) mt_X9_finding mv_X9_finding lk_X9_58 rfl rfl rfl (by decide) rfl (Nat.le_of_ble_eq_true rfl) dX9_kept_23 ?_
      exact g_iret o ρ dX9_kept_26 (Po.eq (if_neg (fun z => bI_0.mp c18 z.2)) (Po_fnd C (by decide)))
set_option maxRecDepth 100000 in
set_option maxHeartbeats 400000 in
theorem mo_kept {h : Mem} (I : Iv (absM h)) (a b : Int32) : Ct yX10_kept cX10_kept 3 (some .int) 4 108 [.ref 51, .int a, .int b] h (Pm h (op_kept a b (absM h))) := by
  refine Ct.of (by decide) (Nat.le_of_ble_eq_true rfl) (fun Γ o ρ => ?_)
  show ca_G Γ 3 _ _ [_, _, _] _
  have ok : okT (h.1 52) := I.1.terms
  refine g_aload_n (pc := 0) o dX10_kept_0 rfl ?_
  refine g_iload_n (pc := 1) o dX10_kept_1 rfl ?_
  refine g_callVi (pc := 2) o (m_isTerm ok a) mt_X10_isTerm mv_X10_isTerm lk_X10_145 rfl rfl rfl (by decide) rfl (Nat.le_of_ble_eq_true rfl) dX10_kept_2 ?_
  refine g_if_eq (pc := 5) o 15 dX10_kept_5 (by decide) (fun c5 => ?_) (fun c5 => ?_)
  · skip
    refine g_aload_n (pc := 15) o dX10_kept_15 rfl ?_
    refine g_ldc (pc := 16) o dX10_kept_16 lc_X10_68 ?_
    refine g_callVi (pc := 18) o (m_finds 0 (by decide) h) mt_X10_finds mv_X10_finds lk_X10_86 rfl rfl rfl (by decide) rfl (Nat.le_of_ble_eq_true rfl) dX10_kept_18 ?_
    exact g_iret o ρ dX10_kept_21 (Pm.eq (if_neg (fun z => bI_0.mp c5 z.1)) (Pm_fnd rfl (kC.rf h) (by decide)))
  · skip
    refine g_iload_n (pc := 8) o dX10_kept_8 rfl ?_
    refine g_callSi (pc := 9) o (m_isDay b h) mt_X10_isDay ms_X10_isDay lk_X10_122 rfl (by decide) rfl (Nat.le_of_ble_eq_true rfl) dX10_kept_9 ?_
    refine g_if_ne (pc := 12) o 22 dX10_kept_12 (by decide) (fun c12 => ?_) (fun c12 => ?_)
    · skip
      have k1 := bI_n0.mp c5
      have k2 := bI_n0.mp c12
      have eq : op_kept a b (absM h) = if inF (h.1 52) (ca_n a) (ca_n b) then (kvF (h.1 52) (ca_n a) (ca_n b), absM h) else fnd (absM h) 3 := if_pos ⟨k1, k2⟩
      rw [eq] at ρ
      obtain ⟨t, ht, ht2, rfl, et⟩ := t_of ok k1
      obtain ⟨d, hd, rfl, ed⟩ := n_of (x := b) (b := 29) k2 (by decide)
      rw [et, ed] at ρ
      refine g_aload_n (pc := 22) o dX10_kept_22 rfl ?_
      refine g_iload_n (pc := 23) o dX10_kept_23 rfl ?_
      refine g_iload_n (pc := 24) o dX10_kept_24 rfl ?_
      refine g_callVi (pc := 25) o (m_isInForce t d ht2 (by omega)) mt_X10_isInForce mv_X10_isInForce lk_X10_157 rfl rfl rfl (by decide) rfl (Nat.le_of_ble_eq_true rfl) dX10_kept_25 ?_
      refine g_if_eq (pc := 28) o 40 dX10_kept_28 (by decide) (fun c28 => ?_) (fun c28 => ?_)
      · skip
        rw [if_neg (bI_0.mp c28)] at ρ
        refine g_aload_n (pc := 40) o dX10_kept_40 rfl ?_
        refine g_ldc (pc := 41) o dX10_kept_41 lc_X10_97 ?_
        refine g_callVi (pc := 43) o (m_finds 3 (by decide) h) mt_X10_finds mv_X10_finds lk_X10_86 rfl rfl rfl (by decide) rfl (Nat.le_of_ble_eq_true rfl) dX10_kept_43 ?_
        exact g_iret o ρ dX10_kept_46 (Pm_fnd rfl (kC.rf h) (by decide))
      · skip
        rw [if_pos (bI_n0.mp c28)] at ρ
        refine g_aload_n (pc := 31) o dX10_kept_31 rfl ?_
        refine g_iload_n (pc := 32) o dX10_kept_32 rfl ?_
        refine g_iload_n (pc := 33) o dX10_kept_33 rfl ?_
        refine g_callVQi (pc := 34) o (m_keptOf I.1.seen I.1.see I.1.tm t d ht2 (by omega)) mt_X10_keptOf mv_X10_keptOf lk_X10_170 rfl rfl rfl (by decide) rfl (Nat.le_of_ble_eq_true rfl) dX10_kept_34 ?_
        rintro r h2 w
        refine g_goto (pc := 37) o 46 dX10_kept_37 (by decide) ?_
        obtain ⟨rfl, w⟩ := w
        exact g_iret o ρ dX10_kept_46 (Pm.mk rfl (abs_56 w) (kC_56 w))
    · skip
      refine g_aload_n (pc := 15) o dX10_kept_15 rfl ?_
      refine g_ldc (pc := 16) o dX10_kept_16 lc_X10_68 ?_
      refine g_callVi (pc := 18) o (m_finds 0 (by decide) h) mt_X10_finds mv_X10_finds lk_X10_86 rfl rfl rfl (by decide) rfl (Nat.le_of_ble_eq_true rfl) dX10_kept_18 ?_
      exact g_iret o ρ dX10_kept_21 (Pm.eq (if_neg (fun z => bI_0.mp c12 z.2)) (Pm_fnd rfl (kC.rf h) (by decide)))
def cnF (s : Nat → Int32) (t : Nat) (v : Int32) : Nat → Nat → Nat
  | 0, _ => 0
  | n + 1, d => (if inF s t d ∧ kvF s t d = v then 1 else 0) + cnF s t v n (d + 1)
theorem cnF_s (s : Nat → Int32) (t : Nat) (v : Int32) (n d : Nat) : cnF s t v (n + 1) d = (if inF s t d ∧ kvF s t d = v then 1 else 0) + cnF s t v n (d + 1) := rfl
def op_count (a b c v : Int32) (σ : Sg) : Int32 × Sg := if isT (σ 0) a ∧ rng b 0 29 ∧ rng c 0 29 ∧ b ≤ c ∧ rng v 0 3 then (nI (cnF (σ 0) (ca_n a) v (ca_n c + 1 - ca_n b) (ca_n b)), σ) else fnd σ 0
set_option maxRecDepth 100000 in
set_option maxHeartbeats 400000 in
theorem lp_count {Γ : Fr} (o : ca_O Γ cX9_count 7 RX9 4 97) {Pr : Option Value → Mem → Prop} (ρ : ca_R Γ (some .int) Pr) {h0 : Mem} {s : Nat → Int32} (B : BR h0 1 s) (I : SI s) (t b c : Nat) (v : Int32) (ht : t < 12) (hc : c < 30) (r : Nat) (hp : ∀ h : Mem, (∀ c, c ≠ 47 → c ≠ 48 → c ≠ 49 → h.1 c = h0.1 c) → Pr (some (.int (nI r))) h) : ∀ d, d ≤ c + 1 → ∀ (xd : Int32) (h : Mem) (n : Nat), xd = nI d → n + cnF s t v (c + 1 - d) d = r → (∀ c, c ≠ 47 → c ≠ 48 → c ≠ 49 → h.1 c = h0.1 c) → ca_G Γ 7 h 62 [some (.ref 0), some (.int (nI t)), some (.int (nI b)), some (.int (nI c)), some (.int v), some (.int (nI n)), some (.int xd)] [] := by
  refine downI (c + 1) (fun d hd ih => ?_)
  rintro xd h n rfl en e
  have B2 : BR h 1 s := B.of (fun c hc => e c (fun z => by subst z; revert hc; decide) (fun z => by subst z; revert hc; decide) (fun z => by subst z; revert hc; decide))
  refine g_iload (pc := 62) o dX9_count_62 rfl ?_
  refine g_iload_n (pc := 64) o dX9_count_64 rfl ?_
  refine g_ic_gt (pc := 65) o 112 dX9_count_65 (by decide) (fun c65 => ?_) (fun c65 => ?_)
  · skip
    have q : d = c + 1 := by have := (nI_ltI (by omega) (by omega)).mp c65; omega
    subst q
    rw [Nat.sub_self] at en
    have en : n + 0 = r := en
    refine g_iload (pc := 112) o dX9_count_112 rfl ?_
    exact g_iret o ρ dX9_count_114 (by have := hp h e; rw [← en] at this; exact this)
  · skip
    have q : d ≤ c := by have := mt (nI_ltI (a := c) (b := d) (by omega) (by omega)).mpr c65; omega
    rw [show c + 1 - d = (c + 1 - (d + 1)) + 1 by omega, cnF_s] at en
    refine g_aload_n (pc := 68) o dX9_count_68 rfl ?_
    refine g_getR (pc := 69) o 0 rfl rfl rfl inX9 (by decide) lf_X9_10 dX9_count_69 ?_
    refine g_getR (pc := 72) o 2 rfl rfl rfl inX0 (by decide) lf_X9_137 dX9_count_72 ?_
    refine g_iload_n (pc := 75) o dX9_count_75 rfl ?_
    refine g_iload (pc := 76) o dX9_count_76 rfl ?_
    refine g_callVi (pc := 78) o (c_isBinding B2 t d ht (by omega)) mt_X7_isBinding mv_X7_isBinding lk_X9_170 rfl rfl rfl (by decide) rfl (Nat.le_of_ble_eq_true rfl) dX9_count_78 ?_
    refine g_if_eq (pc := 81) o 106 dX9_count_81 (by decide) (fun c81 => ?_) (fun c81 => ?_)
    · skip
      have z := bI_0.mp c81
      rw [if_neg (fun w => z w.1)] at en
      refine g_iinc (pc := 106) o dX9_count_106 rfl 1 rfl (by decide) ?_
      show ca_G Γ 7 _ _ [_, _, _, _, _, _, _] _
      refine g_goto (pc := 109) o 62 dX9_count_109 (by decide) ?_
      exact ih (by omega) _ h n (nI_1 d) (by omega) e
    · skip
      have z := bI_n0.mp c81
      refine g_aload_n (pc := 84) o dX9_count_84 rfl ?_
      refine g_getR (pc := 85) o 7 rfl rfl rfl inX9 (by decide) lf_X9_47 dX9_count_85 ?_
      refine g_aload_n (pc := 88) o dX9_count_88 rfl ?_
      refine g_getR (pc := 89) o 0 rfl rfl rfl inX9 (by decide) lf_X9_10 dX9_count_89 ?_
      refine g_iload_n (pc := 92) o dX9_count_92 rfl ?_
      refine g_iload (pc := 93) o dX9_count_93 rfl ?_
      refine g_callVQi (pc := 95) o (c_verdict B2 I t d ht (by omega)) mt_X8_verdict mv_X8_verdict lk_X9_173 rfl rfl rfl (by decide) rfl (Nat.le_of_ble_eq_true rfl) dX9_count_95 ?_
      rintro r2 h2 w
      obtain ⟨rfl, w⟩ := w
      have ew2 : ∀ c, c ≠ 47 → c ≠ 48 → c ≠ 49 → h2.1 c = h0.1 c := fun c a1 a2 a3 => (w c a1 a2 a3).trans (e c a1 a2 a3)
      refine g_iload (pc := 98) o dX9_count_98 rfl ?_
      refine g_ic_ne (pc := 100) o 106 dX9_count_100 (by decide) (fun c100 => ?_) (fun c100 => ?_)
      · skip
        rw [if_neg (fun w => c100 w.2)] at en
        refine g_iinc (pc := 106) o dX9_count_106 rfl 1 rfl (by decide) ?_
        show ca_G Γ 7 _ _ [_, _, _, _, _, _, _] _
        refine g_goto (pc := 109) o 62 dX9_count_109 (by decide) ?_
        exact ih (by omega) _ h2 n (nI_1 d) (by omega) ew2
      · skip
        rw [if_pos ⟨z, c100⟩] at en
        refine g_iinc (pc := 103) o dX9_count_103 rfl 1 rfl (by decide) ?_
        show ca_G Γ 7 _ _ [_, _, _, _, _, _, _] _
        refine g_iinc (pc := 106) o dX9_count_106 rfl 1 rfl (by decide) ?_
        show ca_G Γ 7 _ _ [_, _, _, _, _, _, _] _
        refine g_goto (pc := 109) o 62 dX9_count_109 (by decide) ?_
        rw [show nI n + 1 = nI (n + 1) from nI_1 n]
        exact ih (by omega) _ h2 (n + 1) (nI_1 d) (by omega) ew2
set_option maxRecDepth 100000 in
set_option maxHeartbeats 400000 in
theorem co_count {h : Mem} {σ : Sg} (C : CR h σ) (I : Iv σ) (a b c v : Int32) : Ct yX9_count cX9_count 7 (some .int) 4 97 [.ref 0, .int a, .int b, .int c, .int v] h (Po h (op_count a b c v σ)) := by
  refine Ct.of (by decide) (Nat.le_of_ble_eq_true rfl) (fun Γ o ρ => ?_)
  show ca_G Γ 7 _ _ [_, _, _, _, _, _, _] _
  refine g_aload_n (pc := 0) o dX9_count_0 rfl ?_
  refine g_getR (pc := 1) o 0 rfl rfl rfl inX9 (by decide) lf_X9_10 dX9_count_1 ?_
  refine g_getR (pc := 4) o 2 rfl rfl rfl inX0 (by decide) lf_X9_137 dX9_count_4 ?_
  refine g_iload_n (pc := 7) o dX9_count_7 rfl ?_
  refine g_callVi (pc := 8) o (c_isTerm C.1 a) mt_X7_isTerm mv_X7_isTerm lk_X9_146 rfl rfl rfl (by decide) rfl (Nat.le_of_ble_eq_true rfl) dX9_count_8 ?_
  refine g_if_eq (pc := 11) o 33 dX9_count_11 (by decide) (fun c11 => ?_) (fun c11 => ?_)
  · skip
    refine g_aload_n (pc := 33) o dX9_count_33 rfl ?_
    refine g_iconst (pc := 34) o dX9_count_34 0 rfl ?_
    refine g_callVi (pc := 35) o (c_finding 0 (by decide) h) mt_X9_finding mv_X9_finding lk_X9_58 rfl rfl rfl (by decide) rfl (Nat.le_of_ble_eq_true rfl) dX9_count_35 ?_
    exact g_iret o ρ dX9_count_38 (Po.eq (if_neg (fun z => bI_0.mp c11 z.1)) (Po_fnd C (by decide)))
  · skip
    refine g_iload_n (pc := 14) o dX9_count_14 rfl ?_
    refine g_callSi (pc := 15) o (c_isDay b h) mt_X9_isDay ms_X9_isDay lk_X9_126 rfl (by decide) rfl (Nat.le_of_ble_eq_true rfl) dX9_count_15 ?_
    refine g_if_eq (pc := 18) o 33 dX9_count_18 (by decide) (fun c18 => ?_) (fun c18 => ?_)
    · skip
      refine g_aload_n (pc := 33) o dX9_count_33 rfl ?_
      refine g_iconst (pc := 34) o dX9_count_34 0 rfl ?_
      refine g_callVi (pc := 35) o (c_finding 0 (by decide) h) mt_X9_finding mv_X9_finding lk_X9_58 rfl rfl rfl (by decide) rfl (Nat.le_of_ble_eq_true rfl) dX9_count_35 ?_
      exact g_iret o ρ dX9_count_38 (Po.eq (if_neg (fun z => bI_0.mp c18 z.2.1)) (Po_fnd C (by decide)))
    · skip
      refine g_iload_n (pc := 21) o dX9_count_21 rfl ?_
      refine g_callSi (pc := 22) o (c_isDay c h) mt_X9_isDay ms_X9_isDay lk_X9_126 rfl (by decide) rfl (Nat.le_of_ble_eq_true rfl) dX9_count_22 ?_
      refine g_if_eq (pc := 25) o 33 dX9_count_25 (by decide) (fun c25 => ?_) (fun c25 => ?_)
      · skip
        refine g_aload_n (pc := 33) o dX9_count_33 rfl ?_
        refine g_iconst (pc := 34) o dX9_count_34 0 rfl ?_
        refine g_callVi (pc := 35) o (c_finding 0 (by decide) h) mt_X9_finding mv_X9_finding lk_X9_58 rfl rfl rfl (by decide) rfl (Nat.le_of_ble_eq_true rfl) dX9_count_35 ?_
        exact g_iret o ρ dX9_count_38 (Po.eq (if_neg (fun z => bI_0.mp c25 z.2.2.1)) (Po_fnd C (by decide)))
      · skip
        refine g_iload_n (pc := 28) o dX9_count_28 rfl ?_
        refine g_iload_n (pc := 29) o dX9_count_29 rfl ?_
        refine g_ic_ge (pc := 30) o 39 dX9_count_30 (by decide) (fun c30 => ?_) (fun c30 => ?_)
        · skip
          refine g_iload (pc := 39) o dX9_count_39 rfl ?_
          refine g_if_lt (pc := 41) o 50 dX9_count_41 (by decide) (fun c41 => ?_) (fun c41 => ?_)
          · skip
            refine g_aload_n (pc := 50) o dX9_count_50 rfl ?_
            refine g_iconst (pc := 51) o dX9_count_51 0 rfl ?_
            refine g_callVi (pc := 52) o (c_finding 0 (by decide) h) mt_X9_finding mv_X9_finding lk_X9_58 rfl rfl rfl (by decide) rfl (Nat.le_of_ble_eq_true rfl) dX9_count_52 ?_
            exact g_iret o ρ dX9_count_55 (Po.eq (if_neg (fun z => (by have := (lt0 v).mp c41; have := z.2.2.2.2.1; omega))) (Po_fnd C (by decide)))
          · skip
            refine g_iload (pc := 44) o dX9_count_44 rfl ?_
            refine g_iconst (pc := 46) o dX9_count_46 3 rfl ?_
            refine g_ic_le (pc := 47) o 56 dX9_count_47 (by decide) (fun c47 => ?_) (fun c47 => ?_)
            · skip
              have k1 := bI_n0.mp c11
              have k2 := bI_n0.mp c18
              have k3 := bI_n0.mp c25
              have k5 := mt (lt0 v).mpr c41
              have k6 := (leN v 3 (by decide)).mp c47
              have eq : op_count a b c v σ = (nI (cnF (σ 0) (ca_n a) v (ca_n c + 1 - ca_n b) (ca_n b)), σ) := if_pos ⟨k1, k2, k3, c30, by omega, by omega⟩
              rw [eq] at ρ
              obtain ⟨t, ht, ht2, rfl, et⟩ := t_of I.1.terms k1
              obtain ⟨x, hx, rfl, ex⟩ := n_of (x := b) (b := 29) k2 (by decide)
              obtain ⟨y, hy, rfl, ey⟩ := n_of (x := c) (b := 29) k3 (by decide)
              rw [et, ex, ey] at ρ
              have xy : x ≤ y := (nI_leI (by omega) (by omega)).mp c30
              refine g_iconst (pc := 56) o dX9_count_56 0 rfl ?_
              refine g_istore (pc := 57) o dX9_count_57 (by decide) ?_
              show ca_G Γ 7 _ _ [_, _, _, _, _, _, _] _
              refine g_iload_n (pc := 59) o dX9_count_59 rfl ?_
              refine g_istore (pc := 60) o dX9_count_60 (by decide) ?_
              show ca_G Γ 7 _ _ [_, _, _, _, _, _, _] _
              exact lp_count o ρ C.1 I.1 t x y v ht2 (by omega) _ (fun h2 e => Po.mk rfl (CR_tr C e) (kM_tr e)) x (by omega) _ h 0 rfl (by omega) (fun c _ _ _ => rfl)
            · skip
              refine g_aload_n (pc := 50) o dX9_count_50 rfl ?_
              refine g_iconst (pc := 51) o dX9_count_51 0 rfl ?_
              refine g_callVi (pc := 52) o (c_finding 0 (by decide) h) mt_X9_finding mv_X9_finding lk_X9_58 rfl rfl rfl (by decide) rfl (Nat.le_of_ble_eq_true rfl) dX9_count_52 ?_
              exact g_iret o ρ dX9_count_55 (Po.eq (if_neg (fun z => (by have := mt (leN v 3 (by decide)).mpr c47; have := z.2.2.2.2.2; omega))) (Po_fnd C (by decide)))
        · skip
          refine g_aload_n (pc := 33) o dX9_count_33 rfl ?_
          refine g_iconst (pc := 34) o dX9_count_34 0 rfl ?_
          refine g_callVi (pc := 35) o (c_finding 0 (by decide) h) mt_X9_finding mv_X9_finding lk_X9_58 rfl rfl rfl (by decide) rfl (Nat.le_of_ble_eq_true rfl) dX9_count_35 ?_
          exact g_iret o ρ dX9_count_38 (Po.eq (if_neg (fun z => c30 z.2.2.2.1)) (Po_fnd C (by decide)))
set_option maxRecDepth 100000 in
set_option maxHeartbeats 400000 in
theorem lp_mcount {Γ : Fr} (o : ca_O Γ cX10_count 7 RX10 4 108) {Pr : Option Value → Mem → Prop} (ρ : ca_R Γ (some .int) Pr) {h0 : Mem} (I : SI (h0.1 52)) (t b c : Nat) (v : Int32) (ht : t < 12) (hc : c < 30) (r : Nat) (hp : ∀ h : Mem, (∀ c, c ≠ 56 → h.1 c = h0.1 c) → Pr (some (.int (nI r))) h) : ∀ d, d ≤ c + 1 → ∀ (xd : Int32) (h : Mem) (n : Nat), xd = nI d → n + cnF (h0.1 52) t v (c + 1 - d) d = r → (∀ c, c ≠ 56 → h.1 c = h0.1 c) → ca_G Γ 7 h 53 [some (.ref 51), some (.int (nI t)), some (.int (nI b)), some (.int (nI c)), some (.int v), some (.int (nI n)), some (.int xd)] [] := by
  refine downI (c + 1) (fun d hd ih => ?_)
  rintro xd h n rfl en e
  have e52 : h.1 52 = h0.1 52 := e 52 (by decide)
  refine g_iload (pc := 53) o dX10_count_53 rfl ?_
  refine g_iload_n (pc := 55) o dX10_count_55 rfl ?_
  refine g_ic_gt (pc := 56) o 97 dX10_count_56 (by decide) (fun c56 => ?_) (fun c56 => ?_)
  · skip
    have q : d = c + 1 := by have := (nI_ltI (by omega) (by omega)).mp c56; omega
    subst q
    rw [Nat.sub_self] at en
    have en : n + 0 = r := en
    refine g_iload (pc := 97) o dX10_count_97 rfl ?_
    exact g_iret o ρ dX10_count_99 (by have := hp h e; rw [← en] at this; exact this)
  · skip
    have q : d ≤ c := by have := mt (nI_ltI (a := c) (b := d) (by omega) (by omega)).mpr c56; omega
    rw [show c + 1 - d = (c + 1 - (d + 1)) + 1 by omega, cnF_s] at en
    have ci := m_isInForce (h := h) t d ht (by omega)
    rw [e52] at ci
    have ck := m_keptOf (h := h) (by rw [e52]; exact I.seen) (by rw [e52]; exact I.see) (by rw [e52]; exact I.tm) t d ht (by omega)
    rw [e52] at ck
    have nz : nI n + 0 = nI n := nI_add n 0
    refine g_iload (pc := 59) o dX10_count_59 rfl ?_
    refine g_aload_n (pc := 61) o dX10_count_61 rfl ?_
    refine g_iload_n (pc := 62) o dX10_count_62 rfl ?_
    refine g_iload (pc := 63) o dX10_count_63 rfl ?_
    refine g_callVi (pc := 65) o (ci) mt_X10_isInForce mv_X10_isInForce lk_X10_157 rfl rfl rfl (by decide) rfl (Nat.le_of_ble_eq_true rfl) dX10_count_65 ?_
    refine g_if_eq (pc := 68) o 87 dX10_count_68 (by decide) (fun c68 => ?_) (fun c68 => ?_)
    · skip
      have z := bI_0.mp c68
      rw [if_neg (fun w => z w.1)] at en
      refine g_iconst (pc := 87) o dX10_count_87 0 rfl ?_
      refine g_iadd (pc := 88) o dX10_count_88 ?_
      rw [nz]
      refine g_istore (pc := 89) o dX10_count_89 (by decide) ?_
      show ca_G Γ 7 _ _ [_, _, _, _, _, _, _] _
      refine g_iinc (pc := 91) o dX10_count_91 rfl 1 rfl (by decide) ?_
      show ca_G Γ 7 _ _ [_, _, _, _, _, _, _] _
      refine g_goto (pc := 94) o 53 dX10_count_94 (by decide) ?_
      exact ih (by omega) _ h n (nI_1 d) (by omega) e
    · skip
      have z := bI_n0.mp c68
      refine g_aload_n (pc := 71) o dX10_count_71 rfl ?_
      refine g_iload_n (pc := 72) o dX10_count_72 rfl ?_
      refine g_iload (pc := 73) o dX10_count_73 rfl ?_
      refine g_callVQi (pc := 75) o (ck) mt_X10_keptOf mv_X10_keptOf lk_X10_170 rfl rfl rfl (by decide) rfl (Nat.le_of_ble_eq_true rfl) dX10_count_75 ?_
      rintro r2 h2 w
      obtain ⟨rfl, w⟩ := w
      have ew2 : ∀ c, c ≠ 56 → h2.1 c = h0.1 c := fun c a1 => (w c a1).trans (e c a1)
      refine g_iload (pc := 78) o dX10_count_78 rfl ?_
      refine g_ic_ne (pc := 80) o 87 dX10_count_80 (by decide) (fun c80 => ?_) (fun c80 => ?_)
      · skip
        rw [if_neg (fun w => c80 w.2)] at en
        refine g_iconst (pc := 87) o dX10_count_87 0 rfl ?_
        refine g_iadd (pc := 88) o dX10_count_88 ?_
        rw [nz]
        refine g_istore (pc := 89) o dX10_count_89 (by decide) ?_
        show ca_G Γ 7 _ _ [_, _, _, _, _, _, _] _
        refine g_iinc (pc := 91) o dX10_count_91 rfl 1 rfl (by decide) ?_
        show ca_G Γ 7 _ _ [_, _, _, _, _, _, _] _
        refine g_goto (pc := 94) o 53 dX10_count_94 (by decide) ?_
        exact ih (by omega) _ h2 n (nI_1 d) (by omega) ew2
      · skip
        rw [if_pos ⟨z, c80⟩] at en
        refine g_iconst (pc := 83) o dX10_count_83 1 rfl ?_
        refine g_goto (pc := 84) o 88 dX10_count_84 (by decide) ?_
        refine g_iadd (pc := 88) o dX10_count_88 ?_
        rw [show nI n + 1 = nI (n + 1) from nI_1 n]
        refine g_istore (pc := 89) o dX10_count_89 (by decide) ?_
        show ca_G Γ 7 _ _ [_, _, _, _, _, _, _] _
        refine g_iinc (pc := 91) o dX10_count_91 rfl 1 rfl (by decide) ?_
        show ca_G Γ 7 _ _ [_, _, _, _, _, _, _] _
        refine g_goto (pc := 94) o 53 dX10_count_94 (by decide) ?_
        exact ih (by omega) _ h2 (n + 1) (nI_1 d) (by omega) ew2
set_option maxRecDepth 100000 in
set_option maxHeartbeats 400000 in
theorem mo_count {h : Mem} (I : Iv (absM h)) (a b c v : Int32) : Ct yX10_count cX10_count 7 (some .int) 4 108 [.ref 51, .int a, .int b, .int c, .int v] h (Pm h (op_count a b c v (absM h))) := by
  refine Ct.of (by decide) (Nat.le_of_ble_eq_true rfl) (fun Γ o ρ => ?_)
  show ca_G Γ 7 _ _ [_, _, _, _, _, _, _] _
  have ok : okT (h.1 52) := I.1.terms
  have d1 := in_rng v 0 3 (by decide)
  refine g_aload_n (pc := 0) o dX10_count_0 rfl ?_
  refine g_iload_n (pc := 1) o dX10_count_1 rfl ?_
  refine g_callVi (pc := 2) o (m_isTerm ok a) mt_X10_isTerm mv_X10_isTerm lk_X10_145 rfl rfl rfl (by decide) rfl (Nat.le_of_ble_eq_true rfl) dX10_count_2 ?_
  refine g_if_eq (pc := 5) o 40 dX10_count_5 (by decide) (fun c5 => ?_) (fun c5 => ?_)
  · skip
    refine g_aload_n (pc := 40) o dX10_count_40 rfl ?_
    refine g_ldc (pc := 41) o dX10_count_41 lc_X10_68 ?_
    refine g_callVi (pc := 43) o (m_finds 0 (by decide) h) mt_X10_finds mv_X10_finds lk_X10_86 rfl rfl rfl (by decide) rfl (Nat.le_of_ble_eq_true rfl) dX10_count_43 ?_
    exact g_iret o ρ dX10_count_46 (Pm.eq (if_neg (fun z => bI_0.mp c5 z.1)) (Pm_fnd rfl (kC.rf h) (by decide)))
  · skip
    refine g_iload_n (pc := 8) o dX10_count_8 rfl ?_
    refine g_callSi (pc := 9) o (m_isDay b h) mt_X10_isDay ms_X10_isDay lk_X10_122 rfl (by decide) rfl (Nat.le_of_ble_eq_true rfl) dX10_count_9 ?_
    refine g_if_eq (pc := 12) o 40 dX10_count_12 (by decide) (fun c12 => ?_) (fun c12 => ?_)
    · skip
      refine g_aload_n (pc := 40) o dX10_count_40 rfl ?_
      refine g_ldc (pc := 41) o dX10_count_41 lc_X10_68 ?_
      refine g_callVi (pc := 43) o (m_finds 0 (by decide) h) mt_X10_finds mv_X10_finds lk_X10_86 rfl rfl rfl (by decide) rfl (Nat.le_of_ble_eq_true rfl) dX10_count_43 ?_
      exact g_iret o ρ dX10_count_46 (Pm.eq (if_neg (fun z => bI_0.mp c12 z.2.1)) (Pm_fnd rfl (kC.rf h) (by decide)))
    · skip
      refine g_iload_n (pc := 15) o dX10_count_15 rfl ?_
      refine g_callSi (pc := 16) o (m_isDay c h) mt_X10_isDay ms_X10_isDay lk_X10_122 rfl (by decide) rfl (Nat.le_of_ble_eq_true rfl) dX10_count_16 ?_
      refine g_if_eq (pc := 19) o 40 dX10_count_19 (by decide) (fun c19 => ?_) (fun c19 => ?_)
      · skip
        refine g_aload_n (pc := 40) o dX10_count_40 rfl ?_
        refine g_ldc (pc := 41) o dX10_count_41 lc_X10_68 ?_
        refine g_callVi (pc := 43) o (m_finds 0 (by decide) h) mt_X10_finds mv_X10_finds lk_X10_86 rfl rfl rfl (by decide) rfl (Nat.le_of_ble_eq_true rfl) dX10_count_43 ?_
        exact g_iret o ρ dX10_count_46 (Pm.eq (if_neg (fun z => bI_0.mp c19 z.2.2.1)) (Pm_fnd rfl (kC.rf h) (by decide)))
      · skip
        refine g_iload_n (pc := 22) o dX10_count_22 rfl ?_
        refine g_iload_n (pc := 23) o dX10_count_23 rfl ?_
        refine g_ic_lt (pc := 24) o 40 dX10_count_24 (by decide) (fun c24 => ?_) (fun c24 => ?_)
        · skip
          refine g_aload_n (pc := 40) o dX10_count_40 rfl ?_
          refine g_ldc (pc := 41) o dX10_count_41 lc_X10_68 ?_
          refine g_callVi (pc := 43) o (m_finds 0 (by decide) h) mt_X10_finds mv_X10_finds lk_X10_86 rfl rfl rfl (by decide) rfl (Nat.le_of_ble_eq_true rfl) dX10_count_43 ?_
          exact g_iret o ρ dX10_count_46 (Pm.eq (if_neg (fun z => (Int32.not_le.mpr c24 z.2.2.2.1))) (Pm_fnd rfl (kC.rf h) (by decide)))
        · skip
          refine g_iload (pc := 27) o dX10_count_27 rfl ?_
          refine g_i2l (pc := 29) o dX10_count_29 ?_
          refine g_lconst (pc := 30) o dX10_count_30 0 rfl ?_
          refine g_ldc2 (pc := 31) o dX10_count_31 lc_X10_173 ?_
          refine g_callSi (pc := 34) o (m_in v.toInt64 0 3 h) mt_X10_in ms_X10_in lk_X10_71 rfl (by decide) rfl (Nat.le_of_ble_eq_true rfl) dX10_count_34 ?_
          refine g_if_ne (pc := 37) o 47 dX10_count_37 (by decide) (fun c37 => ?_) (fun c37 => ?_)
          · skip
            rw [d1] at c37
            have k1 := bI_n0.mp c5
            have k2 := bI_n0.mp c12
            have k3 := bI_n0.mp c19
            have k4 := Int32.not_lt.mp c24
            have eq : op_count a b c v (absM h) = (nI (cnF (h.1 52) (ca_n a) v (ca_n c + 1 - ca_n b) (ca_n b)), absM h) := if_pos ⟨k1, k2, k3, k4, bI_n0.mp c37⟩
            rw [eq] at ρ
            obtain ⟨t, ht, ht2, rfl, et⟩ := t_of ok k1
            obtain ⟨x, hx, rfl, ex⟩ := n_of (x := b) (b := 29) k2 (by decide)
            obtain ⟨y, hy, rfl, ey⟩ := n_of (x := c) (b := 29) k3 (by decide)
            rw [et, ex, ey] at ρ
            have xy : x ≤ y := (nI_leI (by omega) (by omega)).mp k4
            refine g_iconst (pc := 47) o dX10_count_47 0 rfl ?_
            refine g_istore (pc := 48) o dX10_count_48 (by decide) ?_
            show ca_G Γ 7 _ _ [_, _, _, _, _, _, _] _
            refine g_iload_n (pc := 50) o dX10_count_50 rfl ?_
            refine g_istore (pc := 51) o dX10_count_51 (by decide) ?_
            show ca_G Γ 7 _ _ [_, _, _, _, _, _, _] _
            exact lp_mcount o ρ I.1 t x y v ht2 (by omega) _ (fun h2 e => Pm.mk rfl (abs_56 e) (kC_56 e)) x (by omega) _ h 0 rfl (by omega) (fun c _ => rfl)

          · skip
            refine g_aload_n (pc := 40) o dX10_count_40 rfl ?_
            refine g_ldc (pc := 41) o dX10_count_41 lc_X10_68 ?_
            refine g_callVi (pc := 43) o (m_finds 0 (by decide) h) mt_X10_finds mv_X10_finds lk_X10_86 rfl rfl rfl (by decide) rfl (Nat.le_of_ble_eq_true rfl) dX10_count_43 ?_
            exact g_iret o ρ dX10_count_46 (Pm.eq (if_neg (fun z => (by rw [d1] at c37; exact bI_0.mp c37 z.2.2.2.2))) (Pm_fnd rfl (kC.rf h) (by decide)))
