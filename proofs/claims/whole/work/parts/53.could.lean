/-! ===== the model: could ===== -/
def fsF (s : Nat → Int32) (p : Int32) (d : Nat) : Nat → Int32
  | 0 => opF s p d 0
  | m + 1 => stepF s (fsF s p d m) 8 &&& opF s p d (m + 1)
def bkF (s : Nat → Int32) (p : Int32) (d : Nat) : Nat → Int32
  | 0 => opF s p d 23
  | k + 1 => stepF s (bkF s p d k) 8 &&& opF s p d (22 - k)
theorem fsF_s (s : Nat → Int32) (p : Int32) (d m : Nat) : fsF s p d (m + 1) = stepF s (fsF s p d m) 8 &&& opF s p d (m + 1) := rfl
theorem bkF_s (s : Nat → Int32) (p : Int32) (d k : Nat) : bkF s p d (k + 1) = stepF s (bkF s p d k) 8 &&& opF s p d (22 - k) := rfl
theorem lw_0 (s : Nat → Int32) (p : Int32) (d m : Nat) : (auM s p d 0).lw m = opF s p d m := by
  show lwF s p d 0 m 12 = lwF s p d 0 m 0
  exact lw_skip 12 (Nat.zero_le 12) (fun u _ _ z => by rw [b_0] at z; cases z)
theorem nx_0 (s : Nat → Int32) (p : Int32) (d m q : Nat) : (auM s p d 0).nx 0 m q = 0 := by
  show vlF (rxM s 0) (fun t => dgF (rxM s 0) 0 t - dlF s 0 t m q) 12 = 0
  rw [vlF_c (f := fun _ => 0) 12 (fun t _ => by rw [dg_0]; exact Nat.zero_sub _), vlF_0]
theorem c0_0 (s : Nat → Int32) (p : Int32) (d : Nat) : (auM s p d 0).c0 = 0 := by
  show vlF (rxM s 0) (akF s 0) 12 = 0
  rw [vlF_c (f := fun _ => 0) 12 (fun t _ => by unfold akF; rw [if_neg (by rw [b_0]; exact Bool.false_ne_true)]), vlF_0]
theorem fs_b (s : Nat → Int32) (p : Int32) (d : Nat) : ∀ m c q, q < 8 → (RCH (auM s p d 0) m c q ↔ c = 0 ∧ bt (fsF s p d m) q = true)
  | 0, c, q, hq => by
    show bt ((auM s p d 0).lw 0) q = true ∧ (auM s p d 0).nx (auM s p d 0).c0 0 q = c ↔ _
    rw [lw_0, c0_0, nx_0]
    exact ⟨fun y => ⟨y.2.symm, y.1⟩, fun y => ⟨y.2, y.1.symm⟩⟩
  | m + 1, c, q, hq => by
    rw [fsF_s, b_and, Bool.and_eq_true, st_b]
    constructor
    · rintro ⟨c1, r, hr, a, ⟨z1, z2⟩, e⟩
      obtain ⟨rfl, y⟩ := (fs_b s p d m c1 r hr).mp a
      rw [nx_0] at e
      rw [lw_0] at z1
      refine ⟨e.symm, ?_, z1⟩
      rcases z2 with z2 | z2
      · subst z2; exact Or.inl y
      · exact Or.inr ⟨r, hr, y, z2⟩
    · rintro ⟨rfl, a, b⟩
      rcases a with a | ⟨r, hr, a, e⟩
      · exact ⟨0, q, hq, (fs_b s p d m 0 q hq).mpr ⟨rfl, a⟩, ⟨by rw [lw_0]; exact b, Or.inl rfl⟩, nx_0 s p d _ _⟩
      · exact ⟨0, r, hr, (fs_b s p d m 0 r hr).mpr ⟨rfl, a⟩, ⟨by rw [lw_0]; exact b, Or.inr e⟩, nx_0 s p d _ _⟩
theorem cg_ex {A : Au} {k c q : Nat} (hk : k < 23) : cgF A (k + 1) c q < 1000 ↔ ∃ r, r < 8 ∧ okA A (23 - k) q r ∧ cgF A k (A.nx c (23 - k) r) r < 1000 := by
  rw [cgF_s]
  constructor
  · intro h
    obtain ⟨r, hr, e⟩ := mnF_ex _ _ h
    rw [← e] at h
    by_cases w : okA A (23 - k) q r
    · rw [if_pos w] at h
      exact ⟨r, hr, w, by omega⟩
    · rw [if_neg w] at h
      exact absurd h (Nat.lt_irrefl 1000)
  · rintro ⟨r, hr, w, l⟩
    refine Nat.lt_of_le_of_lt (mnF_le _ 8 hr) ?_
    rw [if_pos w]
    have := cg_le A _ _ _ l
    split <;> omega
theorem bk_b {s : Nat → Int32} (I : SI s) (p : Int32) (d : Nat) : ∀ k, k ≤ 23 → ∀ q, q < 8 → (bt (bkF s p d k) q = true ↔ bt (opF s p d (23 - k)) q = true ∧ cgF (auM s p d 0) k 0 q < 1000)
  | 0, _, q, hq => ⟨fun y => ⟨y, by show (if 0 = 0 then 0 else 1000) < 1000; decide⟩, fun y => y.1⟩
  | k + 1, hk, q, hq => by
    have ih := bk_b I p d k (by omega)
    rw [bkF_s, b_and, Bool.and_eq_true, st_b, cg_ex (by omega), show 22 - k = 23 - (k + 1) by omega]
    constructor
    · rintro ⟨a, b⟩
      refine ⟨b, ?_⟩
      rcases a with a | ⟨r, hr, a, e⟩
      · have := (ih q hq).mp a
        exact ⟨q, hq, ⟨by rw [lw_0]; exact this.1, Or.inl rfl⟩, by rw [nx_0]; exact this.2⟩
      · have := (ih r hr).mp a
        exact ⟨r, hr, ⟨by rw [lw_0]; exact this.1, (ad_sy I hr hq).mp (Or.inr e)⟩, by rw [nx_0]; exact this.2⟩
    · rintro ⟨b, r, hr, ⟨z1, z2⟩, l⟩
      rw [nx_0] at l
      rw [lw_0] at z1
      refine ⟨?_, b⟩
      have y := (ih r hr).mpr ⟨z1, l⟩
      rcases (ad_sy I hq hr).mp z2 with z | z
      · subst z; exact Or.inl y
      · exact Or.inr ⟨r, hr, y, z⟩
theorem could_eq {s : Nat → Int32} (I : SI s) (p : Int32) (d : Nat) {m : Nat} (hm : m < 24) : fsF s p d m &&& bkF s p d (23 - m) = mayF s p d 0 m := by
  have f8 : ∀ q, bt (fsF s p d m) q = true → bt (opF s p d m) q = true := fun q y => by
    cases m with
    | zero => exact y
    | succ m => rw [fsF_s, b_and, Bool.and_eq_true] at y; exact y.2
  refine ssF_eq (fun q hq => ?_)
  rw [b_and, Bool.and_eq_true]
  constructor
  · rintro ⟨a, b⟩
    have q8 : q < 8 := op_8 I.see I.seen (f8 q a)
    have := (bk_b I p d (23 - m) (by omega) q q8).mp b
    exact ⟨q8, 0, (fs_b s p d m 0 q q8).mpr ⟨rfl, a⟩, this.2⟩
  · rintro ⟨q8, c, a, b⟩
    obtain ⟨rfl, y⟩ := (fs_b s p d m c q q8).mp a
    exact ⟨y, (bk_b I p d (23 - m) (by omega) q q8).mpr ⟨by rw [show 23 - (23 - m) = m by omega]; exact f8 q y, b⟩⟩
theorem sub1_lt {m : Nat} (hm : m < 2 ^ 31) : nI m - 1 < nI m := by
  cases m with
  | zero => decide
  | succ m => rw [nI_pred]; exact (nI_ltI (by omega) hm).mpr (by omega)
set_option maxRecDepth 100000 in
set_option maxHeartbeats 400000 in
theorem lp_could2 {Γ : Fr} (o : ca_O Γ cX10_could 7 RX10 2 48) {Pr : Option Value → Mem → Prop} (ρ : ca_R Γ (some .int) Pr) {h : Mem} {s : Nat → Int32} (es : h.1 52 = s) (I : SI s) (p : Int32) (d m : Nat) (hm : m < 24) (e56 : ∀ i, i < 24 → h.1 56 i = sgF s p d i) (x2 S : Int32) (hp : Pr (some (.int (S &&& bkF s p d (23 - m)))) h) : ∀ k, k ≤ 23 - m → ∀ (xk y : Int32), xk = nI (23 - k) - 1 → y = bkF s p d k → ca_G Γ 7 h 84 [some (.ref 51), some (.int p), some (.int x2), some (.int (nI m)), some (.int S), some (.int y), some (.int xk)] [] := by
  refine downI (23 - m) (fun k hk ih => ?_)
  rintro xk y rfl rfl
  by_cases w : k = 23 - m
  · subst w
    have l : nI (23 - (23 - m)) - 1 < nI m := by rw [show 23 - (23 - m) = m by omega]; exact sub1_lt (by omega)
    refine g_iload (pc := 84) o dX10_could_84 rfl ?_
    refine g_iload_n (pc := 86) o dX10_could_86 rfl ?_
    refine g_ic_lt (pc := 87) o 111 dX10_could_87 (by decide) (fun c87 => ?_) (fun c87 => ?_)
    · skip
      refine g_iload (pc := 111) o dX10_could_111 rfl ?_
      refine g_iload (pc := 113) o dX10_could_113 rfl ?_
      refine g_iand (pc := 115) o dX10_could_115 ?_
      exact g_iret o ρ dX10_could_116 hp
    · skip
      exact absurd l c87
  · have e1 : nI (23 - k) - 1 = nI (22 - k) := by rw [show 23 - k = (22 - k) + 1 by omega]; exact nI_pred _
    rw [e1]
    have mf := m_further (bkF s p d k) h
    rw [es] at mf
    refine g_iload (pc := 84) o dX10_could_84 rfl ?_
    refine g_iload_n (pc := 86) o dX10_could_86 rfl ?_
    refine g_ic_lt (pc := 87) o 111 dX10_could_87 (by decide) (fun c87 => ?_) (fun c87 => ?_)
    · skip
      have := (nI_ltI (by omega) (by omega)).mp c87
      omega
    · skip
      refine g_aload_n (pc := 90) o dX10_could_90 rfl ?_
      refine g_iload (pc := 91) o dX10_could_91 rfl ?_
      refine g_callVi (pc := 93) o (mf) mt_X10_further mv_X10_further lk_X10_94 rfl rfl rfl (by decide) rfl (Nat.le_of_ble_eq_true rfl) dX10_could_93 ?_
      refine g_aload_n (pc := 96) o dX10_could_96 rfl ?_
      refine g_iload (pc := 97) o dX10_could_97 rfl ?_
      refine g_callVi (pc := 99) o (m_open (h := h) I.seen I.see e56 (22 - k) (by omega)) mt_X10_open mv_X10_open lk_X10_119 rfl rfl rfl (by decide) rfl (Nat.le_of_ble_eq_true rfl) dX10_could_99 ?_
      refine g_iand (pc := 102) o dX10_could_102 ?_
      refine g_istore (pc := 103) o dX10_could_103 (by decide) ?_
      show ca_G Γ 7 _ _ [_, _, _, _, _, _, _] _
      refine g_iinc (pc := 105) o dX10_could_105 rfl (-1) rfl (by decide) ?_
      show ca_G Γ 7 _ _ [_, _, _, _, _, _, _] _
      refine g_goto (pc := 108) o 84 dX10_could_108 (by decide) ?_
      exact ih (by omega) _ _ (by rw [show 23 - (k + 1) = 22 - k by omega]; exact (Int32.sub_eq_add_neg _ _).symm) rfl
set_option maxRecDepth 100000 in
set_option maxHeartbeats 400000 in
theorem lp_could1 {Γ : Fr} (o : ca_O Γ cX10_could 7 RX10 2 48) {h : Mem} {s : Nat → Int32} (es : h.1 52 = s) (I : SI s) (p : Int32) (d m : Nat) (hm : m < 24) (e56 : ∀ i, i < 24 → h.1 56 i = sgF s p d i) (x2 : Int32) (v6 : Option Value) (kk : ∀ (v5 : Option Value), ca_G Γ 7 h 72 [some (.ref 51), some (.int p), some (.int x2), some (.int (nI m)), some (.int (fsF s p d m)), v5, v6] []) : ∀ k, k ≤ m → ∀ (xk y : Int32), xk = nI (k + 1) → y = fsF s p d k → ca_G Γ 7 h 45 [some (.ref 51), some (.int p), some (.int x2), some (.int (nI m)), some (.int y), some (.int xk), v6] [] := by
  refine downI m (fun k hk ih => ?_)
  rintro xk y rfl rfl
  have mf := m_further (fsF s p d k) h
  rw [es] at mf
  refine g_iload (pc := 45) o dX10_could_45 rfl ?_
  refine g_iload_n (pc := 47) o dX10_could_47 rfl ?_
  refine g_ic_gt (pc := 48) o 72 dX10_could_48 (by decide) (fun c48 => ?_) (fun c48 => ?_)
  · skip
    have := (nI_ltI (by omega) (by omega)).mp c48
    obtain rfl : k = m := by omega
    exact kk _
  · skip
    have := mt (nI_ltI (a := m) (b := k + 1) (by omega) (by omega)).mpr c48
    refine g_aload_n (pc := 51) o dX10_could_51 rfl ?_
    refine g_iload (pc := 52) o dX10_could_52 rfl ?_
    refine g_callVi (pc := 54) o (mf) mt_X10_further mv_X10_further lk_X10_94 rfl rfl rfl (by decide) rfl (Nat.le_of_ble_eq_true rfl) dX10_could_54 ?_
    refine g_aload_n (pc := 57) o dX10_could_57 rfl ?_
    refine g_iload (pc := 58) o dX10_could_58 rfl ?_
    refine g_callVi (pc := 60) o (m_open (h := h) I.seen I.see e56 (k + 1) (by omega)) mt_X10_open mv_X10_open lk_X10_119 rfl rfl rfl (by decide) rfl (Nat.le_of_ble_eq_true rfl) dX10_could_60 ?_
    refine g_iand (pc := 63) o dX10_could_63 ?_
    refine g_istore (pc := 64) o dX10_could_64 (by decide) ?_
    show ca_G Γ 7 _ _ [_, _, _, _, _, _, _] _
    refine g_iinc (pc := 66) o dX10_could_66 rfl 1 rfl (by decide) ?_
    show ca_G Γ 7 _ _ [_, _, _, _, _, _, _] _
    refine g_goto (pc := 69) o 45 dX10_could_69 (by decide) ?_
    exact ih (by omega) _ _ (nI_1 _) rfl
set_option maxRecDepth 100000 in
set_option maxHeartbeats 400000 in
theorem mo_could {h : Mem} (I : Iv (absM h)) (a b : Int32) : Ct yX10_could cX10_could 7 (some .int) 2 48 [.ref 51, .int a, .int b] h (Pm h (op_could a b (absM h))) := by
  refine Ct.of (by decide) (Nat.le_of_ble_eq_true rfl) (fun Γ o ρ => ?_)
  show ca_G Γ 7 _ _ [_, _, _, _, _, _, _] _
  refine g_iload_n (pc := 0) o dX10_could_0 rfl ?_
  refine g_callSi (pc := 1) o (m_isPerson a h) mt_X10_isPerson ms_X10_isPerson lk_X10_98 rfl (by decide) rfl (Nat.le_of_ble_eq_true rfl) dX10_could_1 ?_
  refine g_if_eq (pc := 4) o 14 dX10_could_4 (by decide) (fun c4 => ?_) (fun c4 => ?_)
  · skip
    refine g_aload_n (pc := 14) o dX10_could_14 rfl ?_
    refine g_ldc (pc := 15) o dX10_could_15 lc_X10_68 ?_
    refine g_callVi (pc := 17) o (m_finds 0 (by decide) h) mt_X10_finds mv_X10_finds lk_X10_86 rfl rfl rfl (by decide) rfl (Nat.le_of_ble_eq_true rfl) dX10_could_17 ?_
    exact g_iret o ρ dX10_could_20 (Pm.eq (if_neg (fun z => bI_0.mp c4 z.1)) (Pm_fnd rfl (kC.rf h) (by decide)))
  · skip
    refine g_iload_n (pc := 7) o dX10_could_7 rfl ?_
    refine g_callSi (pc := 8) o (m_isWhen b h) mt_X10_isWhen ms_X10_isWhen lk_X10_101 rfl (by decide) rfl (Nat.le_of_ble_eq_true rfl) dX10_could_8 ?_
    refine g_if_ne (pc := 11) o 21 dX10_could_11 (by decide) (fun c11 => ?_) (fun c11 => ?_)
    · skip
      have k1 := bI_n0.mp c4
      have k2 := bI_n0.mp c11
      have eq : op_could a b (absM h) = (mayF (h.1 52) a (ca_n (b / 100)) 0 (ca_n (jrem b 100)), absM h) := if_pos ⟨k1, k2⟩
      rw [eq] at ρ
      obtain ⟨d, m, hd, hm, rfl, ed, em⟩ := wh_of k2
      rw [ed, em, show ca_n (nI d) = d from nI_clamp (by omega), show ca_n (nI m) = m from nI_clamp (by omega)] at ρ
      have IS : SI (h.1 52) := I.1
      refine g_aload_n (pc := 21) o dX10_could_21 rfl ?_
      refine g_iload_n (pc := 22) o dX10_could_22 rfl ?_
      refine g_iload_n (pc := 23) o dX10_could_23 rfl ?_
      refine g_bipush (pc := 24) o dX10_could_24 100 rfl ?_
      refine g_idiv (pc := 26) o dX10_could_26 (by decide) ?_
      rw [ed]
      refine g_callVQv (pc := 27) o (m_looks (h := h) IS.seen IS.see a d hd) mt_X10_looks mv_X10_looks lk_X10_115 rfl rfl rfl (by decide) rfl (Nat.le_of_ble_eq_true rfl) dX10_could_27 ?_
      rintro h1 w
      obtain ⟨w1, w2⟩ := w
      have es1 : h1.1 52 = h.1 52 := w2 52 (by decide)
      have O : moO h h1 := ⟨fun c _ hc _ _ _ _ _ => w2 c hc, fun j _ _ _ => by rw [w2 51 (by decide)]⟩
      refine g_iload_n (pc := 30) o dX10_could_30 rfl ?_
      refine g_bipush (pc := 31) o dX10_could_31 100 rfl ?_
      refine g_irem (pc := 33) o dX10_could_33 (by decide) ?_
      rw [em]
      refine g_istore_n (pc := 34) o dX10_could_34 (by decide) ?_
      show ca_G Γ 7 _ _ [_, _, _, _, _, _, _] _
      refine g_aload_n (pc := 35) o dX10_could_35 rfl ?_
      refine g_iconst (pc := 36) o dX10_could_36 0 rfl ?_
      refine g_callVi (pc := 37) o (m_open (h := h1) IS.seen IS.see w1 0 (by omega)) mt_X10_open mv_X10_open lk_X10_119 rfl rfl rfl (by decide) rfl (Nat.le_of_ble_eq_true rfl) dX10_could_37 ?_
      refine g_istore (pc := 40) o dX10_could_40 (by decide) ?_
      show ca_G Γ 7 _ _ [_, _, _, _, _, _, _] _
      refine g_iconst (pc := 42) o dX10_could_42 1 rfl ?_
      refine g_istore (pc := 43) o dX10_could_43 (by decide) ?_
      show ca_G Γ 7 _ _ [_, _, _, _, _, _, _] _
      refine lp_could1 o es1 IS a d m hm w1 _ _ (fun v5 => ?_) 0 (by omega) _ _ rfl rfl
      refine g_aload_n (pc := 72) o dX10_could_72 rfl ?_
      refine g_bipush (pc := 73) o dX10_could_73 23 rfl ?_
      refine g_callVi (pc := 75) o (m_open (h := h1) IS.seen IS.see w1 23 (by omega)) mt_X10_open mv_X10_open lk_X10_119 rfl rfl rfl (by decide) rfl (Nat.le_of_ble_eq_true rfl) dX10_could_75 ?_
      refine g_istore (pc := 78) o dX10_could_78 (by decide) ?_
      show ca_G Γ 7 _ _ [_, _, _, _, _, _, _] _
      refine g_bipush (pc := 80) o dX10_could_80 22 rfl ?_
      refine g_istore (pc := 82) o dX10_could_82 (by decide) ?_
      show ca_G Γ 7 _ _ [_, _, _, _, _, _, _] _
      refine lp_could2 o ρ es1 IS a d m hm w1 _ _ ?_ 0 (by omega) _ _ rfl rfl
      rw [could_eq IS a d hm]
      exact Pm.mk rfl O.abs O.kC

    · skip
      refine g_aload_n (pc := 14) o dX10_could_14 rfl ?_
      refine g_ldc (pc := 15) o dX10_could_15 lc_X10_68 ?_
      refine g_callVi (pc := 17) o (m_finds 0 (by decide) h) mt_X10_finds mv_X10_finds lk_X10_86 rfl rfl rfl (by decide) rfl (Nat.le_of_ble_eq_true rfl) dX10_could_17 ?_
      exact g_iret o ρ dX10_could_20 (Pm.eq (if_neg (fun z => bI_0.mp c11 z.2)) (Pm_fnd rfl (kC.rf h) (by decide)))
