/-! ===== longs by their bits ===== -/
def bl (x : Int64) (i : Nat) : Bool := x.toBitVec.getLsbD i
theorem bl_or (x y : Int64) (i : Nat) : bl (x ||| y) i = (bl x i || bl y i) := by unfold bl; rw [Int64.toBitVec_or, BitVec.getLsbD_or]
theorem bl_0 (i : Nat) : bl 0 i = false := BitVec.getLsbD_zero
theorem sl_l : ∀ n, n < 64 → (((nI n).toInt64 &&& 63).toBitVec.smod 64).toNat = n := by decide +kernel
theorem sl_u : ∀ n, n < 64 → (((nI n).toInt64.toUInt64 &&& Int64.toUInt64 63).toBitVec % 64).toNat = n := by decide +kernel
theorem bl_1 (i : Nat) : bl 1 i = decide (i = 0) := by
  by_cases h : i < 64
  · revert i
    decide +kernel
  · unfold bl
    rw [BitVec.getLsbD_of_ge _ _ (by omega)]
    simp
    omega
theorem bl_sh (n : Nat) (hn : n < 64) {i : Nat} (hi : i < 64) : bl (jlshl 1 (nI n)) i = decide (i = n) := by
  unfold jlshl bl
  rw [Int64.toBitVec_shiftLeft]
  show ((1 : Int64).toBitVec <<< (((nI n).toInt64 &&& 63).toBitVec.smod 64).toNat).getLsbD i = _
  rw [sl_l n hn, BitVec.getLsbD_shiftLeft]
  have := bl_1 (i - n)
  unfold bl at this
  rw [this]
  by_cases q : i = n
  · subst q; simp [hi]
  · simp [hi, q]; omega
theorem bl_u (n : Nat) (hn : n < 64) (x : Int64) (i : Nat) : bl (jlushr x (nI n)) i = bl x (n + i) := by
  show (x.toUInt64 >>> ((nI n).toInt64.toUInt64 &&& Int64.toUInt64 63)).toBitVec.getLsbD i = x.toUInt64.toBitVec.getLsbD (n + i)
  rw [UInt64.toBitVec_shiftRight]
  show (x.toUInt64.toBitVec >>> (((nI n).toInt64.toUInt64 &&& Int64.toUInt64 63).toBitVec % 64).toNat).getLsbD i = _
  rw [sl_u n hn, BitVec.getLsbD_ushiftRight]
theorem bl_and (x y : Int64) (i : Nat) : bl (x &&& y) i = (bl x i && bl y i) := by unfold bl; rw [Int64.toBitVec_and, BitVec.getLsbD_and]
theorem bl_ext {x y : Int64} (h : ∀ i, i < 64 → bl x i = bl y i) : x = y := Int64.toBitVec_inj.mp (BitVec.eq_of_getLsbD_eq (fun i hi => h i hi))
theorem bl_has (x : Int64) {n : Nat} (hn : n < 64) : jlushr x (nI n) &&& 1 = 1 ↔ bl x n = true := by
  constructor
  · intro e
    have := congrArg (fun z => bl z 0) e
    simp only [bl_and, bl_u n hn, bl_1, Nat.add_zero] at this
    simpa using this
  · intro e
    apply bl_ext
    intro i hi
    rw [bl_and, bl_u n hn, bl_1]
    by_cases q : i = 0
    · subst q; simp [e]
    · simp [q]
/-! ===== a day under one term ===== -/
def nxI (s : Nat → Int32) (t m e q : Nat) : Nat :=
  if atF s t m then 32 * (if bt (badF s t) q = true then 1 else e / 4) + 8 * (e % 4 - (if tmF s t 2 = nI q then 1 else 0)) + q else 8 * e + q
def KP (s : Nat → Int32) (t : Nat) (p : Int32) (d : Nat) : Nat → Nat → Prop
  | 0, i => i / 8 = askT s t
  | m + 1, i => bt (opF s p d m) (i % 8) = true ∧ ∃ j, j < 64 ∧ KP s t p d m j ∧ (j % 8 = i % 8 ∨ bt (s (i % 8)) (j % 8) = true) ∧ nxI s t m (j / 8) (i % 8) = i
/-- in some state e at the last hour, and at q in hour m -/
def PP (s : Nat → Int32) (t : Nat) (p : Int32) (d m e q : Nat) : Prop := bt (opF s p d m) q = true ∧ ∃ r, r < 8 ∧ KP s t p d m (8 * e + r) ∧ (r = q ∨ bt (s q) r = true)
theorem KP_s (s : Nat → Int32) (t : Nat) (p : Int32) (d m : Nat) {e q : Nat} (hq : q < 8) : KP s t p d (m + 1) (8 * e + q) ↔ ∃ e2, e2 < 8 ∧ PP s t p d m e2 q ∧ nxI s t m e2 q = 8 * e + q := by
  show (bt (opF s p d m) ((8 * e + q) % 8) = true ∧ ∃ j, j < 64 ∧ KP s t p d m j ∧ (j % 8 = (8 * e + q) % 8 ∨ bt (s ((8 * e + q) % 8)) (j % 8) = true) ∧ nxI s t m (j / 8) ((8 * e + q) % 8) = 8 * e + q) ↔ _
  rw [show (8 * e + q) % 8 = q by omega]
  constructor
  · rintro ⟨a, j, hj, b, c, f⟩
    exact ⟨j / 8, by omega, ⟨a, j % 8, by omega, by rw [show 8 * (j / 8) + j % 8 = j by omega]; exact b, c⟩, f⟩
  · rintro ⟨e2, he, ⟨a, r, hr, b, c⟩, f⟩
    refine ⟨a, 8 * e2 + r, by omega, b, ?_, ?_⟩
    · rw [show (8 * e2 + r) % 8 = r by omega]; exact c
    · rw [show (8 * e2 + r) / 8 = e2 by omega]; exact f
theorem nx_no {s : Nat → Int32} {t m e q : Nat} (h : ¬ atF s t m) : nxI s t m e q = 8 * e + q := if_neg h
theorem nx_at {s : Nat → Int32} {t m e q : Nat} (h : atF s t m) : nxI s t m e q = 32 * (if bt (badF s t) q = true then 1 else e / 4) + 8 * (e % 4 - (if tmF s t 2 = nI q then 1 else 0)) + q := if_pos h
theorem KP_no {s : Nat → Int32} {t : Nat} {p : Int32} {d m : Nat} {e q : Nat} (hq : q < 8) (he : e < 8) (h : ¬ atF s t m) : KP s t p d (m + 1) (8 * e + q) ↔ PP s t p d m e q := by
  rw [KP_s s t p d m hq]
  constructor
  · rintro ⟨e2, h2, a, b⟩
    rw [nx_no h] at b
    rw [show e = e2 by omega]; exact a
  · intro a
    exact ⟨e, he, a, nx_no h⟩
theorem KP_c {s : Nat → Int32} {t : Nat} {p : Int32} {d m : Nat} {o q : Nat} (hq : q < 8) (ho : o < 4) (h : atF s t m) : KP s t p d (m + 1) (8 * o + q) ↔ ¬ bt (badF s t) q = true ∧ ((PP s t p d m o q ∧ (o = 0 ∨ ¬ tmF s t 2 = nI q)) ∨ (o + 1 < 4 ∧ tmF s t 2 = nI q ∧ PP s t p d m (o + 1) q)) := by
  rw [KP_s s t p d m hq]
  constructor
  · rintro ⟨e2, h2, a, b⟩
    rw [nx_at h] at b
    have nb : ¬ bt (badF s t) q = true := fun z => by rw [if_pos z] at b; omega
    rw [if_neg nb] at b
    refine ⟨nb, ?_⟩
    by_cases w : tmF s t 2 = nI q
    · rw [if_pos w] at b
      by_cases z : e2 = 0
      · refine Or.inl ⟨?_, Or.inl (by omega)⟩
        rw [show o = e2 by omega]; exact a
      · refine Or.inr ⟨by omega, w, ?_⟩
        rw [show o + 1 = e2 by omega]; exact a
    · rw [if_neg w] at b
      refine Or.inl ⟨?_, Or.inr w⟩
      rw [show o = e2 by omega]; exact a
  · rintro ⟨nb, ⟨a, b⟩ | ⟨ho2, w, a⟩⟩
    · refine ⟨o, by omega, a, ?_⟩
      rw [nx_at h, if_neg nb]
      rcases b with z | z
      · subst z; omega
      · rw [if_neg z]; omega
    · refine ⟨o + 1, by omega, a, ?_⟩
      rw [nx_at h, if_neg nb, if_pos w]
      omega
theorem KP_f {s : Nat → Int32} {t : Nat} {p : Int32} {d m : Nat} {q : Nat} (hq : q < 8) (h : atF s t m) : (∃ o, o < 4 ∧ KP s t p d (m + 1) (8 * (4 + o) + q)) ↔ ((∃ o, o < 4 ∧ PP s t p d m (4 + o) q) ∨ (bt (badF s t) q = true ∧ ∃ o, o < 4 ∧ PP s t p d m o q)) := by
  constructor
  · rintro ⟨o, ho, k⟩
    rw [KP_s s t p d m hq] at k
    obtain ⟨e2, h2, a, b⟩ := k
    by_cases z : e2 < 4
    · right
      refine ⟨?_, e2, z, a⟩
      refine Classical.byContradiction (fun nb => ?_)
      rw [nx_at h, if_neg nb] at b
      omega
    · left
      exact ⟨e2 - 4, by omega, by rw [show 4 + (e2 - 4) = e2 by omega]; exact a⟩
  · have key : ∀ e, e < 8 → PP s t p d m e q → (4 ≤ e ∨ bt (badF s t) q = true) → ∃ o, o < 4 ∧ KP s t p d (m + 1) (8 * (4 + o) + q) := by
      intro e he a c
      refine ⟨e % 4 - (if tmF s t 2 = nI q then 1 else 0), by omega, ?_⟩
      rw [KP_s s t p d m hq]
      refine ⟨e, he, a, ?_⟩
      rw [nx_at h]
      have : (if bt (badF s t) q = true then 1 else e / 4) = 1 := by
        split
        · rfl
        · rename_i z
          rcases c with c | c
          · omega
          · exact absurd c z
      rw [this]
      omega
    rintro (⟨o, ho, a⟩ | ⟨b, o, ho, a⟩)
    · exact key (4 + o) (by omega) a (Or.inl (by omega))
    · exact key o (by omega) a (Or.inr b)
/-- no more is owed than was asked -/
theorem KP_le {s : Nat → Int32} {t : Nat} {p : Int32} {d : Nat} (ha : askT s t < 4) : ∀ m i, i < 64 → KP s t p d m i → i / 8 % 4 ≤ askT s t
  | 0, i, hi, h => by
    have h : i / 8 = askT s t := h
    omega
  | m + 1, i, hi, h => by
    rw [show i = 8 * (i / 8) + i % 8 by omega, KP_s s t p d m (by omega)] at h
    obtain ⟨e2, h2, ⟨_, r, hr, k, _⟩, b⟩ := h
    have := KP_le ha m (8 * e2 + r) (by omega) k
    have : e2 % 4 ≤ askT s t := by omega
    unfold nxI at b
    split at b
    · split at b <;> omega
    · omega
/-! the model's -/
abbrev ccP (s : Nat → Int32) (t m q : Nat) (L : Int64) (j : Nat) : Prop := (m = 0 ∧ j = 8 * askT s t + q) ∨ (¬ m = 0 ∧ bl L j = true ∧ bt (jshl 1 (nI q) ||| s q) (j % 8) = true)
def comF (s : Nat → Int32) (t m q : Nat) (L : Int64) : Nat → Int64
  | 0 => 0
  | n + 1 => if ccP s t m q L n then comF s t m q L n ||| jlshl 1 (nI (nxI s t m (n / 8) q)) else comF s t m q L n
theorem comF_s (s : Nat → Int32) (t m q : Nat) (L : Int64) (n : Nat) : comF s t m q L (n + 1) = if ccP s t m q L n then comF s t m q L n ||| jlshl 1 (nI (nxI s t m (n / 8) q)) else comF s t m q L n := rfl
theorem nx_lt (s : Nat → Int32) (t m : Nat) {e q : Nat} (he : e < 8) (hq : q < 8) : nxI s t m e q < 64 := by
  unfold nxI
  split
  · split <;> omega
  · omega
theorem com_b {s : Nat → Int32} {t m q : Nat} {L : Int64} (hq : q < 8) {i : Nat} (hi : i < 64) : ∀ n, n ≤ 64 → (bl (comF s t m q L n) i = true ↔ ∃ j, j < n ∧ ccP s t m q L j ∧ nxI s t m (j / 8) q = i)
  | 0, _ => by
    show bl 0 i = true ↔ _
    rw [bl_0]
    constructor
    · intro z; cases z
    · rintro ⟨j, hj, _⟩; omega
  | n + 1, hn => by
    have ih := com_b (s := s) (t := t) (m := m) (L := L) hq hi n (by omega)
    rw [comF_s]
    split
    · rename_i z
      rw [bl_or, bl_sh _ (nx_lt s t m (by omega) hq) hi, Bool.or_eq_true, ih, decide_eq_true_eq]
      constructor
      · rintro (⟨j, hj, a⟩ | e)
        · exact ⟨j, by omega, a⟩
        · exact ⟨n, by omega, z, e.symm⟩
      · rintro ⟨j, hj, a, b⟩
        by_cases w : j = n
        · subst w; exact Or.inr b.symm
        · exact Or.inl ⟨j, by omega, a, b⟩
    · rename_i z
      rw [ih]
      constructor
      · rintro ⟨j, hj, a⟩; exact ⟨j, by omega, a⟩
      · rintro ⟨j, hj, a, b⟩
        by_cases w : j = n
        · subst w; exact absurd a z
        · exact ⟨j, by omega, a, b⟩
theorem ixc (f o q : Nat) : nI 32 * nI f + nI 8 * nI o + nI q = nI (32 * f + 8 * o + q) := by rw [pk_mul, pk_mul, nI_add, nI_add]
set_option maxRecDepth 100000 in
set_option maxHeartbeats 400000 in
theorem lp_comes {Γ : Fr} (o : ca_O Γ cX10_comes 13 RX10 2 47) {Pr : Option Value → Mem → Prop} (ρ : ca_R Γ (some .long) Pr) {h : Mem} (T : okTm (h.1 52)) (t m q : Nat) (ht : t < 12) (hm : m < 24) (hq : q < 8) (L : Int64) (hp : Pr (some (.long (comF (h.1 52) t m q L 64))) h) : ∀ j, j ≤ 64 → ∀ (xj : Int32) (y : Int64) (v10 v11 v12 : Option Value), xj = nI j → y = comF (h.1 52) t m q L j → ca_G Γ 13 h 20 [some (.ref 51), some (.int (nI t)), some (.int (nI m)), some (.int (nI q)), some (.long L), none, some (.long y), none, some (.int (jshl 1 (nI q) ||| h.1 52 q)), some (.int xj), v10, v11, v12] [] := by
  refine downI 64 (fun j hj ih => ?_)
  rintro xj y v10 v11 v12 rfl rfl
  refine g_iload (pc := 20) o dX10_comes_20 rfl ?_
  refine g_bipush (pc := 22) o dX10_comes_22 64 rfl ?_
  refine g_ic_ge (pc := 24) o 187 dX10_comes_24 (by decide) (fun c24 => ?_) (fun c24 => ?_)
  · skip
    have e : j = 64 := ge8 (n := 64) (by decide) (by omega) c24
    subst e
    refine g_lload (pc := 187) o dX10_comes_187 rfl ?_
    exact g_lret o ρ dX10_comes_189 hp
  · skip
    have e : j < 64 := lt8 (n := 64) (by decide) (by omega) c24
    have ea : askT (h.1 52) t ≤ 3 := by
      obtain ⟨k, _, _, _, _, _, _, hk, _, _, _, _, _, _, ek, _⟩ := T t ht
      unfold askT
      rw [ek, show ca_n (nI k) = k from nI_clamp (by omega)]
      exact askN_le k hk
    have st181 : ∀ (y : Int64) (v10 v11 v12 : Option Value), y = comF (h.1 52) t m q L (j + 1) → ca_G Γ 13 h 181 [some (.ref 51), some (.int (nI t)), some (.int (nI m)), some (.int (nI q)), some (.long L), none, some (.long y), none, some (.int (jshl 1 (nI q) ||| h.1 52 q)), some (.int (nI j)), v10, v11, v12] [] := by
      intro y v10 v11 v12 ey
      refine g_iinc (pc := 181) o dX10_comes_181 rfl 1 rfl (by decide) ?_
      show ca_G Γ 13 _ _ [_, _, _, _, _, _, _, _, _, _, _, _, _] _
      refine g_goto (pc := 184) o 20 dX10_comes_184 (by decide) ?_
      exact ih e _ _ _ _ _ (nI_1 j) ey
    have st161 : ∀ (f k : Nat) (v10 : Option Value), ccP (h.1 52) t m q L j → 32 * f + 8 * k + q = nxI (h.1 52) t m (j / 8) q → ca_G Γ 13 h 161 [some (.ref 51), some (.int (nI t)), some (.int (nI m)), some (.int (nI q)), some (.long L), none, some (.long (comF (h.1 52) t m q L j)), none, some (.int (jshl 1 (nI q) ||| h.1 52 q)), some (.int (nI j)), v10, some (.int (nI k)), some (.int (nI f))] [] := by
      intro f k v10 cc ex
      refine g_lload (pc := 161) o dX10_comes_161 rfl ?_
      refine g_lconst (pc := 163) o dX10_comes_163 1 rfl ?_
      refine g_bipush (pc := 164) o dX10_comes_164 32 rfl ?_
      refine g_iload (pc := 166) o dX10_comes_166 rfl ?_
      refine g_imul (pc := 168) o dX10_comes_168 ?_
      refine g_bipush (pc := 169) o dX10_comes_169 8 rfl ?_
      refine g_iload (pc := 171) o dX10_comes_171 rfl ?_
      refine g_imul (pc := 173) o dX10_comes_173 ?_
      refine g_iadd (pc := 174) o dX10_comes_174 ?_
      refine g_iload_n (pc := 175) o dX10_comes_175 rfl ?_
      refine g_iadd (pc := 176) o dX10_comes_176 ?_
      rw [show (32 : Int32) * nI f + 8 * nI k + nI q = nI (32 * f + 8 * k + q) from ixc f k q]
      refine g_lshl (pc := 177) o dX10_comes_177 ?_
      refine g_lor (pc := 178) o dX10_comes_178 ?_
      refine g_lstore (pc := 179) o dX10_comes_179 (by decide) ?_
      show ca_G Γ 13 _ _ [_, _, _, _, _, _, _, _, _, _, _, _, _] _
      exact st181 _ _ _ _ (by rw [comF_s, if_pos cc, ex])
    have st84 : ∀ (b : Int32), b = bI (ccP (h.1 52) t m q L j) → ca_G Γ 13 h 84 [some (.ref 51), some (.int (nI t)), some (.int (nI m)), some (.int (nI q)), some (.long L), none, some (.long (comF (h.1 52) t m q L j)), none, some (.int (jshl 1 (nI q) ||| h.1 52 q)), some (.int (nI j)), v10, v11, v12] [.int b] := by
      rintro b rfl
      have d1 : nI j / 8 = nI (j / 8) := dv_nI (by omega) (by decide) (by decide)
      have d2 : jrem (nI (j / 8)) 4 = nI (j / 8 % 4) := rm_nI (by omega) (by decide) (by decide)
      have d3 : nI j / 32 = nI (j / 8 / 4) := (dv_nI (a := j) (d := 32) (by omega) (by decide) (by decide)).trans (by congr 1; omega)
      refine g_istore (pc := 84) o dX10_comes_84 (by decide) ?_
      show ca_G Γ 13 _ _ [_, _, _, _, _, _, _, _, _, _, _, _, _] _
      refine g_iload (pc := 86) o dX10_comes_86 rfl ?_
      refine g_if_eq (pc := 88) o 181 dX10_comes_88 (by decide) (fun c88 => ?_) (fun c88 => ?_)
      · skip
        exact st181 _ _ _ _ (by rw [comF_s, if_neg (bI_0.mp c88)])
      · skip
        have cc := bI_n0.mp c88
        refine g_iload (pc := 91) o dX10_comes_91 rfl ?_
        refine g_bipush (pc := 93) o dX10_comes_93 8 rfl ?_
        refine g_idiv (pc := 95) o dX10_comes_95 (by decide) ?_
        rw [d1]
        refine g_iconst (pc := 96) o dX10_comes_96 4 rfl ?_
        refine g_irem (pc := 97) o dX10_comes_97 (by decide) ?_
        rw [d2]
        refine g_istore (pc := 98) o dX10_comes_98 (by decide) ?_
        show ca_G Γ 13 _ _ [_, _, _, _, _, _, _, _, _, _, _, _, _] _
        refine g_iload (pc := 100) o dX10_comes_100 rfl ?_
        refine g_bipush (pc := 102) o dX10_comes_102 32 rfl ?_
        refine g_idiv (pc := 104) o dX10_comes_104 (by decide) ?_
        rw [d3]
        refine g_istore (pc := 105) o dX10_comes_105 (by decide) ?_
        show ca_G Γ 13 _ _ [_, _, _, _, _, _, _, _, _, _, _, _, _] _
        refine g_aload_n (pc := 107) o dX10_comes_107 rfl ?_
        refine g_iload_n (pc := 108) o dX10_comes_108 rfl ?_
        refine g_iload_n (pc := 109) o dX10_comes_109 rfl ?_
        refine g_callVi (pc := 110) o (m_isAt t m ht hm) mt_X10_isAt mv_X10_isAt lk_X10_167 rfl rfl rfl (by decide) rfl (Nat.le_of_ble_eq_true rfl) dX10_comes_110 ?_
        refine g_if_eq (pc := 113) o 161 dX10_comes_113 (by decide) (fun c113 => ?_) (fun c113 => ?_)
        · skip
          exact st161 _ _ _ cc (by rw [nx_no (bI_0.mp c113)]; omega)
        · skip
          have ia := bI_n0.mp c113
          have st139 : ∀ (k : Nat), k = j / 8 % 4 - (if tmF (h.1 52) t 2 = nI q then 1 else 0) → ca_G Γ 13 h 139 [some (.ref 51), some (.int (nI t)), some (.int (nI m)), some (.int (nI q)), some (.long L), none, some (.long (comF (h.1 52) t m q L j)), none, some (.int (jshl 1 (nI q) ||| h.1 52 q)), some (.int (nI j)), some (.int (bI (ccP (h.1 52) t m q L j))), some (.int (nI (j / 8 % 4))), some (.int (nI (j / 8 / 4)))] [.int (nI k)] := by
            intro k ek
            refine g_istore (pc := 139) o dX10_comes_139 (by decide) ?_
            show ca_G Γ 13 _ _ [_, _, _, _, _, _, _, _, _, _, _, _, _] _
            refine g_aload_n (pc := 141) o dX10_comes_141 rfl ?_
            refine g_iload_n (pc := 142) o dX10_comes_142 rfl ?_
            refine g_callVi (pc := 143) o (m_badOf T t ht) mt_X10_badOf mv_X10_badOf lk_X10_154 rfl rfl rfl (by decide) rfl (Nat.le_of_ble_eq_true rfl) dX10_comes_143 ?_
            refine g_iload_n (pc := 146) o dX10_comes_146 rfl ?_
            refine g_callSi (pc := 147) o (m_has (badF (h.1 52) t) q (by omega) h) mt_X10_has ms_X10_has lk_X10_90 rfl (by decide) rfl (Nat.le_of_ble_eq_true rfl) dX10_comes_147 ?_
            refine g_if_eq (pc := 150) o 157 dX10_comes_150 (by decide) (fun c150 => ?_) (fun c150 => ?_)
            · skip
              have nb := bI_0.mp c150
              refine g_iload (pc := 157) o dX10_comes_157 rfl ?_
              refine g_istore (pc := 159) o dX10_comes_159 (by decide) ?_
              show ca_G Γ 13 _ _ [_, _, _, _, _, _, _, _, _, _, _, _, _] _
              exact st161 _ _ _ cc (by rw [nx_at ia, if_neg nb, ek])
            · skip
              have nb := bI_n0.mp c150
              refine g_iconst (pc := 153) o dX10_comes_153 1 rfl ?_
              refine g_goto (pc := 154) o 159 dX10_comes_154 (by decide) ?_
              refine g_istore (pc := 159) o dX10_comes_159 (by decide) ?_
              show ca_G Γ 13 _ _ [_, _, _, _, _, _, _, _, _, _, _, _, _] _
              exact st161 1 _ _ cc (by rw [nx_at ia, if_pos nb, ek])
          refine g_iload (pc := 116) o dX10_comes_116 rfl ?_
          refine g_iload (pc := 118) o dX10_comes_118 rfl ?_
          refine g_if_le (pc := 120) o 137 dX10_comes_120 (by decide) (fun c120 => ?_) (fun c120 => ?_)
          · skip
            have z : j / 8 % 4 = 0 := Classical.byContradiction (fun w => nI_nle (n := j / 8 % 4) (by omega) (by omega) c120)
            refine g_iconst (pc := 137) o dX10_comes_137 0 rfl ?_
            refine g_isub (pc := 138) o dX10_comes_138 ?_
            rw [show nI (j / 8 % 4) - 0 = nI (j / 8 % 4 - 0) from pk_sub (b := 0) (by omega)]
            exact st139 _ (by omega)
          · skip
            have z : 0 < j / 8 % 4 := by
              rcases Nat.eq_zero_or_pos (j / 8 % 4) with w | w
              · exact absurd (by rw [w]; decide) c120
              · exact w
            refine g_iload_n (pc := 123) o dX10_comes_123 rfl ?_
            refine g_aload_n (pc := 124) o dX10_comes_124 rfl ?_
            refine g_iload_n (pc := 125) o dX10_comes_125 rfl ?_
            refine g_iconst (pc := 126) o dX10_comes_126 2 rfl ?_
            refine g_callVi (pc := 127) o (m_of t 2 ht (by decide)) mt_X10_of mv_X10_of lk_X10_131 rfl rfl rfl (by decide) rfl (Nat.le_of_ble_eq_true rfl) dX10_comes_127 ?_
            refine g_ic_ne (pc := 130) o 137 dX10_comes_130 (by decide) (fun c130 => ?_) (fun c130 => ?_)
            · skip
              refine g_iconst (pc := 137) o dX10_comes_137 0 rfl ?_
              refine g_isub (pc := 138) o dX10_comes_138 ?_
              rw [show nI (j / 8 % 4) - 0 = nI (j / 8 % 4 - 0) from pk_sub (b := 0) (by omega)]
              exact st139 _ (by rw [if_neg (fun w => c130 w.symm)])
            · skip
              refine g_iconst (pc := 133) o dX10_comes_133 1 rfl ?_
              refine g_goto (pc := 134) o 138 dX10_comes_134 (by decide) ?_
              refine g_isub (pc := 138) o dX10_comes_138 ?_
              rw [show nI (j / 8 % 4) - 1 = nI (j / 8 % 4 - 1) from pk_sub (b := 1) (by omega)]
              exact st139 _ (by rw [if_pos c130.symm])
    refine g_iload_n (pc := 27) o dX10_comes_27 rfl ?_
    refine g_if_ne (pc := 28) o 54 dX10_comes_28 (by decide) (fun c28 => ?_) (fun c28 => ?_)
    · skip
      have m0 : ¬ m = 0 := fun z => c28 (by rw [z]; rfl)
      have d4 : jrem (nI j) 8 = nI (j % 8) := rm_nI (by omega) (by decide) (by decide)
      refine g_lload (pc := 54) o dX10_comes_54 rfl ?_
      refine g_iload (pc := 56) o dX10_comes_56 rfl ?_
      refine g_lushr (pc := 58) o dX10_comes_58 ?_
      refine g_lconst (pc := 59) o dX10_comes_59 1 rfl ?_
      refine g_land (pc := 60) o dX10_comes_60 ?_
      refine g_lconst (pc := 61) o dX10_comes_61 1 rfl ?_
      refine g_lcmp (pc := 62) o dX10_comes_62 ?_
      refine g_if_ne (pc := 63) o 83 dX10_comes_63 (by decide) (fun c63 => ?_) (fun c63 => ?_)
      · skip
        have nz : ¬ bl L j = true := fun z => c63 ((lg_cmp_eq _ _).mpr ((bl_has L (by omega)).mpr z))
        refine g_iconst (pc := 83) o dX10_comes_83 0 rfl ?_
        exact st84 _ (bI_f (fun z => by rcases z with z | z; exact m0 z.1; exact nz z.2.1))
      · skip
        have nz : bl L j = true := (bl_has L (by omega)).mp ((lg_cmp_eq _ _).mp c63)
        refine g_iload (pc := 66) o dX10_comes_66 rfl ?_
        refine g_iload (pc := 68) o dX10_comes_68 rfl ?_
        refine g_bipush (pc := 70) o dX10_comes_70 8 rfl ?_
        refine g_irem (pc := 72) o dX10_comes_72 (by decide) ?_
        rw [d4]
        have cn := m_has (jshl 1 (nI q) ||| h.1 52 q) (j % 8) (by omega) h
        refine g_callSi (pc := 73) o (cn) mt_X10_has ms_X10_has lk_X10_90 rfl (by decide) rfl (Nat.le_of_ble_eq_true rfl) dX10_comes_73 ?_
        refine g_if_eq (pc := 76) o 83 dX10_comes_76 (by decide) (fun c76 => ?_) (fun c76 => ?_)
        · skip
          refine g_iconst (pc := 83) o dX10_comes_83 0 rfl ?_
          exact st84 _ (bI_f (fun z => by rcases z with z | z; exact m0 z.1; exact bI_0.mp c76 z.2.2))
        · skip
          refine g_iconst (pc := 79) o dX10_comes_79 1 rfl ?_
          refine g_goto (pc := 80) o 84 dX10_comes_80 (by decide) ?_
          exact st84 _ (bI_t (Or.inr ⟨m0, nz, bI_n0.mp c76⟩))
    · skip
      have m0 : m = 0 := (nI_eq (b := 0) (by omega) (by decide)).mp c28
      have d5 : nI 8 * nI (askT (h.1 52) t) + nI q = nI (8 * askT (h.1 52) t + q) := ix2 _ _ _
      refine g_iload (pc := 31) o dX10_comes_31 rfl ?_
      refine g_bipush (pc := 33) o dX10_comes_33 8 rfl ?_
      refine g_aload_n (pc := 35) o dX10_comes_35 rfl ?_
      refine g_iload_n (pc := 36) o dX10_comes_36 rfl ?_
      refine g_callVi (pc := 37) o (m_asked T t ht) mt_X10_asked mv_X10_asked lk_X10_148 rfl rfl rfl (by decide) rfl (Nat.le_of_ble_eq_true rfl) dX10_comes_37 ?_
      refine g_imul (pc := 40) o dX10_comes_40 ?_
      refine g_iload_n (pc := 41) o dX10_comes_41 rfl ?_
      refine g_iadd (pc := 42) o dX10_comes_42 ?_
      rw [show (8 : Int32) * nI (askT (h.1 52) t) + nI q = nI (8 * askT (h.1 52) t + q) from d5]
      refine g_ic_ne (pc := 43) o 50 dX10_comes_43 (by decide) (fun c43 => ?_) (fun c43 => ?_)
      · skip
        have ne : ¬ j = 8 * askT (h.1 52) t + q := fun z => c43 (by rw [z])
        refine g_iconst (pc := 50) o dX10_comes_50 0 rfl ?_
        refine g_goto (pc := 51) o 84 dX10_comes_51 (by decide) ?_
        exact st84 _ (bI_f (fun z => by rcases z with z | z; exact ne z.2; exact z.1 m0))
      · skip
        have ne : j = 8 * askT (h.1 52) t + q := (nI_eq (by omega) (by omega)).mp c43
        refine g_iconst (pc := 46) o dX10_comes_46 1 rfl ?_
        refine g_goto (pc := 47) o 84 dX10_comes_47 (by decide) ?_
        exact st84 _ (bI_t (Or.inl ⟨m0, ne⟩))
set_option maxRecDepth 100000 in
set_option maxHeartbeats 400000 in
theorem m_comes {h : Mem} (T : okTm (h.1 52)) (t m q : Nat) (ht : t < 12) (hm : m < 24) (hq : q < 8) (L : Int64) : Ct yX10_comes cX10_comes 13 (some .long) 2 47 [.ref 51, .int (nI t), .int (nI m), .int (nI q), .long L] h (El (comF (h.1 52) t m q L 64) h) := by
  refine Ct.of (by decide) (Nat.le_of_ble_eq_true rfl) (fun Γ o ρ => ?_)
  show ca_G Γ 13 _ _ [_, _, _, _, _, _, _, _, _, _, _, _, _] _
  refine g_lconst (pc := 0) o dX10_comes_0 0 rfl ?_
  refine g_lstore (pc := 1) o dX10_comes_1 (by decide) ?_
  show ca_G Γ 13 _ _ [_, _, _, _, _, _, _, _, _, _, _, _, _] _
  refine g_iconst (pc := 3) o dX10_comes_3 1 rfl ?_
  refine g_iload_n (pc := 4) o dX10_comes_4 rfl ?_
  refine g_ishl (pc := 5) o dX10_comes_5 ?_
  refine g_aload_n (pc := 6) o dX10_comes_6 rfl ?_
  refine g_getR (pc := 7) o 0 rfl rfl rfl inX10 (by decide) lf_X10_7 dX10_comes_7 ?_
  refine g_iconst (pc := 10) o dX10_comes_10 0 rfl ?_
  refine g_iload_n (pc := 11) o dX10_comes_11 rfl ?_
  refine g_iadd (pc := 12) o dX10_comes_12 ?_
  refine n_iald (pc := 13) o q (z0 q) rfl ((by omega)) (by decide) dX10_comes_13 ?_
  refine g_ior (pc := 14) o dX10_comes_14 ?_
  refine g_istore (pc := 15) o dX10_comes_15 (by decide) ?_
  show ca_G Γ 13 _ _ [_, _, _, _, _, _, _, _, _, _, _, _, _] _
  refine g_iconst (pc := 17) o dX10_comes_17 0 rfl ?_
  refine g_istore (pc := 18) o dX10_comes_18 (by decide) ?_
  show ca_G Γ 13 _ _ [_, _, _, _, _, _, _, _, _, _, _, _, _] _
  exact lp_comes o ρ T t m q ht hm hq L ⟨rfl, rfl⟩ 0 (by omega) _ _ _ _ _ rfl rfl
def colF (s : Nat → Int32) (t : Nat) (p : Int32) (d m : Nat) (L : Int64) : Nat → Int64
  | 0 => 0
  | n + 1 => if bt (opF s p d m) n = true then colF s t p d m L n ||| comF s t m n L 64 else colF s t p d m L n
theorem colF_s (s : Nat → Int32) (t : Nat) (p : Int32) (d m : Nat) (L : Int64) (n : Nat) : colF s t p d m L (n + 1) = if bt (opF s p d m) n = true then colF s t p d m L n ||| comF s t m n L 64 else colF s t p d m L n := rfl
def kpL (s : Nat → Int32) (t : Nat) (p : Int32) (d : Nat) : Nat → Int64
  | 0 => 0
  | m + 1 => colF s t p d m (kpL s t p d m) 8
theorem kpL_s (s : Nat → Int32) (t : Nat) (p : Int32) (d m : Nat) : kpL s t p d (m + 1) = colF s t p d m (kpL s t p d m) 8 := rfl
def anyB (f : Nat → Bool) : Nat → Bool
  | 0 => false
  | n + 1 => anyB f n || f n
theorem anyB_s (f : Nat → Bool) (n : Nat) : anyB f (n + 1) = (anyB f n || f n) := rfl
theorem anyB_t (f : Nat → Bool) : ∀ n, anyB f n = true ↔ ∃ j, j < n ∧ f j = true
  | 0 => by
    constructor
    · intro z; cases z
    · rintro ⟨j, hj, _⟩; omega
  | n + 1 => by
    rw [anyB_s, Bool.or_eq_true, anyB_t f n]
    constructor
    · rintro (⟨j, hj, a⟩ | a)
      · exact ⟨j, by omega, a⟩
      · exact ⟨n, by omega, a⟩
    · rintro ⟨j, hj, a⟩
      by_cases w : j = n
      · subst w; exact Or.inr a
      · exact Or.inl ⟨j, by omega, a⟩
abbrev gA (L : Int64) (j : Nat) : Bool := bl L j && decide (j / 8 = 0)
abbrev gB (L : Int64) (j : Nat) : Bool := bl L j && !decide (j / 8 = 0)
def kvL (L : Int64) : Int32 := if anyB (gA L) 64 = true then (if anyB (gB L) 64 = true then 1 else 0) else (if anyB (gB L) 64 = true then 2 else 3)
def kvF (s : Nat → Int32) (t d : Nat) : Int32 := kvL (kpL s t (tmF s t 1) d 24)
theorem nx_m (s : Nat → Int32) (t m e : Nat) {q : Nat} (hq : q < 8) : nxI s t m e q % 8 = q := by
  unfold nxI
  split
  · split <;> omega
  · omega
theorem bt_sh {q : Nat} (hq : q < 32) {i : Nat} (hi : i < 32) : bt (jshl 1 (nI q)) i = decide (i = q) := by
  unfold jshl
  rw [b_shl q hq 1 hi, bt_1]
  by_cases z : i = q
  · subst z; simp
  · simp [z]; omega
theorem col_b {s : Nat → Int32} {t : Nat} {p : Int32} {d m : Nat} {L : Int64} {i : Nat} (hi : i < 64) : ∀ n, n ≤ 8 → (bl (colF s t p d m L n) i = true ↔ ∃ q, q < n ∧ bt (opF s p d m) q = true ∧ bl (comF s t m q L 64) i = true)
  | 0, _ => by
    show bl 0 i = true ↔ _
    rw [bl_0]
    constructor
    · intro z; cases z
    · rintro ⟨j, hj, _⟩; omega
  | n + 1, hn => by
    have ih := col_b (s := s) (t := t) (p := p) (d := d) (m := m) (L := L) hi n (by omega)
    rw [colF_s]
    split
    · rename_i z
      rw [bl_or, Bool.or_eq_true, ih]
      constructor
      · rintro (⟨j, hj, a⟩ | e)
        · exact ⟨j, by omega, a⟩
        · exact ⟨n, by omega, z, e⟩
      · rintro ⟨j, hj, a, b⟩
        by_cases w : j = n
        · subst w; exact Or.inr b
        · exact Or.inl ⟨j, by omega, a, b⟩
    · rename_i z
      rw [ih]
      constructor
      · rintro ⟨j, hj, a⟩; exact ⟨j, by omega, a⟩
      · rintro ⟨j, hj, a, b⟩
        by_cases w : j = n
        · subst w; exact absurd a z
        · exact ⟨j, by omega, a, b⟩
theorem kp_b {s : Nat → Int32} {t : Nat} {p : Int32} {d : Nat} (ha : askT s t < 4) : ∀ m, ∀ i, i < 64 → (bl (kpL s t p d (m + 1)) i = true ↔ KP s t p d (m + 1) i) := by
  intro m
  induction m with
  | zero =>
    intro i hi
    rw [kpL_s, col_b hi 8 (by omega)]
    show _ ↔ (bt (opF s p d 0) (i % 8) = true ∧ ∃ j, j < 64 ∧ (j / 8 = askT s t) ∧ (j % 8 = i % 8 ∨ bt (s (i % 8)) (j % 8) = true) ∧ nxI s t 0 (j / 8) (i % 8) = i)
    constructor
    · rintro ⟨q, hq, a, b⟩
      obtain ⟨j, hj, c, e⟩ := (com_b hq hi 64 (by omega)).mp b
      have eq : i % 8 = q := by rw [← e]; exact nx_m s t 0 _ hq
      rcases c with c | c
      · rw [eq]
        exact ⟨a, j, hj, by omega, Or.inl (by omega), e⟩
      · exact absurd rfl c.1
    · rintro ⟨a, j, hj, b, _, e⟩
      refine ⟨i % 8, by omega, a, (com_b (by omega) hi 64 (by omega)).mpr ⟨8 * askT s t + i % 8, by omega, Or.inl ⟨rfl, rfl⟩, ?_⟩⟩
      rw [show (8 * askT s t + i % 8) / 8 = j / 8 by omega]
      exact e
  | succ m ih =>
    intro i hi
    rw [kpL_s, col_b hi 8 (by omega)]
    show _ ↔ (bt (opF s p d (m + 1)) (i % 8) = true ∧ ∃ j, j < 64 ∧ KP s t p d (m + 1) j ∧ (j % 8 = i % 8 ∨ bt (s (i % 8)) (j % 8) = true) ∧ nxI s t (m + 1) (j / 8) (i % 8) = i)
    constructor
    · rintro ⟨q, hq, a, b⟩
      obtain ⟨j, hj, c, e⟩ := (com_b hq hi 64 (by omega)).mp b
      have eq : i % 8 = q := by rw [← e]; exact nx_m s t (m + 1) _ hq
      rcases c with c | c
      · exact absurd c.1 (by omega)
      · rw [eq]
        refine ⟨a, j, hj, (ih j hj).mp c.2.1, ?_, e⟩
        have := c.2.2
        rw [b_or, bt_sh (by omega) (by omega), Bool.or_eq_true, decide_eq_true_eq] at this
        exact this
    · rintro ⟨a, j, hj, b, c, e⟩
      refine ⟨i % 8, by omega, a, (com_b (by omega) hi 64 (by omega)).mpr ⟨j, hj, Or.inr ⟨by omega, (ih j hj).mpr b, ?_⟩, e⟩⟩
      rw [b_or, bt_sh (by omega) (by omega), Bool.or_eq_true, decide_eq_true_eq]
      exact c
theorem or_l0 (x : Int64) : (0 : Int64) ||| x = x := by
  apply bl_ext
  intro i _
  rw [bl_or, bl_0]
  simp
set_option maxRecDepth 100000 in
set_option maxHeartbeats 400000 in
theorem lp_kept3 {Γ : Fr} (o : ca_O Γ cX10_keptOf 10 RX10 3 79) {Pr : Option Value → Mem → Prop} (ρ : ca_R Γ (some .int) Pr) {h : Mem} (x1 x2 : Int32) (L : Int64) (hp : Pr (some (.int (kvL L))) h) : ∀ i, i ≤ 64 → ∀ (xi a b : Int32) (v8 v9 : Option Value), xi = nI i → a = bI (anyB (gA L) i = true) → b = bI (anyB (gB L) i = true) → ca_G Γ 10 h 89 [some (.ref 51), some (.int x1), some (.int x2), some (.long L), none, some (.int a), some (.int b), some (.int xi), v8, v9] [] := by
  refine downI 64 (fun i hi ih => ?_)
  rintro xi a b v8 v9 rfl rfl rfl
  refine g_iload (pc := 89) o dX10_keptOf_89 rfl ?_
  refine g_bipush (pc := 91) o dX10_keptOf_91 64 rfl ?_
  refine g_ic_ge (pc := 93) o 179 dX10_keptOf_93 (by decide) (fun c93 => ?_) (fun c93 => ?_)
  · skip
    have e : i = 64 := ge8 (n := 64) (by decide) (by omega) c93
    subst e
    unfold kvL at hp
    refine g_iload (pc := 179) o dX10_keptOf_179 rfl ?_
    refine g_if_ne (pc := 181) o 193 dX10_keptOf_181 (by decide) (fun c181 => ?_) (fun c181 => ?_)
    · skip
      rw [if_pos (bI_n0.mp c181)] at hp
      refine g_iload (pc := 193) o dX10_keptOf_193 rfl ?_
      refine g_if_ne (pc := 195) o 202 dX10_keptOf_195 (by decide) (fun c195 => ?_) (fun c195 => ?_)
      · skip
        rw [if_pos (bI_n0.mp c195)] at hp
        refine g_iload (pc := 202) o dX10_keptOf_202 rfl ?_
        refine g_if_ne (pc := 204) o 211 dX10_keptOf_204 (by decide) (fun c204 => ?_) (fun c204 => ?_)
        · skip
          refine g_iconst (pc := 211) o dX10_keptOf_211 1 rfl ?_
          exact g_iret o ρ dX10_keptOf_212 hp
        · skip
          exact absurd c204 c181
      · skip
        rw [if_neg (bI_0.mp c195)] at hp
        refine g_iconst (pc := 198) o dX10_keptOf_198 0 rfl ?_
        refine g_goto (pc := 199) o 212 dX10_keptOf_199 (by decide) ?_
        exact g_iret o ρ dX10_keptOf_212 hp
    · skip
      rw [if_neg (bI_0.mp c181)] at hp
      refine g_iload (pc := 184) o dX10_keptOf_184 rfl ?_
      refine g_if_ne (pc := 186) o 193 dX10_keptOf_186 (by decide) (fun c186 => ?_) (fun c186 => ?_)
      · skip
        rw [if_pos (bI_n0.mp c186)] at hp
        refine g_iload (pc := 193) o dX10_keptOf_193 rfl ?_
        refine g_if_ne (pc := 195) o 202 dX10_keptOf_195 (by decide) (fun c195 => ?_) (fun c195 => ?_)
        · skip
          refine g_iload (pc := 202) o dX10_keptOf_202 rfl ?_
          refine g_if_ne (pc := 204) o 211 dX10_keptOf_204 (by decide) (fun c204 => ?_) (fun c204 => ?_)
          · skip
            exact absurd c181 c204
          · skip
            refine g_iconst (pc := 207) o dX10_keptOf_207 2 rfl ?_
            refine g_goto (pc := 208) o 212 dX10_keptOf_208 (by decide) ?_
            exact g_iret o ρ dX10_keptOf_212 hp
        · skip
          exact absurd c195 c186
      · skip
        rw [if_neg (bI_0.mp c186)] at hp
        refine g_iconst (pc := 189) o dX10_keptOf_189 3 rfl ?_
        refine g_goto (pc := 190) o 212 dX10_keptOf_190 (by decide) ?_
        exact g_iret o ρ dX10_keptOf_212 hp
  · skip
    have e : i < 64 := lt8 (n := 64) (by decide) (by omega) c93
    have st171 : ∀ (a2 b2 x8 x9 : Int32), a2 = bI (anyB (gA L) (i + 1) = true) → b2 = bI (anyB (gB L) (i + 1) = true) → ca_G Γ 10 h 171 [some (.ref 51), some (.int x1), some (.int x2), some (.long L), none, some (.int a2), some (.int (bI (anyB (gB L) i = true))), some (.int (nI i)), some (.int x8), some (.int x9)] [.int b2] := by
      intro a2 b2 x8 x9 ea eb
      refine g_istore (pc := 171) o dX10_keptOf_171 (by decide) ?_
      show ca_G Γ 10 _ _ [_, _, _, _, _, _, _, _, _, _] _
      refine g_iinc (pc := 173) o dX10_keptOf_173 rfl 1 rfl (by decide) ?_
      show ca_G Γ 10 _ _ [_, _, _, _, _, _, _, _, _, _] _
      refine g_goto (pc := 176) o 89 dX10_keptOf_176 (by decide) ?_
      exact ih e _ _ _ _ _ (nI_1 i) ea eb
    have st149 : ∀ (a2 : Int32), a2 = bI (anyB (gA L) (i + 1) = true) → ca_G Γ 10 h 149 [some (.ref 51), some (.int x1), some (.int x2), some (.long L), none, some (.int (bI (anyB (gA L) i = true))), some (.int (bI (anyB (gB L) i = true))), some (.int (nI i)), some (.int (bI (bl L i = true))), some (.int (bI (i / 8 = 0)))] [.int a2] := by
      intro a2 ea
      refine g_istore (pc := 149) o dX10_keptOf_149 (by decide) ?_
      show ca_G Γ 10 _ _ [_, _, _, _, _, _, _, _, _, _] _
      refine g_iload (pc := 151) o dX10_keptOf_151 rfl ?_
      refine g_if_ne (pc := 153) o 166 dX10_keptOf_153 (by decide) (fun c153 => ?_) (fun c153 => ?_)
      · skip
        have z := bI_n0.mp c153
        refine g_iconst (pc := 166) o dX10_keptOf_166 1 rfl ?_
        refine g_goto (pc := 167) o 171 dX10_keptOf_167 (by decide) ?_
        exact st171 _ _ _ _ ea (bI_t (by rw [anyB_s, z]; rfl))
      · skip
        have z := bI_0.mp c153
        refine g_iload (pc := 156) o dX10_keptOf_156 rfl ?_
        refine g_if_eq (pc := 158) o 170 dX10_keptOf_158 (by decide) (fun c158 => ?_) (fun c158 => ?_)
        · skip
          have y := bI_0.mp c158
          refine g_iconst (pc := 170) o dX10_keptOf_170 0 rfl ?_
          exact st171 _ _ _ _ ea (bI_f (by rw [anyB_s]; simp [y, z]))
        · skip
          have y := bI_n0.mp c158
          refine g_iload (pc := 161) o dX10_keptOf_161 rfl ?_
          refine g_if_ne (pc := 163) o 170 dX10_keptOf_163 (by decide) (fun c163 => ?_) (fun c163 => ?_)
          · skip
            have x := bI_n0.mp c163
            refine g_iconst (pc := 170) o dX10_keptOf_170 0 rfl ?_
            exact st171 _ _ _ _ ea (bI_f (by rw [anyB_s]; simp [x, z]))
          · skip
            have x := bI_0.mp c163
            refine g_iconst (pc := 166) o dX10_keptOf_166 1 rfl ?_
            refine g_goto (pc := 167) o 171 dX10_keptOf_167 (by decide) ?_
            exact st171 _ _ _ _ ea (bI_t (by rw [anyB_s]; simp [x, y]))
    have st127 : ∀ (x8 x9 : Int32) , x8 = bI (bl L i = true) → x9 = bI (i / 8 = 0) → ca_G Γ 10 h 127 [some (.ref 51), some (.int x1), some (.int x2), some (.long L), none, some (.int (bI (anyB (gA L) i = true))), some (.int (bI (anyB (gB L) i = true))), some (.int (nI i)), some (.int x8), v9] [.int x9] := by
      rintro x8 x9 rfl rfl
      refine g_istore (pc := 127) o dX10_keptOf_127 (by decide) ?_
      show ca_G Γ 10 _ _ [_, _, _, _, _, _, _, _, _, _] _
      refine g_iload (pc := 129) o dX10_keptOf_129 rfl ?_
      refine g_if_ne (pc := 131) o 144 dX10_keptOf_131 (by decide) (fun c131 => ?_) (fun c131 => ?_)
      · skip
        have z := bI_n0.mp c131
        refine g_iconst (pc := 144) o dX10_keptOf_144 1 rfl ?_
        refine g_goto (pc := 145) o 149 dX10_keptOf_145 (by decide) ?_
        exact st149 _ (bI_t (by rw [anyB_s, z]; rfl))
      · skip
        have z := bI_0.mp c131
        refine g_iload (pc := 134) o dX10_keptOf_134 rfl ?_
        refine g_if_eq (pc := 136) o 148 dX10_keptOf_136 (by decide) (fun c136 => ?_) (fun c136 => ?_)
        · skip
          have y := bI_0.mp c136
          refine g_iconst (pc := 148) o dX10_keptOf_148 0 rfl ?_
          exact st149 _ (bI_f (by rw [anyB_s]; simp [y, z]))
        · skip
          have y := bI_n0.mp c136
          refine g_iload (pc := 139) o dX10_keptOf_139 rfl ?_
          refine g_if_eq (pc := 141) o 148 dX10_keptOf_141 (by decide) (fun c141 => ?_) (fun c141 => ?_)
          · skip
            have x := bI_0.mp c141
            refine g_iconst (pc := 148) o dX10_keptOf_148 0 rfl ?_
            exact st149 _ (bI_f (by rw [anyB_s]; simp [x, z]))
          · skip
            have x := bI_n0.mp c141
            refine g_iconst (pc := 144) o dX10_keptOf_144 1 rfl ?_
            refine g_goto (pc := 145) o 149 dX10_keptOf_145 (by decide) ?_
            exact st149 _ (bI_t (by rw [anyB_s]; simp [x, y]))
    have st112 : ∀ (x8 : Int32) , x8 = bI (bl L i = true) → ca_G Γ 10 h 112 [some (.ref 51), some (.int x1), some (.int x2), some (.long L), none, some (.int (bI (anyB (gA L) i = true))), some (.int (bI (anyB (gB L) i = true))), some (.int (nI i)), v8, v9] [.int x8] := by
      intro x8 e8
      have d1 : nI i / 8 = nI (i / 8) := dv_nI (by omega) (by decide) (by decide)
      refine g_istore (pc := 112) o dX10_keptOf_112 (by decide) ?_
      show ca_G Γ 10 _ _ [_, _, _, _, _, _, _, _, _, _] _
      refine g_iload (pc := 114) o dX10_keptOf_114 rfl ?_
      refine g_bipush (pc := 116) o dX10_keptOf_116 8 rfl ?_
      refine g_idiv (pc := 118) o dX10_keptOf_118 (by decide) ?_
      rw [d1]
      refine g_if_ne (pc := 119) o 126 dX10_keptOf_119 (by decide) (fun c119 => ?_) (fun c119 => ?_)
      · skip
        have z : ¬ i / 8 = 0 := fun w => c119 (by rw [w]; rfl)
        refine g_iconst (pc := 126) o dX10_keptOf_126 0 rfl ?_
        exact st127 _ _ e8 (bI_f z)
      · skip
        have z : i / 8 = 0 := (nI_eq (b := 0) (by omega) (by decide)).mp c119
        refine g_iconst (pc := 122) o dX10_keptOf_122 1 rfl ?_
        refine g_goto (pc := 123) o 127 dX10_keptOf_123 (by decide) ?_
        exact st127 _ _ e8 (bI_t z)
    refine g_lload_n (pc := 96) o dX10_keptOf_96 rfl ?_
    refine g_iload (pc := 97) o dX10_keptOf_97 rfl ?_
    refine g_lushr (pc := 99) o dX10_keptOf_99 ?_
    refine g_lconst (pc := 100) o dX10_keptOf_100 1 rfl ?_
    refine g_land (pc := 101) o dX10_keptOf_101 ?_
    refine g_lconst (pc := 102) o dX10_keptOf_102 1 rfl ?_
    refine g_lcmp (pc := 103) o dX10_keptOf_103 ?_
    refine g_if_ne (pc := 104) o 111 dX10_keptOf_104 (by decide) (fun c104 => ?_) (fun c104 => ?_)
    · skip
      refine g_iconst (pc := 111) o dX10_keptOf_111 0 rfl ?_
      exact st112 _ (bI_f (fun z => c104 ((lg_cmp_eq _ _).mpr ((bl_has L (by omega)).mpr z))))
    · skip
      refine g_iconst (pc := 107) o dX10_keptOf_107 1 rfl ?_
      refine g_goto (pc := 108) o 112 dX10_keptOf_108 (by decide) ?_
      exact st112 _ (bI_t ((bl_has L (by omega)).mp ((lg_cmp_eq _ _).mp c104)))
set_option maxRecDepth 100000 in
set_option maxHeartbeats 400000 in
theorem lp_kept2 {Γ : Fr} (o : ca_O Γ cX10_keptOf 10 RX10 3 79) {h : Mem} {s : Nat → Int32} {p : Int32} (es : h.1 52 = s) (ok : ok8 s) (S : okS s) (T : okTm s) (t d m : Nat) (ht : t < 12) (hm : m < 24) (e56 : ∀ i, i < 24 → h.1 56 i = sgF s p d i) (L : Int64) (v9 : Option Value) (kk : ∀ v6 v7 v8 : Option Value, ca_G Γ 10 h 16 [some (.ref 51), some (.int (nI t)), some (.int (nI d)), some (.long (colF s t p d m L 8)), none, some (.int (nI (m + 1))), v6, v7, v8, v9] []) : ∀ q, q ≤ 8 → ∀ (xq : Int32) (y : Int64), xq = nI q → y = colF s t p d m L q → ca_G Γ 10 h 29 [some (.ref 51), some (.int (nI t)), some (.int (nI d)), some (.long L), none, some (.int (nI m)), some (.long y), none, some (.int xq), v9] [] := by
  subst es
  refine downI 8 (fun q hq ih => ?_)
  rintro xq y rfl rfl
  refine g_iload (pc := 29) o dX10_keptOf_29 rfl ?_
  refine g_bipush (pc := 31) o dX10_keptOf_31 8 rfl ?_
  refine g_ic_ge (pc := 33) o 71 dX10_keptOf_33 (by decide) (fun c33 => ?_) (fun c33 => ?_)
  · skip
    have e : q = 8 := ge8 (n := 8) (by decide) (by omega) c33
    subst e
    refine g_lload (pc := 71) o dX10_keptOf_71 rfl ?_
    refine g_lstore_n (pc := 73) o dX10_keptOf_73 (by decide) ?_
    show ca_G Γ 10 _ _ [_, _, _, _, _, _, _, _, _, _] _
    refine g_iinc (pc := 74) o dX10_keptOf_74 rfl 1 rfl (by decide) ?_
    show ca_G Γ 10 _ _ [_, _, _, _, _, _, _, _, _, _] _
    refine g_goto (pc := 77) o 16 dX10_keptOf_77 (by decide) ?_
    rw [show nI m + 1 = nI (m + 1) from nI_1 m]
    exact kk _ _ _
  · skip
    have e : q < 8 := lt8 (n := 8) (by decide) (by omega) c33
    refine g_aload_n (pc := 36) o dX10_keptOf_36 rfl ?_
    refine g_iload (pc := 37) o dX10_keptOf_37 rfl ?_
    refine g_callVi (pc := 39) o (m_open ok S e56 m hm) mt_X10_open mv_X10_open lk_X10_119 rfl rfl rfl (by decide) rfl (Nat.le_of_ble_eq_true rfl) dX10_keptOf_39 ?_
    refine g_iload (pc := 42) o dX10_keptOf_42 rfl ?_
    refine g_callSi (pc := 44) o (m_has (opF (h.1 52) p d m) q (by omega) h) mt_X10_has ms_X10_has lk_X10_90 rfl (by decide) rfl (Nat.le_of_ble_eq_true rfl) dX10_keptOf_44 ?_
    refine g_if_eq (pc := 47) o 65 dX10_keptOf_47 (by decide) (fun c47 => ?_) (fun c47 => ?_)
    · skip
      refine g_iinc (pc := 65) o dX10_keptOf_65 rfl 1 rfl (by decide) ?_
      show ca_G Γ 10 _ _ [_, _, _, _, _, _, _, _, _, _] _
      refine g_goto (pc := 68) o 29 dX10_keptOf_68 (by decide) ?_
      exact ih e _ _ (nI_1 q) (by rw [colF_s, if_neg (bI_0.mp c47)])
    · skip
      refine g_lload (pc := 50) o dX10_keptOf_50 rfl ?_
      refine g_aload_n (pc := 52) o dX10_keptOf_52 rfl ?_
      refine g_iload_n (pc := 53) o dX10_keptOf_53 rfl ?_
      refine g_iload (pc := 54) o dX10_keptOf_54 rfl ?_
      refine g_iload (pc := 56) o dX10_keptOf_56 rfl ?_
      refine g_lload_n (pc := 58) o dX10_keptOf_58 rfl ?_
      refine g_callVl (pc := 59) o (m_comes T t m q ht hm e L) mt_X10_comes mv_X10_comes lk_X10_163 rfl rfl rfl (by decide) rfl (Nat.le_of_ble_eq_true rfl) dX10_keptOf_59 ?_
      refine g_lor (pc := 62) o dX10_keptOf_62 ?_
      refine g_lstore (pc := 63) o dX10_keptOf_63 (by decide) ?_
      show ca_G Γ 10 _ _ [_, _, _, _, _, _, _, _, _, _] _
      refine g_iinc (pc := 65) o dX10_keptOf_65 rfl 1 rfl (by decide) ?_
      show ca_G Γ 10 _ _ [_, _, _, _, _, _, _, _, _, _] _
      refine g_goto (pc := 68) o 29 dX10_keptOf_68 (by decide) ?_
      exact ih e _ _ (nI_1 q) (by rw [colF_s, if_pos (bI_n0.mp c47)])
set_option maxRecDepth 100000 in
set_option maxHeartbeats 400000 in
theorem lp_kept1 {Γ : Fr} (o : ca_O Γ cX10_keptOf 10 RX10 3 79) {Pr : Option Value → Mem → Prop} (ρ : ca_R Γ (some .int) Pr) {h : Mem} {s : Nat → Int32} {p : Int32} (es : h.1 52 = s) (ok : ok8 s) (S : okS s) (T : okTm s) (t d : Nat) (ht : t < 12) (e56 : ∀ i, i < 24 → h.1 56 i = sgF s p d i) (hp : Pr (some (.int (kvL (kpL s t p d 24)))) h) : ∀ m, m ≤ 24 → ∀ (xm : Int32) (y : Int64) (v6 v7 v8 v9 : Option Value), xm = nI m → y = kpL s t p d m → ca_G Γ 10 h 16 [some (.ref 51), some (.int (nI t)), some (.int (nI d)), some (.long y), none, some (.int xm), v6, v7, v8, v9] [] := by
  refine downI 24 (fun m hm ih => ?_)
  rintro xm y v6 v7 v8 v9 rfl rfl
  refine g_iload (pc := 16) o dX10_keptOf_16 rfl ?_
  refine g_bipush (pc := 18) o dX10_keptOf_18 24 rfl ?_
  refine g_ic_ge (pc := 20) o 80 dX10_keptOf_20 (by decide) (fun c20 => ?_) (fun c20 => ?_)
  · skip
    have e : m = 24 := ge8 (n := 24) (by decide) (by omega) c20
    subst e
    refine g_iconst (pc := 80) o dX10_keptOf_80 0 rfl ?_
    refine g_istore (pc := 81) o dX10_keptOf_81 (by decide) ?_
    show ca_G Γ 10 _ _ [_, _, _, _, _, _, _, _, _, _] _
    refine g_iconst (pc := 83) o dX10_keptOf_83 0 rfl ?_
    refine g_istore (pc := 84) o dX10_keptOf_84 (by decide) ?_
    show ca_G Γ 10 _ _ [_, _, _, _, _, _, _, _, _, _] _
    refine g_iconst (pc := 86) o dX10_keptOf_86 0 rfl ?_
    refine g_istore (pc := 87) o dX10_keptOf_87 (by decide) ?_
    show ca_G Γ 10 _ _ [_, _, _, _, _, _, _, _, _, _] _
    exact lp_kept3 o ρ _ _ _ hp 0 (by omega) _ _ _ _ _ rfl rfl rfl
  · skip
    have e : m < 24 := lt8 (n := 24) (by decide) (by omega) c20
    refine g_lconst (pc := 23) o dX10_keptOf_23 0 rfl ?_
    refine g_lstore (pc := 24) o dX10_keptOf_24 (by decide) ?_
    show ca_G Γ 10 _ _ [_, _, _, _, _, _, _, _, _, _] _
    refine g_iconst (pc := 26) o dX10_keptOf_26 0 rfl ?_
    refine g_istore (pc := 27) o dX10_keptOf_27 (by decide) ?_
    show ca_G Γ 10 _ _ [_, _, _, _, _, _, _, _, _, _] _
    exact lp_kept2 o es ok S T t d m ht e e56 _ _ (fun v6 v7 v8 => ih e _ _ v6 v7 v8 _ rfl rfl) 0 (by omega) _ _ rfl rfl
set_option maxRecDepth 100000 in
set_option maxHeartbeats 400000 in
theorem m_keptOf {h : Mem} (ok : ok8 (h.1 52)) (S : okS (h.1 52)) (T : okTm (h.1 52)) (t d : Nat) (ht : t < 12) (hd : d < 30) : Ct yX10_keptOf cX10_keptOf 10 (some .int) 3 79 [.ref 51, .int (nI t), .int (nI d)] h (Qi (fun r h2 => r = kvF (h.1 52) t d ∧ ∀ c, c ≠ 56 → h2.1 c = h.1 c)) := by
  refine Ct.of (by decide) (Nat.le_of_ble_eq_true rfl) (fun Γ o ρ => ?_)
  show ca_G Γ 10 _ _ [_, _, _, _, _, _, _, _, _, _] _
  refine g_aload_n (pc := 0) o dX10_keptOf_0 rfl ?_
  refine g_aload_n (pc := 1) o dX10_keptOf_1 rfl ?_
  refine g_iload_n (pc := 2) o dX10_keptOf_2 rfl ?_
  refine g_iconst (pc := 3) o dX10_keptOf_3 1 rfl ?_
  refine g_callVi (pc := 4) o (m_of t 1 ht (by decide)) mt_X10_of mv_X10_of lk_X10_131 rfl rfl rfl (by decide) rfl (Nat.le_of_ble_eq_true rfl) dX10_keptOf_4 ?_
  refine g_iload_n (pc := 7) o dX10_keptOf_7 rfl ?_
  refine g_callVQv (pc := 8) o (m_looks ok S (tmF (h.1 52) t 1) d hd) mt_X10_looks mv_X10_looks lk_X10_115 rfl rfl rfl (by decide) rfl (Nat.le_of_ble_eq_true rfl) dX10_keptOf_8 ?_
  rintro h2 e2
  obtain ⟨e56, e2⟩ := e2
  refine g_lconst (pc := 11) o dX10_keptOf_11 0 rfl ?_
  refine g_lstore_n (pc := 12) o dX10_keptOf_12 (by decide) ?_
  show ca_G Γ 10 _ _ [_, _, _, _, _, _, _, _, _, _] _
  refine g_iconst (pc := 13) o dX10_keptOf_13 0 rfl ?_
  refine g_istore (pc := 14) o dX10_keptOf_14 (by decide) ?_
  show ca_G Γ 10 _ _ [_, _, _, _, _, _, _, _, _, _] _
  exact lp_kept1 o ρ (h := h2) (e2 52 (by decide)) ok S T t d ht e56 ⟨_, rfl, rfl, e2⟩ 0 (by omega) _ _ _ _ _ _ rfl rfl

