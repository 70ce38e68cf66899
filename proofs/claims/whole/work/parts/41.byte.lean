/-! ===== bytes of a long ===== -/
theorem bl_xor (x y : Int64) (i : Nat) : bl (x ^^^ y) i = (bl x i ^^ bl y i) := by unfold bl; rw [Int64.toBitVec_xor, BitVec.getLsbD_xor]
theorem bl_m1 : ∀ i, i < 64 → bl (-1) i = true := by decide +kernel
theorem bl_shl (n : Nat) (hn : n < 64) (x : Int64) {i : Nat} (hi : i < 64) : bl (jlshl x (nI n)) i = (decide (n ≤ i) && bl x (i - n)) := by
  unfold jlshl bl
  rw [Int64.toBitVec_shiftLeft]
  show (x.toBitVec <<< (((nI n).toInt64 &&& 63).toBitVec.smod 64).toNat).getLsbD i = _
  rw [sl_l n hn, BitVec.getLsbD_shiftLeft]
  rcases Nat.lt_or_ge i n with h | h
  · simp [h, Nat.not_le.mpr h]
  · simp [hi, h, Nat.not_lt.mpr h]
theorem bl_255 : ∀ i, i < 64 → bl 255 i = decide (i < 8) := by decide +kernel
def byteF (x : Int64) (q : Nat) : Int32 := (jlushr x (nI (8 * q))).toInt32 &&& 255
theorem by_b (x : Int64) {q : Nat} (hq : q < 8) {i : Nat} (hi : i < 32) : bt (byteF x q) i = (decide (i < 8) && bl x (8 * q + i)) := by
  unfold byteF
  rw [b_and, b_255]
  have : bt (jlushr x (nI (8 * q))).toInt32 i = bl (jlushr x (nI (8 * q))) i := by
    unfold bt bl
    rw [Int64.toBitVec_toInt32, BitVec.getLsbD_signExtend, if_pos (by omega)]
    simp [hi]
  rw [this, bl_u (8 * q) (by omega)]
  cases decide (i < 8) <;> simp
def seF (x : Int64) (q : Nat) (v : Int32) : Int64 := (x &&& (jlshl 255 (nI (8 * q)) ^^^ -1)) ||| jlshl v.toInt64 (nI (8 * q))
theorem nl_b : ∀ v, v < 256 → ∀ i, i < 64 → bl (nI v).toInt64 i = (decide (i < 8) && bt (nI v) i) := by decide +kernel
theorem se_by (x : Int64) {q r v : Nat} (hq : q < 8) (hr : r < 8) (hv : v < 256) : byteF (seF x q (nI v)) r = if r = q then nI v else byteF x r := by
  apply b_ext
  intro i hi
  rw [by_b _ hr hi]
  unfold seF
  by_cases h8 : i < 8
  · rw [bl_or, bl_and, bl_xor, bl_m1 _ (by omega), bl_shl (8 * q) (by omega) _ (by omega), bl_shl (8 * q) (by omega) _ (by omega)]
    by_cases w : r = q
    · subst w
      rw [if_pos rfl, show 8 * r + i - 8 * r = i by omega, bl_255 i (by omega), nl_b v hv i (by omega)]
      simp [h8]
    · rw [if_neg w, by_b _ hr hi]
      by_cases z : 8 * q ≤ 8 * r + i
      · rw [bl_255 _ (by omega), nl_b v hv _ (by omega)]
        have : ¬ 8 * r + i - 8 * q < 8 := by omega
        simp [h8, this]
      · simp [h8, z]
  · have nb : bt (nI v) i = false := (by decide +kernel : ∀ v, v < 256 → ∀ i, i < 32 → ¬ i < 8 → bt (nI v) i = false) v hv i hi h8
    split
    · rw [nb]; simp [h8]
    · rw [by_b _ hr hi]; simp [h8]

