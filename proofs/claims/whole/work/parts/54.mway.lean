/-! ===== the model: way ===== -/
def fdV (x : Nat) : Int32 := if x = 8 then -1 else nI x
theorem sub_eq {x l v : Nat} (hx : x < 100000) (hl : l < 100000) (hv : v < 100000) : nI x = nI l - nI v ↔ x + v = l := by
  constructor
  · intro h
    have : nI (x + v) = nI l := by rw [← nI_add, h, Int32.sub_add_cancel]
    exact (nI_eq (by omega) (by omega)).mp this
  · rintro rfl
    rw [← nI_add, Int32.add_sub_cancel]
def lfF (A : Au) (H : Nat) : Nat := match H with
  | 0 => bsF A
  | m + 1 => cgF A (23 - m) (wyF A m).2 (wyF A m).1
def cdF (A : Au) (H : Nat) : Nat := match H with
  | 0 => A.c0
  | m + 1 => (wyF A m).2
def ftF (A : Au) (H : Nat) : Nat → Bool := match H with
  | 0 => b0F A
  | m + 1 => bnF A m (wyF A m).1 (wyF A m).2
def zpF (A : Au) (H : Nat) : Nat := match H with
  | 0 => 0
  | m + 1 => (wyF A m).1
theorem wp_ft (A : Au) (H : Nat) : (wyF A H).1 = lowF (ftF A H) 8 := by cases H <;> rfl
theorem wc_cd (A : Au) (H : Nat) : (wyF A H).2 = A.nx (cdF A H) H (wyF A H).1 := by cases H <;> rfl
theorem ft_iff {A : Au} {H r : Nat} (hH : H < 24) : ftF A H r = true ↔ (H = 0 ∨ r = zpF A H ∨ bt (A.s (zpF A H)) r = true) ∧ bt (A.lw H) r = true ∧ cgF A (23 - H) (A.nx (cdF A H) H r) r + (if H = 0 ∨ r = zpF A H then 0 else 1) = lfF A H := by
  cases H with
  | zero =>
    show b0F A r = true ↔ _
    unfold b0F
    rw [decide_eq_true_eq, if_pos (Or.inl rfl), Nat.add_zero]
    exact ⟨fun y => ⟨Or.inl rfl, y⟩, fun y => y.2⟩
  | succ m =>
    show bnF A m (wyF A m).1 (wyF A m).2 r = true ↔ _
    unfold bnF
    have e : (if m + 1 = 0 ∨ r = zpF A (m + 1) then 0 else 1) = (if r = (wyF A m).1 then 0 else 1) := by
      by_cases w : r = (wyF A m).1
      · rw [if_pos w, if_pos (show m + 1 = 0 ∨ r = zpF A (m + 1) from Or.inr w)]
      · rw [if_neg w, if_neg (show ¬ (m + 1 = 0 ∨ r = zpF A (m + 1)) from fun y => y.elim (by omega) w)]
    rw [decide_eq_true_eq, e, show 23 - (m + 1) = 22 - m by omega]
    constructor
    · rintro ⟨⟨a, b⟩, f⟩
      exact ⟨Or.inr b, a, f⟩
    · rintro ⟨a, b, f⟩
      exact ⟨⟨b, a.resolve_left (by omega)⟩, f⟩
theorem cd_lt {s : Nat → Int32} {p : Int32} {d : Nat} {X : Int32} : ∀ H, cdF (auM s p d X) H < (mlF (rxM s X) 12)
  | 0 => c0_lt s X
  | m + 1 => by
    show (wyF (auM s p d X) m).2 < _
    rw [wc_cd]
    exact nxM_lt (cd_lt m)
theorem lf_le {A : Au} (h : bsF A < 1000) {H : Nat} (hH : H ≤ 24) : lfF A H < 1000 := by
  cases H with
  | zero => exact h
  | succ m => exact (wy_ok h m (by omega)).2.2
theorem zp_lt {A : Au} (h : bsF A < 1000) {H : Nat} (hH : H ≤ 24) : zpF A H < 8 := by
  cases H with
  | zero => show 0 < 8; omega
  | succ m => exact (wy_ok h m (by omega)).1
theorem ft_t {A : Au} (h : bsF A < 1000) {H : Nat} (hH : H < 24) : ftF A H (wyF A H).1 = true := by
  cases H with
  | zero =>
    obtain ⟨r, hr, z, e⟩ := bs_ex h
    exact (low_ex (b0F A) 8 (by omega) ⟨r, by omega, hr, by unfold b0F; exact decide_eq_true ⟨z, e⟩⟩).2.1
  | succ m =>
    obtain ⟨a, b, c⟩ := wy_ok h m (by omega)
    obtain ⟨r, hr, e⟩ := bn_ex (by omega) c
    exact (low_ex (bnF A m (wyF A m).1 (wyF A m).2) 8 (by omega) ⟨r, by omega, hr, e⟩).2.1
set_option maxRecDepth 100000 in
set_option maxHeartbeats 800000 in
theorem lp_mw2 {Γ : Fr} (o : ca_O Γ cX10_way 12 RX10 5 127) {h : Mem} {s : Nat → Int32} (I : SI s) (p : Int32) (d : Nat) (X : Int32) (k5 : kbF X 12 ≤ 5) (x2 x3 : Int32) (es : h.1 52 = s) (M : MB h s p d X 12) (H : Nat) (hH : H < 24) (c L z : Nat) (hc : c < (mlF (rxM s X) 12)) (hL : L < 1000) (hz : z < 8) (e62 : ¬ H = 0 → h.1 62 (H - 1) = nI z) (e60 : ∀ c q, c < (mlF (rxM s X) 12) → q < 8 → h.1 60 (8 * c + q) = nI (cgF (auM s p d X) (23 - H) c q)) (f : Nat → Bool) (hf : ∀ r, f r = true ↔ (H = 0 ∨ r = z ∨ bt (s z) r = true) ∧ bt (lwF s p d X H 12) r = true ∧ cgF (auM s p d X) (23 - H) ((auM s p d X).nx c H r) r + (if H = 0 ∨ r = z then 0 else 1) = L) (kk : ∀ v9 v10 v11 : Option Value, ca_G Γ 12 h 228 [some (.ref 51), some (.int p), some (.int x2), some (.int x3), some (.int (nI L)), some (.int (nI c)), some (.int (nI H)), some (.int (lwF s p d X H 12)), some (.int (fdV (lowF f 8))), v9, v10, v11] []) : ∀ n, n ≤ 8 → ∀ (xn y : Int32) (v10 v11 : Option Value), xn = nI n - 1 → y = fdV (lowF f (8 - n)) → ca_G Γ 12 h 88 [some (.ref 51), some (.int p), some (.int x2), some (.int x3), some (.int (nI L)), some (.int (nI c)), some (.int (nI H)), some (.int (lwF s p d X H 12)), some (.int y), some (.int xn), v10, v11] [] := by
  have ha : ∀ t, t < 12 → askT s t < 4 := fun t ht => ask_lt I.tm ht
  have l1024 := ml_M5 (X := X) ha k5 (Nat.le_refl 12)
  have sz : h.1 52 z = s z := by rw [es]
  intro n
  induction n with
  | zero =>
    rintro _ xn y v10 v11 rfl rfl
    refine g_iload (pc := 88) o dX10_way_88 rfl ?_
    refine g_if_lt (pc := 90) o 228 dX10_way_90 (by decide) (fun c90 => ?_) (fun c90 => ?_)
    · skip
      exact kk _ _ _
    · skip
      exact absurd (by decide) c90
  | succ n ih =>
    rintro hn xn y v10 v11 rfl ey
    rw [nI_pred]
    have fs : lowF f (8 - n) = if f n = true then n else lowF f (8 - (n + 1)) := by
      rw [show 8 - n = (8 - (n + 1)) + 1 by omega, lowF_s, show 7 - (8 - (n + 1)) = n by omega]
    have hp1 : ¬ H = 0 → nI H - 1 = nI (H - 1) := fun w => by
      have : nI H = nI ((H - 1) + 1) := by rw [show (H - 1) + 1 = H by omega]
      rw [this]; exact nI_pred _
    have nz : H = 0 ↔ nI H = 0 := ⟨fun w => by rw [w]; rfl, fun w => (nI_eq (a := H) (b := 0) (by omega) (by decide)).mp w⟩
    have nl := nxM_lt (p := p) (d := d) (m := H) (q := n) hc
    have cl := cg_1000 (auM s p d X) (23 - H) ((auM s p d X).nx c H n) n
    have st220 : ∀ (y2 : Int32) (v10 v11 : Option Value), y2 = fdV (lowF f (8 - n)) → ca_G Γ 12 h 220 [some (.ref 51), some (.int p), some (.int x2), some (.int x3), some (.int (nI L)), some (.int (nI c)), some (.int (nI H)), some (.int (lwF s p d X H 12)), some (.int y), some (.int (nI n)), v10, v11] [.int y2] := by
      intro y2 v10 v11 e2
      refine g_istore (pc := 220) o dX10_way_220 (by decide) ?_
      show ca_G Γ 12 _ _ [_, _, _, _, _, _, _, _, _, _, _, _] _
      refine g_iinc (pc := 222) o dX10_way_222 rfl (-1) rfl (by decide) ?_
      show ca_G Γ 12 _ _ [_, _, _, _, _, _, _, _, _, _, _, _] _
      refine g_goto (pc := 225) o 88 dX10_way_225 (by decide) ?_
      exact ih (by omega) _ _ _ _ (Int32.sub_eq_add_neg _ _).symm e2
    have st218 : ∀ (v10 v11 : Option Value), ¬ f n = true → ca_G Γ 12 h 218 [some (.ref 51), some (.int p), some (.int x2), some (.int x3), some (.int (nI L)), some (.int (nI c)), some (.int (nI H)), some (.int (lwF s p d X H 12)), some (.int y), some (.int (nI n)), v10, v11] [] := by
      intro v10 v11 w
      refine g_iload (pc := 218) o dX10_way_218 rfl ?_
      exact st220 _ _ _ (by rw [fs, if_neg w]; exact ey)
    have st167 : ∀ (nr mv : Int32) (v11 : Option Value), nr = bI (H = 0 ∨ n = z ∨ bt (s z) n = true) → mv = nI (if H = 0 ∨ n = z then 0 else 1) → ca_G Γ 12 h 167 [some (.ref 51), some (.int p), some (.int x2), some (.int x3), some (.int (nI L)), some (.int (nI c)), some (.int (nI H)), some (.int (lwF s p d X H 12)), some (.int y), some (.int (nI n)), some (.int nr), v11] [.int mv] := by
      intro nr mv v11 enr emv
      have e01 : (if H = 0 ∨ n = z then 0 else 1) ≤ 1 := by split <;> omega
      refine g_istore (pc := 167) o dX10_way_167 (by decide) ?_
      show ca_G Γ 12 _ _ [_, _, _, _, _, _, _, _, _, _, _, _] _
      refine g_iload (pc := 169) o dX10_way_169 rfl ?_
      refine g_if_eq (pc := 171) o 218 dX10_way_171 (by decide) (fun c171 => ?_) (fun c171 => ?_)
      · skip
        rw [enr] at c171
        exact st218 _ _ (fun w => bI_0.mp c171 ((hf n).mp w).1)
      · skip
        rw [enr] at c171
        have w1 := bI_n0.mp c171
        refine g_iload (pc := 174) o dX10_way_174 rfl ?_
        refine g_iload (pc := 176) o dX10_way_176 rfl ?_
        refine g_callSi (pc := 178) o (m_has (lwF s p d X H 12) n (by omega) h) mt_X10_has ms_X10_has lk_X10_90 rfl (by decide) rfl (Nat.le_of_ble_eq_true rfl) dX10_way_178 ?_
        refine g_if_eq (pc := 181) o 218 dX10_way_181 (by decide) (fun c181 => ?_) (fun c181 => ?_)
        · skip
          have w2 := bI_0.mp c181
          exact st218 _ _ (fun w => w2 ((hf n).mp w).2.1)
        · skip
          have w2 := bI_n0.mp c181
          refine g_aload_n (pc := 184) o dX10_way_184 rfl ?_
          refine g_getR (pc := 185) o 12 rfl rfl rfl inX10 (by decide) lf_X10_34 dX10_way_185 ?_
          refine g_bipush (pc := 188) o dX10_way_188 8 rfl ?_
          refine g_aload_n (pc := 190) o dX10_way_190 rfl ?_
          refine g_iload (pc := 191) o dX10_way_191 rfl ?_
          refine g_iload (pc := 193) o dX10_way_193 rfl ?_
          refine g_iload (pc := 195) o dX10_way_195 rfl ?_
          refine g_callVi (pc := 197) o (m_after es I p d X k5 M c H n hH (by omega) hc) mt_X10_after mv_X10_after lk_X10_188 rfl rfl rfl (by decide) rfl (Nat.le_of_ble_eq_true rfl) dX10_way_197 ?_
          refine g_imul (pc := 200) o dX10_way_200 ?_
          refine g_iload (pc := 201) o dX10_way_201 rfl ?_
          refine g_iadd (pc := 203) o dX10_way_203 ?_
          rw [show (8 : Int32) * nI ((auM s p d X).nx c H n) + nI n = nI (8 * (auM s p d X).nx c H n + n) from ix2 _ 8 n]
          refine n_ialdE (pc := 204) o (8 * (auM s p d X).nx c H n + n) (rfl) rfl ((by omega)) (by decide) (e60 _ n nl (by omega)) dX10_way_204 ?_
          refine g_iload (pc := 205) o dX10_way_205 rfl ?_
          refine g_iload (pc := 207) o dX10_way_207 rfl ?_
          refine g_isub (pc := 209) o dX10_way_209 ?_
          refine g_ic_ne (pc := 210) o 218 dX10_way_210 (by decide) (fun c210 => ?_) (fun c210 => ?_)
          · skip
            rw [emv, sub_eq (by omega) (by omega) (by omega)] at c210
            exact st218 _ _ (fun w => c210 ((hf n).mp w).2.2)
          · skip
            rw [emv, sub_eq (by omega) (by omega) (by omega)] at c210
            refine g_iload (pc := 213) o dX10_way_213 rfl ?_
            refine g_goto (pc := 215) o 220 dX10_way_215 (by decide) ?_
            exact st220 _ _ _ (by rw [fs, if_pos ((hf n).mpr ⟨w1, w2, c210⟩)]; unfold fdV; rw [if_neg (by omega)])
    have st141 : ∀ (nr : Int32) (v10 v11 : Option Value), nr = bI (H = 0 ∨ n = z ∨ bt (s z) n = true) → ca_G Γ 12 h 141 [some (.ref 51), some (.int p), some (.int x2), some (.int x3), some (.int (nI L)), some (.int (nI c)), some (.int (nI H)), some (.int (lwF s p d X H 12)), some (.int y), some (.int (nI n)), v10, v11] [.int nr] := by
      intro nr v10 v11 enr
      refine g_istore (pc := 141) o dX10_way_141 (by decide) ?_
      show ca_G Γ 12 _ _ [_, _, _, _, _, _, _, _, _, _, _, _] _
      refine g_iload (pc := 143) o dX10_way_143 rfl ?_
      refine g_if_eq (pc := 145) o 162 dX10_way_145 (by decide) (fun c145 => ?_) (fun c145 => ?_)
      · skip
        have h0 := nz.mpr c145
        refine g_iconst (pc := 162) o dX10_way_162 0 rfl ?_
        refine g_goto (pc := 163) o 167 dX10_way_163 (by decide) ?_
        exact st167 _ _ _ enr (by rw [if_pos (Or.inl h0)]; rfl)
      · skip
        have h0 : ¬ H = 0 := fun w => c145 (nz.mp w)
        refine g_iload (pc := 148) o dX10_way_148 rfl ?_
        refine g_aload_n (pc := 150) o dX10_way_150 rfl ?_
        refine g_getR (pc := 151) o 14 rfl rfl rfl inX10 (by decide) lf_X10_40 dX10_way_151 ?_
        refine g_iload (pc := 154) o dX10_way_154 rfl ?_
        refine g_iconst (pc := 156) o dX10_way_156 1 rfl ?_
        refine g_isub (pc := 157) o dX10_way_157 ?_
        refine n_ialdE (pc := 158) o (H - 1) (hp1 h0) rfl ((by omega)) (by decide) (e62 h0) dX10_way_158 ?_
        refine g_ic_ne (pc := 159) o 166 dX10_way_159 (by decide) (fun c159 => ?_) (fun c159 => ?_)
        · skip
          have w := mt (nI_eq (a := n) (b := z) (by omega) (by omega)).mpr c159
          refine g_iconst (pc := 166) o dX10_way_166 1 rfl ?_
          exact st167 _ _ _ enr (by rw [if_neg (fun y => y.elim h0 w)]; rfl)
        · skip
          have w := (nI_eq (a := n) (b := z) (by omega) (by omega)).mp c159
          refine g_iconst (pc := 162) o dX10_way_162 0 rfl ?_
          refine g_goto (pc := 163) o 167 dX10_way_163 (by decide) ?_
          exact st167 _ _ _ enr (by rw [if_pos (Or.inr w)]; rfl)
    refine g_iload (pc := 88) o dX10_way_88 rfl ?_
    refine g_if_lt (pc := 90) o 228 dX10_way_90 (by decide) (fun c90 => ?_) (fun c90 => ?_)
    · skip
      exact absurd c90 (nI_pos (by omega))
    · skip
      refine g_iload (pc := 93) o dX10_way_93 rfl ?_
      refine g_if_eq (pc := 95) o 136 dX10_way_95 (by decide) (fun c95 => ?_) (fun c95 => ?_)
      · skip
        have h0 := nz.mpr c95
        refine g_iconst (pc := 136) o dX10_way_136 1 rfl ?_
        refine g_goto (pc := 137) o 141 dX10_way_137 (by decide) ?_
        exact st141 _ _ _ (bI_t (Or.inl h0))
      · skip
        have h0 : ¬ H = 0 := fun w => c95 (nz.mp w)
        refine g_iload (pc := 98) o dX10_way_98 rfl ?_
        refine g_aload_n (pc := 100) o dX10_way_100 rfl ?_
        refine g_getR (pc := 101) o 14 rfl rfl rfl inX10 (by decide) lf_X10_40 dX10_way_101 ?_
        refine g_iload (pc := 104) o dX10_way_104 rfl ?_
        refine g_iconst (pc := 106) o dX10_way_106 1 rfl ?_
        refine g_isub (pc := 107) o dX10_way_107 ?_
        refine n_ialdE (pc := 108) o (H - 1) (hp1 h0) rfl ((by omega)) (by decide) (e62 h0) dX10_way_108 ?_
        refine g_ic_eq (pc := 109) o 136 dX10_way_109 (by decide) (fun c109 => ?_) (fun c109 => ?_)
        · skip
          have w := (nI_eq (a := n) (b := z) (by omega) (by omega)).mp c109
          refine g_iconst (pc := 136) o dX10_way_136 1 rfl ?_
          refine g_goto (pc := 137) o 141 dX10_way_137 (by decide) ?_
          exact st141 _ _ _ (bI_t (Or.inr (Or.inl w)))
        · skip
          have w := mt (nI_eq (a := n) (b := z) (by omega) (by omega)).mpr c109
          refine g_aload_n (pc := 112) o dX10_way_112 rfl ?_
          refine g_getR (pc := 113) o 0 rfl rfl rfl inX10 (by decide) lf_X10_7 dX10_way_113 ?_
          refine g_iconst (pc := 116) o dX10_way_116 0 rfl ?_
          refine g_aload_n (pc := 117) o dX10_way_117 rfl ?_
          refine g_getR (pc := 118) o 14 rfl rfl rfl inX10 (by decide) lf_X10_40 dX10_way_118 ?_
          refine g_iload (pc := 121) o dX10_way_121 rfl ?_
          refine g_iconst (pc := 123) o dX10_way_123 1 rfl ?_
          refine g_isub (pc := 124) o dX10_way_124 ?_
          refine n_ialdE (pc := 125) o (H - 1) (hp1 h0) rfl ((by omega)) (by decide) (e62 h0) dX10_way_125 ?_
          refine g_iadd (pc := 126) o dX10_way_126 ?_
          refine n_ialdE (pc := 127) o z (z0 z) rfl ((by omega)) (by decide) (sz) dX10_way_127 ?_
          refine g_iload (pc := 128) o dX10_way_128 rfl ?_
          refine g_callSi (pc := 130) o (m_has (s z) n (by omega) h) mt_X10_has ms_X10_has lk_X10_90 rfl (by decide) rfl (Nat.le_of_ble_eq_true rfl) dX10_way_130 ?_
          refine g_if_eq (pc := 133) o 140 dX10_way_133 (by decide) (fun c133 => ?_) (fun c133 => ?_)
          · skip
            have u := bI_0.mp c133
            refine g_iconst (pc := 140) o dX10_way_140 0 rfl ?_
            exact st141 _ _ _ (bI_f (fun y => y.elim h0 (fun y => y.elim w u)))
          · skip
            have u := bI_n0.mp c133
            refine g_iconst (pc := 136) o dX10_way_136 1 rfl ?_
            refine g_goto (pc := 137) o 141 dX10_way_137 (by decide) ?_
            exact st141 _ _ _ (bI_t (Or.inr (Or.inr u)))
set_option maxRecDepth 100000 in
set_option maxHeartbeats 800000 in
theorem lp_mw1 {Γ : Fr} (o : ca_O Γ cX10_way 12 RX10 5 127) {Pr : Option Value → Mem → Prop} (ρ : ca_R Γ (some .int) Pr) {h0 : Mem} {s : Nat → Int32} (I : SI s) (p : Int32) (d : Nat) (X : Int32) (k5 : kbF X 12 ≤ 5) (x2 x3 : Int32) (es : h0.1 52 = s) (M : MB h0 s p d X 12) (hb : bsF (auM s p d X) < 1000) (hp : ∀ h : Mem, (∀ j, j < 24 → h.1 62 j = nI (wyF (auM s p d X) j).1) → (∀ j, 24 ≤ j → h.1 62 j = h0.1 62 j) → (∀ c, c ≠ 60 → c ≠ 61 → c ≠ 62 → h.1 c = h0.1 c) → Pr (some (.int x3)) (mw h 51 15 1)) : ∀ H, H ≤ 24 → ∀ (xl xc xH : Int32) (h : Mem) (v7 v8 v9 v10 v11 : Option Value), xl = nI (lfF (auM s p d X) H) → xc = nI (cdF (auM s p d X) H) → xH = nI H → (∀ j, j < H → h.1 62 j = nI (wyF (auM s p d X) j).1) → (∀ j, 24 ≤ j → h.1 62 j = h0.1 62 j) → (∀ c, c ≠ 60 → c ≠ 61 → c ≠ 62 → h.1 c = h0.1 c) → ca_G Γ 12 h 59 [some (.ref 51), some (.int p), some (.int x2), some (.int x3), some (.int xl), some (.int xc), some (.int xH), v7, v8, v9, v10, v11] [] := by
  refine downI 24 (fun H hH ih => ?_)
  rintro xl xc xH h v7 v8 v9 v10 v11 rfl rfl rfl e1 e2 e3
  have es2 : h.1 52 = s := (e3 52 (by decide) (by decide) (by decide)).trans es
  have M2 : MB h s p d X 12 := M.of (fun c hc => e3 c (by omega) (by omega) (by omega))
  refine g_iload (pc := 59) o dX10_way_59 rfl ?_
  refine g_bipush (pc := 61) o dX10_way_61 24 rfl ?_
  refine g_ic_ge (pc := 63) o 284 dX10_way_63 (by decide) (fun c63 => ?_) (fun c63 => ?_)
  · skip
    have q : H = 24 := ge8 (n := 24) (by decide) (by omega) c63
    subst q
    refine g_aload_n (pc := 284) o dX10_way_284 rfl ?_
    refine g_iconst (pc := 285) o dX10_way_285 1 rfl ?_
    refine g_put (pc := 286) o 15 rfl rfl rfl inX10 tyX10_ok nmX10 (by decide) lf_X10_203 rfl rfl rfl dX10_way_286 ?_
    refine g_iload_n (pc := 289) o dX10_way_289 rfl ?_
    exact g_iret o ρ dX10_way_290 (hp h e1 e2 e3)
  · skip
    have q : H < 24 := lt8 (n := 24) (by decide) (by omega) c63
    have hL := lf_le hb hH
    have hz := zp_lt hb hH
    have hc := cd_lt (s := s) (p := p) (d := d) (X := X) H
    obtain ⟨w8, wr, wcg⟩ := wy_ok hb H (by omega)
    have ft := (ft_iff q).mp (ft_t hb q)
    refine g_aload_n (pc := 66) o dX10_way_66 rfl ?_
    refine g_iload (pc := 67) o dX10_way_67 rfl ?_
    refine g_iconst (pc := 69) o dX10_way_69 0 rfl ?_
    refine g_callVQv (pc := 70) o (m_backF es2 I p d X k5 M2 H q) mt_X10_backTo mv_X10_backTo lk_X10_192 rfl rfl rfl (by decide) rfl (Nat.le_of_ble_eq_true rfl) dX10_way_70 ?_
    rintro h1 w
    obtain ⟨w1, w2⟩ := w
    have es3 : h1.1 52 = s := (w2 52 (by decide) (by decide)).trans es2
    have M3 : MB h1 s p d X 12 := M2.of (fun c hc => w2 c (by omega) (by omega))
    have e62 : ¬ H = 0 → h1.1 62 (H - 1) = nI (zpF (auM s p d X) H) := fun y => by
      rw [w2 62 (by decide) (by decide), e1 (H - 1) (by omega)]
      cases H with
      | zero => exact absurd rfl y
      | succ m => rfl
    refine g_aload_n (pc := 73) o dX10_way_73 rfl ?_
    refine g_iload (pc := 74) o dX10_way_74 rfl ?_
    refine g_callVi (pc := 76) o (m_lawful es3 I p d X k5 M3 H q) mt_X10_lawful mv_X10_lawful lk_X10_185 rfl rfl rfl (by decide) rfl (Nat.le_of_ble_eq_true rfl) dX10_way_76 ?_
    refine g_istore (pc := 79) o dX10_way_79 (by decide) ?_
    show ca_G Γ 12 _ _ [_, _, _, _, _, _, _, _, _, _, _, _] _
    refine g_iconst (pc := 81) o dX10_way_81 (-1) rfl ?_
    refine g_istore (pc := 82) o dX10_way_82 (by decide) ?_
    show ca_G Γ 12 _ _ [_, _, _, _, _, _, _, _, _, _, _, _] _
    refine g_bipush (pc := 84) o dX10_way_84 7 rfl ?_
    refine g_istore (pc := 86) o dX10_way_86 (by decide) ?_
    show ca_G Γ 12 _ _ [_, _, _, _, _, _, _, _, _, _, _, _] _
    refine lp_mw2 o I p d X k5 x2 _ es3 M3 H q (cdF (auM s p d X) H) (lfF (auM s p d X) H) (zpF (auM s p d X) H) hc hL hz e62 w1 (ftF (auM s p d X) H) (fun r => ft_iff q) (fun v9 v10 v11 => ?_) 8 (by omega) _ _ _ _ rfl rfl
    rw [← wp_ft, show fdV (wyF (auM s p d X) H).1 = nI (wyF (auM s p d X) H).1 from if_neg (by omega)]
    have hp1 : ¬ H = 0 → nI H - 1 = nI (H - 1) := fun w => by
      have : nI H = nI ((H - 1) + 1) := by rw [show (H - 1) + 1 = H by omega]
      rw [this]; exact nI_pred _
    have nz : H = 0 ↔ nI H = 0 := ⟨fun w => by rw [w]; rfl, fun w => (nI_eq (a := H) (b := 0) (by omega) (by decide)).mp w⟩
    have ca := m_after (h := h1) es3 I p d X k5 M3 (cdF (auM s p d X) H) H (wyF (auM s p d X) H).1 q w8 hc
    rw [← wc_cd] at ca
    have lf1 : lfF (auM s p d X) (H + 1) = cgF (auM s p d X) (23 - H) (wyF (auM s p d X) H).2 (wyF (auM s p d X) H).1 := rfl
    have fe := ft.2.2
    rw [← wc_cd, ← lf1] at fe
    have st254 : ∀ (x : Int32) (v9 v10 v11 : Option Value), x = nI (if H = 0 ∨ (wyF (auM s p d X) H).1 = zpF (auM s p d X) H then 0 else 1) → ca_G Γ 12 h1 254 [some (.ref 51), some (.int p), some (.int x2), some (.int x3), some (.int (nI (lfF (auM s p d X) H))), some (.int (nI (cdF (auM s p d X) H))), some (.int (nI H)), some (.int (lwF s p d X H 12)), some (.int (nI (wyF (auM s p d X) H).1)), v9, v10, v11] [.int x, .int (nI (lfF (auM s p d X) H))] := by
      rintro x v9 v10 v11 rfl
      have sb : nI (lfF (auM s p d X) H) - nI (if H = 0 ∨ (wyF (auM s p d X) H).1 = zpF (auM s p d X) H then 0 else 1) = nI (lfF (auM s p d X) (H + 1)) := by
        rw [← fe, ← nI_add, Int32.add_sub_cancel]
      refine g_isub (pc := 254) o dX10_way_254 ?_
      rw [sb]
      refine g_istore (pc := 255) o dX10_way_255 (by decide) ?_
      show ca_G Γ 12 _ _ [_, _, _, _, _, _, _, _, _, _, _, _] _
      refine g_aload_n (pc := 257) o dX10_way_257 rfl ?_
      refine g_iload (pc := 258) o dX10_way_258 rfl ?_
      refine g_iload (pc := 260) o dX10_way_260 rfl ?_
      refine g_iload (pc := 262) o dX10_way_262 rfl ?_
      refine g_callVi (pc := 264) o (ca) mt_X10_after mv_X10_after lk_X10_188 rfl rfl rfl (by decide) rfl (Nat.le_of_ble_eq_true rfl) dX10_way_264 ?_
      refine g_istore (pc := 267) o dX10_way_267 (by decide) ?_
      show ca_G Γ 12 _ _ [_, _, _, _, _, _, _, _, _, _, _, _] _
      refine g_aload_n (pc := 269) o dX10_way_269 rfl ?_
      refine g_getR (pc := 270) o 14 rfl rfl rfl inX10 (by decide) lf_X10_40 dX10_way_270 ?_
      refine g_iload (pc := 273) o dX10_way_273 rfl ?_
      refine g_iload (pc := 275) o dX10_way_275 rfl ?_
      refine n_iast (pc := 277) o H (rfl) rfl ((by omega)) (by decide) dX10_way_277 ?_
      refine g_iinc (pc := 278) o dX10_way_278 rfl 1 rfl (by decide) ?_
      show ca_G Γ 12 _ _ [_, _, _, _, _, _, _, _, _, _, _, _] _
      refine g_goto (pc := 281) o 59 dX10_way_281 (by decide) ?_
      refine ih q _ _ _ _ _ _ _ _ _ rfl rfl (nI_1 H) (fun j hj => ?_) (fun j hj => ?_) (fun c c1 c2 c3 => (mw_ne _ _ _ c3).trans ((w2 c c1 c2).trans (e3 c c1 c2 c3)))
      · rw [mw_same]
        unfold upd
        by_cases u : j = H
        · rw [if_pos u, u]
        · rw [if_neg u, w2 62 (by decide) (by decide)]; exact e1 j (by omega)
      · rw [mw_same]
        unfold upd
        rw [if_neg (by omega), w2 62 (by decide) (by decide)]; exact e2 j hj
    refine g_iload (pc := 228) o dX10_way_228 rfl ?_
    refine g_iload (pc := 230) o dX10_way_230 rfl ?_
    refine g_if_eq (pc := 232) o 249 dX10_way_232 (by decide) (fun c232 => ?_) (fun c232 => ?_)
    · skip
      have h0 := nz.mpr c232
      refine g_iconst (pc := 249) o dX10_way_249 0 rfl ?_
      refine g_goto (pc := 250) o 254 dX10_way_250 (by decide) ?_
      exact st254 _ _ _ _ (by rw [if_pos (Or.inl h0)]; rfl)
    · skip
      have h0 : ¬ H = 0 := fun w => c232 (nz.mp w)
      refine g_iload (pc := 235) o dX10_way_235 rfl ?_
      refine g_aload_n (pc := 237) o dX10_way_237 rfl ?_
      refine g_getR (pc := 238) o 14 rfl rfl rfl inX10 (by decide) lf_X10_40 dX10_way_238 ?_
      refine g_iload (pc := 241) o dX10_way_241 rfl ?_
      refine g_iconst (pc := 243) o dX10_way_243 1 rfl ?_
      refine g_isub (pc := 244) o dX10_way_244 ?_
      refine n_ialdE (pc := 245) o (H - 1) (hp1 h0) rfl ((by omega)) (by decide) (e62 h0) dX10_way_245 ?_
      refine g_ic_ne (pc := 246) o 253 dX10_way_246 (by decide) (fun c246 => ?_) (fun c246 => ?_)
      · skip
        have w := mt (nI_eq (a := (wyF (auM s p d X) H).1) (b := zpF (auM s p d X) H) (by omega) (by omega)).mpr c246
        refine g_iconst (pc := 253) o dX10_way_253 1 rfl ?_
        exact st254 _ _ _ _ (by rw [if_neg (fun y => y.elim h0 w)]; rfl)
      · skip
        have w := (nI_eq (a := (wyF (auM s p d X) H).1) (b := zpF (auM s p d X) H) (by omega) (by omega)).mp c246
        refine g_iconst (pc := 249) o dX10_way_249 0 rfl ?_
        refine g_goto (pc := 250) o 254 dX10_way_250 (by decide) ?_
        exact st254 _ _ _ _ (by rw [if_pos (Or.inr w)]; rfl)
theorem abs_way {h h2 : Mem} {f : Nat → Int32} (e62 : h2.1 62 = f) (e : ∀ c, c = 52 ∨ c = 55 ∨ c = 53 ∨ c = 66 ∨ c = 67 ∨ c = 68 ∨ c = 69 → h2.1 c = h.1 c) (e4 : h2.1 51 4 = h.1 51 4) (e20 : h2.1 51 20 = h.1 51 20) : absM (mw h2 51 15 1) = sf (su (absM h) 8 1 1) 3 f := by
  refine abs_f _ _ ?_ ?_ ?_ ?_ ?_ ?_ ?_ ?_ ?_ (fun k hk => ?_)
  · exact e 52 (by decide)
  · exact e 55 (by decide)
  · exact e 53 (by decide)
  · exact e62
  · exact e 66 (by decide)
  · exact e 67 (by decide)
  · exact e 68 (by decide)
  · exact e 69 (by decide)
  · funext i
    match i with
    | 0 => exact e4
    | 1 => rfl
    | i + 2 => exact e20
  · obtain ⟨n, rfl⟩ := Nat.exists_eq_add_of_le hk
    rw [show 9 + n = n + 9 by omega]
    show _ = (if n + 9 = 3 then f else (if n + 9 = 8 then _ else absM h (n + 9)))
    rw [if_neg (by omega), if_neg (by omega)]
    rfl
set_option maxRecDepth 100000 in
set_option maxHeartbeats 400000 in
theorem mo_way {h : Mem} (I : Iv (absM h)) (a b : Int32) : Ct yX10_way cX10_way 12 (some .int) 5 127 [.ref 51, .int a, .int b] h (Pm h (op_way a b (absM h))) := by
  refine Ct.of (by decide) (Nat.le_of_ble_eq_true rfl) (fun Γ o ρ => ?_)
  show ca_G Γ 12 _ _ [_, _, _, _, _, _, _, _, _, _, _, _] _
  refine g_iload_n (pc := 0) o dX10_way_0 rfl ?_
  refine g_callSi (pc := 1) o (m_isPerson a h) mt_X10_isPerson ms_X10_isPerson lk_X10_98 rfl (by decide) rfl (Nat.le_of_ble_eq_true rfl) dX10_way_1 ?_
  refine g_if_eq (pc := 4) o 14 dX10_way_4 (by decide) (fun c4 => ?_) (fun c4 => ?_)
  · skip
    refine g_aload_n (pc := 14) o dX10_way_14 rfl ?_
    refine g_ldc (pc := 15) o dX10_way_15 lc_X10_68 ?_
    refine g_callVi (pc := 17) o (m_finds 0 (by decide) h) mt_X10_finds mv_X10_finds lk_X10_86 rfl rfl rfl (by decide) rfl (Nat.le_of_ble_eq_true rfl) dX10_way_17 ?_
    exact g_iret o ρ dX10_way_20 (Pm.eq (if_neg (fun z => bI_0.mp c4 z.1)) (Pm_fnd rfl (kC.rf h) (by decide)))
  · skip
    refine g_iload_n (pc := 7) o dX10_way_7 rfl ?_
    refine g_callSi (pc := 8) o (m_isDay b h) mt_X10_isDay ms_X10_isDay lk_X10_122 rfl (by decide) rfl (Nat.le_of_ble_eq_true rfl) dX10_way_8 ?_
    refine g_if_ne (pc := 11) o 21 dX10_way_11 (by decide) (fun c11 => ?_) (fun c11 => ?_)
    · skip
      have k1 := bI_n0.mp c4
      have k2 := bI_n0.mp c11
      have eq : op_way a b (absM h) = wayV a (ca_n b) (absM h) := if_pos ⟨k1, k2⟩
      rw [eq] at ρ
      obtain ⟨j, hj, rfl, ej⟩ := n_of (x := a) (b := 5) k1 (by decide)
      obtain ⟨d, hd, rfl, ed⟩ := n_of (x := b) (b := 29) k2 (by decide)
      rw [ed] at ρ
      have IS : SI (h.1 52) := I.1
      have ok : okT (h.1 52) := IS.terms
      have k5 := kb_five IS (show j < 6 by omega) (sub_self (h.1 52) (nI j) d)
      have cb := m_binds (h := h) rfl IS (nI j) d (by omega) (-1) (bX (h.1 52) (nI j) d) k5 (bnd_all IS.terms (nI j) d)
      refine g_aload_n (pc := 21) o dX10_way_21 rfl ?_
      refine g_iload_n (pc := 22) o dX10_way_22 rfl ?_
      refine g_iload_n (pc := 23) o dX10_way_23 rfl ?_
      refine g_iconst (pc := 24) o dX10_way_24 (-1) rfl ?_
      refine g_callVQv (pc := 25) o (cb) mt_X10_binds mv_X10_binds lk_X10_196 rfl rfl rfl (by decide) rfl (Nat.le_of_ble_eq_true rfl) dX10_way_25 ?_
      rintro h1 w
      obtain ⟨M1, O1⟩ := w
      have O2 : moO h h1 := (moO.rf h).b O1
      have cf := m_fewest (h := h1) O2.s IS (nI j) d (bX (h.1 52) (nI j) d) k5 M1
      refine g_aload_n (pc := 28) o dX10_way_28 rfl ?_
      refine g_callVQi (pc := 29) o (cf) mt_X10_fewest mv_X10_fewest lk_X10_200 rfl rfl rfl (by decide) rfl (Nat.le_of_ble_eq_true rfl) dX10_way_29 ?_
      rintro r h2 v
      obtain ⟨er, v⟩ := v
      rw [er]
      have O3 : moO h h2 := O2.w v
      have M2 : MB h2 (h.1 52) (nI j) d (bX (h.1 52) (nI j) d) 12 := M1.of (fun c hc => v c (by omega) (by omega))
      have fl := few_1000 (h.1 52) (nI j) d (bX (h.1 52) (nI j) d)
      refine g_istore_n (pc := 32) o dX10_way_32 (by decide) ?_
      show ca_G Γ 12 _ _ [_, _, _, _, _, _, _, _, _, _, _, _] _
      refine g_iload_n (pc := 33) o dX10_way_33 rfl ?_
      refine g_sipush (pc := 34) o dX10_way_34 1000 rfl ?_
      refine g_ic_lt (pc := 37) o 47 dX10_way_37 (by decide) (fun c37 => ?_) (fun c37 => ?_)
      · skip
        have u := (nI_ltI (b := 1000) (by omega) (by decide)).mp c37
        have eq2 : wayV (nI j) d (absM h) = (nI (fewF (h.1 52) (nI j) d (bX (h.1 52) (nI j) d)), sf (su (absM h) 8 1 1) 3 (wyS (h.1 52) (nI j) d (bX (h.1 52) (nI j) d) (h.1 62))) := if_pos u
        rw [eq2] at ρ
        refine g_iload_n (pc := 47) o dX10_way_47 rfl ?_
        refine g_istore (pc := 48) o dX10_way_48 (by decide) ?_
        show ca_G Γ 12 _ _ [_, _, _, _, _, _, _, _, _, _, _, _] _
        refine g_aload_n (pc := 50) o dX10_way_50 rfl ?_
        refine g_getIE (pc := 51) o 11 rfl rfl rfl inX10 (by decide) lf_X10_182 (M2.2.2.1) dX10_way_51 ?_
        refine g_istore (pc := 54) o dX10_way_54 (by decide) ?_
        show ca_G Γ 12 _ _ [_, _, _, _, _, _, _, _, _, _, _, _] _
        refine g_iconst (pc := 56) o dX10_way_56 0 rfl ?_
        refine g_istore (pc := 57) o dX10_way_57 (by decide) ?_
        show ca_G Γ 12 _ _ [_, _, _, _, _, _, _, _, _, _, _, _] _
        refine lp_mw1 o ρ (h0 := h2) IS (nI j) d (bX (h.1 52) (nI j) d) k5 _ _ O3.s M2 u (fun h3 a1 a2 a3 => Pm.mk rfl (abs_way (h := h) ?_ (fun c hc => ?_) ?_ ?_) ?_) 0 (by omega) _ _ _ h2 _ _ _ _ _ rfl rfl rfl (fun j hj => by omega) (fun _ _ => rfl) (fun _ _ _ _ => rfl)
        · funext i
          unfold wyS
          by_cases w : i < 24
          · rw [if_pos w]; exact a1 i w
          · rw [if_neg w, a2 i (by omega), O3.1 62 (by decide) (by decide) (by decide) (by decide) (by decide) (by decide) (by decide)]
        · rw [a3 c (by omega) (by omega) (by omega)]
          exact O3.1 c (by omega) (by omega) (by omega) (by omega) (by omega) (by omega) (by omega)
        · rw [a3 51 (by decide) (by decide) (by decide)]; exact O3.2 4 (by decide) (by decide) (by decide)
        · rw [a3 51 (by decide) (by decide) (by decide)]; exact O3.2 20 (by decide) (by decide) (by decide)
        · intro c hc
          rw [mw_ne _ _ _ (by omega), a3 c (by omega) (by omega) (by omega)]
          exact O3.kC c hc
      · skip
        have u := mt (nI_ltI (a := fewF (h.1 52) (nI j) d (bX (h.1 52) (nI j) d)) (b := 1000) (by omega) (by decide)).mpr c37
        refine g_aload_n (pc := 40) o dX10_way_40 rfl ?_
        refine g_ldc (pc := 41) o dX10_way_41 lc_X10_97 ?_
        refine g_callVi (pc := 43) o (m_finds 3 (by decide) h2) mt_X10_finds mv_X10_finds lk_X10_86 rfl rfl rfl (by decide) rfl (Nat.le_of_ble_eq_true rfl) dX10_way_43 ?_
        exact g_iret o ρ dX10_way_46 (Pm.eq (if_neg u) (Pm_fnd O3.abs O3.kC (by decide)))

    · skip
      refine g_aload_n (pc := 14) o dX10_way_14 rfl ?_
      refine g_ldc (pc := 15) o dX10_way_15 lc_X10_68 ?_
      refine g_callVi (pc := 17) o (m_finds 0 (by decide) h) mt_X10_finds mv_X10_finds lk_X10_86 rfl rfl rfl (by decide) rfl (Nat.le_of_ble_eq_true rfl) dX10_way_17 ?_
      exact g_iret o ρ dX10_way_20 (Pm.eq (if_neg (fun z => bI_0.mp c11 z.2)) (Pm_fnd rfl (kC.rf h) (by decide)))
