/-! ===== the model: judge ===== -/
def cwF (A : Au) (v : Nat → Int32) : Nat → Nat
  | 0 => A.c0
  | n + 1 => A.nx (cwF A v n) n (ca_n (v n))
theorem cwF_s (A : Au) (v : Nat → Int32) (n : Nat) : cwF A v (n + 1) = A.nx (cwF A v n) n (ca_n (v n)) := rfl
theorem cw_lt {s : Nat → Int32} {p : Int32} {d : Nat} {X : Int32} {v : Nat → Int32} : ∀ n, cwF (auM s p d X) v n < mlF (rxM s X) 12
  | 0 => c0_lt s X
  | n + 1 => nxM_lt (cw_lt n)
theorem cw_dg {s : Nat → Int32} {p : Int32} {d : Nat} {X : Int32} {v : Nat → Int32} {t : Nat} (ht : t < 12) (hX : bt X t = true) : ∀ n, (∀ u, u < n → rng (v u) 0 7) → dgF (rxM s X) (cwF (auM s p d X) v n) t = askT s t - tiF s v t n
  | 0, _ => by
    have : dgF (rxM s X) (vlF (rxM s X) (akF s X) 12) t = akF s X t := vlF_dg (rxM_p s X) 12 (fun t _ => ak_M s X t) ht
    show dgF (rxM s X) (vlF (rxM s X) (akF s X) 12) t = askT s t - 0
    rw [this, Nat.sub_zero]
    unfold akF
    rw [if_pos hX]
  | n + 1, h => by
    have ih := cw_dg (s := s) (p := p) (d := d) ht hX n (fun u hu => h u (by omega))
    obtain ⟨w, hw, ew, en⟩ := n_of (x := v n) (b := 7) (h n (by omega)) (by decide)
    have e : dgF (rxM s X) (cwF (auM s p d X) v (n + 1)) t = dgs (rxM s X) s X (cwF (auM s p d X) v n) n (ca_n (v n)) t := vlF_dg (rxM_p s X) 12 (fun t _ => dgs_lt (rxM_p s X) s X (cwF (auM s p d X) v n) n (ca_n (v n)) t) ht
    rw [e, ti_s]
    show dgF (rxM s X) (cwF (auM s p d X) v n) t - dlF s X t n (ca_n (v n)) = _
    rw [ih, en]
    unfold dlF
    by_cases z : atF s t n ∧ v n = tmF s t 2
    · rw [if_pos z, if_pos ⟨hX, z.1, by rw [← z.2, ew]⟩]
      omega
    · rw [if_neg z, if_neg (fun y => z ⟨y.2.1, by rw [ew, y.2.2]⟩)]
      omega
theorem fn_skip {f : Nat → Bool} {n t : Nat} (hn : n ≤ t) (ht : t ≤ 12) (h : ∀ u, n ≤ u → u < t → ¬ f u = true) : fnF f (12 - n) n = fnF f (12 - t) t := by
  induction t with
  | zero => rw [show n = 0 by omega]
  | succ t ih =>
    by_cases w : n = t + 1
    · rw [w]
    · rw [ih (by omega) (by omega) (fun u h1 h2 => h u h1 (by omega)), show 12 - t = (12 - (t + 1)) + 1 by omega, fnF_s, if_neg (h t (by omega) (by omega))]
set_option maxRecDepth 100000 in
set_option maxHeartbeats 800000 in
theorem lp_mj2 {Γ : Fr} (o : ca_O Γ cX10_judge 9 RX10 4 96) {Pr : Option Value → Mem → Prop} (ρ : ca_R Γ (some .int) Pr) {h : Mem} {s : Nat → Int32} (I : SI s) (p : Int32) (d : Nat) (X : Int32) (k5 : kbF X 12 ≤ 5) (M : MB h s p d X 12) (v : Nat → Int32) (hv : ∀ u, u < 24 → rng (v u) 0 7) (x1 x3 : Int32) (x4 : Int32) (v7 v8 : Option Value) (z : Option Nat) (hs : ∀ t, z = some t → Pr (some (.int (nI (26 + t)))) h) (hn : z = none → Pr (some (.int 0)) h) : ∀ i, i ≤ kbF X 12 → ∀ (xi : Int32) (n : Nat), xi = nI i → n ≤ 12 → kbF X n = i → fnF (slb s X v) (12 - n) n = z → ca_G Γ 9 h 200 [some (.ref 51), some (.int x1), some (.int p), some (.int x3), some (.int x4), some (.int (nI (cwF (auM s p d X) v 24))), some (.int xi), v7, v8] [] := by
  have ha : ∀ t, t < 12 → askT s t < 4 := fun t ht => ask_lt I.tm ht
  have l1024 := ml_M5 (X := X) ha k5 (Nat.le_refl 12)
  have cl := cw_lt (s := s) (p := p) (d := d) (X := X) (v := v) 24
  obtain ⟨e9, e10, e11, ee, e56⟩ := M
  refine downI (kbF X 12) (fun i hi ih => ?_)
  rintro xi n rfl hn12 en ez
  have sl : ∀ u, ¬ bt X u = true → ¬ slb s X v u = true := fun u y w => y (by unfold slb at w; rw [Bool.and_eq_true] at w; exact w.1)
  refine g_iload (pc := 200) o dX10_judge_200 rfl ?_
  refine g_aload_n (pc := 202) o dX10_judge_202 rfl ?_
  refine g_getIE (pc := 203) o 9 rfl rfl rfl inX10 (by decide) lf_X10_175 (e9) dX10_judge_203 ?_
  refine g_ic_ge (pc := 206) o 247 dX10_judge_206 (by decide) (fun c206 => ?_) (fun c206 => ?_)
  · skip
    have q : i = kbF X 12 := ge8 (n := kbF X 12) (by omega) (by omega) c206
    have ke := kb_end (en.trans q)
    rw [fn_skip hn12 (Nat.le_refl 12) (fun u h1 h2 => sl u (ke u h1 h2))] at ez
    refine g_iconst (pc := 247) o dX10_judge_247 0 rfl ?_
    exact g_iret o ρ dX10_judge_248 (hn ez.symm)
  · skip
    have q : i < kbF X 12 := lt8 (n := kbF X 12) (by omega) (by omega) c206
    obtain ⟨t, h1, h2, h3, h4, h6⟩ := M_lt hn12 en q
    obtain ⟨g1, g2, g3⟩ := ee t h2 h3
    rw [h4] at g1 g2 g3
    rw [fn_skip h1 (by omega) (fun u a b => sl u (h6 u a b)), show 12 - t = (12 - (t + 1)) + 1 by omega, fnF_s] at ez
    have mp := mlF_p (rxM_p s X) t
    have m4 := ml_M5 (X := X) ha k5 (show t ≤ 12 by omega)
    have al := ha t h2
    have rx : rxM s X t = askT s t + 1 := by unfold rxM; rw [if_pos h3]
    have dg : jrem (nI (cwF (auM s p d X) v 24) / nI (mlF (rxM s X) t)) (nI (askT s t + 1)) = nI (askT s t - tiF s v t 24) := by
      rw [dv_nI (by omega) mp (by omega), rm_nI (by have := Nat.div_le_self (cwF (auM s p d X) v 24) (mlF (rxM s X) t); omega) (by omega) (by omega), ← rx, ← cw_dg (p := p) (d := d) h2 h3 24 hv]
    have d1 : ¬ nI (mlF (rxM s X) t) = 0 := fun y => by
      have := (nI_eq (a := mlF (rxM s X) t) (b := 0) (by omega) (by decide)).mp y
      omega
    have d2 : ¬ nI (askT s t + 1) = 0 := fun y => by
      have := (nI_eq (a := askT s t + 1) (b := 0) (by omega) (by decide)).mp y
      omega
    have sb : slb s X v t = true ↔ 0 < askT s t - tiF s v t 24 := by
      unfold slb
      rw [Bool.and_eq_true, decide_eq_true_eq]
      exact ⟨fun y => by have := y.2; omega, fun y => ⟨h3, by omega⟩⟩
    refine g_iload (pc := 209) o dX10_judge_209 rfl ?_
    refine g_aload_n (pc := 211) o dX10_judge_211 rfl ?_
    refine g_getR (pc := 212) o 8 rfl rfl rfl inX10 (by decide) lf_X10_31 dX10_judge_212 ?_
    refine g_iload (pc := 215) o dX10_judge_215 rfl ?_
    refine n_ialdE (pc := 217) o i (rfl) rfl ((by omega)) (by decide) (g3) dX10_judge_217 ?_
    refine g_idiv (pc := 218) o dX10_judge_218 d1 ?_
    refine g_aload_n (pc := 219) o dX10_judge_219 rfl ?_
    refine g_getR (pc := 220) o 7 rfl rfl rfl inX10 (by decide) lf_X10_28 dX10_judge_220 ?_
    refine g_iload (pc := 223) o dX10_judge_223 rfl ?_
    refine n_ialdE (pc := 225) o i (rfl) rfl ((by omega)) (by decide) (g2) dX10_judge_225 ?_
    refine g_irem (pc := 226) o dX10_judge_226 d2 ?_
    rw [dg]
    refine g_if_le (pc := 227) o 241 dX10_judge_227 (by decide) (fun c227 => ?_) (fun c227 => ?_)
    · skip
      have u : ¬ 0 < askT s t - tiF s v t 24 := fun u => nI_nle u (by omega) c227
      rw [if_neg (fun y => u (sb.mp y))] at ez
      refine g_iinc (pc := 241) o dX10_judge_241 rfl 1 rfl (by decide) ?_
      show ca_G Γ 9 _ _ [_, _, _, _, _, _, _, _, _] _
      refine g_goto (pc := 244) o 200 dX10_judge_244 (by decide) ?_
      exact ih q _ (t + 1) (nI_1 i) (by omega) (by rw [kb_y h3, h4]) ez
    · skip
      have u : 0 < askT s t - tiF s v t 24 := by
        rcases Nat.eq_zero_or_pos (askT s t - tiF s v t 24) with y | y
        · rw [y] at c227; exact absurd (by decide) c227
        · exact y
      rw [if_pos (sb.mpr u)] at ez
      refine g_bipush (pc := 230) o dX10_judge_230 26 rfl ?_
      refine g_aload_n (pc := 232) o dX10_judge_232 rfl ?_
      refine g_getR (pc := 233) o 6 rfl rfl rfl inX10 (by decide) lf_X10_25 dX10_judge_233 ?_
      refine g_iload (pc := 236) o dX10_judge_236 rfl ?_
      refine n_ialdE (pc := 238) o i (rfl) rfl ((by omega)) (by decide) (g1) dX10_judge_238 ?_
      refine g_iadd (pc := 239) o dX10_judge_239 ?_
      exact g_iret o ρ dX10_judge_240 (by rw [show (26 : Int32) + nI t = nI (26 + t) from nI_add 26 t]; exact hs t ez.symm)
set_option maxRecDepth 100000 in
set_option maxHeartbeats 800000 in
theorem lp_mj1 {Γ : Fr} (o : ca_O Γ cX10_judge 9 RX10 4 96) {Pr : Option Value → Mem → Prop} (ρ : ca_R Γ (some .int) Pr) {h : Mem} {s : Nat → Int32} (es : h.1 52 = s) (I : SI s) (p : Int32) (d : Nat) (X : Int32) (k5 : kbF X 12 ≤ 5) (M : MB h s p d X 12) (k sz : Nat) (hk : k < 4) (hsz : sz ≤ 40) (e68 : h.1 68 k = nI sz) (x3 : Int32) (x4 : Int32) (z : Option Nat) (hs : ∀ u, z = some u → Pr (some (.int (nI (u + 1)))) h) (kk : z = none → (∀ u, u < min 24 sz → rng (h.1 69 (k * 40 + u)) 0 7) → ∀ v6 v7 v8 : Option Value, ca_G Γ 9 h 183 [some (.ref 51), some (.int (nI k)), some (.int p), some (.int x3), some (.int x4), some (.int (nI (cwF (auM s p d X) (fun m => h.1 69 (k * 40 + m)) (min 24 sz)))), v6, v7, v8] []) : ∀ m, m ≤ min 24 sz → ∀ (xm xc : Int32) (v7 v8 : Option Value), xm = nI m → xc = nI (cwF (auM s p d X) (fun m => h.1 69 (k * 40 + m)) m) → (∀ u, u < m → rng (h.1 69 (k * 40 + u)) 0 7) → fnF (wrb s p d X (fun m => h.1 69 (k * 40 + m))) (min 24 sz - m) m = z → ca_G Γ 9 h 56 [some (.ref 51), some (.int (nI k)), some (.int p), some (.int x3), some (.int x4), some (.int xc), some (.int xm), v7, v8] [] := by
  refine downI (min 24 sz) (fun m hm ih => ?_)
  rintro xm xc v7 v8 rfl rfl er ez
  have done : m = min 24 sz → z = none := fun y => by
    rw [y, Nat.sub_self] at ez
    exact ez.symm
  have c40 : (40 : Int32) * nI k + nI m = nI (k * 40 + m) := by rw [show (40 : Int32) * nI k + nI m = nI (40 * k + m) from ix2 k 40 m, Nat.mul_comm]
  refine g_iload (pc := 56) o dX10_judge_56 rfl ?_
  refine g_aload_n (pc := 58) o dX10_judge_58 rfl ?_
  refine g_getR (pc := 59) o 26 rfl rfl rfl inX10 (by decide) lf_X10_59 dX10_judge_59 ?_
  refine g_iload_n (pc := 62) o dX10_judge_62 rfl ?_
  refine n_ialdE (pc := 63) o k (rfl) rfl ((by omega)) (by decide) (e68) dX10_judge_63 ?_
  refine g_ic_ge (pc := 64) o 183 dX10_judge_64 (by decide) (fun c64 => ?_) (fun c64 => ?_)
  · skip
    have q := (nI_leI (by omega) (by omega)).mp c64
    have y : m = min 24 sz := by omega
    subst y
    exact kk (done rfl) er _ _ _
  · skip
    have q := mt (nI_leI (a := sz) (b := m) (by omega) (by omega)).mpr c64
    refine g_iload (pc := 67) o dX10_judge_67 rfl ?_
    refine g_bipush (pc := 69) o dX10_judge_69 24 rfl ?_
    refine g_ic_ge (pc := 71) o 183 dX10_judge_71 (by decide) (fun c71 => ?_) (fun c71 => ?_)
    · skip
      have q2 := (nI_leI (a := 24) (by decide) (by omega)).mp c71
      have y : m = min 24 sz := by omega
      subst y
      exact kk (done rfl) er _ _ _
    · skip
      have q2 := mt (nI_leI (a := 24) (b := m) (by decide) (by omega)).mpr c71
      have q3 : m < min 24 sz := by omega
      rw [show min 24 sz - m = (min 24 sz - (m + 1)) + 1 by omega, fnF_s] at ez
      have bad : ¬ (rng (h.1 69 (k * 40 + m)) 0 7 ∧ bt (lwF s p d X m 12) (ca_n (h.1 69 (k * 40 + m))) = true ∧ (m = 0 ∨ h.1 69 (k * 40 + m) = h.1 69 (k * 40 + (m - 1)) ∨ bt (s (ca_n (h.1 69 (k * 40 + (m - 1))))) (ca_n (h.1 69 (k * 40 + m))) = true)) → Pr (some (.int (nI m + 1))) h := fun y => by
        rw [if_pos (wrb_t (v := fun m => h.1 69 (k * 40 + m)) y)] at ez
        rw [nI_1]
        exact hs m ez.symm
      have cd := cw_lt (s := s) (p := p) (d := d) (X := X) (v := fun m => h.1 69 (k * 40 + m)) m
      have nz : m = 0 ↔ nI m = 0 := ⟨fun w => by rw [w]; rfl, fun w => (nI_eq (a := m) (b := 0) (by omega) (by decide)).mp w⟩
      have st165 : ∀ (x8 : Int32), (m = 0 ∨ h.1 69 (k * 40 + m) = h.1 69 (k * 40 + (m - 1)) ∨ bt (s (ca_n (h.1 69 (k * 40 + (m - 1))))) (ca_n (h.1 69 (k * 40 + m))) = true) → bt (lwF s p d X m 12) (ca_n (h.1 69 (k * 40 + m))) = true → rng (h.1 69 (k * 40 + m)) 0 7 → ca_G Γ 9 h 165 [some (.ref 51), some (.int (nI k)), some (.int p), some (.int x3), some (.int x4), some (.int (nI (cwF (auM s p d X) (fun m => h.1 69 (k * 40 + m)) m))), some (.int (nI m)), some (.int (h.1 69 (k * 40 + m))), some (.int x8)] [] := fun x8 y3 y2 y1 => by
        rw [if_neg ((wrb_f (s := s) (p := p) (d := d) (X := X) (v := fun m => h.1 69 (k * 40 + m)) (m := m)).mpr ⟨y1, y2, y3⟩)] at ez
        obtain ⟨w, hw, ew, en⟩ := n_of (x := h.1 69 (k * 40 + m)) (b := 7) y1 (by decide)
        have ca := m_after es I p d X k5 M (cwF (auM s p d X) (fun m => h.1 69 (k * 40 + m)) m) m w (by omega) (by omega) cd
        rw [← ew] at ca
        refine g_aload_n (pc := 165) o dX10_judge_165 rfl ?_
        refine g_iload (pc := 166) o dX10_judge_166 rfl ?_
        refine g_iload (pc := 168) o dX10_judge_168 rfl ?_
        refine g_iload (pc := 170) o dX10_judge_170 rfl ?_
        refine g_callVi (pc := 172) o (ca) mt_X10_after mv_X10_after lk_X10_188 rfl rfl rfl (by decide) rfl (Nat.le_of_ble_eq_true rfl) dX10_judge_172 ?_
        refine g_istore (pc := 175) o dX10_judge_175 (by decide) ?_
        show ca_G Γ 9 _ _ [_, _, _, _, _, _, _, _, _] _
        refine g_iinc (pc := 177) o dX10_judge_177 rfl 1 rfl (by decide) ?_
        show ca_G Γ 9 _ _ [_, _, _, _, _, _, _, _, _] _
        refine g_goto (pc := 180) o 56 dX10_judge_180 (by decide) ?_
        exact ih q3 _ _ _ _ (nI_1 m) (by rw [cwF_s]; show _ = nI ((auM s p d X).nx _ m (ca_n (h.1 69 (k * 40 + m)))); rw [en]) (fun u hu => by
          by_cases y : u = m
          · subst y; exact y1
          · exact er u (by omega)) ez
      have st114 : ∀ (x8 : Int32), x8 = (if m = 0 then h.1 69 (k * 40 + m) else h.1 69 (k * 40 + (m - 1))) → ca_G Γ 9 h 114 [some (.ref 51), some (.int (nI k)), some (.int p), some (.int x3), some (.int x4), some (.int (nI (cwF (auM s p d X) (fun m => h.1 69 (k * 40 + m)) m))), some (.int (nI m)), some (.int (h.1 69 (k * 40 + m))), some (.int x8)] [] := by
        intro x8 e8
        refine g_iload (pc := 114) o dX10_judge_114 rfl ?_
        refine g_callSi (pc := 116) o (m_isPlace (h.1 69 (k * 40 + m)) h) mt_X10_isPlace ms_X10_isPlace lk_X10_82 rfl (by decide) rfl (Nat.le_of_ble_eq_true rfl) dX10_judge_116 ?_
        refine g_if_eq (pc := 119) o 160 dX10_judge_119 (by decide) (fun c119 => ?_) (fun c119 => ?_)
        · skip
          have y := bI_0.mp c119
          refine g_iload (pc := 160) o dX10_judge_160 rfl ?_
          refine g_iconst (pc := 162) o dX10_judge_162 1 rfl ?_
          refine g_iadd (pc := 163) o dX10_judge_163 ?_
          exact g_iret o ρ dX10_judge_164 (bad (fun u => y u.1))
        · skip
          have y := bI_n0.mp c119
          obtain ⟨w, hw, ew, en⟩ := n_of (x := h.1 69 (k * 40 + m)) (b := 7) y (by decide)
          have ch := m_has (lwF s p d X m 12) w (by omega) h
          rw [← ew] at ch
          refine g_aload_n (pc := 122) o dX10_judge_122 rfl ?_
          refine g_iload (pc := 123) o dX10_judge_123 rfl ?_
          refine g_callVi (pc := 125) o (m_lawful es I p d X k5 M m (by omega)) mt_X10_lawful mv_X10_lawful lk_X10_185 rfl rfl rfl (by decide) rfl (Nat.le_of_ble_eq_true rfl) dX10_judge_125 ?_
          refine g_iload (pc := 128) o dX10_judge_128 rfl ?_
          refine g_callSi (pc := 130) o (ch) mt_X10_has ms_X10_has lk_X10_90 rfl (by decide) rfl (Nat.le_of_ble_eq_true rfl) dX10_judge_130 ?_
          refine g_if_eq (pc := 133) o 160 dX10_judge_133 (by decide) (fun c133 => ?_) (fun c133 => ?_)
          · skip
            have y2 := bI_0.mp c133
            refine g_iload (pc := 160) o dX10_judge_160 rfl ?_
            refine g_iconst (pc := 162) o dX10_judge_162 1 rfl ?_
            refine g_iadd (pc := 163) o dX10_judge_163 ?_
            exact g_iret o ρ dX10_judge_164 (bad (fun u => y2 (by have := u.2.1; rw [en] at this; exact this)))
          · skip
            have y2 := bI_n0.mp c133
            have y2b : bt (lwF s p d X m 12) (ca_n (h.1 69 (k * 40 + m))) = true := by rw [en]; exact y2
            refine g_iload (pc := 136) o dX10_judge_136 rfl ?_
            refine g_iload (pc := 138) o dX10_judge_138 rfl ?_
            refine g_ic_eq (pc := 140) o 165 dX10_judge_140 (by decide) (fun c140 => ?_) (fun c140 => ?_)
            · skip
              refine st165 _ ?_ y2b y
              by_cases m0 : m = 0
              · exact Or.inl m0
              · rw [e8, if_neg m0] at c140
                exact Or.inr (Or.inl c140)
            · skip
              have m0 : ¬ m = 0 := fun u => by rw [e8, if_pos u] at c140; exact c140 rfl
              rw [if_neg m0] at e8
              obtain ⟨w1, hw1, ew1, en1⟩ := n_of (x := h.1 69 (k * 40 + (m - 1))) (b := 7) (er (m - 1) (by omega)) (by decide)
              have e8b : x8 = nI w1 := e8.trans ew1
              have ch2 := m_has (s w1) w (by omega) h
              rw [← ew] at ch2
              have s1 : h.1 52 w1 = s w1 := by rw [es]
              have i8 : (0 : Int32) + x8 = nI w1 := by rw [e8b]; exact z0 w1
              refine g_aload_n (pc := 143) o dX10_judge_143 rfl ?_
              refine g_getR (pc := 144) o 0 rfl rfl rfl inX10 (by decide) lf_X10_7 dX10_judge_144 ?_
              refine g_iconst (pc := 147) o dX10_judge_147 0 rfl ?_
              refine g_iload (pc := 148) o dX10_judge_148 rfl ?_
              refine g_iadd (pc := 150) o dX10_judge_150 ?_
              refine n_ialdE (pc := 151) o w1 (i8) rfl ((by omega)) (by decide) (s1) dX10_judge_151 ?_
              refine g_iload (pc := 152) o dX10_judge_152 rfl ?_
              refine g_callSi (pc := 154) o (ch2) mt_X10_has ms_X10_has lk_X10_90 rfl (by decide) rfl (Nat.le_of_ble_eq_true rfl) dX10_judge_154 ?_
              refine g_if_ne (pc := 157) o 165 dX10_judge_157 (by decide) (fun c157 => ?_) (fun c157 => ?_)
              · skip
                exact st165 _ (Or.inr (Or.inr (by rw [en, en1]; exact bI_n0.mp c157))) y2b y
              · skip
                have y4 := bI_0.mp c157
                rw [e8] at c140
                refine g_iload (pc := 160) o dX10_judge_160 rfl ?_
                refine g_iconst (pc := 162) o dX10_judge_162 1 rfl ?_
                refine g_iadd (pc := 163) o dX10_judge_163 ?_
                exact g_iret o ρ dX10_judge_164 (bad (fun u => by rcases u.2.2 with u | u | u; exact m0 u; exact c140 u; rw [en, en1] at u; exact y4 u))
      refine g_aload_n (pc := 74) o dX10_judge_74 rfl ?_
      refine g_getR (pc := 75) o 27 rfl rfl rfl inX10 (by decide) lf_X10_62 dX10_judge_75 ?_
      refine g_bipush (pc := 78) o dX10_judge_78 40 rfl ?_
      refine g_iload_n (pc := 80) o dX10_judge_80 rfl ?_
      refine g_imul (pc := 81) o dX10_judge_81 ?_
      refine g_iload (pc := 82) o dX10_judge_82 rfl ?_
      refine g_iadd (pc := 84) o dX10_judge_84 ?_
      rw [c40]
      refine n_iald (pc := 85) o (k * 40 + m) (rfl) rfl ((by omega)) (by decide) dX10_judge_85 ?_
      refine g_istore (pc := 86) o dX10_judge_86 (by decide) ?_
      show ca_G Γ 9 _ _ [_, _, _, _, _, _, _, _, _] _
      refine g_iload (pc := 88) o dX10_judge_88 rfl ?_
      refine g_if_ne (pc := 90) o 98 dX10_judge_90 (by decide) (fun c90 => ?_) (fun c90 => ?_)
      · skip
        have m0 : ¬ m = 0 := fun w => c90 (nz.mp w)
        have i1 : nI (k * 40 + m) - 1 = nI (k * 40 + (m - 1)) := by
          rw [show k * 40 + m = (k * 40 + (m - 1)) + 1 by omega]; exact nI_pred _
        refine g_aload_n (pc := 98) o dX10_judge_98 rfl ?_
        refine g_getR (pc := 99) o 27 rfl rfl rfl inX10 (by decide) lf_X10_62 dX10_judge_99 ?_
        refine g_bipush (pc := 102) o dX10_judge_102 40 rfl ?_
        refine g_iload_n (pc := 104) o dX10_judge_104 rfl ?_
        refine g_imul (pc := 105) o dX10_judge_105 ?_
        refine g_iload (pc := 106) o dX10_judge_106 rfl ?_
        refine g_iadd (pc := 108) o dX10_judge_108 ?_
        rw [c40]
        refine g_iconst (pc := 109) o dX10_judge_109 1 rfl ?_
        refine g_isub (pc := 110) o dX10_judge_110 ?_
        refine n_iald (pc := 111) o (k * 40 + (m - 1)) (i1) rfl ((by omega)) (by decide) dX10_judge_111 ?_
        refine g_istore (pc := 112) o dX10_judge_112 (by decide) ?_
        show ca_G Γ 9 _ _ [_, _, _, _, _, _, _, _, _] _
        exact st114 _ (by rw [if_neg m0])
      · skip
        have m0 := nz.mpr (Classical.byContradiction (fun w => w c90))
        refine g_iload (pc := 93) o dX10_judge_93 rfl ?_
        refine g_goto (pc := 95) o 112 dX10_judge_95 (by decide) ?_
        refine g_istore (pc := 112) o dX10_judge_112 (by decide) ?_
        show ca_G Γ 9 _ _ [_, _, _, _, _, _, _, _, _] _
        exact st114 _ (by rw [if_pos m0])
set_option maxRecDepth 100000 in
set_option maxHeartbeats 400000 in
theorem mo_judge {h : Mem} (I : Iv (absM h)) (a p d : Int32) : Ct yX10_judge cX10_judge 9 (some .int) 4 96 [.ref 51, .int a, .int p, .int d] h (Pm h (op_judge a p d (absM h))) := by
  refine Ct.of (by decide) (Nat.le_of_ble_eq_true rfl) (fun Γ o ρ => ?_)
  show ca_G Γ 9 _ _ [_, _, _, _, _, _, _, _, _] _
  by_cases ha : rng a 0 3
  · have eq : op_judge a p d (absM h) = if ¬ h.1 67 (ca_n a) = 0 then (if rng p 0 5 ∧ rng d 0 29 then (jdF (h.1 52) p (ca_n d) (bX (h.1 52) p (ca_n d)) (fun m => h.1 69 (ca_n a * 40 + m)) (ca_n (h.1 68 (ca_n a))), absM h) else fnd (absM h) 0) else fnd (absM h) 5 := if_pos ha
    rw [eq] at ρ
    obtain ⟨k, hk, rfl, ek⟩ := n_of (x := a) (b := 3) ha (by decide)
    rw [ek] at ρ
    obtain ⟨sz, hsz, em, -⟩ := I.sz k (by omega)
    have em : h.1 68 k = nI sz := em
    clear eq
    by_cases hb : h.1 67 k = 0
    · rw [if_neg (fun z => z hb)] at ρ
      refine g_aload_n (pc := 0) o dX10_judge_0 rfl ?_
      refine g_iload_n (pc := 1) o dX10_judge_1 rfl ?_
      refine g_callVi (pc := 2) o (m_wrong5 k (by omega) hb) mt_X10_wrong mv_X10_wrong lk_X10_315 rfl rfl rfl (by decide) rfl (Nat.le_of_ble_eq_true rfl) dX10_judge_2 ?_
      refine g_istore (pc := 5) o dX10_judge_5 (by decide) ?_
      show ca_G Γ 9 _ _ [_, _, _, _, _, _, _, _, _] _
      refine g_iload (pc := 7) o dX10_judge_7 rfl ?_
      refine g_if_eq (pc := 9) o 19 dX10_judge_9 (by decide) (fun c9 => ?_) (fun c9 => ?_)
      · skip
        exact absurd c9 (by decide)
      · skip
        refine g_aload_n (pc := 12) o dX10_judge_12 rfl ?_
        refine g_iload (pc := 13) o dX10_judge_13 rfl ?_
        refine g_callVi (pc := 15) o (m_finds 5 (by decide) h) mt_X10_finds mv_X10_finds lk_X10_86 rfl rfl rfl (by decide) rfl (Nat.le_of_ble_eq_true rfl) dX10_judge_15 ?_
        exact g_iret o ρ dX10_judge_18 (Pm_fnd rfl (kC.rf h) (by decide))
    · rw [if_pos hb] at ρ
      refine g_aload_n (pc := 0) o dX10_judge_0 rfl ?_
      refine g_iload_n (pc := 1) o dX10_judge_1 rfl ?_
      refine g_callVi (pc := 2) o (m_wrongN k (by omega) hb) mt_X10_wrong mv_X10_wrong lk_X10_315 rfl rfl rfl (by decide) rfl (Nat.le_of_ble_eq_true rfl) dX10_judge_2 ?_
      refine g_istore (pc := 5) o dX10_judge_5 (by decide) ?_
      show ca_G Γ 9 _ _ [_, _, _, _, _, _, _, _, _] _
      refine g_iload (pc := 7) o dX10_judge_7 rfl ?_
      refine g_if_eq (pc := 9) o 19 dX10_judge_9 (by decide) (fun c9 => ?_) (fun c9 => ?_)
      · skip
        refine g_iload_n (pc := 19) o dX10_judge_19 rfl ?_
        refine g_callSi (pc := 20) o (m_isPerson p h) mt_X10_isPerson ms_X10_isPerson lk_X10_98 rfl (by decide) rfl (Nat.le_of_ble_eq_true rfl) dX10_judge_20 ?_
        refine g_if_eq (pc := 23) o 33 dX10_judge_23 (by decide) (fun c23 => ?_) (fun c23 => ?_)
        · skip
          refine g_aload_n (pc := 33) o dX10_judge_33 rfl ?_
          refine g_ldc (pc := 34) o dX10_judge_34 lc_X10_68 ?_
          refine g_callVi (pc := 36) o (m_finds 0 (by decide) h) mt_X10_finds mv_X10_finds lk_X10_86 rfl rfl rfl (by decide) rfl (Nat.le_of_ble_eq_true rfl) dX10_judge_36 ?_
          exact g_iret o ρ dX10_judge_39 (Pm.eq (if_neg (fun z => bI_0.mp c23 z.1)) (Pm_fnd rfl (kC.rf h) (by decide)))
        · skip
          refine g_iload_n (pc := 26) o dX10_judge_26 rfl ?_
          refine g_callSi (pc := 27) o (m_isDay d h) mt_X10_isDay ms_X10_isDay lk_X10_122 rfl (by decide) rfl (Nat.le_of_ble_eq_true rfl) dX10_judge_27 ?_
          refine g_if_ne (pc := 30) o 40 dX10_judge_30 (by decide) (fun c30 => ?_) (fun c30 => ?_)
          · skip
            rw [if_pos ⟨bI_n0.mp c23, bI_n0.mp c30⟩] at ρ
            obtain ⟨j, hj, rfl, ej⟩ := n_of (x := p) (b := 5) (bI_n0.mp c23) (by decide)
            obtain ⟨dd, hd, rfl, ed⟩ := n_of (x := d) (b := 29) (bI_n0.mp c30) (by decide)
            rw [ed, em, show ca_n (nI sz) = sz from nI_clamp (by omega)] at ρ
            have IS : SI (h.1 52) := I.1
            have k5 := kb_five IS (show j < 6 by omega) (sub_self (h.1 52) (nI j) dd)
            have cb := m_binds (h := h) rfl IS (nI j) dd (by omega) (-1) (bX (h.1 52) (nI j) dd) k5 (bnd_all IS.terms (nI j) dd)
            refine g_aload_n (pc := 40) o dX10_judge_40 rfl ?_
            refine g_iload_n (pc := 41) o dX10_judge_41 rfl ?_
            refine g_iload_n (pc := 42) o dX10_judge_42 rfl ?_
            refine g_iconst (pc := 43) o dX10_judge_43 (-1) rfl ?_
            refine g_callVQv (pc := 44) o (cb) mt_X10_binds mv_X10_binds lk_X10_196 rfl rfl rfl (by decide) rfl (Nat.le_of_ble_eq_true rfl) dX10_judge_44 ?_
            rintro h1 w
            obtain ⟨M1, O1⟩ := w
            have O2 : moO h h1 := (moO.rf h).b O1
            have e69 : h1.1 69 = h.1 69 := O2.1 69 (by decide) (by decide) (by decide) (by decide) (by decide) (by decide) (by decide)
            have e68 : h1.1 68 k = nI sz := by rw [O2.1 68 (by decide) (by decide) (by decide) (by decide) (by decide) (by decide) (by decide)]; exact em
            refine g_aload_n (pc := 47) o dX10_judge_47 rfl ?_
            refine g_getIE (pc := 48) o 11 rfl rfl rfl inX10 (by decide) lf_X10_182 (M1.2.2.1) dX10_judge_48 ?_
            refine g_istore (pc := 51) o dX10_judge_51 (by decide) ?_
            show ca_G Γ 9 _ _ [_, _, _, _, _, _, _, _, _] _
            refine g_iconst (pc := 53) o dX10_judge_53 0 rfl ?_
            refine g_istore (pc := 54) o dX10_judge_54 (by decide) ?_
            show ca_G Γ 9 _ _ [_, _, _, _, _, _, _, _, _] _
            unfold jdF at ρ
            refine lp_mj1 o ρ (h := h1) O2.s IS (nI j) dd (bX (h.1 52) (nI j) dd) k5 M1 k sz (by omega) hsz e68 _ _ (fnF (wrb (h.1 52) (nI j) dd (bX (h.1 52) (nI j) dd) (fun m => h1.1 69 (k * 40 + m))) (min 24 sz) 0) (fun u e => ?_) (fun e1 hv v6 v7 v8 => ?_) 0 (by omega) _ _ _ _ rfl rfl (fun u hu => by omega) rfl
            · rw [e69] at e
              rw [e]
              exact Pm.mk rfl O2.abs O2.kC
            · rw [e69] at e1
              rw [e1] at ρ
              refine g_aload_n (pc := 183) o dX10_judge_183 rfl ?_
              refine g_getR (pc := 184) o 26 rfl rfl rfl inX10 (by decide) lf_X10_59 dX10_judge_184 ?_
              refine g_iload_n (pc := 187) o dX10_judge_187 rfl ?_
              refine n_ialdE (pc := 188) o k (rfl) rfl ((by omega)) (by decide) (e68) dX10_judge_188 ?_
              refine g_bipush (pc := 189) o dX10_judge_189 24 rfl ?_
              refine g_ic_eq (pc := 191) o 197 dX10_judge_191 (by decide) (fun c191 => ?_) (fun c191 => ?_)
              · skip
                have s24 := (nI_eq (a := sz) (b := 24) (by omega) (by decide)).mp c191
                have ρ2 := ρ
                simp only [if_pos s24] at ρ2
                clear ρ
                have ρ := ρ2
                rw [show min 24 sz = 24 by omega] at hv ⊢
                refine g_iconst (pc := 197) o dX10_judge_197 0 rfl ?_
                refine g_istore (pc := 198) o dX10_judge_198 (by decide) ?_
                show ca_G Γ 9 _ _ [_, _, _, _, _, _, _, _, _] _
                refine lp_mj2 o ρ IS (nI j) dd (bX (h.1 52) (nI j) dd) k5 M1 (fun m => h1.1 69 (k * 40 + m)) hv _ _ _ _ _ (fnF (slb (h.1 52) (bX (h.1 52) (nI j) dd) (fun m => h1.1 69 (k * 40 + m))) 12 0) (fun t e => ?_) (fun e => ?_) 0 (by omega) _ 0 rfl (by omega) rfl rfl
                · rw [e69] at e
                  rw [e]
                  exact Pm.mk rfl O2.abs O2.kC
                · rw [e69] at e
                  rw [e]
                  exact Pm.mk rfl O2.abs O2.kC
              · skip
                have s24 : ¬ sz = 24 := fun y => c191 (by rw [y]; rfl)
                refine g_bipush (pc := 194) o dX10_judge_194 25 rfl ?_
                exact g_iret o ρ dX10_judge_196 (Pm.mk (show (25 : Int32) = if sz = 24 then _ else 25 by rw [if_neg s24]) O2.abs O2.kC)
          · skip
            refine g_aload_n (pc := 33) o dX10_judge_33 rfl ?_
            refine g_ldc (pc := 34) o dX10_judge_34 lc_X10_68 ?_
            refine g_callVi (pc := 36) o (m_finds 0 (by decide) h) mt_X10_finds mv_X10_finds lk_X10_86 rfl rfl rfl (by decide) rfl (Nat.le_of_ble_eq_true rfl) dX10_judge_36 ?_
            exact g_iret o ρ dX10_judge_39 (Pm.eq (if_neg (fun z => bI_0.mp c30 z.2)) (Pm_fnd rfl (kC.rf h) (by decide)))
      · skip
        exact absurd rfl c9
  · skip
    refine g_aload_n (pc := 0) o dX10_judge_0 rfl ?_
    refine g_iload_n (pc := 1) o dX10_judge_1 rfl ?_
    refine g_callVi (pc := 2) o (m_wrong0 a ha) mt_X10_wrong mv_X10_wrong lk_X10_315 rfl rfl rfl (by decide) rfl (Nat.le_of_ble_eq_true rfl) dX10_judge_2 ?_
    refine g_istore (pc := 5) o dX10_judge_5 (by decide) ?_
    show ca_G Γ 9 _ _ [_, _, _, _, _, _, _, _, _] _
    refine g_iload (pc := 7) o dX10_judge_7 rfl ?_
    refine g_if_eq (pc := 9) o 19 dX10_judge_9 (by decide) (fun c9 => ?_) (fun c9 => ?_)
    · skip
      exact absurd c9 (by decide)
    · skip
      refine g_aload_n (pc := 12) o dX10_judge_12 rfl ?_
      refine g_iload (pc := 13) o dX10_judge_13 rfl ?_
      refine g_callVi (pc := 15) o (m_finds 0 (by decide) h) mt_X10_finds mv_X10_finds lk_X10_86 rfl rfl rfl (by decide) rfl (Nat.le_of_ble_eq_true rfl) dX10_judge_15 ?_
      exact g_iret o ρ dX10_judge_18 (Pm.eq (if_neg ha) (Pm_fnd rfl (kC.rf h) (by decide)))

