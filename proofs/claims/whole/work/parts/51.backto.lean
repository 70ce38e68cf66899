/-! ===== what it takes to the end, and how many ways there are, from behind ===== -/
def bvF (A : Au) (b : Bool) (j c q : Nat) : Nat := match b with
  | true => capF (bwF A j c q)
  | false => cgF A j c q
def avF (A : Au) (b : Bool) (j c q n : Nat) : Nat := match b with
  | true => smF (fun r => if okA A (23 - j) q r then capF (bwF A j (A.nx c (23 - j) r) r) else 0) n
  | false => mnF (fun r => if okA A (23 - j) q r then cgF A j (A.nx c (23 - j) r) r + (if r = q then 0 else 1) else 1000) n
theorem av_F (A : Au) (j c q n : Nat) : avF A false j c q n = mnF (fun r => if okA A (23 - j) q r then cgF A j (A.nx c (23 - j) r) r + (if r = q then 0 else 1) else 1000) n := rfl
theorem av_n {A : Au} {b : Bool} {j c q n : Nat} (h : ¬ okA A (23 - j) q n) : avF A b j c q (n + 1) = avF A b j c q n := by
  cases b with
  | true =>
    show smF _ (n + 1) = smF _ n
    rw [smF_s, if_neg h]
    rfl
  | false =>
    have := mnF_1000 (fun r => if okA A (23 - j) q r then cgF A j (A.nx c (23 - j) r) r + (if r = q then 0 else 1) else 1000) n
    rw [av_F, av_F, mnF_s, if_neg (c := okA A (23 - j) q n) h, if_neg (by omega)]
theorem av_t {A : Au} {j c q n : Nat} (h : okA A (23 - j) q n) : avF A true j c q (n + 1) = avF A true j c q n + capF (bwF A j (A.nx c (23 - j) n) n) := by
  show smF _ (n + 1) = smF _ n + _
  rw [smF_s, if_pos h]
theorem av_f {A : Au} {j c q n : Nat} (h : okA A (23 - j) q n) : avF A false j c q (n + 1) = if cgF A j (A.nx c (23 - j) n) n + (if n = q then 0 else 1) < avF A false j c q n then cgF A j (A.nx c (23 - j) n) n + (if n = q then 0 else 1) else avF A false j c q n := by
  rw [av_F, av_F, mnF_s, if_pos (c := okA A (23 - j) q n) h]
theorem av_le (A : Au) (b : Bool) (j c q : Nat) {n : Nat} (hn : n ≤ 8) : avF A b j c q n ≤ 8000000 := by
  cases b with
  | true =>
    have : smF (fun r => if okA A (23 - j) q r then capF (bwF A j (A.nx c (23 - j) r) r) else 0) n ≤ n * 1000000 := sm_le n (fun r _ => by have := cap_le (bwF A j (A.nx c (23 - j) r) r); split <;> omega)
    show smF _ n ≤ _
    omega
  | false =>
    have := mnF_1000 (fun r => if okA A (23 - j) q r then cgF A j (A.nx c (23 - j) r) r + (if r = q then 0 else 1) else 1000) n
    show mnF _ n ≤ _
    omega
theorem bv_t (A : Au) (j c q : Nat) : capF (avF A true j c q 8) = bvF A true (j + 1) c q := by
  show capF (smF _ 8) = capF (bwF A (j + 1) c q)
  rw [bwF_s, ← cap_sm (fun r => if okA A (23 - j) q r then bwF A j (A.nx c (23 - j) r) r else 0)]
  refine congrArg capF (smF_c 8 (fun r _ => ?_))
  by_cases z : okA A (23 - j) q r
  · rw [if_pos z, if_pos z]
  · rw [if_neg z, if_neg z, cap_0]
theorem bv_f (A : Au) (j c q : Nat) : avF A false j c q 8 = bvF A false (j + 1) c q := rfl
theorem bv_le (A : Au) (b : Bool) (j c q : Nat) : bvF A b j c q ≤ 1000000 := by
  cases b with
  | true => exact cap_le _
  | false =>
    have := cg_1000 A j c q
    show cgF A j c q ≤ 1000000
    omega
theorem b_of0 {b : Bool} (h : bI (b = true) = 0) : b = false := by cases b; rfl; exact absurd h (by decide)
theorem b_ofn {b : Bool} (h : ¬ bI (b = true) = 0) : b = true := by cases b; exact absurd (by decide) h; rfl
theorem d8 (c q : Nat) (hq : q < 8) : (8 * c + q) / 8 = c ∧ (8 * c + q) % 8 = q := by omega
set_option maxRecDepth 100000 in
set_option maxHeartbeats 800000 in
theorem lp_bt5 {Γ : Fr} (o : ca_O Γ cX10_backTo 11 RX10 3 73) {h : Mem} {s : Nat → Int32} (I : SI s) (p : Int32) (d : Nat) (X : Int32) (k5 : kbF X 12 ≤ 5) (b : Bool) (x1 : Int32) (es : h.1 52 = s) (M : MB h s p d X 12) (j c q : Nat) (hj : j < 23) (hc : c < (mlF (rxM s X) 12)) (hq : q < 8) (x4 to : Int32) (hto : ∀ r, r < 8 → (bt to r = true ↔ okA (auM s p d X) (23 - j) q r)) (eb : ∀ k, k < 8 * (mlF (rxM s X) 12) → h.1 61 k = nI (bvF (auM s p d X) b j (k / 8) (k % 8))) (kk : ∀ v9 v10 : Option Value, ca_G Γ 11 h 263 [some (.ref 51), some (.int x1), some (.int (bI (b = true))), some (.int (nI (23 - j))), some (.int x4), some (.int (nI (8 * c + q))), some (.int (nI q)), some (.int to), some (.int (nI (avF (auM s p d X) b j c q 8))), v9, v10] []) : ∀ i, i ≤ 8 → ∀ (xi y : Int32) (v10 : Option Value), xi = nI i → y = nI (avF (auM s p d X) b j c q i) → ca_G Γ 11 h 161 [some (.ref 51), some (.int x1), some (.int (bI (b = true))), some (.int (nI (23 - j))), some (.int x4), some (.int (nI (8 * c + q))), some (.int (nI q)), some (.int to), some (.int y), some (.int xi), v10] [] := by
  have ha : ∀ t, t < 12 → askT s t < 4 := fun t ht => ask_lt I.tm ht
  have l1024 := ml_M5 (X := X) ha k5 (Nat.le_refl 12)
  refine downI 8 (fun i hi ih => ?_)
  rintro xi y v10 rfl rfl
  refine g_iload (pc := 161) o dX10_backTo_161 rfl ?_
  refine g_bipush (pc := 163) o dX10_backTo_163 8 rfl ?_
  refine g_ic_ge (pc := 165) o 263 dX10_backTo_165 (by decide) (fun c165 => ?_) (fun c165 => ?_)
  · skip
    have z : i = 8 := ge8 (n := 8) (by decide) (by omega) c165
    subst z
    exact kk _ _
  · skip
    have iq : i < 8 := lt8 (n := 8) (by decide) (by omega) c165
    refine g_iload (pc := 168) o dX10_backTo_168 rfl ?_
    refine g_iload (pc := 170) o dX10_backTo_170 rfl ?_
    refine g_callSi (pc := 172) o (m_has to i (by omega) h) mt_X10_has ms_X10_has lk_X10_90 rfl (by decide) rfl (Nat.le_of_ble_eq_true rfl) dX10_backTo_172 ?_
    refine g_if_eq (pc := 175) o 257 dX10_backTo_175 (by decide) (fun c175 => ?_) (fun c175 => ?_)
    · skip
      have z := bI_0.mp c175
      refine g_iinc (pc := 257) o dX10_backTo_257 rfl 1 rfl (by decide) ?_
      show ca_G Γ 11 _ _ [_, _, _, _, _, _, _, _, _, _, _] _
      refine g_goto (pc := 260) o 161 dX10_backTo_260 (by decide) ?_
      exact ih iq _ _ _ (nI_1 i) (by rw [av_n (fun y => z ((hto i iq).mpr y))])
    · skip
      have z := (hto i iq).mp (bI_n0.mp c175)
      have nl : (auM s p d X).nx c (23 - j) i < (mlF (rxM s X) 12) := by
        rw [(to_nx (p := p) (d := d) (m := 23 - j) (q := i) hc).1]
        omega
      have vl := bv_le (auM s p d X) b j ((auM s p d X).nx c (23 - j) i) i
      have al := av_le (auM s p d X) b j c q hi
      have b1 : h.1 61 (8 * (auM s p d X).nx c (23 - j) i + i) = nI (bvF (auM s p d X) b j ((auM s p d X).nx c (23 - j) i) i) := by
        rw [eb _ (by omega), (d8 _ i iq).1, (d8 _ i iq).2]
      have st255 : ∀ (y : Int32) (v10 : Option Value), y = nI (avF (auM s p d X) b j c q (i + 1)) → ca_G Γ 11 h 255 [some (.ref 51), some (.int x1), some (.int (bI (b = true))), some (.int (nI (23 - j))), some (.int x4), some (.int (nI (8 * c + q))), some (.int (nI q)), some (.int to), some (.int (nI (avF (auM s p d X) b j c q i))), some (.int (nI i)), v10] [.int y] := by
        rintro y v10 rfl
        refine g_istore (pc := 255) o dX10_backTo_255 (by decide) ?_
        show ca_G Γ 11 _ _ [_, _, _, _, _, _, _, _, _, _, _] _
        refine g_iinc (pc := 257) o dX10_backTo_257 rfl 1 rfl (by decide) ?_
        show ca_G Γ 11 _ _ [_, _, _, _, _, _, _, _, _, _, _] _
        refine g_goto (pc := 260) o 161 dX10_backTo_260 (by decide) ?_
        exact ih iq _ _ _ (nI_1 i) rfl
      refine g_aload_n (pc := 178) o dX10_backTo_178 rfl ?_
      refine g_getR (pc := 179) o 13 rfl rfl rfl inX10 (by decide) lf_X10_37 dX10_backTo_179 ?_
      refine g_bipush (pc := 182) o dX10_backTo_182 8 rfl ?_
      refine g_aload_n (pc := 184) o dX10_backTo_184 rfl ?_
      refine g_iload (pc := 185) o dX10_backTo_185 rfl ?_
      refine g_bipush (pc := 187) o dX10_backTo_187 8 rfl ?_
      refine g_idiv (pc := 189) o dX10_backTo_189 (by decide) ?_
      rw [show nI (8 * c + q) / 8 = nI c from (dv_nI (d := 8) (by omega) (by decide) (by decide)).trans (by rw [(d8 c q hq).1])]
      refine g_iload_n (pc := 190) o dX10_backTo_190 rfl ?_
      refine g_iload (pc := 191) o dX10_backTo_191 rfl ?_
      refine g_callVi (pc := 193) o (m_after es I p d X k5 M c (23 - j) i (by omega) iq hc) mt_X10_after mv_X10_after lk_X10_188 rfl rfl rfl (by decide) rfl (Nat.le_of_ble_eq_true rfl) dX10_backTo_193 ?_
      refine g_imul (pc := 196) o dX10_backTo_196 ?_
      refine g_iload (pc := 197) o dX10_backTo_197 rfl ?_
      refine g_iadd (pc := 199) o dX10_backTo_199 ?_
      rw [show (8 : Int32) * nI ((auM s p d X).nx c (23 - j) i) + nI i = nI (8 * (auM s p d X).nx c (23 - j) i + i) from ix2 _ 8 i]
      refine n_ialdE (pc := 200) o (8 * (auM s p d X).nx c (23 - j) i + i) (rfl) rfl ((by omega)) (by decide) (b1) dX10_backTo_200 ?_
      refine g_istore (pc := 201) o dX10_backTo_201 (by decide) ?_
      show ca_G Γ 11 _ _ [_, _, _, _, _, _, _, _, _, _, _] _
      refine g_iload_n (pc := 203) o dX10_backTo_203 rfl ?_
      refine g_if_eq (pc := 204) o 215 dX10_backTo_204 (by decide) (fun c204 => ?_) (fun c204 => ?_)
      · skip
        obtain rfl := b_of0 c204
        have st249 : ∀ (x : Int32), x = nI (if i = q then 0 else 1) → cgF (auM s p d X) j ((auM s p d X).nx c (23 - j) i) i + (if i = q then 0 else 1) < avF (auM s p d X) false j c q i → ca_G Γ 11 h 249 [some (.ref 51), some (.int x1), some (.int (bI (false = true))), some (.int (nI (23 - j))), some (.int x4), some (.int (nI (8 * c + q))), some (.int (nI q)), some (.int to), some (.int (nI (avF (auM s p d X) false j c q i))), some (.int (nI i)), some (.int (nI (bvF (auM s p d X) false j ((auM s p d X).nx c (23 - j) i) i)))] [.int x, .int (nI (bvF (auM s p d X) false j ((auM s p d X).nx c (23 - j) i) i))] := by
          rintro x rfl lt
          refine g_iadd (pc := 249) o dX10_backTo_249 ?_
          refine g_goto (pc := 250) o 255 dX10_backTo_250 (by decide) ?_
          exact st255 _ _ (by rw [av_f z, if_pos lt]; exact nI_add _ _)
        have st229 : ∀ (x : Int32), x = nI (if i = q then 0 else 1) → ca_G Γ 11 h 229 [some (.ref 51), some (.int x1), some (.int (bI (false = true))), some (.int (nI (23 - j))), some (.int x4), some (.int (nI (8 * c + q))), some (.int (nI q)), some (.int to), some (.int (nI (avF (auM s p d X) false j c q i))), some (.int (nI i)), some (.int (nI (bvF (auM s p d X) false j ((auM s p d X).nx c (23 - j) i) i)))] [.int x, .int (nI (bvF (auM s p d X) false j ((auM s p d X).nx c (23 - j) i) i))] := by
          rintro x rfl
          have e01 : (if i = q then 0 else 1) ≤ 1 := by split <;> omega
          refine g_iadd (pc := 229) o dX10_backTo_229 ?_
          rw [nI_add]
          refine g_iload (pc := 230) o dX10_backTo_230 rfl ?_
          refine g_ic_ge (pc := 232) o 253 dX10_backTo_232 (by decide) (fun c232 => ?_) (fun c232 => ?_)
          · skip
            have w := (nI_leI (by omega) (by omega)).mp c232
            refine g_iload (pc := 253) o dX10_backTo_253 rfl ?_
            have w2 : ¬ (cgF (auM s p d X) j ((auM s p d X).nx c (23 - j) i) i + (if i = q then 0 else 1) < avF (auM s p d X) false j c q i) := Nat.not_lt.mpr w
            exact st255 _ _ (by rw [av_f z, if_neg w2])
          · skip
            have w := Nat.lt_of_not_le (fun y => c232 ((nI_leI (by omega) (by omega)).mpr y))
            refine g_iload (pc := 235) o dX10_backTo_235 rfl ?_
            refine g_iload (pc := 237) o dX10_backTo_237 rfl ?_
            refine g_iload (pc := 239) o dX10_backTo_239 rfl ?_
            refine g_ic_ne (pc := 241) o 248 dX10_backTo_241 (by decide) (fun c241 => ?_) (fun c241 => ?_)
            · skip
              have n1 := mt (nI_eq (a := i) (b := q) (by omega) (by omega)).mpr c241
              refine g_iconst (pc := 248) o dX10_backTo_248 1 rfl ?_
              exact st249 _ (by rw [if_neg n1]; rfl) w
            · skip
              have n1 := (nI_eq (a := i) (b := q) (by omega) (by omega)).mp c241
              refine g_iconst (pc := 244) o dX10_backTo_244 0 rfl ?_
              refine g_goto (pc := 245) o 249 dX10_backTo_245 (by decide) ?_
              exact st249 _ (by rw [if_pos n1]; rfl) w
        refine g_iload (pc := 215) o dX10_backTo_215 rfl ?_
        refine g_iload (pc := 217) o dX10_backTo_217 rfl ?_
        refine g_iload (pc := 219) o dX10_backTo_219 rfl ?_
        refine g_ic_ne (pc := 221) o 228 dX10_backTo_221 (by decide) (fun c221 => ?_) (fun c221 => ?_)
        · skip
          have n1 := mt (nI_eq (a := i) (b := q) (by omega) (by omega)).mpr c221
          refine g_iconst (pc := 228) o dX10_backTo_228 1 rfl ?_
          exact st229 _ (by rw [if_neg n1]; rfl)
        · skip
          have n1 := (nI_eq (a := i) (b := q) (by omega) (by omega)).mp c221
          refine g_iconst (pc := 224) o dX10_backTo_224 0 rfl ?_
          refine g_goto (pc := 225) o 229 dX10_backTo_225 (by decide) ?_
          exact st229 _ (by rw [if_pos n1]; rfl)
      · skip
        obtain rfl := b_ofn c204
        refine g_iload (pc := 207) o dX10_backTo_207 rfl ?_
        refine g_iload (pc := 209) o dX10_backTo_209 rfl ?_
        refine g_iadd (pc := 211) o dX10_backTo_211 ?_
        refine g_goto (pc := 212) o 255 dX10_backTo_212 (by decide) ?_
        exact st255 _ _ (by rw [av_t z]; exact nI_add _ _)
set_option maxRecDepth 100000 in
set_option maxHeartbeats 800000 in
theorem lp_bt4 {Γ : Fr} (o : ca_O Γ cX10_backTo 11 RX10 3 73) {h0 : Mem} {s : Nat → Int32} (I : SI s) (p : Int32) (d : Nat) (X : Int32) (k5 : kbF X 12 ≤ 5) (b : Bool) (x1 : Int32) (es : h0.1 52 = s) (M : MB h0 s p d X 12) (j : Nat) (hj : j < 23) (eb : ∀ k, k < 8 * (mlF (rxM s X) 12) → h0.1 61 k = nI (bvF (auM s p d X) b j (k / 8) (k % 8))) (kk : ∀ (h : Mem) (v5 v6 v7 v8 v9 v10 : Option Value), (∀ k, k < 8 * (mlF (rxM s X) 12) → h.1 60 k = nI (bvF (auM s p d X) b (j + 1) (k / 8) (k % 8))) → (∀ c, c ≠ 60 → h.1 c = h0.1 c) → ca_G Γ 11 h 294 [some (.ref 51), some (.int x1), some (.int (bI (b = true))), some (.int (nI (23 - j))), some (.int (lwF s p d X (23 - j) 12)), v5, v6, v7, v8, v9, v10] []) : ∀ k, k ≤ 8 * (mlF (rxM s X) 12) → ∀ (xk : Int32) (h : Mem) (v6 v7 v8 v9 v10 : Option Value), xk = nI k → (∀ i, i < k → h.1 60 i = nI (bvF (auM s p d X) b (j + 1) (i / 8) (i % 8))) → (∀ c, c ≠ 60 → h.1 c = h0.1 c) → ca_G Γ 11 h 107 [some (.ref 51), some (.int x1), some (.int (bI (b = true))), some (.int (nI (23 - j))), some (.int (lwF s p d X (23 - j) 12)), some (.int xk), v6, v7, v8, v9, v10] [] := by
  have ha : ∀ t, t < 12 → askT s t < 4 := fun t ht => ask_lt I.tm ht
  have l1024 := ml_M5 (X := X) ha k5 (Nat.le_refl 12)
  refine downI (8 * (mlF (rxM s X) 12)) (fun k hk ih => ?_)
  rintro xk h v6 v7 v8 v9 v10 rfl e1 e2
  have es2 : h.1 52 = s := (e2 52 (by decide)).trans es
  have M2 : MB h s p d X 12 := M.of (fun c hc => e2 c (by omega))
  have eb2 : ∀ k, k < 8 * (mlF (rxM s X) 12) → h.1 61 k = nI (bvF (auM s p d X) b j (k / 8) (k % 8)) := fun k hk => by rw [e2 61 (by decide)]; exact eb k hk
  refine g_iload (pc := 107) o dX10_backTo_107 rfl ?_
  refine g_bipush (pc := 109) o dX10_backTo_109 8 rfl ?_
  refine g_aload_n (pc := 111) o dX10_backTo_111 rfl ?_
  refine g_getIE (pc := 112) o 10 rfl rfl rfl inX10 (by decide) lf_X10_179 (M2.2.1) dX10_backTo_112 ?_
  refine g_imul (pc := 115) o dX10_backTo_115 ?_
  rw [show (8 : Int32) * nI (mlF (rxM s X) 12) = nI (8 * (mlF (rxM s X) 12)) from pk_mul 8 _]
  refine g_ic_ge (pc := 116) o 294 dX10_backTo_116 (by decide) (fun c116 => ?_) (fun c116 => ?_)
  · skip
    have z : k = 8 * (mlF (rxM s X) 12) := ge8 (n := 8 * (mlF (rxM s X) 12)) (by omega) (by omega) c116
    subst z
    exact kk h _ _ _ _ _ _ e1 e2
  · skip
    have z : k < 8 * (mlF (rxM s X) 12) := lt8 (n := 8 * (mlF (rxM s X) 12)) (by omega) (by omega) c116
    obtain ⟨c, q, hq, rfl⟩ : ∃ c q, q < 8 ∧ k = 8 * c + q := ⟨k / 8, k % 8, by omega, by omega⟩
    have hc : c < (mlF (rxM s X) 12) := by omega
    refine g_iload (pc := 119) o dX10_backTo_119 rfl ?_
    refine g_bipush (pc := 121) o dX10_backTo_121 8 rfl ?_
    refine g_irem (pc := 123) o dX10_backTo_123 (by decide) ?_
    rw [show jrem (nI (8 * c + q)) 8 = nI q from (rm_nI (d := 8) (by omega) (by decide) (by decide)).trans (by rw [(d8 c q hq).2])]
    have sq : h.1 52 q = s q := by rw [es2]
    have fin : ∀ (to : Int32) (v9 v10 : Option Value), ca_G Γ 11 h 263 [some (.ref 51), some (.int x1), some (.int (bI (b = true))), some (.int (nI (23 - j))), some (.int (lwF s p d X (23 - j) 12)), some (.int (nI (8 * c + q))), some (.int (nI q)), some (.int to), some (.int (nI (avF (auM s p d X) b j c q 8))), v9, v10] [] := by
      intro to v9 v10
      have al := av_le (auM s p d X) b j c q (Nat.le_refl 8)
      have st287 : ∀ (y : Int32), y = nI (bvF (auM s p d X) b (j + 1) c q) → ca_G Γ 11 h 287 [some (.ref 51), some (.int x1), some (.int (bI (b = true))), some (.int (nI (23 - j))), some (.int (lwF s p d X (23 - j) 12)), some (.int (nI (8 * c + q))), some (.int (nI q)), some (.int to), some (.int (nI (avF (auM s p d X) b j c q 8))), v9, v10] [.int y, .int (nI (8 * c + q)), .ref 60] := by
        rintro y rfl
        refine n_iast (pc := 287) o (8 * c + q) (rfl) rfl ((by omega)) (by decide) dX10_backTo_287 ?_
        refine g_iinc (pc := 288) o dX10_backTo_288 rfl 1 rfl (by decide) ?_
        show ca_G Γ 11 _ _ [_, _, _, _, _, _, _, _, _, _, _] _
        refine g_goto (pc := 291) o 107 dX10_backTo_291 (by decide) ?_
        refine ih z _ _ _ _ _ _ _ (nI_1 _) (fun i hi => ?_) (fun c hc => (mw_ne _ _ _ hc).trans (e2 c hc))
        rw [mw_same]
        unfold upd
        by_cases w : i = 8 * c + q
        · rw [if_pos w, w, (d8 c q hq).1, (d8 c q hq).2]
        · rw [if_neg w]; exact e1 i (by omega)
      refine g_aload_n (pc := 263) o dX10_backTo_263 rfl ?_
      refine g_getR (pc := 264) o 12 rfl rfl rfl inX10 (by decide) lf_X10_34 dX10_backTo_264 ?_
      refine g_iload (pc := 267) o dX10_backTo_267 rfl ?_
      refine g_iload_n (pc := 269) o dX10_backTo_269 rfl ?_
      refine g_if_eq (pc := 270) o 285 dX10_backTo_270 (by decide) (fun c270 => ?_) (fun c270 => ?_)
      · skip
        obtain rfl := b_of0 c270
        refine g_iload (pc := 285) o dX10_backTo_285 rfl ?_
        exact st287 _ rfl
      · skip
        obtain rfl := b_ofn c270
        refine g_iload (pc := 273) o dX10_backTo_273 rfl ?_
        refine g_ldc (pc := 275) o dX10_backTo_275 lc_X10_191 ?_
        refine g_ic_le (pc := 277) o 285 dX10_backTo_277 (by decide) (fun c277 => ?_) (fun c277 => ?_)
        · skip
          have w := (nI_leI (a := avF (auM s p d X) true j c q 8) (b := 1000000) (by omega) (by decide)).mp c277
          refine g_iload (pc := 285) o dX10_backTo_285 rfl ?_
          exact st287 _ (by rw [← bv_t]; unfold capF; rw [Nat.min_eq_left w])
        · skip
          have w := mt (nI_leI (a := avF (auM s p d X) true j c q 8) (b := 1000000) (by omega) (by decide)).mpr c277
          refine g_ldc (pc := 280) o dX10_backTo_280 lc_X10_191 ?_
          refine g_goto (pc := 282) o 287 dX10_backTo_282 (by decide) ?_
          exact st287 _ (by rw [← bv_t]; unfold capF; rw [Nat.min_eq_right (by omega)]; rfl)
    have st156 : ∀ (y : Int32) (v8 v9 v10 : Option Value), y = nI (avF (auM s p d X) b j c q 0) → ca_G Γ 11 h 156 [some (.ref 51), some (.int x1), some (.int (bI (b = true))), some (.int (nI (23 - j))), some (.int (lwF s p d X (23 - j) 12)), some (.int (nI (8 * c + q))), some (.int (nI q)), some (.int ((jshl 1 (nI q) ||| s q) &&& lwF s p d X (23 - j) 12)), v8, v9, v10] [.int y] := by
      rintro y v8 v9 v10 rfl
      refine g_istore (pc := 156) o dX10_backTo_156 (by decide) ?_
      show ca_G Γ 11 _ _ [_, _, _, _, _, _, _, _, _, _, _] _
      refine g_iconst (pc := 158) o dX10_backTo_158 0 rfl ?_
      refine g_istore (pc := 159) o dX10_backTo_159 (by decide) ?_
      show ca_G Γ 11 _ _ [_, _, _, _, _, _, _, _, _, _, _] _
      refine lp_bt5 o I p d X k5 b x1 es2 M2 j c q hj hc hq _ _ (fun r hr => ?_) eb2 (fun v9 v10 => fin _ v9 v10) 0 (by omega) _ _ _ rfl rfl
      rw [b_and, b_or, bt_sh (by omega) (by omega), Bool.and_eq_true, Bool.or_eq_true, decide_eq_true_eq]
      exact ⟨fun y => ⟨y.2, y.1⟩, fun y => ⟨y.2, y.1⟩⟩
    refine g_istore (pc := 124) o dX10_backTo_124 (by decide) ?_
    show ca_G Γ 11 _ _ [_, _, _, _, _, _, _, _, _, _, _] _
    refine g_iconst (pc := 126) o dX10_backTo_126 1 rfl ?_
    refine g_iload (pc := 127) o dX10_backTo_127 rfl ?_
    refine g_ishl (pc := 129) o dX10_backTo_129 ?_
    refine g_aload_n (pc := 130) o dX10_backTo_130 rfl ?_
    refine g_getR (pc := 131) o 0 rfl rfl rfl inX10 (by decide) lf_X10_7 dX10_backTo_131 ?_
    refine g_iconst (pc := 134) o dX10_backTo_134 0 rfl ?_
    refine g_iload (pc := 135) o dX10_backTo_135 rfl ?_
    refine g_iadd (pc := 137) o dX10_backTo_137 ?_
    refine n_ialdE (pc := 138) o q (z0 q) rfl ((by omega)) (by decide) (sq) dX10_backTo_138 ?_
    refine g_ior (pc := 139) o dX10_backTo_139 ?_
    refine g_iload (pc := 140) o dX10_backTo_140 rfl ?_
    refine g_iand (pc := 142) o dX10_backTo_142 ?_
    refine g_istore (pc := 143) o dX10_backTo_143 (by decide) ?_
    show ca_G Γ 11 _ _ [_, _, _, _, _, _, _, _, _, _, _] _
    refine g_iload_n (pc := 145) o dX10_backTo_145 rfl ?_
    refine g_if_eq (pc := 146) o 153 dX10_backTo_146 (by decide) (fun c146 => ?_) (fun c146 => ?_)
    · skip
      obtain rfl := b_of0 c146
      refine g_sipush (pc := 153) o dX10_backTo_153 1000 rfl ?_
      exact st156 _ _ _ _ rfl
    · skip
      obtain rfl := b_ofn c146
      refine g_iconst (pc := 149) o dX10_backTo_149 0 rfl ?_
      refine g_goto (pc := 150) o 156 dX10_backTo_150 (by decide) ?_
      exact st156 _ _ _ _ rfl
set_option maxRecDepth 100000 in
set_option maxHeartbeats 800000 in
theorem lp_bt3 {Γ : Fr} (o : ca_O Γ cX10_backTo 11 RX10 3 73) {h0 : Mem} (E : Nat) (hE : E ≤ 1024) (e10 : h0.1 51 10 = nI E) (b : Bool) (x1 x3 : Int32) (kk : ∀ (h : Mem) (v4 v5 v6 v7 v8 v9 v10 : Option Value), (∀ i, i < 8 * E → h.1 61 i = h0.1 60 i) → (∀ c, c ≠ 61 → h.1 c = h0.1 c) → ca_G Γ 11 h 97 [some (.ref 51), some (.int x1), some (.int (bI (b = true))), some (.int x3), v4, v5, v6, v7, v8, v9, v10] []) : ∀ k, k ≤ 8 * E → ∀ (xk : Int32) (h : Mem) (v5 v6 v7 v8 v9 v10 : Option Value), xk = nI k → (∀ i, i < k → h.1 61 i = h0.1 60 i) → (∀ c, c ≠ 61 → h.1 c = h0.1 c) → ca_G Γ 11 h 65 [some (.ref 51), some (.int x1), some (.int (bI (b = true))), some (.int x3), some (.int xk), v5, v6, v7, v8, v9, v10] [] := by
  refine downI (8 * E) (fun k hk ih => ?_)
  rintro xk h v5 v6 v7 v8 v9 v10 rfl e1 e2
  have e10b : h.1 51 10 = nI E := by rw [e2 51 (by decide)]; exact e10
  have e60 : h.1 60 k = h0.1 60 k := by rw [e2 60 (by decide)]
  refine g_iload (pc := 65) o dX10_backTo_65 rfl ?_
  refine g_bipush (pc := 67) o dX10_backTo_67 8 rfl ?_
  refine g_aload_n (pc := 69) o dX10_backTo_69 rfl ?_
  refine g_getIE (pc := 70) o 10 rfl rfl rfl inX10 (by decide) lf_X10_179 (e10b) dX10_backTo_70 ?_
  refine g_imul (pc := 73) o dX10_backTo_73 ?_
  rw [show (8 : Int32) * nI E = nI (8 * E) from pk_mul 8 _]
  refine g_ic_ge (pc := 74) o 97 dX10_backTo_74 (by decide) (fun c74 => ?_) (fun c74 => ?_)
  · skip
    have z : k = 8 * E := ge8 (n := 8 * E) (by omega) (by omega) c74
    subst z
    exact kk h _ _ _ _ _ _ _ e1 e2
  · skip
    have z : k < 8 * E := lt8 (n := 8 * E) (by omega) (by omega) c74
    refine g_aload_n (pc := 77) o dX10_backTo_77 rfl ?_
    refine g_getR (pc := 78) o 13 rfl rfl rfl inX10 (by decide) lf_X10_37 dX10_backTo_78 ?_
    refine g_iload (pc := 81) o dX10_backTo_81 rfl ?_
    refine g_aload_n (pc := 83) o dX10_backTo_83 rfl ?_
    refine g_getR (pc := 84) o 12 rfl rfl rfl inX10 (by decide) lf_X10_34 dX10_backTo_84 ?_
    refine g_iload (pc := 87) o dX10_backTo_87 rfl ?_
    refine n_ialdE (pc := 89) o k (rfl) rfl ((by omega)) (by decide) (e60) dX10_backTo_89 ?_
    refine n_iast (pc := 90) o k (rfl) rfl ((by omega)) (by decide) dX10_backTo_90 ?_
    refine g_iinc (pc := 91) o dX10_backTo_91 rfl 1 rfl (by decide) ?_
    show ca_G Γ 11 _ _ [_, _, _, _, _, _, _, _, _, _, _] _
    refine g_goto (pc := 94) o 65 dX10_backTo_94 (by decide) ?_
    refine ih z _ _ _ _ _ _ _ _ (nI_1 _) (fun i hi => ?_) (fun c hc => (mw_ne _ _ _ hc).trans (e2 c hc))
    rw [mw_same]
    unfold upd
    by_cases w : i = k
    · rw [if_pos w, w]
    · rw [if_neg w]; exact e1 i (by omega)
set_option maxRecDepth 100000 in
set_option maxHeartbeats 800000 in
theorem lp_bt2 {Γ : Fr} (o : ca_O Γ cX10_backTo 11 RX10 3 73) {Pr : Option Value → Mem → Prop} (ρ : ca_R Γ none Pr) {h0 : Mem} {s : Nat → Int32} (I : SI s) (p : Int32) (d : Nat) (X : Int32) (k5 : kbF X 12 ≤ 5) (b : Bool) (H : Nat) (hH : H < 24) (es : h0.1 52 = s) (M : MB h0 s p d X 12) (hp : ∀ h : Mem, (∀ k, k < 8 * (mlF (rxM s X) 12) → h.1 60 k = nI (bvF (auM s p d X) b (23 - H) (k / 8) (k % 8))) → (∀ c, c ≠ 60 → c ≠ 61 → h.1 c = h0.1 c) → Pr none h) : ∀ j, j ≤ 23 - H → ∀ (xj : Int32) (h : Mem) (v4 v5 v6 v7 v8 v9 v10 : Option Value), xj = nI (23 - j) → (∀ k, k < 8 * (mlF (rxM s X) 12) → h.1 60 k = nI (bvF (auM s p d X) b j (k / 8) (k % 8))) → (∀ c, c ≠ 60 → c ≠ 61 → h.1 c = h0.1 c) → ca_G Γ 11 h 57 [some (.ref 51), some (.int (nI H)), some (.int (bI (b = true))), some (.int xj), v4, v5, v6, v7, v8, v9, v10] [] := by
  have ha : ∀ t, t < 12 → askT s t < 4 := fun t ht => ask_lt I.tm ht
  have l1024 := ml_M5 (X := X) ha k5 (Nat.le_refl 12)
  refine downI (23 - H) (fun j hj ih => ?_)
  rintro xj h v4 v5 v6 v7 v8 v9 v10 rfl e1 e2
  have es2 : h.1 52 = s := (e2 52 (by decide) (by decide)).trans es
  have M2 : MB h s p d X 12 := M.of (fun c hc => e2 c (by omega) (by omega))
  refine g_iload_n (pc := 57) o dX10_backTo_57 rfl ?_
  refine g_iload_n (pc := 58) o dX10_backTo_58 rfl ?_
  refine g_ic_le (pc := 59) o 300 dX10_backTo_59 (by decide) (fun c59 => ?_) (fun c59 => ?_)
  · skip
    have z := (nI_leI (a := 23 - j) (b := H) (by omega) (by omega)).mp c59
    obtain rfl : j = 23 - H := by omega
    exact g_vret o ρ dX10_backTo_300 (hp h e1 e2)
  · skip
    have z := mt (nI_leI (a := 23 - j) (b := H) (by omega) (by omega)).mpr c59
    refine g_iconst (pc := 62) o dX10_backTo_62 0 rfl ?_
    refine g_istore (pc := 63) o dX10_backTo_63 (by decide) ?_
    show ca_G Γ 11 _ _ [_, _, _, _, _, _, _, _, _, _, _] _
    refine lp_bt3 o (h0 := h) (mlF (rxM s X) 12) l1024 M2.2.1 b _ _ (fun h1 v4 v5 v6 v7 v8 v9 v10 a1 a2 => ?_) 0 (by omega) _ h _ _ _ _ _ _ rfl (fun i hi => by omega) (fun c _ => rfl)
    have es3 : h1.1 52 = s := (a2 52 (by decide)).trans es2
    have M3 : MB h1 s p d X 12 := M2.of (fun c hc => a2 c (by omega))
    refine g_aload_n (pc := 97) o dX10_backTo_97 rfl ?_
    refine g_iload_n (pc := 98) o dX10_backTo_98 rfl ?_
    refine g_callVi (pc := 99) o (m_lawful es3 I p d X k5 M3 (23 - j) (by omega)) mt_X10_lawful mv_X10_lawful lk_X10_185 rfl rfl rfl (by decide) rfl (Nat.le_of_ble_eq_true rfl) dX10_backTo_99 ?_
    refine g_istore (pc := 102) o dX10_backTo_102 (by decide) ?_
    show ca_G Γ 11 _ _ [_, _, _, _, _, _, _, _, _, _, _] _
    refine g_iconst (pc := 104) o dX10_backTo_104 0 rfl ?_
    refine g_istore (pc := 105) o dX10_backTo_105 (by decide) ?_
    show ca_G Γ 11 _ _ [_, _, _, _, _, _, _, _, _, _, _] _
    refine lp_bt4 o (h0 := h1) I p d X k5 b _ es3 M3 j (by omega) (fun k hk => by rw [a1 k hk]; exact e1 k hk) (fun h2 v5 v6 v7 v8 v9 v10 b1 b2 => ?_) 0 (by omega) _ h1 _ _ _ _ _ rfl (fun i hi => by omega) (fun c _ => rfl)
    refine g_iinc (pc := 294) o dX10_backTo_294 rfl (-1) rfl (by decide) ?_
    show ca_G Γ 11 _ _ [_, _, _, _, _, _, _, _, _, _, _] _
    refine g_goto (pc := 297) o 57 dX10_backTo_297 (by decide) ?_
    refine ih (by omega) _ h2 _ _ _ _ _ _ _ ?_ b1 (fun c c1 c2 => (b2 c c1).trans ((a2 c c2).trans (e2 c c1 c2)))
    rw [← Int32.sub_eq_add_neg, show (1 : Int32) = nI 1 from rfl, pk_sub (by omega)]
    congr 1
set_option maxRecDepth 100000 in
set_option maxHeartbeats 800000 in
theorem lp_bt1 {Γ : Fr} (o : ca_O Γ cX10_backTo 11 RX10 3 73) {h0 : Mem} (E : Nat) (hE : E ≤ 1024) (e10 : h0.1 51 10 = nI E) (A : Au) (b : Bool) (x1 : Int32) (kk : ∀ (h : Mem) (v3 v4 v5 v6 v7 v8 v9 v10 : Option Value), (∀ i, i < 8 * E → h.1 60 i = nI (bvF A b 0 (i / 8) (i % 8))) → (∀ c, c ≠ 60 → h.1 c = h0.1 c) → ca_G Γ 11 h 54 [some (.ref 51), some (.int x1), some (.int (bI (b = true))), v3, v4, v5, v6, v7, v8, v9, v10] []) : ∀ k, k ≤ 8 * E → ∀ (xk : Int32) (h : Mem) (v4 v5 v6 v7 v8 v9 v10 : Option Value), xk = nI k → (∀ i, i < k → h.1 60 i = nI (bvF A b 0 (i / 8) (i % 8))) → (∀ c, c ≠ 60 → h.1 c = h0.1 c) → ca_G Γ 11 h 2 [some (.ref 51), some (.int x1), some (.int (bI (b = true))), some (.int xk), v4, v5, v6, v7, v8, v9, v10] [] := by
  refine downI (8 * E) (fun k hk ih => ?_)
  rintro xk h v4 v5 v6 v7 v8 v9 v10 rfl e1 e2
  have e10b : h.1 51 10 = nI E := by rw [e2 51 (by decide)]; exact e10
  refine g_iload_n (pc := 2) o dX10_backTo_2 rfl ?_
  refine g_bipush (pc := 3) o dX10_backTo_3 8 rfl ?_
  refine g_aload_n (pc := 5) o dX10_backTo_5 rfl ?_
  refine g_getIE (pc := 6) o 10 rfl rfl rfl inX10 (by decide) lf_X10_179 (e10b) dX10_backTo_6 ?_
  refine g_imul (pc := 9) o dX10_backTo_9 ?_
  rw [show (8 : Int32) * nI E = nI (8 * E) from pk_mul 8 _]
  refine g_ic_ge (pc := 10) o 54 dX10_backTo_10 (by decide) (fun c10 => ?_) (fun c10 => ?_)
  · skip
    have z : k = 8 * E := ge8 (n := 8 * E) (by omega) (by omega) c10
    subst z
    exact kk h _ _ _ _ _ _ _ _ e1 e2
  · skip
    have z : k < 8 * E := lt8 (n := 8 * E) (by omega) (by omega) c10
    have st47 : ∀ y : Int32, y = nI (bvF A b 0 (k / 8) (k % 8)) → ca_G Γ 11 h 47 [some (.ref 51), some (.int x1), some (.int (bI (b = true))), some (.int (nI k)), v4, v5, v6, v7, v8, v9, v10] [.int y, .int (nI k), .ref 60] := by
      rintro y rfl
      refine n_iast (pc := 47) o k (rfl) rfl ((by omega)) (by decide) dX10_backTo_47 ?_
      refine g_iinc (pc := 48) o dX10_backTo_48 rfl 1 rfl (by decide) ?_
      show ca_G Γ 11 _ _ [_, _, _, _, _, _, _, _, _, _, _] _
      refine g_goto (pc := 51) o 2 dX10_backTo_51 (by decide) ?_
      refine ih z _ _ _ _ _ _ _ _ _ (nI_1 _) (fun i hi => ?_) (fun c hc => (mw_ne _ _ _ hc).trans (e2 c hc))
      rw [mw_same]
      unfold upd
      by_cases w : i = k
      · rw [if_pos w, w]
      · rw [if_neg w]; exact e1 i (by omega)
    have bt0 : bvF A true 0 (k / 8) (k % 8) = capF (if k / 8 = 0 then 1 else 0) := rfl
    have bf0 : bvF A false 0 (k / 8) (k % 8) = if k / 8 = 0 then 0 else 1000 := rfl
    refine g_aload_n (pc := 13) o dX10_backTo_13 rfl ?_
    refine g_getR (pc := 14) o 12 rfl rfl rfl inX10 (by decide) lf_X10_34 dX10_backTo_14 ?_
    refine g_iload_n (pc := 17) o dX10_backTo_17 rfl ?_
    refine g_iload_n (pc := 18) o dX10_backTo_18 rfl ?_
    refine g_bipush (pc := 19) o dX10_backTo_19 8 rfl ?_
    refine g_ic_ge (pc := 21) o 36 dX10_backTo_21 (by decide) (fun c21 => ?_) (fun c21 => ?_)
    · skip
      have w := (nI_leI (a := 8) (b := k) (by decide) (by omega)).mp c21
      refine g_iload_n (pc := 36) o dX10_backTo_36 rfl ?_
      refine g_if_eq (pc := 37) o 44 dX10_backTo_37 (by decide) (fun c37 => ?_) (fun c37 => ?_)
      · skip
        obtain rfl := b_of0 c37
        refine g_sipush (pc := 44) o dX10_backTo_44 1000 rfl ?_
        exact st47 _ (by rw [bf0, if_neg (by omega)]; rfl)
      · skip
        obtain rfl := b_ofn c37
        refine g_iconst (pc := 40) o dX10_backTo_40 0 rfl ?_
        refine g_goto (pc := 41) o 47 dX10_backTo_41 (by decide) ?_
        exact st47 _ (by rw [bt0, if_neg (by omega)]; rfl)
    · skip
      have w := mt (nI_leI (a := 8) (b := k) (by decide) (by omega)).mpr c21
      refine g_iload_n (pc := 24) o dX10_backTo_24 rfl ?_
      refine g_if_eq (pc := 25) o 32 dX10_backTo_25 (by decide) (fun c25 => ?_) (fun c25 => ?_)
      · skip
        obtain rfl := b_of0 c25
        refine g_iconst (pc := 32) o dX10_backTo_32 0 rfl ?_
        refine g_goto (pc := 33) o 47 dX10_backTo_33 (by decide) ?_
        exact st47 _ (by rw [bf0, if_pos (by omega)]; rfl)
      · skip
        obtain rfl := b_ofn c25
        refine g_iconst (pc := 28) o dX10_backTo_28 1 rfl ?_
        refine g_goto (pc := 29) o 47 dX10_backTo_29 (by decide) ?_
        exact st47 _ (by rw [bt0, if_pos (by omega)]; rfl)
set_option maxRecDepth 100000 in
set_option maxHeartbeats 400000 in
theorem m_backTo {h : Mem} {s : Nat → Int32} (es : h.1 52 = s) (I : SI s) (p : Int32) (d : Nat) (X : Int32) (k5 : kbF X 12 ≤ 5) (M : MB h s p d X 12) (b : Bool) (H : Nat) (hH : H < 24) : Ct yX10_backTo cX10_backTo 11 none 3 73 [.ref 51, .int (nI H), .int (bI (b = true))] h (Qv (fun h2 => (∀ k, k < 8 * (mlF (rxM s X) 12) → h2.1 60 k = nI (bvF (auM s p d X) b (23 - H) (k / 8) (k % 8))) ∧ ∀ c, c ≠ 60 → c ≠ 61 → h2.1 c = h.1 c)) := by
  refine Ct.of (by decide) (Nat.le_of_ble_eq_true rfl) (fun Γ o ρ => ?_)
  show ca_G Γ 11 _ _ [_, _, _, _, _, _, _, _, _, _, _] _
  have ha : ∀ t, t < 12 → askT s t < 4 := fun t ht => ask_lt I.tm ht
  have l1024 := ml_M5 (X := X) ha k5 (Nat.le_refl 12)
  refine g_iconst (pc := 0) o dX10_backTo_0 0 rfl ?_
  refine g_istore_n (pc := 1) o dX10_backTo_1 (by decide) ?_
  show ca_G Γ 11 _ _ [_, _, _, _, _, _, _, _, _, _, _] _
  refine lp_bt1 o (h0 := h) (mlF (rxM s X) 12) l1024 M.2.1 (auM s p d X) b _ (fun h1 v3 v4 v5 v6 v7 v8 v9 v10 a1 a2 => ?_) 0 (by omega) _ h _ _ _ _ _ _ _ rfl (fun i hi => by omega) (fun c _ => rfl)
  have es3 : h1.1 52 = s := (a2 52 (by decide)).trans es
  have M3 : MB h1 s p d X 12 := M.of (fun c hc => a2 c (by omega))
  refine g_bipush (pc := 54) o dX10_backTo_54 23 rfl ?_
  refine g_istore_n (pc := 56) o dX10_backTo_56 (by decide) ?_
  show ca_G Γ 11 _ _ [_, _, _, _, _, _, _, _, _, _, _] _
  exact lp_bt2 o ρ (h0 := h1) I p d X k5 b H hH es3 M3 (fun h2 b1 b2 => ⟨rfl, b1, fun c c1 c2 => (b2 c c1 c2).trans (a2 c c1)⟩) 0 (by omega) _ h1 _ _ _ _ _ _ _ rfl a1 (fun c _ _ => rfl)

