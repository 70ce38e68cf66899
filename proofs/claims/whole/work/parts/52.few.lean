/-! ===== the model: fewest, ways, bars ===== -/
abbrev moO (h0 h : Mem) : Prop := (∀ c, c ≠ 51 → c ≠ 56 → c ≠ 57 → c ≠ 58 → c ≠ 59 → c ≠ 60 → c ≠ 61 → h.1 c = h0.1 c) ∧ ∀ j, j ≠ 9 → j ≠ 10 → j ≠ 11 → h.1 51 j = h0.1 51 j
theorem moO.rf (h : Mem) : moO h h := ⟨fun _ _ _ _ _ _ _ _ => rfl, fun _ _ _ _ => rfl⟩
theorem moO.b {h0 h h2 : Mem} (H : moO h0 h) (b : mbO h h2) : moO h0 h2 := ⟨fun c x1 x2 x3 x4 x5 x6 x7 => (b.1 c x1 x2 x3 x4 x5).trans (H.1 c x1 x2 x3 x4 x5 x6 x7), fun j y1 y2 y3 => (b.2 j y1 y2 y3).trans (H.2 j y1 y2 y3)⟩
theorem moO.w {h0 h h2 : Mem} (H : moO h0 h) (b : ∀ c, c ≠ 60 → c ≠ 61 → h2.1 c = h.1 c) : moO h0 h2 := ⟨fun c x1 x2 x3 x4 x5 x6 x7 => (b c x6 x7).trans (H.1 c x1 x2 x3 x4 x5 x6 x7), fun j y1 y2 y3 => by rw [b 51 (by decide) (by decide)]; exact H.2 j y1 y2 y3⟩
theorem moO.kC {h0 h : Mem} (H : moO h0 h) : kC h0 h := fun k hk => H.1 k (by omega) (by omega) (by omega) (by omega) (by omega) (by omega) (by omega)
theorem moO.s {h0 h : Mem} (H : moO h0 h) : h.1 52 = h0.1 52 := H.1 52 (by decide) (by decide) (by decide) (by decide) (by decide) (by decide) (by decide)
theorem moO.abs {h0 h : Mem} (H : moO h0 h) : absM h = absM h0 := by
  have k : ∀ c, c = 52 ∨ c = 55 ∨ c = 53 ∨ c = 62 ∨ c = 66 ∨ c = 67 ∨ c = 68 ∨ c = 69 → h.1 c = h0.1 c := fun c hc => H.1 c (by omega) (by omega) (by omega) (by omega) (by omega) (by omega) (by omega)
  funext j
  unfold absM
  rw [k 52 (by decide), k 55 (by decide), k 53 (by decide), k 62 (by decide), k 66 (by decide), k 67 (by decide), k 68 (by decide), k 69 (by decide), H.2 4 (by decide) (by decide) (by decide), H.2 15 (by decide) (by decide) (by decide), H.2 20 (by decide) (by decide) (by decide)]
theorem m_backF {h : Mem} {s : Nat → Int32} (es : h.1 52 = s) (I : SI s) (p : Int32) (d : Nat) (X : Int32) (k5 : kbF X 12 ≤ 5) (M : MB h s p d X 12) (H : Nat) (hH : H < 24) : Ct yX10_backTo cX10_backTo 11 none 3 73 [.ref 51, .int (nI H), .int 0] h (Qv (fun h2 => (∀ c q, c < mlF (rxM s X) 12 → q < 8 → h2.1 60 (8 * c + q) = nI (cgF (auM s p d X) (23 - H) c q)) ∧ ∀ c, c ≠ 60 → c ≠ 61 → h2.1 c = h.1 c)) :=
  Ct.post (m_backTo es I p d X k5 M false H hH) (fun v h2 ⟨e, a, b⟩ => ⟨e, fun c q hc hq => by rw [a _ (by omega), (d8 c q hq).1, (d8 c q hq).2]; rfl, b⟩)
theorem m_backT {h : Mem} {s : Nat → Int32} (es : h.1 52 = s) (I : SI s) (p : Int32) (d : Nat) (X : Int32) (k5 : kbF X 12 ≤ 5) (M : MB h s p d X 12) (H : Nat) (hH : H < 24) : Ct yX10_backTo cX10_backTo 11 none 3 73 [.ref 51, .int (nI H), .int 1] h (Qv (fun h2 => (∀ c q, c < mlF (rxM s X) 12 → q < 8 → h2.1 60 (8 * c + q) = nI (capF (bwF (auM s p d X) (23 - H) c q))) ∧ ∀ c, c ≠ 60 → c ≠ 61 → h2.1 c = h.1 c)) :=
  Ct.post (m_backTo es I p d X k5 M true H hH) (fun v h2 ⟨e, a, b⟩ => ⟨e, fun c q hc hq => by rw [a _ (by omega), (d8 c q hq).1, (d8 c q hq).2]; rfl, b⟩)
theorem c0_lt (s : Nat → Int32) (X : Int32) : vlF (rxM s X) (akF s X) 12 < mlF (rxM s X) 12 := vlF_lt 12 (fun t _ => ak_M s X t)
theorem nxM_lt {s : Nat → Int32} {p : Int32} {d : Nat} {X : Int32} {c m q : Nat} (hc : c < mlF (rxM s X) 12) : (auM s p d X).nx c m q < mlF (rxM s X) 12 := by
  rw [(to_nx (p := p) (d := d) (m := m) (q := q) hc).1]
  omega
set_option maxRecDepth 100000 in
set_option maxHeartbeats 400000 in
theorem lp_few {Γ : Fr} (o : ca_O Γ cX10_fewest 5 RX10 4 103) {Pr : Option Value → Mem → Prop} (ρ : ca_R Γ (some .int) Pr) {h : Mem} {s : Nat → Int32} (es : h.1 52 = s) (I : SI s) (p : Int32) (d : Nat) (X : Int32) (k5 : kbF X 12 ≤ 5) (M : MB h s p d X 12) (e60 : ∀ c q, c < mlF (rxM s X) 12 → q < 8 → h.1 60 (8 * c + q) = nI (cgF (auM s p d X) 23 c q)) (hp : Pr (some (.int (nI (fewF s p d X)))) h) : ∀ i, i ≤ 8 → ∀ (xi y : Int32) (v4 : Option Value), xi = nI i → y = nI (mnF (fun q => if bt (lwF s p d X 0 12) q = true then cgF (auM s p d X) 23 ((auM s p d X).nx (auM s p d X).c0 0 q) q else 1000) i) → ca_G Γ 5 h 18 [some (.ref 51), some (.int y), some (.int (lwF s p d X 0 12)), some (.int xi), v4] [] := by
  have ha : ∀ t, t < 12 → askT s t < 4 := fun t ht => ask_lt I.tm ht
  have l1024 := ml_M5 (X := X) ha k5 (Nat.le_refl 12)
  refine downI 8 (fun i hi ih => ?_)
  rintro xi y v4 rfl rfl
  have mb := mnF_1000 (fun q => if bt (lwF s p d X 0 12) q = true then cgF (auM s p d X) 23 ((auM s p d X).nx (auM s p d X).c0 0 q) q else 1000) i
  refine g_iload_n (pc := 18) o dX10_fewest_18 rfl ?_
  refine g_bipush (pc := 19) o dX10_fewest_19 8 rfl ?_
  refine g_ic_ge (pc := 21) o 79 dX10_fewest_21 (by decide) (fun c21 => ?_) (fun c21 => ?_)
  · skip
    have z : i = 8 := ge8 (n := 8) (by decide) (by omega) c21
    subst z
    refine g_iload_n (pc := 79) o dX10_fewest_79 rfl ?_
    exact g_iret o ρ dX10_fewest_80 hp
  · skip
    have iq : i < 8 := lt8 (n := 8) (by decide) (by omega) c21
    have st58 : ∀ (v : Nat) (v4 : Option Value), v ≤ 1000 → v = (if bt (lwF s p d X 0 12) i = true then cgF (auM s p d X) 23 ((auM s p d X).nx (auM s p d X).c0 0 i) i else 1000) → ca_G Γ 5 h 58 [some (.ref 51), some (.int (nI (mnF (fun q => if bt (lwF s p d X 0 12) q = true then cgF (auM s p d X) 23 ((auM s p d X).nx (auM s p d X).c0 0 q) q else 1000) i))), some (.int (lwF s p d X 0 12)), some (.int (nI i)), v4] [.int (nI v)] := by
      intro v v4 vl ev
      refine g_istore (pc := 58) o dX10_fewest_58 (by decide) ?_
      show ca_G Γ 5 _ _ [_, _, _, _, _] _
      refine g_iload (pc := 60) o dX10_fewest_60 rfl ?_
      refine g_iload_n (pc := 62) o dX10_fewest_62 rfl ?_
      refine g_ic_ge (pc := 63) o 71 dX10_fewest_63 (by decide) (fun c63 => ?_) (fun c63 => ?_)
      · skip
        have w := (nI_leI (by omega) (by omega)).mp c63
        refine g_iload_n (pc := 71) o dX10_fewest_71 rfl ?_
        refine g_istore_n (pc := 72) o dX10_fewest_72 (by decide) ?_
        show ca_G Γ 5 _ _ [_, _, _, _, _] _
        refine g_iinc (pc := 73) o dX10_fewest_73 rfl 1 rfl (by decide) ?_
        show ca_G Γ 5 _ _ [_, _, _, _, _] _
        refine g_goto (pc := 76) o 18 dX10_fewest_76 (by decide) ?_
        exact ih iq _ _ _ (nI_1 i) (by rw [mnF_s, ← ev, if_neg (Nat.not_lt.mpr w)])
      · skip
        have w := Nat.lt_of_not_le (fun y => c63 ((nI_leI (by omega) (by omega)).mpr y))
        refine g_iload (pc := 66) o dX10_fewest_66 rfl ?_
        refine g_goto (pc := 68) o 72 dX10_fewest_68 (by decide) ?_
        refine g_istore_n (pc := 72) o dX10_fewest_72 (by decide) ?_
        show ca_G Γ 5 _ _ [_, _, _, _, _] _
        refine g_iinc (pc := 73) o dX10_fewest_73 rfl 1 rfl (by decide) ?_
        show ca_G Γ 5 _ _ [_, _, _, _, _] _
        refine g_goto (pc := 76) o 18 dX10_fewest_76 (by decide) ?_
        exact ih iq _ _ _ (nI_1 i) (by rw [mnF_s, ← ev, if_pos w])
    refine g_iload_n (pc := 24) o dX10_fewest_24 rfl ?_
    refine g_iload_n (pc := 25) o dX10_fewest_25 rfl ?_
    refine g_callSi (pc := 26) o (m_has (lwF s p d X 0 12) i (by omega) h) mt_X10_has ms_X10_has lk_X10_90 rfl (by decide) rfl (Nat.le_of_ble_eq_true rfl) dX10_fewest_26 ?_
    refine g_if_eq (pc := 29) o 55 dX10_fewest_29 (by decide) (fun c29 => ?_) (fun c29 => ?_)
    · skip
      have z := bI_0.mp c29
      refine g_sipush (pc := 55) o dX10_fewest_55 1000 rfl ?_
      exact st58 1000 _ (Nat.le_refl _) (by rw [if_neg z])
    · skip
      have z := bI_n0.mp c29
      have nl := nxM_lt (p := p) (d := d) (m := 0) (q := i) (c0_lt s X)
      refine g_aload_n (pc := 32) o dX10_fewest_32 rfl ?_
      refine g_getR (pc := 33) o 12 rfl rfl rfl inX10 (by decide) lf_X10_34 dX10_fewest_33 ?_
      refine g_bipush (pc := 36) o dX10_fewest_36 8 rfl ?_
      refine g_aload_n (pc := 38) o dX10_fewest_38 rfl ?_
      refine g_aload_n (pc := 39) o dX10_fewest_39 rfl ?_
      refine g_getIE (pc := 40) o 11 rfl rfl rfl inX10 (by decide) lf_X10_182 (M.2.2.1) dX10_fewest_40 ?_
      refine g_iconst (pc := 43) o dX10_fewest_43 0 rfl ?_
      refine g_iload_n (pc := 44) o dX10_fewest_44 rfl ?_
      refine g_callVi (pc := 45) o (m_after es I p d X k5 M (vlF (rxM s X) (akF s X) 12) 0 i (by omega) iq (c0_lt s X)) mt_X10_after mv_X10_after lk_X10_188 rfl rfl rfl (by decide) rfl (Nat.le_of_ble_eq_true rfl) dX10_fewest_45 ?_
      refine g_imul (pc := 48) o dX10_fewest_48 ?_
      refine g_iload_n (pc := 49) o dX10_fewest_49 rfl ?_
      refine g_iadd (pc := 50) o dX10_fewest_50 ?_
      rw [show (8 : Int32) * nI ((auM s p d X).nx (vlF (rxM s X) (akF s X) 12) 0 i) + nI i = nI (8 * (auM s p d X).nx (vlF (rxM s X) (akF s X) 12) 0 i + i) from ix2 _ 8 i]
      refine n_ialdE (pc := 51) o (8 * (auM s p d X).nx (vlF (rxM s X) (akF s X) 12) 0 i + i) (rfl) rfl ((by omega)) (by decide) (e60 _ i nl iq) dX10_fewest_51 ?_
      refine g_goto (pc := 52) o 58 dX10_fewest_52 (by decide) ?_
      exact st58 _ _ (cg_1000 _ _ _ _) (by rw [if_pos z]; rfl)
set_option maxRecDepth 100000 in
set_option maxHeartbeats 400000 in
theorem m_fewest {h : Mem} {s : Nat → Int32} (es : h.1 52 = s) (I : SI s) (p : Int32) (d : Nat) (X : Int32) (k5 : kbF X 12 ≤ 5) (M : MB h s p d X 12) : Ct yX10_fewest cX10_fewest 5 (some .int) 4 103 [.ref 51] h (Qi (fun r h2 => r = nI (fewF s p d X) ∧ ∀ c, c ≠ 60 → c ≠ 61 → h2.1 c = h.1 c)) := by
  refine Ct.of (by decide) (Nat.le_of_ble_eq_true rfl) (fun Γ o ρ => ?_)
  show ca_G Γ 5 _ _ [_, _, _, _, _] _
  refine g_aload_n (pc := 0) o dX10_fewest_0 rfl ?_
  refine g_iconst (pc := 1) o dX10_fewest_1 0 rfl ?_
  refine g_iconst (pc := 2) o dX10_fewest_2 0 rfl ?_
  refine g_callVQv (pc := 3) o (m_backF es I p d X k5 M 0 (by omega)) mt_X10_backTo mv_X10_backTo lk_X10_192 rfl rfl rfl (by decide) rfl (Nat.le_of_ble_eq_true rfl) dX10_fewest_3 ?_
  rintro h1 w
  obtain ⟨w1, w2⟩ := w
  have es1 : h1.1 52 = s := (w2 52 (by decide) (by decide)).trans es
  have M1 : MB h1 s p d X 12 := M.of (fun c hc => w2 c (by omega) (by omega))
  refine g_sipush (pc := 6) o dX10_fewest_6 1000 rfl ?_
  refine g_istore_n (pc := 9) o dX10_fewest_9 (by decide) ?_
  show ca_G Γ 5 _ _ [_, _, _, _, _] _
  refine g_aload_n (pc := 10) o dX10_fewest_10 rfl ?_
  refine g_iconst (pc := 11) o dX10_fewest_11 0 rfl ?_
  refine g_callVi (pc := 12) o (m_lawful es1 I p d X k5 M1 0 (by omega)) mt_X10_lawful mv_X10_lawful lk_X10_185 rfl rfl rfl (by decide) rfl (Nat.le_of_ble_eq_true rfl) dX10_fewest_12 ?_
  refine g_istore_n (pc := 15) o dX10_fewest_15 (by decide) ?_
  show ca_G Γ 5 _ _ [_, _, _, _, _] _
  refine g_iconst (pc := 16) o dX10_fewest_16 0 rfl ?_
  refine g_istore_n (pc := 17) o dX10_fewest_17 (by decide) ?_
  show ca_G Γ 5 _ _ [_, _, _, _, _] _
  exact lp_few o ρ es1 I p d X k5 M1 w1 ⟨_, rfl, rfl, w2⟩ 0 (by omega) _ _ _ rfl rfl
theorem few_1000 (s : Nat → Int32) (p : Int32) (d : Nat) (X : Int32) : fewF s p d X ≤ 1000 := mnF_1000 _ 8
theorem bnd_all {s : Nat → Int32} (ok : okT s) (p : Int32) (d : Nat) : bndX s p d (-1) (bX s p d) := ⟨fun t ht => ⟨fun z => ⟨z, nI_ne_m1 (by have := ok.1; omega)⟩, fun z => z.1⟩, fun t h1 h2 z => by have := bnd_lt h2 _ ok.1 z; omega⟩
theorem bnd_less {s : Nat → Int32} (ok : okT s) (p : Int32) (d : Nat) {t : Nat} (ht : t < 12) : bndX s p d (nI t) (lessX (bX s p d) t) := by
  have l12 := ok.1
  refine ⟨fun u hu => ?_, fun u h1 h2 z => ?_⟩
  · rw [b_and, b_xor, bt_sh (by omega) (by omega), b_m1 u (by omega), Bool.and_eq_true, nI_eq (by omega) (by omega)]
    by_cases w : u = t
    · simp [w]
    · simp [w]
  · rw [b_and, Bool.and_eq_true] at z
    have := bnd_lt h2 _ ok.1 z.1
    omega
theorem cap_l {x : Nat} (h : x ≤ 1000000) : capF x = x := by unfold capF; omega
theorem cap_g {x : Nat} (h : ¬ x ≤ 1000000) : capF x = 1000000 := by unfold capF; omega
set_option maxRecDepth 100000 in
set_option maxHeartbeats 400000 in
theorem lp_mways {Γ : Fr} (o : ca_O Γ cX10_ways 6 RX10 4 103) {Pr : Option Value → Mem → Prop} (ρ : ca_R Γ (some .int) Pr) {h : Mem} {s : Nat → Int32} (es : h.1 52 = s) (I : SI s) (p : Int32) (d : Nat) (x2 X : Int32) (k5 : kbF X 12 ≤ 5) (M : MB h s p d X 12) (e60 : ∀ c q, c < mlF (rxM s X) 12 → q < 8 → h.1 60 (8 * c + q) = nI (capF (bwF (auM s p d X) 23 c q))) (hp : Pr (some (.int (nI (waysF s p d X)))) h) : ∀ i, i ≤ 8 → ∀ (xi y : Int32), xi = nI i → y = nI (smF (fun q => capF (if bt ((auM s p d X).lw 0) q = true then bwF (auM s p d X) 23 ((auM s p d X).nx (auM s p d X).c0 0 q) q else 0)) i) → ca_G Γ 6 h 46 [some (.ref 51), some (.int p), some (.int x2), some (.int y), some (.int (lwF s p d X 0 12)), some (.int xi)] [] := by
  have ha : ∀ t, t < 12 → askT s t < 4 := fun t ht => ask_lt I.tm ht
  have l1024 := ml_M5 (X := X) ha k5 (Nat.le_refl 12)
  refine downI 8 (fun i hi ih => ?_)
  rintro xi y rfl rfl
  have sb : smF (fun q => capF (if bt ((auM s p d X).lw 0) q = true then bwF (auM s p d X) 23 ((auM s p d X).nx (auM s p d X).c0 0 q) q else 0)) i ≤ i * 1000000 := sm_le i (fun r _ => cap_le _)
  refine g_iload (pc := 46) o dX10_ways_46 rfl ?_
  refine g_bipush (pc := 48) o dX10_ways_48 8 rfl ?_
  refine g_ic_ge (pc := 50) o 98 dX10_ways_50 (by decide) (fun c50 => ?_) (fun c50 => ?_)
  · skip
    have z : i = 8 := ge8 (n := 8) (by decide) (by omega) c50
    subst z
    have cs := cap_sm (fun q => if bt ((auM s p d X).lw 0) q = true then bwF (auM s p d X) 23 ((auM s p d X).nx (auM s p d X).c0 0 q) q else 0) 8
    unfold waysF at hp
    rw [← cs] at hp
    refine g_iload_n (pc := 98) o dX10_ways_98 rfl ?_
    refine g_ldc (pc := 99) o dX10_ways_99 lc_X10_191 ?_
    refine g_ic_le (pc := 101) o 109 dX10_ways_101 (by decide) (fun c101 => ?_) (fun c101 => ?_)
    · skip
      have w := (nI_leI (b := 1000000) (by omega) (by decide)).mp c101
      refine g_iload_n (pc := 109) o dX10_ways_109 rfl ?_
      exact g_iret o ρ dX10_ways_110 (by rw [cap_l w] at hp; exact hp)
    · skip
      have w := mt (nI_leI (b := 1000000) (by omega) (by decide)).mpr c101
      refine g_ldc (pc := 104) o dX10_ways_104 lc_X10_191 ?_
      refine g_goto (pc := 106) o 110 dX10_ways_106 (by decide) ?_
      exact g_iret o ρ dX10_ways_110 (by rw [cap_g w] at hp; exact hp)
  · skip
    have iq : i < 8 := lt8 (n := 8) (by decide) (by omega) c50
    refine g_iload_n (pc := 53) o dX10_ways_53 rfl ?_
    refine g_iload (pc := 54) o dX10_ways_54 rfl ?_
    refine g_iload (pc := 56) o dX10_ways_56 rfl ?_
    refine g_callSi (pc := 58) o (m_has (lwF s p d X 0 12) i (by omega) h) mt_X10_has ms_X10_has lk_X10_90 rfl (by decide) rfl (Nat.le_of_ble_eq_true rfl) dX10_ways_58 ?_
    refine g_if_eq (pc := 61) o 89 dX10_ways_61 (by decide) (fun c61 => ?_) (fun c61 => ?_)
    · skip
      have z := bI_0.mp c61
      refine g_iconst (pc := 89) o dX10_ways_89 0 rfl ?_
      refine g_iadd (pc := 90) o dX10_ways_90 ?_
      refine g_istore_n (pc := 91) o dX10_ways_91 (by decide) ?_
      show ca_G Γ 6 _ _ [_, _, _, _, _, _] _
      refine g_iinc (pc := 92) o dX10_ways_92 rfl 1 rfl (by decide) ?_
      show ca_G Γ 6 _ _ [_, _, _, _, _, _] _
      refine g_goto (pc := 95) o 46 dX10_ways_95 (by decide) ?_
      exact ih iq _ _ (nI_1 i) (by rw [smF_s, if_neg (show ¬ bt ((auM s p d X).lw 0) i = true from z), cap_0]; exact (Int32.add_zero _))
    · skip
      have z := bI_n0.mp c61
      have nl := nxM_lt (p := p) (d := d) (m := 0) (q := i) (c0_lt s X)
      refine g_aload_n (pc := 64) o dX10_ways_64 rfl ?_
      refine g_getR (pc := 65) o 12 rfl rfl rfl inX10 (by decide) lf_X10_34 dX10_ways_65 ?_
      refine g_bipush (pc := 68) o dX10_ways_68 8 rfl ?_
      refine g_aload_n (pc := 70) o dX10_ways_70 rfl ?_
      refine g_aload_n (pc := 71) o dX10_ways_71 rfl ?_
      refine g_getIE (pc := 72) o 11 rfl rfl rfl inX10 (by decide) lf_X10_182 (M.2.2.1) dX10_ways_72 ?_
      refine g_iconst (pc := 75) o dX10_ways_75 0 rfl ?_
      refine g_iload (pc := 76) o dX10_ways_76 rfl ?_
      refine g_callVi (pc := 78) o (m_after es I p d X k5 M (vlF (rxM s X) (akF s X) 12) 0 i (by omega) iq (c0_lt s X)) mt_X10_after mv_X10_after lk_X10_188 rfl rfl rfl (by decide) rfl (Nat.le_of_ble_eq_true rfl) dX10_ways_78 ?_
      refine g_imul (pc := 81) o dX10_ways_81 ?_
      refine g_iload (pc := 82) o dX10_ways_82 rfl ?_
      refine g_iadd (pc := 84) o dX10_ways_84 ?_
      rw [show (8 : Int32) * nI ((auM s p d X).nx (vlF (rxM s X) (akF s X) 12) 0 i) + nI i = nI (8 * (auM s p d X).nx (vlF (rxM s X) (akF s X) 12) 0 i + i) from ix2 _ 8 i]
      refine n_ialdE (pc := 85) o (8 * (auM s p d X).nx (vlF (rxM s X) (akF s X) 12) 0 i + i) (rfl) rfl ((by omega)) (by decide) (e60 _ i nl iq) dX10_ways_85 ?_
      refine g_goto (pc := 86) o 90 dX10_ways_86 (by decide) ?_
      refine g_iadd (pc := 90) o dX10_ways_90 ?_
      refine g_istore_n (pc := 91) o dX10_ways_91 (by decide) ?_
      show ca_G Γ 6 _ _ [_, _, _, _, _, _] _
      refine g_iinc (pc := 92) o dX10_ways_92 rfl 1 rfl (by decide) ?_
      show ca_G Γ 6 _ _ [_, _, _, _, _, _] _
      refine g_goto (pc := 95) o 46 dX10_ways_95 (by decide) ?_
      exact ih iq _ _ (nI_1 i) (by rw [smF_s, if_pos (show bt ((auM s p d X).lw 0) i = true from z)]; exact nI_add _ _)
set_option maxRecDepth 100000 in
set_option maxHeartbeats 400000 in
theorem mo_ways {h : Mem} (I : Iv (absM h)) (a b : Int32) : Ct yX10_ways cX10_ways 6 (some .int) 4 103 [.ref 51, .int a, .int b] h (Pm h (op_ways a b (absM h))) := by
  refine Ct.of (by decide) (Nat.le_of_ble_eq_true rfl) (fun Γ o ρ => ?_)
  show ca_G Γ 6 _ _ [_, _, _, _, _, _] _
  refine g_iload_n (pc := 0) o dX10_ways_0 rfl ?_
  refine g_callSi (pc := 1) o (m_isPerson a h) mt_X10_isPerson ms_X10_isPerson lk_X10_98 rfl (by decide) rfl (Nat.le_of_ble_eq_true rfl) dX10_ways_1 ?_
  refine g_if_eq (pc := 4) o 14 dX10_ways_4 (by decide) (fun c4 => ?_) (fun c4 => ?_)
  · skip
    refine g_aload_n (pc := 14) o dX10_ways_14 rfl ?_
    refine g_ldc (pc := 15) o dX10_ways_15 lc_X10_68 ?_
    refine g_callVi (pc := 17) o (m_finds 0 (by decide) h) mt_X10_finds mv_X10_finds lk_X10_86 rfl rfl rfl (by decide) rfl (Nat.le_of_ble_eq_true rfl) dX10_ways_17 ?_
    exact g_iret o ρ dX10_ways_20 (Pm.eq (if_neg (fun z => bI_0.mp c4 z.1)) (Pm_fnd rfl (kC.rf h) (by decide)))
  · skip
    refine g_iload_n (pc := 7) o dX10_ways_7 rfl ?_
    refine g_callSi (pc := 8) o (m_isDay b h) mt_X10_isDay ms_X10_isDay lk_X10_122 rfl (by decide) rfl (Nat.le_of_ble_eq_true rfl) dX10_ways_8 ?_
    refine g_if_ne (pc := 11) o 21 dX10_ways_11 (by decide) (fun c11 => ?_) (fun c11 => ?_)
    · skip
      have k1 := bI_n0.mp c4
      have k2 := bI_n0.mp c11
      have eq : op_ways a b (absM h) = (nI (waysF (h.1 52) a (ca_n b) (bX (h.1 52) a (ca_n b))), absM h) := if_pos ⟨k1, k2⟩
      rw [eq] at ρ
      obtain ⟨j, hj, rfl, ej⟩ := n_of (x := a) (b := 5) k1 (by decide)
      obtain ⟨d, hd, rfl, ed⟩ := n_of (x := b) (b := 29) k2 (by decide)
      rw [ed] at ρ
      have IS : SI (h.1 52) := I.1
      have k5 := kb_five IS (show j < 6 by omega) (sub_self (h.1 52) (nI j) d)
      have cb := m_binds (h := h) rfl IS (nI j) d (by omega) (-1) (bX (h.1 52) (nI j) d) k5 (bnd_all IS.terms (nI j) d)
      refine g_aload_n (pc := 21) o dX10_ways_21 rfl ?_
      refine g_iload_n (pc := 22) o dX10_ways_22 rfl ?_
      refine g_iload_n (pc := 23) o dX10_ways_23 rfl ?_
      refine g_iconst (pc := 24) o dX10_ways_24 (-1) rfl ?_
      refine g_callVQv (pc := 25) o (cb) mt_X10_binds mv_X10_binds lk_X10_196 rfl rfl rfl (by decide) rfl (Nat.le_of_ble_eq_true rfl) dX10_ways_25 ?_
      rintro h1 w
      obtain ⟨M1, O1⟩ := w
      have es1 : h1.1 52 = h.1 52 := O1.1 52 (by decide) (by decide) (by decide) (by decide) (by decide)
      have ct := m_backT es1 IS (nI j) d (bX (h.1 52) (nI j) d) k5 M1 0 (by omega)
      refine g_aload_n (pc := 28) o dX10_ways_28 rfl ?_
      refine g_iconst (pc := 29) o dX10_ways_29 0 rfl ?_
      refine g_iconst (pc := 30) o dX10_ways_30 1 rfl ?_
      refine g_callVQv (pc := 31) o (ct) mt_X10_backTo mv_X10_backTo lk_X10_192 rfl rfl rfl (by decide) rfl (Nat.le_of_ble_eq_true rfl) dX10_ways_31 ?_
      rintro h2 v
      obtain ⟨v1, v2⟩ := v
      have es2 : h2.1 52 = h.1 52 := (v2 52 (by decide) (by decide)).trans es1
      have M2 : MB h2 (h.1 52) (nI j) d (bX (h.1 52) (nI j) d) 12 := M1.of (fun c hc => v2 c (by omega) (by omega))
      have O2 : moO h h2 := ((moO.rf h).b O1).w v2
      refine g_iconst (pc := 34) o dX10_ways_34 0 rfl ?_
      refine g_istore_n (pc := 35) o dX10_ways_35 (by decide) ?_
      show ca_G Γ 6 _ _ [_, _, _, _, _, _] _
      refine g_aload_n (pc := 36) o dX10_ways_36 rfl ?_
      refine g_iconst (pc := 37) o dX10_ways_37 0 rfl ?_
      refine g_callVi (pc := 38) o (m_lawful es2 IS (nI j) d (bX (h.1 52) (nI j) d) k5 M2 0 (by omega)) mt_X10_lawful mv_X10_lawful lk_X10_185 rfl rfl rfl (by decide) rfl (Nat.le_of_ble_eq_true rfl) dX10_ways_38 ?_
      refine g_istore (pc := 41) o dX10_ways_41 (by decide) ?_
      show ca_G Γ 6 _ _ [_, _, _, _, _, _] _
      refine g_iconst (pc := 43) o dX10_ways_43 0 rfl ?_
      refine g_istore (pc := 44) o dX10_ways_44 (by decide) ?_
      show ca_G Γ 6 _ _ [_, _, _, _, _, _] _
      exact lp_mways o ρ es2 IS (nI j) d _ (bX (h.1 52) (nI j) d) k5 M2 v1 (Pm.mk rfl O2.abs O2.kC) 0 (by omega) _ _ rfl rfl
    · skip
      refine g_aload_n (pc := 14) o dX10_ways_14 rfl ?_
      refine g_ldc (pc := 15) o dX10_ways_15 lc_X10_68 ?_
      refine g_callVi (pc := 17) o (m_finds 0 (by decide) h) mt_X10_finds mv_X10_finds lk_X10_86 rfl rfl rfl (by decide) rfl (Nat.le_of_ble_eq_true rfl) dX10_ways_17 ?_
      exact g_iret o ρ dX10_ways_20 (Pm.eq (if_neg (fun z => bI_0.mp c11 z.2)) (Pm_fnd rfl (kC.rf h) (by decide)))
theorem fn_ext {f : Nat → Bool} {n m : Nat} : ∀ k i, i + k = m → (∀ t, n ≤ t → t < m → ¬ f t = true) → i ≤ n → n ≤ m → fnF f (n - i) i = fnF f k i
  | 0, i, e, h, h1, h2 => by rw [show n - i = 0 by omega]
  | k + 1, i, e, h, h1, h2 => by
    by_cases w : i = n
    · subst w
      rw [Nat.sub_self, fnF_s, if_neg (h i (Nat.le_refl i) (by omega))]
      have := fn_ext (n := i + 1) k (i + 1) (by omega) (fun t a b => h t (by omega) b) (Nat.le_refl _) (by omega)
      rw [← this, Nat.sub_self]
      rfl
    · rw [show n - i = (n - (i + 1)) + 1 by omega, fnF_s, fnF_s, fn_ext k (i + 1) (by omega) h (by omega) h2]
set_option maxRecDepth 100000 in
set_option maxHeartbeats 800000 in
theorem lp_mbars {Γ : Fr} (o : ca_O Γ cX10_bars 6 RX10 5 127) {h0 : Mem} (I : SI (h0.1 52)) (j d : Nat) (hj : j < 6) (hd : d < 30) (kk : ∀ (h : Mem) (y : Int32) (v5 : Option Value), moO h0 h → y = ogV (fnF (brb (h0.1 52) (nI j) d (bX (h0.1 52) (nI j) d)) (nT (h0.1 52)) 0) → ca_G Γ 6 h 106 [some (.ref 51), some (.int (nI j)), some (.int (nI d)), some (.int y), some (.int (bX (h0.1 52) (nI j) d)), v5] []) : ∀ n, n ≤ nT (h0.1 52) → ∀ (xn y : Int32) (h : Mem), xn = nI n - 1 → y = ogV (fnF (brb (h0.1 52) (nI j) d (bX (h0.1 52) (nI j) d)) (nT (h0.1 52) - n) n) → moO h0 h → ca_G Γ 6 h 60 [some (.ref 51), some (.int (nI j)), some (.int (nI d)), some (.int y), some (.int (bX (h0.1 52) (nI j) d)), some (.int xn)] [] := by
  have ok : okT (h0.1 52) := I.terms
  have l12 := ok.1
  intro n
  induction n with
  | zero =>
    rintro _ xn y h rfl ey O
    refine g_iload (pc := 60) o dX10_bars_60 rfl ?_
    refine g_if_lt (pc := 62) o 106 dX10_bars_62 (by decide) (fun c62 => ?_) (fun c62 => ?_)
    · skip
      exact kk h y _ O ey
    · skip
      exact absurd (by decide) c62
  | succ n ih =>
    rintro hn xn y h rfl ey O
    rw [nI_pred]
    have es : h.1 52 = h0.1 52 := O.s
    have fs : fnF (brb (h0.1 52) (nI j) d (bX (h0.1 52) (nI j) d)) (nT (h0.1 52) - n) n = if brb (h0.1 52) (nI j) d (bX (h0.1 52) (nI j) d) n = true then some n else fnF (brb (h0.1 52) (nI j) d (bX (h0.1 52) (nI j) d)) (nT (h0.1 52) - (n + 1)) (n + 1) := by
      rw [show nT (h0.1 52) - n = (nT (h0.1 52) - (n + 1)) + 1 by omega, fnF_s]
    refine g_iload (pc := 60) o dX10_bars_60 rfl ?_
    refine g_if_lt (pc := 62) o 106 dX10_bars_62 (by decide) (fun c62 => ?_) (fun c62 => ?_)
    · skip
      exact absurd c62 (nI_pos (by omega))
    · skip
      refine g_iload (pc := 65) o dX10_bars_65 rfl ?_
      refine g_iload (pc := 67) o dX10_bars_67 rfl ?_
      refine g_callSi (pc := 69) o (m_has (bX (h0.1 52) (nI j) d) n (by omega) h) mt_X10_has ms_X10_has lk_X10_90 rfl (by decide) rfl (Nat.le_of_ble_eq_true rfl) dX10_bars_69 ?_
      refine g_if_eq (pc := 72) o 100 dX10_bars_72 (by decide) (fun c72 => ?_) (fun c72 => ?_)
      · skip
        have z := bI_0.mp c72
        rw [if_neg (fun u => z (by unfold brb at u; rw [Bool.and_eq_true] at u; exact u.1))] at fs
        refine g_iinc (pc := 100) o dX10_bars_100 rfl (-1) rfl (by decide) ?_
        show ca_G Γ 6 _ _ [_, _, _, _, _, _] _
        refine g_goto (pc := 103) o 60 dX10_bars_103 (by decide) ?_
        exact ih (by omega) _ y h (Int32.sub_eq_add_neg _ _).symm (by rw [fs]; exact ey) O
      · skip
        have z := bI_n0.mp c72
        have k5 := kb_five I hj (sub_and (sub_self (h0.1 52) (nI j) d) (jshl 1 (nI n) ^^^ -1))
        have cb := m_binds (h := h) es I (nI j) d hd (nI n) (lessX (bX (h0.1 52) (nI j) d) n) k5 (bnd_less ok (nI j) d (by omega))
        refine g_aload_n (pc := 75) o dX10_bars_75 rfl ?_
        refine g_iload_n (pc := 76) o dX10_bars_76 rfl ?_
        refine g_iload_n (pc := 77) o dX10_bars_77 rfl ?_
        refine g_iload (pc := 78) o dX10_bars_78 rfl ?_
        refine g_callVQv (pc := 80) o (cb) mt_X10_binds mv_X10_binds lk_X10_196 rfl rfl rfl (by decide) rfl (Nat.le_of_ble_eq_true rfl) dX10_bars_80 ?_
        rintro h1 w
        obtain ⟨M1, O1⟩ := w
        have O2 : moO h0 h1 := O.b O1
        have cf := m_fewest (h := h1) O2.s I (nI j) d (lessX (bX (h0.1 52) (nI j) d) n) k5 M1
        refine g_aload_n (pc := 83) o dX10_bars_83 rfl ?_
        refine g_callVQi (pc := 84) o (cf) mt_X10_fewest mv_X10_fewest lk_X10_200 rfl rfl rfl (by decide) rfl (Nat.le_of_ble_eq_true rfl) dX10_bars_84 ?_
        rintro r h2 v
        obtain ⟨er, v⟩ := v
        rw [er]
        have O3 : moO h0 h2 := O2.w v
        have fl := few_1000 (h0.1 52) (nI j) d (lessX (bX (h0.1 52) (nI j) d) n)
        refine g_sipush (pc := 87) o dX10_bars_87 1000 rfl ?_
        refine g_ic_ge (pc := 90) o 98 dX10_bars_90 (by decide) (fun c90 => ?_) (fun c90 => ?_)
        · skip
          have u := (nI_leI (a := 1000) (by decide) (by omega)).mp c90
          rw [if_neg (fun v => by unfold brb at v; rw [Bool.and_eq_true, decide_eq_true_eq] at v; have := v.2; omega)] at fs
          refine g_iload_n (pc := 98) o dX10_bars_98 rfl ?_
          refine g_istore_n (pc := 99) o dX10_bars_99 (by decide) ?_
          show ca_G Γ 6 _ _ [_, _, _, _, _, _] _
          refine g_iinc (pc := 100) o dX10_bars_100 rfl (-1) rfl (by decide) ?_
          show ca_G Γ 6 _ _ [_, _, _, _, _, _] _
          refine g_goto (pc := 103) o 60 dX10_bars_103 (by decide) ?_
          exact ih (by omega) _ y h2 (Int32.sub_eq_add_neg _ _).symm (by rw [fs]; exact ey) O3
        · skip
          have u := mt (nI_leI (a := 1000) (b := fewF (h0.1 52) (nI j) d (lessX (bX (h0.1 52) (nI j) d) n)) (by decide) (by omega)).mpr c90
          rw [if_pos (show brb (h0.1 52) (nI j) d (bX (h0.1 52) (nI j) d) n = true by unfold brb; rw [Bool.and_eq_true, decide_eq_true_eq]; exact ⟨z, by omega⟩)] at fs
          refine g_iload (pc := 93) o dX10_bars_93 rfl ?_
          refine g_goto (pc := 95) o 99 dX10_bars_95 (by decide) ?_
          refine g_istore_n (pc := 99) o dX10_bars_99 (by decide) ?_
          show ca_G Γ 6 _ _ [_, _, _, _, _, _] _
          refine g_iinc (pc := 100) o dX10_bars_100 rfl (-1) rfl (by decide) ?_
          show ca_G Γ 6 _ _ [_, _, _, _, _, _] _
          refine g_goto (pc := 103) o 60 dX10_bars_103 (by decide) ?_
          exact ih (by omega) _ _ h2 (Int32.sub_eq_add_neg _ _).symm (by rw [fs]; rfl) O3
set_option maxRecDepth 100000 in
set_option maxHeartbeats 400000 in
theorem mo_bars {h : Mem} (I : Iv (absM h)) (a b : Int32) : Ct yX10_bars cX10_bars 6 (some .int) 5 127 [.ref 51, .int a, .int b] h (Pm h (op_bars a b (absM h))) := by
  refine Ct.of (by decide) (Nat.le_of_ble_eq_true rfl) (fun Γ o ρ => ?_)
  show ca_G Γ 6 _ _ [_, _, _, _, _, _] _
  refine g_iload_n (pc := 0) o dX10_bars_0 rfl ?_
  refine g_callSi (pc := 1) o (m_isPerson a h) mt_X10_isPerson ms_X10_isPerson lk_X10_98 rfl (by decide) rfl (Nat.le_of_ble_eq_true rfl) dX10_bars_1 ?_
  refine g_if_eq (pc := 4) o 14 dX10_bars_4 (by decide) (fun c4 => ?_) (fun c4 => ?_)
  · skip
    refine g_aload_n (pc := 14) o dX10_bars_14 rfl ?_
    refine g_ldc (pc := 15) o dX10_bars_15 lc_X10_68 ?_
    refine g_callVi (pc := 17) o (m_finds 0 (by decide) h) mt_X10_finds mv_X10_finds lk_X10_86 rfl rfl rfl (by decide) rfl (Nat.le_of_ble_eq_true rfl) dX10_bars_17 ?_
    exact g_iret o ρ dX10_bars_20 (Pm.eq (if_neg (fun z => bI_0.mp c4 z.1)) (Pm_fnd rfl (kC.rf h) (by decide)))
  · skip
    refine g_iload_n (pc := 7) o dX10_bars_7 rfl ?_
    refine g_callSi (pc := 8) o (m_isDay b h) mt_X10_isDay ms_X10_isDay lk_X10_122 rfl (by decide) rfl (Nat.le_of_ble_eq_true rfl) dX10_bars_8 ?_
    refine g_if_ne (pc := 11) o 21 dX10_bars_11 (by decide) (fun c11 => ?_) (fun c11 => ?_)
    · skip
      have k1 := bI_n0.mp c4
      have k2 := bI_n0.mp c11
      have eq : op_bars a b (absM h) = stV (barsF (h.1 52) a (ca_n b) (bX (h.1 52) a (ca_n b))) (absM h) := if_pos ⟨k1, k2⟩
      rw [eq] at ρ
      obtain ⟨j, hj, rfl, ej⟩ := n_of (x := a) (b := 5) k1 (by decide)
      obtain ⟨d, hd, rfl, ed⟩ := n_of (x := b) (b := 29) k2 (by decide)
      rw [ed] at ρ
      have IS : SI (h.1 52) := I.1
      have ok : okT (h.1 52) := IS.terms
      have l12 := ok.1
      have k5 := kb_five IS (show j < 6 by omega) (sub_self (h.1 52) (nI j) d)
      have cb := m_binds (h := h) rfl IS (nI j) d (by omega) (-1) (bX (h.1 52) (nI j) d) k5 (bnd_all IS.terms (nI j) d)
      have fin : ∀ (h1 : Mem) (y : Int32) (v4 v5 : Option Value), moO h h1 → y = ogV (barsF (h.1 52) (nI j) d (bX (h.1 52) (nI j) d)) → ca_G Γ 6 h1 106 [some (.ref 51), some (.int (nI j)), some (.int (nI d)), some (.int y), v4, v5] [] := by
        intro h1 y v4 v5 O ey
        rw [ey]
        clear ey
        cases e : barsF (h.1 52) (nI j) d (bX (h.1 52) (nI j) d) with
        | none =>
          rw [e] at ρ
          refine g_iload_n (pc := 106) o dX10_bars_106 rfl ?_
          refine g_if_ge (pc := 107) o 119 dX10_bars_107 (by decide) (fun c107 => ?_) (fun c107 => ?_)
          · skip
            exact absurd c107 (by decide)
          · skip
            refine g_aload_n (pc := 110) o dX10_bars_110 rfl ?_
            refine g_ldc (pc := 111) o dX10_bars_111 lc_X10_97 ?_
            refine g_callVi (pc := 113) o (m_finds 3 (by decide) h1) mt_X10_finds mv_X10_finds lk_X10_86 rfl rfl rfl (by decide) rfl (Nat.le_of_ble_eq_true rfl) dX10_bars_113 ?_
            refine g_goto (pc := 116) o 120 dX10_bars_116 (by decide) ?_
            exact g_iret o ρ dX10_bars_120 (Pm_fnd O.abs O.kC (by decide))
        | some t =>
          have tl : t < 12 := by
            unfold barsF at e
            by_cases w : fewF (h.1 52) (nI j) d (bX (h.1 52) (nI j) d) < 1000
            · rw [if_pos w] at e; cases e
            · rw [if_neg w] at e
              have := (fn_lt _ _ e).2.1
              omega
          rw [e] at ρ
          refine g_iload_n (pc := 106) o dX10_bars_106 rfl ?_
          refine g_if_ge (pc := 107) o 119 dX10_bars_107 (by decide) (fun c107 => ?_) (fun c107 => ?_)
          · skip
            refine g_iload_n (pc := 119) o dX10_bars_119 rfl ?_
            exact g_iret o ρ dX10_bars_120 (Pm.mk rfl O.abs O.kC)
          · skip
            exact absurd (nI_pos' (by omega)) c107
      refine g_aload_n (pc := 21) o dX10_bars_21 rfl ?_
      refine g_iload_n (pc := 22) o dX10_bars_22 rfl ?_
      refine g_iload_n (pc := 23) o dX10_bars_23 rfl ?_
      refine g_iconst (pc := 24) o dX10_bars_24 (-1) rfl ?_
      refine g_callVQv (pc := 25) o (cb) mt_X10_binds mv_X10_binds lk_X10_196 rfl rfl rfl (by decide) rfl (Nat.le_of_ble_eq_true rfl) dX10_bars_25 ?_
      rintro h1 w
      obtain ⟨M1, O1⟩ := w
      have O2 : moO h h1 := (moO.rf h).b O1
      have cf := m_fewest (h := h1) O2.s IS (nI j) d (bX (h.1 52) (nI j) d) k5 M1
      refine g_iconst (pc := 28) o dX10_bars_28 (-1) rfl ?_
      refine g_istore_n (pc := 29) o dX10_bars_29 (by decide) ?_
      show ca_G Γ 6 _ _ [_, _, _, _, _, _] _
      refine g_aload_n (pc := 30) o dX10_bars_30 rfl ?_
      refine g_callVQi (pc := 31) o (cf) mt_X10_fewest mv_X10_fewest lk_X10_200 rfl rfl rfl (by decide) rfl (Nat.le_of_ble_eq_true rfl) dX10_bars_31 ?_
      rintro r h2 v
      obtain ⟨er, v⟩ := v
      rw [er]
      have O3 : moO h h2 := O2.w v
      have fl := few_1000 (h.1 52) (nI j) d (bX (h.1 52) (nI j) d)
      have e189 : h2.1 52 189 = nI (nT (h.1 52)) := by rw [O3.s]; exact ok.2.1
      refine g_sipush (pc := 34) o dX10_bars_34 1000 rfl ?_
      refine g_ic_lt (pc := 37) o 106 dX10_bars_37 (by decide) (fun c37 => ?_) (fun c37 => ?_)
      · skip
        have u := (nI_ltI (b := 1000) (by omega) (by decide)).mp c37
        exact fin h2 _ _ _ O3 (by unfold barsF; rw [if_pos u]; rfl)
      · skip
        have u := mt (nI_ltI (a := fewF (h.1 52) (nI j) d (bX (h.1 52) (nI j) d)) (b := 1000) (by omega) (by decide)).mpr c37
        refine g_aload_n (pc := 40) o dX10_bars_40 rfl ?_
        refine g_iload_n (pc := 41) o dX10_bars_41 rfl ?_
        refine g_iload_n (pc := 42) o dX10_bars_42 rfl ?_
        refine g_callVi (pc := 43) o (m_inForceE (h := h2) O3.s ok (nI j) d (by omega)) mt_X10_inForceOf mv_X10_inForceOf lk_X10_160 rfl rfl rfl (by decide) rfl (Nat.le_of_ble_eq_true rfl) dX10_bars_43 ?_
        refine g_istore (pc := 46) o dX10_bars_46 (by decide) ?_
        show ca_G Γ 6 _ _ [_, _, _, _, _, _] _
        refine g_aload_n (pc := 48) o dX10_bars_48 rfl ?_
        refine g_getR (pc := 49) o 0 rfl rfl rfl inX10 (by decide) lf_X10_7 dX10_bars_49 ?_
        refine g_sipush (pc := 52) o dX10_bars_52 189 rfl ?_
        refine n_ialdE (pc := 55) o 189 (rfl) rfl ((by omega)) (by decide) (e189) dX10_bars_55 ?_
        refine g_iconst (pc := 56) o dX10_bars_56 1 rfl ?_
        refine g_isub (pc := 57) o dX10_bars_57 ?_
        refine g_istore (pc := 58) o dX10_bars_58 (by decide) ?_
        show ca_G Γ 6 _ _ [_, _, _, _, _, _] _
        refine lp_mbars o IS j d (by omega) (by omega) (fun h3 y v5 O ey => fin h3 y _ _ O ?_) (nT (h.1 52)) (Nat.le_refl _) _ _ h2 rfl (by rw [Nat.sub_self]; rfl) O3
        rw [ey]
        unfold barsF
        rw [if_neg u]
        have := fn_ext (f := brb (h.1 52) (nI j) d (bX (h.1 52) (nI j) d)) (n := nT (h.1 52)) (m := 12) 12 0 (by omega) (fun t a b z => by
          unfold brb at z
          rw [Bool.and_eq_true] at z
          have := bnd_lt (by omega) _ ok.1 z.1
          omega) (by omega) l12
        rw [Nat.sub_zero] at this
        rw [this]

    · skip
      refine g_aload_n (pc := 14) o dX10_bars_14 rfl ?_
      refine g_ldc (pc := 15) o dX10_bars_15 lc_X10_68 ?_
      refine g_callVi (pc := 17) o (m_finds 0 (by decide) h) mt_X10_finds mv_X10_finds lk_X10_86 rfl rfl rfl (by decide) rfl (Nat.le_of_ble_eq_true rfl) dX10_bars_17 ?_
      exact g_iret o ρ dX10_bars_20 (Pm.eq (if_neg (fun z => bI_0.mp c11 z.2)) (Pm_fnd rfl (kC.rf h) (by decide)))
