/-! ===== call, back ===== -/
def mnI (l r : Int32) : Int32 := if r < l then r else l
def tkS (s : Nat → Int32) (p k : Nat) (g : Int32) : Nat → Int32 := upd (upd s (285 + k) (s (285 + k) - g)) (295 + (k * 6 + p)) g
def tkL (p : Nat) : Nat → Nat → (Nat → Int32) → Int32 → (Nat → Int32) × Int32
  | 0, _, s, l => (s, l)
  | n + 1, k, s, l => if bt (s (290 + k)) p = true then tkL p n (k + 1) (tkS s p k (mnI l (s (285 + k)))) (l - mnI l (s (285 + k))) else tkL p n (k + 1) s l
theorem tkL_s (p n k : Nat) (s : Nat → Int32) (l : Int32) : tkL p (n + 1) k s l = if bt (s (290 + k)) p = true then tkL p n (k + 1) (tkS s p k (mnI l (s (285 + k)))) (l - mnI l (s (285 + k))) else tkL p n (k + 1) s l := rfl
set_option maxRecDepth 100000 in
set_option maxHeartbeats 400000 in
theorem lp_takeBail {Γ : Fr} (o : ca_O Γ cX6_takeBail 5 RX6 1 21) {h0 : Mem} {T : (Nat → Int32) × Int32} (ρ : ca_R Γ (some .int) (Qi (fun r h2 => r = T.2 ∧ BR h2 1 T.1 ∧ offB h0 h2))) (p : Nat) (hp : p < 6) : ∀ k, k ≤ 5 → ∀ (xk : Int32) (h : Mem) (s : Nat → Int32) (l : Int32) (j4 : Option Value), xk = nI k → BR h 1 s → offB h0 h → tkL p (5 - k) k s l = T → ca_G Γ 5 h 9 [some (.ref 8), some (.int (nI p)), some (.int l), some (.int xk), j4] [] := by
  refine downI 5 (fun k hk ih => ?_)
  rintro xk h s l j4 rfl B f e
  refine g_iload_n (pc := 9) o dX6_takeBail_9 rfl ?_
  refine g_iconst (pc := 10) o dX6_takeBail_10 5 rfl ?_
  refine g_ic_ge (pc := 11) o 74 dX6_takeBail_11 (by decide) (fun c11 => ?_) (fun c11 => ?_)
  · skip
    have ek : k = 5 := ge8 (n := 5) (by omega) (by omega) c11
    subst ek
    refine g_iload_n (pc := 74) o dX6_takeBail_74 rfl ?_
    exact g_iret o ρ dX6_takeBail_75 (Qi.mk (by rw [← e]; exact ⟨rfl, B, f⟩))
  · skip
    have ek : k < 5 := lt8 (n := 5) (by omega) (by omega) c11
    rw [show 5 - k = (5 - (k + 1)) + 1 by omega, tkL_s] at e
    refine g_aload_n (pc := 14) o dX6_takeBail_14 rfl ?_
    refine g_getR (pc := 15) o 1 rfl rfl rfl inX6 (by decide) lf_X6_15 dX6_takeBail_15 ?_
    refine g_iload_n (pc := 18) o dX6_takeBail_18 rfl ?_
    refine n_ialdE (pc := 19) o k (rfl) rfl ((by omega)) (by decide) (B.bk k ek) dX6_takeBail_19 ?_
    refine g_iload_n (pc := 20) o dX6_takeBail_20 rfl ?_
    refine g_callNi (pc := 21) o (c_has (s (290 + k)) p (by omega) h) mt_X9_has ms_X9_has ln_X6_28 rfl (by decide) rfl (Nat.le_of_ble_eq_true rfl) dX6_takeBail_21 ?_
    refine g_if_eq (pc := 24) o 68 dX6_takeBail_24 (by decide) (fun c24 => ?_) (fun c24 => ?_)
    · skip
      rw [if_neg (bI_0.mp c24)] at e
      refine g_iinc (pc := 68) o dX6_takeBail_68 rfl 1 rfl (by decide) ?_
      show ca_G Γ 5 _ _ [_, _, _, _, _] _
      refine g_goto (pc := 71) o 9 dX6_takeBail_71 (by decide) ?_
      exact ih ek _ _ _ _ _ (nI_1 k) B f e
    · skip
      rw [if_pos (bI_n0.mp c24)] at e
      refine g_iload_n (pc := 27) o dX6_takeBail_27 rfl ?_
      refine g_aload_n (pc := 28) o dX6_takeBail_28 rfl ?_
      refine g_getR (pc := 29) o 0 rfl rfl rfl inX6 (by decide) lf_X6_9 dX6_takeBail_29 ?_
      refine g_iload_n (pc := 32) o dX6_takeBail_32 rfl ?_
      refine n_ialdE (pc := 33) o k (rfl) rfl ((by omega)) (by decide) (B.rm k ek) dX6_takeBail_33 ?_
      refine g_min (pc := 34) o lk_X6_32 ms_min mi_min mc_min (by decide) (Nat.le_of_ble_eq_true rfl) dX6_takeBail_34 ?_
      show ca_G Γ 5 h _ _ [.int (mnI l (s (285 + k)))]
      refine g_istore (pc := 37) o dX6_takeBail_37 (by decide) ?_
      show ca_G Γ 5 _ _ [_, _, _, _, _] _
      refine g_aload_n (pc := 39) o dX6_takeBail_39 rfl ?_
      refine g_getR (pc := 40) o 0 rfl rfl rfl inX6 (by decide) lf_X6_9 dX6_takeBail_40 ?_
      refine g_iload_n (pc := 43) o dX6_takeBail_43 rfl ?_
      refine g_dup2 (pc := 44) o dX6_takeBail_44 rfl rfl ?_
      refine n_ialdE (pc := 45) o k (rfl) rfl ((by omega)) (by decide) (B.rm k ek) dX6_takeBail_45 ?_
      refine g_iload (pc := 46) o dX6_takeBail_46 rfl ?_
      refine g_isub (pc := 48) o dX6_takeBail_48 ?_
      refine n_iast (pc := 49) o k (rfl) rfl ((by omega)) (by decide) dX6_takeBail_49 ?_
      refine g_aload_n (pc := 50) o dX6_takeBail_50 rfl ?_
      refine g_getR (pc := 51) o 2 rfl rfl rfl inX6 (by decide) lf_X6_18 dX6_takeBail_51 ?_
      refine g_iload_n (pc := 54) o dX6_takeBail_54 rfl ?_
      refine g_bipush (pc := 55) o dX6_takeBail_55 6 rfl ?_
      refine g_imul (pc := 57) o dX6_takeBail_57 ?_
      refine g_iload_n (pc := 58) o dX6_takeBail_58 rfl ?_
      refine g_iadd (pc := 59) o dX6_takeBail_59 ?_
      refine g_iload (pc := 60) o dX6_takeBail_60 rfl ?_
      refine n_iast (pc := 62) o (k * 6 + p) (ix k 6 p) rfl ((by omega)) (by decide) dX6_takeBail_62 ?_
      refine g_iload_n (pc := 63) o dX6_takeBail_63 rfl ?_
      refine g_iload (pc := 64) o dX6_takeBail_64 rfl ?_
      refine g_isub (pc := 66) o dX6_takeBail_66 ?_
      refine g_istore_n (pc := 67) o dX6_takeBail_67 (by decide) ?_
      show ca_G Γ 5 _ _ [_, _, _, _, _] _
      refine g_iinc (pc := 68) o dX6_takeBail_68 rfl 1 rfl (by decide) ?_
      show ca_G Γ 5 _ _ [_, _, _, _, _] _
      refine g_goto (pc := 71) o 9 dX6_takeBail_71 (by decide) ?_
      exact ih ek _ _ _ _ _ (nI_1 k) (BR_gv (BR_rm B ek) (by omega)) ((f.mw (by decide)).mw (by decide)) e
set_option maxRecDepth 100000 in
set_option maxHeartbeats 400000 in
theorem c_takeBail {h : Mem} {s : Nat → Int32} (B : BR h 1 s) (p : Nat) (hp : p < 6) : Ct yX6_takeBail cX6_takeBail 5 (some .int) 1 21 [.ref 8, .int (nI p)] h (Qi (fun r h2 => r = (tkL p 5 0 s (s (325 + p))).2 ∧ BR h2 1 (tkL p 5 0 s (s (325 + p))).1 ∧ offB h h2)) := by
  refine Ct.of (by decide) (Nat.le_of_ble_eq_true rfl) (fun Γ o ρ => ?_)
  show ca_G Γ 5 _ _ [_, _, _, _, _] _
  refine g_aload_n (pc := 0) o dX6_takeBail_0 rfl ?_
  refine g_getR (pc := 1) o 3 rfl rfl rfl inX6 (by decide) lf_X6_21 dX6_takeBail_1 ?_
  refine g_iload_n (pc := 4) o dX6_takeBail_4 rfl ?_
  refine n_ialdE (pc := 5) o p (rfl) rfl ((by omega)) (by decide) (B.bl p hp) dX6_takeBail_5 ?_
  refine g_istore_n (pc := 6) o dX6_takeBail_6 (by decide) ?_
  show ca_G Γ 5 _ _ [_, _, _, _, _] _
  refine g_iconst (pc := 7) o dX6_takeBail_7 0 rfl ?_
  refine g_istore_n (pc := 8) o dX6_takeBail_8 (by decide) ?_
  show ca_G Γ 5 _ _ [_, _, _, _, _] _
  exact lp_takeBail o ρ p hp 0 (by omega) 0 h s _ _ rfl B (offB.rf h) rfl
def op_call (a : Int32) (σ : Sg) : Int32 × Sg := if rng a 0 5 then (if gForF (σ 0) (ca_n a) 5 ≤ 0 then ((tkL (ca_n a) 5 0 (σ 0) (σ 0 (325 + ca_n a))).2, sf σ 0 (tkL (ca_n a) 5 0 (σ 0) (σ 0 (325 + ca_n a))).1) else fnd σ 4) else fnd σ 0
set_option maxRecDepth 100000 in
set_option maxHeartbeats 400000 in
theorem co_call {h : Mem} {σ : Sg} (C : CR h σ) (a : Int32) : Ct yX9_call cX9_call 2 (some .int) 2 45 [.ref 0, .int a] h (Po h (op_call a σ)) := by
  refine Ct.of (by decide) (Nat.le_of_ble_eq_true rfl) (fun Γ o ρ => ?_)
  show ca_G Γ 2 _ _ [_, _] _
  refine g_iload_n (pc := 0) o dX9_call_0 rfl ?_
  refine g_callSi (pc := 1) o (c_isPerson a h) mt_X9_isPerson ms_X9_isPerson lk_X9_83 rfl (by decide) rfl (Nat.le_of_ble_eq_true rfl) dX9_call_1 ?_
  refine g_if_ne (pc := 4) o 13 dX9_call_4 (by decide) (fun c4 => ?_) (fun c4 => ?_)
  · skip
    have eq : op_call a σ = if gForF (σ 0) (ca_n a) 5 ≤ 0 then ((tkL (ca_n a) 5 0 (σ 0) (σ 0 (325 + ca_n a))).2, sf σ 0 (tkL (ca_n a) 5 0 (σ 0) (σ 0 (325 + ca_n a))).1) else fnd σ 4 := if_pos (bI_n0.mp c4)
    rw [eq] at ρ
    obtain ⟨p, hp, rfl, ep⟩ := n_of (x := a) (b := 5) (bI_n0.mp c4) (by decide)
    rw [ep] at ρ
    refine g_aload_n (pc := 13) o dX9_call_13 rfl ?_
    refine g_getR (pc := 14) o 0 rfl rfl rfl inX9 (by decide) lf_X9_10 dX9_call_14 ?_
    refine g_getR (pc := 17) o 3 rfl rfl rfl inX0 (by decide) lf_X9_224 dX9_call_17 ?_
    refine g_iload_n (pc := 20) o dX9_call_20 rfl ?_
    refine g_callVi (pc := 21) o (c_givenFor C.1 p (by omega)) mt_X6_givenFor mv_X6_givenFor lk_X9_236 rfl rfl rfl (by decide) rfl (Nat.le_of_ble_eq_true rfl) dX9_call_21 ?_
    refine g_if_le (pc := 24) o 33 dX9_call_24 (by decide) (fun c24 => ?_) (fun c24 => ?_)
    · skip
      refine g_aload_n (pc := 33) o dX9_call_33 rfl ?_
      refine g_getR (pc := 34) o 0 rfl rfl rfl inX9 (by decide) lf_X9_10 dX9_call_34 ?_
      refine g_getR (pc := 37) o 3 rfl rfl rfl inX0 (by decide) lf_X9_224 dX9_call_37 ?_
      refine g_iload_n (pc := 40) o dX9_call_40 rfl ?_
      refine g_callVQi (pc := 41) o (c_takeBail C.1 p (by omega)) mt_X6_takeBail mv_X6_takeBail lk_X9_245 rfl rfl rfl (by decide) rfl (Nat.le_of_ble_eq_true rfl) dX9_call_41 ?_
      rintro r h2 ⟨er, B2, f2⟩
      subst er
      exact g_iret o ρ dX9_call_44 (Po.eq (if_pos c24) (Po_s C B2 f2))
    · skip
      refine g_aload_n (pc := 27) o dX9_call_27 rfl ?_
      refine g_iconst (pc := 28) o dX9_call_28 4 rfl ?_
      refine g_callVi (pc := 29) o (c_finding 4 (by decide) h) mt_X9_finding mv_X9_finding lk_X9_58 rfl rfl rfl (by decide) rfl (Nat.le_of_ble_eq_true rfl) dX9_call_29 ?_
      exact g_iret o ρ dX9_call_32 (Po.eq (if_neg (fun z => c24 z)) (Po_fnd C (by decide)))
  · skip
    refine g_aload_n (pc := 7) o dX9_call_7 rfl ?_
    refine g_iconst (pc := 8) o dX9_call_8 0 rfl ?_
    refine g_callVi (pc := 9) o (c_finding 0 (by decide) h) mt_X9_finding mv_X9_finding lk_X9_58 rfl rfl rfl (by decide) rfl (Nat.le_of_ble_eq_true rfl) dX9_call_9 ?_
    exact g_iret o ρ dX9_call_12 (Po.eq (if_neg (fun z => bI_0.mp c4 z)) (Po_fnd C (by decide)))
set_option maxRecDepth 100000 in
set_option maxHeartbeats 400000 in
theorem lp_mcall {Γ : Fr} (o : ca_O Γ cX10_call 5 RX10 2 45) {h0 : Mem} {T : (Nat → Int32) × Int32} {Pr : Option Value → Mem → Prop} (ρ : ca_R Γ (some .int) Pr) (hpr : ∀ h2 : Mem, h2.1 52 = T.1 → offM h0 h2 → Pr (some (.int T.2)) h2) (p : Nat) (hp : p < 6) : ∀ k, k ≤ 5 → ∀ (xk : Int32) (h : Mem) (l : Int32) (j4 : Option Value), xk = nI k → offM h0 h → tkL p (5 - k) k (h.1 52) l = T → ca_G Γ 5 h 42 [some (.ref 51), some (.int (nI p)), some (.int l), some (.int xk), j4] [] := by
  refine downI 5 (fun k hk ih => ?_)
  rintro xk h l j4 rfl f e
  refine g_iload_n (pc := 42) o dX10_call_42 rfl ?_
  refine g_iconst (pc := 43) o dX10_call_43 5 rfl ?_
  refine g_ic_ge (pc := 44) o 137 dX10_call_44 (by decide) (fun c44 => ?_) (fun c44 => ?_)
  · skip
    have ek : k = 5 := ge8 (n := 5) (by omega) (by omega) c44
    subst ek
    refine g_iload_n (pc := 137) o dX10_call_137 rfl ?_
    have e1 : h.1 52 = T.1 := congrArg Prod.fst e
    have e2 : l = T.2 := congrArg Prod.snd e
    subst e2
    exact g_iret o ρ dX10_call_138 (hpr h e1 f)
  · skip
    have ek : k < 5 := lt8 (n := 5) (by omega) (by omega) c44
    rw [show 5 - k = (5 - (k + 1)) + 1 by omega, tkL_s] at e
    refine g_aload_n (pc := 47) o dX10_call_47 rfl ?_
    refine g_getR (pc := 48) o 0 rfl rfl rfl inX10 (by decide) lf_X10_7 dX10_call_48 ?_
    refine g_sipush (pc := 51) o dX10_call_51 290 rfl ?_
    refine g_iload_n (pc := 54) o dX10_call_54 rfl ?_
    refine g_iadd (pc := 55) o dX10_call_55 ?_
    refine n_iald (pc := 56) o (290 + k) (nI_add 290 k) rfl ((by omega)) (by decide) dX10_call_56 ?_
    refine g_iload_n (pc := 57) o dX10_call_57 rfl ?_
    refine g_callSi (pc := 58) o (m_has (h.1 52 (290 + k)) p (by omega) h) mt_X10_has ms_X10_has lk_X10_90 rfl (by decide) rfl (Nat.le_of_ble_eq_true rfl) dX10_call_58 ?_
    refine g_if_eq (pc := 61) o 131 dX10_call_61 (by decide) (fun c61 => ?_) (fun c61 => ?_)
    · skip
      rw [if_neg (bI_0.mp c61)] at e
      refine g_iinc (pc := 131) o dX10_call_131 rfl 1 rfl (by decide) ?_
      show ca_G Γ 5 _ _ [_, _, _, _, _] _
      refine g_goto (pc := 134) o 42 dX10_call_134 (by decide) ?_
      exact ih ek _ _ _ _ (nI_1 k) f e
    · skip
      rw [if_pos (bI_n0.mp c61)] at e
      have fin : ∀ g : Int32, g = mnI l (h.1 52 (285 + k)) → ca_G Γ 5 h 92 [some (.ref 51), some (.int (nI p)), some (.int l), some (.int (nI k)), j4] [.int g] := by
        rintro g rfl
        refine g_istore (pc := 92) o dX10_call_92 (by decide) ?_
        show ca_G Γ 5 _ _ [_, _, _, _, _] _
        refine g_aload_n (pc := 94) o dX10_call_94 rfl ?_
        refine g_getR (pc := 95) o 0 rfl rfl rfl inX10 (by decide) lf_X10_7 dX10_call_95 ?_
        refine g_sipush (pc := 98) o dX10_call_98 295 rfl ?_
        refine g_bipush (pc := 101) o dX10_call_101 6 rfl ?_
        refine g_iload_n (pc := 103) o dX10_call_103 rfl ?_
        refine g_imul (pc := 104) o dX10_call_104 ?_
        refine g_iadd (pc := 105) o dX10_call_105 ?_
        refine g_iload_n (pc := 106) o dX10_call_106 rfl ?_
        refine g_iadd (pc := 107) o dX10_call_107 ?_
        refine g_iload (pc := 108) o dX10_call_108 rfl ?_
        refine n_iast (pc := 110) o (295 + (k * 6 + p)) (gix k p) rfl ((by omega)) (by decide) dX10_call_110 ?_
        refine g_aload_n (pc := 111) o dX10_call_111 rfl ?_
        refine g_getR (pc := 112) o 0 rfl rfl rfl inX10 (by decide) lf_X10_7 dX10_call_112 ?_
        refine g_sipush (pc := 115) o dX10_call_115 285 rfl ?_
        refine g_iload_n (pc := 118) o dX10_call_118 rfl ?_
        refine g_iadd (pc := 119) o dX10_call_119 ?_
        refine g_dup2 (pc := 120) o dX10_call_120 rfl rfl ?_
        refine n_ialdE (pc := 121) o (285 + k) (nI_add 285 k) rfl ((by omega)) (by decide) ((by rw [mw_same, pk_un (by omega)])) dX10_call_121 ?_
        refine g_iload (pc := 122) o dX10_call_122 rfl ?_
        refine g_isub (pc := 124) o dX10_call_124 ?_
        refine n_iast (pc := 125) o (285 + k) (nI_add 285 k) rfl ((by omega)) (by decide) dX10_call_125 ?_
        refine g_iload_n (pc := 126) o dX10_call_126 rfl ?_
        refine g_iload (pc := 127) o dX10_call_127 rfl ?_
        refine g_isub (pc := 129) o dX10_call_129 ?_
        refine g_istore_n (pc := 130) o dX10_call_130 (by decide) ?_
        show ca_G Γ 5 _ _ [_, _, _, _, _] _
        refine g_iinc (pc := 131) o dX10_call_131 rfl 1 rfl (by decide) ?_
        show ca_G Γ 5 _ _ [_, _, _, _, _] _
        refine g_goto (pc := 134) o 42 dX10_call_134 (by decide) ?_
        refine ih ek _ _ _ _ (nI_1 k) f.mw.mw ?_
        rw [← e, mw_same, mw_same, upd_c _ (by omega)]
        rfl
      refine g_iload_n (pc := 64) o dX10_call_64 rfl ?_
      refine g_aload_n (pc := 65) o dX10_call_65 rfl ?_
      refine g_getR (pc := 66) o 0 rfl rfl rfl inX10 (by decide) lf_X10_7 dX10_call_66 ?_
      refine g_sipush (pc := 69) o dX10_call_69 285 rfl ?_
      refine g_iload_n (pc := 72) o dX10_call_72 rfl ?_
      refine g_iadd (pc := 73) o dX10_call_73 ?_
      refine n_iald (pc := 74) o (285 + k) (nI_add 285 k) rfl ((by omega)) (by decide) dX10_call_74 ?_
      refine g_ic_ge (pc := 75) o 82 dX10_call_75 (by decide) (fun c75 => ?_) (fun c75 => ?_)
      · skip
        refine g_aload_n (pc := 82) o dX10_call_82 rfl ?_
        refine g_getR (pc := 83) o 0 rfl rfl rfl inX10 (by decide) lf_X10_7 dX10_call_83 ?_
        refine g_sipush (pc := 86) o dX10_call_86 285 rfl ?_
        refine g_iload_n (pc := 89) o dX10_call_89 rfl ?_
        refine g_iadd (pc := 90) o dX10_call_90 ?_
        refine n_iald (pc := 91) o (285 + k) (nI_add 285 k) rfl ((by omega)) (by decide) dX10_call_91 ?_
        refine fin _ ?_
        unfold mnI
        split
        · rfl
        · rename_i z
          exact Int32.le_antisymm c75 (Int32.not_lt.mp z)
      · skip
        refine g_iload_n (pc := 78) o dX10_call_78 rfl ?_
        refine g_goto (pc := 79) o 92 dX10_call_79 (by decide) ?_
        refine fin _ ?_
        unfold mnI
        split
        · rename_i z
          exact absurd (Int32.le_of_lt z) c75
        · rfl
set_option maxRecDepth 100000 in
set_option maxHeartbeats 400000 in
theorem mo_call {h : Mem} (a : Int32) : Ct yX10_call cX10_call 5 (some .int) 2 45 [.ref 51, .int a] h (Pm h (op_call a (absM h))) := by
  refine Ct.of (by decide) (Nat.le_of_ble_eq_true rfl) (fun Γ o ρ => ?_)
  show ca_G Γ 5 _ _ [_, _, _, _, _] _
  refine g_iload_n (pc := 0) o dX10_call_0 rfl ?_
  refine g_callSi (pc := 1) o (m_isPerson a h) mt_X10_isPerson ms_X10_isPerson lk_X10_98 rfl (by decide) rfl (Nat.le_of_ble_eq_true rfl) dX10_call_1 ?_
  refine g_if_ne (pc := 4) o 14 dX10_call_4 (by decide) (fun c4 => ?_) (fun c4 => ?_)
  · skip
    have eq : op_call a (absM h) = if gForF (h.1 52) (ca_n a) 5 ≤ 0 then ((tkL (ca_n a) 5 0 (h.1 52) (h.1 52 (325 + ca_n a))).2, sf (absM h) 0 (tkL (ca_n a) 5 0 (h.1 52) (h.1 52 (325 + ca_n a))).1) else fnd (absM h) 4 := if_pos (bI_n0.mp c4)
    rw [eq] at ρ
    obtain ⟨p, hp, rfl, ep⟩ := n_of (x := a) (b := 5) (bI_n0.mp c4) (by decide)
    rw [ep] at ρ
    refine g_aload_n (pc := 14) o dX10_call_14 rfl ?_
    refine g_iload_n (pc := 15) o dX10_call_15 rfl ?_
    refine g_callVi (pc := 16) o (m_givenFor p (by omega)) mt_X10_givenFor mv_X10_givenFor lk_X10_229 rfl rfl rfl (by decide) rfl (Nat.le_of_ble_eq_true rfl) dX10_call_16 ?_
    refine g_if_le (pc := 19) o 29 dX10_call_19 (by decide) (fun c19 => ?_) (fun c19 => ?_)
    · skip
      rw [if_pos c19] at ρ
      refine g_aload_n (pc := 29) o dX10_call_29 rfl ?_
      refine g_getR (pc := 30) o 0 rfl rfl rfl inX10 (by decide) lf_X10_7 dX10_call_30 ?_
      refine g_sipush (pc := 33) o dX10_call_33 325 rfl ?_
      refine g_iload_n (pc := 36) o dX10_call_36 rfl ?_
      refine g_iadd (pc := 37) o dX10_call_37 ?_
      refine n_iald (pc := 38) o (325 + p) (nI_add 325 p) rfl ((by omega)) (by decide) dX10_call_38 ?_
      refine g_istore_n (pc := 39) o dX10_call_39 (by decide) ?_
      show ca_G Γ 5 _ _ [_, _, _, _, _] _
      refine g_iconst (pc := 40) o dX10_call_40 0 rfl ?_
      refine g_istore_n (pc := 41) o dX10_call_41 (by decide) ?_
      show ca_G Γ 5 _ _ [_, _, _, _, _] _
      exact lp_mcall o ρ (fun h2 e f => Pm_s e f) p (by omega) 0 (by omega) 0 h _ _ rfl (offM.rf h) rfl
    · skip
      refine g_aload_n (pc := 22) o dX10_call_22 rfl ?_
      refine g_ldc (pc := 23) o dX10_call_23 lc_X10_153 ?_
      refine g_callVi (pc := 25) o (m_finds 4 (by decide) h) mt_X10_finds mv_X10_finds lk_X10_86 rfl rfl rfl (by decide) rfl (Nat.le_of_ble_eq_true rfl) dX10_call_25 ?_
      exact g_iret o ρ dX10_call_28 (Pm.eq (if_neg (fun z => c19 z)) (Pm_fnd rfl (kC.rf h) (by decide)))
  · skip
    refine g_aload_n (pc := 7) o dX10_call_7 rfl ?_
    refine g_ldc (pc := 8) o dX10_call_8 lc_X10_68 ?_
    refine g_callVi (pc := 10) o (m_finds 0 (by decide) h) mt_X10_finds mv_X10_finds lk_X10_86 rfl rfl rfl (by decide) rfl (Nat.le_of_ble_eq_true rfl) dX10_call_10 ?_
    exact g_iret o ρ dX10_call_13 (Pm.eq (if_neg (fun z => bI_0.mp c4 z)) (Pm_fnd rfl (kC.rf h) (by decide)))
/-! back -/
def bkS (s : Nat → Int32) (p k : Nat) : Nat → Int32 := upd (upd s (285 + k) (s (285 + k) + gvF s k p)) (295 + (k * 6 + p)) 0
def bkL (p : Nat) : Nat → Nat → (Nat → Int32) → (Nat → Int32)
  | 0, _, s => s
  | n + 1, k, s => bkL p n (k + 1) (bkS s p k)
theorem bkL_s (p n k : Nat) (s : Nat → Int32) : bkL p (n + 1) k s = bkL p n (k + 1) (bkS s p k) := rfl
theorem bkS_gv {s : Nat → Int32} {p k j : Nat} (hp : p < 6) (hk : k < 5) (hj : k < j) (hj5 : j < 5) : gvF (bkS s p k) j p = gvF s j p := by
  unfold gvF bkS
  rw [pk_un (by omega), pk_un (by omega)]
set_option maxRecDepth 100000 in
set_option maxHeartbeats 400000 in
theorem lp_giveBack {Γ : Fr} (o : ca_O Γ cX6_giveBack 5 RX6 1 22) {h0 : Mem} {s0 T : Nat → Int32} (p : Nat) (ρ : ca_R Γ (some .int) (Qi (fun r h2 => r = gForF s0 p 5 ∧ BR h2 1 T ∧ offB h0 h2))) (hp : p < 6) : ∀ k, k ≤ 5 → ∀ (xk a : Int32) (h : Mem) (s : Nat → Int32) (j4 : Option Value), xk = nI k → a = gForF s0 p k → (∀ j, k ≤ j → j < 5 → gvF s j p = gvF s0 j p) → BR h 1 s → offB h0 h → bkL p (5 - k) k s = T → ca_G Γ 5 h 4 [some (.ref 8), some (.int (nI p)), some (.int a), some (.int xk), j4] [] := by
  refine downI 5 (fun k hk ih => ?_)
  rintro xk a h s j4 rfl rfl g B f e
  refine g_iload_n (pc := 4) o dX6_giveBack_4 rfl ?_
  refine g_iconst (pc := 5) o dX6_giveBack_5 5 rfl ?_
  refine g_ic_ge (pc := 6) o 51 dX6_giveBack_6 (by decide) (fun c6 => ?_) (fun c6 => ?_)
  · skip
    have ek : k = 5 := ge8 (n := 5) (by omega) (by omega) c6
    subst ek
    refine g_iload_n (pc := 51) o dX6_giveBack_51 rfl ?_
    exact g_iret o ρ dX6_giveBack_52 (Qi.mk (by rw [← e]; exact ⟨rfl, B, f⟩))
  · skip
    have ek : k < 5 := lt8 (n := 5) (by omega) (by omega) c6
    rw [show 5 - k = (5 - (k + 1)) + 1 by omega, bkL_s] at e
    refine g_aload_n (pc := 9) o dX6_giveBack_9 rfl ?_
    refine g_iload_n (pc := 10) o dX6_giveBack_10 rfl ?_
    refine g_iload_n (pc := 11) o dX6_giveBack_11 rfl ?_
    refine g_callVi (pc := 12) o (c_givenOf B k p ek hp) mt_X6_givenOf mv_X6_givenOf lk_X6_24 rfl rfl rfl (by decide) rfl (Nat.le_of_ble_eq_true rfl) dX6_giveBack_12 ?_
    refine g_istore (pc := 15) o dX6_giveBack_15 (by decide) ?_
    show ca_G Γ 5 _ _ [_, _, _, _, _] _
    refine g_aload_n (pc := 17) o dX6_giveBack_17 rfl ?_
    refine g_getR (pc := 18) o 0 rfl rfl rfl inX6 (by decide) lf_X6_9 dX6_giveBack_18 ?_
    refine g_iload_n (pc := 21) o dX6_giveBack_21 rfl ?_
    refine g_dup2 (pc := 22) o dX6_giveBack_22 rfl rfl ?_
    refine n_ialdE (pc := 23) o k (rfl) rfl ((by omega)) (by decide) (B.rm k ek) dX6_giveBack_23 ?_
    refine g_iload (pc := 24) o dX6_giveBack_24 rfl ?_
    refine g_iadd (pc := 26) o dX6_giveBack_26 ?_
    refine n_iast (pc := 27) o k (rfl) rfl ((by omega)) (by decide) dX6_giveBack_27 ?_
    refine g_aload_n (pc := 28) o dX6_giveBack_28 rfl ?_
    refine g_getR (pc := 29) o 2 rfl rfl rfl inX6 (by decide) lf_X6_18 dX6_giveBack_29 ?_
    refine g_iload_n (pc := 32) o dX6_giveBack_32 rfl ?_
    refine g_bipush (pc := 33) o dX6_giveBack_33 6 rfl ?_
    refine g_imul (pc := 35) o dX6_giveBack_35 ?_
    refine g_iload_n (pc := 36) o dX6_giveBack_36 rfl ?_
    refine g_iadd (pc := 37) o dX6_giveBack_37 ?_
    refine g_iconst (pc := 38) o dX6_giveBack_38 0 rfl ?_
    refine n_iast (pc := 39) o (k * 6 + p) (ix k 6 p) rfl ((by omega)) (by decide) dX6_giveBack_39 ?_
    refine g_iload_n (pc := 40) o dX6_giveBack_40 rfl ?_
    refine g_iload (pc := 41) o dX6_giveBack_41 rfl ?_
    refine g_iadd (pc := 43) o dX6_giveBack_43 ?_
    refine g_istore_n (pc := 44) o dX6_giveBack_44 (by decide) ?_
    show ca_G Γ 5 _ _ [_, _, _, _, _] _
    refine g_iinc (pc := 45) o dX6_giveBack_45 rfl 1 rfl (by decide) ?_
    show ca_G Γ 5 _ _ [_, _, _, _, _] _
    refine g_goto (pc := 48) o 4 dX6_giveBack_48 (by decide) ?_
    exact ih ek _ _ _ _ _ (nI_1 k) (by rw [g k (Nat.le_refl k) ek]; rfl) (fun j hj hj5 => (bkS_gv hp ek (by omega) hj5).trans (g j (by omega) hj5)) (BR_gv (BR_rm B ek) (by omega)) ((f.mw (by decide)).mw (by decide)) e
set_option maxRecDepth 100000 in
set_option maxHeartbeats 400000 in
theorem c_giveBack {h : Mem} {s : Nat → Int32} (B : BR h 1 s) (p : Nat) (hp : p < 6) : Ct yX6_giveBack cX6_giveBack 5 (some .int) 1 22 [.ref 8, .int (nI p)] h (Qi (fun r h2 => r = gForF s p 5 ∧ BR h2 1 (bkL p 5 0 s) ∧ offB h h2)) := by
  refine Ct.of (by decide) (Nat.le_of_ble_eq_true rfl) (fun Γ o ρ => ?_)
  show ca_G Γ 5 _ _ [_, _, _, _, _] _
  refine g_iconst (pc := 0) o dX6_giveBack_0 0 rfl ?_
  refine g_istore_n (pc := 1) o dX6_giveBack_1 (by decide) ?_
  show ca_G Γ 5 _ _ [_, _, _, _, _] _
  refine g_iconst (pc := 2) o dX6_giveBack_2 0 rfl ?_
  refine g_istore_n (pc := 3) o dX6_giveBack_3 (by decide) ?_
  show ca_G Γ 5 _ _ [_, _, _, _, _] _
  exact lp_giveBack o p ρ hp 0 (by omega) 0 0 h s _ rfl rfl (fun _ _ _ => rfl) B (offB.rf h) rfl
def op_back (a : Int32) (σ : Sg) : Int32 × Sg := if rng a 0 5 then (gForF (σ 0) (ca_n a) 5, sf σ 0 (bkL (ca_n a) 5 0 (σ 0))) else fnd σ 0
set_option maxRecDepth 100000 in
set_option maxHeartbeats 400000 in
theorem co_back {h : Mem} {σ : Sg} (C : CR h σ) (a : Int32) : Ct yX9_back cX9_back 2 (some .int) 2 46 [.ref 0, .int a] h (Po h (op_back a σ)) := by
  refine Ct.of (by decide) (Nat.le_of_ble_eq_true rfl) (fun Γ o ρ => ?_)
  show ca_G Γ 2 _ _ [_, _] _
  refine g_iload_n (pc := 0) o dX9_back_0 rfl ?_
  refine g_callSi (pc := 1) o (c_isPerson a h) mt_X9_isPerson ms_X9_isPerson lk_X9_83 rfl (by decide) rfl (Nat.le_of_ble_eq_true rfl) dX9_back_1 ?_
  refine g_if_eq (pc := 4) o 21 dX9_back_4 (by decide) (fun c4 => ?_) (fun c4 => ?_)
  · skip
    refine g_aload_n (pc := 21) o dX9_back_21 rfl ?_
    refine g_iconst (pc := 22) o dX9_back_22 0 rfl ?_
    refine g_callVi (pc := 23) o (c_finding 0 (by decide) h) mt_X9_finding mv_X9_finding lk_X9_58 rfl rfl rfl (by decide) rfl (Nat.le_of_ble_eq_true rfl) dX9_back_23 ?_
    exact g_iret o ρ dX9_back_26 (Po.eq (if_neg (fun z => bI_0.mp c4 z)) (Po_fnd C (by decide)))
  · skip
    have eq : op_back a σ = (gForF (σ 0) (ca_n a) 5, sf σ 0 (bkL (ca_n a) 5 0 (σ 0))) := if_pos (bI_n0.mp c4)
    rw [eq] at ρ
    obtain ⟨p, hp, rfl, ep⟩ := n_of (x := a) (b := 5) (bI_n0.mp c4) (by decide)
    rw [ep] at ρ
    refine g_aload_n (pc := 7) o dX9_back_7 rfl ?_
    refine g_getR (pc := 8) o 0 rfl rfl rfl inX9 (by decide) lf_X9_10 dX9_back_8 ?_
    refine g_getR (pc := 11) o 3 rfl rfl rfl inX0 (by decide) lf_X9_224 dX9_back_11 ?_
    refine g_iload_n (pc := 14) o dX9_back_14 rfl ?_
    refine g_callVQi (pc := 15) o (c_giveBack C.1 p (by omega)) mt_X6_giveBack mv_X6_giveBack lk_X9_248 rfl rfl rfl (by decide) rfl (Nat.le_of_ble_eq_true rfl) dX9_back_15 ?_
    rintro r h2 ⟨er, B2, f2⟩
    subst er
    refine g_goto (pc := 18) o 26 dX9_back_18 (by decide) ?_
    exact g_iret o ρ dX9_back_26 (Po_s C B2 f2)
set_option maxRecDepth 100000 in
set_option maxHeartbeats 400000 in
theorem lp_mback {Γ : Fr} (o : ca_O Γ cX10_back 4 RX10 2 45) {h0 : Mem} {T : Nat → Int32} {Pr : Option Value → Mem → Prop} (ρ : ca_R Γ (some .int) Pr) (a : Int32) (hpr : ∀ h2 : Mem, h2.1 52 = T → offM h0 h2 → Pr (some (.int a)) h2) (p : Nat) (hp : p < 6) : ∀ k, k ≤ 5 → ∀ (xk : Int32) (h : Mem), xk = nI k → offM h0 h → bkL p (5 - k) k (h.1 52) = T → ca_G Γ 4 h 22 [some (.ref 51), some (.int (nI p)), some (.int a), some (.int xk)] [] := by
  refine downI 5 (fun k hk ih => ?_)
  rintro xk h rfl f e
  refine g_iload_n (pc := 22) o dX10_back_22 rfl ?_
  refine g_iconst (pc := 23) o dX10_back_23 5 rfl ?_
  refine g_ic_ge (pc := 24) o 68 dX10_back_24 (by decide) (fun c24 => ?_) (fun c24 => ?_)
  · skip
    have ek : k = 5 := ge8 (n := 5) (by omega) (by omega) c24
    subst ek
    refine g_iload_n (pc := 68) o dX10_back_68 rfl ?_
    exact g_iret o ρ dX10_back_69 (hpr h e f)
  · skip
    have ek : k < 5 := lt8 (n := 5) (by omega) (by omega) c24
    rw [show 5 - k = (5 - (k + 1)) + 1 by omega, bkL_s] at e
    refine g_aload_n (pc := 27) o dX10_back_27 rfl ?_
    refine g_getR (pc := 28) o 0 rfl rfl rfl inX10 (by decide) lf_X10_7 dX10_back_28 ?_
    refine g_sipush (pc := 31) o dX10_back_31 285 rfl ?_
    refine g_iload_n (pc := 34) o dX10_back_34 rfl ?_
    refine g_iadd (pc := 35) o dX10_back_35 ?_
    refine g_dup2 (pc := 36) o dX10_back_36 rfl rfl ?_
    refine n_iald (pc := 37) o (285 + k) (nI_add 285 k) rfl ((by omega)) (by decide) dX10_back_37 ?_
    refine g_aload_n (pc := 38) o dX10_back_38 rfl ?_
    refine g_iload_n (pc := 39) o dX10_back_39 rfl ?_
    refine g_iload_n (pc := 40) o dX10_back_40 rfl ?_
    refine g_callVi (pc := 41) o (m_given k p ek hp) mt_X10_given mv_X10_given lk_X10_219 rfl rfl rfl (by decide) rfl (Nat.le_of_ble_eq_true rfl) dX10_back_41 ?_
    refine g_iadd (pc := 44) o dX10_back_44 ?_
    refine n_iast (pc := 45) o (285 + k) (nI_add 285 k) rfl ((by omega)) (by decide) dX10_back_45 ?_
    refine g_aload_n (pc := 46) o dX10_back_46 rfl ?_
    refine g_getR (pc := 47) o 0 rfl rfl rfl inX10 (by decide) lf_X10_7 dX10_back_47 ?_
    refine g_sipush (pc := 50) o dX10_back_50 295 rfl ?_
    refine g_bipush (pc := 53) o dX10_back_53 6 rfl ?_
    refine g_iload_n (pc := 55) o dX10_back_55 rfl ?_
    refine g_imul (pc := 56) o dX10_back_56 ?_
    refine g_iadd (pc := 57) o dX10_back_57 ?_
    refine g_iload_n (pc := 58) o dX10_back_58 rfl ?_
    refine g_iadd (pc := 59) o dX10_back_59 ?_
    refine g_iconst (pc := 60) o dX10_back_60 0 rfl ?_
    refine n_iast (pc := 61) o (295 + (k * 6 + p)) (gix k p) rfl ((by omega)) (by decide) dX10_back_61 ?_
    refine g_iinc (pc := 62) o dX10_back_62 rfl 1 rfl (by decide) ?_
    show ca_G Γ 4 _ _ [_, _, _, _] _
    refine g_goto (pc := 65) o 22 dX10_back_65 (by decide) ?_
    refine ih ek _ _ (nI_1 k) f.mw.mw ?_
    rw [← e]
    rfl
set_option maxRecDepth 100000 in
set_option maxHeartbeats 400000 in
theorem mo_back {h : Mem} (a : Int32) : Ct yX10_back cX10_back 4 (some .int) 2 45 [.ref 51, .int a] h (Pm h (op_back a (absM h))) := by
  refine Ct.of (by decide) (Nat.le_of_ble_eq_true rfl) (fun Γ o ρ => ?_)
  show ca_G Γ 4 _ _ [_, _, _, _] _
  refine g_iload_n (pc := 0) o dX10_back_0 rfl ?_
  refine g_callSi (pc := 1) o (m_isPerson a h) mt_X10_isPerson ms_X10_isPerson lk_X10_98 rfl (by decide) rfl (Nat.le_of_ble_eq_true rfl) dX10_back_1 ?_
  refine g_if_ne (pc := 4) o 14 dX10_back_4 (by decide) (fun c4 => ?_) (fun c4 => ?_)
  · skip
    have eq : op_back a (absM h) = (gForF (h.1 52) (ca_n a) 5, sf (absM h) 0 (bkL (ca_n a) 5 0 (h.1 52))) := if_pos (bI_n0.mp c4)
    rw [eq] at ρ
    obtain ⟨p, hp, rfl, ep⟩ := n_of (x := a) (b := 5) (bI_n0.mp c4) (by decide)
    rw [ep] at ρ
    refine g_aload_n (pc := 14) o dX10_back_14 rfl ?_
    refine g_iload_n (pc := 15) o dX10_back_15 rfl ?_
    refine g_callVi (pc := 16) o (m_givenFor p (by omega)) mt_X10_givenFor mv_X10_givenFor lk_X10_229 rfl rfl rfl (by decide) rfl (Nat.le_of_ble_eq_true rfl) dX10_back_16 ?_
    refine g_istore_n (pc := 19) o dX10_back_19 (by decide) ?_
    show ca_G Γ 4 _ _ [_, _, _, _] _
    refine g_iconst (pc := 20) o dX10_back_20 0 rfl ?_
    refine g_istore_n (pc := 21) o dX10_back_21 (by decide) ?_
    show ca_G Γ 4 _ _ [_, _, _, _] _
    exact lp_mback o ρ _ (fun h2 e f => Pm_s e f) p (by omega) 0 (by omega) 0 h rfl (offM.rf h) rfl

  · skip
    refine g_aload_n (pc := 7) o dX10_back_7 rfl ?_
    refine g_ldc (pc := 8) o dX10_back_8 lc_X10_68 ?_
    refine g_callVi (pc := 10) o (m_finds 0 (by decide) h) mt_X10_finds mv_X10_finds lk_X10_86 rfl rfl rfl (by decide) rfl (Nat.le_of_ble_eq_true rfl) dX10_back_10 ?_
    exact g_iret o ρ dX10_back_13 (Pm.eq (if_neg (fun z => bI_0.mp c4 z)) (Pm_fnd rfl (kC.rf h) (by decide)))
