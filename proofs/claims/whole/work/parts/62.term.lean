/-! ===== the class's reader: items ===== -/
def tdM (h : Mem) (m : Nat) (w a b : Int32) : Mem := mw (mw (mw (mw h 32 (8 * m + 0) w) 32 (8 * m + 1) a) 32 (8 * m + 2) b) 30 3 (nI m + 1)
set_option maxRecDepth 100000 in
set_option maxHeartbeats 400000 in
theorem c_setDown {h : Mem} (e4 : h.1 30 4 = -1) (m : Nat) (e3 : h.1 30 3 = nI m) (hm : m < 20) (w a b : Int32) : Ct yX3_setDown cX3_setDown 5 none 0 0 [.ref 30, .int w, .int a, .int b] h (Ev (tdM h m w a b)) := by
  refine Ct.of (by decide) (Nat.le_of_ble_eq_true rfl) (fun Γ o ρ => ?_)
  show ca_G Γ 5 _ _ [_, _, _, _, _] _
  refine g_aload_n (pc := 0) o dX3_setDown_0 rfl ?_
  refine g_getIE (pc := 1) o 4 rfl rfl rfl inX3 (by decide) lf_X3_40 (e4) dX3_setDown_1 ?_
  refine g_iconst (pc := 4) o dX3_setDown_4 (-1) rfl ?_
  refine g_ic_ne (pc := 5) o 17 dX3_setDown_5 (by decide) (fun c5 => ?_) (fun c5 => ?_)
  · skip
    exact absurd rfl c5
  · skip
    refine g_aload_n (pc := 8) o dX3_setDown_8 rfl ?_
    refine g_getIE (pc := 9) o 3 rfl rfl rfl inX3 (by decide) lf_X3_25 (e3) dX3_setDown_9 ?_
    refine g_bipush (pc := 12) o dX3_setDown_12 20 rfl ?_
    refine g_ic_lt (pc := 14) o 18 dX3_setDown_14 (by decide) (fun c14 => ?_) (fun c14 => ?_)
    · skip
      refine g_aload_n (pc := 18) o dX3_setDown_18 rfl ?_
      refine g_getIE (pc := 19) o 3 rfl rfl rfl inX3 (by decide) lf_X3_25 (e3) dX3_setDown_19 ?_
      refine g_bipush (pc := 22) o dX3_setDown_22 8 rfl ?_
      refine g_imul (pc := 24) o dX3_setDown_24 ?_
      refine g_istore (pc := 25) o dX3_setDown_25 (by decide) ?_
      show ca_G Γ 5 _ _ [_, _, _, _, _] _
      refine g_aload_n (pc := 27) o dX3_setDown_27 rfl ?_
      refine g_getR (pc := 28) o 2 rfl rfl rfl inX3 (by decide) lf_X3_15 dX3_setDown_28 ?_
      refine g_iload (pc := 31) o dX3_setDown_31 rfl ?_
      refine g_iconst (pc := 33) o dX3_setDown_33 0 rfl ?_
      refine g_iadd (pc := 34) o dX3_setDown_34 ?_
      refine g_iload_n (pc := 35) o dX3_setDown_35 rfl ?_
      refine n_iast (pc := 36) o (8 * m + 0) (ix8 m 0) rfl ((by omega)) (by decide) dX3_setDown_36 ?_
      refine g_aload_n (pc := 37) o dX3_setDown_37 rfl ?_
      refine g_getR (pc := 38) o 2 rfl rfl rfl inX3 (by decide) lf_X3_15 dX3_setDown_38 ?_
      refine g_iload (pc := 41) o dX3_setDown_41 rfl ?_
      refine g_iconst (pc := 43) o dX3_setDown_43 1 rfl ?_
      refine g_iadd (pc := 44) o dX3_setDown_44 ?_
      refine g_iload_n (pc := 45) o dX3_setDown_45 rfl ?_
      refine n_iast (pc := 46) o (8 * m + 1) (ix8 m 1) rfl ((by omega)) (by decide) dX3_setDown_46 ?_
      refine g_aload_n (pc := 47) o dX3_setDown_47 rfl ?_
      refine g_getR (pc := 48) o 2 rfl rfl rfl inX3 (by decide) lf_X3_15 dX3_setDown_48 ?_
      refine g_iload (pc := 51) o dX3_setDown_51 rfl ?_
      refine g_iconst (pc := 53) o dX3_setDown_53 2 rfl ?_
      refine g_iadd (pc := 54) o dX3_setDown_54 ?_
      refine g_iload_n (pc := 55) o dX3_setDown_55 rfl ?_
      refine n_iast (pc := 56) o (8 * m + 2) (ix8 m 2) rfl ((by omega)) (by decide) dX3_setDown_56 ?_
      refine g_aload_n (pc := 57) o dX3_setDown_57 rfl ?_
      refine g_dup (pc := 58) o dX3_setDown_58 rfl ?_
      refine g_getIE (pc := 59) o 3 rfl rfl rfl inX3 (by decide) lf_X3_25 (e3) dX3_setDown_59 ?_
      refine g_iconst (pc := 62) o dX3_setDown_62 1 rfl ?_
      refine g_iadd (pc := 63) o dX3_setDown_63 ?_
      refine g_put (pc := 64) o 3 rfl rfl rfl inX3 tyX3_ok nmX3 (by decide) lf_X3_25 rfl rfl rfl dX3_setDown_64 ?_
      exact g_vret o ρ dX3_setDown_67 ⟨rfl, rfl⟩
    · skip
      exact absurd ((nI_ltI (a := m) (b := 20) (by omega) (by decide)).mpr hm) c14
set_option maxRecDepth 100000 in
set_option maxHeartbeats 400000 in
theorem c_setDownX {h : Mem} (e4 : ¬ h.1 30 4 = -1) (w a b : Int32) : Ct yX3_setDown cX3_setDown 5 none 0 0 [.ref 30, .int w, .int a, .int b] h (Ev h) := by
  refine Ct.of (by decide) (Nat.le_of_ble_eq_true rfl) (fun Γ o ρ => ?_)
  show ca_G Γ 5 _ _ [_, _, _, _, _] _
  refine g_aload_n (pc := 0) o dX3_setDown_0 rfl ?_
  refine g_getI (pc := 1) o 4 rfl rfl rfl inX3 (by decide) lf_X3_40 dX3_setDown_1 ?_
  refine g_iconst (pc := 4) o dX3_setDown_4 (-1) rfl ?_
  refine g_ic_ne (pc := 5) o 17 dX3_setDown_5 (by decide) (fun c5 => ?_) (fun c5 => ?_)
  · skip
    exact g_vret o ρ dX3_setDown_17 ⟨rfl, rfl⟩
  · skip
    exact absurd c5 e4
set_option maxRecDepth 100000 in
set_option maxHeartbeats 800000 in
theorem ft186 {Γ : Fr} (o : ca_O Γ cX3_readTerm 11 RX3 7 149) {Pr : Option Value → Mem → Prop} (ρ : ca_R Γ none Pr) {h : Mem} (e4 : ¬ h.1 30 4 = -1) (hf : Pr none h) (x1 x2 x3 x4 x5 x6 x7 x8 x9 : Int32) (v10 : Option Value) : ca_G Γ 11 h 186 [some (.ref 30), some (.int x1), some (.int x2), some (.int x3), some (.int x4), some (.int x5), some (.int x6), some (.int x7), some (.int x8), some (.int x9), v10] [] := by
  refine g_aload_n (pc := 186) o dX3_readTerm_186 rfl ?_
  refine g_getI (pc := 187) o 4 rfl rfl rfl inX3 (by decide) lf_X3_40 dX3_readTerm_187 ?_
  refine g_iconst (pc := 190) o dX3_readTerm_190 (-1) rfl ?_
  refine g_ic_ne (pc := 191) o 203 dX3_readTerm_191 (by decide) (fun c191 => ?_) (fun c191 => ?_)
  · skip
    exact g_vret o ρ dX3_readTerm_203 hf
  · skip
    exact absurd c191 e4
set_option maxRecDepth 100000 in
set_option maxHeartbeats 800000 in
theorem ft140 {Γ : Fr} (o : ca_O Γ cX3_readTerm 11 RX3 7 149) {Pr : Option Value → Mem → Prop} (ρ : ca_R Γ none Pr) {h : Mem} (e4 : ¬ h.1 30 4 = -1) (hf : Pr none h) (x1 x2 x3 x4 x5 x6 : Int32) (v7 v8 v9 v10 : Option Value) : ca_G Γ 11 h 140 [some (.ref 30), some (.int x1), some (.int x2), some (.int x3), some (.int x4), some (.int x5), some (.int x6), v7, v8, v9, v10] [] := by
  refine g_aload_n (pc := 140) o dX3_readTerm_140 rfl ?_
  refine g_ldcS (pc := 141) (i := 11) o rfl dX3_readTerm_141 ?_
  refine g_callVi (pc := 143) o (c_takeWordX e4 11) mt_X3_takeWord mv_X3_takeWord lk_X3_60 rfl rfl rfl (by decide) rfl (Nat.le_of_ble_eq_true rfl) dX3_readTerm_143 ?_
  refine g_istore (pc := 146) o dX3_readTerm_146 (by decide) ?_
  show ca_G Γ 11 _ _ [_, _, _, _, _, _, _, _, _, _, _] _
  refine g_iload (pc := 148) o dX3_readTerm_148 rfl ?_
  refine g_if_eq (pc := 150) o 163 dX3_readTerm_150 (by decide) (fun c150 => ?_) (fun c150 => ?_)
  · skip
    refine g_iconst (pc := 163) o dX3_readTerm_163 0 rfl ?_
    refine g_istore (pc := 164) o dX3_readTerm_164 (by decide) ?_
    show ca_G Γ 11 _ _ [_, _, _, _, _, _, _, _, _, _, _] _
    refine g_iload (pc := 166) o dX3_readTerm_166 rfl ?_
    refine g_if_eq (pc := 168) o 182 dX3_readTerm_168 (by decide) (fun c168 => ?_) (fun c168 => ?_)
    · skip
      refine g_bipush (pc := 182) o dX3_readTerm_182 29 rfl ?_
      refine g_istore (pc := 184) o dX3_readTerm_184 (by decide) ?_
      show ca_G Γ 11 _ _ [_, _, _, _, _, _, _, _, _, _, _] _
      exact ft186 o ρ e4 hf _ _ _ _ _ _ _ _ _ _
    · skip
      exact absurd rfl c168
  · skip
    exact absurd rfl c150
set_option maxRecDepth 100000 in
set_option maxHeartbeats 800000 in
theorem ft94 {Γ : Fr} (o : ca_O Γ cX3_readTerm 11 RX3 7 149) {Pr : Option Value → Mem → Prop} (ρ : ca_R Γ none Pr) {h : Mem} (e4 : ¬ h.1 30 4 = -1) (hf : Pr none h) (x1 x2 x3 : Int32) (v4 v5 v6 v7 v8 v9 v10 : Option Value) : ca_G Γ 11 h 94 [some (.ref 30), some (.int x1), some (.int x2), some (.int x3), v4, v5, v6, v7, v8, v9, v10] [] := by
  refine g_aload_n (pc := 94) o dX3_readTerm_94 rfl ?_
  refine g_ldcS (pc := 95) (i := 10) o rfl dX3_readTerm_95 ?_
  refine g_callVi (pc := 97) o (c_takeWordX e4 10) mt_X3_takeWord mv_X3_takeWord lk_X3_60 rfl rfl rfl (by decide) rfl (Nat.le_of_ble_eq_true rfl) dX3_readTerm_97 ?_
  refine g_istore (pc := 100) o dX3_readTerm_100 (by decide) ?_
  show ca_G Γ 11 _ _ [_, _, _, _, _, _, _, _, _, _, _] _
  refine g_iload (pc := 102) o dX3_readTerm_102 rfl ?_
  refine g_if_eq (pc := 104) o 117 dX3_readTerm_104 (by decide) (fun c104 => ?_) (fun c104 => ?_)
  · skip
    refine g_iconst (pc := 117) o dX3_readTerm_117 0 rfl ?_
    refine g_istore (pc := 118) o dX3_readTerm_118 (by decide) ?_
    show ca_G Γ 11 _ _ [_, _, _, _, _, _, _, _, _, _, _] _
    refine g_iload (pc := 120) o dX3_readTerm_120 rfl ?_
    refine g_if_eq (pc := 122) o 136 dX3_readTerm_122 (by decide) (fun c122 => ?_) (fun c122 => ?_)
    · skip
      refine g_bipush (pc := 136) o dX3_readTerm_136 23 rfl ?_
      refine g_istore (pc := 138) o dX3_readTerm_138 (by decide) ?_
      show ca_G Γ 11 _ _ [_, _, _, _, _, _, _, _, _, _, _] _
      exact ft140 o ρ e4 hf _ _ _ _ _ _ _ _ _ _
    · skip
      exact absurd rfl c122
  · skip
    exact absurd rfl c104
set_option maxRecDepth 100000 in
set_option maxHeartbeats 800000 in
theorem ft86 {Γ : Fr} (o : ca_O Γ cX3_readTerm 11 RX3 7 149) {Pr : Option Value → Mem → Prop} (ρ : ca_R Γ none Pr) {h : Mem} (e4 : ¬ h.1 30 4 = -1) (hf : Pr none h) (x1 x2 : Int32) (v3 v4 v5 v6 v7 v8 v9 v10 : Option Value) : ca_G Γ 11 h 86 [some (.ref 30), some (.int x1), some (.int x2), v3, v4, v5, v6, v7, v8, v9, v10] [] := by
  refine g_aload_n (pc := 86) o dX3_readTerm_86 rfl ?_
  refine g_iconst (pc := 87) o dX3_readTerm_87 0 rfl ?_
  refine g_bipush (pc := 88) o dX3_readTerm_88 7 rfl ?_
  refine g_callVi (pc := 90) o (c_takeNumX e4 0 7) mt_X3_takeNumber mv_X3_takeNumber lk_X3_64 rfl rfl rfl (by decide) rfl (Nat.le_of_ble_eq_true rfl) dX3_readTerm_90 ?_
  refine g_istore_n (pc := 93) o dX3_readTerm_93 (by decide) ?_
  show ca_G Γ 11 _ _ [_, _, _, _, _, _, _, _, _, _, _] _
  exact ft94 o ρ e4 hf _ _ _ _ _ _ _ _ _ _
set_option maxRecDepth 100000 in
set_option maxHeartbeats 800000 in
theorem ft72 {Γ : Fr} (o : ca_O Γ cX3_readTerm 11 RX3 7 149) {Pr : Option Value → Mem → Prop} (ρ : ca_R Γ none Pr) {h : Mem} (e4 : ¬ h.1 30 4 = -1) (hf : Pr none h) (x1 x2 : Int32) (v3 v4 v5 v6 v7 v8 v9 v10 : Option Value) : ca_G Γ 11 h 72 [some (.ref 30), some (.int x1), some (.int x2), v3, v4, v5, v6, v7, v8, v9, v10] [] := by
  refine g_aload_n (pc := 72) o dX3_readTerm_72 rfl ?_
  refine g_ldcS (pc := 73) (i := 9) o rfl dX3_readTerm_73 ?_
  refine g_callVi (pc := 75) o (c_takeWordX e4 9) mt_X3_takeWord mv_X3_takeWord lk_X3_60 rfl rfl rfl (by decide) rfl (Nat.le_of_ble_eq_true rfl) dX3_readTerm_75 ?_
  refine g_if_ne (pc := 78) o 86 dX3_readTerm_78 (by decide) (fun c78 => ?_) (fun c78 => ?_)
  · skip
    exact absurd rfl c78
  · skip
    refine g_aload_n (pc := 81) o dX3_readTerm_81 rfl ?_
    refine g_callVi (pc := 82) o (c_refuseX e4) mt_X3_refuse mv_X3_refuse lk_X3_55 rfl rfl rfl (by decide) rfl (Nat.le_of_ble_eq_true rfl) dX3_readTerm_82 ?_
    refine g_pop (pc := 85) o dX3_readTerm_85 rfl ?_
    exact ft86 o ρ e4 hf _ _ _ _ _ _ _ _ _ _
set_option maxRecDepth 100000 in
set_option maxHeartbeats 800000 in
theorem ft65 {Γ : Fr} (o : ca_O Γ cX3_readTerm 11 RX3 7 149) {Pr : Option Value → Mem → Prop} (ρ : ca_R Γ none Pr) {h : Mem} (e4 : ¬ h.1 30 4 = -1) (hf : Pr none h) (x1 : Int32) (v2 v3 v4 v5 v6 v7 v8 v9 v10 : Option Value) : ca_G Γ 11 h 65 [some (.ref 30), some (.int x1), v2, v3, v4, v5, v6, v7, v8, v9, v10] [] := by
  refine g_aload_n (pc := 65) o dX3_readTerm_65 rfl ?_
  refine g_iconst (pc := 66) o dX3_readTerm_66 0 rfl ?_
  refine g_iconst (pc := 67) o dX3_readTerm_67 5 rfl ?_
  refine g_callVi (pc := 68) o (c_takeNumX e4 0 5) mt_X3_takeNumber mv_X3_takeNumber lk_X3_64 rfl rfl rfl (by decide) rfl (Nat.le_of_ble_eq_true rfl) dX3_readTerm_68 ?_
  refine g_istore_n (pc := 71) o dX3_readTerm_71 (by decide) ?_
  show ca_G Γ 11 _ _ [_, _, _, _, _, _, _, _, _, _, _] _
  exact ft72 o ρ e4 hf _ _ _ _ _ _ _ _ _ _
/-- the memory when a term is set down -/
def ttM (h : Mem) (m : Nat) (g : Nat → Nat) (a b : Int32) : Mem := mw (mw (mw (mw (mw (mw (mw (tdM h m 2 (nI (g 1)) (nI (g 2))) 32 (8 * m + 3) (nI (g 3))) 32 (8 * m + 4) (nI (g 4))) 32 (8 * m + 5) (nI (g 5))) 32 (8 * m + 6) (nI (g 6))) 32 (8 * m + 7) (nI (g 7))) 30 9 (a + 1)) 33 (g 1) (b + 1)
theorem tt_eq (h : Mem) (t : Nat × Nat) (m p q k a b c d : Nat) (a9 bP : Int32) : ttM h m (t, itF 2 p q k a b c d).2 a9 bP = mw (mw (mw (mw (mw (mw (mw (tdM h m 2 (nI p) (nI q)) 32 (8 * m + 3) (nI k)) 32 (8 * m + 4) (nI a)) 32 (8 * m + 5) (nI b)) 32 (8 * m + 6) (nI c)) 32 (8 * m + 7) (nI d)) 30 9 (a9 + 1)) 33 p (bP + 1) := rfl
theorem ne_m4 {h : Mem} {x : Nat} (hx : x ≤ 120) : ¬ (mw h 30 4 (nI x)).1 30 4 = -1 := nI_ne_m1 (by omega)
theorem RT.of4 {h : Mem} {f : Nat → Int32} {n : Nat} {t : Nat × Nat} (R : RT h f n t) : h.1 30 6 = nI t.1 := R.2.1
set_option maxRecDepth 100000 in
set_option maxHeartbeats 800000 in
theorem rt186 {Γ : Fr} (o : ca_O Γ cX3_readTerm 11 RX3 7 149) {Pr : Option Value → Mem → Prop} (ρ : ca_R Γ none Pr) {h0 : Mem} {f : Nat → Int32} {n : Nat} (T : TP h0 f n) (f4 : h0.1 30 4 = -1) (m : Nat) (f3 : h0.1 30 3 = nI m) (hm : m < 20) (a9 : Int32) (f9 : h0.1 30 9 = a9) (k p q : Nat) (hp6 : p < 6) (bP : Int32) (fP : h0.1 33 p = bP) (res : Nat ⊕ ((Nat × Nat) × (Nat → Nat))) (hfail : ∀ x h, x ≤ 120 → res = .inl x → offR h0 h → Pr none (mw h 30 4 (nI x))) (hok : ∀ y h, res = .inr y → RT h f n y.1 → offR h0 h → Pr none (ttM h m y.2 a9 bP)) {h : Mem} (t : Nat × Nat) (R : RT h f n t) (O : offR h0 h) (a b c d : Nat) (x4 x7 : Int32) (er : res = .inr (t, itF 2 p q k a b c d)) (v10 : Option Value) : ca_G Γ 11 h 186 [some (.ref 30), some (.int (nI k)), some (.int (nI p)), some (.int (nI q)), some (.int x4), some (.int (nI a)), some (.int (nI b)), some (.int x7), some (.int (nI c)), some (.int (nI d)), v10] [] := by
  have e4 : h.1 30 4 = -1 := (O.2 4 (by decide) (by decide) (by decide) (by decide)).trans f4
  have e3 : h.1 30 3 = nI m := (O.2 3 (by decide) (by decide) (by decide) (by decide)).trans f3
  have e9 : h.1 30 9 = a9 := (O.2 9 (by decide) (by decide) (by decide) (by decide)).trans f9
  have eP : h.1 33 p = bP := by rw [O.1 33 (by decide)]; exact fP
  refine g_aload_n (pc := 186) o dX3_readTerm_186 rfl ?_
  refine g_getIE (pc := 187) o 4 rfl rfl rfl inX3 (by decide) lf_X3_40 (e4) dX3_readTerm_187 ?_
  refine g_iconst (pc := 190) o dX3_readTerm_190 (-1) rfl ?_
  refine g_ic_ne (pc := 191) o 203 dX3_readTerm_191 (by decide) (fun c191 => ?_) (fun c191 => ?_)
  · skip
    exact absurd rfl c191
  · skip
    refine g_aload_n (pc := 194) o dX3_readTerm_194 rfl ?_
    refine g_getIE (pc := 195) o 3 rfl rfl rfl inX3 (by decide) lf_X3_25 (e3) dX3_readTerm_195 ?_
    refine g_bipush (pc := 198) o dX3_readTerm_198 20 rfl ?_
    refine g_ic_lt (pc := 200) o 204 dX3_readTerm_200 (by decide) (fun c200 => ?_) (fun c200 => ?_)
    · skip
      refine g_aload_n (pc := 204) o dX3_readTerm_204 rfl ?_
      refine g_getIE (pc := 205) o 3 rfl rfl rfl inX3 (by decide) lf_X3_25 (e3) dX3_readTerm_205 ?_
      refine g_bipush (pc := 208) o dX3_readTerm_208 8 rfl ?_
      refine g_imul (pc := 210) o dX3_readTerm_210 ?_
      refine g_istore (pc := 211) o dX3_readTerm_211 (by decide) ?_
      show ca_G Γ 11 _ _ [_, _, _, _, _, _, _, _, _, _, _] _
      refine g_aload_n (pc := 213) o dX3_readTerm_213 rfl ?_
      refine g_iconst (pc := 214) o dX3_readTerm_214 2 rfl ?_
      refine g_iload_n (pc := 215) o dX3_readTerm_215 rfl ?_
      refine g_iload_n (pc := 216) o dX3_readTerm_216 rfl ?_
      refine g_callVv (pc := 217) o (c_setDown e4 m e3 hm 2 (nI p) (nI q)) mt_X3_setDown mv_X3_setDown lk_X3_71 rfl rfl rfl (by decide) rfl (Nat.le_of_ble_eq_true rfl) dX3_readTerm_217 ?_
      refine g_aload_n (pc := 220) o dX3_readTerm_220 rfl ?_
      refine g_getR (pc := 221) o 2 rfl rfl rfl inX3 (by decide) lf_X3_15 dX3_readTerm_221 ?_
      refine g_iload (pc := 224) o dX3_readTerm_224 rfl ?_
      refine g_iconst (pc := 226) o dX3_readTerm_226 3 rfl ?_
      refine g_iadd (pc := 227) o dX3_readTerm_227 ?_
      refine g_iload_n (pc := 228) o dX3_readTerm_228 rfl ?_
      refine n_iast (pc := 229) o (8 * m + 3) (ix8 m 3) rfl ((by omega)) (by decide) dX3_readTerm_229 ?_
      refine g_aload_n (pc := 230) o dX3_readTerm_230 rfl ?_
      refine g_getR (pc := 231) o 2 rfl rfl rfl inX3 (by decide) lf_X3_15 dX3_readTerm_231 ?_
      refine g_iload (pc := 234) o dX3_readTerm_234 rfl ?_
      refine g_iconst (pc := 236) o dX3_readTerm_236 4 rfl ?_
      refine g_iadd (pc := 237) o dX3_readTerm_237 ?_
      refine g_iload (pc := 238) o dX3_readTerm_238 rfl ?_
      refine n_iast (pc := 240) o (8 * m + 4) (ix8 m 4) rfl ((by omega)) (by decide) dX3_readTerm_240 ?_
      refine g_aload_n (pc := 241) o dX3_readTerm_241 rfl ?_
      refine g_getR (pc := 242) o 2 rfl rfl rfl inX3 (by decide) lf_X3_15 dX3_readTerm_242 ?_
      refine g_iload (pc := 245) o dX3_readTerm_245 rfl ?_
      refine g_iconst (pc := 247) o dX3_readTerm_247 5 rfl ?_
      refine g_iadd (pc := 248) o dX3_readTerm_248 ?_
      refine g_iload (pc := 249) o dX3_readTerm_249 rfl ?_
      refine n_iast (pc := 251) o (8 * m + 5) (ix8 m 5) rfl ((by omega)) (by decide) dX3_readTerm_251 ?_
      refine g_aload_n (pc := 252) o dX3_readTerm_252 rfl ?_
      refine g_getR (pc := 253) o 2 rfl rfl rfl inX3 (by decide) lf_X3_15 dX3_readTerm_253 ?_
      refine g_iload (pc := 256) o dX3_readTerm_256 rfl ?_
      refine g_bipush (pc := 258) o dX3_readTerm_258 6 rfl ?_
      refine g_iadd (pc := 260) o dX3_readTerm_260 ?_
      refine g_iload (pc := 261) o dX3_readTerm_261 rfl ?_
      refine n_iast (pc := 263) o (8 * m + 6) (ix8 m 6) rfl ((by omega)) (by decide) dX3_readTerm_263 ?_
      refine g_aload_n (pc := 264) o dX3_readTerm_264 rfl ?_
      refine g_getR (pc := 265) o 2 rfl rfl rfl inX3 (by decide) lf_X3_15 dX3_readTerm_265 ?_
      refine g_iload (pc := 268) o dX3_readTerm_268 rfl ?_
      refine g_bipush (pc := 270) o dX3_readTerm_270 7 rfl ?_
      refine g_iadd (pc := 272) o dX3_readTerm_272 ?_
      refine g_iload (pc := 273) o dX3_readTerm_273 rfl ?_
      refine n_iast (pc := 275) o (8 * m + 7) (ix8 m 7) rfl ((by omega)) (by decide) dX3_readTerm_275 ?_
      refine g_aload_n (pc := 276) o dX3_readTerm_276 rfl ?_
      refine g_dup (pc := 277) o dX3_readTerm_277 rfl ?_
      refine g_getIE (pc := 278) o 9 rfl rfl rfl inX3 (by decide) lf_X3_33 (e9) dX3_readTerm_278 ?_
      refine g_iconst (pc := 281) o dX3_readTerm_281 1 rfl ?_
      refine g_iadd (pc := 282) o dX3_readTerm_282 ?_
      refine g_put (pc := 283) o 9 rfl rfl rfl inX3 tyX3_ok nmX3 (by decide) lf_X3_33 rfl rfl rfl dX3_readTerm_283 ?_
      refine g_aload_n (pc := 286) o dX3_readTerm_286 rfl ?_
      refine g_getR (pc := 287) o 10 rfl rfl rfl inX3 (by decide) lf_X3_18 dX3_readTerm_287 ?_
      refine g_iload_n (pc := 290) o dX3_readTerm_290 rfl ?_
      refine g_dup2 (pc := 291) o dX3_readTerm_291 rfl rfl ?_
      refine n_ialdE (pc := 292) o p (rfl) rfl ((by omega)) (by decide) (eP) dX3_readTerm_292 ?_
      refine g_iconst (pc := 293) o dX3_readTerm_293 1 rfl ?_
      refine g_iadd (pc := 294) o dX3_readTerm_294 ?_
      refine n_iast (pc := 295) o p (rfl) rfl ((by omega)) (by decide) dX3_readTerm_295 ?_
      exact g_vret o ρ dX3_readTerm_296 (by have z := hok _ h er R O; rw [tt_eq] at z; exact z)
    · skip
      exact absurd ((nI_ltI (a := m) (b := 20) (by omega) (by decide)).mpr hm) c200
set_option maxRecDepth 100000 in
set_option maxHeartbeats 800000 in
theorem rt140 {Γ : Fr} (o : ca_O Γ cX3_readTerm 11 RX3 7 149) {Pr : Option Value → Mem → Prop} (ρ : ca_R Γ none Pr) {h0 : Mem} {f : Nat → Int32} {n : Nat} (T : TP h0 f n) (f4 : h0.1 30 4 = -1) (m : Nat) (f3 : h0.1 30 3 = nI m) (hm : m < 20) (a9 : Int32) (f9 : h0.1 30 9 = a9) (k p q : Nat) (hp6 : p < 6) (bP : Int32) (fP : h0.1 33 p = bP) (res : Nat ⊕ ((Nat × Nat) × (Nat → Nat))) (hfail : ∀ x h, x ≤ 120 → res = .inl x → offR h0 h → Pr none (mw h 30 4 (nI x))) (hok : ∀ y h, res = .inr y → RT h f n y.1 → offR h0 h → Pr none (ttM h m y.2 a9 bP)) {h : Mem} (t : Nat × Nat) (ok : tkR f n t) (R : RT h f n t) (O : offR h0 h) (a b : Nat) (x4 : Int32) (er : res = match pOpt f n t 11 29 with | .inl x => .inl x | .inr z => .inr (z.1, itF 2 p q k a b z.2.1 z.2.2)) (v7 v8 v9 v10 : Option Value) : ca_G Γ 11 h 140 [some (.ref 30), some (.int (nI k)), some (.int (nI p)), some (.int (nI q)), some (.int x4), some (.int (nI a)), some (.int (nI b)), v7, v8, v9, v10] [] := by
  have e4 : h.1 30 4 = -1 := (O.2 4 (by decide) (by decide) (by decide) (by decide)).trans f4
  have T1 := T.of O
  have l120 := T.2.1
  unfold pOpt at er
  refine g_aload_n (pc := 140) o dX3_readTerm_140 rfl ?_
  refine g_ldcS (pc := 141) (i := 11) o rfl dX3_readTerm_141 ?_
  refine g_callVQi (pc := 143) o (c_takeWord T1 R ok.1 e4 11 (by decide)) mt_X3_takeWord mv_X3_takeWord lk_X3_60 rfl rfl rfl (by decide) rfl (Nat.le_of_ble_eq_true rfl) dX3_readTerm_143 ?_
  rintro r h1 w
  rcases w with ⟨w, rfl, R1, O1⟩ | ⟨w, rfl, rfl⟩
  · rw [if_pos w] at er
    have ok1 := nx_R ok
    have O2 := O.tr O1
    have T2 := T.of O2
    have e42 : h1.1 30 4 = -1 := (O2.2 4 (by decide) (by decide) (by decide) (by decide)).trans f4
    unfold pSpan at er
    refine g_istore (pc := 146) o dX3_readTerm_146 (by decide) ?_
    show ca_G Γ 11 _ _ [_, _, _, _, _, _, _, _, _, _, _] _
    refine g_iload (pc := 148) o dX3_readTerm_148 rfl ?_
    refine g_if_eq (pc := 150) o 163 dX3_readTerm_150 (by decide) (fun c150 => ?_) (fun c150 => ?_)
    · skip
      exact absurd c150 (by decide)
    · skip
      refine g_aload_n (pc := 153) o dX3_readTerm_153 rfl ?_
      refine g_iconst (pc := 154) o dX3_readTerm_154 0 rfl ?_
      refine g_bipush (pc := 155) o dX3_readTerm_155 29 rfl ?_
      refine g_callVQi (pc := 157) o (c_takeNum T2 R1 ok1.1 e42 0 29 (by decide) (by decide)) mt_X3_takeNumber mv_X3_takeNumber lk_X3_64 rfl rfl rfl (by decide) rfl (Nat.le_of_ble_eq_true rfl) dX3_readTerm_157 ?_
      rintro r h2 u
      rcases u with ⟨v, u, rfl, R2, O3⟩ | ⟨u, rfl, rfl⟩
      · rw [u] at er
        simp only at er
        have O4 := O2.tr O3
        have T3 := T.of O4
        have ok2 := nx_R ok1
        have vl := (num_len ok1 u).2.2.1
        have e43 : h2.1 30 4 = -1 := (O4.2 4 (by decide) (by decide) (by decide) (by decide)).trans f4
        refine g_goto (pc := 160) o 164 dX3_readTerm_160 (by decide) ?_
        refine g_istore (pc := 164) o dX3_readTerm_164 (by decide) ?_
        show ca_G Γ 11 _ _ [_, _, _, _, _, _, _, _, _, _, _] _
        refine g_iload (pc := 166) o dX3_readTerm_166 rfl ?_
        refine g_if_eq (pc := 168) o 182 dX3_readTerm_168 (by decide) (fun c168 => ?_) (fun c168 => ?_)
        · skip
          exact absurd c168 (by decide)
        · skip
          refine g_aload_n (pc := 171) o dX3_readTerm_171 rfl ?_
          refine g_iload (pc := 172) o dX3_readTerm_172 rfl ?_
          refine g_bipush (pc := 174) o dX3_readTerm_174 29 rfl ?_
          refine g_callVQi (pc := 176) o (c_takeNum T3 R2 ok2.1 e43 v 29 (by omega) (by decide)) mt_X3_takeNumber mv_X3_takeNumber lk_X3_64 rfl rfl rfl (by decide) rfl (Nat.le_of_ble_eq_true rfl) dX3_readTerm_176 ?_
          rintro r h3 u2
          rcases u2 with ⟨v2, u2, rfl, R3, O5⟩ | ⟨u2, rfl, rfl⟩
          · rw [u2] at er
            simp only at er
            refine g_goto (pc := 179) o 184 dX3_readTerm_179 (by decide) ?_
            refine g_istore (pc := 184) o dX3_readTerm_184 (by decide) ?_
            show ca_G Γ 11 _ _ [_, _, _, _, _, _, _, _, _, _, _] _
            exact rt186 o ρ T f4 m f3 hm a9 f9 k p q hp6 bP fP res hfail hok _ R3 (O4.tr O5) a b v v2 _ _ er _
          · rw [u2] at er
            simp only at er
            have xl : (nxF f n (nxF f n t)).1 ≤ 120 := by have := ok2.1; omega
            refine g_goto (pc := 179) o 184 dX3_readTerm_179 (by decide) ?_
            refine g_istore (pc := 184) o dX3_readTerm_184 (by decide) ?_
            show ca_G Γ 11 _ _ [_, _, _, _, _, _, _, _, _, _, _] _
            exact ft186 o ρ (ne_m4 xl) (hfail _ _ xl er O4) _ _ _ _ _ _ _ _ _ _
      · rw [u] at er
        simp only at er
        have xl : (nxF f n t).1 ≤ 120 := by have := ok1.1; omega
        refine g_goto (pc := 160) o 164 dX3_readTerm_160 (by decide) ?_
        refine g_istore (pc := 164) o dX3_readTerm_164 (by decide) ?_
        show ca_G Γ 11 _ _ [_, _, _, _, _, _, _, _, _, _, _] _
        refine g_iload (pc := 166) o dX3_readTerm_166 rfl ?_
        refine g_if_eq (pc := 168) o 182 dX3_readTerm_168 (by decide) (fun c168 => ?_) (fun c168 => ?_)
        · skip
          exact absurd c168 (by decide)
        · skip
          refine g_aload_n (pc := 171) o dX3_readTerm_171 rfl ?_
          refine g_iload (pc := 172) o dX3_readTerm_172 rfl ?_
          refine g_bipush (pc := 174) o dX3_readTerm_174 29 rfl ?_
          refine g_callVi (pc := 176) o (c_takeNumX (ne_m4 xl) 0 29) mt_X3_takeNumber mv_X3_takeNumber lk_X3_64 rfl rfl rfl (by decide) rfl (Nat.le_of_ble_eq_true rfl) dX3_readTerm_176 ?_
          refine g_goto (pc := 179) o 184 dX3_readTerm_179 (by decide) ?_
          refine g_istore (pc := 184) o dX3_readTerm_184 (by decide) ?_
          show ca_G Γ 11 _ _ [_, _, _, _, _, _, _, _, _, _, _] _
          exact ft186 o ρ (ne_m4 xl) (hfail _ _ xl er O2) _ _ _ _ _ _ _ _ _ _
  · rw [if_neg w] at er
    simp only at er
    refine g_istore (pc := 146) o dX3_readTerm_146 (by decide) ?_
    show ca_G Γ 11 _ _ [_, _, _, _, _, _, _, _, _, _, _] _
    refine g_iload (pc := 148) o dX3_readTerm_148 rfl ?_
    refine g_if_eq (pc := 150) o 163 dX3_readTerm_150 (by decide) (fun c150 => ?_) (fun c150 => ?_)
    · skip
      refine g_iconst (pc := 163) o dX3_readTerm_163 0 rfl ?_
      refine g_istore (pc := 164) o dX3_readTerm_164 (by decide) ?_
      show ca_G Γ 11 _ _ [_, _, _, _, _, _, _, _, _, _, _] _
      refine g_iload (pc := 166) o dX3_readTerm_166 rfl ?_
      refine g_if_eq (pc := 168) o 182 dX3_readTerm_168 (by decide) (fun c168 => ?_) (fun c168 => ?_)
      · skip
        refine g_bipush (pc := 182) o dX3_readTerm_182 29 rfl ?_
        refine g_istore (pc := 184) o dX3_readTerm_184 (by decide) ?_
        show ca_G Γ 11 _ _ [_, _, _, _, _, _, _, _, _, _, _] _
        exact rt186 o ρ T f4 m f3 hm a9 f9 k p q hp6 bP fP res hfail hok t R O a b 0 29 _ _ er _
      · skip
        exact absurd rfl c168
    · skip
      exact absurd rfl c150
set_option maxRecDepth 100000 in
set_option maxHeartbeats 800000 in
theorem rt94 {Γ : Fr} (o : ca_O Γ cX3_readTerm 11 RX3 7 149) {Pr : Option Value → Mem → Prop} (ρ : ca_R Γ none Pr) {h0 : Mem} {f : Nat → Int32} {n : Nat} (T : TP h0 f n) (f4 : h0.1 30 4 = -1) (m : Nat) (f3 : h0.1 30 3 = nI m) (hm : m < 20) (a9 : Int32) (f9 : h0.1 30 9 = a9) (k p q : Nat) (hp6 : p < 6) (bP : Int32) (fP : h0.1 33 p = bP) (res : Nat ⊕ ((Nat × Nat) × (Nat → Nat))) (hfail : ∀ x h, x ≤ 120 → res = .inl x → offR h0 h → Pr none (mw h 30 4 (nI x))) (hok : ∀ y h, res = .inr y → RT h f n y.1 → offR h0 h → Pr none (ttM h m y.2 a9 bP)) {h : Mem} (t : Nat × Nat) (ok : tkR f n t) (R : RT h f n t) (O : offR h0 h) (er : res = pTail f n t k p q) (v4 v5 v6 v7 v8 v9 v10 : Option Value) : ca_G Γ 11 h 94 [some (.ref 30), some (.int (nI k)), some (.int (nI p)), some (.int (nI q)), v4, v5, v6, v7, v8, v9, v10] [] := by
  have e4 : h.1 30 4 = -1 := (O.2 4 (by decide) (by decide) (by decide) (by decide)).trans f4
  have T1 := T.of O
  have l120 := T.2.1
  unfold pTail at er
  have eo : pOpt f n t 10 23 = if wdP f t 10 then pSpan f n (nxF f n t) 23 else .inr (t, 0, 23) := rfl
  refine g_aload_n (pc := 94) o dX3_readTerm_94 rfl ?_
  refine g_ldcS (pc := 95) (i := 10) o rfl dX3_readTerm_95 ?_
  refine g_callVQi (pc := 97) o (c_takeWord T1 R ok.1 e4 10 (by decide)) mt_X3_takeWord mv_X3_takeWord lk_X3_60 rfl rfl rfl (by decide) rfl (Nat.le_of_ble_eq_true rfl) dX3_readTerm_97 ?_
  rintro r h1 w
  rcases w with ⟨w, rfl, R1, O1⟩ | ⟨w, rfl, rfl⟩
  · rw [if_pos w] at eo
    have ok1 := nx_R ok
    have O2 := O.tr O1
    have T2 := T.of O2
    have e42 : h1.1 30 4 = -1 := (O2.2 4 (by decide) (by decide) (by decide) (by decide)).trans f4
    unfold pSpan at eo
    refine g_istore (pc := 100) o dX3_readTerm_100 (by decide) ?_
    show ca_G Γ 11 _ _ [_, _, _, _, _, _, _, _, _, _, _] _
    refine g_iload (pc := 102) o dX3_readTerm_102 rfl ?_
    refine g_if_eq (pc := 104) o 117 dX3_readTerm_104 (by decide) (fun c104 => ?_) (fun c104 => ?_)
    · skip
      exact absurd c104 (by decide)
    · skip
      refine g_aload_n (pc := 107) o dX3_readTerm_107 rfl ?_
      refine g_iconst (pc := 108) o dX3_readTerm_108 0 rfl ?_
      refine g_bipush (pc := 109) o dX3_readTerm_109 23 rfl ?_
      refine g_callVQi (pc := 111) o (c_takeNum T2 R1 ok1.1 e42 0 23 (by decide) (by decide)) mt_X3_takeNumber mv_X3_takeNumber lk_X3_64 rfl rfl rfl (by decide) rfl (Nat.le_of_ble_eq_true rfl) dX3_readTerm_111 ?_
      rintro r h2 u
      rcases u with ⟨v, u, rfl, R2, O3⟩ | ⟨u, rfl, rfl⟩
      · rw [u] at eo
        simp only at eo
        have O4 := O2.tr O3
        have T3 := T.of O4
        have ok2 := nx_R ok1
        have vl := (num_len ok1 u).2.2.1
        have e43 : h2.1 30 4 = -1 := (O4.2 4 (by decide) (by decide) (by decide) (by decide)).trans f4
        refine g_goto (pc := 114) o 118 dX3_readTerm_114 (by decide) ?_
        refine g_istore (pc := 118) o dX3_readTerm_118 (by decide) ?_
        show ca_G Γ 11 _ _ [_, _, _, _, _, _, _, _, _, _, _] _
        refine g_iload (pc := 120) o dX3_readTerm_120 rfl ?_
        refine g_if_eq (pc := 122) o 136 dX3_readTerm_122 (by decide) (fun c122 => ?_) (fun c122 => ?_)
        · skip
          exact absurd c122 (by decide)
        · skip
          refine g_aload_n (pc := 125) o dX3_readTerm_125 rfl ?_
          refine g_iload (pc := 126) o dX3_readTerm_126 rfl ?_
          refine g_bipush (pc := 128) o dX3_readTerm_128 23 rfl ?_
          refine g_callVQi (pc := 130) o (c_takeNum T3 R2 ok2.1 e43 v 23 (by omega) (by decide)) mt_X3_takeNumber mv_X3_takeNumber lk_X3_64 rfl rfl rfl (by decide) rfl (Nat.le_of_ble_eq_true rfl) dX3_readTerm_130 ?_
          rintro r h3 u2
          rcases u2 with ⟨v2, u2, rfl, R3, O5⟩ | ⟨u2, rfl, rfl⟩
          · rw [u2] at eo
            simp only at eo
            rw [eo] at er
            refine g_goto (pc := 133) o 138 dX3_readTerm_133 (by decide) ?_
            refine g_istore (pc := 138) o dX3_readTerm_138 (by decide) ?_
            show ca_G Γ 11 _ _ [_, _, _, _, _, _, _, _, _, _, _] _
            exact rt140 o ρ T f4 m f3 hm a9 f9 k p q hp6 bP fP res hfail hok _ (nx_R ok2) R3 (O4.tr O5) v v2 _ er _ _ _ _
          · rw [u2] at eo
            simp only at eo
            rw [eo] at er
            have xl : (nxF f n (nxF f n t)).1 ≤ 120 := by have := ok2.1; omega
            refine g_goto (pc := 133) o 138 dX3_readTerm_133 (by decide) ?_
            refine g_istore (pc := 138) o dX3_readTerm_138 (by decide) ?_
            show ca_G Γ 11 _ _ [_, _, _, _, _, _, _, _, _, _, _] _
            exact ft140 o ρ (ne_m4 xl) (hfail _ _ xl er O4) _ _ _ _ _ _ _ _ _ _
      · rw [u] at eo
        simp only at eo
        rw [eo] at er
        have xl : (nxF f n t).1 ≤ 120 := by have := ok1.1; omega
        refine g_goto (pc := 114) o 118 dX3_readTerm_114 (by decide) ?_
        refine g_istore (pc := 118) o dX3_readTerm_118 (by decide) ?_
        show ca_G Γ 11 _ _ [_, _, _, _, _, _, _, _, _, _, _] _
        refine g_iload (pc := 120) o dX3_readTerm_120 rfl ?_
        refine g_if_eq (pc := 122) o 136 dX3_readTerm_122 (by decide) (fun c122 => ?_) (fun c122 => ?_)
        · skip
          exact absurd c122 (by decide)
        · skip
          refine g_aload_n (pc := 125) o dX3_readTerm_125 rfl ?_
          refine g_iload (pc := 126) o dX3_readTerm_126 rfl ?_
          refine g_bipush (pc := 128) o dX3_readTerm_128 23 rfl ?_
          refine g_callVi (pc := 130) o (c_takeNumX (ne_m4 xl) 0 23) mt_X3_takeNumber mv_X3_takeNumber lk_X3_64 rfl rfl rfl (by decide) rfl (Nat.le_of_ble_eq_true rfl) dX3_readTerm_130 ?_
          refine g_goto (pc := 133) o 138 dX3_readTerm_133 (by decide) ?_
          refine g_istore (pc := 138) o dX3_readTerm_138 (by decide) ?_
          show ca_G Γ 11 _ _ [_, _, _, _, _, _, _, _, _, _, _] _
          exact ft140 o ρ (ne_m4 xl) (hfail _ _ xl er O2) _ _ _ _ _ _ _ _ _ _
  · rw [if_neg w] at eo
    rw [eo] at er
    refine g_istore (pc := 100) o dX3_readTerm_100 (by decide) ?_
    show ca_G Γ 11 _ _ [_, _, _, _, _, _, _, _, _, _, _] _
    refine g_iload (pc := 102) o dX3_readTerm_102 rfl ?_
    refine g_if_eq (pc := 104) o 117 dX3_readTerm_104 (by decide) (fun c104 => ?_) (fun c104 => ?_)
    · skip
      refine g_iconst (pc := 117) o dX3_readTerm_117 0 rfl ?_
      refine g_istore (pc := 118) o dX3_readTerm_118 (by decide) ?_
      show ca_G Γ 11 _ _ [_, _, _, _, _, _, _, _, _, _, _] _
      refine g_iload (pc := 120) o dX3_readTerm_120 rfl ?_
      refine g_if_eq (pc := 122) o 136 dX3_readTerm_122 (by decide) (fun c122 => ?_) (fun c122 => ?_)
      · skip
        refine g_bipush (pc := 136) o dX3_readTerm_136 23 rfl ?_
        refine g_istore (pc := 138) o dX3_readTerm_138 (by decide) ?_
        show ca_G Γ 11 _ _ [_, _, _, _, _, _, _, _, _, _, _] _
        exact rt140 o ρ T f4 m f3 hm a9 f9 k p q hp6 bP fP res hfail hok t ok R O 0 23 _ er _ _ _ _
      · skip
        exact absurd rfl c122
    · skip
      exact absurd rfl c104
/-- the reader between items: what is read, how many items, how many terms there will be -/
def RSt (h : Mem) (f : Nat → Int32) (n : Nat) (t : Nat × Nat) (m : Nat) (s : Nat → Int32) : Prop := TP h f n ∧ RT h f n t ∧ h.1 30 4 = -1 ∧ h.1 30 3 = nI m ∧ h.1 30 9 = nI (nT s) ∧ ∀ p, p < 6 → h.1 33 p = nI (cntP s (nI p) (nT s))
def offQ (h h2 : Mem) : Prop := ∀ c, c ≠ 30 → c ≠ 32 → c ≠ 33 → h2.1 c = h.1 c
def rowO (h : Mem) (m : Nat) (g : Nat → Nat) : Prop := (∀ i, i < 3 → h.1 32 (8 * m + i) = nI (g i)) ∧ (g 0 = 2 → ∀ i, i < 8 → h.1 32 (8 * m + i) = nI (g i))
def itP (h0 h2 : Mem) (f : Nat → Int32) (n m : Nat) (s : Nat → Int32) (r : Nat ⊕ ((Nat × Nat) × (Nat → Nat))) : Prop := offQ h0 h2 ∧ ((∃ x, x ≤ 120 ∧ r = .inl x ∧ h2.1 30 4 = nI x) ∨ (∃ y, r = .inr y ∧ RSt h2 f n y.1 (m + 1) (apI y.2 s) ∧ rowO h2 m y.2 ∧ ∀ j, j < 8 * m → h2.1 32 j = h0.1 32 j))
theorem nt_nT {s : Nat → Int32} (g : Nat → Int32) (h : nT s < 12) : nT (ntS s (nT s) g) = nT s + 1 := by
  show ca_n (ntS s (nT s) g 189) = _
  rw [nt_189]
  exact nI_clamp (by omega)
theorem nt_cnt {s : Nat → Int32} (g : Nat → Int32) (h : nT s < 12) (p : Int32) : cntP (ntS s (nT s) g) p (nT s + 1) = cntP s p (nT s) + (if g 1 = p then 1 else 0) := by
  show cntP (ntS s (nT s) g) p (nT s) + (if tmF (ntS s (nT s) g) (nT s) 1 = p then 1 else 0) = _
  rw [cntP_c (s := s) (nT s) (fun t ht => by rw [nt_tm s (nT s) g (by decide), if_neg (by omega)]), nt_tm s (nT s) g (by decide), if_pos rfl]
theorem ap_2 {g : Nat → Nat} (h : g 0 = 2) (s : Nat → Int32) : apI g s = ntS s (nT s) (tgF g) := by
  unfold apI
  rw [if_neg (by omega), if_neg (by omega)]
theorem tt_ok {h0 h : Mem} {f : Nat → Int32} {n : Nat} {t t2 : Nat × Nat} {m : Nat} {s : Nat → Int32} (S : RSt h0 f n t m s) {g : Nat → Nat} (g0 : g 0 = 2) (g1 : g 1 < 6) (n12 : nT s < 12) (R : RT h f n t2) (O : offR h0 h) : itP h0 (ttM h m g (nI (nT s)) (nI (cntP s (nI (g 1)) (nT s)))) f n m s (.inr (t2, g)) := by
  obtain ⟨T, _, f4, f3, f9, f33⟩ := S
  have e32 : (ttM h m g (nI (nT s)) (nI (cntP s (nI (g 1)) (nT s)))).1 32 = upd (upd (upd (upd (upd (upd (upd (upd (h.1 32) (8 * m + 0) 2) (8 * m + 1) (nI (g 1))) (8 * m + 2) (nI (g 2))) (8 * m + 3) (nI (g 3))) (8 * m + 4) (nI (g 4))) (8 * m + 5) (nI (g 5))) (8 * m + 6) (nI (g 6))) (8 * m + 7) (nI (g 7)) := rfl
  have rowA : ∀ i, i < 8 → (ttM h m g (nI (nT s)) (nI (cntP s (nI (g 1)) (nT s)))).1 32 (8 * m + i) = nI (g i) := fun i hi => by
    rw [e32]
    unfold upd
    rcases (by omega : i = 0 ∨ i = 1 ∨ i = 2 ∨ i = 3 ∨ i = 4 ∨ i = 5 ∨ i = 6 ∨ i = 7) with rfl | rfl | rfl | rfl | rfl | rfl | rfl | rfl
    · rw [if_neg (by omega), if_neg (by omega), if_neg (by omega), if_neg (by omega), if_neg (by omega), if_neg (by omega), if_neg (by omega), if_pos rfl, g0]; rfl
    · rw [if_neg (by omega), if_neg (by omega), if_neg (by omega), if_neg (by omega), if_neg (by omega), if_neg (by omega), if_pos rfl]
    · rw [if_neg (by omega), if_neg (by omega), if_neg (by omega), if_neg (by omega), if_neg (by omega), if_pos rfl]
    · rw [if_neg (by omega), if_neg (by omega), if_neg (by omega), if_neg (by omega), if_pos rfl]
    · rw [if_neg (by omega), if_neg (by omega), if_neg (by omega), if_pos rfl]
    · rw [if_neg (by omega), if_neg (by omega), if_pos rfl]
    · rw [if_neg (by omega), if_pos rfl]
    · rw [if_pos rfl]
  have offC : ∀ c, c ≠ 30 → c ≠ 32 → c ≠ 33 → (ttM h m g (nI (nT s)) (nI (cntP s (nI (g 1)) (nT s)))).1 c = h.1 c := fun c h1 h2 h3 => by
    unfold ttM tdM
    rw [mw_ne _ _ _ h3, mw_ne _ _ _ h1, mw_ne _ _ _ h2, mw_ne _ _ _ h2, mw_ne _ _ _ h2, mw_ne _ _ _ h2, mw_ne _ _ _ h2, mw_ne _ _ _ h1, mw_ne _ _ _ h2, mw_ne _ _ _ h2, mw_ne _ _ _ h2]
  have T1 := T.of O
  refine ⟨fun c h1 h2 h3 => (offC c h1 h2 h3).trans (O.1 c h1), Or.inr ⟨_, rfl, ⟨⟨?_, T1.2.1, fun j hj => ?_⟩, ⟨?_, ?_, ?_, ?_⟩, ?_, ?_, ?_, fun p2 hp2 => ?_⟩, ⟨fun i hi => rowA i (by omega), fun _ => rowA⟩, fun j hj => ?_⟩⟩
  · exact T1.1
  · rw [offC 31 (by decide) (by decide) (by decide)]; exact T1.2.2 j hj
  · exact R.1
  · exact R.2.1
  · exact R.2.2.1
  · exact R.2.2.2
  · exact (O.2 4 (by decide) (by decide) (by decide) (by decide)).trans f4
  · exact nI_1 m
  · rw [ap_2 g0, nt_nT _ n12]; exact nI_1 _
  · rw [ap_2 g0, nt_nT _ n12, nt_cnt _ n12]
    show upd (h.1 33) (g 1) (nI (cntP s (nI (g 1)) (nT s)) + 1) p2 = _
    rw [show tgF g 1 = nI (g 1) from rfl]
    unfold upd
    by_cases w : p2 = g 1
    · rw [if_pos w, w, if_pos rfl]; exact nI_1 _
    · rw [if_neg w, if_neg (fun y => w ((nI_eq (by omega) (by omega)).mp y).symm), Nat.add_zero, O.1 33 (by decide)]; exact f33 p2 hp2
  · rw [e32]
    unfold upd
    rw [if_neg (by omega), if_neg (by omega), if_neg (by omega), if_neg (by omega), if_neg (by omega), if_neg (by omega), if_neg (by omega), if_neg (by omega), O.1 32 (by decide)]
theorem fl_ok {h0 h : Mem} {f : Nat → Int32} {n m : Nat} {s : Nat → Int32} {x : Nat} (hx : x ≤ 120) (O : offR h0 h) : itP h0 (mw h 30 4 (nI x)) f n m s (.inl x) := ⟨fun c h1 _ _ => (mw_ne _ _ _ h1).trans (O.1 c h1), Or.inl ⟨x, hx, rfl, rfl⟩⟩
def prT (f : Nat → Int32) (n : Nat) (s : Nat → Int32) (t : Nat × Nat) : Nat ⊕ ((Nat × Nat) × (Nat → Nat)) := match fnF (kdB f t) 7 0 with
  | some k => pTerm f n s t k
  | none => .inl t.1
set_option maxRecDepth 100000 in
set_option maxHeartbeats 400000 in
theorem c_readTerm {h : Mem} {f : Nat → Int32} {n : Nat} {t : Nat × Nat} {m : Nat} {s : Nat → Int32} (S : RSt h f n t m s) (ok : tkR f n t) (hm : m < 20) (hT : nT s ≤ 12) : Ct yX3_readTerm cX3_readTerm 11 none 7 149 [.ref 30] h (Qv (fun h2 => itP h h2 f n m s (prT f n s t))) := by
  refine Ct.of (by decide) (Nat.le_of_ble_eq_true rfl) (fun Γ o ρ => ?_)
  show ca_G Γ 11 _ _ [_, _, _, _, _, _, _, _, _, _, _] _
  have S2 := S
  obtain ⟨T, R, f4, f3, f9, f33⟩ := S
  have l120 := T.2.1
  have ck := c_kindOf T R ok.1
  have x0 : t.1 ≤ 120 := by have := ok.1; omega
  have er0 : prT f n s t = match fnF (kdB f t) 7 0 with | some k => pTerm f n s t k | none => .inl t.1 := rfl
  cases e0 : fnF (kdB f t) 7 0 with
  | none =>
    rw [e0] at ck er0
    simp only at er0
    rw [er0] at ρ
    refine g_aload_n (pc := 0) o dX3_readTerm_0 rfl ?_
    refine g_callVi (pc := 1) o (ck) mt_X3_kindOfWord mv_X3_kindOfWord lk_X3_80 rfl rfl rfl (by decide) rfl (Nat.le_of_ble_eq_true rfl) dX3_readTerm_1 ?_
    refine g_istore_n (pc := 4) o dX3_readTerm_4 (by decide) ?_
    show ca_G Γ 11 _ _ [_, _, _, _, _, _, _, _, _, _, _] _
    refine g_iload_n (pc := 5) o dX3_readTerm_5 rfl ?_
    refine g_iconst (pc := 6) o dX3_readTerm_6 (-1) rfl ?_
    refine g_ic_eq (pc := 7) o 19 dX3_readTerm_7 (by decide) (fun c7 => ?_) (fun c7 => ?_)
    · skip
      refine g_aload_n (pc := 19) o dX3_readTerm_19 rfl ?_
      refine g_callVi (pc := 20) o (c_refuse R.2.1 f4) mt_X3_refuse mv_X3_refuse lk_X3_55 rfl rfl rfl (by decide) rfl (Nat.le_of_ble_eq_true rfl) dX3_readTerm_20 ?_
      refine g_pop (pc := 23) o dX3_readTerm_23 rfl ?_
      exact g_vret o ρ dX3_readTerm_24 ⟨rfl, fl_ok x0 (offR.rf h)⟩
    · skip
      exact absurd rfl c7
  | some k =>
    rw [e0] at ck er0
    simp only at er0
    obtain ⟨_, kl, _⟩ := fn_lt _ _ e0
    refine g_aload_n (pc := 0) o dX3_readTerm_0 rfl ?_
    refine g_callVi (pc := 1) o (ck) mt_X3_kindOfWord mv_X3_kindOfWord lk_X3_80 rfl rfl rfl (by decide) rfl (Nat.le_of_ble_eq_true rfl) dX3_readTerm_1 ?_
    refine g_istore_n (pc := 4) o dX3_readTerm_4 (by decide) ?_
    show ca_G Γ 11 _ _ [_, _, _, _, _, _, _, _, _, _, _] _
    refine g_iload_n (pc := 5) o dX3_readTerm_5 rfl ?_
    refine g_iconst (pc := 6) o dX3_readTerm_6 (-1) rfl ?_
    refine g_ic_eq (pc := 7) o 19 dX3_readTerm_7 (by decide) (fun c7 => ?_) (fun c7 => ?_)
    · skip
      exact absurd c7 (nI_ne_m1 (by omega))
    · skip
      refine g_aload_n (pc := 10) o dX3_readTerm_10 rfl ?_
      refine g_getIE (pc := 11) o 9 rfl rfl rfl inX3 (by decide) lf_X3_33 (f9) dX3_readTerm_11 ?_
      refine g_bipush (pc := 14) o dX3_readTerm_14 12 rfl ?_
      refine g_ic_lt (pc := 16) o 25 dX3_readTerm_16 (by decide) (fun c16 => ?_) (fun c16 => ?_)
      · skip
        have n12 := (nI_ltI (a := nT s) (b := 12) (by omega) (by decide)).mp c16
        unfold pTerm at er0
        rw [if_pos n12] at er0
        refine g_aload_n (pc := 25) o dX3_readTerm_25 rfl ?_
        refine g_callVQv (pc := 26) o (c_advance T t.2 ok.1.2 R.2.2.1) mt_X3_advance mv_X3_advance lk_X3_46 rfl rfl rfl (by decide) rfl (Nat.le_of_ble_eq_true rfl) dX3_readTerm_26 ?_
        rintro h1 w
        obtain ⟨R1, O1⟩ := w
        have R1 : RT h1 f n (nxF f n t) := R1
        have ok1 := nx_R ok
        have T1 := T.of O1
        have e41 : h1.1 30 4 = -1 := (O1.2 4 (by decide) (by decide) (by decide) (by decide)).trans f4
        have x1 : (nxF f n t).1 ≤ 120 := by have := ok1.1; omega
        have s4 := sr_4 f n (nxF f n t).1
        -- no refusal before the number
        have st65 : (∀ p, pNum f n (nxF f n t) 0 5 = some p → cntP s (nI p) (nT s) < 5) → ca_G Γ 11 h1 65 [some (.ref 30), some (.int (nI k)), none, none, none, none, none, none, none, none, none] [] := by
          intro hc
          refine g_aload_n (pc := 65) o dX3_readTerm_65 rfl ?_
          refine g_iconst (pc := 66) o dX3_readTerm_66 0 rfl ?_
          refine g_iconst (pc := 67) o dX3_readTerm_67 5 rfl ?_
          refine g_callVQi (pc := 68) o (c_takeNum T1 R1 ok1.1 e41 0 5 (by decide) (by decide)) mt_X3_takeNumber mv_X3_takeNumber lk_X3_64 rfl rfl rfl (by decide) rfl (Nat.le_of_ble_eq_true rfl) dX3_readTerm_68 ?_
          rintro r h2 u
          rcases u with ⟨p, u, rfl, R2, O2⟩ | ⟨u, rfl, rfl⟩
          · rw [u] at er0
            simp only at er0
            have c5 := hc p u
            rw [if_pos c5] at er0
            have pl := (num_len ok1 u).2.2.1
            have O3 := O1.tr O2
            have T2 := T.of O3
            have ok2 := nx_R ok1
            have e42 : h2.1 30 4 = -1 := (O3.2 4 (by decide) (by decide) (by decide) (by decide)).trans f4
            have x2 : (nxF f n (nxF f n t)).1 ≤ 120 := by have := ok2.1; omega
            refine g_istore_n (pc := 71) o dX3_readTerm_71 (by decide) ?_
            show ca_G Γ 11 _ _ [_, _, _, _, _, _, _, _, _, _, _] _
            refine g_aload_n (pc := 72) o dX3_readTerm_72 rfl ?_
            refine g_ldcS (pc := 73) (i := 9) o rfl dX3_readTerm_73 ?_
            refine g_callVQi (pc := 75) o (c_takeWord T2 R2 ok2.1 e42 9 (by decide)) mt_X3_takeWord mv_X3_takeWord lk_X3_60 rfl rfl rfl (by decide) rfl (Nat.le_of_ble_eq_true rfl) dX3_readTerm_75 ?_
            rintro r h3 w
            rcases w with ⟨w, rfl, R3, O4⟩ | ⟨w, rfl, rfl⟩
            · rw [if_pos w] at er0
              have O5 := O3.tr O4
              have T3 := T.of O5
              have ok3 := nx_R ok2
              have e43 : h3.1 30 4 = -1 := (O5.2 4 (by decide) (by decide) (by decide) (by decide)).trans f4
              have x3 : (nxF f n (nxF f n (nxF f n t))).1 ≤ 120 := by have := ok3.1; omega
              refine g_if_ne (pc := 78) o 86 dX3_readTerm_78 (by decide) (fun c78 => ?_) (fun c78 => ?_)
              · skip
                refine g_aload_n (pc := 86) o dX3_readTerm_86 rfl ?_
                refine g_iconst (pc := 87) o dX3_readTerm_87 0 rfl ?_
                refine g_bipush (pc := 88) o dX3_readTerm_88 7 rfl ?_
                refine g_callVQi (pc := 90) o (c_takeNum T3 R3 ok3.1 e43 0 7 (by decide) (by decide)) mt_X3_takeNumber mv_X3_takeNumber lk_X3_64 rfl rfl rfl (by decide) rfl (Nat.le_of_ble_eq_true rfl) dX3_readTerm_90 ?_
                rintro r h4 u2
                rcases u2 with ⟨q, u2, rfl, R4, O6⟩ | ⟨u2, rfl, rfl⟩
                · rw [u2] at er0
                  simp only at er0
                  have ok4 := nx_R ok3
                  refine g_istore_n (pc := 93) o dX3_readTerm_93 (by decide) ?_
                  show ca_G Γ 11 _ _ [_, _, _, _, _, _, _, _, _, _, _] _
                  refine rt94 o ρ (h0 := h) T f4 m f3 hm (nI (nT s)) f9 k p q (by omega) (nI (cntP s (nI p) (nT s))) (f33 p (by omega)) (prT f n s t) (fun x h5 hx e O => ?_) (fun y h5 e R5 O => ?_) _ ok4 R4 (O5.tr O6) er0 _ _ _ _ _ _ _
                  · rw [e]
                    exact ⟨rfl, fl_ok hx O⟩
                  · rw [e]
                    rw [e] at er0
                    obtain ⟨_, _, a, b, c, d, _, _, _, _, x5⟩ := tail_len ok4 er0.symm
                    have y0 : y.2 0 = 2 := by rw [x5]; rfl
                    have y1 : y.2 1 = p := by rw [x5]; rfl
                    have := tt_ok S2 y0 (by rw [y1]; omega) n12 R5 O
                    rw [y1] at this
                    exact ⟨rfl, this⟩
                · rw [u2] at er0
                  simp only at er0
                  rw [er0] at ρ
                  refine g_istore_n (pc := 93) o dX3_readTerm_93 (by decide) ?_
                  show ca_G Γ 11 _ _ [_, _, _, _, _, _, _, _, _, _, _] _
                  exact ft94 o ρ (ne_m4 x3) ⟨rfl, fl_ok x3 O5⟩ _ _ _ _ _ _ _ _ _ _
              · skip
                exact absurd c78 (by decide)
            · rw [if_neg w] at er0
              rw [er0] at ρ
              refine g_if_ne (pc := 78) o 86 dX3_readTerm_78 (by decide) (fun c78 => ?_) (fun c78 => ?_)
              · skip
                exact absurd rfl c78
              · skip
                refine g_aload_n (pc := 81) o dX3_readTerm_81 rfl ?_
                refine g_callVi (pc := 82) o (c_refuse R2.2.1 e42) mt_X3_refuse mv_X3_refuse lk_X3_55 rfl rfl rfl (by decide) rfl (Nat.le_of_ble_eq_true rfl) dX3_readTerm_82 ?_
                refine g_pop (pc := 85) o dX3_readTerm_85 rfl ?_
                exact ft86 o ρ (ne_m4 x2) ⟨rfl, fl_ok x2 O3⟩ _ _ _ _ _ _ _ _ _ _
          · rw [u] at er0
            simp only at er0
            rw [er0] at ρ
            refine g_istore_n (pc := 71) o dX3_readTerm_71 (by decide) ?_
            show ca_G Γ 11 _ _ [_, _, _, _, _, _, _, _, _, _, _] _
            exact ft72 o ρ (ne_m4 x1) ⟨rfl, fl_ok x1 O1⟩ _ _ _ _ _ _ _ _ _ _
        refine g_aload_n (pc := 29) o dX3_readTerm_29 rfl ?_
        refine g_getIE (pc := 30) o 5 rfl rfl rfl inX3 (by decide) lf_X3_52 (R1.1) dX3_readTerm_30 ?_
        refine g_iconst (pc := 33) o dX3_readTerm_33 2 rfl ?_
        refine g_ic_ne (pc := 34) o 65 dX3_readTerm_34 (by decide) (fun c34 => ?_) (fun c34 => ?_)
        · skip
          have n2 : ¬ srF f n (nxF f n t).1 = 2 := fun y => c34 (by rw [y]; rfl)
          exact st65 (fun p e => absurd (num_len ok1 e).2.2.2.1 n2)
        · skip
          have n2 := (nI_eq (a := srF f n (nxF f n t).1) (b := 2) (by omega) (by decide)).mp c34
          have ev : vcF f n (nxF f n t) = min (vaF f (nxF f n t)) 10000 := by unfold vcF; rw [if_pos n2]
          refine g_aload_n (pc := 37) o dX3_readTerm_37 rfl ?_
          refine g_getIE (pc := 38) o 8 rfl rfl rfl inX3 (by decide) lf_X3_68 (R1.2.2.2) dX3_readTerm_38 ?_
          refine g_callNi (pc := 41) o (c_isPerson (nI (vcF f n (nxF f n t))) h1) mt_X9_isPerson ms_X9_isPerson ln_X3_83 rfl (by decide) rfl (Nat.le_of_ble_eq_true rfl) dX3_readTerm_41 ?_
          refine g_if_eq (pc := 44) o 65 dX3_readTerm_44 (by decide) (fun c44 => ?_) (fun c44 => ?_)
          · skip
            have y := bI_0.mp c44
            refine st65 (fun p e => ?_)
            have nl := num_len ok1 e
            exact absurd (rng_nI (j := vcF f n (nxF f n t)) (b := 5) (by omega) (by decide)) y
          · skip
            have y := bI_n0.mp c44
            have v5 : vcF f n (nxF f n t) ≤ 5 := by
              have := y.2
              rw [nI_toInt (by omega)] at this
              omega
            have pn : pNum f n (nxF f n t) 0 5 = some (vcF f n (nxF f n t)) := by
              unfold pNum
              rw [if_pos ⟨n2, Nat.zero_le _, by omega⟩]
              congr 1
              omega
            have tv : h1.1 33 (vcF f n (nxF f n t)) = nI (cntP s (nI (vcF f n (nxF f n t))) (nT s)) := by rw [O1.1 33 (by decide)]; exact f33 _ (by omega)
            have cl : cntP s (nI (vcF f n (nxF f n t))) (nT s) ≤ nT s := cntP_le s _ _
            refine g_aload_n (pc := 47) o dX3_readTerm_47 rfl ?_
            refine g_getR (pc := 48) o 10 rfl rfl rfl inX3 (by decide) lf_X3_18 dX3_readTerm_48 ?_
            refine g_aload_n (pc := 51) o dX3_readTerm_51 rfl ?_
            refine g_getIE (pc := 52) o 8 rfl rfl rfl inX3 (by decide) lf_X3_68 (R1.2.2.2) dX3_readTerm_52 ?_
            refine n_ialdE (pc := 55) o (vcF f n (nxF f n t)) (rfl) rfl ((by omega)) (by decide) (tv) dX3_readTerm_55 ?_
            refine g_iconst (pc := 56) o dX3_readTerm_56 5 rfl ?_
            refine g_ic_lt (pc := 57) o 65 dX3_readTerm_57 (by decide) (fun c57 => ?_) (fun c57 => ?_)
            · skip
              have w := (nI_ltI (b := 5) (by omega) (by decide)).mp c57
              refine st65 (fun p e => ?_)
              rw [pn] at e
              cases e
              exact w
            · skip
              have w := mt (nI_ltI (a := cntP s (nI (vcF f n (nxF f n t))) (nT s)) (b := 5) (by omega) (by decide)).mpr c57
              rw [pn] at er0
              simp only at er0
              rw [if_neg w] at er0
              rw [er0] at ρ
              refine g_aload_n (pc := 60) o dX3_readTerm_60 rfl ?_
              refine g_callVi (pc := 61) o (c_refuse R1.2.1 e41) mt_X3_refuse mv_X3_refuse lk_X3_55 rfl rfl rfl (by decide) rfl (Nat.le_of_ble_eq_true rfl) dX3_readTerm_61 ?_
              refine g_pop (pc := 64) o dX3_readTerm_64 rfl ?_
              exact ft65 o ρ (ne_m4 x1) ⟨rfl, fl_ok x1 O1⟩ _ _ _ _ _ _ _ _ _ _
      · skip
        have n12 := mt (nI_ltI (a := nT s) (b := 12) (by omega) (by decide)).mpr c16
        unfold pTerm at er0
        rw [if_neg n12] at er0
        rw [er0] at ρ
        refine g_aload_n (pc := 19) o dX3_readTerm_19 rfl ?_
        refine g_callVi (pc := 20) o (c_refuse R.2.1 f4) mt_X3_refuse mv_X3_refuse lk_X3_55 rfl rfl rfl (by decide) rfl (Nat.le_of_ble_eq_true rfl) dX3_readTerm_20 ?_
        refine g_pop (pc := 23) o dX3_readTerm_23 rfl ?_
        exact g_vret o ρ dX3_readTerm_24 ⟨rfl, fl_ok x0 (offR.rf h)⟩

