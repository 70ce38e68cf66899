/-! ===== TERMS: writes, force, bad places, kinds ===== -/
def setM (h : Mem) (t w : Nat) (a b : Int32) : Mem := mw (mw h 7 (t * 7 + w) a) 7 (t * 7 + (w + 1)) b
def setS (s : Nat → Int32) (t w : Nat) (a b : Int32) : Nat → Int32 := upd (upd s (190 + (t * 7 + w)) a) (190 + (t * 7 + (w + 1))) b
theorem BR_set {h : Mem} {s : Nat → Int32} (B : BR h 1 s) {t w : Nat} (ht : t < 12) (hw : w < 6) (a b : Int32) : BR (setM h t w a b) 1 (setS s t w a b) := BR_tr (BR_tr B (by omega)) (by omega)
theorem setM_off {h : Mem} {t w k : Nat} {a b : Int32} (hk : k ≠ 7) : (setM h t w a b).1 k = h.1 k := by unfold setM; rw [mw_ne _ _ _ hk, mw_ne _ _ _ hk]
set_option maxRecDepth 100000 in
set_option maxHeartbeats 400000 in
theorem c_setHours {h : Mem} (t : Nat) (ht : t < 12) (a b : Int32) : Ct yX7_setHours cX7_setHours 4 none 0 0 [.ref 6, .int (nI t), .int a, .int b] h (Ev (setM h t 3 a b)) := by
  refine Ct.of (by decide) (Nat.le_of_ble_eq_true rfl) (fun Γ o ρ => ?_)
  refine g_aload_n (pc := 0) o dX7_setHours_0 rfl ?_
  refine g_getR (pc := 1) o 0 rfl rfl rfl inX7 (by decide) lf_X7_11 dX7_setHours_1 ?_
  refine g_iload_n (pc := 4) o dX7_setHours_4 rfl ?_
  refine g_bipush (pc := 5) o dX7_setHours_5 7 rfl ?_
  refine g_imul (pc := 7) o dX7_setHours_7 ?_
  refine g_iconst (pc := 8) o dX7_setHours_8 3 rfl ?_
  refine g_iadd (pc := 9) o dX7_setHours_9 ?_
  refine g_iload_n (pc := 10) o dX7_setHours_10 rfl ?_
  refine n_iast (pc := 11) o (t * 7 + 3) (ix t 7 3) rfl ((by omega)) (by decide) dX7_setHours_11 ?_
  refine g_aload_n (pc := 12) o dX7_setHours_12 rfl ?_
  refine g_getR (pc := 13) o 0 rfl rfl rfl inX7 (by decide) lf_X7_11 dX7_setHours_13 ?_
  refine g_iload_n (pc := 16) o dX7_setHours_16 rfl ?_
  refine g_bipush (pc := 17) o dX7_setHours_17 7 rfl ?_
  refine g_imul (pc := 19) o dX7_setHours_19 ?_
  refine g_iconst (pc := 20) o dX7_setHours_20 4 rfl ?_
  refine g_iadd (pc := 21) o dX7_setHours_21 ?_
  refine g_iload_n (pc := 22) o dX7_setHours_22 rfl ?_
  refine n_iast (pc := 23) o (t * 7 + 4) (ix t 7 4) rfl ((by omega)) (by decide) dX7_setHours_23 ?_
  exact g_vret o ρ dX7_setHours_24 ⟨rfl, rfl⟩
set_option maxRecDepth 100000 in
set_option maxHeartbeats 400000 in
theorem c_setDays {h : Mem} (t : Nat) (ht : t < 12) (a b : Int32) : Ct yX7_setDays cX7_setDays 4 none 0 0 [.ref 6, .int (nI t), .int a, .int b] h (Ev (setM h t 5 a b)) := by
  refine Ct.of (by decide) (Nat.le_of_ble_eq_true rfl) (fun Γ o ρ => ?_)
  refine g_aload_n (pc := 0) o dX7_setDays_0 rfl ?_
  refine g_getR (pc := 1) o 0 rfl rfl rfl inX7 (by decide) lf_X7_11 dX7_setDays_1 ?_
  refine g_iload_n (pc := 4) o dX7_setDays_4 rfl ?_
  refine g_bipush (pc := 5) o dX7_setDays_5 7 rfl ?_
  refine g_imul (pc := 7) o dX7_setDays_7 ?_
  refine g_iconst (pc := 8) o dX7_setDays_8 5 rfl ?_
  refine g_iadd (pc := 9) o dX7_setDays_9 ?_
  refine g_iload_n (pc := 10) o dX7_setDays_10 rfl ?_
  refine n_iast (pc := 11) o (t * 7 + 5) (ix t 7 5) rfl ((by omega)) (by decide) dX7_setDays_11 ?_
  refine g_aload_n (pc := 12) o dX7_setDays_12 rfl ?_
  refine g_getR (pc := 13) o 0 rfl rfl rfl inX7 (by decide) lf_X7_11 dX7_setDays_13 ?_
  refine g_iload_n (pc := 16) o dX7_setDays_16 rfl ?_
  refine g_bipush (pc := 17) o dX7_setDays_17 7 rfl ?_
  refine g_imul (pc := 19) o dX7_setDays_19 ?_
  refine g_bipush (pc := 20) o dX7_setDays_20 6 rfl ?_
  refine g_iadd (pc := 22) o dX7_setDays_22 ?_
  refine g_iload_n (pc := 23) o dX7_setDays_23 rfl ?_
  refine n_iast (pc := 24) o (t * 7 + 6) (ix t 7 6) rfl ((by omega)) (by decide) dX7_setDays_24 ?_
  exact g_vret o ρ dX7_setDays_25 ⟨rfl, rfl⟩
set_option maxRecDepth 100000 in
set_option maxHeartbeats 400000 in
theorem c_setKind {h : Mem} (t : Nat) (ht : t < 12) (a : Int32) : Ct yX7_setKind cX7_setKind 3 none 0 0 [.ref 6, .int (nI t), .int a] h (Ev (mw h 7 (t * 7 + 0) a)) := by
  refine Ct.of (by decide) (Nat.le_of_ble_eq_true rfl) (fun Γ o ρ => ?_)
  refine g_aload_n (pc := 0) o dX7_setKind_0 rfl ?_
  refine g_getR (pc := 1) o 0 rfl rfl rfl inX7 (by decide) lf_X7_11 dX7_setKind_1 ?_
  refine g_iload_n (pc := 4) o dX7_setKind_4 rfl ?_
  refine g_bipush (pc := 5) o dX7_setKind_5 7 rfl ?_
  refine g_imul (pc := 7) o dX7_setKind_7 ?_
  refine g_iconst (pc := 8) o dX7_setKind_8 0 rfl ?_
  refine g_iadd (pc := 9) o dX7_setKind_9 ?_
  refine g_iload_n (pc := 10) o dX7_setKind_10 rfl ?_
  refine n_iast (pc := 11) o (t * 7 + 0) (ix t 7 0) rfl ((by omega)) (by decide) dX7_setKind_11 ?_
  exact g_vret o ρ dX7_setKind_12 ⟨rfl, rfl⟩
def new3 (h : Mem) (n : Nat) (k p q : Int32) : Mem := mw (mw (mw (mw h 7 (n * 7 + 0) k) 7 (n * 7 + 1) p) 7 (n * 7 + 2) q) 6 1 (nI n + 1)
def newM (h : Mem) (n : Nat) (k p q : Int32) : Mem := setM (setM (new3 h n k p q) n 3 0 23) n 5 0 29
def newS (s : Nat → Int32) (n : Nat) (k p q : Int32) : Nat → Int32 := setS (setS (upd (upd (upd (upd s (190 + (n * 7 + 0)) k) (190 + (n * 7 + 1)) p) (190 + (n * 7 + 2)) q) 189 (nI n + 1)) n 3 0 23) n 5 0 29
theorem BR_new {h : Mem} {s : Nat → Int32} (B : BR h 1 s) {n : Nat} (hn : n < 12) (k p q : Int32) : BR (newM h n k p q) 1 (newS s n k p q) := BR_set (BR_set (BR_to (BR_tr (BR_tr (BR_tr B (by omega)) (by omega)) (by omega))) hn (by decide) 0 23) hn (by decide) 0 29
theorem newM_off {h : Mem} {n c : Nat} {k p q : Int32} (hk : c ≠ 7 ∧ c ≠ 6) : (newM h n k p q).1 c = h.1 c := by
  unfold newM
  rw [setM_off hk.1, setM_off hk.1]
  unfold new3
  rw [mw_ne _ _ _ hk.2, mw_ne _ _ _ hk.1, mw_ne _ _ _ hk.1, mw_ne _ _ _ hk.1]
theorem new_6 {h : Mem} {n : Nat} {k p q : Int32} : (new3 h n k p q).1 6 1 = nI n + 1 := rfl
theorem newM_6 {h : Mem} {n : Nat} {k p q : Int32} : (newM h n k p q).1 6 1 = nI n + 1 := by unfold newM; rw [setM_off (by decide), setM_off (by decide), new_6]
set_option maxRecDepth 100000 in
set_option maxHeartbeats 400000 in
theorem c_tadd {h : Mem} {s : Nat → Int32} (B : BR h 1 s) {n : Nat} (hn : n < 12) (e : s 189 = nI n) (k p q : Int32) : Ct yX7_add cX7_add 5 (some .int) 1 23 [.ref 6, .int k, .int p, .int q] h (Ei (nI n) (newM h n k p q)) := by
  refine Ct.of (by decide) (Nat.le_of_ble_eq_true rfl) (fun Γ o ρ => ?_)
  have ep : nI n + 1 - 1 = nI n := by rw [nI_1, nI_pred]
  have e6 : (setM (new3 h n k p q) n 3 0 23).1 6 1 = nI n + 1 := by rw [setM_off (by decide)]; rfl
  refine g_aload_n (pc := 0) o dX7_add_0 rfl ?_
  refine g_getIE (pc := 1) o 1 rfl rfl rfl inX7 (by decide) lf_X7_15 (B.2.2.2.1.trans e) dX7_add_1 ?_
  refine g_bipush (pc := 4) o dX7_add_4 7 rfl ?_
  refine g_imul (pc := 6) o dX7_add_6 ?_
  refine g_istore (pc := 7) o dX7_add_7 (by decide) ?_
  refine g_aload_n (pc := 9) o dX7_add_9 rfl ?_
  refine g_getR (pc := 10) o 0 rfl rfl rfl inX7 (by decide) lf_X7_11 dX7_add_10 ?_
  refine g_iload (pc := 13) o dX7_add_13 rfl ?_
  refine g_iconst (pc := 15) o dX7_add_15 0 rfl ?_
  refine g_iadd (pc := 16) o dX7_add_16 ?_
  refine g_iload_n (pc := 17) o dX7_add_17 rfl ?_
  refine n_iast (pc := 18) o (n * 7 + 0) (ix n 7 0) rfl ((by omega)) (by decide) dX7_add_18 ?_
  refine g_aload_n (pc := 19) o dX7_add_19 rfl ?_
  refine g_getR (pc := 20) o 0 rfl rfl rfl inX7 (by decide) lf_X7_11 dX7_add_20 ?_
  refine g_iload (pc := 23) o dX7_add_23 rfl ?_
  refine g_iconst (pc := 25) o dX7_add_25 1 rfl ?_
  refine g_iadd (pc := 26) o dX7_add_26 ?_
  refine g_iload_n (pc := 27) o dX7_add_27 rfl ?_
  refine n_iast (pc := 28) o (n * 7 + 1) (ix n 7 1) rfl ((by omega)) (by decide) dX7_add_28 ?_
  refine g_aload_n (pc := 29) o dX7_add_29 rfl ?_
  refine g_getR (pc := 30) o 0 rfl rfl rfl inX7 (by decide) lf_X7_11 dX7_add_30 ?_
  refine g_iload (pc := 33) o dX7_add_33 rfl ?_
  refine g_iconst (pc := 35) o dX7_add_35 2 rfl ?_
  refine g_iadd (pc := 36) o dX7_add_36 ?_
  refine g_iload_n (pc := 37) o dX7_add_37 rfl ?_
  refine n_iast (pc := 38) o (n * 7 + 2) (ix n 7 2) rfl ((by omega)) (by decide) dX7_add_38 ?_
  refine g_aload_n (pc := 39) o dX7_add_39 rfl ?_
  refine g_dup (pc := 40) o dX7_add_40 rfl ?_
  refine g_getIE (pc := 41) o 1 rfl rfl rfl inX7 (by decide) lf_X7_15 (B.2.2.2.1.trans e) dX7_add_41 ?_
  refine g_iconst (pc := 44) o dX7_add_44 1 rfl ?_
  refine g_iadd (pc := 45) o dX7_add_45 ?_
  refine g_put (pc := 46) o 1 rfl rfl rfl inX7 tyX7_ok nmX7 (by decide) lf_X7_15 rfl rfl rfl dX7_add_46 ?_
  refine g_mem (h2 := new3 h n k p q) rfl ?_
  refine g_aload_n (pc := 49) o dX7_add_49 rfl ?_
  refine g_aload_n (pc := 50) o dX7_add_50 rfl ?_
  refine g_getIE (pc := 51) o 1 rfl rfl rfl inX7 (by decide) lf_X7_15 (new_6) dX7_add_51 ?_
  refine g_iconst (pc := 54) o dX7_add_54 1 rfl ?_
  refine g_isub (pc := 55) o dX7_add_55 ?_
  rw [ep]
  refine g_iconst (pc := 56) o dX7_add_56 0 rfl ?_
  refine g_bipush (pc := 57) o dX7_add_57 23 rfl ?_
  refine g_callVv (pc := 59) o (c_setHours (h := new3 h n k p q) n hn 0 23) mt_X7_setHours mv_X7_setHours lk_X7_27 rfl rfl rfl (by decide) rfl (Nat.le_of_ble_eq_true rfl) dX7_add_59 ?_
  refine g_aload_n (pc := 62) o dX7_add_62 rfl ?_
  refine g_aload_n (pc := 63) o dX7_add_63 rfl ?_
  refine g_getIE (pc := 64) o 1 rfl rfl rfl inX7 (by decide) lf_X7_15 (e6) dX7_add_64 ?_
  refine g_iconst (pc := 67) o dX7_add_67 1 rfl ?_
  refine g_isub (pc := 68) o dX7_add_68 ?_
  rw [ep]
  refine g_iconst (pc := 69) o dX7_add_69 0 rfl ?_
  refine g_bipush (pc := 70) o dX7_add_70 29 rfl ?_
  refine g_callVv (pc := 72) o (c_setDays (h := setM (new3 h n k p q) n 3 0 23) n hn 0 29) mt_X7_setDays mv_X7_setDays lk_X7_31 rfl rfl rfl (by decide) rfl (Nat.le_of_ble_eq_true rfl) dX7_add_72 ?_
  refine g_aload_n (pc := 75) o dX7_add_75 rfl ?_
  refine g_getIE (pc := 76) o 1 rfl rfl rfl inX7 (by decide) lf_X7_15 (newM_6) dX7_add_76 ?_
  refine g_iconst (pc := 79) o dX7_add_79 1 rfl ?_
  refine g_isub (pc := 80) o dX7_add_80 ?_
  exact g_iret o ρ dX7_add_81 (Ei.mk ep rfl)
theorem upd_c (f : Nat → Int32) {i j : Nat} (h : i ≠ j) (a b : Int32) : upd (upd f i a) j b = upd (upd f j b) i a := by
  funext k
  unfold upd
  by_cases e1 : k = i
  · subst e1
    rw [if_neg h, if_pos rfl, if_pos rfl]
  · by_cases e2 : k = j
    · rw [if_pos e2, if_neg e1, if_pos e2]
    · rw [if_neg e2, if_neg e1, if_neg e1, if_neg e2]
def mnewM (h : Mem) (n : Nat) (k p q : Int32) : Mem := mw (mw (mw (mw (mw (mw (mw (mw h 52 (190 + (n * 7 + 0)) k) 52 (190 + (n * 7 + 1)) p) 52 (190 + (n * 7 + 2)) q) 52 (190 + (n * 7 + 3)) 0) 52 (190 + (n * 7 + 4)) 23) 52 (190 + (n * 7 + 5)) 0) 52 (190 + (n * 7 + 6)) 29) 52 189 (nI n + 1)
theorem mnew_s {h : Mem} {n : Nat} {k p q : Int32} : (mnewM h n k p q).1 52 = newS (h.1 52) n k p q := by
  unfold mnewM newS setS
  rw [mw_same, mw_same, mw_same, mw_same, mw_same, mw_same, mw_same, mw_same]
  rw [upd_c _ (i := 190 + (n * 7 + 6)) (j := 189) (by omega), upd_c _ (i := 190 + (n * 7 + 5)) (j := 189) (by omega), upd_c _ (i := 190 + (n * 7 + 4)) (j := 189) (by omega), upd_c _ (i := 190 + (n * 7 + 3)) (j := 189) (by omega)]
theorem mnew_off {h : Mem} {n c : Nat} {k p q : Int32} (hk : c ≠ 52) : (mnewM h n k p q).1 c = h.1 c := by
  unfold mnewM
  rw [mw_ne _ _ _ hk, mw_ne _ _ _ hk, mw_ne _ _ _ hk, mw_ne _ _ _ hk, mw_ne _ _ _ hk, mw_ne _ _ _ hk, mw_ne _ _ _ hk, mw_ne _ _ _ hk]
theorem tix2 (t w v : Nat) : nI 190 + nI 7 * nI t + nI w + nI v = nI (190 + (t * 7 + (w + v))) := by rw [tix, nI_add]; congr 1; omega
set_option maxRecDepth 100000 in
set_option maxHeartbeats 400000 in
theorem m_newTerm {h : Mem} {n : Nat} (hn : n < 12) (e : h.1 52 189 = nI n) (k p q : Int32) : Ct yX10_newTerm cX10_newTerm 5 (some .int) 0 0 [.ref 51, .int k, .int p, .int q] h (Ei (nI n) (mnewM h n k p q)) := by
  refine Ct.of (by decide) (Nat.le_of_ble_eq_true rfl) (fun Γ o ρ => ?_)
  have e9 : (mw (mw (mw (mw (mw (mw (mw h 52 (190 + (n * 7 + 0)) k) 52 (190 + (n * 7 + 1)) p) 52 (190 + (n * 7 + 2)) q) 52 (190 + (n * 7 + 3)) 0) 52 (190 + (n * 7 + 4)) 23) 52 (190 + (n * 7 + 5)) 0) 52 (190 + (n * 7 + 6)) 29).1 52 189 = nI n := by
    rw [mw_same, pk_un (by omega), mw_same, pk_un (by omega), mw_same, pk_un (by omega), mw_same, pk_un (by omega), mw_same, pk_un (by omega), mw_same, pk_un (by omega), mw_same, pk_un (by omega)]; exact e
  have e10 : (mnewM h n k p q).1 52 189 = nI n + 1 := rfl
  refine g_sipush (pc := 0) o dX10_newTerm_0 190 rfl ?_
  refine g_bipush (pc := 3) o dX10_newTerm_3 7 rfl ?_
  refine g_aload_n (pc := 5) o dX10_newTerm_5 rfl ?_
  refine g_getR (pc := 6) o 0 rfl rfl rfl inX10 (by decide) lf_X10_7 dX10_newTerm_6 ?_
  refine g_sipush (pc := 9) o dX10_newTerm_9 189 rfl ?_
  refine n_ialdE (pc := 12) o 189 (rfl) rfl ((by omega)) (by decide) (e) dX10_newTerm_12 ?_
  refine g_imul (pc := 13) o dX10_newTerm_13 ?_
  refine g_iadd (pc := 14) o dX10_newTerm_14 ?_
  refine g_istore (pc := 15) o dX10_newTerm_15 (by decide) ?_
  refine g_aload_n (pc := 17) o dX10_newTerm_17 rfl ?_
  refine g_getR (pc := 18) o 0 rfl rfl rfl inX10 (by decide) lf_X10_7 dX10_newTerm_18 ?_
  refine g_iload (pc := 21) o dX10_newTerm_21 rfl ?_
  refine g_iconst (pc := 23) o dX10_newTerm_23 0 rfl ?_
  refine g_iadd (pc := 24) o dX10_newTerm_24 ?_
  refine g_iload_n (pc := 25) o dX10_newTerm_25 rfl ?_
  refine n_iast (pc := 26) o (190 + (n * 7 + 0)) (tix n 0) rfl ((by omega)) (by decide) dX10_newTerm_26 ?_
  refine g_aload_n (pc := 27) o dX10_newTerm_27 rfl ?_
  refine g_getR (pc := 28) o 0 rfl rfl rfl inX10 (by decide) lf_X10_7 dX10_newTerm_28 ?_
  refine g_iload (pc := 31) o dX10_newTerm_31 rfl ?_
  refine g_iconst (pc := 33) o dX10_newTerm_33 1 rfl ?_
  refine g_iadd (pc := 34) o dX10_newTerm_34 ?_
  refine g_iload_n (pc := 35) o dX10_newTerm_35 rfl ?_
  refine n_iast (pc := 36) o (190 + (n * 7 + 1)) (tix n 1) rfl ((by omega)) (by decide) dX10_newTerm_36 ?_
  refine g_aload_n (pc := 37) o dX10_newTerm_37 rfl ?_
  refine g_getR (pc := 38) o 0 rfl rfl rfl inX10 (by decide) lf_X10_7 dX10_newTerm_38 ?_
  refine g_iload (pc := 41) o dX10_newTerm_41 rfl ?_
  refine g_iconst (pc := 43) o dX10_newTerm_43 2 rfl ?_
  refine g_iadd (pc := 44) o dX10_newTerm_44 ?_
  refine g_iload_n (pc := 45) o dX10_newTerm_45 rfl ?_
  refine n_iast (pc := 46) o (190 + (n * 7 + 2)) (tix n 2) rfl ((by omega)) (by decide) dX10_newTerm_46 ?_
  refine g_aload_n (pc := 47) o dX10_newTerm_47 rfl ?_
  refine g_getR (pc := 48) o 0 rfl rfl rfl inX10 (by decide) lf_X10_7 dX10_newTerm_48 ?_
  refine g_iload (pc := 51) o dX10_newTerm_51 rfl ?_
  refine g_iconst (pc := 53) o dX10_newTerm_53 3 rfl ?_
  refine g_iadd (pc := 54) o dX10_newTerm_54 ?_
  refine g_iconst (pc := 55) o dX10_newTerm_55 0 rfl ?_
  refine n_iast (pc := 56) o (190 + (n * 7 + 3)) (tix n 3) rfl ((by omega)) (by decide) dX10_newTerm_56 ?_
  refine g_aload_n (pc := 57) o dX10_newTerm_57 rfl ?_
  refine g_getR (pc := 58) o 0 rfl rfl rfl inX10 (by decide) lf_X10_7 dX10_newTerm_58 ?_
  refine g_iload (pc := 61) o dX10_newTerm_61 rfl ?_
  refine g_iconst (pc := 63) o dX10_newTerm_63 3 rfl ?_
  refine g_iadd (pc := 64) o dX10_newTerm_64 ?_
  refine g_iconst (pc := 65) o dX10_newTerm_65 1 rfl ?_
  refine g_iadd (pc := 66) o dX10_newTerm_66 ?_
  refine g_bipush (pc := 67) o dX10_newTerm_67 23 rfl ?_
  refine n_iast (pc := 69) o (190 + (n * 7 + 4)) (tix2 n 3 1) rfl ((by omega)) (by decide) dX10_newTerm_69 ?_
  refine g_aload_n (pc := 70) o dX10_newTerm_70 rfl ?_
  refine g_getR (pc := 71) o 0 rfl rfl rfl inX10 (by decide) lf_X10_7 dX10_newTerm_71 ?_
  refine g_iload (pc := 74) o dX10_newTerm_74 rfl ?_
  refine g_iconst (pc := 76) o dX10_newTerm_76 5 rfl ?_
  refine g_iadd (pc := 77) o dX10_newTerm_77 ?_
  refine g_iconst (pc := 78) o dX10_newTerm_78 0 rfl ?_
  refine n_iast (pc := 79) o (190 + (n * 7 + 5)) (tix n 5) rfl ((by omega)) (by decide) dX10_newTerm_79 ?_
  refine g_aload_n (pc := 80) o dX10_newTerm_80 rfl ?_
  refine g_getR (pc := 81) o 0 rfl rfl rfl inX10 (by decide) lf_X10_7 dX10_newTerm_81 ?_
  refine g_iload (pc := 84) o dX10_newTerm_84 rfl ?_
  refine g_iconst (pc := 86) o dX10_newTerm_86 5 rfl ?_
  refine g_iadd (pc := 87) o dX10_newTerm_87 ?_
  refine g_iconst (pc := 88) o dX10_newTerm_88 1 rfl ?_
  refine g_iadd (pc := 89) o dX10_newTerm_89 ?_
  refine g_bipush (pc := 90) o dX10_newTerm_90 29 rfl ?_
  refine n_iast (pc := 92) o (190 + (n * 7 + 6)) (tix2 n 5 1) rfl ((by omega)) (by decide) dX10_newTerm_92 ?_
  refine g_aload_n (pc := 93) o dX10_newTerm_93 rfl ?_
  refine g_getR (pc := 94) o 0 rfl rfl rfl inX10 (by decide) lf_X10_7 dX10_newTerm_94 ?_
  refine g_sipush (pc := 97) o dX10_newTerm_97 189 rfl ?_
  refine g_dup2 (pc := 100) o dX10_newTerm_100 rfl rfl ?_
  refine n_ialdE (pc := 101) o 189 (rfl) rfl ((by omega)) (by decide) (e9) dX10_newTerm_101 ?_
  refine g_iconst (pc := 102) o dX10_newTerm_102 1 rfl ?_
  refine g_iadd (pc := 103) o dX10_newTerm_103 ?_
  refine n_iast (pc := 104) o 189 (rfl) rfl ((by omega)) (by decide) dX10_newTerm_104 ?_
  refine g_mem (h2 := mnewM h n k p q) rfl ?_
  refine g_aload_n (pc := 105) o dX10_newTerm_105 rfl ?_
  refine g_getR (pc := 106) o 0 rfl rfl rfl inX10 (by decide) lf_X10_7 dX10_newTerm_106 ?_
  refine g_sipush (pc := 109) o dX10_newTerm_109 189 rfl ?_
  refine n_ialdE (pc := 112) o 189 (rfl) rfl ((by omega)) (by decide) (e10) dX10_newTerm_112 ?_
  refine g_iconst (pc := 113) o dX10_newTerm_113 1 rfl ?_
  refine g_isub (pc := 114) o dX10_newTerm_114 ?_
  exact g_iret o ρ dX10_newTerm_115 (Ei.mk (by rw [nI_1, nI_pred]) rfl)
abbrev inF (s : Nat → Int32) (t d : Nat) : Prop := (tmF s t 5).toInt ≤ d ∧ (d : Int) ≤ (tmF s t 6).toInt ∧ (tmF s t 0 = 5 → d % 7 < 5)
theorem dm7 {d : Nat} (hd : d < 30) : jrem (nI d) 7 = nI (d % 7) := rm_nI (by omega) (by decide) (by decide)
set_option maxRecDepth 100000 in
set_option maxHeartbeats 400000 in
theorem c_isBinding {h : Mem} {s : Nat → Int32} (B : BR h 1 s) (t d : Nat) (ht : t < 12) (hd : d < 30) : Ct yX7_isBinding cX7_isBinding 3 (some .boolean) 1 22 [.ref 6, .int (nI t), .int (nI d)] h (Ei (bI (inF s t d)) h) := by
  refine Ct.of (by decide) (Nat.le_of_ble_eq_true rfl) (fun Γ o ρ => ?_)
  refine g_iload_n (pc := 0) o dX7_isBinding_0 rfl ?_
  refine g_aload_n (pc := 1) o dX7_isBinding_1 rfl ?_
  refine g_iload_n (pc := 2) o dX7_isBinding_2 rfl ?_
  refine g_iconst (pc := 3) o dX7_isBinding_3 5 rfl ?_
  refine g_callVi (pc := 4) o (c_tf B t 5 ht (by decide)) mt_X7_field mv_X7_field lk_X7_19 rfl rfl rfl (by decide) rfl (Nat.le_of_ble_eq_true rfl) dX7_isBinding_4 ?_
  refine g_ic_lt (pc := 7) o 21 dX7_isBinding_7 (by decide) (fun c7 => ?_) (fun c7 => ?_)
  · skip
    have k := (gtN (tmF s t 5) d (by omega)).mp (Int32.lt_iff_toInt_lt.mpr (Int32.lt_iff_toInt_lt.mp c7))
    refine g_iconst (pc := 21) o dX7_isBinding_21 0 rfl ?_
    exact g_zret o ρ (by first | rfl | exact bI_b) dX7_isBinding_22 (Ei.mk (bI_f (fun z => by have := z.1; omega)) rfl)
  · skip
    have k := mt (gtN (tmF s t 5) d (by omega)).mpr c7
    refine g_iload_n (pc := 10) o dX7_isBinding_10 rfl ?_
    refine g_aload_n (pc := 11) o dX7_isBinding_11 rfl ?_
    refine g_iload_n (pc := 12) o dX7_isBinding_12 rfl ?_
    refine g_bipush (pc := 13) o dX7_isBinding_13 6 rfl ?_
    refine g_callVi (pc := 15) o (c_tf B t 6 ht (by decide)) mt_X7_field mv_X7_field lk_X7_19 rfl rfl rfl (by decide) rfl (Nat.le_of_ble_eq_true rfl) dX7_isBinding_15 ?_
    refine g_ic_le (pc := 18) o 23 dX7_isBinding_18 (by decide) (fun c18 => ?_) (fun c18 => ?_)
    · skip
      have k2 := (geN (tmF s t 6) d (by omega)).mp c18
      refine g_aload_n (pc := 23) o dX7_isBinding_23 rfl ?_
      refine g_iload_n (pc := 24) o dX7_isBinding_24 rfl ?_
      refine g_iconst (pc := 25) o dX7_isBinding_25 0 rfl ?_
      refine g_callVi (pc := 26) o (c_tf B t 0 ht (by decide)) mt_X7_field mv_X7_field lk_X7_19 rfl rfl rfl (by decide) rfl (Nat.le_of_ble_eq_true rfl) dX7_isBinding_26 ?_
      refine g_iconst (pc := 29) o dX7_isBinding_29 5 rfl ?_
      refine g_ic_ne (pc := 30) o 41 dX7_isBinding_30 (by decide) (fun c30 => ?_) (fun c30 => ?_)
      · skip
        refine g_iconst (pc := 41) o dX7_isBinding_41 1 rfl ?_
        refine g_goto (pc := 42) o 46 dX7_isBinding_42 (by decide) ?_
        exact g_zret o ρ (by first | rfl | exact bI_b) dX7_isBinding_46 (Ei.mk (bI_t ⟨by omega, k2, fun z => absurd z c30⟩) rfl)
      · skip
        have q : jrem (nI d) 7 = nI (d % 7) := dm7 hd
        refine g_iload_n (pc := 33) o dX7_isBinding_33 rfl ?_
        refine g_bipush (pc := 34) o dX7_isBinding_34 7 rfl ?_
        refine g_irem (pc := 36) o dX7_isBinding_36 (by decide) ?_
        refine g_iconst (pc := 37) o dX7_isBinding_37 5 rfl ?_
        refine g_ic_ge (pc := 38) o 45 dX7_isBinding_38 (by decide) (fun c38 => ?_) (fun c38 => ?_)
        · skip
          rw [q] at c38
          have := (nI_leI (a := 5) (by decide) (by omega)).mp c38
          refine g_iconst (pc := 45) o dX7_isBinding_45 0 rfl ?_
          exact g_zret o ρ (by first | rfl | exact bI_b) dX7_isBinding_46 (Ei.mk (bI_f (fun z => by have := z.2.2 c30; omega)) rfl)
        · skip
          rw [q] at c38
          have := mt (nI_leI (a := 5) (b := d % 7) (by decide) (by omega)).mpr c38
          refine g_iconst (pc := 41) o dX7_isBinding_41 1 rfl ?_
          refine g_goto (pc := 42) o 46 dX7_isBinding_42 (by decide) ?_
          exact g_zret o ρ (by first | rfl | exact bI_b) dX7_isBinding_46 (Ei.mk (bI_t ⟨by omega, k2, fun _ => by omega⟩) rfl)
    · skip
      have k2 := mt (geN (tmF s t 6) d (by omega)).mpr c18
      refine g_iconst (pc := 21) o dX7_isBinding_21 0 rfl ?_
      exact g_zret o ρ (by first | rfl | exact bI_b) dX7_isBinding_22 (Ei.mk (bI_f (fun z => k2 z.2.1)) rfl)
theorem in_3 (x a b : Int32) : bI (a.toInt64 ≤ x.toInt64 ∧ x.toInt64 ≤ b.toInt64) = bI (a.toInt ≤ x.toInt ∧ x.toInt ≤ b.toInt) := by
  unfold bI
  simp only [Int64.le_iff_toInt_le, Int32.toInt_toInt64]
set_option maxRecDepth 100000 in
set_option maxHeartbeats 400000 in
theorem m_isInForce {h : Mem} (t d : Nat) (ht : t < 12) (hd : d < 30) : Ct yX10_isInForce cX10_isInForce 3 (some .boolean) 1 25 [.ref 51, .int (nI t), .int (nI d)] h (Ei (bI (inF (h.1 52) t d)) h) := by
  refine Ct.of (by decide) (Nat.le_of_ble_eq_true rfl) (fun Γ o ρ => ?_)
  have q3 := in_3 (nI d) (tmF (h.1 52) t 5) (tmF (h.1 52) t 6)
  rw [nI_toInt (n := d) (by omega)] at q3
  refine g_iload_n (pc := 0) o dX10_isInForce_0 rfl ?_
  refine g_i2l (pc := 1) o dX10_isInForce_1 ?_
  refine g_aload_n (pc := 2) o dX10_isInForce_2 rfl ?_
  refine g_iload_n (pc := 3) o dX10_isInForce_3 rfl ?_
  refine g_iconst (pc := 4) o dX10_isInForce_4 5 rfl ?_
  refine g_callVi (pc := 5) o (m_of t 5 ht (by decide)) mt_X10_of mv_X10_of lk_X10_131 rfl rfl rfl (by decide) rfl (Nat.le_of_ble_eq_true rfl) dX10_isInForce_5 ?_
  refine g_i2l (pc := 8) o dX10_isInForce_8 ?_
  refine g_aload_n (pc := 9) o dX10_isInForce_9 rfl ?_
  refine g_iload_n (pc := 10) o dX10_isInForce_10 rfl ?_
  refine g_bipush (pc := 11) o dX10_isInForce_11 6 rfl ?_
  refine g_callVi (pc := 13) o (m_of t 6 ht (by decide)) mt_X10_of mv_X10_of lk_X10_131 rfl rfl rfl (by decide) rfl (Nat.le_of_ble_eq_true rfl) dX10_isInForce_13 ?_
  refine g_i2l (pc := 16) o dX10_isInForce_16 ?_
  refine g_callSi (pc := 17) o (m_in (nI d).toInt64 (tmF (h.1 52) t 5).toInt64 (tmF (h.1 52) t 6).toInt64 h) mt_X10_in ms_X10_in lk_X10_71 rfl (by decide) rfl (Nat.le_of_ble_eq_true rfl) dX10_isInForce_17 ?_
  refine g_if_eq (pc := 20) o 45 dX10_isInForce_20 (by decide) (fun c20 => ?_) (fun c20 => ?_)
  · skip
    rw [q3] at c20
    refine g_iconst (pc := 45) o dX10_isInForce_45 0 rfl ?_
    exact g_zret o ρ (by first | rfl | exact bI_b) dX10_isInForce_46 (Ei.mk (bI_f (fun z => bI_0.mp c20 ⟨z.1, z.2.1⟩)) rfl)
  · skip
    rw [q3] at c20
    have k := bI_n0.mp c20
    refine g_aload_n (pc := 23) o dX10_isInForce_23 rfl ?_
    refine g_iload_n (pc := 24) o dX10_isInForce_24 rfl ?_
    refine g_iconst (pc := 25) o dX10_isInForce_25 0 rfl ?_
    refine g_callVi (pc := 26) o (m_of t 0 ht (by decide)) mt_X10_of mv_X10_of lk_X10_131 rfl rfl rfl (by decide) rfl (Nat.le_of_ble_eq_true rfl) dX10_isInForce_26 ?_
    refine g_iconst (pc := 29) o dX10_isInForce_29 5 rfl ?_
    refine g_ic_ne (pc := 30) o 41 dX10_isInForce_30 (by decide) (fun c30 => ?_) (fun c30 => ?_)
    · skip
      refine g_iconst (pc := 41) o dX10_isInForce_41 1 rfl ?_
      refine g_goto (pc := 42) o 46 dX10_isInForce_42 (by decide) ?_
      exact g_zret o ρ (by first | rfl | exact bI_b) dX10_isInForce_46 (Ei.mk (bI_t ⟨k.1, k.2, fun z => absurd z c30⟩) rfl)
    · skip
      have q : jrem (nI d) 7 = nI (d % 7) := dm7 hd
      refine g_iload_n (pc := 33) o dX10_isInForce_33 rfl ?_
      refine g_bipush (pc := 34) o dX10_isInForce_34 7 rfl ?_
      refine g_irem (pc := 36) o dX10_isInForce_36 (by decide) ?_
      refine g_iconst (pc := 37) o dX10_isInForce_37 5 rfl ?_
      refine g_ic_ge (pc := 38) o 45 dX10_isInForce_38 (by decide) (fun c38 => ?_) (fun c38 => ?_)
      · skip
        rw [q] at c38
        have := (nI_leI (a := 5) (by decide) (by omega)).mp c38
        refine g_iconst (pc := 45) o dX10_isInForce_45 0 rfl ?_
        exact g_zret o ρ (by first | rfl | exact bI_b) dX10_isInForce_46 (Ei.mk (bI_f (fun z => by have := z.2.2 c30; omega)) rfl)
      · skip
        rw [q] at c38
        have := mt (nI_leI (a := 5) (b := d % 7) (by decide) (by omega)).mpr c38
        refine g_iconst (pc := 41) o dX10_isInForce_41 1 rfl ?_
        refine g_goto (pc := 42) o 46 dX10_isInForce_42 (by decide) ?_
        exact g_zret o ρ (by first | rfl | exact bI_b) dX10_isInForce_46 (Ei.mk (bI_t ⟨k.1, k.2, fun _ => by omega⟩) rfl)
abbrev atF (s : Nat → Int32) (t m : Nat) : Prop := (tmF s t 3).toInt ≤ m ∧ (m : Int) ≤ (tmF s t 4).toInt
set_option maxRecDepth 100000 in
set_option maxHeartbeats 400000 in
theorem m_isAt {h : Mem} (t m : Nat) (ht : t < 12) (hm : m < 24) : Ct yX10_isAt cX10_isAt 3 (some .boolean) 1 25 [.ref 51, .int (nI t), .int (nI m)] h (Ei (bI (atF (h.1 52) t m)) h) := by
  refine Ct.of (by decide) (Nat.le_of_ble_eq_true rfl) (fun Γ o ρ => ?_)
  have q3 := in_3 (nI m) (tmF (h.1 52) t 3) (tmF (h.1 52) t 4)
  rw [nI_toInt (n := m) (by omega)] at q3
  refine g_iload_n (pc := 0) o dX10_isAt_0 rfl ?_
  refine g_i2l (pc := 1) o dX10_isAt_1 ?_
  refine g_aload_n (pc := 2) o dX10_isAt_2 rfl ?_
  refine g_iload_n (pc := 3) o dX10_isAt_3 rfl ?_
  refine g_iconst (pc := 4) o dX10_isAt_4 3 rfl ?_
  refine g_callVi (pc := 5) o (m_of t 3 ht (by decide)) mt_X10_of mv_X10_of lk_X10_131 rfl rfl rfl (by decide) rfl (Nat.le_of_ble_eq_true rfl) dX10_isAt_5 ?_
  refine g_i2l (pc := 8) o dX10_isAt_8 ?_
  refine g_aload_n (pc := 9) o dX10_isAt_9 rfl ?_
  refine g_iload_n (pc := 10) o dX10_isAt_10 rfl ?_
  refine g_iconst (pc := 11) o dX10_isAt_11 4 rfl ?_
  refine g_callVi (pc := 12) o (m_of t 4 ht (by decide)) mt_X10_of mv_X10_of lk_X10_131 rfl rfl rfl (by decide) rfl (Nat.le_of_ble_eq_true rfl) dX10_isAt_12 ?_
  refine g_i2l (pc := 15) o dX10_isAt_15 ?_
  refine g_callSi (pc := 16) o (m_in (nI m).toInt64 (tmF (h.1 52) t 3).toInt64 (tmF (h.1 52) t 4).toInt64 h) mt_X10_in ms_X10_in lk_X10_71 rfl (by decide) rfl (Nat.le_of_ble_eq_true rfl) dX10_isAt_16 ?_
  exact g_zret o ρ (by first | rfl | exact bI_b) dX10_isAt_19 (Ei.mk q3 rfl)
def bndF (s : Nat → Int32) (p : Int32) (d : Nat) : Nat → Int32
  | 0 => 0
  | n + 1 => if tmF s n 1 = p ∧ inF s n d then bndF s p d n ||| jshl 1 (nI n) else bndF s p d n
theorem bndF_s (s : Nat → Int32) (p : Int32) (d n : Nat) : bndF s p d (n + 1) = if tmF s n 1 = p ∧ inF s n d then bndF s p d n ||| jshl 1 (nI n) else bndF s p d n := rfl
set_option maxRecDepth 100000 in
theorem lp_binding {Γ : Fr} (o : ca_O Γ cX7_binding 5 RX7 2 44) {Pr : Option Value → Mem → Prop} (ρ : ca_R Γ (some .int) Pr) {h : Mem} {s : Nat → Int32} (B : BR h 1 s) {n : Nat} (hn : n ≤ 12) (e : s 189 = nI n) (p : Int32) (d : Nat) (hd : d < 30) (hp : Pr (some (.int (bndF s p d n))) h) : ∀ i, i ≤ n → ∀ xi a : Int32, xi = nI i → a = bndF s p d i → ca_G Γ 5 h 5 [some (.ref 6), some (.int p), some (.int (nI d)), some (.int a), some (.int xi)] [] := by
  refine downI n (fun i hi ih => ?_)
  rintro xi a rfl rfl
  refine g_iload (pc := 5) o dX7_binding_5 rfl ?_
  refine g_aload_n (pc := 7) o dX7_binding_7 rfl ?_
  refine g_getIE (pc := 8) o 1 rfl rfl rfl inX7 (by decide) lf_X7_15 (B.2.2.2.1.trans e) dX7_binding_8 ?_
  refine g_ic_ge (pc := 11) o 48 dX7_binding_11 (by decide) (fun c11 => ?_) (fun c11 => ?_)
  · skip
    have e : i = n := ge8 (n := n) (by omega) (by omega) c11
    subst e
    refine g_iload_n (pc := 48) o dX7_binding_48 rfl ?_
    exact g_iret o ρ dX7_binding_49 hp
  · skip
    have e : i < n := lt8 (n := n) (by omega) (by omega) c11
    refine g_aload_n (pc := 14) o dX7_binding_14 rfl ?_
    refine g_iload (pc := 15) o dX7_binding_15 rfl ?_
    refine g_iconst (pc := 17) o dX7_binding_17 1 rfl ?_
    refine g_callVi (pc := 18) o (c_tf B i 1 (by omega) (by decide)) mt_X7_field mv_X7_field lk_X7_19 rfl rfl rfl (by decide) rfl (Nat.le_of_ble_eq_true rfl) dX7_binding_18 ?_
    refine g_iload_n (pc := 21) o dX7_binding_21 rfl ?_
    refine g_ic_ne (pc := 22) o 42 dX7_binding_22 (by decide) (fun c22 => ?_) (fun c22 => ?_)
    · skip
      refine g_iinc (pc := 42) o dX7_binding_42 rfl 1 rfl (by decide) ?_
      refine g_goto (pc := 45) o 5 dX7_binding_45 (by decide) ?_
      exact ih e _ _ (nI_1 i) (by rw [bndF_s, if_neg (fun z => c22 z.1)])
    · skip
      refine g_aload_n (pc := 25) o dX7_binding_25 rfl ?_
      refine g_iload (pc := 26) o dX7_binding_26 rfl ?_
      refine g_iload_n (pc := 28) o dX7_binding_28 rfl ?_
      refine g_callVi (pc := 29) o (c_isBinding B i d (by omega) hd) mt_X7_isBinding mv_X7_isBinding lk_X7_40 rfl rfl rfl (by decide) rfl (Nat.le_of_ble_eq_true rfl) dX7_binding_29 ?_
      refine g_if_eq (pc := 32) o 42 dX7_binding_32 (by decide) (fun c32 => ?_) (fun c32 => ?_)
      · skip
        refine g_iinc (pc := 42) o dX7_binding_42 rfl 1 rfl (by decide) ?_
        refine g_goto (pc := 45) o 5 dX7_binding_45 (by decide) ?_
        exact ih e _ _ (nI_1 i) (by rw [bndF_s, if_neg (fun z => bI_0.mp c32 z.2)])
      · skip
        refine g_iload_n (pc := 35) o dX7_binding_35 rfl ?_
        refine g_iconst (pc := 36) o dX7_binding_36 1 rfl ?_
        refine g_iload (pc := 37) o dX7_binding_37 rfl ?_
        refine g_ishl (pc := 39) o dX7_binding_39 ?_
        refine g_ior (pc := 40) o dX7_binding_40 ?_
        refine g_istore_n (pc := 41) o dX7_binding_41 (by decide) ?_
        refine g_iinc (pc := 42) o dX7_binding_42 rfl 1 rfl (by decide) ?_
        refine g_goto (pc := 45) o 5 dX7_binding_45 (by decide) ?_
        exact ih e _ _ (nI_1 i) (by rw [bndF_s, if_pos ⟨c22, bI_n0.mp c32⟩])
set_option maxRecDepth 100000 in
set_option maxHeartbeats 400000 in
theorem c_binding {h : Mem} {s : Nat → Int32} (B : BR h 1 s) (ok : okT s) (p : Int32) (d : Nat) (hd : d < 30) : Ct yX7_binding cX7_binding 5 (some .int) 2 44 [.ref 6, .int p, .int (nI d)] h (Ei (bndF s p d (nT s)) h) := by
  refine Ct.of (by decide) (Nat.le_of_ble_eq_true rfl) (fun Γ o ρ => ?_)
  refine g_iconst (pc := 0) o dX7_binding_0 0 rfl ?_
  refine g_istore_n (pc := 1) o dX7_binding_1 (by decide) ?_
  refine g_iconst (pc := 2) o dX7_binding_2 0 rfl ?_
  refine g_istore (pc := 3) o dX7_binding_3 (by decide) ?_
  exact lp_binding o ρ B ok.1 ok.2.1 p d hd ⟨rfl, rfl⟩ 0 (by omega) 0 0 rfl rfl
set_option maxRecDepth 100000 in
theorem lp_inForceOf {Γ : Fr} (o : ca_O Γ cX10_inForceOf 5 RX10 2 47) {Pr : Option Value → Mem → Prop} (ρ : ca_R Γ (some .int) Pr) {h : Mem} {n : Nat} (hn : n ≤ 12) (e : h.1 52 189 = nI n) (p : Int32) (d : Nat) (hd : d < 30) (hp : Pr (some (.int (bndF (h.1 52) p d n))) h) : ∀ i, i ≤ n → ∀ xi a : Int32, xi = nI i → a = bndF (h.1 52) p d i → ca_G Γ 5 h 5 [some (.ref 51), some (.int p), some (.int (nI d)), some (.int a), some (.int xi)] [] := by
  refine downI n (fun i hi ih => ?_)
  rintro xi a rfl rfl
  refine g_iload (pc := 5) o dX10_inForceOf_5 rfl ?_
  refine g_aload_n (pc := 7) o dX10_inForceOf_7 rfl ?_
  refine g_getR (pc := 8) o 0 rfl rfl rfl inX10 (by decide) lf_X10_7 dX10_inForceOf_8 ?_
  refine g_sipush (pc := 11) o dX10_inForceOf_11 189 rfl ?_
  refine n_ialdE (pc := 14) o 189 (rfl) rfl ((by omega)) (by decide) (e) dX10_inForceOf_14 ?_
  refine g_ic_ge (pc := 15) o 56 dX10_inForceOf_15 (by decide) (fun c15 => ?_) (fun c15 => ?_)
  · skip
    have e : i = n := ge8 (n := n) (by omega) (by omega) c15
    subst e
    refine g_iload_n (pc := 56) o dX10_inForceOf_56 rfl ?_
    exact g_iret o ρ dX10_inForceOf_57 hp
  · skip
    have e : i < n := lt8 (n := n) (by omega) (by omega) c15
    refine g_iload_n (pc := 18) o dX10_inForceOf_18 rfl ?_
    refine g_aload_n (pc := 19) o dX10_inForceOf_19 rfl ?_
    refine g_iload (pc := 20) o dX10_inForceOf_20 rfl ?_
    refine g_iconst (pc := 22) o dX10_inForceOf_22 1 rfl ?_
    refine g_callVi (pc := 23) o (m_of i 1 (by omega) (by decide)) mt_X10_of mv_X10_of lk_X10_131 rfl rfl rfl (by decide) rfl (Nat.le_of_ble_eq_true rfl) dX10_inForceOf_23 ?_
    refine g_iload_n (pc := 26) o dX10_inForceOf_26 rfl ?_
    refine g_ic_ne (pc := 27) o 47 dX10_inForceOf_27 (by decide) (fun c27 => ?_) (fun c27 => ?_)
    · skip
      refine g_iconst (pc := 47) o dX10_inForceOf_47 0 rfl ?_
      refine g_ior (pc := 48) o dX10_inForceOf_48 ?_
      refine g_istore_n (pc := 49) o dX10_inForceOf_49 (by decide) ?_
      refine g_iinc (pc := 50) o dX10_inForceOf_50 rfl 1 rfl (by decide) ?_
      refine g_goto (pc := 53) o 5 dX10_inForceOf_53 (by decide) ?_
      exact ih e _ _ (nI_1 i) (by rw [bndF_s, if_neg (fun z => c27 z.1)]; exact or_z _)
    · skip
      refine g_aload_n (pc := 30) o dX10_inForceOf_30 rfl ?_
      refine g_iload (pc := 31) o dX10_inForceOf_31 rfl ?_
      refine g_iload_n (pc := 33) o dX10_inForceOf_33 rfl ?_
      refine g_callVi (pc := 34) o (m_isInForce i d (by omega) hd) mt_X10_isInForce mv_X10_isInForce lk_X10_157 rfl rfl rfl (by decide) rfl (Nat.le_of_ble_eq_true rfl) dX10_inForceOf_34 ?_
      refine g_if_eq (pc := 37) o 47 dX10_inForceOf_37 (by decide) (fun c37 => ?_) (fun c37 => ?_)
      · skip
        refine g_iconst (pc := 47) o dX10_inForceOf_47 0 rfl ?_
        refine g_ior (pc := 48) o dX10_inForceOf_48 ?_
        refine g_istore_n (pc := 49) o dX10_inForceOf_49 (by decide) ?_
        refine g_iinc (pc := 50) o dX10_inForceOf_50 rfl 1 rfl (by decide) ?_
        refine g_goto (pc := 53) o 5 dX10_inForceOf_53 (by decide) ?_
        exact ih e _ _ (nI_1 i) (by rw [bndF_s, if_neg (fun z => bI_0.mp c37 z.2)]; exact or_z _)
      · skip
        refine g_iconst (pc := 40) o dX10_inForceOf_40 1 rfl ?_
        refine g_iload (pc := 41) o dX10_inForceOf_41 rfl ?_
        refine g_ishl (pc := 43) o dX10_inForceOf_43 ?_
        refine g_goto (pc := 44) o 48 dX10_inForceOf_44 (by decide) ?_
        refine g_ior (pc := 48) o dX10_inForceOf_48 ?_
        refine g_istore_n (pc := 49) o dX10_inForceOf_49 (by decide) ?_
        refine g_iinc (pc := 50) o dX10_inForceOf_50 rfl 1 rfl (by decide) ?_
        refine g_goto (pc := 53) o 5 dX10_inForceOf_53 (by decide) ?_
        exact ih e _ _ (nI_1 i) (by rw [bndF_s, if_pos ⟨c27, bI_n0.mp c37⟩])
set_option maxRecDepth 100000 in
set_option maxHeartbeats 400000 in
theorem m_inForceOf {h : Mem} (ok : okT (h.1 52)) (p : Int32) (d : Nat) (hd : d < 30) : Ct yX10_inForceOf cX10_inForceOf 5 (some .int) 2 47 [.ref 51, .int p, .int (nI d)] h (Ei (bndF (h.1 52) p d (nT (h.1 52))) h) := by
  refine Ct.of (by decide) (Nat.le_of_ble_eq_true rfl) (fun Γ o ρ => ?_)
  refine g_iconst (pc := 0) o dX10_inForceOf_0 0 rfl ?_
  refine g_istore_n (pc := 1) o dX10_inForceOf_1 (by decide) ?_
  refine g_iconst (pc := 2) o dX10_inForceOf_2 0 rfl ?_
  refine g_istore (pc := 3) o dX10_inForceOf_3 (by decide) ?_
  exact lp_inForceOf o ρ ok.1 ok.2.1 p d hd ⟨rfl, rfl⟩ 0 (by omega) 0 0 rfl rfl
def badF (s : Nat → Int32) (t : Nat) : Int32 := if tmF s t 0 = 0 ∨ tmF s t 0 = 5 then 255 &&& (jshl 1 (tmF s t 2) ^^^ -1) else if tmF s t 0 = 1 then jshl 1 (tmF s t 2) else if tmF s t 0 = 4 then jshl 1 (tmF s t 2) ||| s (ca_n (tmF s t 2)) else 0
theorem badF_k (s : Nat → Int32) (t k : Nat) (e : tmF s t 0 = nI k) (q : Int32) (eq : tmF s t 2 = q) : (k = 0 ∨ k = 5 → badF s t = 255 &&& (jshl 1 q ^^^ -1)) ∧ (k = 1 → badF s t = jshl 1 q) ∧ (k = 4 → badF s t = jshl 1 q ||| s (ca_n q)) ∧ (k = 2 ∨ k = 3 ∨ k = 6 → badF s t = 0) := by
  unfold badF
  rw [e, eq]
  refine ⟨?_, ?_, ?_, ?_⟩
  · rintro (rfl | rfl) <;> rfl
  · rintro rfl; rfl
  · rintro rfl; rfl
  · rintro (rfl | rfl | rfl) <;> rfl
set_option maxRecDepth 100000 in
set_option maxHeartbeats 400000 in
theorem c_badPlaces {h : Mem} {s : Nat → Int32} (B : BR h 1 s) (T : okTm s) (t : Nat) (ht : t < 12) : Ct yX0_badPlaces cX0_badPlaces 3 (some .int) 1 22 [.ref 1, .int (nI t)] h (Ei (badF s t) h) := by
  refine Ct.of (by decide) (Nat.le_of_ble_eq_true rfl) (fun Γ o ρ => ?_)
  obtain ⟨k, p, q, _, _, _, _, hk, hp, hq, -, -, -, -, e0, e1, e2, -⟩ := T t ht
  obtain ⟨b1, b2, b3, b4⟩ := badF_k s t k e0 (nI q) e2
  have ef : ca_n (nI q) = q := nI_clamp (by omega)
  rw [ef] at b3
  have f2 : Ct yX7_field cX7_field 3 (some .int) 0 0 [.ref 6, .int (nI t), .int (nI 2)] h (Ei (nI q) h) := by rw [← e2]; exact c_tf B t 2 ht (by decide)
  have f0 : Ct yX7_field cX7_field 3 (some .int) 0 0 [.ref 6, .int (nI t), .int (nI 0)] h (Ei (nI k) h) := by rw [← e0]; exact c_tf B t 0 ht (by decide)
  refine g_aload_n (pc := 0) o dX0_badPlaces_0 rfl ?_
  refine g_getR (pc := 1) o 2 rfl rfl rfl inX0 (by decide) lf_X0_28 dX0_badPlaces_1 ?_
  refine g_iload_n (pc := 4) o dX0_badPlaces_4 rfl ?_
  refine g_iconst (pc := 5) o dX0_badPlaces_5 2 rfl ?_
  refine g_callVi (pc := 6) o (f2) mt_X7_field mv_X7_field lk_X0_51 rfl rfl rfl (by decide) rfl (Nat.le_of_ble_eq_true rfl) dX0_badPlaces_6 ?_
  refine g_istore_n (pc := 9) o dX0_badPlaces_9 (by decide) ?_
  refine g_aload_n (pc := 10) o dX0_badPlaces_10 rfl ?_
  refine g_getR (pc := 11) o 2 rfl rfl rfl inX0 (by decide) lf_X0_28 dX0_badPlaces_11 ?_
  refine g_iload_n (pc := 14) o dX0_badPlaces_14 rfl ?_
  refine g_iconst (pc := 15) o dX0_badPlaces_15 0 rfl ?_
  refine g_callVi (pc := 16) o (f0) mt_X7_field mv_X7_field lk_X0_51 rfl rfl rfl (by decide) rfl (Nat.le_of_ble_eq_true rfl) dX0_badPlaces_16 ?_
  rcases (by omega : k = 0 ∨ k = 1 ∨ k = 2 ∨ k = 3 ∨ k = 4 ∨ k = 5 ∨ k = 6) with rfl | rfl | rfl | rfl | rfl | rfl | rfl
  · skip
    refine g_tabIn (pc := 19) o 56 dX0_badPlaces_19 (by decide) (by decide) rfl (by decide) ?_
    refine g_sipush (pc := 56) o dX0_badPlaces_56 255 rfl ?_
    refine g_iconst (pc := 59) o dX0_badPlaces_59 1 rfl ?_
    refine g_iload_n (pc := 60) o dX0_badPlaces_60 rfl ?_
    refine g_ishl (pc := 61) o dX0_badPlaces_61 ?_
    refine g_iconst (pc := 62) o dX0_badPlaces_62 (-1) rfl ?_
    refine g_ixor (pc := 63) o dX0_badPlaces_63 ?_
    refine g_iand (pc := 64) o dX0_badPlaces_64 ?_
    exact g_iret o ρ dX0_badPlaces_65 (Ei.mk (b1 (Or.inl rfl)).symm rfl)
  · skip
    refine g_tabIn (pc := 19) o 66 dX0_badPlaces_19 (by decide) (by decide) rfl (by decide) ?_
    refine g_iconst (pc := 66) o dX0_badPlaces_66 1 rfl ?_
    refine g_iload_n (pc := 67) o dX0_badPlaces_67 rfl ?_
    refine g_ishl (pc := 68) o dX0_badPlaces_68 ?_
    exact g_iret o ρ dX0_badPlaces_69 (Ei.mk (b2 rfl).symm rfl)
  · skip
    refine g_tabIn (pc := 19) o 83 dX0_badPlaces_19 (by decide) (by decide) rfl (by decide) ?_
    refine g_iconst (pc := 83) o dX0_badPlaces_83 0 rfl ?_
    exact g_iret o ρ dX0_badPlaces_84 (Ei.mk (b4 (Or.inl rfl)).symm rfl)
  · skip
    refine g_tabIn (pc := 19) o 83 dX0_badPlaces_19 (by decide) (by decide) rfl (by decide) ?_
    refine g_iconst (pc := 83) o dX0_badPlaces_83 0 rfl ?_
    exact g_iret o ρ dX0_badPlaces_84 (Ei.mk (b4 (Or.inr (Or.inl rfl))).symm rfl)
  · skip
    refine g_tabIn (pc := 19) o 70 dX0_badPlaces_19 (by decide) (by decide) rfl (by decide) ?_
    refine g_iconst (pc := 70) o dX0_badPlaces_70 1 rfl ?_
    refine g_iload_n (pc := 71) o dX0_badPlaces_71 rfl ?_
    refine g_ishl (pc := 72) o dX0_badPlaces_72 ?_
    refine g_aload_n (pc := 73) o dX0_badPlaces_73 rfl ?_
    refine g_getR (pc := 74) o 0 rfl rfl rfl inX0 (by decide) lf_X0_12 dX0_badPlaces_74 ?_
    refine g_iload_n (pc := 77) o dX0_badPlaces_77 rfl ?_
    refine g_callVi (pc := 78) o (c_neighboursOf B q hq) mt_X2_neighboursOf mv_X2_neighboursOf lk_X0_55 rfl rfl rfl (by decide) rfl (Nat.le_of_ble_eq_true rfl) dX0_badPlaces_78 ?_
    refine g_ior (pc := 81) o dX0_badPlaces_81 ?_
    exact g_iret o ρ dX0_badPlaces_82 (Ei.mk (b3 rfl).symm rfl)
  · skip
    refine g_tabIn (pc := 19) o 56 dX0_badPlaces_19 (by decide) (by decide) rfl (by decide) ?_
    refine g_sipush (pc := 56) o dX0_badPlaces_56 255 rfl ?_
    refine g_iconst (pc := 59) o dX0_badPlaces_59 1 rfl ?_
    refine g_iload_n (pc := 60) o dX0_badPlaces_60 rfl ?_
    refine g_ishl (pc := 61) o dX0_badPlaces_61 ?_
    refine g_iconst (pc := 62) o dX0_badPlaces_62 (-1) rfl ?_
    refine g_ixor (pc := 63) o dX0_badPlaces_63 ?_
    refine g_iand (pc := 64) o dX0_badPlaces_64 ?_
    exact g_iret o ρ dX0_badPlaces_65 (Ei.mk (b1 (Or.inr rfl)).symm rfl)
  · skip
    refine g_tabOut (pc := 19) o 83 dX0_badPlaces_19 (by decide) (by decide) ?_
    refine g_iconst (pc := 83) o dX0_badPlaces_83 0 rfl ?_
    exact g_iret o ρ dX0_badPlaces_84 (Ei.mk (b4 (Or.inr (Or.inr rfl))).symm rfl)
set_option maxRecDepth 100000 in
set_option maxHeartbeats 400000 in
theorem m_badOf {h : Mem} (T : okTm (h.1 52)) (t : Nat) (ht : t < 12) : Ct yX10_badOf cX10_badOf 3 (some .int) 1 22 [.ref 51, .int (nI t)] h (Ei (badF (h.1 52) t) h) := by
  refine Ct.of (by decide) (Nat.le_of_ble_eq_true rfl) (fun Γ o ρ => ?_)
  obtain ⟨k, p, q, _, _, _, _, hk, hp, hq, -, -, -, -, e0, e1, e2, -⟩ := T t ht
  obtain ⟨b1, b2, b3, b4⟩ := badF_k (h.1 52) t k e0 (nI q) e2
  have ef : ca_n (nI q) = q := nI_clamp (by omega)
  rw [ef] at b3
  have f2 : Ct yX10_of cX10_of 3 (some .int) 0 0 [.ref 51, .int (nI t), .int (nI 2)] h (Ei (nI q) h) := by rw [← e2]; exact m_of t 2 ht (by decide)
  have f0 : Ct yX10_of cX10_of 3 (some .int) 0 0 [.ref 51, .int (nI t), .int (nI 0)] h (Ei (nI k) h) := by rw [← e0]; exact m_of t 0 ht (by decide)
  refine g_aload_n (pc := 0) o dX10_badOf_0 rfl ?_
  refine g_iload_n (pc := 1) o dX10_badOf_1 rfl ?_
  refine g_iconst (pc := 2) o dX10_badOf_2 2 rfl ?_
  refine g_callVi (pc := 3) o (f2) mt_X10_of mv_X10_of lk_X10_131 rfl rfl rfl (by decide) rfl (Nat.le_of_ble_eq_true rfl) dX10_badOf_3 ?_
  refine g_istore_n (pc := 6) o dX10_badOf_6 (by decide) ?_
  refine g_aload_n (pc := 7) o dX10_badOf_7 rfl ?_
  refine g_iload_n (pc := 8) o dX10_badOf_8 rfl ?_
  refine g_iconst (pc := 9) o dX10_badOf_9 0 rfl ?_
  refine g_callVi (pc := 10) o (f0) mt_X10_of mv_X10_of lk_X10_131 rfl rfl rfl (by decide) rfl (Nat.le_of_ble_eq_true rfl) dX10_badOf_10 ?_
  rcases (by omega : k = 0 ∨ k = 1 ∨ k = 2 ∨ k = 3 ∨ k = 4 ∨ k = 5 ∨ k = 6) with rfl | rfl | rfl | rfl | rfl | rfl | rfl
  · skip
    refine g_tabIn (pc := 13) o 52 dX10_badOf_13 (by decide) (by decide) rfl (by decide) ?_
    refine g_sipush (pc := 52) o dX10_badOf_52 255 rfl ?_
    refine g_iconst (pc := 55) o dX10_badOf_55 1 rfl ?_
    refine g_iload_n (pc := 56) o dX10_badOf_56 rfl ?_
    refine g_ishl (pc := 57) o dX10_badOf_57 ?_
    refine g_iconst (pc := 58) o dX10_badOf_58 (-1) rfl ?_
    refine g_ixor (pc := 59) o dX10_badOf_59 ?_
    refine g_iand (pc := 60) o dX10_badOf_60 ?_
    exact g_iret o ρ dX10_badOf_61 (Ei.mk (b1 (Or.inl rfl)).symm rfl)
  · skip
    refine g_tabIn (pc := 13) o 62 dX10_badOf_13 (by decide) (by decide) rfl (by decide) ?_
    refine g_iconst (pc := 62) o dX10_badOf_62 1 rfl ?_
    refine g_iload_n (pc := 63) o dX10_badOf_63 rfl ?_
    refine g_ishl (pc := 64) o dX10_badOf_64 ?_
    exact g_iret o ρ dX10_badOf_65 (Ei.mk (b2 rfl).symm rfl)
  · skip
    refine g_tabIn (pc := 13) o 79 dX10_badOf_13 (by decide) (by decide) rfl (by decide) ?_
    refine g_iconst (pc := 79) o dX10_badOf_79 0 rfl ?_
    exact g_iret o ρ dX10_badOf_80 (Ei.mk (b4 (Or.inl rfl)).symm rfl)
  · skip
    refine g_tabIn (pc := 13) o 79 dX10_badOf_13 (by decide) (by decide) rfl (by decide) ?_
    refine g_iconst (pc := 79) o dX10_badOf_79 0 rfl ?_
    exact g_iret o ρ dX10_badOf_80 (Ei.mk (b4 (Or.inr (Or.inl rfl))).symm rfl)
  · skip
    refine g_tabIn (pc := 13) o 66 dX10_badOf_13 (by decide) (by decide) rfl (by decide) ?_
    refine g_iconst (pc := 66) o dX10_badOf_66 1 rfl ?_
    refine g_iload_n (pc := 67) o dX10_badOf_67 rfl ?_
    refine g_ishl (pc := 68) o dX10_badOf_68 ?_
    refine g_aload_n (pc := 69) o dX10_badOf_69 rfl ?_
    refine g_getR (pc := 70) o 0 rfl rfl rfl inX10 (by decide) lf_X10_7 dX10_badOf_70 ?_
    refine g_iconst (pc := 73) o dX10_badOf_73 0 rfl ?_
    refine g_iload_n (pc := 74) o dX10_badOf_74 rfl ?_
    refine g_iadd (pc := 75) o dX10_badOf_75 ?_
    refine n_iald (pc := 76) o q (z0 q) rfl ((by omega)) (by decide) dX10_badOf_76 ?_
    refine g_ior (pc := 77) o dX10_badOf_77 ?_
    exact g_iret o ρ dX10_badOf_78 (Ei.mk (b3 rfl).symm rfl)
  · skip
    refine g_tabIn (pc := 13) o 52 dX10_badOf_13 (by decide) (by decide) rfl (by decide) ?_
    refine g_sipush (pc := 52) o dX10_badOf_52 255 rfl ?_
    refine g_iconst (pc := 55) o dX10_badOf_55 1 rfl ?_
    refine g_iload_n (pc := 56) o dX10_badOf_56 rfl ?_
    refine g_ishl (pc := 57) o dX10_badOf_57 ?_
    refine g_iconst (pc := 58) o dX10_badOf_58 (-1) rfl ?_
    refine g_ixor (pc := 59) o dX10_badOf_59 ?_
    refine g_iand (pc := 60) o dX10_badOf_60 ?_
    exact g_iret o ρ dX10_badOf_61 (Ei.mk (b1 (Or.inr rfl)).symm rfl)
  · skip
    refine g_tabOut (pc := 13) o 79 dX10_badOf_13 (by decide) (by decide) ?_
    refine g_iconst (pc := 79) o dX10_badOf_79 0 rfl ?_
    exact g_iret o ρ dX10_badOf_80 (Ei.mk (b4 (Or.inr (Or.inr rfl))).symm rfl)

