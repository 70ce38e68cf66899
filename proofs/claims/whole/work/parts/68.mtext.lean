/-! ===== text: the model ===== -/
set_option maxRecDepth 100000 in
set_option maxHeartbeats 400000 in
theorem m_roadE {h : Mem} (i j : Nat) (hi : i < 8) (hj : j < 8) (hij : i ≠ j) : Ct yX10_road cX10_road 5 (some .int) 2 45 [.ref 51, .int (nI i), .int (nI j), .int 1] h (Qi (fun _ h2 => h2.1 52 = rdS (h.1 52) i j 1 ∧ ∀ c, c ≠ 52 → h2.1 c = h.1 c)) := by
  refine Ct.of (by decide) (Nat.le_of_ble_eq_true rfl) (fun Γ o ρ => ?_)
  show ca_G Γ 5 _ _ [_, _, _, _, _] _
  have r1 := rng_nI (j := i) (b := 7) (by omega) (by decide)
  have r2 := rng_nI (j := j) (b := 7) (by omega) (by decide)
  have e2 : ∀ v, (mw h 52 i v).1 52 j = h.1 52 j := fun v => by rw [mw_same, pk_un (Ne.symm hij)]
  have q : ∀ x k, x ||| jshl 1 (nI k) = setR x k 1 := fun x k => by unfold setR; rw [if_neg (by decide)]
  refine g_iload_n (pc := 0) o dX10_road_0 rfl ?_
  refine g_callSi (pc := 1) o (m_isPlace (nI i) h) mt_X10_isPlace ms_X10_isPlace lk_X10_82 rfl (by decide) rfl (Nat.le_of_ble_eq_true rfl) dX10_road_1 ?_
  refine g_if_eq (pc := 4) o 19 dX10_road_4 (by decide) (fun c4 => ?_) (fun c4 => ?_)
  · skip
    exact absurd r1 (bI_0.mp c4)
  · skip
    refine g_iload_n (pc := 7) o dX10_road_7 rfl ?_
    refine g_callSi (pc := 8) o (m_isPlace (nI j) h) mt_X10_isPlace ms_X10_isPlace lk_X10_82 rfl (by decide) rfl (Nat.le_of_ble_eq_true rfl) dX10_road_8 ?_
    refine g_if_eq (pc := 11) o 19 dX10_road_11 (by decide) (fun c11 => ?_) (fun c11 => ?_)
    · skip
      exact absurd r2 (bI_0.mp c11)
    · skip
      refine g_iload_n (pc := 14) o dX10_road_14 rfl ?_
      refine g_iload_n (pc := 15) o dX10_road_15 rfl ?_
      refine g_ic_ne (pc := 16) o 26 dX10_road_16 (by decide) (fun c16 => ?_) (fun c16 => ?_)
      · skip
        refine g_aload_n (pc := 26) o dX10_road_26 rfl ?_
        refine g_getR (pc := 27) o 0 rfl rfl rfl inX10 (by decide) lf_X10_7 dX10_road_27 ?_
        refine g_iconst (pc := 30) o dX10_road_30 0 rfl ?_
        refine g_iload_n (pc := 31) o dX10_road_31 rfl ?_
        refine g_iadd (pc := 32) o dX10_road_32 ?_
        refine n_iald (pc := 33) o i (z0 i) rfl ((by omega)) (by decide) dX10_road_33 ?_
        refine g_iload_n (pc := 34) o dX10_road_34 rfl ?_
        refine g_ishr (pc := 35) o dX10_road_35 ?_
        refine g_iconst (pc := 36) o dX10_road_36 1 rfl ?_
        refine g_iand (pc := 37) o dX10_road_37 ?_
        refine g_istore (pc := 38) o dX10_road_38 (by decide) ?_
        show ca_G Γ 5 _ _ [_, _, _, _, _] _
        refine g_aload_n (pc := 40) o dX10_road_40 rfl ?_
        refine g_getR (pc := 41) o 0 rfl rfl rfl inX10 (by decide) lf_X10_7 dX10_road_41 ?_
        refine g_iconst (pc := 44) o dX10_road_44 0 rfl ?_
        refine g_iload_n (pc := 45) o dX10_road_45 rfl ?_
        refine g_iadd (pc := 46) o dX10_road_46 ?_
        refine g_iload_n (pc := 47) o dX10_road_47 rfl ?_
        refine g_if_eq (pc := 48) o 66 dX10_road_48 (by decide) (fun c48 => ?_) (fun c48 => ?_)
        · skip
          exact absurd c48 (by decide)
        · skip
          refine g_aload_n (pc := 51) o dX10_road_51 rfl ?_
          refine g_getR (pc := 52) o 0 rfl rfl rfl inX10 (by decide) lf_X10_7 dX10_road_52 ?_
          refine g_iconst (pc := 55) o dX10_road_55 0 rfl ?_
          refine g_iload_n (pc := 56) o dX10_road_56 rfl ?_
          refine g_iadd (pc := 57) o dX10_road_57 ?_
          refine n_iald (pc := 58) o i (z0 i) rfl ((by omega)) (by decide) dX10_road_58 ?_
          refine g_iconst (pc := 59) o dX10_road_59 1 rfl ?_
          refine g_iload_n (pc := 60) o dX10_road_60 rfl ?_
          refine g_ishl (pc := 61) o dX10_road_61 ?_
          refine g_ior (pc := 62) o dX10_road_62 ?_
          refine g_goto (pc := 63) o 80 dX10_road_63 (by decide) ?_
          refine n_iast (pc := 80) o i (z0 i) rfl ((by omega)) (by decide) dX10_road_80 ?_
          refine g_aload_n (pc := 81) o dX10_road_81 rfl ?_
          refine g_getR (pc := 82) o 0 rfl rfl rfl inX10 (by decide) lf_X10_7 dX10_road_82 ?_
          refine g_iconst (pc := 85) o dX10_road_85 0 rfl ?_
          refine g_iload_n (pc := 86) o dX10_road_86 rfl ?_
          refine g_iadd (pc := 87) o dX10_road_87 ?_
          refine g_iload_n (pc := 88) o dX10_road_88 rfl ?_
          refine g_if_eq (pc := 89) o 107 dX10_road_89 (by decide) (fun c89 => ?_) (fun c89 => ?_)
          · skip
            exact absurd c89 (by decide)
          · skip
            refine g_aload_n (pc := 92) o dX10_road_92 rfl ?_
            refine g_getR (pc := 93) o 0 rfl rfl rfl inX10 (by decide) lf_X10_7 dX10_road_93 ?_
            refine g_iconst (pc := 96) o dX10_road_96 0 rfl ?_
            refine g_iload_n (pc := 97) o dX10_road_97 rfl ?_
            refine g_iadd (pc := 98) o dX10_road_98 ?_
            refine n_ialdE (pc := 99) o j (z0 j) rfl ((by omega)) (by decide) (e2 _) dX10_road_99 ?_
            refine g_iconst (pc := 100) o dX10_road_100 1 rfl ?_
            refine g_iload_n (pc := 101) o dX10_road_101 rfl ?_
            refine g_ishl (pc := 102) o dX10_road_102 ?_
            refine g_ior (pc := 103) o dX10_road_103 ?_
            refine g_goto (pc := 104) o 121 dX10_road_104 (by decide) ?_
            refine n_iast (pc := 121) o j (z0 j) rfl ((by omega)) (by decide) dX10_road_121 ?_
            refine g_iload (pc := 122) o dX10_road_122 rfl ?_
            exact g_iret o ρ dX10_road_124 ⟨_, rfl, by rw [q, q]; rfl, fun c hc => by rw [mw_ne _ _ _ hc, mw_ne _ _ _ hc]⟩
      · skip
        exact absurd ((nI_eq (a := i) (b := j) (by omega) (by omega)).mp c16) hij
set_option maxRecDepth 100000 in
set_option maxHeartbeats 400000 in
theorem m_itemX {h : Mem} (e24 : h.1 51 24 = 1) : Ct yX10_item cX10_item 5 none 7 159 [.ref 51] h (Ev h) := by
  refine Ct.of (by decide) (Nat.le_of_ble_eq_true rfl) (fun Γ o ρ => ?_)
  show ca_G Γ 5 _ _ [_, _, _, _, _] _
  refine g_aload_n (pc := 0) o dX10_item_0 rfl ?_
  refine g_callVi (pc := 1) o (m_kindX e24) mt_X10_kindHere mv_X10_kindHere lk_X10_289 rfl rfl rfl (by decide) rfl (Nat.le_of_ble_eq_true rfl) dX10_item_1 ?_
  refine g_istore_n (pc := 4) o dX10_item_4 (by decide) ?_
  show ca_G Γ 5 _ _ [_, _, _, _, _] _
  refine g_iload_n (pc := 5) o dX10_item_5 rfl ?_
  refine g_if_lt (pc := 6) o 17 dX10_item_6 (by decide) (fun c6 => ?_) (fun c6 => ?_)
  · skip
    refine g_aload_n (pc := 17) o dX10_item_17 rfl ?_
    refine g_bipush (pc := 18) o dX10_item_18 114 rfl ?_
    refine g_bipush (pc := 20) o dX10_item_20 111 rfl ?_
    refine g_bipush (pc := 22) o dX10_item_22 97 rfl ?_
    refine g_bipush (pc := 24) o dX10_item_24 100 rfl ?_
    refine g_iconst (pc := 26) o dX10_item_26 0 rfl ?_
    refine g_iconst (pc := 27) o dX10_item_27 0 rfl ?_
    refine g_iconst (pc := 28) o dX10_item_28 0 rfl ?_
    refine g_callVi (pc := 29) o (m_isWordX e24 114 111 97 100 0 0 0) mt_X10_isWord mv_X10_isWord lk_X10_277 rfl rfl rfl (by decide) rfl (Nat.le_of_ble_eq_true rfl) dX10_item_29 ?_
    refine g_if_eq (pc := 32) o 104 dX10_item_32 (by decide) (fun c32 => ?_) (fun c32 => ?_)
    · skip
      refine g_aload_n (pc := 104) o dX10_item_104 rfl ?_
      refine g_aload_n (pc := 105) o dX10_item_105 rfl ?_
      refine g_bipush (pc := 106) o dX10_item_106 98 rfl ?_
      refine g_bipush (pc := 108) o dX10_item_108 97 rfl ?_
      refine g_bipush (pc := 110) o dX10_item_110 105 rfl ?_
      refine g_bipush (pc := 112) o dX10_item_112 108 rfl ?_
      refine g_iconst (pc := 114) o dX10_item_114 0 rfl ?_
      refine g_iconst (pc := 115) o dX10_item_115 0 rfl ?_
      refine g_iconst (pc := 116) o dX10_item_116 0 rfl ?_
      refine g_callVi (pc := 117) o (m_isWordX e24 98 97 105 108 0 0 0) mt_X10_isWord mv_X10_isWord lk_X10_277 rfl rfl rfl (by decide) rfl (Nat.le_of_ble_eq_true rfl) dX10_item_117 ?_
      refine g_callVv (pc := 120) o (m_needsX e24 0) mt_X10_needs mv_X10_needs lk_X10_273 rfl rfl rfl (by decide) rfl (Nat.le_of_ble_eq_true rfl) dX10_item_120 ?_
      refine g_aload_n (pc := 123) o dX10_item_123 rfl ?_
      refine g_iconst (pc := 124) o dX10_item_124 0 rfl ?_
      refine g_iconst (pc := 125) o dX10_item_125 5 rfl ?_
      refine g_callVv (pc := 126) o (m_numberX e24 0 5) mt_X10_number mv_X10_number lk_X10_281 rfl rfl rfl (by decide) rfl (Nat.le_of_ble_eq_true rfl) dX10_item_126 ?_
      refine g_aload_n (pc := 129) o dX10_item_129 rfl ?_
      refine g_getI (pc := 130) o 23 rfl rfl rfl inX10 (by decide) lf_X10_270 dX10_item_130 ?_
      refine g_istore_n (pc := 133) o dX10_item_133 (by decide) ?_
      show ca_G Γ 5 _ _ [_, _, _, _, _] _
      refine g_aload_n (pc := 134) o dX10_item_134 rfl ?_
      refine g_iconst (pc := 135) o dX10_item_135 0 rfl ?_
      refine g_sipush (pc := 136) o dX10_item_136 9999 rfl ?_
      refine g_callVv (pc := 139) o (m_numberX e24 0 9999) mt_X10_number mv_X10_number lk_X10_281 rfl rfl rfl (by decide) rfl (Nat.le_of_ble_eq_true rfl) dX10_item_139 ?_
      refine g_aload_n (pc := 142) o dX10_item_142 rfl ?_
      refine g_getIE (pc := 143) o 24 rfl rfl rfl inX10 (by decide) lf_X10_261 (e24) dX10_item_143 ?_
      refine g_if_ne (pc := 146) o 163 dX10_item_146 (by decide) (fun c146 => ?_) (fun c146 => ?_)
      · skip
        exact g_vret o ρ dX10_item_163 ⟨rfl, rfl⟩
      · skip
        exact absurd c146 (by decide)
    · skip
      exact absurd rfl c32
  · skip
    exact absurd (by decide) c6
theorem pNum_none {f : Nat → Int32} {n : Nat} {t : Nat × Nat} {lo hi : Nat} (h : ¬ (srF f n t.1 = 2 ∧ lo ≤ vaF f t ∧ vaF f t ≤ hi)) : pNum f n t lo hi = none := if_neg h
set_option maxRecDepth 100000 in
set_option maxHeartbeats 400000 in
theorem m_item {h : Mem} {f : Nat → Int32} {n : Nat} (M : MP h f n) {t : Nat × Nat} (R : MT h t) (ok : tkR f n t) (e24 : h.1 51 24 = 0) {s : Nat → Int32} (es : h.1 52 = s) (I : SI s) : Ct yX10_item cX10_item 5 none 7 159 [.ref 51] h (Qv (fun h2 => mIt h h2 f n s (pItem f n s t))) := by
  refine Ct.of (by decide) (Nat.le_of_ble_eq_true rfl) (fun Γ o ρ => ?_)
  show ca_G Γ 5 _ _ [_, _, _, _, _] _
  have ok1 := nx_R ok
  have ok2 := nx_R ok1
  have mk := m_kindHere M R ok.1 e24
  generalize hres : pItem f n s t = res at ρ
  unfold pItem at hres
  cases e0 : fnF (kdB f t) 7 0 with
  | some k =>
    rw [e0] at hres mk
    simp only at hres
    obtain ⟨_, kl, _⟩ := fn_lt _ _ e0
    refine g_aload_n (pc := 0) o dX10_item_0 rfl ?_
    refine g_callVi (pc := 1) o (mk) mt_X10_kindHere mv_X10_kindHere lk_X10_289 rfl rfl rfl (by decide) rfl (Nat.le_of_ble_eq_true rfl) dX10_item_1 ?_
    refine g_istore_n (pc := 4) o dX10_item_4 (by decide) ?_
    show ca_G Γ 5 _ _ [_, _, _, _, _] _
    refine g_iload_n (pc := 5) o dX10_item_5 rfl ?_
    refine g_if_lt (pc := 6) o 17 dX10_item_6 (by decide) (fun c6 => ?_) (fun c6 => ?_)
    · skip
      exact absurd c6 (nI_pos (by omega))
    · skip
      refine g_aload_n (pc := 9) o dX10_item_9 rfl ?_
      refine g_iload_n (pc := 10) o dX10_item_10 rfl ?_
      refine g_callVQv (pc := 11) o (m_termItem M R ok e24 es I k (by omega)) mt_X10_termItem mv_X10_termItem lk_X10_292 rfl rfl rfl (by decide) rfl (Nat.le_of_ble_eq_true rfl) dX10_item_11 ?_
      rintro h1 w
      refine g_goto (pc := 14) o 163 dX10_item_14 (by decide) ?_
      rw [hres] at w
      exact g_vret o ρ dX10_item_163 ⟨rfl, w⟩
  | none =>
    rw [e0] at hres mk
    simp only at hres
    have mr := m_isWord M R ok.1 e24 0 (by decide)
    have mb := m_isWord M R ok.1 e24 1 (by decide)
    refine g_aload_n (pc := 0) o dX10_item_0 rfl ?_
    refine g_callVi (pc := 1) o (mk) mt_X10_kindHere mv_X10_kindHere lk_X10_289 rfl rfl rfl (by decide) rfl (Nat.le_of_ble_eq_true rfl) dX10_item_1 ?_
    refine g_istore_n (pc := 4) o dX10_item_4 (by decide) ?_
    show ca_G Γ 5 _ _ [_, _, _, _, _] _
    refine g_iload_n (pc := 5) o dX10_item_5 rfl ?_
    refine g_if_lt (pc := 6) o 17 dX10_item_6 (by decide) (fun c6 => ?_) (fun c6 => ?_)
    · skip
      by_cases w0 : wdP f t 0
      · rw [if_pos w0] at hres
        rw [show bI (wdP f t 0) = 1 from (bI_t w0).symm] at mr
        unfold pRoad at hres
        refine g_aload_n (pc := 17) o dX10_item_17 rfl ?_
        refine g_bipush (pc := 18) o dX10_item_18 114 rfl ?_
        refine g_bipush (pc := 20) o dX10_item_20 111 rfl ?_
        refine g_bipush (pc := 22) o dX10_item_22 97 rfl ?_
        refine g_bipush (pc := 24) o dX10_item_24 100 rfl ?_
        refine g_iconst (pc := 26) o dX10_item_26 0 rfl ?_
        refine g_iconst (pc := 27) o dX10_item_27 0 rfl ?_
        refine g_iconst (pc := 28) o dX10_item_28 0 rfl ?_
        refine g_callVi (pc := 29) o (mr) mt_X10_isWord mv_X10_isWord lk_X10_277 rfl rfl rfl (by decide) rfl (Nat.le_of_ble_eq_true rfl) dX10_item_29 ?_
        refine g_if_eq (pc := 32) o 104 dX10_item_32 (by decide) (fun c32 => ?_) (fun c32 => ?_)
        · skip
          exact absurd c32 (by decide)
        · skip
          refine g_aload_n (pc := 35) o dX10_item_35 rfl ?_
          refine g_iconst (pc := 36) o dX10_item_36 1 rfl ?_
          refine g_callVQv (pc := 37) o (m_needs1 M R ok.1 e24 1 (by decide)) mt_X10_needs mv_X10_needs lk_X10_273 rfl rfl rfl (by decide) rfl (Nat.le_of_ble_eq_true rfl) dX10_item_37 ?_
          rintro h1 u
          obtain ⟨R1, e1, O1, _⟩ := u
          have M1 := M.of O1
          refine g_aload_n (pc := 40) o dX10_item_40 rfl ?_
          refine g_iconst (pc := 41) o dX10_item_41 0 rfl ?_
          refine g_bipush (pc := 42) o dX10_item_42 7 rfl ?_
          refine g_callVQv (pc := 44) o (m_number M1 R1 ok1 e1 0 7 (by decide) (by decide)) mt_X10_number mv_X10_number lk_X10_281 rfl rfl rfl (by decide) rfl (Nat.le_of_ble_eq_true rfl) dX10_item_44 ?_
          rintro h2 u
          obtain ⟨O2, u⟩ := u
          have O3 := O1.tr O2
          have M2 := M.of O3
          have es2 : h2.1 52 = s := (O3.1 52 (by decide)).trans es
          rcases u with ⟨a, ea, e23, R2, e2⟩ | ⟨ea, e2, R2⟩
          · rw [ea] at hres
            simp only at hres
            have al := (num_len ok1 ea).2.2.1
            have mh := m_numHere M2 R2 ok2
            have bad : (∀ b, pNum f n (nxF f n (nxF f n t)) 0 7 = some b → b = a) → ∀ x3 : Int32, ca_G Γ 5 h2 81 [some (.ref 51), some (.int (-1)), some (.int (nI a)), some (.int x3), none] [.ref 51] := by
              intro hb x3
              have er : res = .inl (nxF f n (nxF f n t)).1 := by
                rw [← hres]
                cases e : pNum f n (nxF f n (nxF f n t)) 0 7 with
                | none => rfl
                | some b => exact if_pos (hb b e)
              have e86 : (mw h2 51 24 1).1 51 24 = 1 := rfl
              refine g_iconst (pc := 81) o dX10_item_81 0 rfl ?_
              refine g_callVv (pc := 82) o (m_needs0 e2) mt_X10_needs mv_X10_needs lk_X10_273 rfl rfl rfl (by decide) rfl (Nat.le_of_ble_eq_true rfl) dX10_item_82 ?_
              refine g_aload_n (pc := 85) o dX10_item_85 rfl ?_
              refine g_getIE (pc := 86) o 24 rfl rfl rfl inX10 (by decide) lf_X10_261 (e86) dX10_item_86 ?_
              refine g_if_ne (pc := 89) o 101 dX10_item_89 (by decide) (fun c89 => ?_) (fun c89 => ?_)
              · skip
                refine g_goto (pc := 101) o 163 dX10_item_101 (by decide) ?_
                exact g_vret o ρ dX10_item_163 ⟨rfl, (O3.w (by decide)).s, fun j _ => by show h2.1 52 j = _; rw [es2, es], Or.inl ⟨_, er, rfl, R2.1⟩⟩
              · skip
                exact absurd c89 (by decide)
            have pv : ∀ x : Int32, x = (if srF f n (nxF f n (nxF f n t)).1 = 2 then nI (vaF f (nxF f n (nxF f n t))) else -1) → ca_G Γ 5 h2 64 [some (.ref 51), some (.int (-1)), some (.int (nI a)), some (.int x), none] [] := by
              intro x ex
              have mp := m_isPlace x h2
              refine g_aload_n (pc := 64) o dX10_item_64 rfl ?_
              refine g_iload_n (pc := 65) o dX10_item_65 rfl ?_
              refine g_callSi (pc := 66) o (mp) mt_X10_isPlace ms_X10_isPlace lk_X10_82 rfl (by decide) rfl (Nat.le_of_ble_eq_true rfl) dX10_item_66 ?_
              refine g_if_eq (pc := 69) o 81 dX10_item_69 (by decide) (fun c69 => ?_) (fun c69 => ?_)
              · skip
                have y := bI_0.mp c69
                refine bad (fun b e => absurd ?_ y) _
                have nl := num_len ok2 e
                rw [ex, if_pos nl.2.2.2.1, ← nl.2.2.2.2]
                exact rng_nI (b := 7) (by omega) (by decide)
              · skip
                have y := bI_n0.mp c69
                obtain ⟨b, hb, eb, _⟩ := n_of (x := x) (b := 7) y (by decide)
                have s2 : srF f n (nxF f n (nxF f n t)).1 = 2 := by
                  by_cases w : srF f n (nxF f n (nxF f n t)).1 = 2
                  · exact w
                  · rw [if_neg w] at ex
                    rw [ex] at y
                    exact absurd y (by decide)
                rw [if_pos s2] at ex
                have vb := (va_d ok2 s2).2
                have ev : vaF f (nxF f n (nxF f n t)) = b := (nI_eq (by omega) (by omega)).mp (ex.symm.trans eb)
                have pn : pNum f n (nxF f n (nxF f n t)) 0 7 = some b := by
                  unfold pNum
                  rw [if_pos ⟨s2, Nat.zero_le _, by omega⟩, ev]
                rw [eb]
                refine g_iload_n (pc := 72) o dX10_item_72 rfl ?_
                refine g_iload_n (pc := 73) o dX10_item_73 rfl ?_
                refine g_ic_eq (pc := 74) o 81 dX10_item_74 (by decide) (fun c74 => ?_) (fun c74 => ?_)
                · skip
                  have w := (nI_eq (a := b) (b := a) (by omega) (by omega)).mp c74
                  refine bad (fun b2 e => ?_) _
                  rw [pn] at e
                  cases e
                  exact w
                · skip
                  have w := mt (nI_eq (a := b) (b := a) (by omega) (by omega)).mpr c74
                  rw [pn] at hres
                  simp only at hres
                  rw [if_neg w] at hres
                  refine g_iconst (pc := 77) o dX10_item_77 1 rfl ?_
                  refine g_goto (pc := 78) o 82 dX10_item_78 (by decide) ?_
                  refine g_callVQv (pc := 82) o (m_needs1 M2 R2 ok2.1 e2 1 (by decide)) mt_X10_needs mv_X10_needs lk_X10_273 rfl rfl rfl (by decide) rfl (Nat.le_of_ble_eq_true rfl) dX10_item_82 ?_
                  rintro h3 u
                  obtain ⟨R3, e3, O4, _⟩ := u
                  have O5 := O3.tr O4
                  have es3 : h3.1 52 = s := (O5.1 52 (by decide)).trans es
                  refine g_aload_n (pc := 85) o dX10_item_85 rfl ?_
                  refine g_getIE (pc := 86) o 24 rfl rfl rfl inX10 (by decide) lf_X10_261 (e3) dX10_item_86 ?_
                  refine g_if_ne (pc := 89) o 101 dX10_item_89 (by decide) (fun c89 => ?_) (fun c89 => ?_)
                  · skip
                    exact absurd rfl c89
                  · skip
                    have mr2 := m_roadE (h := h3) a b (by omega) (by omega) (fun y => w y.symm)
                    refine g_aload_n (pc := 92) o dX10_item_92 rfl ?_
                    refine g_iload_n (pc := 93) o dX10_item_93 rfl ?_
                    refine g_iload_n (pc := 94) o dX10_item_94 rfl ?_
                    refine g_iconst (pc := 95) o dX10_item_95 1 rfl ?_
                    refine g_callVQi (pc := 96) o (mr2) mt_X10_road mv_X10_road lk_X10_296 rfl rfl rfl (by decide) rfl (Nat.le_of_ble_eq_true rfl) dX10_item_96 ?_
                    rintro r h4 v
                    obtain ⟨v1, v2⟩ := v
                    have O6 : offS h h4 := ⟨fun c x1 x2 => (v2 c x2).trans (O5.1 c x1), fun j hj => by rw [v2 51 (by decide)]; exact O5.2 j hj⟩
                    have ap : apI (itF 0 a b 0 0 0 0 0) s = rdS s a b 1 := if_pos rfl
                    refine g_istore (pc := 99) o dX10_item_99 (by decide) ?_
                    show ca_G Γ 5 _ _ [_, _, _, _, _] _
                    refine g_goto (pc := 101) o 163 dX10_item_101 (by decide) ?_
                    exact g_vret o ρ dX10_item_163 ⟨rfl, O6, fun j hj => by rw [v1, es3, es]; unfold rdS upd; rw [if_neg (by omega), if_neg (by omega)], Or.inr ⟨_, hres.symm, by rw [v2 51 (by decide)]; exact e3, by rw [MT, v2 51 (by decide)]; exact R3, by rw [v1, es3]; exact ap.symm⟩⟩
            refine g_aload_n (pc := 47) o dX10_item_47 rfl ?_
            refine g_getIE (pc := 48) o 23 rfl rfl rfl inX10 (by decide) lf_X10_270 (e23) dX10_item_48 ?_
            refine g_istore_n (pc := 51) o dX10_item_51 (by decide) ?_
            show ca_G Γ 5 _ _ [_, _, _, _, _] _
            refine g_aload_n (pc := 52) o dX10_item_52 rfl ?_
            refine g_getIE (pc := 53) o 24 rfl rfl rfl inX10 (by decide) lf_X10_261 (e2) dX10_item_53 ?_
            refine g_if_ne (pc := 56) o 101 dX10_item_56 (by decide) (fun c56 => ?_) (fun c56 => ?_)
            · skip
              exact absurd rfl c56
            · skip
              refine g_aload_n (pc := 59) o dX10_item_59 rfl ?_
              refine g_callVi (pc := 60) o (mh) mt_X10_numberHere mv_X10_numberHere lk_X10_283 rfl rfl rfl (by decide) rfl (Nat.le_of_ble_eq_true rfl) dX10_item_60 ?_
              refine g_istore_n (pc := 63) o dX10_item_63 (by decide) ?_
              show ca_G Γ 5 _ _ [_, _, _, _, _] _
              exact pv _ rfl
          · rw [ea] at hres
            simp only at hres
            refine g_aload_n (pc := 47) o dX10_item_47 rfl ?_
            refine g_getI (pc := 48) o 23 rfl rfl rfl inX10 (by decide) lf_X10_270 dX10_item_48 ?_
            refine g_istore_n (pc := 51) o dX10_item_51 (by decide) ?_
            show ca_G Γ 5 _ _ [_, _, _, _, _] _
            refine g_aload_n (pc := 52) o dX10_item_52 rfl ?_
            refine g_getIE (pc := 53) o 24 rfl rfl rfl inX10 (by decide) lf_X10_261 (e2) dX10_item_53 ?_
            refine g_if_ne (pc := 56) o 101 dX10_item_56 (by decide) (fun c56 => ?_) (fun c56 => ?_)
            · skip
              refine g_goto (pc := 101) o 163 dX10_item_101 (by decide) ?_
              exact g_vret o ρ dX10_item_163 ⟨rfl, O3.s, fun j _ => by rw [es2, es], Or.inl ⟨_, hres.symm, e2, R2.1⟩⟩
            · skip
              exact absurd c56 (by decide)
      · rw [if_neg w0] at hres
        rw [show bI (wdP f t 0) = 0 from (bI_f w0).symm] at mr
        by_cases w1 : wdP f t 1
        · rw [if_pos w1] at hres
          rw [show bI (wdP f t 1) = 1 from (bI_t w1).symm] at mb
          unfold pBail at hres
          refine g_aload_n (pc := 17) o dX10_item_17 rfl ?_
          refine g_bipush (pc := 18) o dX10_item_18 114 rfl ?_
          refine g_bipush (pc := 20) o dX10_item_20 111 rfl ?_
          refine g_bipush (pc := 22) o dX10_item_22 97 rfl ?_
          refine g_bipush (pc := 24) o dX10_item_24 100 rfl ?_
          refine g_iconst (pc := 26) o dX10_item_26 0 rfl ?_
          refine g_iconst (pc := 27) o dX10_item_27 0 rfl ?_
          refine g_iconst (pc := 28) o dX10_item_28 0 rfl ?_
          refine g_callVi (pc := 29) o (mr) mt_X10_isWord mv_X10_isWord lk_X10_277 rfl rfl rfl (by decide) rfl (Nat.le_of_ble_eq_true rfl) dX10_item_29 ?_
          refine g_if_eq (pc := 32) o 104 dX10_item_32 (by decide) (fun c32 => ?_) (fun c32 => ?_)
          · skip
            refine g_aload_n (pc := 104) o dX10_item_104 rfl ?_
            refine g_aload_n (pc := 105) o dX10_item_105 rfl ?_
            refine g_bipush (pc := 106) o dX10_item_106 98 rfl ?_
            refine g_bipush (pc := 108) o dX10_item_108 97 rfl ?_
            refine g_bipush (pc := 110) o dX10_item_110 105 rfl ?_
            refine g_bipush (pc := 112) o dX10_item_112 108 rfl ?_
            refine g_iconst (pc := 114) o dX10_item_114 0 rfl ?_
            refine g_iconst (pc := 115) o dX10_item_115 0 rfl ?_
            refine g_iconst (pc := 116) o dX10_item_116 0 rfl ?_
            refine g_callVi (pc := 117) o (mb) mt_X10_isWord mv_X10_isWord lk_X10_277 rfl rfl rfl (by decide) rfl (Nat.le_of_ble_eq_true rfl) dX10_item_117 ?_
            refine g_callVQv (pc := 120) o (m_needs1 M R ok.1 e24 1 (by decide)) mt_X10_needs mv_X10_needs lk_X10_273 rfl rfl rfl (by decide) rfl (Nat.le_of_ble_eq_true rfl) dX10_item_120 ?_
            rintro h1 u
            obtain ⟨R1, e1, O1, _⟩ := u
            have M1 := M.of O1
            refine g_aload_n (pc := 123) o dX10_item_123 rfl ?_
            refine g_iconst (pc := 124) o dX10_item_124 0 rfl ?_
            refine g_iconst (pc := 125) o dX10_item_125 5 rfl ?_
            refine g_callVQv (pc := 126) o (m_number M1 R1 ok1 e1 0 5 (by decide) (by decide)) mt_X10_number mv_X10_number lk_X10_281 rfl rfl rfl (by decide) rfl (Nat.le_of_ble_eq_true rfl) dX10_item_126 ?_
            rintro h2 u
            obtain ⟨O2, u⟩ := u
            have O3 := O1.tr O2
            have M2 := M.of O3
            have es2 : h2.1 52 = s := (O3.1 52 (by decide)).trans es
            rcases u with ⟨a, ea, e23, R2, e2⟩ | ⟨ea, e2, R2⟩
            · rw [ea] at hres
              simp only at hres
              have al := (num_len ok1 ea).2.2.1
              refine g_aload_n (pc := 129) o dX10_item_129 rfl ?_
              refine g_getIE (pc := 130) o 23 rfl rfl rfl inX10 (by decide) lf_X10_270 (e23) dX10_item_130 ?_
              refine g_istore_n (pc := 133) o dX10_item_133 (by decide) ?_
              show ca_G Γ 5 _ _ [_, _, _, _, _] _
              refine g_aload_n (pc := 134) o dX10_item_134 rfl ?_
              refine g_iconst (pc := 135) o dX10_item_135 0 rfl ?_
              refine g_sipush (pc := 136) o dX10_item_136 9999 rfl ?_
              refine g_callVQv (pc := 139) o (m_number M2 R2 ok2 e2 0 9999 (by decide) (by decide)) mt_X10_number mv_X10_number lk_X10_281 rfl rfl rfl (by decide) rfl (Nat.le_of_ble_eq_true rfl) dX10_item_139 ?_
              rintro h3 u
              obtain ⟨O4, u⟩ := u
              have O5 := O3.tr O4
              have es3 : h3.1 52 = s := (O5.1 52 (by decide)).trans es
              rcases u with ⟨b, eb, e23b, R3, e3⟩ | ⟨eb, e3, R3⟩
              · rw [eb] at hres
                simp only at hres
                have ib : (325 : Int32) + nI a = nI (325 + a) := nI_add 325 a
                have ap : apI (itF 1 a b 0 0 0 0 0) s = upd s (325 + a) (nI b) := rfl
                refine g_aload_n (pc := 142) o dX10_item_142 rfl ?_
                refine g_getIE (pc := 143) o 24 rfl rfl rfl inX10 (by decide) lf_X10_261 (e3) dX10_item_143 ?_
                refine g_if_ne (pc := 146) o 163 dX10_item_146 (by decide) (fun c146 => ?_) (fun c146 => ?_)
                · skip
                  exact absurd rfl c146
                · skip
                  refine g_aload_n (pc := 149) o dX10_item_149 rfl ?_
                  refine g_getR (pc := 150) o 0 rfl rfl rfl inX10 (by decide) lf_X10_7 dX10_item_150 ?_
                  refine g_sipush (pc := 153) o dX10_item_153 325 rfl ?_
                  refine g_iload_n (pc := 156) o dX10_item_156 rfl ?_
                  refine g_iadd (pc := 157) o dX10_item_157 ?_
                  refine g_aload_n (pc := 158) o dX10_item_158 rfl ?_
                  refine g_getIE (pc := 159) o 23 rfl rfl rfl inX10 (by decide) lf_X10_270 (e23b) dX10_item_159 ?_
                  refine n_iast (pc := 162) o (325 + a) (ib) rfl ((by omega)) (by decide) dX10_item_162 ?_
                  exact g_vret o ρ dX10_item_163 ⟨rfl, O5.s.w, fun j hj => by rw [mw_same]; unfold upd; rw [if_neg (by omega), es3, es], Or.inr ⟨_, hres.symm, e3, R3, by rw [mw_same, es3]; exact ap.symm⟩⟩
              · rw [eb] at hres
                simp only at hres
                refine g_aload_n (pc := 142) o dX10_item_142 rfl ?_
                refine g_getIE (pc := 143) o 24 rfl rfl rfl inX10 (by decide) lf_X10_261 (e3) dX10_item_143 ?_
                refine g_if_ne (pc := 146) o 163 dX10_item_146 (by decide) (fun c146 => ?_) (fun c146 => ?_)
                · skip
                  exact g_vret o ρ dX10_item_163 ⟨rfl, O5.s, fun j _ => by rw [es3, es], Or.inl ⟨_, hres.symm, e3, R3.1⟩⟩
                · skip
                  exact absurd c146 (by decide)
            · rw [ea] at hres
              simp only at hres
              refine g_aload_n (pc := 129) o dX10_item_129 rfl ?_
              refine g_getI (pc := 130) o 23 rfl rfl rfl inX10 (by decide) lf_X10_270 dX10_item_130 ?_
              refine g_istore_n (pc := 133) o dX10_item_133 (by decide) ?_
              show ca_G Γ 5 _ _ [_, _, _, _, _] _
              refine g_aload_n (pc := 134) o dX10_item_134 rfl ?_
              refine g_iconst (pc := 135) o dX10_item_135 0 rfl ?_
              refine g_sipush (pc := 136) o dX10_item_136 9999 rfl ?_
              refine g_callVv (pc := 139) o (m_numberX e2 0 9999) mt_X10_number mv_X10_number lk_X10_281 rfl rfl rfl (by decide) rfl (Nat.le_of_ble_eq_true rfl) dX10_item_139 ?_
              refine g_aload_n (pc := 142) o dX10_item_142 rfl ?_
              refine g_getIE (pc := 143) o 24 rfl rfl rfl inX10 (by decide) lf_X10_261 (e2) dX10_item_143 ?_
              refine g_if_ne (pc := 146) o 163 dX10_item_146 (by decide) (fun c146 => ?_) (fun c146 => ?_)
              · skip
                exact g_vret o ρ dX10_item_163 ⟨rfl, O3.s, fun j _ => by rw [es2, es], Or.inl ⟨_, hres.symm, e2, R2.1⟩⟩
              · skip
                exact absurd c146 (by decide)
          · skip
            exact absurd rfl c32
        · rw [if_neg w1] at hres
          rw [show bI (wdP f t 1) = 0 from (bI_f w1).symm] at mb
          have eX : (mw h 51 24 1).1 51 24 = 1 := rfl
          refine g_aload_n (pc := 17) o dX10_item_17 rfl ?_
          refine g_bipush (pc := 18) o dX10_item_18 114 rfl ?_
          refine g_bipush (pc := 20) o dX10_item_20 111 rfl ?_
          refine g_bipush (pc := 22) o dX10_item_22 97 rfl ?_
          refine g_bipush (pc := 24) o dX10_item_24 100 rfl ?_
          refine g_iconst (pc := 26) o dX10_item_26 0 rfl ?_
          refine g_iconst (pc := 27) o dX10_item_27 0 rfl ?_
          refine g_iconst (pc := 28) o dX10_item_28 0 rfl ?_
          refine g_callVi (pc := 29) o (mr) mt_X10_isWord mv_X10_isWord lk_X10_277 rfl rfl rfl (by decide) rfl (Nat.le_of_ble_eq_true rfl) dX10_item_29 ?_
          refine g_if_eq (pc := 32) o 104 dX10_item_32 (by decide) (fun c32 => ?_) (fun c32 => ?_)
          · skip
            refine g_aload_n (pc := 104) o dX10_item_104 rfl ?_
            refine g_aload_n (pc := 105) o dX10_item_105 rfl ?_
            refine g_bipush (pc := 106) o dX10_item_106 98 rfl ?_
            refine g_bipush (pc := 108) o dX10_item_108 97 rfl ?_
            refine g_bipush (pc := 110) o dX10_item_110 105 rfl ?_
            refine g_bipush (pc := 112) o dX10_item_112 108 rfl ?_
            refine g_iconst (pc := 114) o dX10_item_114 0 rfl ?_
            refine g_iconst (pc := 115) o dX10_item_115 0 rfl ?_
            refine g_iconst (pc := 116) o dX10_item_116 0 rfl ?_
            refine g_callVi (pc := 117) o (mb) mt_X10_isWord mv_X10_isWord lk_X10_277 rfl rfl rfl (by decide) rfl (Nat.le_of_ble_eq_true rfl) dX10_item_117 ?_
            refine g_callVv (pc := 120) o (m_needs0 e24) mt_X10_needs mv_X10_needs lk_X10_273 rfl rfl rfl (by decide) rfl (Nat.le_of_ble_eq_true rfl) dX10_item_120 ?_
            refine g_aload_n (pc := 123) o dX10_item_123 rfl ?_
            refine g_iconst (pc := 124) o dX10_item_124 0 rfl ?_
            refine g_iconst (pc := 125) o dX10_item_125 5 rfl ?_
            refine g_callVv (pc := 126) o (m_numberX (h := mw h 51 24 1) rfl 0 5) mt_X10_number mv_X10_number lk_X10_281 rfl rfl rfl (by decide) rfl (Nat.le_of_ble_eq_true rfl) dX10_item_126 ?_
            refine g_aload_n (pc := 129) o dX10_item_129 rfl ?_
            refine g_getI (pc := 130) o 23 rfl rfl rfl inX10 (by decide) lf_X10_270 dX10_item_130 ?_
            refine g_istore_n (pc := 133) o dX10_item_133 (by decide) ?_
            show ca_G Γ 5 _ _ [_, _, _, _, _] _
            refine g_aload_n (pc := 134) o dX10_item_134 rfl ?_
            refine g_iconst (pc := 135) o dX10_item_135 0 rfl ?_
            refine g_sipush (pc := 136) o dX10_item_136 9999 rfl ?_
            refine g_callVv (pc := 139) o (m_numberX (h := mw h 51 24 1) rfl 0 9999) mt_X10_number mv_X10_number lk_X10_281 rfl rfl rfl (by decide) rfl (Nat.le_of_ble_eq_true rfl) dX10_item_139 ?_
            refine g_aload_n (pc := 142) o dX10_item_142 rfl ?_
            refine g_getIE (pc := 143) o 24 rfl rfl rfl inX10 (by decide) lf_X10_261 (eX) dX10_item_143 ?_
            refine g_if_ne (pc := 146) o 163 dX10_item_146 (by decide) (fun c146 => ?_) (fun c146 => ?_)
            · skip
              exact g_vret o ρ dX10_item_163 ⟨rfl, ((offT.rf h).w (by decide)).s, fun j _ => rfl, Or.inl ⟨_, hres.symm, rfl, R.1⟩⟩
            · skip
              exact absurd c146 (by decide)
          · skip
            exact absurd rfl c32
    · skip
      exact absurd (by decide) c6
set_option maxRecDepth 100000 in
set_option maxHeartbeats 400000 in
theorem lp_puts {Γ : Fr} (o : ca_O Γ cX10_puts 2 RX10 0 0) {Pr : Option Value → Mem → Prop} (ρ : ca_R Γ none Pr) {h0 : Mem} (hp : ∀ h : Mem, (∀ k, k < 337 → h.1 54 k = h0.1 52 k) → (∀ c, c ≠ 54 → h.1 c = h0.1 c) → Pr none h) : ∀ k, k ≤ 337 → ∀ (xk : Int32) (h : Mem), xk = nI k → (∀ i, i < k → h.1 54 i = h0.1 52 i) → (∀ c, c ≠ 54 → h.1 c = h0.1 c) → ca_G Γ 2 h 2 [some (.ref 51), some (.int xk)] [] := by
  refine downI 337 (fun k hk ih => ?_)
  rintro xk h rfl e1 e2
  have ek : h.1 52 k = h0.1 52 k := by rw [e2 52 (by decide)]
  refine g_iload_n (pc := 2) o dX10_puts_2 rfl ?_
  refine g_sipush (pc := 3) o dX10_puts_3 337 rfl ?_
  refine g_ic_ge (pc := 6) o 27 dX10_puts_6 (by decide) (fun c6 => ?_) (fun c6 => ?_)
  · skip
    have z : k = 337 := ge8 (n := 337) (by decide) (by omega) c6
    subst z
    exact g_vret o ρ dX10_puts_27 (hp h e1 e2)
  · skip
    have z : k < 337 := lt8 (n := 337) (by decide) (by omega) c6
    refine g_aload_n (pc := 9) o dX10_puts_9 rfl ?_
    refine g_getR (pc := 10) o 2 rfl rfl rfl inX10 (by decide) lf_X10_16 dX10_puts_10 ?_
    refine g_iload_n (pc := 13) o dX10_puts_13 rfl ?_
    refine g_aload_n (pc := 14) o dX10_puts_14 rfl ?_
    refine g_getR (pc := 15) o 0 rfl rfl rfl inX10 (by decide) lf_X10_7 dX10_puts_15 ?_
    refine g_iload_n (pc := 18) o dX10_puts_18 rfl ?_
    refine n_ialdE (pc := 19) o k (rfl) rfl ((by omega)) (by decide) (ek) dX10_puts_19 ?_
    refine n_iast (pc := 20) o k (rfl) rfl ((by omega)) (by decide) dX10_puts_20 ?_
    refine g_iinc (pc := 21) o dX10_puts_21 rfl 1 rfl (by decide) ?_
    show ca_G Γ 2 _ _ [_, _] _
    refine g_goto (pc := 24) o 2 dX10_puts_24 (by decide) ?_
    refine ih z _ _ (nI_1 k) (fun i hi => ?_) (fun c hc => (mw_ne _ _ _ hc).trans (e2 c hc))
    rw [mw_same]
    unfold upd
    by_cases w : i = k
    · rw [if_pos w, w]
    · rw [if_neg w]; exact e1 i (by omega)
set_option maxRecDepth 100000 in
set_option maxHeartbeats 400000 in
theorem m_puts {h : Mem} : Ct yX10_puts cX10_puts 2 none 0 0 [.ref 51] h (Qv (fun h2 => (∀ k, k < 337 → h2.1 54 k = h.1 52 k) ∧ ∀ c, c ≠ 54 → h2.1 c = h.1 c)) := by
  refine Ct.of (by decide) (Nat.le_of_ble_eq_true rfl) (fun Γ o ρ => ?_)
  show ca_G Γ 2 _ _ [_, _] _
  refine g_iconst (pc := 0) o dX10_puts_0 0 rfl ?_
  refine g_istore_n (pc := 1) o dX10_puts_1 (by decide) ?_
  show ca_G Γ 2 _ _ [_, _] _
  exact lp_puts o ρ (h0 := h) (fun h2 a b => ⟨rfl, a, b⟩) 0 (by omega) _ h rfl (fun i hi => by omega) (fun c _ => rfl)
theorem abs_tx {h h2 : Mem} {s2 : Nat → Int32} (e52 : h2.1 52 = s2) (e : ∀ c, c ≠ 51 → c ≠ 52 → c ≠ 54 → h2.1 c = h.1 c) (e4 : h2.1 51 4 = h.1 51 4) (e15 : h2.1 51 15 = h.1 51 15) (e20 : h2.1 51 20 = 0) : absM h2 = sf (sf (sf (absM h) 4 (absM h 4)) 8 (tpF (absM h) 0)) 0 s2 := by
  refine abs_f _ _ e52 (e 55 (by decide) (by decide) (by decide)) (e 53 (by decide) (by decide) (by decide)) (e 62 (by decide) (by decide) (by decide)) (e 66 (by decide) (by decide) (by decide)) (e 67 (by decide) (by decide) (by decide)) (e 68 (by decide) (by decide) (by decide)) (e 69 (by decide) (by decide) (by decide)) ?_ (fun k hk => ?_)
  · funext i
    match i with
    | 0 => exact e4
    | 1 => exact e15
    | i + 2 => exact e20
  · obtain ⟨n, rfl⟩ := Nat.exists_eq_add_of_le hk
    rw [show 9 + n = n + 9 by omega]
    rfl
set_option maxRecDepth 100000 in
set_option maxHeartbeats 400000 in
theorem lp_mt3 {Γ : Fr} (o : ca_O Γ cX10_text 3 RX10 8 183) {Pr : Option Value → Mem → Prop} (ρ : ca_R Γ (some .int) Pr) {h0 : Mem} (x : Nat) (e21 : h0.1 51 21 = nI x) (x1 : Int32) (hp : ∀ h : Mem, (∀ k, k < 337 → h.1 52 k = h0.1 54 k) → (∀ k, 337 ≤ k → h.1 52 k = h0.1 52 k) → (∀ c, c ≠ 52 → h.1 c = h0.1 c) → Pr (some (.int (-1 - nI x))) h) : ∀ k, k ≤ 337 → ∀ (xk : Int32) (h : Mem), xk = nI k → (∀ i, i < k → h.1 52 i = h0.1 54 i) → (∀ i, 337 ≤ i → h.1 52 i = h0.1 52 i) → (∀ c, c ≠ 52 → h.1 c = h0.1 c) → ca_G Γ 3 h 88 [some (.ref 51), some (.int x1), some (.int xk)] [] := by
  refine downI 337 (fun k hk ih => ?_)
  rintro xk h rfl e1 e3 e2
  have ek : h.1 54 k = h0.1 54 k := by rw [e2 54 (by decide)]
  have e21b : h.1 51 21 = nI x := by rw [e2 51 (by decide)]; exact e21
  refine g_iload_n (pc := 88) o dX10_text_88 rfl ?_
  refine g_sipush (pc := 89) o dX10_text_89 337 rfl ?_
  refine g_ic_ge (pc := 92) o 113 dX10_text_92 (by decide) (fun c92 => ?_) (fun c92 => ?_)
  · skip
    have z : k = 337 := ge8 (n := 337) (by decide) (by omega) c92
    subst z
    refine g_iconst (pc := 113) o dX10_text_113 (-1) rfl ?_
    refine g_aload_n (pc := 114) o dX10_text_114 rfl ?_
    refine g_getIE (pc := 115) o 21 rfl rfl rfl inX10 (by decide) lf_X10_249 (e21b) dX10_text_115 ?_
    refine g_isub (pc := 118) o dX10_text_118 ?_
    exact g_iret o ρ dX10_text_119 (hp h e1 e3 e2)
  · skip
    have z : k < 337 := lt8 (n := 337) (by decide) (by omega) c92
    refine g_aload_n (pc := 95) o dX10_text_95 rfl ?_
    refine g_getR (pc := 96) o 0 rfl rfl rfl inX10 (by decide) lf_X10_7 dX10_text_96 ?_
    refine g_iload_n (pc := 99) o dX10_text_99 rfl ?_
    refine g_aload_n (pc := 100) o dX10_text_100 rfl ?_
    refine g_getR (pc := 101) o 2 rfl rfl rfl inX10 (by decide) lf_X10_16 dX10_text_101 ?_
    refine g_iload_n (pc := 104) o dX10_text_104 rfl ?_
    refine n_ialdE (pc := 105) o k (rfl) rfl ((by omega)) (by decide) (ek) dX10_text_105 ?_
    refine n_iast (pc := 106) o k (rfl) rfl ((by omega)) (by decide) dX10_text_106 ?_
    refine g_iinc (pc := 107) o dX10_text_107 rfl 1 rfl (by decide) ?_
    show ca_G Γ 3 _ _ [_, _, _] _
    refine g_goto (pc := 110) o 88 dX10_text_110 (by decide) ?_
    refine ih z _ _ (nI_1 k) (fun i hi => ?_) (fun i hi => ?_) (fun c hc => (mw_ne _ _ _ hc).trans (e2 c hc))
    · rw [mw_same]
      unfold upd
      by_cases w : i = k
      · rw [if_pos w, w]
      · rw [if_neg w]; exact e1 i (by omega)
    · rw [mw_same]
      unfold upd
      rw [if_neg (by omega)]
      exact e3 i hi
/-- how the reading ends -/
def txP (h0 : Mem) (res : Nat ⊕ (Nat × (Nat → Int32))) (Pr : Option Value → Mem → Prop) : Prop := (∀ x h, res = .inl x → h.1 52 = h0.1 52 → (∀ c, c ≠ 51 → c ≠ 52 → c ≠ 54 → h.1 c = h0.1 c) → (∀ j, j < 20 → h.1 51 j = h0.1 51 j) → h.1 51 20 = 0 → Pr (some (.int (-1 - nI x))) h) ∧ (∀ i s h, res = .inr (i, s) → h.1 52 = s → (∀ c, c ≠ 51 → c ≠ 52 → c ≠ 54 → h.1 c = h0.1 c) → (∀ j, j < 20 → h.1 51 j = h0.1 51 j) → h.1 51 20 = 0 → Pr (some (.int (nI i))) h)
abbrev kp0 (h0 h : Mem) : Prop := (∀ c, c ≠ 51 → c ≠ 52 → c ≠ 54 → h.1 c = h0.1 c) ∧ (∀ j, j < 20 → h.1 51 j = h0.1 51 j) ∧ (∀ k, k < 337 → h.1 54 k = h0.1 52 k) ∧ ∀ k, 337 ≤ k → h.1 52 k = h0.1 52 k
theorem kp0.s {h0 h h2 : Mem} (K : kp0 h0 h) (O : offS h h2) (b : ∀ k, 337 ≤ k → h2.1 52 k = h.1 52 k) : kp0 h0 h2 := ⟨fun c h1 h2 h3 => (O.1 c h1 h2).trans (K.1 c h1 h2 h3), fun j hj => (O.2 j (by omega)).trans (K.2.1 j hj), fun k hk => by rw [O.1 54 (by decide) (by decide)]; exact K.2.2.1 k hk, fun k hk => (b k hk).trans (K.2.2.2 k hk)⟩
theorem kp0.t {h0 h h2 : Mem} (K : kp0 h0 h) (O : offT h h2) : kp0 h0 h2 := K.s O.s (fun k _ => by rw [O.1 52 (by decide)])
set_option maxRecDepth 100000 in
set_option maxHeartbeats 800000 in
theorem lp_mtX {Γ : Fr} (o : ca_O Γ cX10_text 3 RX10 8 183) {Pr : Option Value → Mem → Prop} (ρ : ca_R Γ (some .int) Pr) {h0 h : Mem} {res : Nat ⊕ (Nat × (Nat → Int32))} (P : txP h0 res Pr) (K : kp0 h0 h) (x : Nat) (er : res = .inl x) (e24 : h.1 51 24 = 1) (e21 : h.1 51 21 = nI x) (x1 : Int32) : ca_G Γ 3 h 24 [some (.ref 51), some (.int x1), none] [] := by
  have e24b : (mw h 51 20 0).1 51 24 = 1 := e24
  refine g_aload_n (pc := 24) o dX10_text_24 rfl ?_
  refine g_getIE (pc := 25) o 24 rfl rfl rfl inX10 (by decide) lf_X10_261 (e24) dX10_text_25 ?_
  refine g_if_ne (pc := 28) o 74 dX10_text_28 (by decide) (fun c28 => ?_) (fun c28 => ?_)
  · skip
    refine g_aload_n (pc := 74) o dX10_text_74 rfl ?_
    refine g_iconst (pc := 75) o dX10_text_75 0 rfl ?_
    refine g_put (pc := 76) o 20 rfl rfl rfl inX10 tyX10_ok nmX10 (by decide) lf_X10_235 rfl rfl rfl dX10_text_76 ?_
    refine g_aload_n (pc := 79) o dX10_text_79 rfl ?_
    refine g_getIE (pc := 80) o 24 rfl rfl rfl inX10 (by decide) lf_X10_261 (e24b) dX10_text_80 ?_
    refine g_if_eq (pc := 83) o 120 dX10_text_83 (by decide) (fun c83 => ?_) (fun c83 => ?_)
    · skip
      exact absurd c83 (by decide)
    · skip
      refine g_iconst (pc := 86) o dX10_text_86 0 rfl ?_
      refine g_istore_n (pc := 87) o dX10_text_87 (by decide) ?_
      show ca_G Γ 3 _ _ [_, _, _] _
      refine lp_mt3 o ρ (h0 := mw h 51 20 0) x e21 x1 (fun h2 a b c => P.1 x h2 er ?_ (fun d h1 h2' h3 => ?_) (fun j hj => ?_) ?_) 0 (by omega) _ _ rfl (fun i hi => by omega) (fun _ _ => rfl) (fun _ _ => rfl)
      · funext k
        by_cases w : k < 337
        · rw [a k w]; exact K.2.2.1 k w
        · rw [b k (by omega)]; exact K.2.2.2 k (by omega)
      · rw [c d h2', mw_ne _ _ _ h1]; exact K.1 d h1 h2' h3
      · rw [c 51 (by decide), mw_same]
        unfold upd
        rw [if_neg (by omega)]
        exact K.2.1 j hj
      · rw [c 51 (by decide)]; rfl
  · skip
    exact absurd c28 (by decide)
set_option maxRecDepth 100000 in
set_option maxHeartbeats 800000 in
theorem lp_mt {Γ : Fr} (o : ca_O Γ cX10_text 3 RX10 8 183) {Pr : Option Value → Mem → Prop} (ρ : ca_R Γ (some .int) Pr) {h0 : Mem} {f : Nat → Int32} {n : Nat} {res : Nat ⊕ (Nat × (Nat → Int32))} (P : txP h0 res Pr) : ∀ (fuel i : Nat) (xi : Int32) (h : Mem) (t : Nat × Nat) (s : Nat → Int32), xi = nI i → MP h f n → MT h t → tkR f n t → h.1 51 24 = 0 → h.1 52 = s → SI s → kp0 h0 h → n - t.1 < fuel → res = (if srF f n t.1 = 0 then .inr (i, s) else if srF f n t.1 = 3 then pText f n fuel (nxF f n t) s i else .inl t.1) → ca_G Γ 3 h 24 [some (.ref 51), some (.int xi), none] [] := by
  intro fuel
  induction fuel with
  | zero => intro i xi h t s _ _ _ _ _ _ _ _ hf; omega
  | succ k ih =>
    rintro i xi h t s rfl M R ok e24 es I K hf er
    have l120 := M.2.1
    have ol := ok.1
    have e24b : (mw h 51 20 0).1 51 24 = 0 := e24
    refine g_aload_n (pc := 24) o dX10_text_24 rfl ?_
    refine g_getIE (pc := 25) o 24 rfl rfl rfl inX10 (by decide) lf_X10_261 (e24) dX10_text_25 ?_
    refine g_if_ne (pc := 28) o 74 dX10_text_28 (by decide) (fun c28 => ?_) (fun c28 => ?_)
    · skip
      exact absurd rfl c28
    · skip
      refine g_aload_n (pc := 31) o dX10_text_31 rfl ?_
      refine g_getIE (pc := 32) o 21 rfl rfl rfl inX10 (by decide) lf_X10_249 (R.1) dX10_text_32 ?_
      refine g_aload_n (pc := 35) o dX10_text_35 rfl ?_
      refine g_getIE (pc := 36) o 20 rfl rfl rfl inX10 (by decide) lf_X10_235 (M.1) dX10_text_36 ?_
      refine g_ic_ge (pc := 39) o 74 dX10_text_39 (by decide) (fun c39 => ?_) (fun c39 => ?_)
      · skip
        have w := (nI_leI (a := n) (b := t.1) (by omega) (by omega)).mp c39
        have s0 : srF f n t.1 = 0 := by unfold srF; rw [if_neg (by omega)]
        rw [if_pos s0] at er
        refine g_aload_n (pc := 74) o dX10_text_74 rfl ?_
        refine g_iconst (pc := 75) o dX10_text_75 0 rfl ?_
        refine g_put (pc := 76) o 20 rfl rfl rfl inX10 tyX10_ok nmX10 (by decide) lf_X10_235 rfl rfl rfl dX10_text_76 ?_
        refine g_aload_n (pc := 79) o dX10_text_79 rfl ?_
        refine g_getIE (pc := 80) o 24 rfl rfl rfl inX10 (by decide) lf_X10_261 (e24b) dX10_text_80 ?_
        refine g_if_eq (pc := 83) o 120 dX10_text_83 (by decide) (fun c83 => ?_) (fun c83 => ?_)
        · skip
          refine g_iload_n (pc := 120) o dX10_text_120 rfl ?_
          exact g_iret o ρ dX10_text_121 (P.2 i s _ er es (fun c h1 h2 h3 => (mw_ne _ _ _ h1).trans (K.1 c h1 h2 h3)) (fun j hj => by rw [mw_same]; unfold upd; rw [if_neg (by omega)]; exact K.2.1 j hj) rfl)
        · skip
          exact absurd rfl c83
      · skip
        have w := mt (nI_leI (a := n) (b := t.1) (by omega) (by omega)).mpr c39
        have tn : t.1 < n := by omega
        rw [if_neg (sr_lt tn)] at er
        refine g_aload_n (pc := 42) o dX10_text_42 rfl ?_
        refine g_aload_n (pc := 43) o dX10_text_43 rfl ?_
        refine g_aload_n (pc := 44) o dX10_text_44 rfl ?_
        refine g_getIE (pc := 45) o 21 rfl rfl rfl inX10 (by decide) lf_X10_249 (R.1) dX10_text_45 ?_
        refine g_callVi (pc := 48) o (m_byteAt M t.1 (by omega)) mt_X10_byteAt mv_X10_byteAt lk_X10_252 rfl rfl rfl (by decide) rfl (Nat.le_of_ble_eq_true rfl) dX10_text_48 ?_
        refine g_bipush (pc := 51) o dX10_text_51 59 rfl ?_
        refine g_ic_ne (pc := 53) o 60 dX10_text_53 (by decide) (fun c53 => ?_) (fun c53 => ?_)
        · skip
          have n3 := mt (bA_3 f n t.1).mpr c53
          rw [if_neg n3] at er
          refine g_iconst (pc := 60) o dX10_text_60 0 rfl ?_
          refine g_callVv (pc := 61) o (m_needs0 e24) mt_X10_needs mv_X10_needs lk_X10_273 rfl rfl rfl (by decide) rfl (Nat.le_of_ble_eq_true rfl) dX10_text_61 ?_
          refine g_aload_n (pc := 64) o dX10_text_64 rfl ?_
          refine g_callVv (pc := 65) o (m_itemX (h := mw h 51 24 1) rfl) mt_X10_item mv_X10_item lk_X10_303 rfl rfl rfl (by decide) rfl (Nat.le_of_ble_eq_true rfl) dX10_text_65 ?_
          refine g_iinc (pc := 68) o dX10_text_68 rfl 1 rfl (by decide) ?_
          show ca_G Γ 3 _ _ [_, _, _] _
          refine g_goto (pc := 71) o 24 dX10_text_71 (by decide) ?_
          exact lp_mtX o ρ (h := mw h 51 24 1) P (K.t ((offT.rf h).w (by decide))) t.1 er rfl R.1 _
        · skip
          have n3 := (bA_3 f n t.1).mp c53
          rw [if_pos n3] at er
          have te := (te_le (f := f) (n := n) (b := t.1) (by omega)).2.2 tn
          rw [← ok.2] at te
          have ok1 := nx_R ok
          have o1 := nx_ok (f := f) ok.1
          have er : res = match pItem f n s (nxF f n t) with | .inl x => .inl x | .inr y => if srF f n y.1.1 = 0 then .inr (i + 1, apI y.2 s) else if srF f n y.1.1 = 3 then pText f n k (nxF f n y.1) (apI y.2 s) (i + 1) else .inl y.1.1 := er
          refine g_iconst (pc := 56) o dX10_text_56 1 rfl ?_
          refine g_goto (pc := 57) o 61 dX10_text_57 (by decide) ?_
          refine g_callVQv (pc := 61) o (m_needs1 M R ol e24 1 (by decide)) mt_X10_needs mv_X10_needs lk_X10_273 rfl rfl rfl (by decide) rfl (Nat.le_of_ble_eq_true rfl) dX10_text_61 ?_
          rintro h1 u
          obtain ⟨R1, e1, O1, _⟩ := u
          have M1 := M.of O1
          have es1 : h1.1 52 = s := (O1.1 52 (by decide)).trans es
          have K1 := K.t O1
          refine g_aload_n (pc := 64) o dX10_text_64 rfl ?_
          refine g_callVQv (pc := 65) o (m_item M1 R1 ok1 e1 es1 I) mt_X10_item mv_X10_item lk_X10_303 rfl rfl rfl (by decide) rfl (Nat.le_of_ble_eq_true rfl) dX10_text_65 ?_
          rintro h2 u
          obtain ⟨O2, big, u⟩ := u
          have K2 := K1.s O2 big
          rcases u with ⟨x, e, y1, y2⟩ | ⟨y, e, y1, y2, y3⟩
          · rw [e] at er
            simp only at er
            refine g_iinc (pc := 68) o dX10_text_68 rfl 1 rfl (by decide) ?_
            show ca_G Γ 3 _ _ [_, _, _] _
            refine g_goto (pc := 71) o 24 dX10_text_71 (by decide) ?_
            exact lp_mtX o ρ P K2 x er y1 y2 _
          · have io := item_ok ok1 e
            rw [e] at er
            simp only at er
            refine g_iinc (pc := 68) o dX10_text_68 rfl 1 rfl (by decide) ?_
            show ca_G Γ 3 _ _ [_, _, _] _
            refine g_goto (pc := 71) o 24 dX10_text_71 (by decide) ?_
            exact ih (i + 1) _ h2 y.1 (apI y.2 s) (nI_1 i) (M1.ofS O2) y2 io.2.1 y1 y3 (SI_ap I io.2.2) K2 (by omega) er
set_option maxRecDepth 100000 in
set_option maxHeartbeats 400000 in
theorem mo_text {h : Mem} (I : Iv (absM h)) : Ct yX10_text cX10_text 3 (some .int) 8 183 [.ref 51] h (Pm h (op_text (absM h))) := by
  refine Ct.of (by decide) (Nat.le_of_ble_eq_true rfl) (fun Γ o ρ => ?_)
  show ca_G Γ 3 _ _ [_, _, _] _
  obtain ⟨n, hn, en, _, ecn⟩ := I.tp
  have en : h.1 51 20 = nI n := en
  have IS : SI (h.1 52) := I.1
  have eop : op_text (absM h) = txV (absM h) (pText (h.1 66) n 121 (tkF (h.1 66) n 0) (h.1 52) 0) := by unfold op_text; rw [ecn]; rfl
  rw [eop] at ρ
  generalize hres : pText (h.1 66) n 121 (tkF (h.1 66) n 0) (h.1 52) 0 = res at ρ
  have P : txP h res (Pm h (txV (absM h) res)) := by
    refine ⟨fun x h2 e a b c d => ?_, fun i s h2 e a b c d => ?_⟩
    · rw [e]
      refine Pm.mk rfl ?_ (fun k hk => b k (by omega) (by omega) (by omega))
      rw [abs_tx (h := h) a b (c 4 (by decide)) (c 15 (by decide)) d]
      exact sf_id (sf (sf (absM h) 4 (absM h 4)) 8 (tpF (absM h) 0)) 0
    · rw [e]
      refine Pm.mk rfl ?_ (fun k hk => b k (by omega) (by omega) (by omega))
      exact abs_tx (h := h) a b (c 4 (by decide)) (c 15 (by decide)) d
  refine g_aload_n (pc := 0) o dX10_text_0 rfl ?_
  refine g_callVQv (pc := 1) o (m_puts) mt_X10_puts mv_X10_puts lk_X10_300 rfl rfl rfl (by decide) rfl (Nat.le_of_ble_eq_true rfl) dX10_text_1 ?_
  rintro h1 w
  obtain ⟨w1, w2⟩ := w
  have M1 : MP (mw (mw h1 51 22 0) 51 24 0) (h.1 66) n := ⟨by show h1.1 51 20 = nI n; rw [w2 51 (by decide)]; exact en, hn, by show h1.1 66 = h.1 66; exact w2 66 (by decide)⟩
  have K1 : kp0 h (mw (mw h1 51 22 0) 51 24 0) := ⟨fun c h1' h2' h3' => by rw [mw_ne _ _ _ h1', mw_ne _ _ _ h1']; exact w2 c h3', fun j hj => by rw [mw_same]; unfold upd; rw [if_neg (by omega), mw_same]; unfold upd; rw [if_neg (by omega), w2 51 (by decide)], fun k hk => w1 k hk, fun k hk => by show h1.1 52 k = _; rw [w2 52 (by decide)]⟩
  have s1 : (mw (mw h1 51 22 0) 51 24 0).1 52 = h.1 52 := by show h1.1 52 = _; exact w2 52 (by decide)
  refine g_aload_n (pc := 4) o dX10_text_4 rfl ?_
  refine g_iconst (pc := 5) o dX10_text_5 0 rfl ?_
  refine g_put (pc := 6) o 22 rfl rfl rfl inX10 tyX10_ok nmX10 (by decide) lf_X10_246 rfl rfl rfl dX10_text_6 ?_
  refine g_aload_n (pc := 9) o dX10_text_9 rfl ?_
  refine g_iconst (pc := 10) o dX10_text_10 0 rfl ?_
  refine g_put (pc := 11) o 24 rfl rfl rfl inX10 tyX10_ok nmX10 (by decide) lf_X10_261 rfl rfl rfl dX10_text_11 ?_
  refine g_aload_n (pc := 14) o dX10_text_14 rfl ?_
  refine g_callVQv (pc := 15) o (m_token (h := mw (mw h1 51 22 0) 51 24 0) M1 0 (Nat.zero_le n) rfl) mt_X10_token mv_X10_token lk_X10_264 rfl rfl rfl (by decide) rfl (Nat.le_of_ble_eq_true rfl) dX10_text_15 ?_
  rintro h2 w
  obtain ⟨R2, O2⟩ := w
  have ok2 := tk_R (f := h.1 66) (n := n) (i := 0) (Nat.zero_le n)
  have e24 : h2.1 51 24 = 0 := O2.2.2
  have es2 : h2.1 52 = h.1 52 := (O2.1.1 52 (by decide)).trans s1
  have M2 := M1.of O2.1
  have K2 := K1.t O2.1
  have er : res = match pItem (h.1 66) n (h.1 52) (tkF (h.1 66) n 0) with | .inl x => .inl x | .inr y => if srF (h.1 66) n y.1.1 = 0 then .inr (0 + 1, apI y.2 (h.1 52)) else if srF (h.1 66) n y.1.1 = 3 then pText (h.1 66) n 120 (nxF (h.1 66) n y.1) (apI y.2 (h.1 52)) (0 + 1) else .inl y.1.1 := hres.symm
  refine g_iconst (pc := 18) o dX10_text_18 1 rfl ?_
  refine g_istore_n (pc := 19) o dX10_text_19 (by decide) ?_
  show ca_G Γ 3 _ _ [_, _, _] _
  refine g_aload_n (pc := 20) o dX10_text_20 rfl ?_
  refine g_callVQv (pc := 21) o (m_item M2 R2 ok2 e24 es2 IS) mt_X10_item mv_X10_item lk_X10_303 rfl rfl rfl (by decide) rfl (Nat.le_of_ble_eq_true rfl) dX10_text_21 ?_
  rintro h3 u
  obtain ⟨O3, big, u⟩ := u
  have K3 := K2.s O3 big
  rcases u with ⟨x, e, y1, y2⟩ | ⟨y, e, y1, y2, y3⟩
  · rw [e] at er
    simp only at er
    exact lp_mtX o ρ P K3 x er y1 y2 _
  · have io := item_ok ok2 e
    rw [e] at er
    simp only at er
    exact lp_mt o ρ P 120 1 _ h3 y.1 (apI y.2 (h.1 52)) rfl (M2.ofS O3) y2 io.2.1 y1 y3 (SI_ap IS io.2.2) K3 (by omega) er

