/-! ===== the model reads an item ===== -/
def mIt (h0 h2 : Mem) (f : Nat → Int32) (n : Nat) (s : Nat → Int32) (r : Nat ⊕ ((Nat × Nat) × (Nat → Nat))) : Prop := offS h0 h2 ∧ (∀ k, 337 ≤ k → h2.1 52 k = h0.1 52 k) ∧ ((∃ x, r = .inl x ∧ h2.1 51 24 = 1 ∧ h2.1 51 21 = nI x) ∨ (∃ y, r = .inr y ∧ h2.1 51 24 = 0 ∧ MT h2 y.1 ∧ h2.1 52 = apI y.2 s))
def ntL (s : Nat → Int32) (n k p q a b c d : Nat) : Nat → Int32 := ntS s n (fun w => nI ([k, p, q, a, b, c, d].getD w 0))
theorem new_L (s : Nat → Int32) (n k p q : Nat) : newS s n (nI k) (nI p) (nI q) = ntL s n k p q 0 23 0 29 := by
  rw [new_nt]
  refine nt_c (fun w hw => ?_)
  rcases (by omega : w = 0 ∨ w = 1 ∨ w = 2 ∨ w = 3 ∨ w = 4 ∨ w = 5 ∨ w = 6) with rfl | rfl | rfl | rfl | rfl | rfl | rfl <;> rfl
theorem set3_L (s : Nat → Int32) (n k p q a b c d a2 b2 : Nat) : setS (ntL s n k p q a b c d) n 3 (nI a2) (nI b2) = ntL s n k p q a2 b2 c d := by
  unfold ntL
  rw [set_nt _ _ _ _ (by decide)]
  refine nt_c (fun w hw => ?_)
  rcases (by omega : w = 0 ∨ w = 1 ∨ w = 2 ∨ w = 3 ∨ w = 4 ∨ w = 5 ∨ w = 6) with rfl | rfl | rfl | rfl | rfl | rfl | rfl <;> rfl
theorem set5_L (s : Nat → Int32) (n k p q a b c d a2 b2 : Nat) : setS (ntL s n k p q a b c d) n 5 (nI a2) (nI b2) = ntL s n k p q a b a2 b2 := by
  unfold ntL
  rw [set_nt _ _ _ _ (by decide)]
  refine nt_c (fun w hw => ?_)
  rcases (by omega : w = 0 ∨ w = 1 ∨ w = 2 ∨ w = 3 ∨ w = 4 ∨ w = 5 ∨ w = 6) with rfl | rfl | rfl | rfl | rfl | rfl | rfl <;> rfl
theorem ap_L (s : Nat → Int32) (k p q a b c d : Nat) : apI (itF 2 p q k a b c d) s = ntL s (nT s) k p q a b c d := by
  rw [ap_2 rfl]
  refine nt_c (fun w hw => ?_)
  rcases (by omega : w = 0 ∨ w = 1 ∨ w = 2 ∨ w = 3 ∨ w = 4 ∨ w = 5 ∨ w = 6) with rfl | rfl | rfl | rfl | rfl | rfl | rfl <;> rfl
theorem ntL_off {s : Nat → Int32} {n k p q a b c d j : Nat} (hn : n < 12) (hj : 337 ≤ j) : ntL s n k p q a b c d j = s j := nt_off _ _ _ (by omega) (by omega)
set_option maxRecDepth 100000 in
set_option maxHeartbeats 400000 in
theorem wt128 {Γ : Fr} (o : ca_O Γ cX10_termItem 4 RX10 6 136) {Pr : Option Value → Mem → Prop} (ρ : ca_R Γ none Pr) {h : Mem} (e24 : h.1 51 24 = 1) (hf : Pr none h) (x1 x2 x3 : Int32) : ca_G Γ 4 h 128 [some (.ref 51), some (.int x1), some (.int x2), some (.int x3)] [] := by
  refine g_aload_n (pc := 128) o dX10_termItem_128 rfl ?_
  refine g_bipush (pc := 129) o dX10_termItem_129 100 rfl ?_
  refine g_bipush (pc := 131) o dX10_termItem_131 97 rfl ?_
  refine g_bipush (pc := 133) o dX10_termItem_133 121 rfl ?_
  refine g_bipush (pc := 135) o dX10_termItem_135 115 rfl ?_
  refine g_iconst (pc := 137) o dX10_termItem_137 0 rfl ?_
  refine g_iconst (pc := 138) o dX10_termItem_138 0 rfl ?_
  refine g_iconst (pc := 139) o dX10_termItem_139 0 rfl ?_
  refine g_callVi (pc := 140) o (m_isWordX e24 100 97 121 115 0 0 0) mt_X10_isWord mv_X10_isWord lk_X10_277 rfl rfl rfl (by decide) rfl (Nat.le_of_ble_eq_true rfl) dX10_termItem_140 ?_
  refine g_if_eq (pc := 143) o 152 dX10_termItem_143 (by decide) (fun c143 => ?_) (fun c143 => ?_)
  · skip
    exact g_vret o ρ dX10_termItem_152 hf
  · skip
    exact absurd rfl c143
set_option maxRecDepth 100000 in
set_option maxHeartbeats 400000 in
theorem wt77 {Γ : Fr} (o : ca_O Γ cX10_termItem 4 RX10 6 136) {Pr : Option Value → Mem → Prop} (ρ : ca_R Γ none Pr) {h : Mem} (e24 : h.1 51 24 = 1) (hf : Pr none h) (x1 x2 : Int32) (v3 : Option Value) : ca_G Γ 4 h 77 [some (.ref 51), some (.int x1), some (.int x2), v3] [] := by
  refine g_aload_n (pc := 77) o dX10_termItem_77 rfl ?_
  refine g_iconst (pc := 78) o dX10_termItem_78 0 rfl ?_
  refine g_bipush (pc := 79) o dX10_termItem_79 7 rfl ?_
  refine g_callVv (pc := 81) o (m_numberX e24 0 7) mt_X10_number mv_X10_number lk_X10_281 rfl rfl rfl (by decide) rfl (Nat.le_of_ble_eq_true rfl) dX10_termItem_81 ?_
  refine g_aload_n (pc := 84) o dX10_termItem_84 rfl ?_
  refine g_getIE (pc := 85) o 24 rfl rfl rfl inX10 (by decide) lf_X10_261 (e24) dX10_termItem_85 ?_
  refine g_if_eq (pc := 88) o 92 dX10_termItem_88 (by decide) (fun c88 => ?_) (fun c88 => ?_)
  · skip
    exact absurd c88 (by decide)
  · skip
    exact g_vret o ρ dX10_termItem_91 hf
set_option maxRecDepth 100000 in
set_option maxHeartbeats 400000 in
theorem wt60 {Γ : Fr} (o : ca_O Γ cX10_termItem 4 RX10 6 136) {Pr : Option Value → Mem → Prop} (ρ : ca_R Γ none Pr) {h : Mem} (e24 : h.1 51 24 = 1) (hf : Pr none h) (x1 x2 : Int32) (v3 : Option Value) : ca_G Γ 4 h 60 [some (.ref 51), some (.int x1), some (.int x2), v3] [] := by
  refine g_aload_n (pc := 60) o dX10_termItem_60 rfl ?_
  refine g_aload_n (pc := 61) o dX10_termItem_61 rfl ?_
  refine g_bipush (pc := 62) o dX10_termItem_62 97 rfl ?_
  refine g_bipush (pc := 64) o dX10_termItem_64 116 rfl ?_
  refine g_iconst (pc := 66) o dX10_termItem_66 0 rfl ?_
  refine g_iconst (pc := 67) o dX10_termItem_67 0 rfl ?_
  refine g_iconst (pc := 68) o dX10_termItem_68 0 rfl ?_
  refine g_iconst (pc := 69) o dX10_termItem_69 0 rfl ?_
  refine g_iconst (pc := 70) o dX10_termItem_70 0 rfl ?_
  refine g_callVi (pc := 71) o (m_isWordX e24 97 116 0 0 0 0 0) mt_X10_isWord mv_X10_isWord lk_X10_277 rfl rfl rfl (by decide) rfl (Nat.le_of_ble_eq_true rfl) dX10_termItem_71 ?_
  refine g_callVv (pc := 74) o (m_needsX e24 0) mt_X10_needs mv_X10_needs lk_X10_273 rfl rfl rfl (by decide) rfl (Nat.le_of_ble_eq_true rfl) dX10_termItem_74 ?_
  exact wt77 o ρ e24 hf _ _ _
set_option maxRecDepth 100000 in
set_option maxHeartbeats 800000 in
theorem ti128 {Γ : Fr} (o : ca_O Γ cX10_termItem 4 RX10 6 136) {Pr : Option Value → Mem → Prop} (ρ : ca_R Γ none Pr) {h0 : Mem} {f : Nat → Int32} {n : Nat} (M : MP h0 f n) {s : Nat → Int32} (es0 : h0.1 52 = s) (n12 : nT s < 12) (k p q a b : Nat) (res : Nat ⊕ ((Nat × Nat) × (Nat → Nat))) (hp : ∀ h2, mIt h0 h2 f n s res → Pr none h2) {h : Mem} (t : Nat × Nat) (R : MT h t) (ok : tkR f n t) (e24 : h.1 51 24 = 0) (O : offS h0 h) (e52 : h.1 52 = ntL s (nT s) k p q a b 0 29) (er : res = match pOpt f n t 11 29 with | .inl x => .inl x | .inr z => .inr (z.1, itF 2 p q k a b z.2.1 z.2.2)) (x1 x2 : Int32) : ca_G Γ 4 h 128 [some (.ref 51), some (.int x1), some (.int x2), some (.int (nI (nT s)))] [] := by
  have M1 := M.ofS O
  have big : ∀ j, 337 ≤ j → h.1 52 j = h0.1 52 j := fun j hj => by rw [e52, ntL_off n12 hj, es0]
  unfold pOpt at er
  refine g_aload_n (pc := 128) o dX10_termItem_128 rfl ?_
  refine g_bipush (pc := 129) o dX10_termItem_129 100 rfl ?_
  refine g_bipush (pc := 131) o dX10_termItem_131 97 rfl ?_
  refine g_bipush (pc := 133) o dX10_termItem_133 121 rfl ?_
  refine g_bipush (pc := 135) o dX10_termItem_135 115 rfl ?_
  refine g_iconst (pc := 137) o dX10_termItem_137 0 rfl ?_
  refine g_iconst (pc := 138) o dX10_termItem_138 0 rfl ?_
  refine g_iconst (pc := 139) o dX10_termItem_139 0 rfl ?_
  refine g_callVi (pc := 140) o (m_isWord M1 R ok.1 e24 11 (by decide)) mt_X10_isWord mv_X10_isWord lk_X10_277 rfl rfl rfl (by decide) rfl (Nat.le_of_ble_eq_true rfl) dX10_termItem_140 ?_
  refine g_if_eq (pc := 143) o 152 dX10_termItem_143 (by decide) (fun c143 => ?_) (fun c143 => ?_)
  · skip
    have w := bI_0.mp c143
    rw [if_neg w] at er
    simp only at er
    exact g_vret o ρ dX10_termItem_152 (hp h ⟨O, big, Or.inr ⟨_, er, e24, R, by rw [e52]; exact (ap_L s k p q a b 0 29).symm⟩⟩)
  · skip
    have w := bI_n0.mp c143
    rw [if_pos w] at er
    refine g_aload_n (pc := 146) o dX10_termItem_146 rfl ?_
    refine g_iload_n (pc := 147) o dX10_termItem_147 rfl ?_
    refine g_iconst (pc := 148) o dX10_termItem_148 1 rfl ?_
    refine g_callVQv (pc := 149) o (m_span1 M1 R ok e24 (nT s) n12) mt_X10_spanItem mv_X10_spanItem lk_X10_286 rfl rfl rfl (by decide) rfl (Nat.le_of_ble_eq_true rfl) dX10_termItem_149 ?_
    rintro h2 v
    obtain ⟨O2, v⟩ := v
    rcases v with ⟨x, e, y1, y2, y3⟩ | ⟨y, e, y1, y2, y3⟩
    · rw [e] at er
      simp only at er
      exact g_vret o ρ dX10_termItem_152 (hp h2 ⟨O.tr O2, fun j hj => by rw [y3]; exact big j hj, Or.inl ⟨x, er, y1, y2⟩⟩)
    · rw [e] at er
      simp only at er
      rw [e52, set5_L] at y3
      exact g_vret o ρ dX10_termItem_152 (hp h2 ⟨O.tr O2, fun j hj => by rw [y3, ntL_off n12 hj, es0], Or.inr ⟨_, er, y1, y2, by rw [y3]; exact (ap_L s k p q a b _ _).symm⟩⟩)
set_option maxRecDepth 100000 in
set_option maxHeartbeats 400000 in
theorem m_termItem {h : Mem} {f : Nat → Int32} {n : Nat} (M : MP h f n) {t : Nat × Nat} (R : MT h t) (ok : tkR f n t) (e24 : h.1 51 24 = 0) {s : Nat → Int32} (es : h.1 52 = s) (I : SI s) (k : Nat) (hk : k < 7) : Ct yX10_termItem cX10_termItem 4 none 6 136 [.ref 51, .int (nI k)] h (Qv (fun h2 => mIt h h2 f n s (pTerm f n s t k))) := by
  refine Ct.of (by decide) (Nat.le_of_ble_eq_true rfl) (fun Γ o ρ => ?_)
  show ca_G Γ 4 _ _ [_, _, _, _] _
  have okt := I.terms
  have l12 := okt.1
  have e189 : h.1 52 189 = nI (nT s) := by rw [es]; exact okt.2.1
  have ok1 := nx_R ok
  have ok2 := nx_R ok1
  have ok3 := nx_R ok2
  have ok4 := nx_R ok3
  generalize hres : pTerm f n s t k = res at ρ
  unfold pTerm at hres
  refine g_aload_n (pc := 0) o dX10_termItem_0 rfl ?_
  refine g_aload_n (pc := 1) o dX10_termItem_1 rfl ?_
  refine g_getR (pc := 2) o 0 rfl rfl rfl inX10 (by decide) lf_X10_7 dX10_termItem_2 ?_
  refine g_sipush (pc := 5) o dX10_termItem_5 189 rfl ?_
  refine n_ialdE (pc := 8) o 189 (rfl) rfl ((by omega)) (by decide) (e189) dX10_termItem_8 ?_
  refine g_bipush (pc := 9) o dX10_termItem_9 12 rfl ?_
  refine g_ic_ge (pc := 11) o 18 dX10_termItem_11 (by decide) (fun c11 => ?_) (fun c11 => ?_)
  · skip
    have n12 := (nI_leI (a := 12) (b := nT s) (by decide) (by omega)).mp c11
    rw [if_neg (by omega)] at hres
    refine g_iconst (pc := 18) o dX10_termItem_18 0 rfl ?_
    refine g_callVv (pc := 19) o (m_needs0 e24) mt_X10_needs mv_X10_needs lk_X10_273 rfl rfl rfl (by decide) rfl (Nat.le_of_ble_eq_true rfl) dX10_termItem_19 ?_
    refine g_aload_n (pc := 22) o dX10_termItem_22 rfl ?_
    refine g_getIE (pc := 23) o 24 rfl rfl rfl inX10 (by decide) lf_X10_261 (rfl) dX10_termItem_23 ?_
    refine g_if_eq (pc := 26) o 30 dX10_termItem_26 (by decide) (fun c26 => ?_) (fun c26 => ?_)
    · skip
      exact absurd (show (1 : Int32) = 0 from c26) (by decide)
    · skip
      exact g_vret o ρ dX10_termItem_29 ⟨rfl, ((offT.rf h).w (by decide)).s, fun j _ => rfl, Or.inl ⟨_, hres.symm, rfl, R.1⟩⟩
  · skip
    have n12 : nT s < 12 := by have := mt (nI_leI (a := 12) (b := nT s) (by decide) (by omega)).mpr c11; omega
    rw [if_pos n12] at hres
    refine g_iconst (pc := 14) o dX10_termItem_14 1 rfl ?_
    refine g_goto (pc := 15) o 19 dX10_termItem_15 (by decide) ?_
    refine g_callVQv (pc := 19) o (m_needs1 M R ok.1 e24 1 (by decide)) mt_X10_needs mv_X10_needs lk_X10_273 rfl rfl rfl (by decide) rfl (Nat.le_of_ble_eq_true rfl) dX10_termItem_19 ?_
    rintro h1 w
    obtain ⟨R1, e1, O1, _⟩ := w
    have M1 := M.of O1
    have es1 : h1.1 52 = s := (O1.1 52 (by decide)).trans es
    have mh := m_numHere M1 R1 ok1
    have mt := m_termsOf (h := h1) (by rw [es1]; exact okt)
    rw [es1] at mt
    -- wrong at the person
    have badP : (∀ p, pNum f n (nxF f n t) 0 5 = some p → ¬ cntP s (nI p) (nT s) < 5) → ∀ x2 : Int32, ca_G Γ 4 h1 56 [some (.ref 51), some (.int (nI k)), some (.int x2), none] [.ref 51] := by
      intro hb x2
      have er : res = .inl (nxF f n t).1 := by
        rw [← hres]
        cases e : pNum f n (nxF f n t) 0 5 with
        | none => rfl
        | some p => exact if_neg (hb p e)
      refine g_iconst (pc := 56) o dX10_termItem_56 0 rfl ?_
      refine g_callVv (pc := 57) o (m_needs0 e1) mt_X10_needs mv_X10_needs lk_X10_273 rfl rfl rfl (by decide) rfl (Nat.le_of_ble_eq_true rfl) dX10_termItem_57 ?_
      exact wt60 o ρ (h := mw h1 51 24 1) rfl ⟨rfl, (O1.w (by decide)).s, fun j _ => by show h1.1 52 j = _; rw [O1.1 52 (by decide)], Or.inl ⟨_, er, rfl, R1.1⟩⟩ _ _ _
    refine g_aload_n (pc := 22) o dX10_termItem_22 rfl ?_
    refine g_getIE (pc := 23) o 24 rfl rfl rfl inX10 (by decide) lf_X10_261 (e1) dX10_termItem_23 ?_
    refine g_if_eq (pc := 26) o 30 dX10_termItem_26 (by decide) (fun c26 => ?_) (fun c26 => ?_)
    · skip
      refine g_aload_n (pc := 30) o dX10_termItem_30 rfl ?_
      refine g_callVi (pc := 31) o (mh) mt_X10_numberHere mv_X10_numberHere lk_X10_283 rfl rfl rfl (by decide) rfl (Nat.le_of_ble_eq_true rfl) dX10_termItem_31 ?_
      refine g_istore_n (pc := 34) o dX10_termItem_34 (by decide) ?_
      show ca_G Γ 4 _ _ [_, _, _, _] _
      have pv : ∀ x : Int32, x = (if srF f n (nxF f n t).1 = 2 then nI (vaF f (nxF f n t)) else -1) → ca_G Γ 4 h1 35 [some (.ref 51), some (.int (nI k)), some (.int x), none] [] := by
        intro x ex
        have mp := m_isPerson x h1
        refine g_aload_n (pc := 35) o dX10_termItem_35 rfl ?_
        refine g_iload_n (pc := 36) o dX10_termItem_36 rfl ?_
        refine g_callSi (pc := 37) o (mp) mt_X10_isPerson ms_X10_isPerson lk_X10_98 rfl (by decide) rfl (Nat.le_of_ble_eq_true rfl) dX10_termItem_37 ?_
        refine g_if_eq (pc := 40) o 56 dX10_termItem_40 (by decide) (fun c40 => ?_) (fun c40 => ?_)
        · skip
          have y := bI_0.mp c40
          refine badP (fun p e => absurd ?_ y) _
          have nl := num_len ok1 e
          rw [ex, if_pos nl.2.2.2.1, ← nl.2.2.2.2]
          exact rng_nI (b := 5) (by omega) (by decide)
        · skip
          have y := bI_n0.mp c40
          obtain ⟨p, hp, ep, _⟩ := n_of (x := x) (b := 5) y (by decide)
          have s2 : srF f n (nxF f n t).1 = 2 := by
            by_cases w : srF f n (nxF f n t).1 = 2
            · exact w
            · rw [if_neg w] at ex
              rw [ex] at y
              exact absurd y (by decide)
          rw [if_pos s2] at ex
          have vb := (va_d ok1 s2).2
          have ev : vaF f (nxF f n t) = p := (nI_eq (by omega) (by omega)).mp (ex.symm.trans ep)
          have pn : pNum f n (nxF f n t) 0 5 = some p := by
            unfold pNum
            rw [if_pos ⟨s2, Nat.zero_le _, by omega⟩, ev]
          have cl := cntP_le s (nI p) (nT s)
          have mt2 := mt x
          rw [ep] at mt2
          rw [ep]
          refine g_aload_n (pc := 43) o dX10_termItem_43 rfl ?_
          refine g_iload_n (pc := 44) o dX10_termItem_44 rfl ?_
          refine g_callVi (pc := 45) o (mt2) mt_X10_termsOf mv_X10_termsOf lk_X10_134 rfl rfl rfl (by decide) rfl (Nat.le_of_ble_eq_true rfl) dX10_termItem_45 ?_
          refine g_iconst (pc := 48) o dX10_termItem_48 5 rfl ?_
          refine g_ic_ge (pc := 49) o 56 dX10_termItem_49 (by decide) (fun c49 => ?_) (fun c49 => ?_)
          · skip
            have w := (nI_leI (a := 5) (b := cntP s (nI p) (nT s)) (by decide) (by omega)).mp c49
            refine badP (fun p2 e => ?_) _
            rw [pn] at e
            cases e
            omega
          · skip
            have w := Nat.lt_of_not_le (fun y => c49 ((nI_leI (a := 5) (b := cntP s (nI p) (nT s)) (by decide) (by omega)).mpr y))
            rw [pn] at hres
            simp only at hres
            rw [if_pos w] at hres
            refine g_iconst (pc := 52) o dX10_termItem_52 1 rfl ?_
            refine g_goto (pc := 53) o 57 dX10_termItem_53 (by decide) ?_
            refine g_callVQv (pc := 57) o (m_needs1 M1 R1 ok1.1 e1 1 (by decide)) mt_X10_needs mv_X10_needs lk_X10_273 rfl rfl rfl (by decide) rfl (Nat.le_of_ble_eq_true rfl) dX10_termItem_57 ?_
            rintro h2 u
            obtain ⟨R2, e2, O2, _⟩ := u
            have O3 := O1.tr O2
            have M2 := M.of O3
            have es2 : h2.1 52 = s := (O3.1 52 (by decide)).trans es
            by_cases wd : wdP f (nxF f n (nxF f n t)) 9
            · rw [if_pos wd] at hres
              have mw9 := m_isWord M2 R2 ok2.1 e2 9 (by decide)
              rw [show bI (wdP f (nxF f n (nxF f n t)) 9) = 1 from (bI_t wd).symm] at mw9
              refine g_aload_n (pc := 60) o dX10_termItem_60 rfl ?_
              refine g_aload_n (pc := 61) o dX10_termItem_61 rfl ?_
              refine g_bipush (pc := 62) o dX10_termItem_62 97 rfl ?_
              refine g_bipush (pc := 64) o dX10_termItem_64 116 rfl ?_
              refine g_iconst (pc := 66) o dX10_termItem_66 0 rfl ?_
              refine g_iconst (pc := 67) o dX10_termItem_67 0 rfl ?_
              refine g_iconst (pc := 68) o dX10_termItem_68 0 rfl ?_
              refine g_iconst (pc := 69) o dX10_termItem_69 0 rfl ?_
              refine g_iconst (pc := 70) o dX10_termItem_70 0 rfl ?_
              refine g_callVi (pc := 71) o (mw9) mt_X10_isWord mv_X10_isWord lk_X10_277 rfl rfl rfl (by decide) rfl (Nat.le_of_ble_eq_true rfl) dX10_termItem_71 ?_
              refine g_callVQv (pc := 74) o (m_needs1 M2 R2 ok2.1 e2 1 (by decide)) mt_X10_needs mv_X10_needs lk_X10_273 rfl rfl rfl (by decide) rfl (Nat.le_of_ble_eq_true rfl) dX10_termItem_74 ?_
              rintro h3 u
              obtain ⟨R3, e3, O4, _⟩ := u
              have O5 := O3.tr O4
              have M3 := M.of O5
              refine g_aload_n (pc := 77) o dX10_termItem_77 rfl ?_
              refine g_iconst (pc := 78) o dX10_termItem_78 0 rfl ?_
              refine g_bipush (pc := 79) o dX10_termItem_79 7 rfl ?_
              refine g_callVQv (pc := 81) o (m_number M3 R3 ok3 e3 0 7 (by decide) (by decide)) mt_X10_number mv_X10_number lk_X10_281 rfl rfl rfl (by decide) rfl (Nat.le_of_ble_eq_true rfl) dX10_termItem_81 ?_
              rintro h4 u
              obtain ⟨O6, u⟩ := u
              have O7 := O5.tr O6
              have M4 := M.of O7
              have es4 : h4.1 52 = s := (O7.1 52 (by decide)).trans es
              rcases u with ⟨q, eq, e23, R4, e4⟩ | ⟨eq, e4, R4⟩
              · rw [eq] at hres
                simp only at hres
                have e189b : h4.1 52 189 = nI (nT s) := by rw [es4]; exact okt.2.1
                have OB : offS h (mnewM h4 (nT s) (nI k) (nI p) (nI q)) := ⟨fun c h1' h2' => by rw [mnew_off h2']; exact O7.1 c h1', fun j hj => by rw [mnew_off (by decide)]; exact O7.2 j hj⟩
                have m52 : (mnewM h4 (nT s) (nI k) (nI p) (nI q)).1 52 = ntL s (nT s) k p q 0 23 0 29 := by rw [mnew_s, es4, new_L]
                have m51 : (mnewM h4 (nT s) (nI k) (nI p) (nI q)).1 51 = h4.1 51 := mnew_off (by decide)
                have R5 : MT (mnewM h4 (nT s) (nI k) (nI p) (nI q)) (nxF f n (nxF f n (nxF f n (nxF f n t)))) := by rw [MT, m51]; exact R4
                have e5 : (mnewM h4 (nT s) (nI k) (nI p) (nI q)).1 51 24 = 0 := by rw [m51]; exact e4
                refine g_aload_n (pc := 84) o dX10_termItem_84 rfl ?_
                refine g_getIE (pc := 85) o 24 rfl rfl rfl inX10 (by decide) lf_X10_261 (e4) dX10_termItem_85 ?_
                refine g_if_eq (pc := 88) o 92 dX10_termItem_88 (by decide) (fun c88 => ?_) (fun c88 => ?_)
                · skip
                  refine g_aload_n (pc := 92) o dX10_termItem_92 rfl ?_
                  refine g_iload_n (pc := 93) o dX10_termItem_93 rfl ?_
                  refine g_iload_n (pc := 94) o dX10_termItem_94 rfl ?_
                  refine g_aload_n (pc := 95) o dX10_termItem_95 rfl ?_
                  refine g_getIE (pc := 96) o 23 rfl rfl rfl inX10 (by decide) lf_X10_270 (e23) dX10_termItem_96 ?_
                  refine g_callVi (pc := 99) o (m_newTerm (h := h4) n12 e189b (nI k) (nI p) (nI q)) mt_X10_newTerm mv_X10_newTerm lk_X10_142 rfl rfl rfl (by decide) rfl (Nat.le_of_ble_eq_true rfl) dX10_termItem_99 ?_
                  refine g_istore_n (pc := 102) o dX10_termItem_102 (by decide) ?_
                  show ca_G Γ 4 _ _ [_, _, _, _] _
                  generalize mnewM h4 (nT s) (nI k) (nI p) (nI q) = h5 at *
                  have M5 := M.ofS OB
                  have et : pTail f n (nxF f n (nxF f n (nxF f n (nxF f n t)))) k p q = match (if wdP f (nxF f n (nxF f n (nxF f n (nxF f n t)))) 10 then pSpan f n (nxF f n (nxF f n (nxF f n (nxF f n (nxF f n t))))) 23 else .inr (nxF f n (nxF f n (nxF f n (nxF f n t))), 0, 23)) with | .inl x => .inl x | .inr y => match pOpt f n y.1 11 29 with | .inl x => .inl x | .inr z => .inr (z.1, itF 2 p q k y.2.1 y.2.2 z.2.1 z.2.2) := rfl
                  refine g_aload_n (pc := 103) o dX10_termItem_103 rfl ?_
                  refine g_bipush (pc := 104) o dX10_termItem_104 104 rfl ?_
                  refine g_bipush (pc := 106) o dX10_termItem_106 111 rfl ?_
                  refine g_bipush (pc := 108) o dX10_termItem_108 117 rfl ?_
                  refine g_bipush (pc := 110) o dX10_termItem_110 114 rfl ?_
                  refine g_bipush (pc := 112) o dX10_termItem_112 115 rfl ?_
                  refine g_iconst (pc := 114) o dX10_termItem_114 0 rfl ?_
                  refine g_iconst (pc := 115) o dX10_termItem_115 0 rfl ?_
                  refine g_callVi (pc := 116) o (m_isWord M5 R5 ok4.1 e5 10 (by decide)) mt_X10_isWord mv_X10_isWord lk_X10_277 rfl rfl rfl (by decide) rfl (Nat.le_of_ble_eq_true rfl) dX10_termItem_116 ?_
                  refine g_if_eq (pc := 119) o 128 dX10_termItem_119 (by decide) (fun c119 => ?_) (fun c119 => ?_)
                  · skip
                    have w10 := bI_0.mp c119
                    rw [if_neg w10] at et
                    exact ti128 o ρ (h0 := h) M es n12 k p q 0 23 _ (fun h6 z => ⟨rfl, z⟩) _ R5 ok4 e5 OB m52 (hres.symm.trans et) _ _
                  · skip
                    have w10 := bI_n0.mp c119
                    rw [if_pos w10] at et
                    refine g_aload_n (pc := 122) o dX10_termItem_122 rfl ?_
                    refine g_iload_n (pc := 123) o dX10_termItem_123 rfl ?_
                    refine g_iconst (pc := 124) o dX10_termItem_124 0 rfl ?_
                    refine g_callVQv (pc := 125) o (m_span0 M5 R5 ok4 e5 (nT s) n12) mt_X10_spanItem mv_X10_spanItem lk_X10_286 rfl rfl rfl (by decide) rfl (Nat.le_of_ble_eq_true rfl) dX10_termItem_125 ?_
                    rintro h6 v
                    obtain ⟨O8, v⟩ := v
                    have O9 := OB.tr O8
                    rcases v with ⟨x, e, y1, y2, y3⟩ | ⟨y, e, y1, y2, y3⟩
                    · rw [e] at et
                      simp only at et
                      rw [et] at hres
                      exact wt128 o ρ y1 ⟨rfl, O9, fun j hj => by rw [y3, m52, ntL_off n12 hj, es], Or.inl ⟨x, hres.symm, y1, y2⟩⟩ _ _ _
                    · rw [e] at et
                      rw [m52, set3_L] at y3
                      exact ti128 o ρ (h0 := h) M es n12 k p q y.2.1 y.2.2 _ (fun h6 z => ⟨rfl, z⟩) y.1 y2 (span_len (nx_R ok4) e).2.1 y1 O9 y3 (hres.symm.trans et) _ _
                · skip
                  exact absurd rfl c88
              · rw [eq] at hres
                simp only at hres
                refine g_aload_n (pc := 84) o dX10_termItem_84 rfl ?_
                refine g_getIE (pc := 85) o 24 rfl rfl rfl inX10 (by decide) lf_X10_261 (e4) dX10_termItem_85 ?_
                refine g_if_eq (pc := 88) o 92 dX10_termItem_88 (by decide) (fun c88 => ?_) (fun c88 => ?_)
                · skip
                  exact absurd c88 (by decide)
                · skip
                  exact g_vret o ρ dX10_termItem_91 ⟨rfl, O7.s, fun j _ => by rw [es4, es], Or.inl ⟨_, hres.symm, e4, R4.1⟩⟩
            · rw [if_neg wd] at hres
              have mw9 := m_isWord M2 R2 ok2.1 e2 9 (by decide)
              rw [show bI (wdP f (nxF f n (nxF f n t)) 9) = 0 from (bI_f wd).symm] at mw9
              refine g_aload_n (pc := 60) o dX10_termItem_60 rfl ?_
              refine g_aload_n (pc := 61) o dX10_termItem_61 rfl ?_
              refine g_bipush (pc := 62) o dX10_termItem_62 97 rfl ?_
              refine g_bipush (pc := 64) o dX10_termItem_64 116 rfl ?_
              refine g_iconst (pc := 66) o dX10_termItem_66 0 rfl ?_
              refine g_iconst (pc := 67) o dX10_termItem_67 0 rfl ?_
              refine g_iconst (pc := 68) o dX10_termItem_68 0 rfl ?_
              refine g_iconst (pc := 69) o dX10_termItem_69 0 rfl ?_
              refine g_iconst (pc := 70) o dX10_termItem_70 0 rfl ?_
              refine g_callVi (pc := 71) o (mw9) mt_X10_isWord mv_X10_isWord lk_X10_277 rfl rfl rfl (by decide) rfl (Nat.le_of_ble_eq_true rfl) dX10_termItem_71 ?_
              refine g_callVv (pc := 74) o (m_needs0 e2) mt_X10_needs mv_X10_needs lk_X10_273 rfl rfl rfl (by decide) rfl (Nat.le_of_ble_eq_true rfl) dX10_termItem_74 ?_
              exact wt77 o ρ (h := mw h2 51 24 1) rfl ⟨rfl, (O3.w (by decide)).s, fun j _ => by show h2.1 52 j = _; rw [es2, es], Or.inl ⟨_, hres.symm, rfl, R2.1⟩⟩ _ _ _
      exact pv _ rfl
    · skip
      exact absurd rfl c26

