/-! ===== the class's reader: tokens ===== -/
abbrev TP (h : Mem) (f : Nat → Int32) (n : Nat) : Prop := h.1 30 1 = nI n ∧ n ≤ 120 ∧ ∀ j, j < n → h.1 31 j = f j
def vcF (f : Nat → Int32) (n : Nat) (t : Nat × Nat) : Nat := if srF f n t.1 = 2 then min (vaF f t) 10000 else 0
def RT (h : Mem) (f : Nat → Int32) (n : Nat) (t : Nat × Nat) : Prop := h.1 30 5 = nI (srF f n t.1) ∧ h.1 30 6 = nI t.1 ∧ h.1 30 7 = nI t.2 ∧ h.1 30 8 = nI (vcF f n t)
def offR (h h2 : Mem) : Prop := (∀ c, c ≠ 30 → h2.1 c = h.1 c) ∧ ∀ j, j ≠ 5 → j ≠ 6 → j ≠ 7 → j ≠ 8 → h2.1 30 j = h.1 30 j
theorem offR.rf (h : Mem) : offR h h := ⟨fun _ _ => rfl, fun _ _ _ _ _ => rfl⟩
theorem offR.tr {a b c : Mem} (x : offR a b) (y : offR b c) : offR a c := ⟨fun k hk => (y.1 k hk).trans (x.1 k hk), fun j h1 h2 h3 h4 => (y.2 j h1 h2 h3 h4).trans (x.2 j h1 h2 h3 h4)⟩
theorem offR.w {a b : Mem} (x : offR a b) {i : Nat} {v : Int32} (hi : i = 5 ∨ i = 6 ∨ i = 7 ∨ i = 8) : offR a (mw b 30 i v) := ⟨fun k hk => (mw_ne _ _ _ hk).trans (x.1 k hk), fun j h1 h2 h3 h4 => by rw [mw_same]; unfold upd; rw [if_neg (by omega)]; exact x.2 j h1 h2 h3 h4⟩
theorem TP.of {h h2 : Mem} {f : Nat → Int32} {n : Nat} (T : TP h f n) (o : offR h h2) : TP h2 f n := ⟨(o.2 1 (by decide) (by decide) (by decide) (by decide)).trans T.1, T.2.1, fun j hj => by rw [o.1 31 (by decide)]; exact T.2.2 j hj⟩
theorem sr_v {f : Nat → Int32} {n i : Nat} (h : i < n) : srF f n i = if rng (f i) 97 122 then 1 else if rng (f i) 48 57 then 2 else if f i = 59 then 3 else 4 := if_pos h
set_option maxRecDepth 100000 in
set_option maxHeartbeats 400000 in
theorem c_sortAt {h : Mem} {f : Nat → Int32} {n : Nat} (T : TP h f n) (i : Nat) (hi : i ≤ 120) : Ct yX3_sortAt cX3_sortAt 3 (some .int) 0 0 [.ref 30, .int (nI i)] h (Ei (nI (srF f n i)) h) := by
  refine Ct.of (by decide) (Nat.le_of_ble_eq_true rfl) (fun Γ o ρ => ?_)
  show ca_G Γ 3 _ _ [_, _, _] _
  have l := T.2.1
  refine g_iload_n (pc := 0) o dX3_sortAt_0 rfl ?_
  refine g_aload_n (pc := 1) o dX3_sortAt_1 rfl ?_
  refine g_getIE (pc := 2) o 1 rfl rfl rfl inX3 (by decide) lf_X3_21 (T.1) dX3_sortAt_2 ?_
  refine g_ic_lt (pc := 5) o 10 dX3_sortAt_5 (by decide) (fun c5 => ?_) (fun c5 => ?_)
  · skip
    have w := (nI_ltI (by omega) (by omega)).mp c5
    have sv := sr_v (f := f) w
    have a := ltN (f i) 97 (by decide)
    have b := gtN (f i) 122 (by decide)
    have c := ltN (f i) 48 (by decide)
    have e := gtN (f i) 57 (by decide)
    have lower : ¬ rng (f i) 97 122 → ca_G Γ 3 h 31 [some (.ref 30), some (.int (nI i)), some (.int (f i))] [] := fun y => by
      rw [if_neg y] at sv
      have rest : ¬ rng (f i) 48 57 → ca_G Γ 3 h 45 [some (.ref 30), some (.int (nI i)), some (.int (f i))] [] := fun y2 => by
        rw [if_neg y2] at sv
        refine g_iload_n (pc := 45) o dX3_sortAt_45 rfl ?_
        refine g_bipush (pc := 46) o dX3_sortAt_46 59 rfl ?_
        refine g_ic_ne (pc := 48) o 55 dX3_sortAt_48 (by decide) (fun c48 => ?_) (fun c48 => ?_)
        · skip
          rw [if_neg c48] at sv
          refine g_iconst (pc := 55) o dX3_sortAt_55 4 rfl ?_
          exact g_iret o ρ dX3_sortAt_56 (Ei.mk (by rw [sv]; rfl) rfl)
        · skip
          rw [if_pos c48] at sv
          refine g_iconst (pc := 51) o dX3_sortAt_51 3 rfl ?_
          refine g_goto (pc := 52) o 56 dX3_sortAt_52 (by decide) ?_
          exact g_iret o ρ dX3_sortAt_56 (Ei.mk (by rw [sv]; rfl) rfl)
      refine g_iload_n (pc := 31) o dX3_sortAt_31 rfl ?_
      refine g_bipush (pc := 32) o dX3_sortAt_32 48 rfl ?_
      refine g_ic_lt (pc := 34) o 45 dX3_sortAt_34 (by decide) (fun c34 => ?_) (fun c34 => ?_)
      · skip
        exact rest (fun y2 => by have := c.mp c34; have := y2.1; omega)
      · skip
        refine g_iload_n (pc := 37) o dX3_sortAt_37 rfl ?_
        refine g_bipush (pc := 38) o dX3_sortAt_38 57 rfl ?_
        refine g_ic_gt (pc := 40) o 45 dX3_sortAt_40 (by decide) (fun c40 => ?_) (fun c40 => ?_)
        · skip
          exact rest (fun y2 => by have := e.mp c40; have := y2.2; omega)
        · skip
          have k1 := mt c.mpr c34
          have k2 := mt e.mpr c40
          rw [if_pos ⟨by omega, by omega⟩] at sv
          refine g_iconst (pc := 43) o dX3_sortAt_43 2 rfl ?_
          exact g_iret o ρ dX3_sortAt_44 (Ei.mk (by rw [sv]; rfl) rfl)
    refine g_aload_n (pc := 10) o dX3_sortAt_10 rfl ?_
    refine g_getR (pc := 11) o 0 rfl rfl rfl inX3 (by decide) lf_X3_11 dX3_sortAt_11 ?_
    refine g_iload_n (pc := 14) o dX3_sortAt_14 rfl ?_
    refine n_ialdE (pc := 15) o i (rfl) rfl ((by omega)) (by decide) (T.2.2 i w) dX3_sortAt_15 ?_
    refine g_istore_n (pc := 16) o dX3_sortAt_16 (by decide) ?_
    show ca_G Γ 3 _ _ [_, _, _] _
    refine g_iload_n (pc := 17) o dX3_sortAt_17 rfl ?_
    refine g_bipush (pc := 18) o dX3_sortAt_18 97 rfl ?_
    refine g_ic_lt (pc := 20) o 31 dX3_sortAt_20 (by decide) (fun c20 => ?_) (fun c20 => ?_)
    · skip
      exact lower (fun y => by have := a.mp c20; have := y.1; omega)
    · skip
      refine g_iload_n (pc := 23) o dX3_sortAt_23 rfl ?_
      refine g_bipush (pc := 24) o dX3_sortAt_24 122 rfl ?_
      refine g_ic_gt (pc := 26) o 31 dX3_sortAt_26 (by decide) (fun c26 => ?_) (fun c26 => ?_)
      · skip
        exact lower (fun y => by have := b.mp c26; have := y.2; omega)
      · skip
        have k1 := mt a.mpr c20
        have k2 := mt b.mpr c26
        rw [if_pos ⟨by omega, by omega⟩] at sv
        refine g_iconst (pc := 29) o dX3_sortAt_29 1 rfl ?_
        exact g_iret o ρ dX3_sortAt_30 (Ei.mk (by rw [sv]; rfl) rfl)
  · skip
    have w := mt (nI_ltI (a := i) (b := n) (by omega) (by omega)).mpr c5
    refine g_iconst (pc := 8) o dX3_sortAt_8 0 rfl ?_
    exact g_iret o ρ dX3_sortAt_9 (Ei.mk (by unfold srF; rw [if_neg w]; rfl) rfl)
theorem min10 (x : Nat) (hx : x < 2 ^ 31) : (if (10000 : Int32) < nI x then (10000 : Int32) else nI x) = nI (min x 10000) := by
  have e : (10000 : Int32) = nI 10000 := rfl
  rw [e]
  by_cases w : 10000 < x
  · rw [if_pos ((nI_ltI (by decide) hx).mpr w), Nat.min_eq_right (by omega)]
  · rw [if_neg (fun y => w ((nI_ltI (by decide) hx).mp y)), Nat.min_eq_left (by omega)]
theorem dig_of {x : Int32} (h : rng x 48 57) : ∃ c, 48 ≤ c ∧ c ≤ 57 ∧ x = nI c := by
  obtain ⟨j, hj, e⟩ := rng_of (x := x) (b := 57) ⟨by have := h.1; omega, h.2⟩ (by decide)
  have t : x.toInt = j := by rw [e]; exact nI_toInt (by omega)
  exact ⟨j, by have := h.1; omega, hj, e⟩
theorem sr_2 {f : Nat → Int32} {n i : Nat} (h : srF f n i = 2) : i < n ∧ rng (f i) 48 57 := by
  have lt := sr_pos (f := f) (n := n) (b := i) (by rw [h]; decide)
  rw [sr_v lt] at h
  by_cases w : rng (f i) 97 122
  · rw [if_pos w] at h; omega
  · rw [if_neg w] at h
    by_cases y : rng (f i) 48 57
    · exact ⟨lt, y⟩
    · rw [if_neg y] at h
      split at h <;> omega
theorem nvF_s (f : Nat → Int32) (b k : Nat) : nvF f b (k + 1) = if 9999 < nvF f b k then nvF f b k else 10 * nvF f b k + (ca_n (f (b + k)) - 48) := rfl
set_option maxRecDepth 100000 in
set_option maxHeartbeats 800000 in
theorem lp_adv2 {Γ : Fr} (o : ca_O Γ cX3_advance 2 RX3 1 22) {Pr : Option Value → Mem → Prop} (ρ : ca_R Γ none Pr) {h0 : Mem} {f : Nat → Int32} {n : Nat} (T : TP h0 f n) (b e : Nat) (lg : lgF f n b) (hp : ∀ h : Mem, h.1 30 5 = nI (srF f n b) → h.1 30 6 = nI b → h.1 30 7 = nI e → h.1 30 8 = nI (vcF f n (b, e)) → offR h0 h → Pr none h) : ∀ i, i ≤ n → b ≤ i → ∀ (h : Mem), h.1 30 5 = nI (srF f n b) → h.1 30 6 = nI b → h.1 30 7 = nI i → h.1 30 8 = nI (vcF f n (b, i)) → offR h0 h → rnF f n (srF f n b) (n - i) i = e → ca_G Γ 2 h 93 [some (.ref 30), some (.int 1)] [] := by
  have l120 := T.2.1
  have s4 := sr_4 f n b
  refine downI n (fun i hi ih => ?_)
  intro bi h e5 e6 e7 e8 O ee
  have T2 := T.of O
  have s42 := sr_4 f n i
  have done : i = e → Pr none h := fun y => by subst y; exact hp h e5 e6 e7 e8 O
  refine g_aload_n (pc := 93) o dX3_advance_93 rfl ?_
  refine g_getIE (pc := 94) o 7 rfl rfl rfl inX3 (by decide) lf_X3_43 (e7) dX3_advance_94 ?_
  refine g_aload_n (pc := 97) o dX3_advance_97 rfl ?_
  refine g_getIE (pc := 98) o 1 rfl rfl rfl inX3 (by decide) lf_X3_21 (T2.1) dX3_advance_98 ?_
  refine g_ic_ge (pc := 101) o 185 dX3_advance_101 (by decide) (fun c101 => ?_) (fun c101 => ?_)
  · skip
    have w := (nI_leI (by omega) (by omega)).mp c101
    rw [show n - i = 0 by omega] at ee
    exact g_vret o ρ dX3_advance_185 (done ee)
  · skip
    have w := mt (nI_leI (a := n) (b := i) (by omega) (by omega)).mpr c101
    rw [show n - i = (n - (i + 1)) + 1 by omega, rnF_s] at ee
    refine g_aload_n (pc := 104) o dX3_advance_104 rfl ?_
    refine g_aload_n (pc := 105) o dX3_advance_105 rfl ?_
    refine g_getIE (pc := 106) o 7 rfl rfl rfl inX3 (by decide) lf_X3_43 (e7) dX3_advance_106 ?_
    refine g_callVi (pc := 109) o (c_sortAt T2 i (by omega)) mt_X3_sortAt mv_X3_sortAt lk_X3_126 rfl rfl rfl (by decide) rfl (Nat.le_of_ble_eq_true rfl) dX3_advance_109 ?_
    refine g_aload_n (pc := 112) o dX3_advance_112 rfl ?_
    refine g_getIE (pc := 113) o 5 rfl rfl rfl inX3 (by decide) lf_X3_52 (e5) dX3_advance_113 ?_
    refine g_ic_ne (pc := 116) o 185 dX3_advance_116 (by decide) (fun c116 => ?_) (fun c116 => ?_)
    · skip
      have ne := mt (nI_eq (a := srF f n i) (b := srF f n b) (by omega) (by omega)).mpr c116
      rw [if_neg ne] at ee
      exact g_vret o ρ dX3_advance_185 (done ee)
    · skip
      have eq := (nI_eq (a := srF f n i) (b := srF f n b) (by omega) (by omega)).mp c116
      rw [if_pos eq] at ee
      refine g_iload_n (pc := 119) o dX3_advance_119 rfl ?_
      refine g_if_ne (pc := 120) o 134 dX3_advance_120 (by decide) (fun c120 => ?_) (fun c120 => ?_)
      · skip
        have nx : ∀ h2 : Mem, h2.1 30 5 = nI (srF f n b) → h2.1 30 6 = nI b → h2.1 30 7 = nI i → h2.1 30 8 = nI (vcF f n (b, i + 1)) → offR h0 h2 → ca_G Γ 2 h2 172 [some (.ref 30), some (.int 1)] [] := by
          intro h2 g5 g6 g7 g8 O2
          refine g_aload_n (pc := 172) o dX3_advance_172 rfl ?_
          refine g_dup (pc := 173) o dX3_advance_173 rfl ?_
          refine g_getIE (pc := 174) o 7 rfl rfl rfl inX3 (by decide) lf_X3_43 (g7) dX3_advance_174 ?_
          refine g_iconst (pc := 177) o dX3_advance_177 1 rfl ?_
          refine g_iadd (pc := 178) o dX3_advance_178 ?_
          refine g_put (pc := 179) o 7 rfl rfl rfl inX3 tyX3_ok nmX3 (by decide) lf_X3_43 rfl rfl rfl dX3_advance_179 ?_
          refine g_goto (pc := 182) o 93 dX3_advance_182 (by decide) ?_
          refine ih (by omega) (by omega) _ ?_ ?_ ?_ ?_ (O2.w (by decide)) ee
          · exact g5
          · exact g6
          · exact nI_1 i
          · exact g8
        refine g_aload_n (pc := 134) o dX3_advance_134 rfl ?_
        refine g_getIE (pc := 135) o 5 rfl rfl rfl inX3 (by decide) lf_X3_52 (e5) dX3_advance_135 ?_
        refine g_iconst (pc := 138) o dX3_advance_138 2 rfl ?_
        refine g_ic_ne (pc := 139) o 172 dX3_advance_139 (by decide) (fun c139 => ?_) (fun c139 => ?_)
        · skip
          have n2 : ¬ srF f n b = 2 := fun y => c139 (by rw [y]; rfl)
          exact nx h e5 e6 e7 (by rw [e8]; unfold vcF; rw [if_neg n2, if_neg n2]) O
        · skip
          have n2 := (nI_eq (a := srF f n b) (b := 2) (by omega) (by decide)).mp c139
          obtain ⟨_, rg⟩ := sr_2 (eq.trans n2)
          obtain ⟨c, c1, c2, ec⟩ := dig_of rg
          have v0 : vcF f n (b, i) = min (nvF f b (i - b)) 10000 := by unfold vcF; rw [if_pos n2]
          have v1 : vcF f n (b, i + 1) = min (nvF f b (i + 1 - b)) 10000 := by unfold vcF; rw [if_pos n2]
          have vs : vcF f n (b, i + 1) = min (10 * vcF f n (b, i) + (c - 48)) 10000 := by
            rw [v0, v1, show i + 1 - b = (i - b) + 1 by omega, nvF_s, show b + (i - b) = i by omega, ec, show ca_n (nI c) = c from nI_clamp (by omega)]
            by_cases y : 9999 < nvF f b (i - b)
            · rw [if_pos y]; omega
            · rw [if_neg y]; omega
          have vl : vcF f n (b, i) ≤ 10000 := by rw [v0]; omega
          have cal : nI (vcF f n (b, i)) * 10 + nI c - 48 = nI (10 * vcF f n (b, i) + (c - 48)) := by
            rw [show (10 : Int32) = nI 10 from rfl, show (48 : Int32) = nI 48 from rfl, pk_mul, nI_add, pk_sub (by omega)]
            congr 1
            omega
          have ti : h.1 31 i = nI c := by rw [T2.2.2 i (by omega)]; exact ec
          refine g_aload_n (pc := 142) o dX3_advance_142 rfl ?_
          refine g_aload_n (pc := 143) o dX3_advance_143 rfl ?_
          refine g_getIE (pc := 144) o 8 rfl rfl rfl inX3 (by decide) lf_X3_68 (e8) dX3_advance_144 ?_
          refine g_bipush (pc := 147) o dX3_advance_147 10 rfl ?_
          refine g_imul (pc := 149) o dX3_advance_149 ?_
          refine g_aload_n (pc := 150) o dX3_advance_150 rfl ?_
          refine g_getR (pc := 151) o 0 rfl rfl rfl inX3 (by decide) lf_X3_11 dX3_advance_151 ?_
          refine g_aload_n (pc := 154) o dX3_advance_154 rfl ?_
          refine g_getIE (pc := 155) o 7 rfl rfl rfl inX3 (by decide) lf_X3_43 (e7) dX3_advance_155 ?_
          refine n_ialdE (pc := 158) o i (rfl) rfl ((by omega)) (by decide) (ti) dX3_advance_158 ?_
          refine g_iadd (pc := 159) o dX3_advance_159 ?_
          refine g_bipush (pc := 160) o dX3_advance_160 48 rfl ?_
          refine g_isub (pc := 162) o dX3_advance_162 ?_
          rw [cal]
          refine g_sipush (pc := 163) o dX3_advance_163 10000 rfl ?_
          refine g_min (pc := 166) o lk_X3_129 ms_min mi_min mc_min (by decide) (Nat.le_of_ble_eq_true rfl) dX3_advance_166 ?_
          rw [min10 _ (by omega), ← vs]
          refine g_put (pc := 169) o 8 rfl rfl rfl inX3 tyX3_ok nmX3 (by decide) lf_X3_68 rfl rfl rfl dX3_advance_169 ?_
          refine nx _ ?_ ?_ ?_ ?_ (O.w (by decide))
          · exact e5
          · exact e6
          · exact e7
          · rfl
      · skip
        exact absurd c120 (by decide)
set_option maxRecDepth 100000 in
set_option maxHeartbeats 800000 in
theorem lp_adv1 {Γ : Fr} (o : ca_O Γ cX3_advance 2 RX3 1 22) {h0 : Mem} {f : Nat → Int32} {n : Nat} (T : TP h0 f n) (b : Nat) (kk : ∀ (h : Mem) (v1 : Option Value), h.1 30 6 = nI b → offR h0 h → ca_G Γ 2 h 46 [some (.ref 30), v1] []) : ∀ i, i ≤ n → ∀ (h : Mem) (v1 : Option Value), h.1 30 6 = nI i → offR h0 h → skF f n (n - i) i = b → ca_G Γ 2 h 8 [some (.ref 30), v1] [] := by
  have l120 := T.2.1
  refine downI n (fun i hi ih => ?_)
  intro h v1 e6 O eb
  have T2 := T.of O
  refine g_aload_n (pc := 8) o dX3_advance_8 rfl ?_
  refine g_getIE (pc := 9) o 6 rfl rfl rfl inX3 (by decide) lf_X3_114 (e6) dX3_advance_9 ?_
  refine g_aload_n (pc := 12) o dX3_advance_12 rfl ?_
  refine g_getIE (pc := 13) o 1 rfl rfl rfl inX3 (by decide) lf_X3_21 (T2.1) dX3_advance_13 ?_
  refine g_ic_ge (pc := 16) o 46 dX3_advance_16 (by decide) (fun c16 => ?_) (fun c16 => ?_)
  · skip
    have w := (nI_leI (by omega) (by omega)).mp c16
    rw [show n - i = 0 by omega] at eb
    have eb : i = b := eb
    subst eb
    exact kk h _ e6 O
  · skip
    have w := mt (nI_leI (a := n) (b := i) (by omega) (by omega)).mpr c16
    rw [show n - i = (n - (i + 1)) + 1 by omega, skF_s] at eb
    refine g_aload_n (pc := 19) o dX3_advance_19 rfl ?_
    refine g_getR (pc := 20) o 0 rfl rfl rfl inX3 (by decide) lf_X3_11 dX3_advance_20 ?_
    refine g_aload_n (pc := 23) o dX3_advance_23 rfl ?_
    refine g_getIE (pc := 24) o 6 rfl rfl rfl inX3 (by decide) lf_X3_114 (e6) dX3_advance_24 ?_
    refine n_ialdE (pc := 27) o i (rfl) rfl ((by omega)) (by decide) (T2.2.2 i (by omega)) dX3_advance_27 ?_
    refine g_bipush (pc := 28) o dX3_advance_28 32 rfl ?_
    refine g_ic_ne (pc := 30) o 46 dX3_advance_30 (by decide) (fun c30 => ?_) (fun c30 => ?_)
    · skip
      rw [if_neg (fun y => c30 y.2)] at eb
      subst eb
      exact kk h _ e6 O
    · skip
      rw [if_pos ⟨by omega, c30⟩] at eb
      refine g_aload_n (pc := 33) o dX3_advance_33 rfl ?_
      refine g_dup (pc := 34) o dX3_advance_34 rfl ?_
      refine g_getIE (pc := 35) o 6 rfl rfl rfl inX3 (by decide) lf_X3_114 (e6) dX3_advance_35 ?_
      refine g_iconst (pc := 38) o dX3_advance_38 1 rfl ?_
      refine g_iadd (pc := 39) o dX3_advance_39 ?_
      refine g_put (pc := 40) o 6 rfl rfl rfl inX3 tyX3_ok nmX3 (by decide) lf_X3_114 rfl rfl rfl dX3_advance_40 ?_
      refine g_goto (pc := 43) o 8 dX3_advance_43 (by decide) ?_
      exact ih (by omega) _ _ (nI_1 i) (O.w (by decide)) eb
set_option maxRecDepth 100000 in
set_option maxHeartbeats 400000 in
theorem c_advance {h : Mem} {f : Nat → Int32} {n : Nat} (T : TP h f n) (i : Nat) (hi : i ≤ n) (e7 : h.1 30 7 = nI i) : Ct yX3_advance cX3_advance 2 none 1 22 [.ref 30] h (Qv (fun h2 => RT h2 f n (tkF f n i) ∧ offR h h2)) := by
  refine Ct.of (by decide) (Nat.le_of_ble_eq_true rfl) (fun Γ o ρ => ?_)
  show ca_G Γ 2 _ _ [_, _] _
  have l120 := T.2.1
  refine g_aload_n (pc := 0) o dX3_advance_0 rfl ?_
  refine g_aload_n (pc := 1) o dX3_advance_1 rfl ?_
  refine g_getIE (pc := 2) o 7 rfl rfl rfl inX3 (by decide) lf_X3_43 (e7) dX3_advance_2 ?_
  refine g_put (pc := 5) o 6 rfl rfl rfl inX3 tyX3_ok nmX3 (by decide) lf_X3_114 rfl rfl rfl dX3_advance_5 ?_
  refine lp_adv1 o (h0 := h) T (skF f n (n - i) i) (fun h1 v1 g6 O1 => ?_) i hi _ _ rfl ((offR.rf h).w (by decide)) rfl
  have sl := sk_le f n (n - i) i (by omega)
  have tl := te_le (f := f) sl.2
  have te : (tkF f n i) = (skF f n (n - i) i, teF f n (skF f n (n - i) i)) := rfl
  rw [te] at ρ
  generalize skF f n (n - i) i = b at *
  have T1 := T.of O1
  have s4 := sr_4 f n b
  have O2 : offR h (mw (mw (mw h1 30 5 (nI (srF f n b))) 30 8 0) 30 7 (nI b)) := ((O1.w (i := 5) (by decide)).w (i := 8) (by decide)).w (i := 7) (by decide)
  have vb : vcF f n (b, b) = 0 := by
    unfold vcF
    rw [show vaF f (b, b) = 0 by show nvF f b (b - b) = 0; rw [Nat.sub_self]; rfl]
    split <;> rfl
  have fin : ∀ (x1 : Int32), x1 = bI (lgF f n b) → ca_G Γ 2 (mw (mw (mw h1 30 5 (nI (srF f n b))) 30 8 0) 30 7 (nI b)) 93 [some (.ref 30), some (.int x1)] [] := by
    intro x1 ex
    by_cases lg : lgF f n b
    · have bn := sr_pos (f := f) (n := n) (b := b) (by rcases lg with y | y <;> rw [y] <;> decide)
      have et : teF f n b = rnF f n (srF f n b) (n - b) b := by
        unfold teF
        rw [if_pos bn, if_pos lg, show n - b = (n - (b + 1)) + 1 by omega, rnF_s, if_pos rfl]
      rw [show x1 = 1 by rw [ex]; exact (bI_t lg).symm]
      exact lp_adv2 o ρ (h0 := h) T b (teF f n b) lg (fun h2 y5 y6 y7 y8 O3 => ⟨rfl, ⟨y5, y6, y7, y8⟩, O3⟩) b sl.2 (Nat.le_refl b) _ rfl g6 rfl (by rw [vb]; rfl) O2 et.symm
    · rw [show x1 = 0 by rw [ex]; exact (bI_f lg).symm]
      have n2 : ¬ srF f n b = 2 := fun y => lg (Or.inr y)
      have T3 := T.of O2
      have g5b : (mw (mw (mw h1 30 5 (nI (srF f n b))) 30 8 0) 30 7 (nI b)).1 30 5 = nI (srF f n b) := rfl
      have g6b : (mw (mw (mw h1 30 5 (nI (srF f n b))) 30 8 0) 30 7 (nI b)).1 30 6 = nI b := g6
      have g7b : (mw (mw (mw h1 30 5 (nI (srF f n b))) 30 8 0) 30 7 (nI b)).1 30 7 = nI b := rfl
      have g8b : (mw (mw (mw h1 30 5 (nI (srF f n b))) 30 8 0) 30 7 (nI b)).1 30 8 = 0 := rfl
      generalize mw (mw (mw h1 30 5 (nI (srF f n b))) 30 8 0) 30 7 (nI b) = h3 at *
      have vz : ∀ e, vcF f n (b, e) = 0 := fun e => by unfold vcF; rw [if_neg n2]
      refine g_aload_n (pc := 93) o dX3_advance_93 rfl ?_
      refine g_getIE (pc := 94) o 7 rfl rfl rfl inX3 (by decide) lf_X3_43 (g7b) dX3_advance_94 ?_
      refine g_aload_n (pc := 97) o dX3_advance_97 rfl ?_
      refine g_getIE (pc := 98) o 1 rfl rfl rfl inX3 (by decide) lf_X3_21 (T3.1) dX3_advance_98 ?_
      refine g_ic_ge (pc := 101) o 185 dX3_advance_101 (by decide) (fun c101 => ?_) (fun c101 => ?_)
      · skip
        have w := (nI_leI (by omega) (by omega)).mp c101
        have et : teF f n b = b := by unfold teF; rw [if_neg (by omega)]
        exact g_vret o ρ dX3_advance_185 ⟨rfl, ⟨g5b, g6b, by rw [et]; exact g7b, by rw [vz]; exact g8b⟩, O2⟩
      · skip
        have w := mt (nI_leI (a := n) (b := b) (by omega) (by omega)).mpr c101
        have et : teF f n b = b + 1 := by unfold teF; rw [if_pos (by omega), if_neg lg]
        refine g_aload_n (pc := 104) o dX3_advance_104 rfl ?_
        refine g_aload_n (pc := 105) o dX3_advance_105 rfl ?_
        refine g_getIE (pc := 106) o 7 rfl rfl rfl inX3 (by decide) lf_X3_43 (g7b) dX3_advance_106 ?_
        refine g_callVi (pc := 109) o (c_sortAt T3 b (by omega)) mt_X3_sortAt mv_X3_sortAt lk_X3_126 rfl rfl rfl (by decide) rfl (Nat.le_of_ble_eq_true rfl) dX3_advance_109 ?_
        refine g_aload_n (pc := 112) o dX3_advance_112 rfl ?_
        refine g_getIE (pc := 113) o 5 rfl rfl rfl inX3 (by decide) lf_X3_52 (g5b) dX3_advance_113 ?_
        refine g_ic_ne (pc := 116) o 185 dX3_advance_116 (by decide) (fun c116 => ?_) (fun c116 => ?_)
        · skip
          exact absurd rfl c116
        · skip
          refine g_iload_n (pc := 119) o dX3_advance_119 rfl ?_
          refine g_if_ne (pc := 120) o 134 dX3_advance_120 (by decide) (fun c120 => ?_) (fun c120 => ?_)
          · skip
            exact absurd rfl c120
          · skip
            refine g_aload_n (pc := 123) o dX3_advance_123 rfl ?_
            refine g_getIE (pc := 124) o 7 rfl rfl rfl inX3 (by decide) lf_X3_43 (g7b) dX3_advance_124 ?_
            refine g_aload_n (pc := 127) o dX3_advance_127 rfl ?_
            refine g_getIE (pc := 128) o 6 rfl rfl rfl inX3 (by decide) lf_X3_114 (g6b) dX3_advance_128 ?_
            refine g_ic_ne (pc := 131) o 185 dX3_advance_131 (by decide) (fun c131 => ?_) (fun c131 => ?_)
            · skip
              exact absurd rfl c131
            · skip
              refine g_aload_n (pc := 134) o dX3_advance_134 rfl ?_
              refine g_getIE (pc := 135) o 5 rfl rfl rfl inX3 (by decide) lf_X3_52 (g5b) dX3_advance_135 ?_
              refine g_iconst (pc := 138) o dX3_advance_138 2 rfl ?_
              refine g_ic_ne (pc := 139) o 172 dX3_advance_139 (by decide) (fun c139 => ?_) (fun c139 => ?_)
              · skip
                refine g_aload_n (pc := 172) o dX3_advance_172 rfl ?_
                refine g_dup (pc := 173) o dX3_advance_173 rfl ?_
                refine g_getIE (pc := 174) o 7 rfl rfl rfl inX3 (by decide) lf_X3_43 (g7b) dX3_advance_174 ?_
                refine g_iconst (pc := 177) o dX3_advance_177 1 rfl ?_
                refine g_iadd (pc := 178) o dX3_advance_178 ?_
                refine g_put (pc := 179) o 7 rfl rfl rfl inX3 tyX3_ok nmX3 (by decide) lf_X3_43 rfl rfl rfl dX3_advance_179 ?_
                refine g_goto (pc := 182) o 93 dX3_advance_182 (by decide) ?_
                have T4 : TP (mw h3 30 7 (nI b + 1)) f n := T3.of ((offR.rf h3).w (by decide))
                have k7 : (mw h3 30 7 (nI b + 1)).1 30 7 = nI (b + 1) := nI_1 b
                have O4 : offR h (mw h3 30 7 (nI b + 1)) := O2.w (by decide)
                have k6 : (mw h3 30 7 (nI b + 1)).1 30 6 = nI b := g6b
                have k5 : (mw h3 30 7 (nI b + 1)).1 30 5 = nI (srF f n b) := g5b
                have k8 : (mw h3 30 7 (nI b + 1)).1 30 8 = 0 := g8b
                generalize mw h3 30 7 (nI b + 1) = h4 at *
                have end4 : RT h4 f n (b, teF f n b) := ⟨k5, k6, by rw [et]; exact k7, by rw [vz]; exact k8⟩
                refine g_aload_n (pc := 93) o dX3_advance_93 rfl ?_
                refine g_getIE (pc := 94) o 7 rfl rfl rfl inX3 (by decide) lf_X3_43 (k7) dX3_advance_94 ?_
                refine g_aload_n (pc := 97) o dX3_advance_97 rfl ?_
                refine g_getIE (pc := 98) o 1 rfl rfl rfl inX3 (by decide) lf_X3_21 (T4.1) dX3_advance_98 ?_
                refine g_ic_ge (pc := 101) o 185 dX3_advance_101 (by decide) (fun c101 => ?_) (fun c101 => ?_)
                · skip
                  exact g_vret o ρ dX3_advance_185 ⟨rfl, end4, O4⟩
                · skip
                  have w2 := mt (nI_leI (a := n) (b := b + 1) (by omega) (by omega)).mpr c101
                  refine g_aload_n (pc := 104) o dX3_advance_104 rfl ?_
                  refine g_aload_n (pc := 105) o dX3_advance_105 rfl ?_
                  refine g_getIE (pc := 106) o 7 rfl rfl rfl inX3 (by decide) lf_X3_43 (k7) dX3_advance_106 ?_
                  refine g_callVi (pc := 109) o (c_sortAt T4 (b + 1) (by omega)) mt_X3_sortAt mv_X3_sortAt lk_X3_126 rfl rfl rfl (by decide) rfl (Nat.le_of_ble_eq_true rfl) dX3_advance_109 ?_
                  refine g_aload_n (pc := 112) o dX3_advance_112 rfl ?_
                  refine g_getIE (pc := 113) o 5 rfl rfl rfl inX3 (by decide) lf_X3_52 (k5) dX3_advance_113 ?_
                  refine g_ic_ne (pc := 116) o 185 dX3_advance_116 (by decide) (fun c116 => ?_) (fun c116 => ?_)
                  · skip
                    exact g_vret o ρ dX3_advance_185 ⟨rfl, end4, O4⟩
                  · skip
                    refine g_iload_n (pc := 119) o dX3_advance_119 rfl ?_
                    refine g_if_ne (pc := 120) o 134 dX3_advance_120 (by decide) (fun c120 => ?_) (fun c120 => ?_)
                    · skip
                      exact absurd rfl c120
                    · skip
                      refine g_aload_n (pc := 123) o dX3_advance_123 rfl ?_
                      refine g_getIE (pc := 124) o 7 rfl rfl rfl inX3 (by decide) lf_X3_43 (k7) dX3_advance_124 ?_
                      refine g_aload_n (pc := 127) o dX3_advance_127 rfl ?_
                      refine g_getIE (pc := 128) o 6 rfl rfl rfl inX3 (by decide) lf_X3_114 (k6) dX3_advance_128 ?_
                      refine g_ic_ne (pc := 131) o 185 dX3_advance_131 (by decide) (fun c131 => ?_) (fun c131 => ?_)
                      · skip
                        exact g_vret o ρ dX3_advance_185 ⟨rfl, end4, O4⟩
                      · skip
                        have := (nI_eq (a := b + 1) (b := b) (by omega) (by omega)).mp c131
                        omega
              · skip
                exact absurd ((nI_eq (a := srF f n b) (b := 2) (by omega) (by decide)).mp c139) n2
  refine g_aload_n (pc := 46) o dX3_advance_46 rfl ?_
  refine g_aload_n (pc := 47) o dX3_advance_47 rfl ?_
  refine g_aload_n (pc := 48) o dX3_advance_48 rfl ?_
  refine g_getIE (pc := 49) o 6 rfl rfl rfl inX3 (by decide) lf_X3_114 (g6) dX3_advance_49 ?_
  refine g_callVi (pc := 52) o (c_sortAt T1 b (by omega)) mt_X3_sortAt mv_X3_sortAt lk_X3_126 rfl rfl rfl (by decide) rfl (Nat.le_of_ble_eq_true rfl) dX3_advance_52 ?_
  refine g_put (pc := 55) o 5 rfl rfl rfl inX3 tyX3_ok nmX3 (by decide) lf_X3_52 rfl rfl rfl dX3_advance_55 ?_
  refine g_aload_n (pc := 58) o dX3_advance_58 rfl ?_
  refine g_iconst (pc := 59) o dX3_advance_59 0 rfl ?_
  refine g_put (pc := 60) o 8 rfl rfl rfl inX3 tyX3_ok nmX3 (by decide) lf_X3_68 rfl rfl rfl dX3_advance_60 ?_
  refine g_aload_n (pc := 63) o dX3_advance_63 rfl ?_
  refine g_aload_n (pc := 64) o dX3_advance_64 rfl ?_
  refine g_getIE (pc := 65) o 6 rfl rfl rfl inX3 (by decide) lf_X3_114 (g6) dX3_advance_65 ?_
  refine g_put (pc := 68) o 7 rfl rfl rfl inX3 tyX3_ok nmX3 (by decide) lf_X3_43 rfl rfl rfl dX3_advance_68 ?_
  refine g_aload_n (pc := 71) o dX3_advance_71 rfl ?_
  refine g_getIE (pc := 72) o 5 rfl rfl rfl inX3 (by decide) lf_X3_52 (rfl) dX3_advance_72 ?_
  refine g_iconst (pc := 75) o dX3_advance_75 1 rfl ?_
  refine g_ic_eq (pc := 76) o 87 dX3_advance_76 (by decide) (fun c76 => ?_) (fun c76 => ?_)
  · skip
    have y := (nI_eq (a := srF f n b) (b := 1) (by omega) (by decide)).mp c76
    refine g_iconst (pc := 87) o dX3_advance_87 1 rfl ?_
    refine g_goto (pc := 88) o 92 dX3_advance_88 (by decide) ?_
    refine g_istore_n (pc := 92) o dX3_advance_92 (by decide) ?_
    show ca_G Γ 2 _ _ [_, _] _
    exact fin _ (bI_t (Or.inl y))
  · skip
    have y := mt (nI_eq (a := srF f n b) (b := 1) (by omega) (by decide)).mpr c76
    refine g_aload_n (pc := 79) o dX3_advance_79 rfl ?_
    refine g_getIE (pc := 80) o 5 rfl rfl rfl inX3 (by decide) lf_X3_52 (rfl) dX3_advance_80 ?_
    refine g_iconst (pc := 83) o dX3_advance_83 2 rfl ?_
    refine g_ic_ne (pc := 84) o 91 dX3_advance_84 (by decide) (fun c84 => ?_) (fun c84 => ?_)
    · skip
      have y2 := mt (nI_eq (a := srF f n b) (b := 2) (by omega) (by decide)).mpr c84
      refine g_iconst (pc := 91) o dX3_advance_91 0 rfl ?_
      refine g_istore_n (pc := 92) o dX3_advance_92 (by decide) ?_
      show ca_G Γ 2 _ _ [_, _] _
      exact fin _ (bI_f (fun z => z.elim y y2))
    · skip
      have y2 := (nI_eq (a := srF f n b) (b := 2) (by omega) (by decide)).mp c84
      refine g_iconst (pc := 87) o dX3_advance_87 1 rfl ?_
      refine g_goto (pc := 88) o 92 dX3_advance_88 (by decide) ?_
      refine g_istore_n (pc := 92) o dX3_advance_92 (by decide) ?_
      show ca_G Γ 2 _ _ [_, _] _
      exact fin _ (bI_t (Or.inr y2))

