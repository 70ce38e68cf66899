/-! ===== text: the class ===== -/
def sqF (gs : Nat → Nat → Nat) (s : Nat → Int32) : Nat → Nat → Int32
  | 0 => s
  | j + 1 => apI (gs j) (sqF gs s j)
theorem sq_c {gs gs2 : Nat → Nat → Nat} {s : Nat → Int32} : ∀ n, (∀ j, j < n → gs j = gs2 j) → sqF gs s n = sqF gs2 s n
  | 0, _ => rfl
  | n + 1, h => by
    show apI (gs n) (sqF gs s n) = apI (gs2 n) (sqF gs2 s n)
    rw [sq_c n (fun j hj => h j (by omega)), h n (by omega)]
/-- how a text is read -/
def ffP (h0 : Mem) (s0 : Nat → Int32) (res : Nat ⊕ (Nat × (Nat → Int32))) (r : Int32) (h2 : Mem) : Prop := offQ h0 h2 ∧ ((∃ x, res = .inl x ∧ x ≤ 120 ∧ r = nI x) ∨ ∃ k gs, res = .inr (k, sqF gs s0 k) ∧ r = -1 ∧ h2.1 30 3 = nI k ∧ k ≤ 20 ∧ ∀ j, j < k → rowO h2 j (gs j) ∧ itO (sqF gs s0 j) (gs j))
theorem offQ.rf (h : Mem) : offQ h h := fun _ _ _ _ => rfl
theorem offQ.tr {a b c : Mem} (x : offQ a b) (y : offQ b c) : offQ a c := fun k h1 h2 h3 => (y k h1 h2 h3).trans (x k h1 h2 h3)
theorem offR.q {a b : Mem} (x : offR a b) : offQ a b := fun k h1 _ _ => x.1 k h1
theorem RSt.of {h h2 : Mem} {f : Nat → Int32} {n : Nat} {t t2 : Nat × Nat} {m : Nat} {s : Nat → Int32} (S : RSt h f n t m s) (R : RT h2 f n t2) (O : offR h h2) : RSt h2 f n t2 m s := by
  obtain ⟨T, _, f4, f3, f9, f33⟩ := S
  exact ⟨T.of O, R, (O.2 4 (by decide) (by decide) (by decide) (by decide)).trans f4, (O.2 3 (by decide) (by decide) (by decide) (by decide)).trans f3, (O.2 9 (by decide) (by decide) (by decide) (by decide)).trans f9, fun p hp => by rw [O.1 33 (by decide)]; exact f33 p hp⟩
theorem rowO.of {h h2 : Mem} {m : Nat} {g : Nat → Nat} (R : rowO h m g) (e : ∀ j, j < 8 * m + 8 → h2.1 32 j = h.1 32 j) : rowO h2 m g := ⟨fun i hi => by rw [e _ (by omega)]; exact R.1 i hi, fun y i hi => by rw [e _ (by omega)]; exact R.2 y i hi⟩
set_option maxRecDepth 100000 in
set_option maxHeartbeats 800000 in
theorem lp_ffX {Γ : Fr} (o : ca_O Γ cX3_findFault 3 RX3 9 201) {Pr : Option Value → Mem → Prop} (ρ : ca_R Γ (some .int) Pr) {h : Mem} {x : Nat} (hx : x ≤ 120) (e4 : h.1 30 4 = nI x) (hf : Pr (some (.int (nI x))) h) (xi : Int32) : ca_G Γ 3 h 58 [some (.ref 30), some (.ref 6), some (.int xi)] [] := by
  have n4 : ¬ h.1 30 4 = -1 := by rw [e4]; exact nI_ne_m1 (by omega)
  have st94 : ca_G Γ 3 h 94 [some (.ref 30), some (.ref 6), some (.int xi)] [] := by
    refine g_aload_n (pc := 94) o dX3_findFault_94 rfl ?_
    refine g_getI (pc := 95) o 5 rfl rfl rfl inX3 (by decide) lf_X3_52 dX3_findFault_95 ?_
    refine g_if_eq (pc := 98) o 106 dX3_findFault_98 (by decide) (fun c98 => ?_) (fun c98 => ?_)
    · skip
      refine g_aload_n (pc := 106) o dX3_findFault_106 rfl ?_
      refine g_getIE (pc := 107) o 4 rfl rfl rfl inX3 (by decide) lf_X3_40 (e4) dX3_findFault_107 ?_
      exact g_iret o ρ dX3_findFault_110 hf
    · skip
      refine g_aload_n (pc := 101) o dX3_findFault_101 rfl ?_
      refine g_callVi (pc := 102) o (c_refuseX n4) mt_X3_refuse mv_X3_refuse lk_X3_55 rfl rfl rfl (by decide) rfl (Nat.le_of_ble_eq_true rfl) dX3_findFault_102 ?_
      refine g_pop (pc := 105) o dX3_findFault_105 rfl ?_
      refine g_aload_n (pc := 106) o dX3_findFault_106 rfl ?_
      refine g_getIE (pc := 107) o 4 rfl rfl rfl inX3 (by decide) lf_X3_40 (e4) dX3_findFault_107 ?_
      exact g_iret o ρ dX3_findFault_110 hf
  refine g_iload_n (pc := 58) o dX3_findFault_58 rfl ?_
  refine g_bipush (pc := 59) o dX3_findFault_59 20 rfl ?_
  refine g_ic_ge (pc := 61) o 94 dX3_findFault_61 (by decide) (fun c61 => ?_) (fun c61 => ?_)
  · skip
    exact st94
  · skip
    refine g_aload_n (pc := 64) o dX3_findFault_64 rfl ?_
    refine g_getIE (pc := 65) o 4 rfl rfl rfl inX3 (by decide) lf_X3_40 (e4) dX3_findFault_65 ?_
    refine g_iconst (pc := 68) o dX3_findFault_68 (-1) rfl ?_
    refine g_ic_ne (pc := 69) o 94 dX3_findFault_69 (by decide) (fun c69 => ?_) (fun c69 => ?_)
    · skip
      exact st94
    · skip
      exact absurd c69 (nI_ne_m1 (by omega))
set_option maxRecDepth 100000 in
set_option maxHeartbeats 800000 in
theorem lp_ff {Γ : Fr} (o : ca_O Γ cX3_findFault 3 RX3 9 201) {Pr : Option Value → Mem → Prop} (ρ : ca_R Γ (some .int) Pr) {h0 : Mem} {s0 : Nat → Int32} {f : Nat → Int32} {n : Nat} (res : Nat ⊕ (Nat × (Nat → Int32))) (hp : ∀ r h, ffP h0 s0 res r h → Pr (some (.int r)) h) : ∀ (fuel i : Nat) (xi : Int32) (h : Mem) (t : Nat × Nat) (s : Nat → Int32) (gs : Nat → Nat → Nat), xi = nI i → RSt h f n t i s → tkR f n t → 7 * i ≤ t.1 + 1 → n - t.1 < fuel → sqF gs s0 i = s → SI s → (∀ j, j < i → rowO h j (gs j) ∧ itO (sqF gs s0 j) (gs j)) → offQ h0 h → res = (if srF f n t.1 = 0 then .inr (i, s) else if srF f n t.1 = 3 then pText f n fuel (nxF f n t) s i else .inl t.1) → ca_G Γ 3 h 58 [some (.ref 30), some (.ref 6), some (.int xi)] [] := by
  intro fuel
  induction fuel with
  | zero => intro i xi h t s gs _ _ _ _ hf; omega
  | succ k ih =>
    rintro i xi h t s gs rfl S ok h7 hf es I rows Q er
    have S2 := S
    obtain ⟨T, R, f4, f3, f9, f33⟩ := S
    have l120 := T.2.1
    have s4 := sr_4 f n t.1
    have tl : t.1 ≤ 120 := by have := ok.1; omega
    have i17 : i ≤ 17 := by omega
    have st94 : ¬ srF f n t.1 = 3 → ca_G Γ 3 h 94 [some (.ref 30), some (.ref 6), some (.int (nI i))] [] := by
      intro n3
      refine g_aload_n (pc := 94) o dX3_findFault_94 rfl ?_
      refine g_getIE (pc := 95) o 5 rfl rfl rfl inX3 (by decide) lf_X3_52 (R.1) dX3_findFault_95 ?_
      refine g_if_eq (pc := 98) o 106 dX3_findFault_98 (by decide) (fun c98 => ?_) (fun c98 => ?_)
      · skip
        have z := (nI_eq (a := srF f n t.1) (b := 0) (by omega) (by decide)).mp c98
        rw [if_pos z] at er
        refine g_aload_n (pc := 106) o dX3_findFault_106 rfl ?_
        refine g_getIE (pc := 107) o 4 rfl rfl rfl inX3 (by decide) lf_X3_40 (f4) dX3_findFault_107 ?_
        exact g_iret o ρ dX3_findFault_110 (hp _ h ⟨Q, Or.inr ⟨i, gs, by rw [er, es], rfl, f3, by omega, rows⟩⟩)
      · skip
        have z : ¬ srF f n t.1 = 0 := fun y => c98 (by rw [y]; rfl)
        rw [if_neg z, if_neg n3] at er
        refine g_aload_n (pc := 101) o dX3_findFault_101 rfl ?_
        refine g_callVi (pc := 102) o (c_refuse R.2.1 f4) mt_X3_refuse mv_X3_refuse lk_X3_55 rfl rfl rfl (by decide) rfl (Nat.le_of_ble_eq_true rfl) dX3_findFault_102 ?_
        refine g_pop (pc := 105) o dX3_findFault_105 rfl ?_
        refine g_aload_n (pc := 106) o dX3_findFault_106 rfl ?_
        refine g_getI (pc := 107) o 4 rfl rfl rfl inX3 (by decide) lf_X3_40 dX3_findFault_107 ?_
        exact g_iret o ρ dX3_findFault_110 (hp _ _ ⟨fun c h1 h2 h3 => (mw_ne _ _ _ h1).trans (Q c h1 h2 h3), Or.inl ⟨t.1, er, tl, rfl⟩⟩)
    refine g_iload_n (pc := 58) o dX3_findFault_58 rfl ?_
    refine g_bipush (pc := 59) o dX3_findFault_59 20 rfl ?_
    refine g_ic_ge (pc := 61) o 94 dX3_findFault_61 (by decide) (fun c61 => ?_) (fun c61 => ?_)
    · skip
      have := (nI_leI (a := 20) (b := i) (by decide) (by omega)).mp c61
      omega
    · skip
      refine g_aload_n (pc := 64) o dX3_findFault_64 rfl ?_
      refine g_getIE (pc := 65) o 4 rfl rfl rfl inX3 (by decide) lf_X3_40 (f4) dX3_findFault_65 ?_
      refine g_iconst (pc := 68) o dX3_findFault_68 (-1) rfl ?_
      refine g_ic_ne (pc := 69) o 94 dX3_findFault_69 (by decide) (fun c69 => ?_) (fun c69 => ?_)
      · skip
        exact absurd rfl c69
      · skip
        refine g_aload_n (pc := 72) o dX3_findFault_72 rfl ?_
        refine g_getIE (pc := 73) o 5 rfl rfl rfl inX3 (by decide) lf_X3_52 (R.1) dX3_findFault_73 ?_
        refine g_iconst (pc := 76) o dX3_findFault_76 3 rfl ?_
        refine g_ic_ne (pc := 77) o 94 dX3_findFault_77 (by decide) (fun c77 => ?_) (fun c77 => ?_)
        · skip
          exact st94 (fun y => c77 (by rw [y]; rfl))
        · skip
          have n3 := (nI_eq (a := srF f n t.1) (b := 3) (by omega) (by decide)).mp c77
          rw [if_neg (by omega), if_pos n3] at er
          have tn := sr_pos (f := f) (n := n) (b := t.1) (by rw [n3]; decide)
          have te := (te_le (f := f) (n := n) (b := t.1) (by omega)).2.2 tn
          rw [← ok.2] at te
          have ok1 := nx_R ok
          have o1 := nx_ok (f := f) ok.1
          have er : res = match pItem f n s (nxF f n t) with | .inl x => .inl x | .inr y => if srF f n y.1.1 = 0 then .inr (i + 1, apI y.2 s) else if srF f n y.1.1 = 3 then pText f n k (nxF f n y.1) (apI y.2 s) (i + 1) else .inl y.1.1 := er
          refine g_aload_n (pc := 80) o dX3_findFault_80 rfl ?_
          refine g_callVQv (pc := 81) o (c_advance T t.2 ok.1.2 R.2.2.1) mt_X3_advance mv_X3_advance lk_X3_46 rfl rfl rfl (by decide) rfl (Nat.le_of_ble_eq_true rfl) dX3_findFault_81 ?_
          rintro h1 w
          obtain ⟨R1, O1⟩ := w
          have R1 : RT h1 f n (nxF f n t) := R1
          have S1 := S2.of R1 O1
          refine g_aload_n (pc := 84) o dX3_findFault_84 rfl ?_
          refine g_callVQv (pc := 85) o (c_readItem S1 ok1 (by omega) I.terms.1) mt_X3_readItem mv_X3_readItem lk_X3_49 rfl rfl rfl (by decide) rfl (Nat.le_of_ble_eq_true rfl) dX3_findFault_85 ?_
          rintro h2 u
          obtain ⟨Q2, u⟩ := u
          have Q3 : offQ h0 h2 := Q.tr (O1.q.tr Q2)
          rcases u with ⟨x, hx, e, e4⟩ | ⟨y, e, S3, rw3, old⟩
          · rw [e] at er
            simp only at er
            refine g_iinc (pc := 88) o dX3_findFault_88 rfl 1 rfl (by decide) ?_
            show ca_G Γ 3 _ _ [_, _, _] _
            refine g_goto (pc := 91) o 58 dX3_findFault_91 (by decide) ?_
            exact lp_ffX o ρ hx e4 (hp _ h2 ⟨Q3, Or.inl ⟨x, er, hx, rfl⟩⟩) _
          · have io := item_ok ok1 e
            rw [e] at er
            simp only at er
            have q1 : sqF (fun j => if j < i then gs j else y.2) s0 i = s := by rw [← es]; exact sq_c i (fun j hj => if_pos hj)
            refine g_iinc (pc := 88) o dX3_findFault_88 rfl 1 rfl (by decide) ?_
            show ca_G Γ 3 _ _ [_, _, _] _
            refine g_goto (pc := 91) o 58 dX3_findFault_91 (by decide) ?_
            refine ih (i + 1) _ h2 y.1 (apI y.2 s) (fun j => if j < i then gs j else y.2) (nI_1 i) S3 io.2.1 (by omega) (by omega) ?_ (SI_ap I io.2.2) (fun j hj => ?_) Q3 er
            · show apI (if i < i then gs i else y.2) (sqF (fun j => if j < i then gs j else y.2) s0 i) = apI y.2 s
              rw [if_neg (Nat.lt_irrefl i), q1]
            · show rowO h2 j (if j < i then gs j else y.2) ∧ itO (sqF (fun j => if j < i then gs j else y.2) s0 j) (if j < i then gs j else y.2)
              by_cases z : j < i
              · rw [if_pos z, sq_c (gs2 := gs) j (fun u hu => if_pos (by omega))]
                refine ⟨(rows j z).1.of (fun v hv => ?_), (rows j z).2⟩
                rw [old v (by omega), O1.1 32 (by decide)]
              · obtain rfl : j = i := by omega
                rw [if_neg z, q1]
                exact ⟨rw3, io.2.2⟩
set_option maxRecDepth 100000 in
set_option maxHeartbeats 400000 in
theorem lp_ff0 {Γ : Fr} (o : ca_O Γ cX3_findFault 3 RX3 9 201) {h0 : Mem} {s : Nat → Int32} (B : BR h0 1 s) (ok : okT s) (kk : ∀ (h : Mem) (v2 : Option Value), (∀ p, p < 6 → h.1 33 p = nI (cntP s (nI p) (nT s))) → (∀ c, c ≠ 33 → h.1 c = h0.1 c) → ca_G Γ 3 h 33 [some (.ref 30), some (.ref 6), v2] []) : ∀ p, p ≤ 6 → ∀ (xp : Int32) (h : Mem), xp = nI p → (∀ j, j < p → h.1 33 j = nI (cntP s (nI j) (nT s))) → (∀ c, c ≠ 33 → h.1 c = h0.1 c) → ca_G Γ 3 h 10 [some (.ref 30), some (.ref 6), some (.int xp)] [] := by
  refine downI 6 (fun p hp ih => ?_)
  rintro xp h rfl e1 e2
  have B2 : BR h 1 s := B.of (fun c hc => e2 c (fun z => by subst z; revert hc; decide))
  refine g_iload_n (pc := 10) o dX3_findFault_10 rfl ?_
  refine g_bipush (pc := 11) o dX3_findFault_11 6 rfl ?_
  refine g_ic_ge (pc := 13) o 33 dX3_findFault_13 (by decide) (fun c13 => ?_) (fun c13 => ?_)
  · skip
    have q : p = 6 := ge8 (n := 6) (by decide) (by omega) c13
    subst q
    exact kk h _ e1 e2
  · skip
    have q : p < 6 := lt8 (n := 6) (by decide) (by omega) c13
    refine g_aload_n (pc := 16) o dX3_findFault_16 rfl ?_
    refine g_getR (pc := 17) o 10 rfl rfl rfl inX3 (by decide) lf_X3_18 dX3_findFault_17 ?_
    refine g_iload_n (pc := 20) o dX3_findFault_20 rfl ?_
    refine g_aload_n (pc := 21) o dX3_findFault_21 rfl ?_
    refine g_iload_n (pc := 22) o dX3_findFault_22 rfl ?_
    refine g_callVi (pc := 23) o (c_howManyOf B2 ok (nI p)) mt_X7_howManyOf mv_X7_howManyOf lk_X3_36 rfl rfl rfl (by decide) rfl (Nat.le_of_ble_eq_true rfl) dX3_findFault_23 ?_
    refine n_iast (pc := 26) o p (rfl) rfl ((by omega)) (by decide) dX3_findFault_26 ?_
    refine g_iinc (pc := 27) o dX3_findFault_27 rfl 1 rfl (by decide) ?_
    show ca_G Γ 3 _ _ [_, _, _] _
    refine g_goto (pc := 30) o 10 dX3_findFault_30 (by decide) ?_
    refine ih q _ _ (nI_1 p) (fun j hj => ?_) (fun c hc => (mw_ne _ _ _ hc).trans (e2 c hc))
    rw [mw_same]
    unfold upd
    by_cases w : j = p
    · rw [if_pos w, w]
    · rw [if_neg w]; exact e1 j (by omega)
set_option maxRecDepth 100000 in
set_option maxHeartbeats 400000 in
theorem c_findFault {h : Mem} {s : Nat → Int32} (B : BR h 1 s) (I : SI s) {f : Nat → Int32} {n : Nat} (T : TP h f n) : Ct yX3_findFault cX3_findFault 3 (some .int) 9 201 [.ref 30, .ref 6] h (Qi (ffP h s (pText f n 121 (tkF f n 0) s 0))) := by
  refine Ct.of (by decide) (Nat.le_of_ble_eq_true rfl) (fun Γ o ρ => ?_)
  show ca_G Γ 3 _ _ [_, _, _] _
  have ok := I.terms
  have l120 := T.2.1
  have cs := c_tsize B
  rw [ok.2.1] at cs
  have B1 : BR (mw h 30 9 (nI (nT s))) 1 s := B.of (fun c hc => mw_ne _ _ _ (fun z => by subst z; revert hc; decide))
  refine g_aload_n (pc := 0) o dX3_findFault_0 rfl ?_
  refine g_aload_n (pc := 1) o dX3_findFault_1 rfl ?_
  refine g_callVi (pc := 2) o (cs) mt_X7_size mv_X7_size lk_X3_28 rfl rfl rfl (by decide) rfl (Nat.le_of_ble_eq_true rfl) dX3_findFault_2 ?_
  refine g_put (pc := 5) o 9 rfl rfl rfl inX3 tyX3_ok nmX3 (by decide) lf_X3_33 rfl rfl rfl dX3_findFault_5 ?_
  refine g_iconst (pc := 8) o dX3_findFault_8 0 rfl ?_
  refine g_istore_n (pc := 9) o dX3_findFault_9 (by decide) ?_
  show ca_G Γ 3 _ _ [_, _, _] _
  refine lp_ff0 o (h0 := mw h 30 9 (nI (nT s))) B1 ok (fun h1 v2 a1 a2 => ?_) 0 (by omega) _ _ rfl (fun j hj => by omega) (fun c _ => rfl)
  have e30 : h1.1 30 = upd (h.1 30) 9 (nI (nT s)) := (a2 30 (by decide)).trans (mw_same _ _ _ _)
  have T1 : TP (mw (mw (mw h1 30 4 (-1)) 30 3 0) 30 7 0) f n := by
    refine ⟨?_, l120, fun j hj => ?_⟩
    · show h1.1 30 1 = nI n
      rw [e30]
      exact T.1
    · show h1.1 31 j = f j
      rw [a2 31 (by decide)]
      exact T.2.2 j hj
  have e9 : h1.1 30 9 = nI (nT s) := by rw [e30]; rfl
  refine g_aload_n (pc := 33) o dX3_findFault_33 rfl ?_
  refine g_iconst (pc := 34) o dX3_findFault_34 (-1) rfl ?_
  refine g_put (pc := 35) o 4 rfl rfl rfl inX3 tyX3_ok nmX3 (by decide) lf_X3_40 rfl rfl rfl dX3_findFault_35 ?_
  refine g_aload_n (pc := 38) o dX3_findFault_38 rfl ?_
  refine g_iconst (pc := 39) o dX3_findFault_39 0 rfl ?_
  refine g_put (pc := 40) o 3 rfl rfl rfl inX3 tyX3_ok nmX3 (by decide) lf_X3_25 rfl rfl rfl dX3_findFault_40 ?_
  refine g_aload_n (pc := 43) o dX3_findFault_43 rfl ?_
  refine g_iconst (pc := 44) o dX3_findFault_44 0 rfl ?_
  refine g_put (pc := 45) o 7 rfl rfl rfl inX3 tyX3_ok nmX3 (by decide) lf_X3_43 rfl rfl rfl dX3_findFault_45 ?_
  refine g_aload_n (pc := 48) o dX3_findFault_48 rfl ?_
  refine g_callVQv (pc := 49) o (c_advance (h := mw (mw (mw h1 30 4 (-1)) 30 3 0) 30 7 0) T1 0 (Nat.zero_le n) rfl) mt_X3_advance mv_X3_advance lk_X3_46 rfl rfl rfl (by decide) rfl (Nat.le_of_ble_eq_true rfl) dX3_findFault_49 ?_
  rintro h2 w
  obtain ⟨R2, O2⟩ := w
  have ok2 := tk_R (f := f) (n := n) (i := 0) (Nat.zero_le n)
  have S2 : RSt h2 f n (tkF f n 0) 0 s := ⟨T1.of O2, R2, (O2.2 4 (by decide) (by decide) (by decide) (by decide)).trans rfl, (O2.2 3 (by decide) (by decide) (by decide) (by decide)).trans rfl, (O2.2 9 (by decide) (by decide) (by decide) (by decide)).trans e9, fun p hp => by rw [O2.1 33 (by decide)]; exact a1 p hp⟩
  have Q1 : offQ h h2 := fun c h1' h2' h3' => by
    rw [O2.1 c h1', mw_ne _ _ _ h1', mw_ne _ _ _ h1', mw_ne _ _ _ h1', a2 c h3', mw_ne _ _ _ h1']
  have er : pText f n 121 (tkF f n 0) s 0 = match pItem f n s (tkF f n 0) with | .inl x => .inl x | .inr y => if srF f n y.1.1 = 0 then .inr (0 + 1, apI y.2 s) else if srF f n y.1.1 = 3 then pText f n 120 (nxF f n y.1) (apI y.2 s) (0 + 1) else .inl y.1.1 := rfl
  refine g_aload_n (pc := 52) o dX3_findFault_52 rfl ?_
  refine g_callVQv (pc := 53) o (c_readItem S2 ok2 (by decide) ok.1) mt_X3_readItem mv_X3_readItem lk_X3_49 rfl rfl rfl (by decide) rfl (Nat.le_of_ble_eq_true rfl) dX3_findFault_53 ?_
  rintro h3 u
  obtain ⟨Q2, u⟩ := u
  have Q3 : offQ h h3 := Q1.tr Q2
  rcases u with ⟨x, hx, e, e4⟩ | ⟨y, e, S3, rw3, old⟩
  · rw [e] at er
    simp only at er
    refine g_iconst (pc := 56) o dX3_findFault_56 1 rfl ?_
    refine g_istore_n (pc := 57) o dX3_findFault_57 (by decide) ?_
    show ca_G Γ 3 _ _ [_, _, _] _
    exact lp_ffX o ρ hx e4 ⟨_, rfl, Q3, Or.inl ⟨x, er, hx, rfl⟩⟩ _
  · have io := item_ok ok2 e
    rw [e] at er
    simp only at er
    refine g_iconst (pc := 56) o dX3_findFault_56 1 rfl ?_
    refine g_istore_n (pc := 57) o dX3_findFault_57 (by decide) ?_
    show ca_G Γ 3 _ _ [_, _, _] _
    refine lp_ff o ρ (h0 := h) (s0 := s) (pText f n 121 (tkF f n 0) s 0) (fun r h4 z => ⟨_, rfl, z⟩) 120 1 _ h3 y.1 (apI y.2 s) (fun _ => y.2) rfl S3 io.2.1 (by omega) (by omega) rfl (SI_ap I io.2.2) (fun j hj => ?_) Q3 er
    obtain rfl : j = 0 := by omega
    exact ⟨rw3, io.2.2⟩
set_option maxRecDepth 100000 in
set_option maxHeartbeats 400000 in
theorem c_item {h : Mem} (j w : Nat) (hj : j < 20) (hw : w < 8) (v : Int32) (e : h.1 32 (8 * j + w) = v) : Ct yX3_item cX3_item 3 (some .int) 0 0 [.ref 30, .int (nI j), .int (nI w)] h (Ei v h) := by
  refine Ct.of (by decide) (Nat.le_of_ble_eq_true rfl) (fun Γ o ρ => ?_)
  show ca_G Γ 3 _ _ [_, _, _] _
  refine g_aload_n (pc := 0) o dX3_item_0 rfl ?_
  refine g_getR (pc := 1) o 2 rfl rfl rfl inX3 (by decide) lf_X3_15 dX3_item_1 ?_
  refine g_iload_n (pc := 4) o dX3_item_4 rfl ?_
  refine g_bipush (pc := 5) o dX3_item_5 8 rfl ?_
  refine g_imul (pc := 7) o dX3_item_7 ?_
  refine g_iload_n (pc := 8) o dX3_item_8 rfl ?_
  refine g_iadd (pc := 9) o dX3_item_9 ?_
  refine n_ialdE (pc := 10) o (8 * j + w) (ix8 j w) rfl ((by omega)) (by decide) (e) dX3_item_10 ?_
  exact g_iret o ρ dX3_item_11 (Ei.mk rfl rfl)
set_option maxRecDepth 100000 in
set_option maxHeartbeats 400000 in
theorem c_itemCount {h : Mem} (v : Int32) (e : h.1 30 3 = v) : Ct yX3_itemCount cX3_itemCount 1 (some .int) 0 0 [.ref 30] h (Ei v h) := by
  refine Ct.of (by decide) (Nat.le_of_ble_eq_true rfl) (fun Γ o ρ => ?_)
  show ca_G Γ 1 _ _ [_] _
  refine g_aload_n (pc := 0) o dX3_itemCount_0 rfl ?_
  refine g_getIE (pc := 1) o 3 rfl rfl rfl inX3 (by decide) lf_X3_25 (e) dX3_itemCount_1 ?_
  exact g_iret o ρ dX3_itemCount_4 (Ei.mk rfl rfl)
theorem nt_c {s : Nat → Int32} {n : Nat} {g g2 : Nat → Int32} (h : ∀ w, w < 7 → g w = g2 w) : ntS s n g = ntS s n g2 := by
  funext j
  unfold ntS
  by_cases h1 : j = 189
  · rw [if_pos h1, if_pos h1]
  · rw [if_neg h1, if_neg h1]
    by_cases h2 : 190 + 7 * n ≤ j ∧ j < 197 + 7 * n
    · rw [if_pos h2, if_pos h2, h _ (by omega)]
    · rw [if_neg h2, if_neg h2]
theorem tm_nt (s : Nat → Int32) (n : Nat) (g : Nat → Nat) : setS (setS (newS s n (nI (g 3)) (nI (g 1)) (nI (g 2))) n 3 (nI (g 4)) (nI (g 5))) n 5 (nI (g 6)) (nI (g 7)) = ntS s n (tgF g) := by
  rw [new_nt, set_nt _ _ _ _ (by decide), set_nt _ _ _ _ (by decide)]
  refine nt_c (fun w hw => ?_)
  rcases (by omega : w = 0 ∨ w = 1 ∨ w = 2 ∨ w = 3 ∨ w = 4 ∨ w = 5 ∨ w = 6) with rfl | rfl | rfl | rfl | rfl | rfl | rfl <;> rfl
set_option maxRecDepth 100000 in
set_option maxHeartbeats 400000 in
theorem c_addTermOf {h : Mem} {σ : Sg} (C : CR h σ) (I : SI (σ 0)) (j : Nat) (hj : j < 20) (g : Nat → Nat) (R : ∀ i, i < 8 → h.1 32 (8 * j + i) = nI (g i)) (n12 : nT (σ 0) < 12) : Ct yX9_addTermOf cX9_addTermOf 5 none 2 47 [.ref 0, .int (nI j), .int (nI (g 1)), .int (nI (g 2))] h (Ev (setM (setM (newM h (nT (σ 0)) (nI (g 3)) (nI (g 1)) (nI (g 2))) (nT (σ 0)) 3 (nI (g 4)) (nI (g 5))) (nT (σ 0)) 5 (nI (g 6)) (nI (g 7)))) := by
  refine Ct.of (by decide) (Nat.le_of_ble_eq_true rfl) (fun Γ o ρ => ?_)
  show ca_G Γ 5 _ _ [_, _, _, _, _] _
  have ok := I.terms
  refine g_aload_n (pc := 0) o dX9_addTermOf_0 rfl ?_
  refine g_getR (pc := 1) o 0 rfl rfl rfl inX9 (by decide) lf_X9_10 dX9_addTermOf_1 ?_
  refine g_getR (pc := 4) o 2 rfl rfl rfl inX0 (by decide) lf_X9_137 dX9_addTermOf_4 ?_
  refine g_aload_n (pc := 7) o dX9_addTermOf_7 rfl ?_
  refine g_getR (pc := 8) o 4 rfl rfl rfl inX9 (by decide) lf_X9_26 dX9_addTermOf_8 ?_
  refine g_iload_n (pc := 11) o dX9_addTermOf_11 rfl ?_
  refine g_iconst (pc := 12) o dX9_addTermOf_12 3 rfl ?_
  refine g_callVi (pc := 13) o (c_item j 3 hj (by decide) (nI (g 3)) (R 3 (by decide))) mt_X3_item mv_X3_item lk_X9_367 rfl rfl rfl (by decide) rfl (Nat.le_of_ble_eq_true rfl) dX9_addTermOf_13 ?_
  refine g_iload_n (pc := 16) o dX9_addTermOf_16 rfl ?_
  refine g_iload_n (pc := 17) o dX9_addTermOf_17 rfl ?_
  refine g_callVi (pc := 18) o (c_tadd C.1 n12 ok.2.1 (nI (g 3)) (nI (g 1)) (nI (g 2))) mt_X7_add mv_X7_add lk_X9_144 rfl rfl rfl (by decide) rfl (Nat.le_of_ble_eq_true rfl) dX9_addTermOf_18 ?_
  refine g_istore (pc := 21) o dX9_addTermOf_21 (by decide) ?_
  show ca_G Γ 5 _ _ [_, _, _, _, _] _
  refine g_aload_n (pc := 23) o dX9_addTermOf_23 rfl ?_
  refine g_getR (pc := 24) o 0 rfl rfl rfl inX9 (by decide) lf_X9_10 dX9_addTermOf_24 ?_
  refine g_getR (pc := 27) o 2 rfl rfl rfl inX0 (by decide) lf_X9_137 dX9_addTermOf_27 ?_
  refine g_iload (pc := 30) o dX9_addTermOf_30 rfl ?_
  refine g_aload_n (pc := 32) o dX9_addTermOf_32 rfl ?_
  refine g_getR (pc := 33) o 4 rfl rfl rfl inX9 (by decide) lf_X9_26 dX9_addTermOf_33 ?_
  refine g_iload_n (pc := 36) o dX9_addTermOf_36 rfl ?_
  refine g_iconst (pc := 37) o dX9_addTermOf_37 4 rfl ?_
  refine g_callVi (pc := 38) o (c_item (h := newM h (nT (σ 0)) (nI (g 3)) (nI (g 1)) (nI (g 2))) j 4 hj (by decide) (nI (g 4)) (R 4 (by decide))) mt_X3_item mv_X3_item lk_X9_367 rfl rfl rfl (by decide) rfl (Nat.le_of_ble_eq_true rfl) dX9_addTermOf_38 ?_
  refine g_aload_n (pc := 41) o dX9_addTermOf_41 rfl ?_
  refine g_getR (pc := 42) o 4 rfl rfl rfl inX9 (by decide) lf_X9_26 dX9_addTermOf_42 ?_
  refine g_iload_n (pc := 45) o dX9_addTermOf_45 rfl ?_
  refine g_iconst (pc := 46) o dX9_addTermOf_46 5 rfl ?_
  refine g_callVi (pc := 47) o (c_item (h := newM h (nT (σ 0)) (nI (g 3)) (nI (g 1)) (nI (g 2))) j 5 hj (by decide) (nI (g 5)) (R 5 (by decide))) mt_X3_item mv_X3_item lk_X9_367 rfl rfl rfl (by decide) rfl (Nat.le_of_ble_eq_true rfl) dX9_addTermOf_47 ?_
  refine g_callVv (pc := 50) o (c_setHours (h := newM h (nT (σ 0)) (nI (g 3)) (nI (g 1)) (nI (g 2))) (nT (σ 0)) n12 (nI (g 4)) (nI (g 5))) mt_X7_setHours mv_X7_setHours lk_X9_153 rfl rfl rfl (by decide) rfl (Nat.le_of_ble_eq_true rfl) dX9_addTermOf_50 ?_
  refine g_aload_n (pc := 53) o dX9_addTermOf_53 rfl ?_
  refine g_getR (pc := 54) o 0 rfl rfl rfl inX9 (by decide) lf_X9_10 dX9_addTermOf_54 ?_
  refine g_getR (pc := 57) o 2 rfl rfl rfl inX0 (by decide) lf_X9_137 dX9_addTermOf_57 ?_
  refine g_iload (pc := 60) o dX9_addTermOf_60 rfl ?_
  refine g_aload_n (pc := 62) o dX9_addTermOf_62 rfl ?_
  refine g_getR (pc := 63) o 4 rfl rfl rfl inX9 (by decide) lf_X9_26 dX9_addTermOf_63 ?_
  refine g_iload_n (pc := 66) o dX9_addTermOf_66 rfl ?_
  refine g_bipush (pc := 67) o dX9_addTermOf_67 6 rfl ?_
  refine g_callVi (pc := 69) o (c_item (h := setM (newM h (nT (σ 0)) (nI (g 3)) (nI (g 1)) (nI (g 2))) (nT (σ 0)) 3 (nI (g 4)) (nI (g 5))) j 6 hj (by decide) (nI (g 6)) (R 6 (by decide))) mt_X3_item mv_X3_item lk_X9_367 rfl rfl rfl (by decide) rfl (Nat.le_of_ble_eq_true rfl) dX9_addTermOf_69 ?_
  refine g_aload_n (pc := 72) o dX9_addTermOf_72 rfl ?_
  refine g_getR (pc := 73) o 4 rfl rfl rfl inX9 (by decide) lf_X9_26 dX9_addTermOf_73 ?_
  refine g_iload_n (pc := 76) o dX9_addTermOf_76 rfl ?_
  refine g_bipush (pc := 77) o dX9_addTermOf_77 7 rfl ?_
  refine g_callVi (pc := 79) o (c_item (h := setM (newM h (nT (σ 0)) (nI (g 3)) (nI (g 1)) (nI (g 2))) (nT (σ 0)) 3 (nI (g 4)) (nI (g 5))) j 7 hj (by decide) (nI (g 7)) (R 7 (by decide))) mt_X3_item mv_X3_item lk_X9_367 rfl rfl rfl (by decide) rfl (Nat.le_of_ble_eq_true rfl) dX9_addTermOf_79 ?_
  refine g_callVv (pc := 82) o (c_setDays (h := setM (newM h (nT (σ 0)) (nI (g 3)) (nI (g 1)) (nI (g 2))) (nT (σ 0)) 3 (nI (g 4)) (nI (g 5))) (nT (σ 0)) n12 (nI (g 6)) (nI (g 7))) mt_X7_setDays mv_X7_setDays lk_X9_157 rfl rfl rfl (by decide) rfl (Nat.le_of_ble_eq_true rfl) dX9_addTermOf_82 ?_
  exact g_vret o ρ dX9_addTermOf_85 ⟨rfl, rfl⟩
set_option maxRecDepth 100000 in
set_option maxHeartbeats 400000 in
theorem c_carry {h : Mem} {σ : Sg} (C : CR h σ) (I : SI (σ 0)) (j : Nat) (hj : j < 20) (g : Nat → Nat) (R : rowO h j g) (ig : itO (σ 0) g) : Ct yX9_carryOut cX9_carryOut 4 none 3 71 [.ref 0, .int (nI j)] h (Qv (fun h2 => CR h2 (sf σ 0 (apI g (σ 0))) ∧ kM h h2 ∧ h2.1 32 = h.1 32 ∧ h2.1 30 = h.1 30)) := by
  refine Ct.of (by decide) (Nat.le_of_ble_eq_true rfl) (fun Γ o ρ => ?_)
  show ca_G Γ 4 _ _ [_, _, _, _] _
  refine g_aload_n (pc := 0) o dX9_carryOut_0 rfl ?_
  refine g_getR (pc := 1) o 4 rfl rfl rfl inX9 (by decide) lf_X9_26 dX9_carryOut_1 ?_
  refine g_iload_n (pc := 4) o dX9_carryOut_4 rfl ?_
  refine g_iconst (pc := 5) o dX9_carryOut_5 1 rfl ?_
  refine g_callVi (pc := 6) o (c_item j 1 hj (by decide) (nI (g 1)) (R.1 1 (by decide))) mt_X3_item mv_X3_item lk_X9_367 rfl rfl rfl (by decide) rfl (Nat.le_of_ble_eq_true rfl) dX9_carryOut_6 ?_
  refine g_istore_n (pc := 9) o dX9_carryOut_9 (by decide) ?_
  show ca_G Γ 4 _ _ [_, _, _, _] _
  refine g_aload_n (pc := 10) o dX9_carryOut_10 rfl ?_
  refine g_getR (pc := 11) o 4 rfl rfl rfl inX9 (by decide) lf_X9_26 dX9_carryOut_11 ?_
  refine g_iload_n (pc := 14) o dX9_carryOut_14 rfl ?_
  refine g_iconst (pc := 15) o dX9_carryOut_15 2 rfl ?_
  refine g_callVi (pc := 16) o (c_item j 2 hj (by decide) (nI (g 2)) (R.1 2 (by decide))) mt_X3_item mv_X3_item lk_X9_367 rfl rfl rfl (by decide) rfl (Nat.le_of_ble_eq_true rfl) dX9_carryOut_16 ?_
  refine g_istore_n (pc := 19) o dX9_carryOut_19 (by decide) ?_
  show ca_G Γ 4 _ _ [_, _, _, _] _
  refine g_aload_n (pc := 20) o dX9_carryOut_20 rfl ?_
  refine g_getR (pc := 21) o 4 rfl rfl rfl inX9 (by decide) lf_X9_26 dX9_carryOut_21 ?_
  refine g_iload_n (pc := 24) o dX9_carryOut_24 rfl ?_
  refine g_iconst (pc := 25) o dX9_carryOut_25 0 rfl ?_
  refine g_callVi (pc := 26) o (c_item j 0 hj (by decide) (nI (g 0)) (R.1 0 (by decide))) mt_X3_item mv_X3_item lk_X9_367 rfl rfl rfl (by decide) rfl (Nat.le_of_ble_eq_true rfl) dX9_carryOut_26 ?_
  rcases ig with ⟨e, h1, h2, h3⟩ | ⟨e, h1, h2⟩ | ⟨e, h1, h2, h3, h4, h5, h6, h7, h8, h9⟩
  · rw [e]
    have ap : apI g (σ 0) = rdS (σ 0) (g 1) (g 2) 1 := if_pos e
    refine g_look (pc := 29) (off := 27) o 56 dX9_carryOut_29 (by decide) (by decide) (by decide) ?_
    have cj := c_join C.1 (g 1) (g 2) 1 h1 h2 (fun y => h3 y.symm)
    refine g_aload_n (pc := 56) o dX9_carryOut_56 rfl ?_
    refine g_getR (pc := 57) o 0 rfl rfl rfl inX9 (by decide) lf_X9_10 dX9_carryOut_57 ?_
    refine g_getR (pc := 60) o 0 rfl rfl rfl inX0 (by decide) lf_X9_62 dX9_carryOut_60 ?_
    refine g_iload_n (pc := 63) o dX9_carryOut_63 rfl ?_
    refine g_iload_n (pc := 64) o dX9_carryOut_64 rfl ?_
    refine g_iconst (pc := 65) o dX9_carryOut_65 1 rfl ?_
    refine g_callVv (pc := 66) o (cj) mt_X2_join mv_X2_join lk_X9_72 rfl rfl rfl (by decide) rfl (Nat.le_of_ble_eq_true rfl) dX9_carryOut_66 ?_
    refine g_goto (pc := 69) o 94 dX9_carryOut_69 (by decide) ?_
    exact g_vret o ρ dX9_carryOut_94 ⟨rfl, by rw [ap]; exact CR_s C (BR_rd C.1 h1 h2 1) (fun k _ hk2 => by rw [mw_ne _ _ _ (fun z => by subst z; revert hk2; decide), mw_ne _ _ _ (fun z => by subst z; revert hk2; decide)]), fun c hc => by rw [mw_ne _ _ _ (by omega), mw_ne _ _ _ (by omega)], rfl, rfl⟩
  · rw [e]
    have ap : apI g (σ 0) = upd (σ 0) (325 + g 1) (nI (g 2)) := by unfold apI; rw [if_neg (by omega), if_pos e]
    refine g_look (pc := 29) (off := 43) o 72 dX9_carryOut_29 (by decide) (by decide) (by decide) ?_
    refine g_aload_n (pc := 72) o dX9_carryOut_72 rfl ?_
    refine g_getR (pc := 73) o 0 rfl rfl rfl inX9 (by decide) lf_X9_10 dX9_carryOut_73 ?_
    refine g_getR (pc := 76) o 3 rfl rfl rfl inX0 (by decide) lf_X9_224 dX9_carryOut_76 ?_
    refine g_iload_n (pc := 79) o dX9_carryOut_79 rfl ?_
    refine g_iload_n (pc := 80) o dX9_carryOut_80 rfl ?_
    refine g_callVv (pc := 81) o (c_setBail (g 1) h1 (nI (g 2))) mt_X6_setBail mv_X6_setBail lk_X9_242 rfl rfl rfl (by decide) rfl (Nat.le_of_ble_eq_true rfl) dX9_carryOut_81 ?_
    refine g_goto (pc := 84) o 94 dX9_carryOut_84 (by decide) ?_
    exact g_vret o ρ dX9_carryOut_94 ⟨rfl, by rw [ap]; exact CR_s C (BR_bl C.1 h1) (fun k _ hk2 => mw_ne _ _ _ (fun z => by subst z; revert hk2; decide)), fun c hc => mw_ne _ _ _ (by omega), rfl, rfl⟩
  · rw [e]
    have ap : apI g (σ 0) = ntS (σ 0) (nT (σ 0)) (tgF g) := ap_2 e (σ 0)
    have B1 := BR_set (w := 5) (BR_set (w := 3) (BR_new C.1 h8 (nI (g 3)) (nI (g 1)) (nI (g 2))) h8 (by decide) (nI (g 4)) (nI (g 5))) h8 (by decide) (nI (g 6)) (nI (g 7))
    rw [tm_nt, ← ap] at B1
    have F := offB_set (t := nT (σ 0)) (w := 5) (a := nI (g 6)) (b := nI (g 7)) (offB_set (t := nT (σ 0)) (w := 3) (a := nI (g 4)) (b := nI (g 5)) (offB_new (n := nT (σ 0)) (k := nI (g 3)) (p := nI (g 1)) (q := nI (g 2)) (offB.rf h)))
    refine g_look (pc := 29) (off := 58) o 87 dX9_carryOut_29 (by decide) (by decide) (by decide) ?_
    refine g_aload_n (pc := 87) o dX9_carryOut_87 rfl ?_
    refine g_iload_n (pc := 88) o dX9_carryOut_88 rfl ?_
    refine g_iload_n (pc := 89) o dX9_carryOut_89 rfl ?_
    refine g_iload_n (pc := 90) o dX9_carryOut_90 rfl ?_
    refine g_callVv (pc := 91) o (c_addTermOf C I j hj g (R.2 e) h8) mt_X9_addTermOf mv_X9_addTermOf lk_X9_370 rfl rfl rfl (by decide) rfl (Nat.le_of_ble_eq_true rfl) dX9_carryOut_91 ?_
    exact g_vret o ρ dX9_carryOut_94 ⟨rfl, CR_s C B1 (fun k _ hk => F k hk), F.kM, F 32 (by decide), F 30 (by decide)⟩
theorem CR_tx {h h2 : Mem} {σ : Sg} (C : CR h σ) (e : ∀ c, inC c = true → c ≠ 30 → h2.1 c = h.1 c) (e1 : h2.1 30 1 = 0) : CR h2 (sf (sf σ 4 (σ 4)) 8 (tpF σ 0)) := by
  obtain ⟨a1, a2, a3, a4, a5, a6, a7, a8, a9, a10, a11⟩ := C
  refine ⟨a1.of (fun k hk => e k (by simp [inC, hk]) (fun z => by subst z; revert hk; decide)), ?_, ?_, fun q => (a4 q).of (fun k hk => e k (by simp [inC, hk]) (fun z => by subst z; revert hk; decide)), ?_, ?_, e1, ?_, ?_, ?_, ?_⟩
  · rw [e 29 (by decide) (by decide)]; exact a2
  · rw [e 0 (by decide) (by decide)]; exact a3
  · rw [e 0 (by decide) (by decide)]; exact a5
  · rw [e 50 (by decide) (by decide)]; exact a6
  · rw [e 31 (by decide) (by decide)]; exact a8
  · rw [e 35 (by decide) (by decide)]; exact a9
  · rw [e 36 (by decide) (by decide)]; exact a10
  · rw [e 37 (by decide) (by decide)]; exact a11
set_option maxRecDepth 100000 in
set_option maxHeartbeats 400000 in
theorem lp_text {Γ : Fr} (o : ca_O Γ cX9_text 3 RX9 10 223) {Pr : Option Value → Mem → Prop} (ρ : ca_R Γ (some .int) Pr) {h0 : Mem} {σ1 : Sg} {s0 : Nat → Int32} (k : Nat) (hk : k ≤ 20) (gs : Nat → Nat → Nat) (I0 : SI s0) (ig : ∀ j, j < k → itO (sqF gs s0 j) (gs j)) (x1 : Int32) (hp : ∀ h : Mem, CR h (sf σ1 0 (sqF gs s0 k)) → kM h0 h → Pr (some (.int (nI k))) h) : ∀ j, j ≤ k → ∀ (xj : Int32) (h : Mem), xj = nI j → CR h (sf σ1 0 (sqF gs s0 j)) → SI (sqF gs s0 j) → kM h0 h → h.1 30 3 = nI k → (∀ i, i < k → rowO h i (gs i)) → ca_G Γ 3 h 33 [some (.ref 0), some (.int x1), some (.int xj)] [] := by
  refine downI k (fun j hj ih => ?_)
  rintro xj h rfl C I K e3 rows
  have cc := c_itemCount (nI k) e3
  refine g_iload_n (pc := 33) o dX9_text_33 rfl ?_
  refine g_aload_n (pc := 34) o dX9_text_34 rfl ?_
  refine g_getR (pc := 35) o 4 rfl rfl rfl inX9 (by decide) lf_X9_26 dX9_text_35 ?_
  refine g_callVi (pc := 38) o (cc) mt_X3_itemCount mv_X3_itemCount lk_X9_285 rfl rfl rfl (by decide) rfl (Nat.le_of_ble_eq_true rfl) dX9_text_38 ?_
  refine g_ic_ge (pc := 41) o 55 dX9_text_41 (by decide) (fun c41 => ?_) (fun c41 => ?_)
  · skip
    have q : j = k := ge8 (n := k) (by omega) (by omega) c41
    subst q
    refine g_aload_n (pc := 55) o dX9_text_55 rfl ?_
    refine g_getR (pc := 56) o 4 rfl rfl rfl inX9 (by decide) lf_X9_26 dX9_text_56 ?_
    refine g_callVi (pc := 59) o (cc) mt_X3_itemCount mv_X3_itemCount lk_X9_285 rfl rfl rfl (by decide) rfl (Nat.le_of_ble_eq_true rfl) dX9_text_59 ?_
    exact g_iret o ρ dX9_text_62 (hp h C K)
  · skip
    have q : j < k := lt8 (n := k) (by omega) (by omega) c41
    refine g_aload_n (pc := 44) o dX9_text_44 rfl ?_
    refine g_iload_n (pc := 45) o dX9_text_45 rfl ?_
    refine g_callVQv (pc := 46) o (c_carry C I j (by omega) (gs j) (rows j q) (ig j q)) mt_X9_carryOut mv_X9_carryOut lk_X9_288 rfl rfl rfl (by decide) rfl (Nat.le_of_ble_eq_true rfl) dX9_text_46 ?_
    rintro h2 w
    obtain ⟨w1, w2, w3, w4⟩ := w
    have w1 : CR h2 (sf (sf σ1 0 (sqF gs s0 j)) 0 (apI (gs j) (sqF gs s0 j))) := w1
    rw [sf_sf] at w1
    refine g_iinc (pc := 49) o dX9_text_49 rfl 1 rfl (by decide) ?_
    show ca_G Γ 3 _ _ [_, _, _] _
    refine g_goto (pc := 52) o 33 dX9_text_52 (by decide) ?_
    exact ih q _ h2 (nI_1 j) w1 (SI_ap I (ig j q)) (K.tr w2) (by rw [w4]; exact e3) (fun i hi => (rows i hi).of (fun u _ => by rw [w3]))
set_option maxRecDepth 100000 in
set_option maxHeartbeats 400000 in
theorem co_text {h : Mem} {σ : Sg} (C : CR h σ) (I : Iv σ) : Ct yX9_text cX9_text 3 (some .int) 10 223 [.ref 0] h (Po h (op_text σ)) := by
  refine Ct.of (by decide) (Nat.le_of_ble_eq_true rfl) (fun Γ o ρ => ?_)
  show ca_G Γ 3 _ _ [_, _, _] _
  obtain ⟨n, hn, en, _, ecn⟩ := I.tp
  have T : TP h (σ 4) n := ⟨C.2.2.2.2.2.2.1.trans en, hn, fun j hj => C.2.2.2.2.2.2.2.1 j (by omega)⟩
  have eop : op_text σ = txV σ (pText (σ 4) n 121 (tkF (σ 4) n 0) (σ 0) 0) := by unfold op_text; rw [ecn]
  rw [eop] at ρ
  refine g_aload_n (pc := 0) o dX9_text_0 rfl ?_
  refine g_getR (pc := 1) o 4 rfl rfl rfl inX9 (by decide) lf_X9_26 dX9_text_1 ?_
  refine g_aload_n (pc := 4) o dX9_text_4 rfl ?_
  refine g_getR (pc := 5) o 0 rfl rfl rfl inX9 (by decide) lf_X9_10 dX9_text_5 ?_
  refine g_getR (pc := 8) o 2 rfl rfl rfl inX0 (by decide) lf_X9_137 dX9_text_8 ?_
  refine g_callVQi (pc := 11) o (c_findFault C.1 I.1 T) mt_X3_findFault mv_X3_findFault lk_X9_281 rfl rfl rfl (by decide) rfl (Nat.le_of_ble_eq_true rfl) dX9_text_11 ?_
  rintro r h1 w
  obtain ⟨Q, w⟩ := w
  have CT : CR (mw h1 30 1 0) (sf (sf σ 4 (σ 4)) 8 (tpF σ 0)) := CR_tx C (fun c hc n30 => by
    rw [mw_ne _ _ _ n30]
    exact Q c n30 (fun z => by subst z; revert hc; decide) (fun z => by subst z; revert hc; decide)) rfl
  have KT : kM h (mw h1 30 1 0) := fun c hc => (mw_ne _ _ _ (by omega)).trans (Q c (by omega) (by omega) (by omega))
  rcases w with ⟨x, e, hx, rfl⟩ | ⟨k, gs, e, rfl, e3, hk, rows⟩
  · rw [e] at ρ
    refine g_istore_n (pc := 14) o dX9_text_14 (by decide) ?_
    show ca_G Γ 3 _ _ [_, _, _] _
    refine g_aload_n (pc := 15) o dX9_text_15 rfl ?_
    refine g_getR (pc := 16) o 4 rfl rfl rfl inX9 (by decide) lf_X9_26 dX9_text_16 ?_
    refine g_callVv (pc := 19) o (c_rclear h1) mt_X3_clear mv_X3_clear lk_X9_278 rfl rfl rfl (by decide) rfl (Nat.le_of_ble_eq_true rfl) dX9_text_19 ?_
    refine g_iload_n (pc := 22) o dX9_text_22 rfl ?_
    refine g_iconst (pc := 23) o dX9_text_23 (-1) rfl ?_
    refine g_ic_eq (pc := 24) o 31 dX9_text_24 (by decide) (fun c24 => ?_) (fun c24 => ?_)
    · skip
      exact absurd c24 (nI_ne_m1 (by omega))
    · skip
      refine g_iconst (pc := 27) o dX9_text_27 (-1) rfl ?_
      refine g_iload_n (pc := 28) o dX9_text_28 rfl ?_
      refine g_isub (pc := 29) o dX9_text_29 ?_
      exact g_iret o ρ dX9_text_30 (Po.mk rfl CT KT)
  · rw [e] at ρ
    refine g_istore_n (pc := 14) o dX9_text_14 (by decide) ?_
    show ca_G Γ 3 _ _ [_, _, _] _
    refine g_aload_n (pc := 15) o dX9_text_15 rfl ?_
    refine g_getR (pc := 16) o 4 rfl rfl rfl inX9 (by decide) lf_X9_26 dX9_text_16 ?_
    refine g_callVv (pc := 19) o (c_rclear h1) mt_X3_clear mv_X3_clear lk_X9_278 rfl rfl rfl (by decide) rfl (Nat.le_of_ble_eq_true rfl) dX9_text_19 ?_
    refine g_iload_n (pc := 22) o dX9_text_22 rfl ?_
    refine g_iconst (pc := 23) o dX9_text_23 (-1) rfl ?_
    refine g_ic_eq (pc := 24) o 31 dX9_text_24 (by decide) (fun c24 => ?_) (fun c24 => ?_)
    · skip
      refine g_iconst (pc := 31) o dX9_text_31 0 rfl ?_
      refine g_istore_n (pc := 32) o dX9_text_32 (by decide) ?_
      show ca_G Γ 3 _ _ [_, _, _] _
      refine lp_text o ρ (h0 := h) (σ1 := sf (sf σ 4 (σ 4)) 8 (tpF σ 0)) (s0 := σ 0) k hk gs I.1 (fun j hj => (rows j hj).2) _ (fun h2 C2 K2 => Po.mk rfl C2 K2) 0 (by omega) _ _ rfl ?_ I.1 KT e3 (fun i hi => (rows i hi).1.of (fun u _ => rfl))
      show CR (mw h1 30 1 0) (sf (sf (sf σ 4 (σ 4)) 8 (tpF σ 0)) 0 ((sf (sf σ 4 (σ 4)) 8 (tpF σ 0)) 0))
      rw [sf_id]
      exact CT
    · skip
      exact absurd rfl c24

