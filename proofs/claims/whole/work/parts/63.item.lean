/-! ===== the class reads an item, and a text ===== -/
theorem wd_d : ∀ i, i < 12 → ∀ j, j < 12 → lnF i = lnF j → (∀ k, k < lnF i → chF i k = chF j k) → i = j := by decide +kernel
theorem wd_u {f : Nat → Int32} {t : Nat × Nat} {i j : Nat} (hi : i < 12) (hj : j < 12) (a : wdP f t i) (b : wdP f t j) : i = j := by
  have e : lnF i = lnF j := a.1.symm.trans b.1
  refine wd_d i hi j hj e (fun k hk => ?_)
  rw [← (wdB_t f t.1 i (lnF i)).mp a.2 k hk, ← (wdB_t f t.1 j (lnF j)).mp b.2 k (by omega)]
theorem fn_none {f : Nat → Bool} : ∀ n i, (∀ k, i ≤ k → k < i + n → ¬ f k = true) → fnF f n i = none
  | 0, _, _ => rfl
  | n + 1, i, h => by rw [fnF_s, if_neg (h i (Nat.le_refl i) (by omega)), fn_none n (i + 1) (fun k a b => h k (by omega) (by omega))]
theorem kd_none {f : Nat → Int32} {t : Nat × Nat} {i : Nat} (hi : i < 2) (w : wdP f t i) : fnF (kdB f t) 7 0 = none := fn_none 7 0 (fun k _ hk y => by
  have := wd_u (show i < 12 by omega) (show 2 + k < 12 by omega) w (of_decide_eq_true y)
  omega)
theorem pItem_eq (f : Nat → Int32) (n : Nat) (s : Nat → Int32) (t : Nat × Nat) : pItem f n s t = if wdP f t 0 then pRoad f n t else if wdP f t 1 then pBail f n t else prT f n s t := by
  unfold pItem prT
  cases e : fnF (kdB f t) 7 0 with
  | some k =>
    have w0 : ¬ wdP f t 0 := fun w => by rw [kd_none (by decide) w] at e; cases e
    have w1 : ¬ wdP f t 1 := fun w => by rw [kd_none (by decide) w] at e; cases e
    show pTerm f n s t k = if wdP f t 0 then pRoad f n t else if wdP f t 1 then pBail f n t else pTerm f n s t k
    rw [if_neg w0, if_neg w1]
  | none => rfl
theorem td_ok {h0 h : Mem} {f : Nat → Int32} {n : Nat} {t t2 : Nat × Nat} {m : Nat} {s : Nat → Int32} (S : RSt h0 f n t m s) {g : Nat → Nat} (g0 : g 0 < 2) (R : RT h f n t2) (O : offR h0 h) (hT : nT (apI g s) = nT s) (hC : ∀ p : Int32, cntP (apI g s) p (nT s) = cntP s p (nT s)) : itP h0 (tdM h m (nI (g 0)) (nI (g 1)) (nI (g 2))) f n m s (.inr (t2, g)) := by
  obtain ⟨T, _, f4, f3, f9, f33⟩ := S
  have T1 := T.of O
  have e32 : (tdM h m (nI (g 0)) (nI (g 1)) (nI (g 2))).1 32 = upd (upd (upd (h.1 32) (8 * m + 0) (nI (g 0))) (8 * m + 1) (nI (g 1))) (8 * m + 2) (nI (g 2)) := rfl
  have offC : ∀ c, c ≠ 30 → c ≠ 32 → (tdM h m (nI (g 0)) (nI (g 1)) (nI (g 2))).1 c = h.1 c := fun c h1 h2 => by
    unfold tdM
    rw [mw_ne _ _ _ h1, mw_ne _ _ _ h2, mw_ne _ _ _ h2, mw_ne _ _ _ h2]
  refine ⟨fun c h1 h2 h3 => (offC c h1 h2).trans (O.1 c h1), Or.inr ⟨_, rfl, ⟨⟨?_, T1.2.1, fun j hj => ?_⟩, ⟨?_, ?_, ?_, ?_⟩, ?_, ?_, ?_, fun p2 hp2 => ?_⟩, ⟨fun i hi => ?_, fun y => absurd y (by show ¬ g 0 = 2; omega)⟩, fun j hj => ?_⟩⟩
  · exact T1.1
  · rw [offC 31 (by decide) (by decide)]; exact T1.2.2 j hj
  · exact R.1
  · exact R.2.1
  · exact R.2.2.1
  · exact R.2.2.2
  · exact (O.2 4 (by decide) (by decide) (by decide) (by decide)).trans f4
  · exact nI_1 m
  · rw [hT]; exact (O.2 9 (by decide) (by decide) (by decide) (by decide)).trans f9
  · rw [hT, hC, offC 33 (by decide) (by decide), O.1 33 (by decide)]; exact f33 p2 hp2
  · rw [e32]
    unfold upd
    rcases (by omega : i = 0 ∨ i = 1 ∨ i = 2) with rfl | rfl | rfl
    · rw [if_neg (by omega), if_neg (by omega), if_pos rfl]
    · rw [if_neg (by omega), if_pos rfl]
    · rw [if_pos rfl]
  · rw [e32]
    unfold upd
    rw [if_neg (by omega), if_neg (by omega), if_neg (by omega), O.1 32 (by decide)]
theorem ap_s {g : Nat → Nat} (g0 : g 0 < 2) (h1 : g 1 < 8) (h2 : g 2 < 8 ∨ g 0 = 1) (s : Nat → Int32) {j : Nat} (hj : 8 ≤ j) (hj2 : j < 325) : apI g s j = s j := by
  unfold apI
  by_cases w : g 0 = 0
  · rw [if_pos w]
    unfold rdS upd
    rw [if_neg (by omega), if_neg (by omega)]
  · rw [if_neg w, if_pos (by omega)]
    unfold upd
    rw [if_neg (by omega)]
theorem ap_T {g : Nat → Nat} (g0 : g 0 < 2) (h1 : g 1 < 8) (h2 : g 2 < 8 ∨ g 0 = 1) (s : Nat → Int32) : nT (apI g s) = nT s := by
  show ca_n (apI g s 189) = _
  rw [ap_s g0 h1 h2 s (by omega) (by omega)]
  rfl
theorem ap_C {g : Nat → Nat} (g0 : g 0 < 2) (h1 : g 1 < 8) (h2 : g 2 < 8 ∨ g 0 = 1) (s : Nat → Int32) (hT : nT s ≤ 12) (p : Int32) : cntP (apI g s) p (nT s) = cntP s p (nT s) := cntP_c (nT s) (fun t ht => ap_s g0 h1 h2 s (by omega) (by omega))
set_option maxRecDepth 100000 in
set_option maxHeartbeats 400000 in
theorem c_readItem {h : Mem} {f : Nat → Int32} {n : Nat} {t : Nat × Nat} {m : Nat} {s : Nat → Int32} (S : RSt h f n t m s) (ok : tkR f n t) (hm : m < 20) (hT : nT s ≤ 12) : Ct yX3_readItem cX3_readItem 3 none 8 179 [.ref 30] h (Qv (fun h2 => itP h h2 f n m s (pItem f n s t))) := by
  refine Ct.of (by decide) (Nat.le_of_ble_eq_true rfl) (fun Γ o ρ => ?_)
  show ca_G Γ 3 _ _ [_, _, _] _
  have S2 := S
  obtain ⟨T, R, f4, f3, f9, f33⟩ := S
  have l120 := T.2.1
  have ok1 := nx_R ok
  have ok2 := nx_R ok1
  have x1 : (nxF f n t).1 ≤ 120 := by have := ok1.1; omega
  have x2 : (nxF f n (nxF f n t)).1 ≤ 120 := by have := ok2.1; omega
  rw [pItem_eq] at ρ
  refine g_aload_n (pc := 0) o dX3_readItem_0 rfl ?_
  refine g_ldcS (pc := 1) (i := 0) o rfl dX3_readItem_1 ?_
  refine g_callVQi (pc := 3) o (c_takeWord T R ok.1 f4 0 (by decide)) mt_X3_takeWord mv_X3_takeWord lk_X3_60 rfl rfl rfl (by decide) rfl (Nat.le_of_ble_eq_true rfl) dX3_readItem_3 ?_
  rintro r h1 w
  rcases w with ⟨w, rfl, R1, O1⟩ | ⟨w, rfl, rfl⟩
  · rw [if_pos w] at ρ
    unfold pRoad at ρ
    have T1 := T.of O1
    have e41 : h1.1 30 4 = -1 := (O1.2 4 (by decide) (by decide) (by decide) (by decide)).trans f4
    refine g_if_eq (pc := 6) o 58 dX3_readItem_6 (by decide) (fun c6 => ?_) (fun c6 => ?_)
    · skip
      exact absurd c6 (by decide)
    · skip
      refine g_aload_n (pc := 9) o dX3_readItem_9 rfl ?_
      refine g_iconst (pc := 10) o dX3_readItem_10 0 rfl ?_
      refine g_bipush (pc := 11) o dX3_readItem_11 7 rfl ?_
      refine g_callVQi (pc := 13) o (c_takeNum T1 R1 ok1.1 e41 0 7 (by decide) (by decide)) mt_X3_takeNumber mv_X3_takeNumber lk_X3_64 rfl rfl rfl (by decide) rfl (Nat.le_of_ble_eq_true rfl) dX3_readItem_13 ?_
      rintro r h2 u
      rcases u with ⟨a, u, rfl, R2, O2⟩ | ⟨u, rfl, rfl⟩
      · rw [u] at ρ
        simp only at ρ
        have al := (num_len ok1 u).2.2.1
        have O3 := O1.tr O2
        have T2 := T.of O3
        have e42 : h2.1 30 4 = -1 := (O3.2 4 (by decide) (by decide) (by decide) (by decide)).trans f4
        have e32 : h2.1 30 3 = nI m := (O3.2 3 (by decide) (by decide) (by decide) (by decide)).trans f3
        have s4 := sr_4 f n (nxF f n (nxF f n t)).1
        have vl : vcF f n (nxF f n (nxF f n t)) ≤ 10000 := by unfold vcF; split <;> omega
        have st40 : (∀ b, pNum f n (nxF f n (nxF f n t)) 0 7 = some b → ¬ b = a) → ca_G Γ 3 h2 40 [some (.ref 30), some (.int (nI a)), none] [] := by
          intro hne
          refine g_aload_n (pc := 40) o dX3_readItem_40 rfl ?_
          refine g_iconst (pc := 41) o dX3_readItem_41 0 rfl ?_
          refine g_bipush (pc := 42) o dX3_readItem_42 7 rfl ?_
          refine g_callVQi (pc := 44) o (c_takeNum T2 R2 ok2.1 e42 0 7 (by decide) (by decide)) mt_X3_takeNumber mv_X3_takeNumber lk_X3_64 rfl rfl rfl (by decide) rfl (Nat.le_of_ble_eq_true rfl) dX3_readItem_44 ?_
          rintro r h3 u2
          rcases u2 with ⟨b, u2, rfl, R3, O4⟩ | ⟨u2, rfl, rfl⟩
          · rw [u2] at ρ
            simp only at ρ
            rw [if_neg (hne b u2)] at ρ
            have bl := (num_len ok2 u2).2.2.1
            have O5 := O3.tr O4
            have e43 : h3.1 30 4 = -1 := (O5.2 4 (by decide) (by decide) (by decide) (by decide)).trans f4
            have e33 : h3.1 30 3 = nI m := (O5.2 3 (by decide) (by decide) (by decide) (by decide)).trans f3
            have fin := td_ok (g := itF 0 a b 0 0 0 0 0) S2 (show (0 : Nat) < 2 by decide) R3 O5 (ap_T (show (0 : Nat) < 2 by decide) (by show a < 8; omega) (Or.inl (by show b < 8; omega)) s) (ap_C (show (0 : Nat) < 2 by decide) (by show a < 8; omega) (Or.inl (by show b < 8; omega)) s hT)
            refine g_istore_n (pc := 47) o dX3_readItem_47 (by decide) ?_
            show ca_G Γ 3 _ _ [_, _, _] _
            refine g_aload_n (pc := 48) o dX3_readItem_48 rfl ?_
            refine g_iconst (pc := 49) o dX3_readItem_49 0 rfl ?_
            refine g_iload_n (pc := 50) o dX3_readItem_50 rfl ?_
            refine g_iload_n (pc := 51) o dX3_readItem_51 rfl ?_
            refine g_callVv (pc := 52) o (c_setDown e43 m e33 hm 0 (nI a) (nI b)) mt_X3_setDown mv_X3_setDown lk_X3_71 rfl rfl rfl (by decide) rfl (Nat.le_of_ble_eq_true rfl) dX3_readItem_52 ?_
            refine g_goto (pc := 55) o 95 dX3_readItem_55 (by decide) ?_
            exact g_vret o ρ dX3_readItem_95 ⟨rfl, fin⟩
          · rw [u2] at ρ
            simp only at ρ
            refine g_istore_n (pc := 47) o dX3_readItem_47 (by decide) ?_
            show ca_G Γ 3 _ _ [_, _, _] _
            refine g_aload_n (pc := 48) o dX3_readItem_48 rfl ?_
            refine g_iconst (pc := 49) o dX3_readItem_49 0 rfl ?_
            refine g_iload_n (pc := 50) o dX3_readItem_50 rfl ?_
            refine g_iload_n (pc := 51) o dX3_readItem_51 rfl ?_
            refine g_callVv (pc := 52) o (c_setDownX (ne_m4 x2) 0 (nI a) 0) mt_X3_setDown mv_X3_setDown lk_X3_71 rfl rfl rfl (by decide) rfl (Nat.le_of_ble_eq_true rfl) dX3_readItem_52 ?_
            refine g_goto (pc := 55) o 95 dX3_readItem_55 (by decide) ?_
            exact g_vret o ρ dX3_readItem_95 ⟨rfl, fl_ok x2 O3⟩
        refine g_istore_n (pc := 16) o dX3_readItem_16 (by decide) ?_
        show ca_G Γ 3 _ _ [_, _, _] _
        refine g_aload_n (pc := 17) o dX3_readItem_17 rfl ?_
        refine g_getIE (pc := 18) o 5 rfl rfl rfl inX3 (by decide) lf_X3_52 (R2.1) dX3_readItem_18 ?_
        refine g_iconst (pc := 21) o dX3_readItem_21 2 rfl ?_
        refine g_ic_ne (pc := 22) o 40 dX3_readItem_22 (by decide) (fun c22 => ?_) (fun c22 => ?_)
        · skip
          have n2 : ¬ srF f n (nxF f n (nxF f n t)).1 = 2 := fun y => c22 (by rw [y]; rfl)
          exact st40 (fun b e => absurd (num_len ok2 e).2.2.2.1 n2)
        · skip
          have n2 := (nI_eq (a := srF f n (nxF f n (nxF f n t)).1) (b := 2) (by omega) (by decide)).mp c22
          have ev : vcF f n (nxF f n (nxF f n t)) = min (vaF f (nxF f n (nxF f n t))) 10000 := by unfold vcF; rw [if_pos n2]
          refine g_aload_n (pc := 25) o dX3_readItem_25 rfl ?_
          refine g_getIE (pc := 26) o 8 rfl rfl rfl inX3 (by decide) lf_X3_68 (R2.2.2.2) dX3_readItem_26 ?_
          refine g_iload_n (pc := 29) o dX3_readItem_29 rfl ?_
          refine g_ic_ne (pc := 30) o 40 dX3_readItem_30 (by decide) (fun c30 => ?_) (fun c30 => ?_)
          · skip
            have y := mt (nI_eq (a := vcF f n (nxF f n (nxF f n t))) (b := a) (by omega) (by omega)).mpr c30
            refine st40 (fun b e z => y ?_)
            have nl := num_len ok2 e
            omega
          · skip
            have y := (nI_eq (a := vcF f n (nxF f n (nxF f n t))) (b := a) (by omega) (by omega)).mp c30
            have pn : pNum f n (nxF f n (nxF f n t)) 0 7 = some a := by
              unfold pNum
              rw [if_pos ⟨n2, Nat.zero_le _, by omega⟩]
              congr 1
              omega
            rw [pn] at ρ
            simp only at ρ
            rw [if_pos trivial] at ρ
            refine g_aload_n (pc := 33) o dX3_readItem_33 rfl ?_
            refine g_callVi (pc := 34) o (c_refuse R2.2.1 e42) mt_X3_refuse mv_X3_refuse lk_X3_55 rfl rfl rfl (by decide) rfl (Nat.le_of_ble_eq_true rfl) dX3_readItem_34 ?_
            refine g_goto (pc := 37) o 47 dX3_readItem_37 (by decide) ?_
            refine g_istore_n (pc := 47) o dX3_readItem_47 (by decide) ?_
            show ca_G Γ 3 _ _ [_, _, _] _
            refine g_aload_n (pc := 48) o dX3_readItem_48 rfl ?_
            refine g_iconst (pc := 49) o dX3_readItem_49 0 rfl ?_
            refine g_iload_n (pc := 50) o dX3_readItem_50 rfl ?_
            refine g_iload_n (pc := 51) o dX3_readItem_51 rfl ?_
            refine g_callVv (pc := 52) o (c_setDownX (ne_m4 x2) 0 (nI a) 0) mt_X3_setDown mv_X3_setDown lk_X3_71 rfl rfl rfl (by decide) rfl (Nat.le_of_ble_eq_true rfl) dX3_readItem_52 ?_
            refine g_goto (pc := 55) o 95 dX3_readItem_55 (by decide) ?_
            exact g_vret o ρ dX3_readItem_95 ⟨rfl, fl_ok x2 O3⟩
      · rw [u] at ρ
        simp only at ρ
        refine g_istore_n (pc := 16) o dX3_readItem_16 (by decide) ?_
        show ca_G Γ 3 _ _ [_, _, _] _
        refine g_aload_n (pc := 17) o dX3_readItem_17 rfl ?_
        refine g_getI (pc := 18) o 5 rfl rfl rfl inX3 (by decide) lf_X3_52 dX3_readItem_18 ?_
        refine g_iconst (pc := 21) o dX3_readItem_21 2 rfl ?_
        refine g_ic_ne (pc := 22) o 40 dX3_readItem_22 (by decide) (fun c22 => ?_) (fun c22 => ?_)
        · skip
          refine g_aload_n (pc := 40) o dX3_readItem_40 rfl ?_
          refine g_iconst (pc := 41) o dX3_readItem_41 0 rfl ?_
          refine g_bipush (pc := 42) o dX3_readItem_42 7 rfl ?_
          refine g_callVi (pc := 44) o (c_takeNumX (ne_m4 x1) 0 7) mt_X3_takeNumber mv_X3_takeNumber lk_X3_64 rfl rfl rfl (by decide) rfl (Nat.le_of_ble_eq_true rfl) dX3_readItem_44 ?_
          refine g_istore_n (pc := 47) o dX3_readItem_47 (by decide) ?_
          show ca_G Γ 3 _ _ [_, _, _] _
          refine g_aload_n (pc := 48) o dX3_readItem_48 rfl ?_
          refine g_iconst (pc := 49) o dX3_readItem_49 0 rfl ?_
          refine g_iload_n (pc := 50) o dX3_readItem_50 rfl ?_
          refine g_iload_n (pc := 51) o dX3_readItem_51 rfl ?_
          refine g_callVv (pc := 52) o (c_setDownX (ne_m4 x1) 0 0 0) mt_X3_setDown mv_X3_setDown lk_X3_71 rfl rfl rfl (by decide) rfl (Nat.le_of_ble_eq_true rfl) dX3_readItem_52 ?_
          refine g_goto (pc := 55) o 95 dX3_readItem_55 (by decide) ?_
          exact g_vret o ρ dX3_readItem_95 ⟨rfl, fl_ok x1 O1⟩
        · skip
          refine g_aload_n (pc := 25) o dX3_readItem_25 rfl ?_
          refine g_getI (pc := 26) o 8 rfl rfl rfl inX3 (by decide) lf_X3_68 dX3_readItem_26 ?_
          refine g_iload_n (pc := 29) o dX3_readItem_29 rfl ?_
          refine g_ic_ne (pc := 30) o 40 dX3_readItem_30 (by decide) (fun c30 => ?_) (fun c30 => ?_)
          · skip
            refine g_aload_n (pc := 40) o dX3_readItem_40 rfl ?_
            refine g_iconst (pc := 41) o dX3_readItem_41 0 rfl ?_
            refine g_bipush (pc := 42) o dX3_readItem_42 7 rfl ?_
            refine g_callVi (pc := 44) o (c_takeNumX (ne_m4 x1) 0 7) mt_X3_takeNumber mv_X3_takeNumber lk_X3_64 rfl rfl rfl (by decide) rfl (Nat.le_of_ble_eq_true rfl) dX3_readItem_44 ?_
            refine g_istore_n (pc := 47) o dX3_readItem_47 (by decide) ?_
            show ca_G Γ 3 _ _ [_, _, _] _
            refine g_aload_n (pc := 48) o dX3_readItem_48 rfl ?_
            refine g_iconst (pc := 49) o dX3_readItem_49 0 rfl ?_
            refine g_iload_n (pc := 50) o dX3_readItem_50 rfl ?_
            refine g_iload_n (pc := 51) o dX3_readItem_51 rfl ?_
            refine g_callVv (pc := 52) o (c_setDownX (ne_m4 x1) 0 0 0) mt_X3_setDown mv_X3_setDown lk_X3_71 rfl rfl rfl (by decide) rfl (Nat.le_of_ble_eq_true rfl) dX3_readItem_52 ?_
            refine g_goto (pc := 55) o 95 dX3_readItem_55 (by decide) ?_
            exact g_vret o ρ dX3_readItem_95 ⟨rfl, fl_ok x1 O1⟩
          · skip
            refine g_aload_n (pc := 33) o dX3_readItem_33 rfl ?_
            refine g_callVi (pc := 34) o (c_refuseX (ne_m4 x1)) mt_X3_refuse mv_X3_refuse lk_X3_55 rfl rfl rfl (by decide) rfl (Nat.le_of_ble_eq_true rfl) dX3_readItem_34 ?_
            refine g_goto (pc := 37) o 47 dX3_readItem_37 (by decide) ?_
            refine g_istore_n (pc := 47) o dX3_readItem_47 (by decide) ?_
            show ca_G Γ 3 _ _ [_, _, _] _
            refine g_aload_n (pc := 48) o dX3_readItem_48 rfl ?_
            refine g_iconst (pc := 49) o dX3_readItem_49 0 rfl ?_
            refine g_iload_n (pc := 50) o dX3_readItem_50 rfl ?_
            refine g_iload_n (pc := 51) o dX3_readItem_51 rfl ?_
            refine g_callVv (pc := 52) o (c_setDownX (ne_m4 x1) 0 0 0) mt_X3_setDown mv_X3_setDown lk_X3_71 rfl rfl rfl (by decide) rfl (Nat.le_of_ble_eq_true rfl) dX3_readItem_52 ?_
            refine g_goto (pc := 55) o 95 dX3_readItem_55 (by decide) ?_
            exact g_vret o ρ dX3_readItem_95 ⟨rfl, fl_ok x1 O1⟩
  · rw [if_neg w] at ρ
    refine g_if_eq (pc := 6) o 58 dX3_readItem_6 (by decide) (fun c6 => ?_) (fun c6 => ?_)
    · skip
      refine g_aload_n (pc := 58) o dX3_readItem_58 rfl ?_
      refine g_ldcS (pc := 59) (i := 1) o rfl dX3_readItem_59 ?_
      refine g_callVQi (pc := 61) o (c_takeWord T R ok.1 f4 1 (by decide)) mt_X3_takeWord mv_X3_takeWord lk_X3_60 rfl rfl rfl (by decide) rfl (Nat.le_of_ble_eq_true rfl) dX3_readItem_61 ?_
      rintro r h1 w2
      rcases w2 with ⟨w2, rfl, R1, O1⟩ | ⟨w2, rfl, rfl⟩
      · rw [if_pos w2] at ρ
        unfold pBail at ρ
        have T1 := T.of O1
        have e41 : h1.1 30 4 = -1 := (O1.2 4 (by decide) (by decide) (by decide) (by decide)).trans f4
        refine g_if_eq (pc := 64) o 91 dX3_readItem_64 (by decide) (fun c64 => ?_) (fun c64 => ?_)
        · skip
          exact absurd c64 (by decide)
        · skip
          refine g_aload_n (pc := 67) o dX3_readItem_67 rfl ?_
          refine g_iconst (pc := 68) o dX3_readItem_68 0 rfl ?_
          refine g_iconst (pc := 69) o dX3_readItem_69 5 rfl ?_
          refine g_callVQi (pc := 70) o (c_takeNum T1 R1 ok1.1 e41 0 5 (by decide) (by decide)) mt_X3_takeNumber mv_X3_takeNumber lk_X3_64 rfl rfl rfl (by decide) rfl (Nat.le_of_ble_eq_true rfl) dX3_readItem_70 ?_
          rintro r h2 u
          rcases u with ⟨a, u, rfl, R2, O2⟩ | ⟨u, rfl, rfl⟩
          · rw [u] at ρ
            simp only at ρ
            have al := (num_len ok1 u).2.2.1
            have O3 := O1.tr O2
            have T2 := T.of O3
            have e42 : h2.1 30 4 = -1 := (O3.2 4 (by decide) (by decide) (by decide) (by decide)).trans f4
            refine g_istore_n (pc := 73) o dX3_readItem_73 (by decide) ?_
            show ca_G Γ 3 _ _ [_, _, _] _
            refine g_aload_n (pc := 74) o dX3_readItem_74 rfl ?_
            refine g_iconst (pc := 75) o dX3_readItem_75 1 rfl ?_
            refine g_iload_n (pc := 76) o dX3_readItem_76 rfl ?_
            refine g_aload_n (pc := 77) o dX3_readItem_77 rfl ?_
            refine g_iconst (pc := 78) o dX3_readItem_78 0 rfl ?_
            refine g_sipush (pc := 79) o dX3_readItem_79 9999 rfl ?_
            refine g_callVQi (pc := 82) o (c_takeNum T2 R2 ok2.1 e42 0 9999 (by decide) (by decide)) mt_X3_takeNumber mv_X3_takeNumber lk_X3_64 rfl rfl rfl (by decide) rfl (Nat.le_of_ble_eq_true rfl) dX3_readItem_82 ?_
            rintro r h3 u2
            rcases u2 with ⟨b, u2, rfl, R3, O4⟩ | ⟨u2, rfl, rfl⟩
            · rw [u2] at ρ
              simp only at ρ
              have O5 := O3.tr O4
              have e43 : h3.1 30 4 = -1 := (O5.2 4 (by decide) (by decide) (by decide) (by decide)).trans f4
              have e33 : h3.1 30 3 = nI m := (O5.2 3 (by decide) (by decide) (by decide) (by decide)).trans f3
              have fin := td_ok (g := itF 1 a b 0 0 0 0 0) S2 (show (1 : Nat) < 2 by decide) R3 O5 (ap_T (show (1 : Nat) < 2 by decide) (by show a < 8; omega) (Or.inr rfl) s) (ap_C (show (1 : Nat) < 2 by decide) (by show a < 8; omega) (Or.inr rfl) s hT)
              refine g_callVv (pc := 85) o (c_setDown e43 m e33 hm 1 (nI a) (nI b)) mt_X3_setDown mv_X3_setDown lk_X3_71 rfl rfl rfl (by decide) rfl (Nat.le_of_ble_eq_true rfl) dX3_readItem_85 ?_
              refine g_goto (pc := 88) o 95 dX3_readItem_88 (by decide) ?_
              exact g_vret o ρ dX3_readItem_95 ⟨rfl, fin⟩
            · rw [u2] at ρ
              simp only at ρ
              refine g_callVv (pc := 85) o (c_setDownX (ne_m4 x2) 1 (nI a) 0) mt_X3_setDown mv_X3_setDown lk_X3_71 rfl rfl rfl (by decide) rfl (Nat.le_of_ble_eq_true rfl) dX3_readItem_85 ?_
              refine g_goto (pc := 88) o 95 dX3_readItem_88 (by decide) ?_
              exact g_vret o ρ dX3_readItem_95 ⟨rfl, fl_ok x2 O3⟩
          · rw [u] at ρ
            simp only at ρ
            refine g_istore_n (pc := 73) o dX3_readItem_73 (by decide) ?_
            show ca_G Γ 3 _ _ [_, _, _] _
            refine g_aload_n (pc := 74) o dX3_readItem_74 rfl ?_
            refine g_iconst (pc := 75) o dX3_readItem_75 1 rfl ?_
            refine g_iload_n (pc := 76) o dX3_readItem_76 rfl ?_
            refine g_aload_n (pc := 77) o dX3_readItem_77 rfl ?_
            refine g_iconst (pc := 78) o dX3_readItem_78 0 rfl ?_
            refine g_sipush (pc := 79) o dX3_readItem_79 9999 rfl ?_
            refine g_callVi (pc := 82) o (c_takeNumX (ne_m4 x1) 0 9999) mt_X3_takeNumber mv_X3_takeNumber lk_X3_64 rfl rfl rfl (by decide) rfl (Nat.le_of_ble_eq_true rfl) dX3_readItem_82 ?_
            refine g_callVv (pc := 85) o (c_setDownX (ne_m4 x1) 1 0 0) mt_X3_setDown mv_X3_setDown lk_X3_71 rfl rfl rfl (by decide) rfl (Nat.le_of_ble_eq_true rfl) dX3_readItem_85 ?_
            refine g_goto (pc := 88) o 95 dX3_readItem_88 (by decide) ?_
            exact g_vret o ρ dX3_readItem_95 ⟨rfl, fl_ok x1 O1⟩
      · rw [if_neg w2] at ρ
        refine g_if_eq (pc := 64) o 91 dX3_readItem_64 (by decide) (fun c64 => ?_) (fun c64 => ?_)
        · skip
          refine g_aload_n (pc := 91) o dX3_readItem_91 rfl ?_
          refine g_callVQv (pc := 92) o (c_readTerm S2 ok hm hT) mt_X3_readTerm mv_X3_readTerm lk_X3_77 rfl rfl rfl (by decide) rfl (Nat.le_of_ble_eq_true rfl) dX3_readItem_92 ?_
          rintro h2 u
          exact g_vret o ρ dX3_readItem_95 ⟨rfl, u⟩
        · skip
          exact absurd rfl c64
    · skip
      exact absurd rfl c6

