/-! ===== the start ===== -/
theorem st_cls {s : State} {args : Array Value} (hts : ∀ w ∈ T0, w.before args s = true) : ∃ (dC : Nat → ClassId) (dI : Nat → Nat → Nat), ∀ (k : Nat) (q : vw_C), vwCl[k]? = some q → u_Kn s q.1 q.2.1 q.2.2 (dC k) (dI k) := by
  obtain ⟨c0, i0, h0⟩ := u_known (C := RX0) (T := TX0) (N := 7) (n := 7) hts inX0 (hts _ wn_X0)
  obtain ⟨c1, i1, h1⟩ := u_known (C := RX1) (T := TX1) (N := 10) (n := 10) hts inX1 (hts _ wn_X1)
  obtain ⟨c2, i2, h2⟩ := u_known (C := RX2) (T := TX2) (N := 1) (n := 1) hts inX2 (hts _ wn_X2)
  obtain ⟨c3, i3, h3⟩ := u_known (C := RX3) (T := TX3) (N := 11) (n := 11) hts inX3 (hts _ wn_X3)
  obtain ⟨c4, i4, h4⟩ := u_known (C := RX4) (T := TX4) (N := 3) (n := 3) hts inX4 (hts _ wn_X4)
  obtain ⟨c5, i5, h5⟩ := u_known (C := RX5) (T := TX5) (N := 2) (n := 2) hts inX5 (hts _ wn_X5)
  obtain ⟨c6, i6, h6⟩ := u_known (C := RX6) (T := TX6) (N := 4) (n := 4) hts inX6 (hts _ wn_X6)
  obtain ⟨c7, i7, h7⟩ := u_known (C := RX7) (T := TX7) (N := 2) (n := 2) hts inX7 (hts _ wn_X7)
  obtain ⟨c8, i8, h8⟩ := u_known (C := RX8) (T := TX8) (N := 3) (n := 3) hts inX8 (hts _ wn_X8)
  obtain ⟨c9, i9, h9⟩ := u_known (C := RX9) (T := TX9) (N := 10) (n := 10) hts inX9 (hts _ wn_X9)
  obtain ⟨c10, i10, h10⟩ := u_known (C := RX10) (T := TX10) (N := 29) (n := 29) hts inX10 (hts _ wn_X10)
  refine ⟨fun k => [c0, c1, c2, c3, c4, c5, c6, c7, c8, c9, c10].getD k c0, fun k => [i0, i1, i2, i3, i4, i5, i6, i7, i8, i9, i10].getD k i0, ?_⟩
  intro k q hq
  match k, hq with
  | 0, hq => cases hq; exact h0
  | 1, hq => cases hq; exact h1
  | 2, hq => cases hq; exact h2
  | 3, hq => cases hq; exact h3
  | 4, hq => cases hq; exact h4
  | 5, hq => cases hq; exact h5
  | 6, hq => cases hq; exact h6
  | 7, hq => cases hq; exact h7
  | 8, hq => cases hq; exact h8
  | 9, hq => cases hq; exact h9
  | 10, hq => cases hq; exact h10
  | k + 11, hq => simp [vwCl] at hq
theorem st_arr {s : State} {args : Array Value} {ty : FieldType} (h : (Cond.arrayClass ty).before args s = true) : ∃ cA : ClassId, ArrOfT s cA ty ∧ s.vm.findClass ("[" ++ ty.toString) = some cA := by
  obtain ⟨cA, kA, comp, h1, h2, h3⟩ := Cond.arrayClass_spec h
  exact ⟨cA, fun n z => ⟨fun k h => (by cases h), kA, h2, comp, h3⟩, h1⟩
theorem st_K {s : State} {args : Array Value} (hts : ∀ w ∈ T0, w.before args s = true) : ∃ (D : va_G) (cl : ClassId × ClassId × ClassId), va_K D vwCl [(cl.1, .int), (cl.2.1, .boolean), (cl.2.2, .long)] s := by
  obtain ⟨dC, dI, hc⟩ := st_cls hts
  obtain ⟨cI, a1, b1⟩ := st_arr (hts _ wa_int)
  obtain ⟨cZ, a2, b2⟩ := st_arr (hts _ wa_boolean)
  obtain ⟨cL, a3, b3⟩ := st_arr (hts _ wa_long)
  refine ⟨(dC, dI), (cI, cZ, cL), hc, fun k q hq => ?_⟩
  match k, hq with
  | 0, hq => cases hq; exact ⟨a1, b1⟩
  | 1, hq => cases hq; exact ⟨a2, b2⟩
  | 2, hq => cases hq; exact ⟨a3, b3⟩
  | k + 3, hq => simp at hq
theorem nest_tbl : ∀ w ∈ ca_nest, w ∈ lw_tbl := by decide +kernel
theorem st_nest {s : State} {args : Array Value} (hts : ∀ w ∈ lw_tbl, w.before args s = true) : ∀ w ∈ ca_nest, va_Nw w s := fun w hw => by
  have h := hts w (nest_tbl w hw)
  obtain ⟨a, i, x, hh, rfl⟩ := ca_nest_form w hw
  exact va_Nw.of rfl h
abbrev gvC : List Cond := flatC (Jvm.Cond.and given_1 narrow_1)
abbrev tmZ (i : Nat) : Term := Term.string "ReleaseTerms$Reader" (ca_strs.getD i (0, "")).1
theorem gv_asked : ∀ j, j < 7 → Cond.eq (.elem (.static "ReleaseTerms$Terms" "ASKED" "[I") (.int (Int32.ofNat j))) (.int (ca_asked.getD j 0)) ∈ gvC := by decide +kernel
theorem gv_above : ∀ j, j < 7 → Cond.eq (.elem (.static "ReleaseTerms$Terms" "ABOVE" "[I") (.int (Int32.ofNat j))) (.int (ca_above.getD j 0)) ∈ gvC := by decide +kernel
theorem gv_ex : ∀ i, i < 12 → Cond.exactly (tmZ i) "java/lang/String" ∈ gvC := by decide +kernel
theorem gv_co : ∀ i, i < 12 → Cond.eq (.field (tmZ i) "java/lang/String" "coder" "B") (.int 0) ∈ gvC := by decide +kernel
theorem gv_ar : ∀ i, i < 12 → Cond.arrayOf (.field (tmZ i) "java/lang/String" "value" "[B") .byte ∈ gvC := by decide +kernel
theorem gv_le : ∀ i, i < 12 → Cond.eq (.length (.field (tmZ i) "java/lang/String" "value" "[B")) (.int (Int32.ofNat (ca_slen.getD i 0))) ∈ gvC := by decide +kernel
theorem gv_el : ∀ i, i < 12 → ∀ j, j < ca_slen.getD i 0 → Cond.eq (.elem (.field (tmZ i) "java/lang/String" "value" "[B") (.int (Int32.ofNat j))) (.int ((ca_sbyt.getD i []).getD j 0)) ∈ gvC := by decide +kernel
theorem gv_ne : ∀ i, i < 12 → ∀ j, j < 12 → i ≠ j → Cond.not (Cond.eq (tmZ i) (tmZ j)) ∈ gvC ∨ Cond.not (Cond.eq (tmZ j) (tmZ i)) ∈ gvC := by decide +kernel
theorem tb_str : ∀ i, i < 12 → Cond.stringRef "ReleaseTerms$Reader" (ca_strs.getD i (0, "")).1 (ca_strs.getD i (0, "")).2 ∈ lw_tbl := by decide +kernel
theorem st_X {s : State} {b : Nat} (hts : ∀ w ∈ lw_tbl, w.before #[Value.ref b] s = true) (hgv : (Jvm.Cond.and given_1 narrow_1).before #[Value.ref b] s = true) : ∃ (q0 q1 q2 : Nat) (adK adV : Nat → Nat), ∀ κ : Cf, κ.1 900 = q0 → κ.1 901 = q1 → κ.1 950 = q2 → (∀ i, i < 12 → κ.1 (1000 + i) = adK i) → (∀ i, i < 12 → κ.1 (1100 + i) = adV i) → ca_X κ (fun q : Nat => s.heap.size ≤ q) s := by
  have hs := flat_of_before _ hgv
  have hA : ∀ a : Nat, a < s.heap.size → ¬ (fun q : Nat => s.heap.size ≤ q) a := fun a h => Nat.not_le.mpr h
  obtain ⟨q0, t0, T0'⟩ := va_Tof (tm := .static "ReleaseTerms$Terms" "ASKED" "[I") (ty := .int) (N := 7) (f := fun j => .int (ca_asked.getD j 0)) (A := fun q : Nat => s.heap.size ≤ q) (by decide) (hs _ (by decide +kernel)) (va_eqt (hs _ (by decide +kernel))) (fun j hj => va_eqt (hs _ (gv_asked j hj))) hA
  obtain ⟨q1, t1, T1'⟩ := va_Tof (tm := .static "ReleaseTerms$Terms" "ABOVE" "[I") (ty := .int) (N := 7) (f := fun j => .int (ca_above.getD j 0)) (A := fun q : Nat => s.heap.size ≤ q) (by decide) (hs _ (by decide +kernel)) (va_eqt (hs _ (by decide +kernel))) (fun j hj => va_eqt (hs _ (gv_above j hj))) hA
  have Z0 := va_Zof (A := fun q : Nat => s.heap.size ≤ q) (hts (.laysStatic "ReleaseTerms$Terms" "ASKED" "[I") (by decide +kernel)) (hts (.initialized "ReleaseTerms$Terms") (by decide +kernel)) t0 hA
  have Z1 := va_Zof (A := fun q : Nat => s.heap.size ≤ q) (hts (.laysStatic "ReleaseTerms$Terms" "ABOVE" "[I") (by decide +kernel)) (hts (.initialized "ReleaseTerms$Terms") (by decide +kernel)) t1 hA
  have Z2 := va_Zof (A := fun q : Nat => s.heap.size ≤ q) (v := .int 1) (hts (.laysStatic "java/lang/String" "COMPACT_STRINGS" "Z") (by decide +kernel)) (hts (.initialized "java/lang/String") (by decide +kernel)) (va_eqi (hs _ (by decide +kernel))) hA
  have Z3 := va_Zqof (A := fun q : Nat => s.heap.size ≤ q) (hts (.laysStatic "jdk/internal/util/Preconditions" "SIOOBE_FORMATTER" "Ljava/util/function/BiFunction;") (by decide +kernel)) (hts (.initialized "jdk/internal/util/Preconditions") (by decide +kernel)) (hs _ (by decide +kernel)) hA
  obtain ⟨q2, Z4⟩ : ∃ q2 : Nat, va_Z "jdk/internal/util/Preconditions" "SIOOBE_FORMATTER" "Ljava/util/function/BiFunction;" .null (fun q : Nat => s.heap.size ≤ q) s s.heap ∨ va_Z "jdk/internal/util/Preconditions" "SIOOBE_FORMATTER" "Ljava/util/function/BiFunction;" (.ref q2) (fun q : Nat => s.heap.size ≤ q) s s.heap := by
    rcases Z3 with h | ⟨t, h⟩
    · exact ⟨0, Or.inl h⟩
    · exact ⟨t, Or.inr h⟩
  obtain ⟨adK, adV, hSt, hev⟩ := vk_Sof (N := 12) (tm := tmZ) (len := ca_slen) (byt := ca_sbyt) (A := fun q : Nat => s.heap.size ≤ q) (by decide +kernel) (fun i hi => hs _ (gv_ex i hi)) (fun i hi => hs _ (gv_co i hi)) (fun i hi => hs _ (gv_ar i hi)) (fun i hi => hs _ (gv_le i hi)) (fun i hi j hj => hs _ (gv_el i hi j hj)) (fun i j hi hj hij => (gv_ne i hi j hj hij).imp (fun h => hs _ h) (fun h => hs _ h)) hA
  refine ⟨q0, q1, q2, adK, adV, fun κ e0 e1 e2 eK eV => ?_⟩
  unfold ca_X ca_fmt
  rw [e0, e1, e2]
  refine ⟨Z0, T0', Z1, T1', Z2, Z4, fun i q hq => ?_, ⟨fun i hi => ?_, fun i j hi hj h => ?_⟩⟩
  · have hi : i < 12 := (List.getElem?_eq_some_iff.mp hq).1
    have eq : ca_strs.getD i (0, "") = q := by rw [List.getD_eq_getElem?_getD, hq]; rfl
    rw [eK i hi, ← eq]
    exact vk_R.of (hts _ (tb_str i hi)) (hev i hi)
  · show va_O _ (κ.1 (1000 + i)) _ _ _ ∧ va_OF _ _ _ _ (κ.1 (1000 + i)) _ _ _ ∧ va_OF _ _ _ (.ref (κ.1 (1100 + i))) (κ.1 (1000 + i)) _ _ _ ∧ va_T _ (κ.1 (1100 + i)) _ _ _ _ _
    rw [eK i hi, eV i hi]
    exact hSt.1 i hi
  · have h : κ.1 (1000 + i) = κ.1 (1000 + j) := h
    rw [eK i hi, eK j hj] at h
    exact hSt.2 i j hi hj h
/-! the first memory -/
def bF : Nat → Int32 := fun i => if i = 6 then 1 else 0
def m0 : Mem := (fun k => if k = 1 then bF else if k = 13 then hF else if k = 14 then pF else if k = 15 then bF else if k = 27 then hF else if k = 28 then pF else if k = 52 then sF else fun _ => 0, fun _ => 0)
theorem m0_52 : m0.1 52 = sF := rfl
theorem SI_0 : SI sF := by
  have e1 : ∀ i, i < 8 → sF i = 0 := by decide +kernel
  have e3 : ∀ k, k < 60 → sF (9 + 3 * k) = nI 0 ∧ sF (10 + 3 * k) = nI 0 ∧ sF (11 + 3 * k) = nI 0 := by decide +kernel
  have e5 : ∀ t, t < 12 → ∀ w, w < 7 → tmF sF t w = nI 0 := by decide +kernel
  have e6 : ∀ p, p < 6 → sF (331 + p) = -1 := by decide +kernel
  have e4 : ∀ j, j < 10 → sF (274 + j) = -1 := by decide +kernel
  have e7 : ∀ d, d < 30 → cntD sF (nI d) 6 ≤ 2 := by decide +kernel
  refine ⟨fun i j hi hj h => ?_, ⟨0, by decide, by decide +kernel⟩, fun k hk => ⟨0, 0, 0, 0, by decide, by decide, by decide, by decide, (e3 k hk).1, (e3 k hk).2.1, (e3 k hk).2.2⟩, ⟨0, by decide, by decide +kernel, fun p hp => Nat.zero_le 5, fun j hj => Or.inl (e4 j hj)⟩, fun t ht => ⟨0, 0, 0, 0, 0, 0, 0, by decide, by decide, by decide, by decide, by decide, by decide, by decide, e5 t ht 0 (by decide), e5 t ht 1 (by decide), e5 t ht 2 (by decide), e5 t ht 3 (by decide), e5 t ht 4 (by decide), e5 t ht 5 (by decide), e5 t ht 6 (by decide)⟩, fun p hp => Or.inl (e6 p hp), e7⟩
  rw [e1 i hi, b_0] at h
  cases h
theorem LV_0 : LV m0 := by
  refine ⟨⟨⟨by decide +kernel, by decide +kernel, by decide +kernel, by decide +kernel, by decide +kernel, by decide +kernel, by decide +kernel, by decide +kernel, by decide +kernel, by decide +kernel, by decide +kernel, by decide +kernel⟩, by decide +kernel, rfl, fun h => absurd h (by decide +kernel), rfl, by decide +kernel, rfl, by decide +kernel, by decide +kernel, by decide +kernel, by decide +kernel⟩, SI_0, fun h => absurd h (by decide +kernel), Or.inl rfl, Or.inl rfl, ⟨0, by decide, rfl⟩, fun j hj => ⟨0, by decide, rfl⟩, fun j hj => ⟨Or.inl rfl, 0, by decide, rfl, fun _ => rfl⟩⟩
def kap (a9 a10 : Nat → Nat) (q0 q1 q2 b : Nat) (adK adV : Nat → Nat) (k : Nat) : Nat := if k < 51 then a9 k else if k < 71 then a10 (k - 51) else if k = 900 then q0 else if k = 901 then q1 else if k = 950 then q2 else if k = 960 then b else if k < 1100 then adK (k - 1000) else adV (k - 1100)
theorem kap_K (a9 a10 : Nat → Nat) (q0 q1 q2 b : Nat) (adK adV : Nat → Nat) (i : Nat) (hi : i < 12) : kap a9 a10 q0 q1 q2 b adK adV (1000 + i) = adK i := by
  unfold kap
  rw [if_neg (by omega), if_neg (by omega), if_neg (by omega), if_neg (by omega), if_neg (by omega), if_neg (by omega), if_pos (by omega), show 1000 + i - 1000 = i by omega]
theorem kap_V (a9 a10 : Nat → Nat) (q0 q1 q2 b : Nat) (adK adV : Nat → Nat) (i : Nat) (hi : i < 12) : kap a9 a10 q0 q1 q2 b adK adV (1100 + i) = adV i := by
  unfold kap
  rw [if_neg (by omega), if_neg (by omega), if_neg (by omega), if_neg (by omega), if_neg (by omega), if_neg (by omega), if_neg (by omega), show 1100 + i - 1100 = i by omega]
theorem b_astoreN {Γ : Fr} {cc : ByteArray} {nL : Nat} {own : String} {fr lo : Nat} {ws : va_W} {x y pc : Nat} {lv : List (Nat × Value)} {S : List Value} (o : cbO Γ cc nL own fr lo) {a i : Nat} {j : Fin 4} {lv' : List (Nat × Value)} (d : decode cc pc = .ok (.astore_n j, 1)) (hi : (j : Nat) = i) (hn : i < nL) (hl : (i, Value.ref a) :: lv.filter (fun q => !(q.1 == i) && !(q.1 + 1 == i && q.2.category == 2)) = lv') (k : cbG Γ nL ws x y (pc + 1) lv' S) : cbG Γ nL ws x y pc lv (.ref a :: S) := fun H locs ls hP hD hS h => lv_astore_n o.1 o.2.1 d hi h hn hl (fun ls2 h2 => k H locs ls2 hP hD hS h2)
theorem b_istoreN {Γ : Fr} {cc : ByteArray} {nL : Nat} {own : String} {fr lo : Nat} {ws : va_W} {x y pc : Nat} {lv : List (Nat × Value)} {S : List Value} (o : cbO Γ cc nL own fr lo) {i : Nat} {a : Int32} {j : Fin 4} {lv' : List (Nat × Value)} (d : decode cc pc = .ok (.istore_n j, 1)) (hi : (j : Nat) = i) (hn : i < nL) (hl : (i, Value.int a) :: lv.filter (fun q => !(q.1 == i) && !(q.1 + 1 == i && q.2.category == 2)) = lv') (k : cbG Γ nL ws x y (pc + 1) lv' S) : cbG Γ nL ws x y pc lv (.int a :: S) := fun H locs ls hP hD hS h => lv_istore_n o.1 o.2.1 d hi h hn hl (fun ls2 h2 => k H locs ls2 hP hD hS h2)
set_option maxRecDepth 100000 in
theorem w_all (D : va_G) (cl : ClassId × ClassId × ClassId) (a9 a10 : Nat → Nat) (q0 q1 q2 b : Nat) (adK adV : Nat → Nat) (κ0 : Cf) (e : κ0.2 = (D, cl)) : ca_w (kap a9 a10 q0 q1 q2 b adK adV, D, cl) m0 = w_X9 κ0 a9 ++ w_X10 κ0 a10 sF := by
  obtain ⟨f, c⟩ := κ0
  subst e
  apply List.ext_getElem?
  intro k
  by_cases h : k < 71
  · by_cases h2 : k < 36
    · rcases (by omega : k = 0 ∨ k = 1 ∨ k = 2 ∨ k = 3 ∨ k = 4 ∨ k = 5 ∨ k = 6 ∨ k = 7 ∨ k = 8 ∨ k = 9 ∨ k = 10 ∨ k = 11 ∨ k = 12 ∨ k = 13 ∨ k = 14 ∨ k = 15 ∨ k = 16 ∨ k = 17 ∨ k = 18 ∨ k = 19 ∨ k = 20 ∨ k = 21 ∨ k = 22 ∨ k = 23 ∨ k = 24 ∨ k = 25 ∨ k = 26 ∨ k = 27 ∨ k = 28 ∨ k = 29 ∨ k = 30 ∨ k = 31 ∨ k = 32 ∨ k = 33 ∨ k = 34 ∨ k = 35) with rfl | rfl | rfl | rfl | rfl | rfl | rfl | rfl | rfl | rfl | rfl | rfl | rfl | rfl | rfl | rfl | rfl | rfl | rfl | rfl | rfl | rfl | rfl | rfl | rfl | rfl | rfl | rfl | rfl | rfl | rfl | rfl | rfl | rfl | rfl | rfl
      · exact (ca_w_at (k := 0) rfl).trans rfl
      · exact (ca_w_at (k := 1) rfl).trans rfl
      · exact (ca_w_at (k := 2) rfl).trans rfl
      · exact (ca_w_at (k := 3) rfl).trans rfl
      · exact (ca_w_at (k := 4) rfl).trans rfl
      · exact (ca_w_at (k := 5) rfl).trans rfl
      · exact (ca_w_at (k := 6) rfl).trans rfl
      · exact (ca_w_at (k := 7) rfl).trans rfl
      · exact (ca_w_at (k := 8) rfl).trans rfl
      · exact (ca_w_at (k := 9) rfl).trans rfl
      · exact (ca_w_at (k := 10) rfl).trans rfl
      · exact (ca_w_at (k := 11) rfl).trans rfl
      · exact (ca_w_at (k := 12) rfl).trans rfl
      · exact (ca_w_at (k := 13) rfl).trans rfl
      · exact (ca_w_at (k := 14) rfl).trans rfl
      · exact (ca_w_at (k := 15) rfl).trans rfl
      · exact (ca_w_at (k := 16) rfl).trans rfl
      · exact (ca_w_at (k := 17) rfl).trans rfl
      · exact (ca_w_at (k := 18) rfl).trans rfl
      · exact (ca_w_at (k := 19) rfl).trans rfl
      · exact (ca_w_at (k := 20) rfl).trans rfl
      · exact (ca_w_at (k := 21) rfl).trans rfl
      · exact (ca_w_at (k := 22) rfl).trans rfl
      · exact (ca_w_at (k := 23) rfl).trans rfl
      · exact (ca_w_at (k := 24) rfl).trans rfl
      · exact (ca_w_at (k := 25) rfl).trans rfl
      · exact (ca_w_at (k := 26) rfl).trans rfl
      · exact (ca_w_at (k := 27) rfl).trans rfl
      · exact (ca_w_at (k := 28) rfl).trans rfl
      · exact (ca_w_at (k := 29) rfl).trans rfl
      · exact (ca_w_at (k := 30) rfl).trans rfl
      · exact (ca_w_at (k := 31) rfl).trans rfl
      · exact (ca_w_at (k := 32) rfl).trans rfl
      · exact (ca_w_at (k := 33) rfl).trans rfl
      · exact (ca_w_at (k := 34) rfl).trans rfl
      · exact (ca_w_at (k := 35) rfl).trans rfl
    · rcases (by omega : k = 36 ∨ k = 37 ∨ k = 38 ∨ k = 39 ∨ k = 40 ∨ k = 41 ∨ k = 42 ∨ k = 43 ∨ k = 44 ∨ k = 45 ∨ k = 46 ∨ k = 47 ∨ k = 48 ∨ k = 49 ∨ k = 50 ∨ k = 51 ∨ k = 52 ∨ k = 53 ∨ k = 54 ∨ k = 55 ∨ k = 56 ∨ k = 57 ∨ k = 58 ∨ k = 59 ∨ k = 60 ∨ k = 61 ∨ k = 62 ∨ k = 63 ∨ k = 64 ∨ k = 65 ∨ k = 66 ∨ k = 67 ∨ k = 68 ∨ k = 69 ∨ k = 70) with rfl | rfl | rfl | rfl | rfl | rfl | rfl | rfl | rfl | rfl | rfl | rfl | rfl | rfl | rfl | rfl | rfl | rfl | rfl | rfl | rfl | rfl | rfl | rfl | rfl | rfl | rfl | rfl | rfl | rfl | rfl | rfl | rfl | rfl | rfl
      · exact (ca_w_at (k := 36) rfl).trans rfl
      · exact (ca_w_at (k := 37) rfl).trans rfl
      · exact (ca_w_at (k := 38) rfl).trans rfl
      · exact (ca_w_at (k := 39) rfl).trans rfl
      · exact (ca_w_at (k := 40) rfl).trans rfl
      · exact (ca_w_at (k := 41) rfl).trans rfl
      · exact (ca_w_at (k := 42) rfl).trans rfl
      · exact (ca_w_at (k := 43) rfl).trans rfl
      · exact (ca_w_at (k := 44) rfl).trans rfl
      · exact (ca_w_at (k := 45) rfl).trans rfl
      · exact (ca_w_at (k := 46) rfl).trans rfl
      · exact (ca_w_at (k := 47) rfl).trans rfl
      · exact (ca_w_at (k := 48) rfl).trans rfl
      · exact (ca_w_at (k := 49) rfl).trans rfl
      · exact (ca_w_at (k := 50) rfl).trans rfl
      · exact (ca_w_at (k := 51) rfl).trans rfl
      · exact (ca_w_at (k := 52) rfl).trans rfl
      · exact (ca_w_at (k := 53) rfl).trans rfl
      · exact (ca_w_at (k := 54) rfl).trans rfl
      · exact (ca_w_at (k := 55) rfl).trans rfl
      · exact (ca_w_at (k := 56) rfl).trans rfl
      · exact (ca_w_at (k := 57) rfl).trans rfl
      · exact (ca_w_at (k := 58) rfl).trans rfl
      · exact (ca_w_at (k := 59) rfl).trans rfl
      · exact (ca_w_at (k := 60) rfl).trans rfl
      · exact (ca_w_at (k := 61) rfl).trans rfl
      · exact (ca_w_at (k := 62) rfl).trans rfl
      · exact (ca_w_at (k := 63) rfl).trans rfl
      · exact (ca_w_at (k := 64) rfl).trans rfl
      · exact (ca_w_at (k := 65) rfl).trans rfl
      · exact (ca_w_at (k := 66) rfl).trans rfl
      · exact (ca_w_at (k := 67) rfl).trans rfl
      · exact (ca_w_at (k := 68) rfl).trans rfl
      · exact (ca_w_at (k := 69) rfl).trans rfl
      · exact (ca_w_at (k := 70) rfl).trans rfl
  · have e1 : (ca_w (kap a9 a10 q0 q1 q2 b adK adV, D, cl) m0).length = 71 := by unfold ca_w; rw [List.length_mapIdx, ca_lay_len]
    have e2 : (w_X9 (f, D, cl) a9 ++ w_X10 (f, D, cl) a10 sF).length = 71 := rfl
    rw [List.getElem?_eq_none (by rw [e1]; omega), List.getElem?_eq_none (by rw [e2]; omega)]
theorem ca_D_of {κ : Cf} {A : Nat → Prop} {h : Mem} (hD : va_D A (ca_w κ h)) : ca_D κ ∧ ∀ q, ca_A κ q → A q := by
  have at' : ∀ i, i < 71 → ∃ e, (ca_w κ h)[i]? = some (κ.1 i, e) := fun i hi => ⟨_, ca_w_at (List.getElem?_eq_getElem (by rw [ca_lay_len]; exact hi))⟩
  refine ⟨fun i j hi hj e => ?_, fun q hq => ?_⟩
  · obtain ⟨x, hx⟩ := at' i hi
    obtain ⟨y, hy⟩ := at' j hj
    exact hD.1 i j _ _ hx hy e
  · obtain ⟨k, hk, rfl⟩ := hq
    obtain ⟨x, hx⟩ := at' k hk
    exact hD.2 k _ hx
set_option maxRecDepth 100000 in
set_option maxHeartbeats 4000000 in
/-- from the loop on: two objects made, the script read to its end -/
theorem whole_run {p : Program} {e : Env} {s : State} {m : MethodId} {below : List Frame} {meth : Method} {c : Code} (l : Launch) {b L : Nat} {xs : Nat → Int32} (hL : L ≤ 384) (C0 : lw_At p s m meth c b L xs) (D : va_G) (cl : ClassId × ClassId × ClassId) (hK : va_K D vwCl [(cl.1, .int), (cl.2.1, .boolean), (cl.2.2, .long)] s) (q0 q1 q2 : Nat) (adK adV : Nat → Nat) (hXX : ∀ κ : Cf, κ.1 900 = q0 → κ.1 901 = q1 → κ.1 950 = q2 → (∀ i, i < 12 → κ.1 (1000 + i) = adK i) → (∀ i, i < 12 → κ.1 (1100 + i) = adV i) → ca_X κ (fun q : Nat => s.heap.size ≤ q) s)
    (a9 a10 : Nat → Nat) (κ : Cf) (eκ : κ = (kap a9 a10 q0 q1 q2 b adK adV, D, cl)) (H : Heap) (locs : List Loc) (ls : Array Slot) (hP : va_P D vwCl (ca_w κ m0) H) (hD : va_D (fun q : Nat => s.heap.size ≤ q) (ca_w κ m0)) (hS : va_S (fun q : Nat => s.heap.size ≤ q) s.heap H locs) (hl : lv_has ls 4 [(3, .int (nI 0)), (2, .ref (a10 0)), (1, .ref (a9 0)), (0, .ref b)]) :
    W p l e room_1 s m #[Value.ref b] below meth c H locs 71 101354 (lw_Z below #[Value.ref b] s) (F0 m 18 ls []) := by
  obtain ⟨hx, hb, hr, hml, hown, hts, hX, hbl, hlocks, hgv⟩ := C0
  obtain ⟨cD, cA⟩ := ca_D_of hD
  have hT0 : ∀ w ∈ T0, w.before #[Value.ref b] s = true := fun w hw => hts w (List.mem_filter.mp hw).1
  have hE : ca_E κ (fun q : Nat => s.heap.size ≤ q) s := by
    refine ⟨?_, cD, st_nest hts, hXX κ ?_ ?_ ?_ (fun i hi => ?_) (fun i hi => ?_)⟩
    · rw [eκ]; exact hK
    · rw [eκ]; rfl
    · rw [eκ]; rfl
    · rw [eκ]; rfl
    · rw [eκ]; exact kap_K a9 a10 q0 q1 q2 b adK adV i hi
    · rw [eκ]; exact kap_V a9 a10 q0 q1 q2 b adK adV i hi
  have e960 : κ.1 960 = b := by rw [eκ]; rfl
  have e0 : κ.1 0 = a9 0 := by rw [eκ]; rfl
  have e51 : κ.1 51 = a10 0 := by rw [eκ]; rfl
  have eD : κ.2.1 = D := by rw [eκ]
  have o : ca_O (p, l, e, room_1, s, m, #[Value.ref b], below, meth, c, lw_Z below #[Value.ref b] s, κ, (fun q : Nat => s.heap.size ≤ q), 71, 101354) cL_law 4 RL 13 492 := ⟨hx, hb, hml, hown, hT0, hlocks, hE, cA, Nat.le_refl _, Nat.le_refl _, Nat.le_refl _, Nat.le_refl _⟩
  have sc : scO (p, l, e, room_1, s, m, #[Value.ref b], below, meth, c, lw_Z below #[Value.ref b] s, κ, (fun q : Nat => s.heap.size ≤ q), 71, 101354) L xs := by
    show va_X (κ.1 960) L xs s s.heap ∧ κ.1 960 < s.heap.size ∧ ¬ s.heap.size ≤ κ.1 960
    rw [e960]
    exact ⟨hX, hbl, Nat.not_le.mpr hbl⟩
  have hl2 : ca_l κ ls 4 (lwL 0) := by
    refine ⟨hl.1, hl.2.1, fun i v hi => ?_⟩
    match i, hi with
    | 0, hi =>
      have hi : v = .ref 960 := by simpa using hi.symm
      subst hi
      show ls[0]? = some (.val (.ref (κ.1 960)))
      rw [e960]
      exact lv_at hl 3 rfl
    | 1, hi =>
      have hi : v = .ref 0 := by simpa using hi.symm
      subst hi
      show ls[1]? = some (.val (.ref (κ.1 0)))
      rw [e0]
      exact lv_at hl 2 rfl
    | 2, hi =>
      have hi : v = .ref 51 := by simpa using hi.symm
      subst hi
      show ls[2]? = some (.val (.ref (κ.1 51)))
      rw [e51]
      exact lv_at hl 1 rfl
    | 3, hi =>
      have hi : v = .int (nI 0) := by simpa using hi.symm
      subst hi
      exact lv_at hl 0 rfl
    | i + 4, hi => simp at hi
  have fin : ∀ (h : Mem) (n : Nat), ca_G (p, l, e, room_1, s, m, #[Value.ref b], below, meth, c, lw_Z below #[Value.ref b] s, κ, (fun q : Nat => s.heap.size ≤ q), 71, 101354) 4 h 1856 (lwL n) [] := fun h n H locs ls hP hS hl => lv_iconst (v := 1) hx hb dL_law_1856 rfl (va_forget hS.2.2 (lw_ret hx hb hr hlocks dL_law_1857))
  exact lw_loop o sc (by omega) fin (L + 1) 0 m0 (Nat.zero_le L) (by omega) LV_0 H locs ls (by rw [← eD] at hP; exact hP) hS hl2
set_option maxRecDepth 100000 in
set_option maxHeartbeats 4000000 in
theorem whole_start {p : Program} {e : Env} {s : State} {m : MethodId} {below : List Frame} {meth : Method} {c : Code} (l : Launch) (hflags : l.flags = flags0) {b L : Nat} {xs : Nat → Int32} (hL : L ≤ 384) (C0 : lw_At p s m meth c b L xs) : W p l e room_1 s m #[Value.ref b] below meth c s.heap [] 0 0 (lw_Z below #[Value.ref b] s) (entryFrame m ([Value.ref b] : List Value).toArray 4) := by
  obtain ⟨hx, hb, hr, hml, hown, hts, hX, hbl, hlocks, hgv⟩ := id C0
  have hT0 : ∀ w ∈ T0, w.before #[Value.ref b] s = true := fun w hw => hts w (List.mem_filter.mp hw).1
  obtain ⟨D, cl, hK⟩ := st_K hT0
  obtain ⟨q0, q1, q2, adK, adV, hXX⟩ := st_X hts hgv
  have hl := lv_entry [.ref b] (n := 4) (Nat.le_of_ble_eq_true rfl)
  rw [lg_entry_eq]
  have o : cbO (p, l, e, room_1, s, m, #[Value.ref b], below, meth, c, lw_Z below #[Value.ref b] s, (fun _ => 0, D, cl), (fun q : Nat => s.heap.size ≤ q), 71, 101354) cL_law 4 RL 13 492 := ⟨hx, hb, hml, hown, hT0, hlocks, ⟨hK, st_nest hts⟩, fun _ h => h, Nat.le_refl _, Nat.le_refl _, Nat.le_refl _, Nat.le_refl _⟩
  have main : cbG (p, l, e, room_1, s, m, #[Value.ref b], below, meth, c, lw_Z below #[Value.ref b] s, (fun _ => 0, D, cl), (fun q : Nat => s.heap.size ≤ q), 71, 101354) 4 [] 0 0 0 [(0, .ref b)] [] := by
    refine b_sub (pc := 0) o k_X9 mt_X9_init wi_X9 rfl wc_L_7 wn_X9 inX9 tyX9_ok rfl hfs_X9 (Or.inr lk_L_9) (by decide) (Nat.le_of_ble_eq_true rfl) (Nat.le_of_ble_eq_true rfl) (Nat.le_of_ble_eq_true rfl) dL_law_0 dL_law_3 dL_law_4 (fun r9 w9 u9 => ?_)
    obtain ⟨a9, rfl, rfl⟩ := u9
    refine b_astoreN (pc := 7) (lv' := [(1, .ref (a9 0)), (0, .ref b)]) o dL_law_7 rfl (by decide) rfl ?_
    refine b_sub (pc := 8) o k_X10 mt_X10_init wi_X10 rfl wc_L_10 wn_X10 inX10 tyX10_ok rfl hfs_X10 (Or.inr lk_L_12) (by decide) (Nat.le_of_ble_eq_true rfl) (Nat.le_of_ble_eq_true rfl) (Nat.le_of_ble_eq_true rfl) dL_law_8 dL_law_11 dL_law_12 (fun r10 w10 u10 => ?_)
    obtain ⟨a10, rfl, rfl⟩ := u10
    refine b_astoreN (pc := 15) (lv' := [(2, .ref (a10 0)), (1, .ref (a9 0)), (0, .ref b)]) o dL_law_15 rfl (by decide) rfl ?_
    refine b_iconst (pc := 16) o dL_law_16 (nI 0) (by decide) ?_
    refine b_istoreN (pc := 17) (lv' := [(3, .int (nI 0)), (2, .ref (a10 0)), (1, .ref (a9 0)), (0, .ref b)]) o dL_law_17 rfl (by decide) rfl ?_
    intro H locs ls hP hD hS hl
    have ew := w_all D cl a9 a10 q0 q1 q2 b adK adV (fun _ => 0, D, cl) rfl
    exact whole_run l hL C0 D cl hK q0 q1 q2 adK adV hXX a9 a10 _ rfl H locs ls (by rw [ew]; exact hP) (by rw [ew]; exact hD) hS hl
  exact main s.heap [] _ (fun k q h => by simp at h) ⟨fun i j p q h => by simp at h, fun k q h => by simp at h⟩ va_S.rf hl

