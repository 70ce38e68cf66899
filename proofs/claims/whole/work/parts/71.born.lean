/-! ===== making cells: words, and rows over a growing world ===== -/
theorem wc_L_7 : Cond.classLink RL 7 RX9 ∈ T0 := tb1 (i := 19) (by decide +kernel) rfl
theorem wn_X9 : Cond.instantiable RX9 10 ∈ T0 := tb1 (i := 20) (by decide +kernel) rfl
theorem wi_X9 : Cond.instanceMethod yX9_init ∈ T0 := tb1 (i := 22) (by decide +kernel) rfl
theorem wo_inst : Cond.instanceMethod Lib.objectInit ∈ T0 := tb1 (i := 25) (by decide +kernel) rfl
theorem wo_code : Cond.code Lib.objectInit ⟨#[0xb1]⟩ 1 none ∈ T0 := tb1 (i := 26) (by decide +kernel) rfl
theorem wc_X9_7 : Cond.classLink RX9 7 RX0 ∈ T0 := tb1 (i := 27) (by decide +kernel) rfl
theorem wn_X0 : Cond.instantiable RX0 7 ∈ T0 := tb1 (i := 28) (by decide +kernel) rfl
theorem wi_X0 : Cond.instanceMethod yX0_init ∈ T0 := tb1 (i := 30) (by decide +kernel) rfl
theorem wc_X0_9 : Cond.classLink RX0 9 RX2 ∈ T0 := tb1 (i := 33) (by decide +kernel) rfl
theorem wn_X2 : Cond.instantiable RX2 1 ∈ T0 := tb1 (i := 34) (by decide +kernel) rfl
theorem wi_X2 : Cond.instanceMethod yX2_init ∈ T0 := tb1 (i := 36) (by decide +kernel) rfl
theorem wa_int : Cond.arrayClass .int ∈ T0 := tb1 (i := 43) (by decide +kernel) rfl
theorem wc_X0_18 : Cond.classLink RX0 18 RX5 ∈ T0 := tb1 (i := 44) (by decide +kernel) rfl
theorem wn_X5 : Cond.instantiable RX5 2 ∈ T0 := tb1 (i := 45) (by decide +kernel) rfl
theorem wi_X5 : Cond.instanceMethod yX5_init ∈ T0 := tb1 (i := 47) (by decide +kernel) rfl
theorem wc_X0_25 : Cond.classLink RX0 25 RX7 ∈ T0 := tb1 (i := 57) (by decide +kernel) rfl
theorem wn_X7 : Cond.instantiable RX7 2 ∈ T0 := tb1 (i := 58) (by decide +kernel) rfl
theorem wi_X7 : Cond.instanceMethod yX7_init ∈ T0 := tb1 (i := 60) (by decide +kernel) rfl
theorem wc_X0_32 : Cond.classLink RX0 32 RX6 ∈ T0 := tb1 (i := 70) (by decide +kernel) rfl
theorem wn_X6 : Cond.instantiable RX6 4 ∈ T0 := tb1 (i := 71) (by decide +kernel) rfl
theorem wi_X6 : Cond.instanceMethod yX6_init ∈ T0 := tb1 (i := 73) (by decide +kernel) rfl
theorem wc_X9_23 : Cond.classLink RX9 23 RX3 ∈ T0 := tb1 (i := 124) (by decide +kernel) rfl
theorem wn_X3 : Cond.instantiable RX3 11 ∈ T0 := tb1 (i := 125) (by decide +kernel) rfl
theorem wi_X3 : Cond.instanceMethod yX3_init ∈ T0 := tb1 (i := 127) (by decide +kernel) rfl
theorem wc_X9_30 : Cond.classLink RX9 30 RX4 ∈ T0 := tb1 (i := 164) (by decide +kernel) rfl
theorem wn_X4 : Cond.instantiable RX4 3 ∈ T0 := tb1 (i := 165) (by decide +kernel) rfl
theorem wi_X4 : Cond.instanceMethod yX4_init ∈ T0 := tb1 (i := 167) (by decide +kernel) rfl
theorem wc_X9_37 : Cond.classLink RX9 37 RX1 ∈ T0 := tb1 (i := 180) (by decide +kernel) rfl
theorem wn_X1 : Cond.instantiable RX1 10 ∈ T0 := tb1 (i := 181) (by decide +kernel) rfl
theorem wi_X1 : Cond.instanceMethod yX1_init ∈ T0 := tb1 (i := 183) (by decide +kernel) rfl
theorem wa_long : Cond.arrayClass .long ∈ T0 := tb1 (i := 217) (by decide +kernel) rfl
theorem wc_X9_44 : Cond.classLink RX9 44 RX8 ∈ T0 := tb1 (i := 218) (by decide +kernel) rfl
theorem wn_X8 : Cond.instantiable RX8 3 ∈ T0 := tb1 (i := 219) (by decide +kernel) rfl
theorem wi_X8 : Cond.instanceMethod yX8_init ∈ T0 := tb1 (i := 221) (by decide +kernel) rfl
theorem wa_byte : Cond.arrayClass .byte ∈ T0 := tb4 (i := 173) (by decide +kernel) rfl
theorem wc_L_10 : Cond.classLink RL 10 RX10 ∈ T0 := tb5 (i := 87) (by decide +kernel) rfl
theorem wn_X10 : Cond.instantiable RX10 29 ∈ T0 := tb5 (i := 88) (by decide +kernel) rfl
theorem wi_X10 : Cond.instanceMethod yX10_init ∈ T0 := tb5 (i := 90) (by decide +kernel) rfl
theorem wa_boolean : Cond.arrayClass .boolean ∈ T0 := tb5 (i := 181) (by decide +kernel) rfl
def bnE (κ : Cf) (U : State) : Prop := va_K κ.2.1 vwCl (ca_tys κ) U ∧ ∀ w ∈ ca_nest, va_Nw w U
theorem bnE.go {κ : Cf} {s U : State} (h : bnE κ s) (hW : s.WarmedH U.vm) : bnE κ U := ⟨h.1.moved hW.alike, fun w hw => by
  obtain ⟨a, i, x, hh, rfl⟩ := ca_nest_form w hw
  exact va_Nw.warmM hW (h.2 _ hw)⟩
theorem bnE.same {κ : Cf} {s U : State} (h : bnE κ s) (hv : U.vm = s.vm) : bnE κ U := ⟨h.1.moved (by rw [hv]; exact Vm.Alike.refl _), fun w hw => by
  obtain ⟨a, i, x, hh, rfl⟩ := ca_nest_form w hw
  exact va_Nw.same rfl hv.symm (h.2 _ hw)⟩
def cbG (Γ : Fr) (nL : Nat) (ws : va_W) (x y : Nat) (pc : Nat) (lv : List (Nat × Value)) (S : List Value) : Prop :=
  ∀ (H : Heap) (locs : List Loc) (ls : Array Slot), va_P (fK Γ).2.1 vwCl ws H → va_D (fW Γ) ws → va_S (fW Γ) (fS Γ).heap H locs → lv_has ls nL lv →
    W (fP Γ) (fL Γ) (fE Γ) (fR Γ) (fS Γ) (fM Γ) (fA Γ) (fB Γ) (fH Γ) (fC Γ) H locs x y (fQ Γ) (F0 (fM Γ) pc ls S)
def cbO (Γ : Fr) (cc : ByteArray) (nL : Nat) (own : String) (fr lo : Nat) : Prop :=
  (fP Γ).tables.exec = Jvm.exec ∧ (fC Γ).code = cc ∧ (fC Γ).maxLocals = nL ∧ (fS Γ).vm.findClass own = some (fM Γ).cls ∧ (∀ w ∈ T0, w.before (fA Γ) (fS Γ) = true) ∧ (fH Γ).locks = false ∧
  bnE (fK Γ) (fS Γ) ∧ (∀ q : Nat, (fS Γ).heap.size ≤ q → fW Γ q) ∧ fr ≤ (fR Γ).frames ∧ lo ≤ (fR Γ).locals ∧ (fX Γ) ≤ (fR Γ).cells ∧ (fY Γ) ≤ (fR Γ).slots
/-- a constructor: out of the bare cell at q comes a world w with Rw κ q w -/
def Bt (y : MethodName) (cc : ByteArray) (nL fr lo mc ms ci : Nat) (f0 : List Value) (Rw : Cf → Nat → va_W → Prop) : Prop :=
  ∀ (l : Launch) (κ : Cf) (q sz : Nat), Met l y (Cond.code y cc nL none :: T0) { frames := fr, cells := mc, slots := ms, locals := lo } (va_Pc [.ref q] (fun U => U.heap.size = sz ∧ va_P κ.2.1 vwCl [(q, .inr (ci, f0))] U.heap ∧ bnE κ U))
    (va_Qv (Rw κ q) (fun w t => va_P κ.2.1 vwCl w t.heap ∧ va_D (va_A [(q, .inr (ci, f0))] sz) w) (va_A [(q, .inr (ci, f0))] sz)) mc ms (va_A [(q, .inr (ci, f0))] sz)
def cbR (Γ : Fr) (mc ms : Nat) (q ci : Nat) (f0 : List Value) (Rw : Cf → Nat → va_W → Prop) : Prop :=
  (fH Γ).sig.returnType = none ∧ fQ Γ = MQ (fB Γ) (va_Qv (Rw (fK Γ) q) (fun w t => va_P (fK Γ).2.1 vwCl w t.heap ∧ va_D (va_A [(q, .inr (ci, f0))] (fS Γ).heap.size) w) (va_A [(q, .inr (ci, f0))] (fS Γ).heap.size)) (fA Γ) (fS Γ) mc ms (va_A [(q, .inr (ci, f0))] (fS Γ).heap.size) ∧
  fW Γ = va_A [(q, .inr (ci, f0))] (fS Γ).heap.size ∧ fX Γ = mc ∧ fY Γ = ms ∧ (fH Γ).name = "<init>"
theorem va_D_one (A : Nat → Prop) (x : Nat × va_E) (h : A x.1) : va_D A [x] := by
  refine ⟨fun i j p q hi hj _ => ?_, fun k q hk => ?_⟩
  · have h1 := (List.getElem?_eq_some_iff.mp hi).1
    have h2 := (List.getElem?_eq_some_iff.mp hj).1
    simp at h1 h2
    omega
  · have h1 := (List.getElem?_eq_some_iff.mp hk).1
    simp at h1
    subst h1
    cases hk
    exact h
theorem Bt.of {y : MethodName} {cc : ByteArray} {nL fr lo mc ms ci : Nat} {f0 : List Value} {Rw : Cf → Nat → va_W → Prop} (hy : plainName y.cls = true) (hn : 1 ≤ nL) (hi : y.name = "<init>")
    (body : ∀ (Γ : Fr) (q : Nat), cbO Γ cc nL y.cls fr lo → cbR Γ mc ms q ci f0 Rw → cbG Γ nL [(q, .inr (ci, f0))] 0 0 0 [(0, .ref q)] []) : Bt y cc nL fr lo mc ms ci f0 Rw := by
  intro l κ q sz
  refine Met.ofW (cc := cc) (maxL := nL) (ret := none) hy rfl ?_
  intro p e s m args below meth c s₁ B hml hv
  obtain ⟨rfl, rfl, hP, hE⟩ := hv
  have hts := atoms_spec (ws := Cond.code y cc nL none :: T0) B.pre
  have hown : s.vm.findClass y.cls = some m.cls := findClass_of_methodNamed B.named
  have hname : meth.name = "<init>" := (name_of_methodNamed B.named B.method).1.trans hi
  rw [lg_entry_eq]
  have hl := lv_entry [.ref q] (n := nL) hn
  exact body (p, l, e, _, s, m, _, below, meth, c, _, κ, va_A [(q, .inr (ci, f0))] s.heap.size, mc, ms) q ⟨B.exec, B.bytes, hml, hown, fun w hw => hts w (List.mem_cons_of_mem _ hw), B.notSynchronized, hE, fun _ h => Or.inr h, Nat.le_refl _, Nat.le_refl _, Nat.le_refl _, Nat.le_refl _⟩ ⟨B.returns, rfl, rfl, rfl, rfl, hname⟩ s.heap [] _ hP (va_D_one _ _ (Or.inl ⟨0, _, rfl⟩)) va_S.rf hl
theorem cb_join {A0 : Nat → Prop} {D : va_G} {ws w1 : va_W} {x : Nat × va_E} {H H1 : Heap} (hP : va_P D vwCl (ws ++ [x]) H) (hD : va_D A0 (ws ++ [x])) (hk : ∀ q : Nat, q < H.size → ¬ va_A [x] H.size q → H1[q]? = H[q]?) (hF : ∀ q, va_A [x] H.size q → A0 q) (hP1 : va_P D vwCl w1 H1) (hD1 : va_D (va_A [x] H.size) w1) : va_P D vwCl (ws ++ w1) H1 ∧ va_D A0 (ws ++ w1) := by
  have ap : ∀ (k : Nat) (q : Nat × va_E), ws[k]? = some q → (ws ++ [x])[k]? = some q := fun k q hq => by
    rw [List.getElem?_append_left (List.getElem?_eq_some_iff.mp hq).1]; exact hq
  have la : (ws ++ [x])[ws.length]? = some x := by rw [List.getElem?_append_right (Nat.le_refl _), Nat.sub_self]; rfl
  have apart : ∀ (k : Nat) (q : Nat × va_E), ws[k]? = some q → q.1 < H.size ∧ ¬ va_A [x] H.size q.1 := by
    intro k q hq
    have hl := (hP k q (ap k q hq)).lt
    refine ⟨hl, fun h => ?_⟩
    rcases h with ⟨k2, e, h⟩ | h
    · have h1 := (List.getElem?_eq_some_iff.mp h).1
      simp at h1
      subst h1
      have h : x = (q.1, e) := by simpa using h
      have hij := hD.1 k ws.length q x (ap k q hq) la (by rw [h])
      have := (List.getElem?_eq_some_iff.mp hq).1
      omega
    · omega
  refine ⟨va_P.app (fun k q hq => ?_) hP1, va_D.app ⟨fun i j p q hi hj e => hD.1 i j p q (ap i p hi) (ap j q hj) e, fun k q hq => hD.2 k q (ap k q hq)⟩ (hD1.weaken (fun k q _ h => hF q.1 h)) (fun i j u v hu hv huv => ?_)⟩
  · obtain ⟨g1, g2⟩ := apart k q hq
    exact (hP k q (ap k q hq)).kept (hk q.1 g1 g2)
  · exact (apart i u hu).2 (by rw [huv]; exact hD1.2 j v hv)
section CB
variable {Γ : Fr} {cc : ByteArray} {nL : Nat} {own : String} {fr lo : Nat} {ws pl : va_W} {x y pc : Nat} {lv : List (Nat × Value)} {S : List Value}
theorem b_aload (o : cbO Γ cc nL own fr lo) {a : Nat} (j : Nat) (hv : lv[j]? = some (0, .ref a)) (d : decode cc pc = .ok (.aload_n 0, 1)) (k : cbG Γ nL ws x y (pc + 1) lv (.ref a :: S)) : cbG Γ nL ws x y pc lv S := fun H locs ls hP hD hS hl => lv_aload_n o.1 o.2.1 d rfl (lv_at hl j hv) (k H locs ls hP hD hS hl)
theorem b_iload (o : cbO Γ cc nL own fr lo) {a : Int32} (j : Nat) (hv : lv[j]? = some (1, .int a)) (d : decode cc pc = .ok (.iload_n 1, 1)) (k : cbG Γ nL ws x y (pc + 1) lv (.int a :: S)) : cbG Γ nL ws x y pc lv S := fun H locs ls hP hD hS hl => lv_iload_n o.1 o.2.1 d rfl (lv_at hl j hv) (k H locs ls hP hD hS hl)
theorem b_iconst (o : cbO Γ cc nL own fr lo) {n : Int} (d : decode cc pc = .ok (.iconst n, 1)) (v : Int32) (hv : Int32.ofInt n = v) (k : cbG Γ nL ws x y (pc + 1) lv (.int v :: S)) : cbG Γ nL ws x y pc lv S := fun H locs ls hP hD hS hl => lv_iconst o.1 o.2.1 d hv (k H locs ls hP hD hS hl)
theorem b_bipush (o : cbO Γ cc nL own fr lo) {n : Int} (d : decode cc pc = .ok (.bipush n, 2)) (v : Int32) (hv : (Int8.ofInt n).toInt32 = v) (k : cbG Γ nL ws x y (pc + 2) lv (.int v :: S)) : cbG Γ nL ws x y pc lv S := fun H locs ls hP hD hS hl => lv_bipush o.1 o.2.1 d hv (k H locs ls hP hD hS hl)
theorem b_sipush (o : cbO Γ cc nL own fr lo) {n : Int} (d : decode cc pc = .ok (.sipush n, 3)) (v : Int32) (hv : (Int16.ofInt n).toInt32 = v) (k : cbG Γ nL ws x y (pc + 3) lv (.int v :: S)) : cbG Γ nL ws x y pc lv S := fun H locs ls hP hD hS hl => lv_sipush o.1 o.2.1 d hv (k H locs ls hP hD hS hl)
theorem b_iadd (o : cbO Γ cc nL own fr lo) {a b : Int32} (d : decode cc pc = .ok (.iadd, 1)) (k : cbG Γ nL ws x y (pc + 1) lv (.int (a + b) :: S)) : cbG Γ nL ws x y pc lv (.int b :: .int a :: S) := fun H locs ls hP hD hS hl => lv_iadd o.1 o.2.1 d (k H locs ls hP hD hS hl)
theorem b_istore (o : cbO Γ cc nL own fr lo) {a : Int32} {lv' : List (Nat × Value)} (d : decode cc pc = .ok (.istore_n 1, 1)) (hn : 1 < nL) (hl : (1, Value.int a) :: lv.filter (fun q => !(q.1 == 1) && !(q.1 + 1 == 1 && q.2.category == 2)) = lv') (k : cbG Γ nL ws x y (pc + 1) lv' S) : cbG Γ nL ws x y pc lv (.int a :: S) := fun H locs ls hP hD hS h => lv_istore_n o.1 o.2.1 d rfl h hn hl (fun ls2 h2 => k H locs ls2 hP hD hS h2)
theorem b_iinc (o : cbO Γ cc nL own fr lo) {a v : Int32} {lv' : List (Nat × Value)} (j : Nat) (hv : lv[j]? = some (1, .int a)) (d : decode cc pc = .ok (.iinc 1 1, 3)) (hw : a + Int32.ofInt 1 = v) (hn : 1 < nL) (hl : (1, Value.int v) :: lv.filter (fun q => !(q.1 == 1) && !(q.1 + 1 == 1 && q.2.category == 2)) = lv') (k : cbG Γ nL ws x y (pc + 3) lv' S) : cbG Γ nL ws x y pc lv S := fun H locs ls hP hD hS h => lv_iinc o.1 o.2.1 d h (k := j) hv hw hn hl (fun ls2 h2 => k H locs ls2 hP hD hS h2)
theorem b_ic_ge (o : cbO Γ cc nL own fr lo) {a b : Int32} {off : Int} (tgt : Nat) (d : decode cc pc = .ok (.if_icmp .ge off, 3)) (ht : (pc : Int) + off = (tgt : Int)) (kt : b ≤ a → cbG Γ nL ws x y tgt lv S) (kf : ¬ b ≤ a → cbG Γ nL ws x y (pc + 3) lv S) : cbG Γ nL ws x y pc lv (.int b :: .int a :: S) := fun H locs ls hP hD hS hl => lv_icmp_ge o.1 o.2.1 d ht (fun c => kt c H locs ls hP hD hS hl) (fun c => kf c H locs ls hP hD hS hl)
theorem b_goto (o : cbO Γ cc nL own fr lo) {off : Int} (tgt : Nat) (d : decode cc pc = .ok (.goto off, 3)) (ht : (pc : Int) + off = (tgt : Int)) (k : cbG Γ nL ws x y tgt lv S) : cbG Γ nL ws x y pc lv S := fun H locs ls hP hD hS hl => lv_goto o.1 o.2.1 d ht (k H locs ls hP hD hS hl)
theorem b_oinit (o : cbO Γ cc nL own fr lo) {idx a : Nat} (lk : Cond.methodLink own idx objectInit ∈ T0) (hf : 1 ≤ fr) (hlo : 20 ≤ lo) (d : decode cc pc = .ok (.invokespecial idx, 3)) (k : cbG Γ nL ws x y (pc + 3) lv []) : cbG Γ nL ws x y pc lv [.ref a] := fun H locs ls hP hD hS hl =>
  W.objInit (rest := []) o.1 o.2.1 o.2.2.2.1 (o.2.2.2.2.1 _ lk) (o.2.2.2.2.1 _ wo_inst) (o.2.2.2.2.1 _ wo_code) rfl (hl.1.trans o.2.2.1.symm) rfl d (Nat.le_trans hf o.2.2.2.2.2.2.2.2.1) (Nat.le_trans (Nat.le_trans (Nat.add_le_add_right (lv_room (st := []) (Nat.zero_le 8)) 12) hlo) o.2.2.2.2.2.2.2.2.2.1) (W.eq (g2 := F0 (fM Γ) (pc + 3) ls []) rfl (k H locs ls hP hD hS hl))
theorem b_new_int (o : cbO Γ cc nL own fr lo) {n : Int32} (N : Nat) (hn : ¬ n < 0) (hN : n.toNatClampNeg = N) (hb : N * componentBytes .int ≤ 536870912) (hx : x + 1 ≤ fX Γ) (hy : y + N ≤ fY Γ) (d : decode cc pc = .ok (.newarray .int, 2)) (k : ∀ r : Nat, cbG Γ nL (ws ++ [(r, .inl ((fK Γ).2.2.1, N, .inl fun _ => 0))]) (x + 1) (y + N) (pc + 2) lv (.ref r :: S)) : cbG Γ nL ws x y pc lv (.int n :: S) := fun H locs ls hP hD hS hl => by
  refine va_newa (atype := .int) (ty := .int) (a0 := (N, .inl fun _ => 0)) o.1 o.2.1 (o.2.2.2.2.1 _ wa_int) rfl o.2.2.2.2.2.2.1.1 hP hD hS o.2.2.2.2.2.2.2.1 (fun _ => rfl) hn hN hb (Nat.le_trans hx o.2.2.2.2.2.2.2.2.2.2.1) (Nat.le_trans hy o.2.2.2.2.2.2.2.2.2.2.2) d (fun r cA H1 hK1 hP1 hD1 hS1 => ?_)
  have e : cA = (fK Γ).2.2.1 := by
    have h1 := va_nm_int (hK1.2 3 (cA, .int) rfl).2
    have h2 := va_nm_int (o.2.2.2.2.2.2.1.1.2 0 _ rfl).2
    exact Option.some.inj (h1.symm.trans h2)
  subst e
  exact k r H1 locs ls hP1 hD1 hS1 hl
theorem b_new_boolean (o : cbO Γ cc nL own fr lo) {n : Int32} (N : Nat) (hn : ¬ n < 0) (hN : n.toNatClampNeg = N) (hb : N * componentBytes .boolean ≤ 536870912) (hx : x + 1 ≤ fX Γ) (hy : y + N ≤ fY Γ) (d : decode cc pc = .ok (.newarray .boolean, 2)) (k : ∀ r : Nat, cbG Γ nL (ws ++ [(r, .inl ((fK Γ).2.2.2.1, N, .inl fun _ => 0))]) (x + 1) (y + N) (pc + 2) lv (.ref r :: S)) : cbG Γ nL ws x y pc lv (.int n :: S) := fun H locs ls hP hD hS hl => by
  refine va_newa (atype := .boolean) (ty := .boolean) (a0 := (N, .inl fun _ => 0)) o.1 o.2.1 (o.2.2.2.2.1 _ wa_boolean) rfl o.2.2.2.2.2.2.1.1 hP hD hS o.2.2.2.2.2.2.2.1 (fun _ => rfl) hn hN hb (Nat.le_trans hx o.2.2.2.2.2.2.2.2.2.2.1) (Nat.le_trans hy o.2.2.2.2.2.2.2.2.2.2.2) d (fun r cA H1 hK1 hP1 hD1 hS1 => ?_)
  have e : cA = (fK Γ).2.2.2.1 := by
    have h1 := va_nm_boolean (hK1.2 3 (cA, .boolean) rfl).2
    have h2 := va_nm_boolean (o.2.2.2.2.2.2.1.1.2 1 _ rfl).2
    exact Option.some.inj (h1.symm.trans h2)
  subst e
  exact k r H1 locs ls hP1 hD1 hS1 hl
theorem b_new_long (o : cbO Γ cc nL own fr lo) {n : Int32} (N : Nat) (hn : ¬ n < 0) (hN : n.toNatClampNeg = N) (hb : N * componentBytes .long ≤ 536870912) (hx : x + 1 ≤ fX Γ) (hy : y + N ≤ fY Γ) (d : decode cc pc = .ok (.newarray .long, 2)) (k : ∀ r : Nat, cbG Γ nL (ws ++ [(r, .inl ((fK Γ).2.2.2.2, N, .inr (.inl fun _ => 0)))]) (x + 1) (y + N) (pc + 2) lv (.ref r :: S)) : cbG Γ nL ws x y pc lv (.int n :: S) := fun H locs ls hP hD hS hl => by
  refine va_newa (atype := .long) (ty := .long) (a0 := (N, .inr (.inl fun _ => 0))) o.1 o.2.1 (o.2.2.2.2.1 _ wa_long) rfl o.2.2.2.2.2.2.1.1 hP hD hS o.2.2.2.2.2.2.2.1 (fun _ => rfl) hn hN hb (Nat.le_trans hx o.2.2.2.2.2.2.2.2.2.2.1) (Nat.le_trans hy o.2.2.2.2.2.2.2.2.2.2.2) d (fun r cA H1 hK1 hP1 hD1 hS1 => ?_)
  have e : cA = (fK Γ).2.2.2.2 := by
    have h1 := va_nm_long (hK1.2 3 (cA, .long) rfl).2
    have h2 := va_nm_long (o.2.2.2.2.2.2.1.1.2 2 _ rfl).2
    exact Option.some.inj (h1.symm.trans h2)
  subst e
  exact k r H1 locs ls hP1 hD1 hS1 hl
theorem b_putF (o : cbO Γ cc nL own fr lo) (hin2 : (fH Γ).name = "<init>") {q ci : Nat} {fs : List Value} {C : String} {T : u_T} {N idx : Nat} (j : Nat) (hc : vwCl[ci]? = some (C, T, N)) (hin : ∀ w ∈ u_ws C T N, w ∈ T0) {ty : Nat → FieldType} (hty : ∀ k, k < N → parseFieldDescriptor (T k).2.2.1 = some (ty k)) (hnm : ∀ a, a < N → ∀ b, b < N → a ≠ b → (T a).2.1 ≠ (T b).2.1) (hj : j < N) (hlk : Cond.fieldLink own idx (T j).1 (T j).2.1 (T j).2.2.1 ∈ T0) (hfin : (T j).2.2.2 = true) (hdecl : (T j).1 = own) {v : Value} (hn : narrow (ty j) v = v) (hfit : fits (ty j) v = true) (hl : j < fs.length) (d : decode cc pc = .ok (.putfield idx, 3)) (k : cbG Γ nL ((q, .inr (ci, fs.set j v)) :: pl) x y (pc + 3) lv S) : cbG Γ nL ((q, .inr (ci, fs)) :: pl) x y pc lv (v :: .ref q :: S) := fun H locs ls hP hD hS h =>
  va_putF (T := T) o.1 o.2.1 o.2.2.2.2.1 hin ty hty hnm o.2.2.2.1 o.2.2.2.2.2.2.1.1 hP hD hS 0 rfl hc j hj (o.2.2.2.2.1 _ hlk) (fun _ z => z) hfin hin2 hdecl (hty j hj) hn hfit hl d (fun H1 locs1 hP1 hD1 hS1 => k H1 locs1 ls hP1 hD1 hS1 h)
theorem b_put (o : cbO Γ cc nL own fr lo) {q ci : Nat} {fs : List Value} {C : String} {T : u_T} {N idx : Nat} (j : Nat) (hc : vwCl[ci]? = some (C, T, N)) (hin : ∀ w ∈ u_ws C T N, w ∈ T0) {ty : Nat → FieldType} (hty : ∀ k, k < N → parseFieldDescriptor (T k).2.2.1 = some (ty k)) (hnm : ∀ a, a < N → ∀ b, b < N → a ≠ b → (T a).2.1 ≠ (T b).2.1) (hj : j < N) (hlk : Cond.fieldLink own idx (T j).1 (T j).2.1 (T j).2.2.1 ∈ T0) (hfin : (T j).2.2.2 = false) {v : Value} (hn : narrow (ty j) v = v) (hfit : fits (ty j) v = true) (hl : j < fs.length) (d : decode cc pc = .ok (.putfield idx, 3)) (k : cbG Γ nL ((q, .inr (ci, fs.set j v)) :: pl) x y (pc + 3) lv S) : cbG Γ nL ((q, .inr (ci, fs)) :: pl) x y pc lv (v :: .ref q :: S) := fun H locs ls hP hD hS h =>
  va_put (T := T) o.1 o.2.1 o.2.2.2.2.1 hin ty hty hnm o.2.2.2.1 o.2.2.2.2.2.2.1.1 hP hD hS 0 rfl hc j hj (o.2.2.2.2.1 _ hlk) (fun _ z => z) hfin (hty j hj) hn hfit hl d (fun H1 locs1 hP1 hD1 hS1 => k H1 locs1 ls hP1 hD1 hS1 h)
theorem b_get (o : cbO Γ cc nL own fr lo) {q ci : Nat} {fs : List Value} {C : String} {T : u_T} {N idx : Nat} (j : Nat) (i0 : Nat) (hw : ws[i0]? = some (q, .inr (ci, fs))) (hc : vwCl[ci]? = some (C, T, N)) (hin : ∀ w ∈ u_ws C T N, w ∈ T0) (hj : j < N) (hlk : Cond.fieldLink own idx (T j).1 (T j).2.1 (T j).2.2.1 ∈ T0) {v : Value} (hv : fs[j]? = some v) (d : decode cc pc = .ok (.getfield idx, 3)) (k : cbG Γ nL ws x y (pc + 3) lv (v :: S)) : cbG Γ nL ws x y pc lv (.ref q :: S) := fun H locs ls hP hD hS h =>
  va_get (T := T) o.1 o.2.1 o.2.2.2.2.1 hin o.2.2.2.1 o.2.2.2.2.2.2.1.1 hP i0 hw hc j hj (o.2.2.2.2.1 _ hlk) (fun _ z => z) (v := v) hv d (k H locs ls hP hD hS h)
theorem b_iast (o : cbO Γ cc nL own fr lo) {a n : Nat} {f : Nat → Int32} {i v : Int32} (i0 : Nat) (hw : ws[i0]? = some (a, .inl ((fK Γ).2.2.1, n, .inl f))) (j : Nat) (e : i = nI j) (hj : j < n) (hn : n < 2 ^ 31) (d : decode cc pc = .ok (.iastore, 1)) (k : cbG Γ nL (ws.set i0 (a, .inl ((fK Γ).2.2.1, n, .inl (upd f j v)))) x y (pc + 1) lv S) : cbG Γ nL ws x y pc lv (.int v :: .int i :: .ref a :: S) := fun H locs ls hP hD hS h => by
  obtain ⟨h1, h2⟩ := n_in e hj hn
  refine va_iast o.1 o.2.1 o.2.2.2.2.2.2.1.1 hP hD hS i0 0 hw rfl h1 d (fun H1 locs1 hP1 hD1 hS1 => ?_)
  rw [h2] at hP1 hD1
  exact k H1 locs1 ls hP1 hD1 hS1 h
theorem b_vret (o : cbO Γ cc nL own fr lo) {mc ms q ci : Nat} {f0 : List Value} {Rw : Cf → Nat → va_W → Prop} (r : cbR Γ mc ms q ci f0 Rw) (hw : Rw (fK Γ) q ws) (hx : x ≤ mc) (hy : y ≤ ms) (d : decode cc pc = .ok (.return_, 1)) : cbG Γ nL ws x y pc lv [] := fun H locs ls hP hD hS h => by
  obtain ⟨r1, r2, r3, r4, r5, r6⟩ := r
  rw [r3] at hD hS
  rw [r2]
  exact W.widen hx hy (W.vret o.1 o.2.1 r1 (fun t ht hW => ⟨⟨ws, rfl, hw, by rw [ht]; exact hP, hD⟩, hS.F ht⟩) hS.2.2 d o.2.2.2.2.2.1)
theorem b_sub (o : cbO Γ cc nL own fr lo) {z : MethodName} {cc2 : ByteArray} {nL2 fr2 lo2 mc ms ci2 : Nat} {f0 : List Value} {Rw : Cf → Nat → va_W → Prop} (K : Bt z cc2 nL2 fr2 lo2 mc ms ci2 f0 Rw) (mt : ca_mt z cc2 nL2 none 0) (mi : Cond.instanceMethod z ∈ T0) (hnm : z.name = "<init>") {i1 i2 : Nat} {T : u_T} {N : Nat} (hcl : Cond.classLink own i1 z.cls ∈ T0) (hin : Cond.instantiable z.cls N ∈ T0) (hws : ∀ w ∈ u_ws z.cls T N, w ∈ T0) {ty : Nat → FieldType} (hty : ∀ k, k < N → parseFieldDescriptor (T k).2.2.1 = some (ty k)) (hc : vwCl[ci2]? = some (z.cls, T, N)) (hfs : ∀ j, j < N → defaultValue (ty j) = vp_V f0 j) (hlk : (∃ host, Cond.methodLinkNest own i2 z host ∈ ca_nest) ∨ Cond.methodLink own i2 z ∈ T0)
    (hR : fr2 + 1 ≤ fr ∧ 8 + (nL2 + 11) + lo2 ≤ lo) (hx : x + 1 + mc ≤ fX Γ) (hy : y + N + ms ≤ fY Γ) (hcat : (((Value.ref 0 :: S).map fun v => v.category).sum ≤ 8)) (d1 : decode cc pc = .ok (.new i1, 3)) (d2 : decode cc (pc + 3) = .ok (.dup, 1)) (d3 : decode cc (pc + 4) = .ok (.invokespecial i2, 3))
    (k : ∀ (r : Nat) (w : va_W), Rw (fK Γ) r w → cbG Γ nL (ws ++ w) (x + 1 + mc) (y + N + ms) (pc + 7) lv (.ref r :: S)) : cbG Γ nL ws x y pc lv S := fun H locs ls hP hD hS hl => by
  obtain ⟨hx0, hb0, hml, hown, hts, hlocks, hE, hA, hfr, hlo, hce, hsl⟩ := o
  refine va_new (ci := ci2) (fs := f0) (C := z.cls) (T := T) (N := N) hx0 hb0 hts hws ty hty hown (hts _ hcl) (hts _ hin) (hts _ mt.2.1) hE.1 hP hD hS hA hc hfs (by omega) (by omega) d1 (fun r H1 hP1 hD1 hS1 => ?_)
  refine lv_dup hx0 hb0 d2 rfl ?_
  have la : (ws ++ [(r, Sum.inr (ci2, f0))])[ws.length]? = some (r, (Sum.inr (ci2, f0) : va_E)) := by rw [List.getElem?_append_right (Nat.le_refl _), Nat.sub_self]; rfl
  have hPc : va_P (fK Γ).2.1 vwCl [(r, .inr (ci2, f0))] H1 := fun k q hk => by
    have h1 := (List.getElem?_eq_some_iff.mp hk).1
    simp at h1
    subst h1
    cases hk
    exact hP1 ws.length _ la
  have hFc : ∀ q, va_A [(r, (Sum.inr (ci2, f0) : va_E))] H1.size q → fW Γ q := fun q hq => by
    rcases hq with ⟨k, e, hk⟩ | hq
    · have h1 := (List.getElem?_eq_some_iff.mp hk).1
      simp at h1
      subst h1
      cases hk
      exact hD1.2 ws.length _ la
    · exact hA q (Nat.le_trans hS1.1 hq)
  have hpre : PreS (fS Γ) H1 (va_Pc [.ref r] (fun U => U.heap.size = H1.size ∧ va_P (fK Γ).2.1 vwCl [(r, .inr (ci2, f0))] U.heap ∧ bnE (fK Γ) U)) [.ref r] := ⟨fun a U g mk q => ⟨q.1, q.2.1, q.2.2.1, q.2.2.2.same rfl⟩, fun U hU hW => ⟨rfl, by rw [hU], by rw [hU]; exact hPc, hE.go hW⟩⟩
  have hrun : va_Run (fP Γ) (fL Γ) (fE Γ) (fR Γ) (fS Γ) (fM Γ) (fA Γ) (fB Γ) (fH Γ) (fC Γ) H1 locs (x + 1) (y + N) mc ms (F0 (fM Γ) (pc + 3 + 1) ls (.ref r :: .ref r :: S)) (.ref r :: S) (va_Qv (Rw (fK Γ) r) (fun w t => va_P (fK Γ).2.1 vwCl w t.heap ∧ va_D (va_A [(r, .inr (ci2, f0))] H1.size) w) (va_A [(r, .inr (ci2, f0))] H1.size) [Value.ref r].toArray) (va_A [(r, .inr (ci2, f0))] H1.size) := by
    rcases hlk with ⟨host, h⟩ | h
    · exact va_runIN (Ts := T0) (As := []) (rest := .ref r :: S) (n := 0) ⟨hx0, hb0, hml, hown, hts⟩ (K (fL Γ) (fK Γ) r H1.size) ⟨va_cnB 0 hts (T0_code mt.1) rfl rfl rfl (hE.2 _ h) (hts _ mt.2.1) mt.2.2 ⟨Nat.le_trans hR.1 hfr, Nat.le_trans hR.2 hlo⟩, hnm, hts _ mi⟩ hpre rfl rfl hl.1 rfl (lv_room hcat) d3 ⟨by omega, by omega⟩
    · exact va_runI (Ts := T0) (As := []) (rest := .ref r :: S) (n := 0) ⟨hx0, hb0, hml, hown, hts⟩ (K (fL Γ) (fK Γ) r H1.size) ⟨callB_of 0 hts (T0_code mt.1) rfl rfl rfl (hts _ mt.2.1) (hts _ h) mt.2.2 ⟨Nat.le_trans hR.1 hfr, Nat.le_trans hR.2 hlo⟩, hnm, hts _ mi⟩ hpre rfl rfl hl.1 rfl (lv_room hcat) d3 ⟨by omega, by omega⟩
  refine va_callv hrun hS1 (fun q _ h => hFc q h) hFc (fun w t H2 locs2 ht hvm hw hB hz1 hk1 hS2 => ?_)
  obtain ⟨hP2, hD2⟩ := hB
  rw [ht] at hP2
  obtain ⟨hP3, hD3⟩ := cb_join hP1 hD1 hk1 hFc hP2 hD2
  exact k r w hw H2 locs2 ls hP3 hD3 hS2 hl
end CB

