/-! ===== THE WORLD: a fixed layout of places; a memory gives what the places hold ===== -/
abbrev Mem : Type := (Nat → Nat → Int32) × (Nat → Int64)
abbrev Cf : Type := (Nat → Nat) × va_G × (ClassId × ClassId × ClassId)
abbrev Lay : Type := (Nat × List (Option Nat)) ⊕ (Nat × Nat)
def ca_z (κ : Cf) (v : Value) : Value := match v with
  | .ref k => .ref (κ.1 k)
  | w => w
def ca_fs (κ : Cf) (g : Nat → Int32) : Nat → List (Option Nat) → List Value
  | _, [] => []
  | i, some j :: t => .ref (κ.1 j) :: ca_fs κ g (i + 1) t
  | i, none :: t => .int (g i) :: ca_fs κ g (i + 1) t
def ca_ar (κ : Cf) (h : Mem) (k : Nat) (a : Nat × Nat) : ClassId × vp_A := match a.1 with
  | 0 => (κ.2.2.1, a.2, .inl (h.1 k))
  | 1 => (κ.2.2.2.1, a.2, .inl (h.1 k))
  | _ => (κ.2.2.2.2, a.2, .inr (.inl h.2))
def ca_e (κ : Cf) (h : Mem) (k : Nat) (x : Lay) : va_E := match x with
  | .inl o => .inr (o.1, ca_fs κ (h.1 k) 0 o.2)
  | .inr a => .inl (ca_ar κ h k a)
def ca_lay : List Lay := [.inl (9, [some 1, some 15, none, some 29, some 30, some 34, some 38, some 47, some 50, none]), .inl (0, [some 2, some 4, some 6, some 8, some 13, some 14, none]), .inl (2, [some 3]), .inr (0, 8), .inl (5, [some 5, none]), .inr (0, 240), .inl (7, [some 7, none]), .inr (0, 84), .inl (6, [some 9, some 10, some 11, some 12]), .inr (0, 5), .inr (0, 5), .inr (0, 30), .inr (0, 6), .inr (0, 6), .inr (0, 10), .inl (0, [some 16, some 18, some 20, some 22, some 27, some 28, none]), .inl (2, [some 17]), .inr (0, 8), .inl (5, [some 19, none]), .inr (0, 240), .inl (7, [some 21, none]), .inr (0, 84), .inl (6, [some 23, some 24, some 25, some 26]), .inr (0, 5), .inr (0, 5), .inr (0, 30), .inr (0, 6), .inr (0, 6), .inr (0, 10), .inr (0, 7), .inl (3, [some 31, none, some 32, none, none, none, none, none, none, none, some 33]), .inr (0, 120), .inr (0, 160), .inr (0, 6), .inl (4, [some 35, some 36, some 37]), .inr (0, 4), .inr (0, 4), .inr (0, 160), .inl (1, [some 39, some 40, some 41, some 42, some 43, some 44, some 45, some 46, none, none]), .inr (0, 24), .inr (0, 8), .inr (0, 192), .inr (0, 24576), .inr (2, 24576), .inr (0, 8192), .inr (0, 8192), .inr (0, 8), .inl (8, [some 48, some 49, none]), .inr (0, 24), .inr (0, 4), .inr (0, 24), .inl (10, [some 52, some 53, some 54, some 55, none, some 56, some 57, some 58, some 59, none, none, none, some 60, some 61, some 62, none, some 63, some 64, some 65, some 66, none, none, none, none, none, some 67, some 68, some 69, some 70]), .inr (0, 337), .inr (0, 337), .inr (0, 337), .inr (0, 7), .inr (0, 24), .inr (0, 5), .inr (0, 5), .inr (0, 5), .inr (0, 8192), .inr (0, 8192), .inr (0, 24), .inr (1, 8192), .inr (1, 8192), .inr (0, 10), .inr (0, 120), .inr (0, 4), .inr (0, 4), .inr (0, 160), .inr (0, 40)]
def ca_w (κ : Cf) (h : Mem) : va_W := ca_lay.mapIdx (fun k x => (κ.1 k, ca_e κ h k x))
theorem ca_w_at {κ : Cf} {h : Mem} {k : Nat} {x : Lay} (hk : ca_lay[k]? = some x) : (ca_w κ h)[k]? = some (κ.1 k, ca_e κ h k x) := by
  simp [ca_w, hk]
theorem ca_w_of {κ : Cf} {h : Mem} {k : Nat} {q : Nat × va_E} (hk : (ca_w κ h)[k]? = some q) : ∃ x, ca_lay[k]? = some x ∧ q = (κ.1 k, ca_e κ h k x) := by
  simp only [ca_w, List.getElem?_mapIdx, Option.map_eq_some_iff] at hk
  obtain ⟨x, h1, h2⟩ := hk
  exact ⟨x, h1, h2.symm⟩
def mw (h : Mem) (k i : Nat) (v : Int32) : Mem := (fun j => if j = k then upd (h.1 k) i v else h.1 j, h.2)
def ml (h : Mem) (i : Nat) (v : Int64) : Mem := (h.1, vp_updL h.2 i v)
def mcp (h : Mem) (ks kd sp dp n : Nat) : Mem := (fun j => if j = kd then va_cpy (h.1 ks) (h.1 kd) sp dp n else h.1 j, h.2)
theorem mw_same (h : Mem) (k i : Nat) (v : Int32) : (mw h k i v).1 k = upd (h.1 k) i v := by simp [mw]
theorem mw_ne (h : Mem) {k j : Nat} (i : Nat) (v : Int32) (hj : j ≠ k) : (mw h k i v).1 j = h.1 j := by simp [mw, hj]
theorem mw_2 (h : Mem) (k i : Nat) (v : Int32) : (mw h k i v).2 = h.2 := rfl
theorem mcp_same (h : Mem) (ks kd sp dp n : Nat) : (mcp h ks kd sp dp n).1 kd = va_cpy (h.1 ks) (h.1 kd) sp dp n := by simp [mcp]
theorem mcp_ne (h : Mem) {ks kd j : Nat} (sp dp n : Nat) (hj : j ≠ kd) : (mcp h ks kd sp dp n).1 j = h.1 j := by simp [mcp, hj]
theorem ca_e_off {κ : Cf} {h h' : Mem} {k : Nat} (x : Lay) (h1 : h'.1 k = h.1 k) (h2 : h'.2 = h.2) : ca_e κ h' k x = ca_e κ h k x := by
  unfold ca_e ca_ar
  rw [h1, h2]
theorem ca_w_set {κ : Cf} {h h' : Mem} {k : Nat} {x : Lay} {e : va_E} (hk : ca_lay[k]? = some x) (he : ca_e κ h' k x = e) (ho : ∀ (j : Nat) (y : Lay), j ≠ k → ca_lay[j]? = some y → ca_e κ h' j y = ca_e κ h j y) : (ca_w κ h).set k (κ.1 k, e) = ca_w κ h' := by
  apply List.ext_getElem?
  intro j
  by_cases hj : j = k
  · subst hj
    rw [List.getElem?_set_self (by have := ca_w_at (κ := κ) (h := h) hk; exact (List.getElem?_eq_some_iff.mp this).1), ca_w_at hk, he]
  · rw [List.getElem?_set_ne (Ne.symm hj)]
    cases hy : ca_lay[j]? with
    | none => simp [ca_w, hy]
    | some y => rw [ca_w_at hy, ca_w_at hy, ho j y hj hy]
theorem ca_w_mw {κ : Cf} {h : Mem} {k i : Nat} {v : Int32} {x : Lay} {e : va_E} (hk : ca_lay[k]? = some x) (he : ca_e κ (mw h k i v) k x = e) : (ca_w κ h).set k (κ.1 k, e) = ca_w κ (mw h k i v) :=
  ca_w_set hk he (fun j y hj _ => ca_e_off y (mw_ne h i v hj) rfl)
theorem ca_fs_set {κ : Cf} {g : Nat → Int32} {v : Int32} : ∀ (fs : List (Option Nat)) (i0 k : Nat), fs[k]? = some none → (ca_fs κ g i0 fs).set k (.int v) = ca_fs κ (upd g (i0 + k) v) i0 fs
  | [], i0, k, h => by simp at h
  | f :: t, i0, 0, h => by
    have hf : f = none := by simpa using h
    subst hf
    have ht : ∀ (t : List (Option Nat)) (a : Nat), i0 < a → ca_fs κ g a t = ca_fs κ (upd g (i0 + 0) v) a t := by
      intro t
      induction t with
      | nil => intro a _; rfl
      | cons b t ih =>
        intro a ha
        cases b with
        | none =>
          show Value.int (g a) :: ca_fs κ g (a + 1) t = Value.int (upd g (i0 + 0) v a) :: ca_fs κ (upd g (i0 + 0) v) (a + 1) t
          rw [ih (a + 1) (by omega)]
          simp [upd, show a ≠ i0 by omega]
        | some j =>
          show Value.ref (κ.1 j) :: ca_fs κ g (a + 1) t = Value.ref (κ.1 j) :: ca_fs κ (upd g (i0 + 0) v) (a + 1) t
          rw [ih (a + 1) (by omega)]
    show Value.int v :: ca_fs κ g (i0 + 1) t = Value.int (upd g (i0 + 0) v i0) :: ca_fs κ (upd g (i0 + 0) v) (i0 + 1) t
    rw [ht t (i0 + 1) (by omega)]
    simp [upd]
  | f :: t, i0, k + 1, h => by
    have h' : t[k]? = some none := by simpa using h
    have ih := ca_fs_set (κ := κ) (g := g) (v := v) t (i0 + 1) k h'
    have e : i0 + 1 + k = i0 + (k + 1) := by omega
    rw [e] at ih
    cases f with
    | none =>
      show Value.int (g i0) :: (ca_fs κ g (i0 + 1) t).set k (.int v) = Value.int (upd g (i0 + (k + 1)) v i0) :: ca_fs κ (upd g (i0 + (k + 1)) v) (i0 + 1) t
      rw [ih]
      simp [upd]
    | some j =>
      show Value.ref (κ.1 j) :: (ca_fs κ g (i0 + 1) t).set k (.int v) = Value.ref (κ.1 j) :: ca_fs κ (upd g (i0 + (k + 1)) v) (i0 + 1) t
      rw [ih]
theorem ca_fs_int {κ : Cf} {g : Nat → Int32} : ∀ (fs : List (Option Nat)) (i0 k : Nat), fs[k]? = some none → (ca_fs κ g i0 fs)[k]? = some (.int (g (i0 + k)))
  | [], i0, k, h => by simp at h
  | f :: t, i0, 0, h => by
    have hf : f = none := by simpa using h
    subst hf
    rfl
  | f :: t, i0, k + 1, h => by
    have h' : t[k]? = some none := by simpa using h
    have ih := ca_fs_int (κ := κ) (g := g) t (i0 + 1) k h'
    have e : i0 + 1 + k = i0 + (k + 1) := by omega
    rw [e] at ih
    cases f with
    | none => exact ih
    | some j => exact ih
theorem ca_fs_ref {κ : Cf} {g : Nat → Int32} {r : Nat} : ∀ (fs : List (Option Nat)) (i0 k : Nat), fs[k]? = some (some r) → (ca_fs κ g i0 fs)[k]? = some (.ref (κ.1 r))
  | [], i0, k, h => by simp at h
  | f :: t, i0, 0, h => by
    have hf : f = some r := by simpa using h
    subst hf
    rfl
  | f :: t, i0, k + 1, h => by
    have h' : t[k]? = some (some r) := by simpa using h
    have ih := ca_fs_ref (κ := κ) (g := g) t (i0 + 1) k h'
    cases f with
    | none => exact ih
    | some j => exact ih
theorem ca_fs_len {κ : Cf} {g : Nat → Int32} : ∀ (fs : List (Option Nat)) (i0 : Nat), (ca_fs κ g i0 fs).length = fs.length
  | [], _ => rfl
  | none :: t, i0 => by show (ca_fs κ g (i0 + 1) t).length + 1 = _; rw [ca_fs_len t]; rfl
  | some _ :: t, i0 => by show (ca_fs κ g (i0 + 1) t).length + 1 = _; rw [ca_fs_len t]; rfl
def ca_A (κ : Cf) : Nat → Prop := fun q => ∃ k, k < 71 ∧ q = κ.1 k
def ca_D (κ : Cf) : Prop := ∀ i j, i < 71 → j < 71 → κ.1 i = κ.1 j → i = j
theorem ca_lay_len : ca_lay.length = 71 := by decide +kernel
theorem ca_lay_lt {k : Nat} {x : Lay} (h : ca_lay[k]? = some x) : k < 71 := by
  have := (List.getElem?_eq_some_iff.mp h).1
  rw [ca_lay_len] at this
  exact this
theorem ca_D_w {κ : Cf} {A : Nat → Prop} (h : ca_D κ) (hA : ∀ q, ca_A κ q → A q) (m : Mem) : va_D A (ca_w κ m) := by
  refine ⟨fun i j p q hi hj e => ?_, fun k q hk => ?_⟩
  · obtain ⟨x, h1, rfl⟩ := ca_w_of hi
    obtain ⟨y, h2, rfl⟩ := ca_w_of hj
    exact h i j (ca_lay_lt h1) (ca_lay_lt h2) e
  · obtain ⟨x, h1, rfl⟩ := ca_w_of hk
    exact hA _ ⟨k, ca_lay_lt h1, rfl⟩
theorem ca_w_A {κ : Cf} {m : Mem} {sz : Nat} {q : Nat} (h : ca_A κ q) : va_A (ca_w κ m) sz q := by
  obtain ⟨k, hk, rfl⟩ := h
  have hk' : k < ca_lay.length := by rw [ca_lay_len]; exact hk
  exact Or.inl ⟨k, _, ca_w_at (List.getElem?_eq_getElem hk')⟩
/-! ===== the words of the tables that stay good ===== -/
def T0 : List Cond := lw_tbl.filter goodWord
theorem T0_mem {w : Cond} (h : w ∈ lw_tbl) (g : goodWord w = true) : w ∈ T0 := List.mem_filter.mpr ⟨h, g⟩
theorem T0_good : GoodIn T0 T0 := fun w h => ⟨h, good_of_word (List.mem_filter.mp h).2⟩
theorem T0_code {y : MethodName} {cc : ByteArray} {n : Nat} {ret : Option FieldType} (h : Cond.code y cc n ret ∈ T0) : GoodIn T0 (Cond.code y cc n ret :: T0) := fun w hw => by
  rcases List.mem_cons.mp hw with rfl | hw
  · exact T0_good _ h
  · exact T0_good _ hw
theorem tb {i : Nat} {w : Cond} (h : lw_tbl[i]? = some w) (g : goodWord w = true) : w ∈ T0 := T0_mem (List.mem_of_getElem? h) g
/-! ===== what holds beside the world: tables, nest links, statics, String constants ===== -/
def ca_asked : List Int32 := [0, 0, 1, 2, 0, 0, 3]
def ca_above : List Int32 := [-1, 0, 0, 2, 1, 0, 3]
def ca_nest : List Cond := [(Jvm.Cond.methodLinkNest "ReleaseTerms$Book" (11 : Nat) ({ cls := "ReleaseTerms$Places", name := "<init>", desc := "()V" } : Jvm.MethodName) "ReleaseTerms"), (Jvm.Cond.methodLinkNest "ReleaseTerms$Book" (20 : Nat) ({ cls := "ReleaseTerms$Sightings", name := "<init>", desc := "()V" } : Jvm.MethodName) "ReleaseTerms"), (Jvm.Cond.methodLinkNest "ReleaseTerms$Book" (27 : Nat) ({ cls := "ReleaseTerms$Terms", name := "<init>", desc := "()V" } : Jvm.MethodName) "ReleaseTerms"), (Jvm.Cond.methodLinkNest "ReleaseTerms$Book" (34 : Nat) ({ cls := "ReleaseTerms$Sureties", name := "<init>", desc := "()V" } : Jvm.MethodName) "ReleaseTerms"), (Jvm.Cond.methodLinkNest "ReleaseTerms" (25 : Nat) ({ cls := "ReleaseTerms$Reader", name := "<init>", desc := "()V" } : Jvm.MethodName) "ReleaseTerms"), (Jvm.Cond.methodLinkNest "ReleaseTerms" (32 : Nat) ({ cls := "ReleaseTerms$Sheets", name := "<init>", desc := "()V" } : Jvm.MethodName) "ReleaseTerms"), (Jvm.Cond.methodLinkNest "ReleaseTerms" (39 : Nat) ({ cls := "ReleaseTerms$DayWays", name := "<init>", desc := "()V" } : Jvm.MethodName) "ReleaseTerms"), (Jvm.Cond.methodLinkNest "ReleaseTerms" (46 : Nat) ({ cls := "ReleaseTerms$Trial", name := "<init>", desc := "()V" } : Jvm.MethodName) "ReleaseTerms"), (Jvm.Cond.methodLinkNest "ReleaseTerms$Places" (15 : Nat) ({ cls := "ReleaseTerms", name := "has", desc := "(II)Z" } : Jvm.MethodName) "ReleaseTerms"), (Jvm.Cond.methodLinkNest "ReleaseTerms$DayWays" (66 : Nat) ({ cls := "ReleaseTerms", name := "has", desc := "(II)Z" } : Jvm.MethodName) "ReleaseTerms"), (Jvm.Cond.methodLinkNest "ReleaseTerms$Sureties" (28 : Nat) ({ cls := "ReleaseTerms", name := "has", desc := "(II)Z" } : Jvm.MethodName) "ReleaseTerms"), (Jvm.Cond.methodLinkNest "ReleaseTerms$Reader" (83 : Nat) ({ cls := "ReleaseTerms", name := "isPerson", desc := "(I)Z" } : Jvm.MethodName) "ReleaseTerms")]
def ca_strs : List (Nat × String) := [(58, "road"), (75, "bail"), (100, "term"), (102, "barred"), (104, "report"), (106, "counted"), (108, "near"), (110, "weekly"), (112, "strict"), (87, "at"), (89, "hours"), (91, "days")]
def ca_slen : List Nat := [4, 4, 4, 6, 6, 7, 4, 6, 6, 2, 5, 4]
def ca_sbyt : List (List Int32) := [[114, 111, 97, 100], [98, 97, 105, 108], [116, 101, 114, 109], [98, 97, 114, 114, 101, 100], [114, 101, 112, 111, 114, 116], [99, 111, 117, 110, 116, 101, 100], [110, 101, 97, 114], [119, 101, 101, 107, 108, 121], [115, 116, 114, 105, 99, 116], [97, 116], [104, 111, 117, 114, 115], [100, 97, 121, 115]]
def ca_fmt (κ : Cf) (A : Nat → Prop) (U : State) : Prop := va_Z "jdk/internal/util/Preconditions" "SIOOBE_FORMATTER" "Ljava/util/function/BiFunction;" .null A U U.heap ∨ va_Z "jdk/internal/util/Preconditions" "SIOOBE_FORMATTER" "Ljava/util/function/BiFunction;" (.ref (κ.1 950)) A U U.heap
def ca_X (κ : Cf) (A : Nat → Prop) (U : State) : Prop :=
  va_Z "ReleaseTerms$Terms" "ASKED" "[I" (.ref (κ.1 900)) A U U.heap ∧ va_T .int (κ.1 900) 7 (fun j => .int (ca_asked.getD j 0)) A U U.heap ∧
  va_Z "ReleaseTerms$Terms" "ABOVE" "[I" (.ref (κ.1 901)) A U U.heap ∧ va_T .int (κ.1 901) 7 (fun j => .int (ca_above.getD j 0)) A U U.heap ∧
  va_Z "java/lang/String" "COMPACT_STRINGS" "Z" (.int 1) A U U.heap ∧ ca_fmt κ A U ∧
  (∀ (i : Nat) (q : Nat × String), ca_strs[i]? = some q → vk_R "ReleaseTerms$Reader" q.1 q.2 (κ.1 (1000 + i)) U) ∧
  vk_S 12 ca_slen ca_sbyt (fun i => κ.1 (1000 + i)) (fun i => κ.1 (1100 + i)) A U U.heap
def ca_tys (κ : Cf) : List (ClassId × FieldType) := [(κ.2.2.1, .int), (κ.2.2.2.1, .boolean), (κ.2.2.2.2, .long)]
def ca_E (κ : Cf) (A : Nat → Prop) (U : State) : Prop := va_K κ.2.1 vwCl (ca_tys κ) U ∧ ca_D κ ∧ (∀ w ∈ ca_nest, va_Nw w U) ∧ ca_X κ A U
theorem ca_nest_form : ∀ w ∈ ca_nest, ∃ a i x h, w = Cond.methodLinkNest a i x h := by
  intro w hw
  simp only [ca_nest, List.mem_cons, List.not_mem_nil, or_false] at hw
  rcases hw with rfl | rfl | rfl | rfl | rfl | rfl | rfl | rfl | rfl | rfl | rfl | rfl <;> exact ⟨_, _, _, _, rfl⟩
theorem ca_fmt.go {κ : Cf} {A B : Nat → Prop} {s U : State} (h : ca_fmt κ A s) (hk : ∀ q : Nat, q < s.heap.size → ¬ A q → U.heap[q]? = s.heap[q]?) (hvm : s.vm.Alike U.vm) (hAB : ∀ q, B q → A q) : ca_fmt κ B U := by
  rcases h with h | h
  · exact Or.inl (((h.kept hk).moved hvm).narrow hAB)
  · exact Or.inr (((h.kept hk).moved hvm).narrow hAB)
theorem ca_E.go {κ : Cf} {A B : Nat → Prop} {s U : State} (h : ca_E κ A s) (hk : ∀ q : Nat, q < s.heap.size → ¬ A q → U.heap[q]? = s.heap[q]?) (hW : s.WarmedH U.vm) (hAB : ∀ q, B q → A q) : ca_E κ B U := by
  obtain ⟨h1, h2, h3, h4, h5, h6, h7, h8, h9, h10, h11⟩ := h
  have hvm := hW.alike
  refine ⟨h1.moved hvm, h2, fun w hw => ?_, ((h4.kept hk).moved hvm).narrow hAB, ((h5.kept hk).moved hvm).narrow hAB, ((h6.kept hk).moved hvm).narrow hAB, ((h7.kept hk).moved hvm).narrow hAB, ((h8.kept hk).moved hvm).narrow hAB, h9.go hk hvm hAB, fun i q hq => (h10 i q hq).warm hW, ((h11.kept hk).moved hvm).narrow hAB⟩
  obtain ⟨a, i, x, hh, rfl⟩ := ca_nest_form w hw
  exact va_Nw.warmM hW (h3 _ hw)
theorem ca_E.same {κ : Cf} {A : Nat → Prop} {s U : State} (h : ca_E κ A s) (hh : U.heap = s.heap) (hv : U.vm = s.vm) : ca_E κ A U := by
  obtain ⟨h1, h2, h3, h4, h5, h6, h7, h8, h9, h10, h11⟩ := h
  have hvm : s.vm.Alike U.vm := by rw [hv]; exact Vm.Alike.refl _
  have hk : ∀ q : Nat, q < s.heap.size → ¬ A q → U.heap[q]? = s.heap[q]? := fun q _ _ => by rw [hh]
  refine ⟨h1.moved hvm, h2, fun w hw => ?_, (h4.kept hk).moved hvm, (h5.kept hk).moved hvm, (h6.kept hk).moved hvm, (h7.kept hk).moved hvm, (h8.kept hk).moved hvm, h9.go hk hvm (fun _ z => z), fun i q hq => (h10 i q hq).same hv, (h11.kept hk).moved hvm⟩
  obtain ⟨a, i, x, hh, rfl⟩ := ca_nest_form w hw
  exact va_Nw.same rfl hv.symm (h3 _ hw)
/-! ===== locals by place; what a frame is ===== -/
def ca_l (κ : Cf) (ls : Array Slot) (nL : Nat) (L : List (Option Value)) : Prop := ls.size = nL ∧ lv_wf ls ∧ ∀ (i : Nat) (v : Value), L[i]? = some (some v) → ls[i]? = some (.val (ca_z κ v))
def ca_cl (L : List (Option Value)) (i : Nat) : List (Option Value) := match i with
  | 0 => L
  | j + 1 => match L[j]? with
    | some (some w) => if w.category = 2 then L.set j none else L
    | _ => L
def stI (L : List (Option Value)) (i : Nat) (v : Value) : List (Option Value) := (ca_cl L i).set i (some v)
def stL (L : List (Option Value)) (i : Nat) (v : Value) : List (Option Value) := ((ca_cl L i).set i (some v)).set (i + 1) none
abbrev Fr : Type := Program × Launch × Env × Room × State × MethodId × Array Value × List Frame × Method × Code × (State → Prop) × Cf × (Nat → Prop) × Nat × Nat
abbrev fP (Γ : Fr) := Γ.1
abbrev fL (Γ : Fr) := Γ.2.1
abbrev fE (Γ : Fr) := Γ.2.2.1
abbrev fR (Γ : Fr) := Γ.2.2.2.1
abbrev fS (Γ : Fr) := Γ.2.2.2.2.1
abbrev fM (Γ : Fr) := Γ.2.2.2.2.2.1
abbrev fA (Γ : Fr) := Γ.2.2.2.2.2.2.1
abbrev fB (Γ : Fr) := Γ.2.2.2.2.2.2.2.1
abbrev fH (Γ : Fr) := Γ.2.2.2.2.2.2.2.2.1
abbrev fC (Γ : Fr) := Γ.2.2.2.2.2.2.2.2.2.1
abbrev fQ (Γ : Fr) := Γ.2.2.2.2.2.2.2.2.2.2.1
abbrev fK (Γ : Fr) := Γ.2.2.2.2.2.2.2.2.2.2.2.1
abbrev fW (Γ : Fr) := Γ.2.2.2.2.2.2.2.2.2.2.2.2.1
abbrev fX (Γ : Fr) := Γ.2.2.2.2.2.2.2.2.2.2.2.2.2.1
abbrev fY (Γ : Fr) := Γ.2.2.2.2.2.2.2.2.2.2.2.2.2.2
/-- the machine at pc with locals L, stack S (places for references) and memory h comes to the frame's end -/
def ca_G (Γ : Fr) (nL : Nat) (h : Mem) (pc : Nat) (L : List (Option Value)) (S : List Value) : Prop :=
  ∀ (H : Heap) (locs : List Loc) (ls : Array Slot), va_P (fK Γ).2.1 vwCl (ca_w (fK Γ) h) H → va_S (fW Γ) (fS Γ).heap H locs → ca_l (fK Γ) ls nL L →
    W (fP Γ) (fL Γ) (fE Γ) (fR Γ) (fS Γ) (fM Γ) (fA Γ) (fB Γ) (fH Γ) (fC Γ) H locs (fX Γ) (fY Γ) (fQ Γ) (F0 (fM Γ) pc ls (S.map (ca_z (fK Γ))))
def ca_O (Γ : Fr) (cc : ByteArray) (nL : Nat) (own : String) (fr lo : Nat) : Prop :=
  (fP Γ).tables.exec = Jvm.exec ∧ (fC Γ).code = cc ∧ (fC Γ).maxLocals = nL ∧ (fS Γ).vm.findClass own = some (fM Γ).cls ∧ (∀ w ∈ T0, w.before (fA Γ) (fS Γ) = true) ∧ (fH Γ).locks = false ∧
  ca_E (fK Γ) (fW Γ) (fS Γ) ∧ (∀ q, ca_A (fK Γ) q → (fW Γ) q) ∧ fr ≤ (fR Γ).frames ∧ lo ≤ (fR Γ).locals ∧ (fX Γ) ≤ (fR Γ).cells ∧ (fY Γ) ≤ (fR Γ).slots
/-- what a method gives: the answer, the memory, nothing else changed -/
def ca_Q (κ : Cf) (Po : Option Value → Mem → Prop) : Array Value → State → Outcome → State → Prop := fun _ st oc t =>
  ∃ (v : Option Value) (h' : Mem), oc = .returned (v.map (ca_z κ)) ∧ Po v h' ∧ va_P κ.2.1 vwCl (ca_w κ h') t.heap ∧ va_F (ca_A κ) st t
def ca_R (Γ : Fr) (ret : Option FieldType) (Po : Option Value → Mem → Prop) : Prop :=
  (fH Γ).sig.returnType = ret ∧ fQ Γ = MQ (fB Γ) (ca_Q (fK Γ) Po) (fA Γ) (fS Γ) (fX Γ) (fY Γ) (ca_A (fK Γ)) ∧ fW Γ = ca_A (fK Γ)
def Ct (y : MethodName) (cc : ByteArray) (nL : Nat) (ret : Option FieldType) (fr lo : Nat) (as : List Value) (h : Mem) (Po : Option Value → Mem → Prop) : Prop :=
  ∀ (l : Launch) (κ : Cf), Met l y (Cond.code y cc nL ret :: T0) { frames := fr, cells := 0, slots := 0, locals := lo } (va_Pc (as.map (ca_z κ)) (fun U => ca_E κ (ca_A κ) U ∧ va_P κ.2.1 vwCl (ca_w κ h) U.heap)) (ca_Q κ Po) 0 0 (ca_A κ)
def ca_in1 : List Value → List (Option Value)
  | [] => []
  | v :: t => if v.category = 2 then some v :: none :: ca_in1 t else some v :: ca_in1 t
theorem ca_z_cat (κ : Cf) (v : Value) : (ca_z κ v).category = v.category := by cases v <;> rfl
theorem ca_in1_at {κ : Cf} : ∀ (as : List Value) (i0 i : Nat) (v : Value), (ca_in1 as)[i]? = some (some v) → (i0 + i, ca_z κ v) ∈ lv_args i0 (as.map (ca_z κ))
  | [], i0, i, v, h => by simp [ca_in1] at h
  | a :: t, i0, i, v, h => by
    simp only [List.map_cons, lv_args, ca_z_cat]
    by_cases hc : a.category = 2
    · simp only [ca_in1, if_pos hc] at h
      match i, h with
      | 0, h =>
        have e : a = v := by simpa using h
        subst e
        exact List.mem_cons_self
      | 1, h => simp at h
      | i + 2, h =>
        have h' : (ca_in1 t)[i]? = some (some v) := by simpa using h
        have := ca_in1_at (κ := κ) t (i0 + 2) i v h'
        rw [if_pos hc]
        rw [show i0 + (i + 2) = i0 + 2 + i by omega]
        exact List.mem_cons_of_mem _ this
    · simp only [ca_in1, if_neg hc] at h
      match i, h with
      | 0, h =>
        have e : a = v := by simpa using h
        subst e
        exact List.mem_cons_self
      | i + 1, h =>
        have h' : (ca_in1 t)[i]? = some (some v) := by simpa using h
        have := ca_in1_at (κ := κ) t (i0 + 1) i v h'
        rw [if_neg hc]
        rw [show i0 + (i + 1) = i0 + 1 + i by omega]
        exact List.mem_cons_of_mem _ this
def ca_in (as : List Value) (nL : Nat) : List (Option Value) := ca_in1 as ++ List.replicate (nL - (ca_in1 as).length) none
theorem ca_in_len (κ : Cf) : ∀ as : List Value, (lg_sl (as.map (ca_z κ))).length = (ca_in1 as).length
  | [] => rfl
  | a :: t => by
    have ih := ca_in_len κ t
    simp only [lg_sl, List.map_cons, List.flatMap_cons, List.length_append, ca_z_cat, ca_in1] at ih ⊢
    by_cases hc : a.category = 2
    · simp only [if_pos hc, List.length_cons, List.length_nil]; omega
    · simp only [if_neg hc, List.length_cons, List.length_nil]; omega
theorem Ct.of {y : MethodName} {cc : ByteArray} {nL : Nat} {ret : Option FieldType} {fr lo : Nat} {as : List Value} {h : Mem} {Po : Option Value → Mem → Prop} (hy : plainName y.cls = true) (hn : (ca_in1 as).length ≤ nL)
    (body : ∀ Γ : Fr, ca_O Γ cc nL y.cls fr lo → ca_R Γ ret Po → ca_G Γ nL h 0 (ca_in as nL) []) : Ct y cc nL ret fr lo as h Po := by
  intro l κ
  refine Met.ofW (cc := cc) (maxL := nL) (ret := ret) hy rfl ?_
  intro p e s m args below meth c s₁ B hml hv
  obtain ⟨rfl, hE, hP⟩ := hv
  have hts := atoms_spec (ws := Cond.code y cc nL ret :: T0) B.pre
  have hown : s.vm.findClass y.cls = some m.cls := findClass_of_methodNamed B.named
  rw [lg_entry_eq]
  have hl := lv_entry (as.map (ca_z κ)) (n := nL) (by rw [ca_in_len]; exact hn)
  have hl' : ca_l κ ((lg_sl (as.map (ca_z κ)) ++ List.replicate (nL - (lg_sl (as.map (ca_z κ))).length) Slot.unset).toArray) nL (ca_in as nL) := by
    refine ⟨hl.1, hl.2.1, fun i v hi => ?_⟩
    have hi' : (ca_in1 as)[i]? = some (some v) := by
      unfold ca_in at hi
      by_cases hlt : i < (ca_in1 as).length
      · rwa [List.getElem?_append_left hlt] at hi
      · rw [List.getElem?_append_right (by omega), List.getElem?_replicate] at hi
        split at hi <;> simp at hi
    have := ca_in1_at (κ := κ) as 0 i v hi'
    rw [Nat.zero_add] at this
    exact hl.2.2 _ this
  exact body (p, l, e, _, s, m, _, below, meth, c, _, κ, ca_A κ, 0, 0) ⟨B.exec, B.bytes, hml, hown, fun w hw => hts w (List.mem_cons_of_mem _ hw), B.notSynchronized, hE, fun _ q => q, Nat.le_refl _, Nat.le_refl _, Nat.le_refl _, Nat.le_refl _⟩ ⟨B.returns, rfl, rfl⟩ s.heap [] _ hP va_S.rf hl'
theorem ca_long : ∀ j, j < 71 → j ≠ 43 → (match ca_lay[j]? with | some (.inr (_ + 2, _)) => false | _ => true) = true := by decide +kernel
theorem ca_e_ml {κ : Cf} {h : Mem} {i j : Nat} {v : Int64} {y : Lay} (hj : j ≠ 43) (hy : ca_lay[j]? = some y) : ca_e κ (ml h i v) j y = ca_e κ h j y := by
  have h1 := ca_long j (ca_lay_lt hy) hj
  rw [hy] at h1
  match y, h1 with
  | .inl o, _ => rfl
  | .inr (0, n), _ => rfl
  | .inr (1, n), _ => rfl
  | .inr (a + 2, n), h1 => cases h1
/-! ===== stores into locals ===== -/
def ca_prs (κ : Cf) : Nat → List (Option Value) → List (Nat × Value)
  | _, [] => []
  | i, none :: t => ca_prs κ (i + 1) t
  | i, some v :: t => (i, ca_z κ v) :: ca_prs κ (i + 1) t
theorem ca_prs_mem {κ : Cf} : ∀ (L : List (Option Value)) (i0 : Nat) (q : Nat × Value), q ∈ ca_prs κ i0 L ↔ ∃ (i : Nat) (v : Value), L[i]? = some (some v) ∧ q = (i0 + i, ca_z κ v)
  | [], i0, q => by simp [ca_prs]
  | none :: t, i0, q => by
    rw [show ca_prs κ i0 (none :: t) = ca_prs κ (i0 + 1) t from rfl, ca_prs_mem t (i0 + 1) q]
    constructor
    · rintro ⟨i, v, h1, h2⟩
      exact ⟨i + 1, v, by simpa using h1, by rw [h2]; simp only [Prod.mk.injEq, and_true]; omega⟩
    · rintro ⟨i, v, h1, h2⟩
      match i, h1 with
      | 0, h1 => simp at h1
      | i + 1, h1 => exact ⟨i, v, by simpa using h1, by rw [h2]; simp only [Prod.mk.injEq, and_true]; omega⟩
  | some w :: t, i0, q => by
    rw [show ca_prs κ i0 (some w :: t) = (i0, ca_z κ w) :: ca_prs κ (i0 + 1) t from rfl, List.mem_cons, ca_prs_mem t (i0 + 1) q]
    constructor
    · rintro (rfl | ⟨i, v, h1, h2⟩)
      · exact ⟨0, w, rfl, rfl⟩
      · exact ⟨i + 1, v, by simpa using h1, by rw [h2]; simp only [Prod.mk.injEq, and_true]; omega⟩
    · rintro ⟨i, v, h1, h2⟩
      match i, h1 with
      | 0, h1 =>
        have e : w = v := by simpa using h1
        subst e
        exact Or.inl h2
      | i + 1, h1 => exact Or.inr ⟨i, v, by simpa using h1, by rw [h2]; simp only [Prod.mk.injEq, and_true]; omega⟩
theorem ca_l_prs {κ : Cf} {ls : Array Slot} {nL : Nat} {L : List (Option Value)} (hl : ca_l κ ls nL L) : lv_has ls nL (ca_prs κ 0 L) := by
  refine ⟨hl.1, hl.2.1, fun q hq => ?_⟩
  obtain ⟨i, v, h1, rfl⟩ := (ca_prs_mem L 0 q).mp hq
  rw [Nat.zero_add]
  exact hl.2.2 i v h1
theorem ca_prs_get {κ : Cf} {L : List (Option Value)} {j : Nat} {v : Value} (h : L[j]? = some (some v)) : ∃ q : Nat, (ca_prs κ 0 L)[q]? = some (j, ca_z κ v) := by
  apply List.getElem?_of_mem
  exact (ca_prs_mem L 0 _).mpr ⟨j, v, h, by rw [Nat.zero_add]⟩
theorem ca_cl_at {L : List (Option Value)} {i j : Nat} {w : Value} (h : (ca_cl L i)[j]? = some (some w)) : L[j]? = some (some w) ∧ ¬ (j + 1 = i ∧ w.category = 2) := by
  unfold ca_cl at h
  split at h
  · exact ⟨h, fun z => by omega⟩
  · rename_i a
    split at h
    · rename_i u hu
      split at h
      · rename_i hc
        by_cases hj : a = j
        · subst hj
          rw [List.getElem?_set] at h
          split at h <;> simp_all
        · rw [List.getElem?_set_ne hj] at h
          exact ⟨h, fun z => hj (by omega)⟩
      · rename_i hc
        refine ⟨h, fun z => hc ?_⟩
        have e : a = j := by omega
        subst e
        rw [hu] at h
        have e2 : u = w := by simpa using h
        rw [e2]
        exact z.2
    · rename_i hx
      refine ⟨h, fun z => ?_⟩
      have e : a = j := by omega
      subst e
      exact hx w h
theorem ca_l_stI {κ : Cf} {ls : Array Slot} {nL i : Nat} {L : List (Option Value)} {v : Value} (hv : v.category = 1) (h : lv_has ls nL ((i, ca_z κ v) :: (ca_prs κ 0 L).filter (fun q => !(q.1 == i) && !(q.1 + 1 == i && q.2.category == 2)))) : ca_l κ ls nL (stI L i v) := by
  refine ⟨h.1, h.2.1, fun j w hj => ?_⟩
  unfold stI at hj
  by_cases e : j = i
  · subst e
    rw [List.getElem?_set] at hj
    split at hj
    · split at hj
      · have e2 : v = w := by simpa using hj
        subst e2
        exact h.2.2 _ List.mem_cons_self
      · simp at hj
    · omega
  · rw [List.getElem?_set_ne (Ne.symm e)] at hj
    obtain ⟨h1, h2⟩ := ca_cl_at hj
    refine h.2.2 (j, ca_z κ w) (List.mem_cons_of_mem _ (List.mem_filter.mpr ⟨(ca_prs_mem L 0 _).mpr ⟨j, w, h1, by rw [Nat.zero_add]⟩, ?_⟩))
    have hcat := ca_z_cat κ w
    simp only [Bool.and_eq_true, Bool.not_eq_true', beq_eq_false_iff_ne, ne_eq, Bool.and_eq_false_iff, hcat]
    refine ⟨e, ?_⟩
    by_cases hz : j + 1 = i
    · exact Or.inr (fun q => h2 ⟨hz, q⟩)
    · exact Or.inl hz
theorem ca_l_stL {κ : Cf} {ls : Array Slot} {nL i : Nat} {L : List (Option Value)} {v : Value} (hv : v.category = 2) (h : lv_has ls nL ((i, ca_z κ v) :: (ca_prs κ 0 L).filter (fun q => !(q.1 == i) && (!(q.1 == i + 1) && !(q.1 + 1 == i && q.2.category == 2))))) : ca_l κ ls nL (stL L i v) := by
  refine ⟨h.1, h.2.1, fun j w hj => ?_⟩
  unfold stL at hj
  by_cases e1 : j = i + 1
  · subst e1
    rw [List.getElem?_set] at hj
    split at hj
    · split at hj <;> simp at hj
    · omega
  · rw [List.getElem?_set_ne (Ne.symm e1)] at hj
    by_cases e : j = i
    · subst e
      rw [List.getElem?_set] at hj
      split at hj
      · split at hj
        · have e2 : v = w := by simpa using hj
          subst e2
          exact h.2.2 _ List.mem_cons_self
        · simp at hj
      · omega
    · rw [List.getElem?_set_ne (Ne.symm e)] at hj
      obtain ⟨h1, h2⟩ := ca_cl_at hj
      refine h.2.2 (j, ca_z κ w) (List.mem_cons_of_mem _ (List.mem_filter.mpr ⟨(ca_prs_mem L 0 _).mpr ⟨j, w, h1, by rw [Nat.zero_add]⟩, ?_⟩))
      have hcat := ca_z_cat κ w
      simp only [Bool.and_eq_true, Bool.not_eq_true', beq_eq_false_iff_ne, ne_eq, Bool.and_eq_false_iff, hcat]
      refine ⟨e, e1, ?_⟩
      by_cases hz : j + 1 = i
      · exact Or.inr (fun q => h2 ⟨hz, q⟩)
      · exact Or.inl hz
/-! ===== rows of one instruction, over the frame ===== -/
def jrem (x y : Int32) : Int32 := x - x / y * y
def jshl (x y : Int32) : Int32 := x <<< (y &&& 31)
def jshr (x y : Int32) : Int32 := x >>> (y &&& 31)
def jushr (x y : Int32) : Int32 := (x.toUInt32 >>> (y.toUInt32 &&& Int32.toUInt32 31)).toInt32
def jlrem (x y : Int64) : Int64 := x - x / y * y
def jlushr (x : Int64) (y : Int32) : Int64 := (x.toUInt64 >>> (y.toInt64.toUInt64 &&& Int64.toUInt64 63)).toInt64
def jlshl (x : Int64) (y : Int32) : Int64 := x <<< (y.toInt64 &&& 63)
section GRows
variable {Γ : Fr} {cc : ByteArray} {nL : Nat} {own : String} {fr lo : Nat} {h : Mem} {pc : Nat} {L : List (Option Value)} {S : List Value}
theorem g_iadd (o : ca_O Γ cc nL own fr lo) {x y : Int32} (d : decode cc pc = .ok (.iadd, 1)) (k : ca_G Γ nL h (pc + 1) L (.int (x + y) :: S)) : ca_G Γ nL h pc L (.int y :: .int x :: S) := fun H locs ls hP hS hl => lv_iadd o.1 o.2.1 d (k H locs ls hP hS hl)
theorem g_isub (o : ca_O Γ cc nL own fr lo) {x y : Int32} (d : decode cc pc = .ok (.isub, 1)) (k : ca_G Γ nL h (pc + 1) L (.int (x - y) :: S)) : ca_G Γ nL h pc L (.int y :: .int x :: S) := fun H locs ls hP hS hl => lv_isub o.1 o.2.1 d (k H locs ls hP hS hl)
theorem g_imul (o : ca_O Γ cc nL own fr lo) {x y : Int32} (d : decode cc pc = .ok (.imul, 1)) (k : ca_G Γ nL h (pc + 1) L (.int (x * y) :: S)) : ca_G Γ nL h pc L (.int y :: .int x :: S) := fun H locs ls hP hS hl => lv_imul o.1 o.2.1 d (k H locs ls hP hS hl)
theorem g_iand (o : ca_O Γ cc nL own fr lo) {x y : Int32} (d : decode cc pc = .ok (.iand, 1)) (k : ca_G Γ nL h (pc + 1) L (.int (x &&& y) :: S)) : ca_G Γ nL h pc L (.int y :: .int x :: S) := fun H locs ls hP hS hl => lv_iand o.1 o.2.1 d (k H locs ls hP hS hl)
theorem g_ior (o : ca_O Γ cc nL own fr lo) {x y : Int32} (d : decode cc pc = .ok (.ior, 1)) (k : ca_G Γ nL h (pc + 1) L (.int (x ||| y) :: S)) : ca_G Γ nL h pc L (.int y :: .int x :: S) := fun H locs ls hP hS hl => lv_ior o.1 o.2.1 d (k H locs ls hP hS hl)
theorem g_ixor (o : ca_O Γ cc nL own fr lo) {x y : Int32} (d : decode cc pc = .ok (.ixor, 1)) (k : ca_G Γ nL h (pc + 1) L (.int (x ^^^ y) :: S)) : ca_G Γ nL h pc L (.int y :: .int x :: S) := fun H locs ls hP hS hl => lv_ixor o.1 o.2.1 d (k H locs ls hP hS hl)
theorem g_ishl (o : ca_O Γ cc nL own fr lo) {x y : Int32} (d : decode cc pc = .ok (.ishl, 1)) (k : ca_G Γ nL h (pc + 1) L (.int (jshl x y) :: S)) : ca_G Γ nL h pc L (.int y :: .int x :: S) := fun H locs ls hP hS hl => lv_ishl o.1 o.2.1 d (k H locs ls hP hS hl)
theorem g_ishr (o : ca_O Γ cc nL own fr lo) {x y : Int32} (d : decode cc pc = .ok (.ishr, 1)) (k : ca_G Γ nL h (pc + 1) L (.int (jshr x y) :: S)) : ca_G Γ nL h pc L (.int y :: .int x :: S) := fun H locs ls hP hS hl => lv_ishr o.1 o.2.1 d (k H locs ls hP hS hl)
theorem g_iushr (o : ca_O Γ cc nL own fr lo) {x y : Int32} (d : decode cc pc = .ok (.iushr, 1)) (k : ca_G Γ nL h (pc + 1) L (.int (jushr x y) :: S)) : ca_G Γ nL h pc L (.int y :: .int x :: S) := fun H locs ls hP hS hl => lv_iushr o.1 o.2.1 d rfl (k H locs ls hP hS hl)
theorem g_idiv (o : ca_O Γ cc nL own fr lo) {x y : Int32} (d : decode cc pc = .ok (.idiv, 1)) (hne : ¬ y = 0) (k : ca_G Γ nL h (pc + 1) L (.int (x / y) :: S)) : ca_G Γ nL h pc L (.int y :: .int x :: S) := fun H locs ls hP hS hl => lv_idiv o.1 o.2.1 d hne (k H locs ls hP hS hl)
theorem g_irem (o : ca_O Γ cc nL own fr lo) {x y : Int32} (d : decode cc pc = .ok (.irem, 1)) (hne : ¬ y = 0) (k : ca_G Γ nL h (pc + 1) L (.int (jrem x y) :: S)) : ca_G Γ nL h pc L (.int y :: .int x :: S) := fun H locs ls hP hS hl => lv_irem o.1 o.2.1 d hne (k H locs ls hP hS hl)
theorem g_ladd (o : ca_O Γ cc nL own fr lo) {x y : Int64} (d : decode cc pc = .ok (.ladd, 1)) (k : ca_G Γ nL h (pc + 1) L (.long (x + y) :: S)) : ca_G Γ nL h pc L (.long y :: .long x :: S) := fun H locs ls hP hS hl => lv_ladd o.1 o.2.1 d (k H locs ls hP hS hl)
theorem g_lsub (o : ca_O Γ cc nL own fr lo) {x y : Int64} (d : decode cc pc = .ok (.lsub, 1)) (k : ca_G Γ nL h (pc + 1) L (.long (x - y) :: S)) : ca_G Γ nL h pc L (.long y :: .long x :: S) := fun H locs ls hP hS hl => lv_lsub o.1 o.2.1 d (k H locs ls hP hS hl)
theorem g_lmul (o : ca_O Γ cc nL own fr lo) {x y : Int64} (d : decode cc pc = .ok (.lmul, 1)) (k : ca_G Γ nL h (pc + 1) L (.long (x * y) :: S)) : ca_G Γ nL h pc L (.long y :: .long x :: S) := fun H locs ls hP hS hl => lv_lmul o.1 o.2.1 d (k H locs ls hP hS hl)
theorem g_land (o : ca_O Γ cc nL own fr lo) {x y : Int64} (d : decode cc pc = .ok (.land, 1)) (k : ca_G Γ nL h (pc + 1) L (.long (x &&& y) :: S)) : ca_G Γ nL h pc L (.long y :: .long x :: S) := fun H locs ls hP hS hl => lv_land o.1 o.2.1 d (k H locs ls hP hS hl)
theorem g_lor (o : ca_O Γ cc nL own fr lo) {x y : Int64} (d : decode cc pc = .ok (.lor, 1)) (k : ca_G Γ nL h (pc + 1) L (.long (x ||| y) :: S)) : ca_G Γ nL h pc L (.long y :: .long x :: S) := fun H locs ls hP hS hl => lv_lor o.1 o.2.1 d (k H locs ls hP hS hl)
theorem g_lxor (o : ca_O Γ cc nL own fr lo) {x y : Int64} (d : decode cc pc = .ok (.lxor, 1)) (k : ca_G Γ nL h (pc + 1) L (.long (x ^^^ y) :: S)) : ca_G Γ nL h pc L (.long y :: .long x :: S) := fun H locs ls hP hS hl => lv_lxor o.1 o.2.1 d (k H locs ls hP hS hl)
theorem g_ldiv (o : ca_O Γ cc nL own fr lo) {x y : Int64} (d : decode cc pc = .ok (.ldiv, 1)) (hne : ¬ y = 0) (k : ca_G Γ nL h (pc + 1) L (.long (x / y) :: S)) : ca_G Γ nL h pc L (.long y :: .long x :: S) := fun H locs ls hP hS hl => lv_ldiv o.1 o.2.1 d hne (k H locs ls hP hS hl)
theorem g_lrem (o : ca_O Γ cc nL own fr lo) {x y : Int64} (d : decode cc pc = .ok (.lrem, 1)) (hne : ¬ y = 0) (k : ca_G Γ nL h (pc + 1) L (.long (jlrem x y) :: S)) : ca_G Γ nL h pc L (.long y :: .long x :: S) := fun H locs ls hP hS hl => lv_lrem o.1 o.2.1 d hne (k H locs ls hP hS hl)
theorem g_lushr (o : ca_O Γ cc nL own fr lo) {x : Int64} {y : Int32} (d : decode cc pc = .ok (.lushr, 1)) (k : ca_G Γ nL h (pc + 1) L (.long (jlushr x y) :: S)) : ca_G Γ nL h pc L (.int y :: .long x :: S) := fun H locs ls hP hS hl => lv_lushr o.1 o.2.1 d rfl (k H locs ls hP hS hl)
theorem g_lshl (o : ca_O Γ cc nL own fr lo) {x : Int64} {y : Int32} (d : decode cc pc = .ok (.lshl, 1)) (k : ca_G Γ nL h (pc + 1) L (.long (jlshl x y) :: S)) : ca_G Γ nL h pc L (.int y :: .long x :: S) := fun H locs ls hP hS hl => lv_lshl o.1 o.2.1 d rfl (k H locs ls hP hS hl)
theorem g_lcmp (o : ca_O Γ cc nL own fr lo) {x y : Int64} (d : decode cc pc = .ok (.lcmp, 1)) (k : ca_G Γ nL h (pc + 1) L (.int (lg_cmp x y) :: S)) : ca_G Γ nL h pc L (.long y :: .long x :: S) := fun H locs ls hP hS hl => W.lcmp o.1 o.2.1 d (k H locs ls hP hS hl)
theorem g_i2l (o : ca_O Γ cc nL own fr lo) {x : Int32} (d : decode cc pc = .ok (.i2l, 1)) (k : ca_G Γ nL h (pc + 1) L (.long x.toInt64 :: S)) : ca_G Γ nL h pc L (.int x :: S) := fun H locs ls hP hS hl => lv_i2l o.1 o.2.1 d rfl (k H locs ls hP hS hl)
theorem g_l2i (o : ca_O Γ cc nL own fr lo) {x : Int64} (d : decode cc pc = .ok (.l2i, 1)) (k : ca_G Γ nL h (pc + 1) L (.int x.toInt32 :: S)) : ca_G Γ nL h pc L (.long x :: S) := fun H locs ls hP hS hl => lv_l2i o.1 o.2.1 d rfl (k H locs ls hP hS hl)
theorem g_i2b (o : ca_O Γ cc nL own fr lo) {x : Int32} (d : decode cc pc = .ok (.i2b, 1)) (k : ca_G Γ nL h (pc + 1) L (.int x.toInt8.toInt32 :: S)) : ca_G Γ nL h pc L (.int x :: S) := fun H locs ls hP hS hl => lv_i2b o.1 o.2.1 d rfl (k H locs ls hP hS hl)
theorem g_i2s (o : ca_O Γ cc nL own fr lo) {x : Int32} (d : decode cc pc = .ok (.i2s, 1)) (k : ca_G Γ nL h (pc + 1) L (.int x.toInt16.toInt32 :: S)) : ca_G Γ nL h pc L (.int x :: S) := fun H locs ls hP hS hl => lv_i2s o.1 o.2.1 d rfl (k H locs ls hP hS hl)
theorem g_i2c (o : ca_O Γ cc nL own fr lo) {x : Int32} (d : decode cc pc = .ok (.i2c, 1)) (k : ca_G Γ nL h (pc + 1) L (.int (x.toUInt32 % 65536).toInt32 :: S)) : ca_G Γ nL h pc L (.int x :: S) := fun H locs ls hP hS hl => lv_i2c o.1 o.2.1 d rfl (k H locs ls hP hS hl)
theorem g_iconst (o : ca_O Γ cc nL own fr lo) {n : Int} (d : decode cc pc = .ok (.iconst n, 1)) (v : Int32) (hv : Int32.ofInt n = v) (k : ca_G Γ nL h (pc + 1) L (.int v :: S)) : ca_G Γ nL h pc L (S) := fun H locs ls hP hS hl => lv_iconst o.1 o.2.1 d hv (k H locs ls hP hS hl)
theorem g_bipush (o : ca_O Γ cc nL own fr lo) {n : Int} (d : decode cc pc = .ok (.bipush n, 2)) (v : Int32) (hv : (Int8.ofInt n).toInt32 = v) (k : ca_G Γ nL h (pc + 2) L (.int v :: S)) : ca_G Γ nL h pc L (S) := fun H locs ls hP hS hl => lv_bipush o.1 o.2.1 d hv (k H locs ls hP hS hl)
theorem g_sipush (o : ca_O Γ cc nL own fr lo) {n : Int} (d : decode cc pc = .ok (.sipush n, 3)) (v : Int32) (hv : (Int16.ofInt n).toInt32 = v) (k : ca_G Γ nL h (pc + 3) L (.int v :: S)) : ca_G Γ nL h pc L (S) := fun H locs ls hP hS hl => lv_sipush o.1 o.2.1 d hv (k H locs ls hP hS hl)
theorem g_lconst (o : ca_O Γ cc nL own fr lo) {n : Fin 2} (d : decode cc pc = .ok (.lconst n, 1)) (v : Int64) (hv : Int64.ofNat (n : Nat) = v) (k : ca_G Γ nL h (pc + 1) L (.long v :: S)) : ca_G Γ nL h pc L (S) := fun H locs ls hP hS hl => lv_lconst o.1 o.2.1 d hv (k H locs ls hP hS hl)
theorem g_ldc (o : ca_O Γ cc nL own fr lo) {i : Nat} {v : Int32} (d : decode cc pc = .ok (.ldc i, 2)) (hw : Cond.constant own i v ∈ T0) (k : ca_G Γ nL h (pc + 2) L (.int v :: S)) : ca_G Γ nL h pc L S := fun H locs ls hP hS hl => lv_ldc o.1 o.2.1 o.2.2.2.1 (o.2.2.2.2.1 _ hw) d (k H locs ls hP hS hl)
theorem g_ldcw (o : ca_O Γ cc nL own fr lo) {i : Nat} {v : Int32} (d : decode cc pc = .ok (.ldc_w i, 3)) (hw : Cond.constant own i v ∈ T0) (k : ca_G Γ nL h (pc + 3) L (.int v :: S)) : ca_G Γ nL h pc L S := fun H locs ls hP hS hl => lv_ldcw o.1 o.2.1 o.2.2.2.1 (o.2.2.2.2.1 _ hw) d (k H locs ls hP hS hl)
theorem g_ldc2 (o : ca_O Γ cc nL own fr lo) {i : Nat} {v : Int64} (d : decode cc pc = .ok (.ldc2_w i, 3)) (hw : Cond.constantLong own i v ∈ T0) (k : ca_G Γ nL h (pc + 3) L (.long v :: S)) : ca_G Γ nL h pc L S := fun H locs ls hP hS hl => lv_ldc2 o.1 o.2.1 o.2.2.2.1 (o.2.2.2.2.1 _ hw) d (k H locs ls hP hS hl)
theorem g_iload_n (o : ca_O Γ cc nL own fr lo) {j : Fin 4} {x : Int32} (d : decode cc pc = .ok (.iload_n j, 1)) (hv : L[(j : Nat)]? = some (some (.int x))) (k : ca_G Γ nL h (pc + 1) L (.int x :: S)) : ca_G Γ nL h pc L S := fun H locs ls hP hS hl => lv_iload_n o.1 o.2.1 d rfl (hl.2.2 _ _ hv) (k H locs ls hP hS hl)
theorem g_iload (o : ca_O Γ cc nL own fr lo) {j : Nat} {x : Int32} (d : decode cc pc = .ok (.iload j, 2)) (hv : L[j]? = some (some (.int x))) (k : ca_G Γ nL h (pc + 2) L (.int x :: S)) : ca_G Γ nL h pc L S := fun H locs ls hP hS hl => lv_iload o.1 o.2.1 d (hl.2.2 _ _ hv) (k H locs ls hP hS hl)
theorem g_lload_n (o : ca_O Γ cc nL own fr lo) {j : Fin 4} {x : Int64} (d : decode cc pc = .ok (.lload_n j, 1)) (hv : L[(j : Nat)]? = some (some (.long x))) (k : ca_G Γ nL h (pc + 1) L (.long x :: S)) : ca_G Γ nL h pc L S := fun H locs ls hP hS hl => lv_lload_n o.1 o.2.1 d rfl (hl.2.2 _ _ hv) (k H locs ls hP hS hl)
theorem g_lload (o : ca_O Γ cc nL own fr lo) {j : Nat} {x : Int64} (d : decode cc pc = .ok (.lload j, 2)) (hv : L[j]? = some (some (.long x))) (k : ca_G Γ nL h (pc + 2) L (.long x :: S)) : ca_G Γ nL h pc L S := fun H locs ls hP hS hl => lv_lload o.1 o.2.1 d (hl.2.2 _ _ hv) (k H locs ls hP hS hl)
theorem g_aload_n (o : ca_O Γ cc nL own fr lo) {j : Fin 4} {x : Nat} (d : decode cc pc = .ok (.aload_n j, 1)) (hv : L[(j : Nat)]? = some (some (.ref x))) (k : ca_G Γ nL h (pc + 1) L (.ref x :: S)) : ca_G Γ nL h pc L S := fun H locs ls hP hS hl => lv_aload_n o.1 o.2.1 d rfl (hl.2.2 _ _ hv) (k H locs ls hP hS hl)
theorem g_aload (o : ca_O Γ cc nL own fr lo) {j : Nat} {x : Nat} (d : decode cc pc = .ok (.aload j, 2)) (hv : L[j]? = some (some (.ref x))) (k : ca_G Γ nL h (pc + 2) L (.ref x :: S)) : ca_G Γ nL h pc L S := fun H locs ls hP hS hl => lv_aload o.1 o.2.1 d (hl.2.2 _ _ hv) (k H locs ls hP hS hl)
theorem g_istore_n (o : ca_O Γ cc nL own fr lo) {j : Fin 4} {x : Int32} (d : decode cc pc = .ok (.istore_n j, 1)) (hn : (j : Nat) < nL) (k : ca_G Γ nL h (pc + 1) (stI L (j : Nat) (.int x)) S) : ca_G Γ nL h pc L (.int x :: S) := fun H locs ls hP hS hl => lv_istore_n o.1 o.2.1 d rfl (ca_l_prs hl) hn rfl (fun ls2 hl2 => k H locs ls2 hP hS (ca_l_stI (v := .int x) rfl hl2))
theorem g_istore (o : ca_O Γ cc nL own fr lo) {j : Nat} {x : Int32} (d : decode cc pc = .ok (.istore j, 2)) (hn : j < nL) (k : ca_G Γ nL h (pc + 2) (stI L j (.int x)) S) : ca_G Γ nL h pc L (.int x :: S) := fun H locs ls hP hS hl => lv_istore o.1 o.2.1 d (ca_l_prs hl) hn rfl (fun ls2 hl2 => k H locs ls2 hP hS (ca_l_stI (v := .int x) rfl hl2))
theorem g_astore_n (o : ca_O Γ cc nL own fr lo) {j : Fin 4} {x : Nat} (d : decode cc pc = .ok (.astore_n j, 1)) (hn : (j : Nat) < nL) (k : ca_G Γ nL h (pc + 1) (stI L (j : Nat) (.ref x)) S) : ca_G Γ nL h pc L (.ref x :: S) := fun H locs ls hP hS hl => lv_astore_n o.1 o.2.1 d rfl (ca_l_prs hl) hn rfl (fun ls2 hl2 => k H locs ls2 hP hS (ca_l_stI (v := .ref x) rfl hl2))
theorem g_astore (o : ca_O Γ cc nL own fr lo) {j : Nat} {x : Nat} (d : decode cc pc = .ok (.astore j, 2)) (hn : j < nL) (k : ca_G Γ nL h (pc + 2) (stI L j (.ref x)) S) : ca_G Γ nL h pc L (.ref x :: S) := fun H locs ls hP hS hl => lv_astore o.1 o.2.1 d (ca_l_prs hl) hn rfl (fun ls2 hl2 => k H locs ls2 hP hS (ca_l_stI (v := .ref x) rfl hl2))
theorem g_lstore_n (o : ca_O Γ cc nL own fr lo) {j : Fin 4} {x : Int64} (d : decode cc pc = .ok (.lstore_n j, 1)) (hn : (j : Nat) + 1 < nL) (k : ca_G Γ nL h (pc + 1) (stL L (j : Nat) (.long x)) S) : ca_G Γ nL h pc L (.long x :: S) := fun H locs ls hP hS hl => lv_lstore_n o.1 o.2.1 d rfl (ca_l_prs hl) hn rfl (fun ls2 hl2 => k H locs ls2 hP hS (ca_l_stL (v := .long x) rfl hl2))
theorem g_lstore (o : ca_O Γ cc nL own fr lo) {j : Nat} {x : Int64} (d : decode cc pc = .ok (.lstore j, 2)) (hn : j + 1 < nL) (k : ca_G Γ nL h (pc + 2) (stL L j (.long x)) S) : ca_G Γ nL h pc L (.long x :: S) := fun H locs ls hP hS hl => lv_lstore o.1 o.2.1 d (ca_l_prs hl) hn rfl (fun ls2 hl2 => k H locs ls2 hP hS (ca_l_stL (v := .long x) rfl hl2))
theorem g_iinc (o : ca_O Γ cc nL own fr lo) {j : Nat} {n : Int} {x : Int32} (d : decode cc pc = .ok (.iinc j n, 3)) (hv : L[j]? = some (some (.int x))) (v : Int32) (hvv : Int32.ofInt n = v) (hn : j < nL) (k : ca_G Γ nL h (pc + 3) (stI L j (.int (x + v))) S) : ca_G Γ nL h pc L S := fun H locs ls hP hS hl => by
  obtain ⟨q, hq⟩ := ca_prs_get (κ := fK Γ) hv
  exact lv_iinc o.1 o.2.1 d (ca_l_prs hl) (k := q) hq (by rw [hvv]) hn rfl (fun ls2 hl2 => k H locs ls2 hP hS (ca_l_stI (v := .int (x + v)) rfl hl2))
theorem g_dup (o : ca_O Γ cc nL own fr lo) {v : Value} (d : decode cc pc = .ok (.dup, 1)) (hv : v.category = 1) (k : ca_G Γ nL h (pc + 1) L (v :: v :: S)) : ca_G Γ nL h pc L (v :: S) := fun H locs ls hP hS hl => lv_dup o.1 o.2.1 d ((ca_z_cat _ v).trans hv) (k H locs ls hP hS hl)
theorem g_pop (o : ca_O Γ cc nL own fr lo) {v : Value} (d : decode cc pc = .ok (.pop, 1)) (hv : v.category = 1) (k : ca_G Γ nL h (pc + 1) L S) : ca_G Γ nL h pc L (v :: S) := fun H locs ls hP hS hl => lv_pop o.1 o.2.1 d ((ca_z_cat _ v).trans hv) (k H locs ls hP hS hl)
theorem g_dup2 (o : ca_O Γ cc nL own fr lo) {v w : Value} (d : decode cc pc = .ok (.dup2, 1)) (hv : v.category = 1) (hw : w.category = 1) (k : ca_G Γ nL h (pc + 1) L (v :: w :: v :: w :: S)) : ca_G Γ nL h pc L (v :: w :: S) := fun H locs ls hP hS hl => lv_dup2_11 o.1 o.2.1 d ((ca_z_cat _ v).trans hv) ((ca_z_cat _ w).trans hw) (k H locs ls hP hS hl)
theorem g_if_eq (o : ca_O Γ cc nL own fr lo) {x : Int32} {off : Int} (tgt : Nat) (d : decode cc pc = .ok (.ifCond .eq off, 3)) (ht : (pc : Int) + off = (tgt : Int)) (kt : x = 0 → ca_G Γ nL h tgt L S) (kf : ¬ x = 0 → ca_G Γ nL h (pc + 3) L S) : ca_G Γ nL h pc L (.int x :: S) := fun H locs ls hP hS hl => lv_if_eq o.1 o.2.1 d ht (fun c => kt c H locs ls hP hS hl) (fun c => kf c H locs ls hP hS hl)
theorem g_if_ne (o : ca_O Γ cc nL own fr lo) {x : Int32} {off : Int} (tgt : Nat) (d : decode cc pc = .ok (.ifCond .ne off, 3)) (ht : (pc : Int) + off = (tgt : Int)) (kt : ¬ x = 0 → ca_G Γ nL h tgt L S) (kf : x = 0 → ca_G Γ nL h (pc + 3) L S) : ca_G Γ nL h pc L (.int x :: S) := fun H locs ls hP hS hl => lv_if_ne o.1 o.2.1 d ht (fun c => kt c H locs ls hP hS hl) (fun c => kf c H locs ls hP hS hl)
theorem g_if_lt (o : ca_O Γ cc nL own fr lo) {x : Int32} {off : Int} (tgt : Nat) (d : decode cc pc = .ok (.ifCond .lt off, 3)) (ht : (pc : Int) + off = (tgt : Int)) (kt : x < 0 → ca_G Γ nL h tgt L S) (kf : ¬ x < 0 → ca_G Γ nL h (pc + 3) L S) : ca_G Γ nL h pc L (.int x :: S) := fun H locs ls hP hS hl => lv_if_lt o.1 o.2.1 d ht (fun c => kt c H locs ls hP hS hl) (fun c => kf c H locs ls hP hS hl)
theorem g_if_ge (o : ca_O Γ cc nL own fr lo) {x : Int32} {off : Int} (tgt : Nat) (d : decode cc pc = .ok (.ifCond .ge off, 3)) (ht : (pc : Int) + off = (tgt : Int)) (kt : 0 ≤ x → ca_G Γ nL h tgt L S) (kf : ¬ 0 ≤ x → ca_G Γ nL h (pc + 3) L S) : ca_G Γ nL h pc L (.int x :: S) := fun H locs ls hP hS hl => lv_if_ge o.1 o.2.1 d ht (fun c => kt c H locs ls hP hS hl) (fun c => kf c H locs ls hP hS hl)
theorem g_if_gt (o : ca_O Γ cc nL own fr lo) {x : Int32} {off : Int} (tgt : Nat) (d : decode cc pc = .ok (.ifCond .gt off, 3)) (ht : (pc : Int) + off = (tgt : Int)) (kt : 0 < x → ca_G Γ nL h tgt L S) (kf : ¬ 0 < x → ca_G Γ nL h (pc + 3) L S) : ca_G Γ nL h pc L (.int x :: S) := fun H locs ls hP hS hl => lv_if_gt o.1 o.2.1 d ht (fun c => kt c H locs ls hP hS hl) (fun c => kf c H locs ls hP hS hl)
theorem g_if_le (o : ca_O Γ cc nL own fr lo) {x : Int32} {off : Int} (tgt : Nat) (d : decode cc pc = .ok (.ifCond .le off, 3)) (ht : (pc : Int) + off = (tgt : Int)) (kt : x ≤ 0 → ca_G Γ nL h tgt L S) (kf : ¬ x ≤ 0 → ca_G Γ nL h (pc + 3) L S) : ca_G Γ nL h pc L (.int x :: S) := fun H locs ls hP hS hl => lv_if_le o.1 o.2.1 d ht (fun c => kt c H locs ls hP hS hl) (fun c => kf c H locs ls hP hS hl)
theorem g_ic_eq (o : ca_O Γ cc nL own fr lo) {x y : Int32} {off : Int} (tgt : Nat) (d : decode cc pc = .ok (.if_icmp .eq off, 3)) (ht : (pc : Int) + off = (tgt : Int)) (kt : x = y → ca_G Γ nL h tgt L S) (kf : ¬ x = y → ca_G Γ nL h (pc + 3) L S) : ca_G Γ nL h pc L (.int y :: .int x :: S) := fun H locs ls hP hS hl => lv_icmp_eq o.1 o.2.1 d ht (fun c => kt c H locs ls hP hS hl) (fun c => kf c H locs ls hP hS hl)
theorem g_ic_ne (o : ca_O Γ cc nL own fr lo) {x y : Int32} {off : Int} (tgt : Nat) (d : decode cc pc = .ok (.if_icmp .ne off, 3)) (ht : (pc : Int) + off = (tgt : Int)) (kt : ¬ x = y → ca_G Γ nL h tgt L S) (kf : x = y → ca_G Γ nL h (pc + 3) L S) : ca_G Γ nL h pc L (.int y :: .int x :: S) := fun H locs ls hP hS hl => lv_icmp_ne o.1 o.2.1 d ht (fun c => kt c H locs ls hP hS hl) (fun c => kf c H locs ls hP hS hl)
theorem g_ic_lt (o : ca_O Γ cc nL own fr lo) {x y : Int32} {off : Int} (tgt : Nat) (d : decode cc pc = .ok (.if_icmp .lt off, 3)) (ht : (pc : Int) + off = (tgt : Int)) (kt : x < y → ca_G Γ nL h tgt L S) (kf : ¬ x < y → ca_G Γ nL h (pc + 3) L S) : ca_G Γ nL h pc L (.int y :: .int x :: S) := fun H locs ls hP hS hl => lv_icmp_lt o.1 o.2.1 d ht (fun c => kt c H locs ls hP hS hl) (fun c => kf c H locs ls hP hS hl)
theorem g_ic_ge (o : ca_O Γ cc nL own fr lo) {x y : Int32} {off : Int} (tgt : Nat) (d : decode cc pc = .ok (.if_icmp .ge off, 3)) (ht : (pc : Int) + off = (tgt : Int)) (kt : y ≤ x → ca_G Γ nL h tgt L S) (kf : ¬ y ≤ x → ca_G Γ nL h (pc + 3) L S) : ca_G Γ nL h pc L (.int y :: .int x :: S) := fun H locs ls hP hS hl => lv_icmp_ge o.1 o.2.1 d ht (fun c => kt c H locs ls hP hS hl) (fun c => kf c H locs ls hP hS hl)
theorem g_ic_gt (o : ca_O Γ cc nL own fr lo) {x y : Int32} {off : Int} (tgt : Nat) (d : decode cc pc = .ok (.if_icmp .gt off, 3)) (ht : (pc : Int) + off = (tgt : Int)) (kt : y < x → ca_G Γ nL h tgt L S) (kf : ¬ y < x → ca_G Γ nL h (pc + 3) L S) : ca_G Γ nL h pc L (.int y :: .int x :: S) := fun H locs ls hP hS hl => lv_icmp_gt o.1 o.2.1 d ht (fun c => kt c H locs ls hP hS hl) (fun c => kf c H locs ls hP hS hl)
theorem g_ic_le (o : ca_O Γ cc nL own fr lo) {x y : Int32} {off : Int} (tgt : Nat) (d : decode cc pc = .ok (.if_icmp .le off, 3)) (ht : (pc : Int) + off = (tgt : Int)) (kt : x ≤ y → ca_G Γ nL h tgt L S) (kf : ¬ x ≤ y → ca_G Γ nL h (pc + 3) L S) : ca_G Γ nL h pc L (.int y :: .int x :: S) := fun H locs ls hP hS hl => lv_icmp_le o.1 o.2.1 d ht (fun c => kt c H locs ls hP hS hl) (fun c => kf c H locs ls hP hS hl)
theorem g_goto (o : ca_O Γ cc nL own fr lo) {off : Int} (tgt : Nat) (d : decode cc pc = .ok (.goto off, 3)) (ht : (pc : Int) + off = (tgt : Int)) (k : ca_G Γ nL h tgt L S) : ca_G Γ nL h pc L S := fun H locs ls hP hS hl => lv_goto o.1 o.2.1 d ht (k H locs ls hP hS hl)
theorem g_tabOut (o : ca_O Γ cc nL own fr lo) {x : Int32} {dflt a b : Int} {offs : Array Int} {len : Nat} (tgt : Nat) (d : decode cc pc = .ok (.tableswitch dflt a b offs, len)) (hx : x.toInt < a ∨ b < x.toInt) (ht : (pc : Int) + dflt = (tgt : Int)) (k : ca_G Γ nL h tgt L S) : ca_G Γ nL h pc L (.int x :: S) := fun H locs ls hP hS hl => lv_tableOut o.1 o.2.1 d hx ht (k H locs ls hP hS hl)
theorem g_tabIn (o : ca_O Γ cc nL own fr lo) {x : Int32} {dflt a b off : Int} {offs : Array Int} {len : Nat} (tgt : Nat) (d : decode cc pc = .ok (.tableswitch dflt a b offs, len)) (h1 : ¬ x.toInt < a) (h2 : ¬ b < x.toInt) (ho : offs[(x.toInt - a).toNat]? = some off) (ht : (pc : Int) + off = (tgt : Int)) (k : ca_G Γ nL h tgt L S) : ca_G Γ nL h pc L (.int x :: S) := fun H locs ls hP hS hl => lv_tableIn o.1 o.2.1 d h1 h2 ho ht (k H locs ls hP hS hl)
theorem g_look (o : ca_O Γ cc nL own fr lo) {x : Int32} {dflt off : Int} {ps : Array (Int × Int)} {len : Nat} (tgt : Nat) (d : decode cc pc = .ok (.lookupswitch dflt ps, len)) (hp : (ps.toList.zip (ps.toList.drop 1)).all (fun (a, next) => a.1 < next.1) = true) (ho : Op.lookupswitch.offset ps.toList dflt x.toInt = off) (ht : (pc : Int) + off = (tgt : Int)) (k : ca_G Γ nL h tgt L S) : ca_G Γ nL h pc L (.int x :: S) := fun H locs ls hP hS hl => lv_lookup o.1 o.2.1 d hp ho ht (k H locs ls hP hS hl)
theorem g_getI (o : ca_O Γ cc nL own fr lo) {b ci : Nat} {fs : List (Option Nat)} {C : String} {T : u_T} {N idx : Nat} (q : Nat) (hb : ca_lay[b]? = some (.inl (ci, fs))) (hf : fs[q]? = some none) (hc : vwCl[ci]? = some (C, T, N)) (hin : ∀ w ∈ u_ws C T N, w ∈ T0) (hq : q < N) (hlk : Cond.fieldLink own idx (T q).1 (T q).2.1 (T q).2.2.1 ∈ T0) (d : decode cc pc = .ok (.getfield idx, 3)) (k : ca_G Γ nL h (pc + 3) L (.int (h.1 b q) :: S)) : ca_G Γ nL h pc L (.ref b :: S) := fun H locs ls hP hS hl =>
  va_get (T := T) o.1 o.2.1 o.2.2.2.2.1 hin o.2.2.2.1 o.2.2.2.2.2.2.1.1 hP b (ca_w_at hb) hc q hq (o.2.2.2.2.1 _ hlk) (fun _ z => z) (v := .int (h.1 b q)) (by have := ca_fs_int (κ := fK Γ) (g := h.1 b) fs 0 q hf; rwa [Nat.zero_add] at this) d (k H locs ls hP hS hl)
theorem g_getR (o : ca_O Γ cc nL own fr lo) {b ci : Nat} {fs : List (Option Nat)} {C : String} {T : u_T} {N idx r : Nat} (q : Nat) (hb : ca_lay[b]? = some (.inl (ci, fs))) (hf : fs[q]? = some (some r)) (hc : vwCl[ci]? = some (C, T, N)) (hin : ∀ w ∈ u_ws C T N, w ∈ T0) (hq : q < N) (hlk : Cond.fieldLink own idx (T q).1 (T q).2.1 (T q).2.2.1 ∈ T0) (d : decode cc pc = .ok (.getfield idx, 3)) (k : ca_G Γ nL h (pc + 3) L (.ref r :: S)) : ca_G Γ nL h pc L (.ref b :: S) := fun H locs ls hP hS hl =>
  va_get (T := T) o.1 o.2.1 o.2.2.2.2.1 hin o.2.2.2.1 o.2.2.2.2.2.2.1.1 hP b (ca_w_at hb) hc q hq (o.2.2.2.2.1 _ hlk) (fun _ z => z) (v := .ref ((fK Γ).1 r)) (ca_fs_ref fs 0 q hf) d (k H locs ls hP hS hl)
theorem g_put (o : ca_O Γ cc nL own fr lo) {b ci : Nat} {fs : List (Option Nat)} {C : String} {T : u_T} {N idx : Nat} {v : Int32} (q : Nat) (hb : ca_lay[b]? = some (.inl (ci, fs))) (hf : fs[q]? = some none) (hc : vwCl[ci]? = some (C, T, N)) (hin : ∀ w ∈ u_ws C T N, w ∈ T0) {ty : Nat → FieldType} (hty : ∀ k, k < N → parseFieldDescriptor (T k).2.2.1 = some (ty k)) (hnm : ∀ a, a < N → ∀ b, b < N → a ≠ b → (T a).2.1 ≠ (T b).2.1) (hq : q < N) (hlk : Cond.fieldLink own idx (T q).1 (T q).2.1 (T q).2.2.1 ∈ T0) (hfin : (T q).2.2.2 = false) (hn : narrow (ty q) (.int v) = .int v) (hfit : fits (ty q) (.int v) = true) (d : decode cc pc = .ok (.putfield idx, 3)) (k : ca_G Γ nL (mw h b q v) (pc + 3) L S) : ca_G Γ nL h pc L (.int v :: .ref b :: S) := fun H locs ls hP hS hl =>
  va_put (T := T) o.1 o.2.1 o.2.2.2.2.1 hin ty hty hnm o.2.2.2.1 o.2.2.2.2.2.2.1.1 hP (ca_D_w o.2.2.2.2.2.2.1.2.1 o.2.2.2.2.2.2.2.1 h) hS b (ca_w_at hb) hc q hq (o.2.2.2.2.1 _ hlk) (fun _ z => z) hfin (hty q hq) hn hfit (by rw [ca_fs_len]; exact (List.getElem?_eq_some_iff.mp hf).1) d (fun H1 locs1 hP1 _ hS1 => by
    refine k H1 locs1 ls ?_ hS1 hl
    have hP2 : va_P (fK Γ).2.1 vwCl ((ca_w (fK Γ) h).set b ((fK Γ).1 b, .inr (ci, (ca_fs (fK Γ) (h.1 b) 0 fs).set q (.int v)))) H1 := hP1
    rw [ca_w_mw (i := q) (v := v) hb (by show Sum.inr (ci, ca_fs _ _ 0 fs) = _; rw [mw_same, ca_fs_set fs 0 q hf, Nat.zero_add])] at hP2
    exact hP2)
theorem g_iald (o : ca_O Γ cc nL own fr lo) {b n : Nat} {i : Int32} (hb : ca_lay[b]? = some (.inr (0, n))) (hin : vp_in i n) (d : decode cc pc = .ok (.iaload, 1)) (k : ca_G Γ nL h (pc + 1) L (.int (h.1 b i.toNatClampNeg) :: S)) : ca_G Γ nL h pc L (.int i :: .ref b :: S) := fun H locs ls hP hS hl =>
  va_iald o.1 o.2.1 o.2.2.2.2.2.2.1.1 hP b 0 (ca_w_at hb) rfl hin d (k H locs ls hP hS hl)
theorem g_zald (o : ca_O Γ cc nL own fr lo) {b n : Nat} {i : Int32} (hb : ca_lay[b]? = some (.inr (1, n))) (hin : vp_in i n) (d : decode cc pc = .ok (.baload, 1)) (k : ca_G Γ nL h (pc + 1) L (.int (h.1 b i.toNatClampNeg) :: S)) : ca_G Γ nL h pc L (.int i :: .ref b :: S) := fun H locs ls hP hS hl =>
  va_zald o.1 o.2.1 o.2.2.2.2.2.2.1.1 hP b 1 (ca_w_at hb) rfl hin d (k H locs ls hP hS hl)
theorem g_lald (o : ca_O Γ cc nL own fr lo) {b n : Nat} {i : Int32} (hb : ca_lay[b]? = some (.inr (2, n))) (hin : vp_in i n) (d : decode cc pc = .ok (.laload, 1)) (k : ca_G Γ nL h (pc + 1) L (.long (h.2 i.toNatClampNeg) :: S)) : ca_G Γ nL h pc L (.int i :: .ref b :: S) := fun H locs ls hP hS hl =>
  va_lald o.1 o.2.1 o.2.2.2.2.2.2.1.1 hP b 2 (ca_w_at hb) rfl hin d (k H locs ls hP hS hl)
theorem g_iast (o : ca_O Γ cc nL own fr lo) {b n : Nat} {i v : Int32} (hb : ca_lay[b]? = some (.inr (0, n))) (hin : vp_in i n) (d : decode cc pc = .ok (.iastore, 1)) (k : ca_G Γ nL (mw h b i.toNatClampNeg v) (pc + 1) L S) : ca_G Γ nL h pc L (.int v :: .int i :: .ref b :: S) := fun H locs ls hP hS hl =>
  va_iast o.1 o.2.1 o.2.2.2.2.2.2.1.1 hP (ca_D_w o.2.2.2.2.2.2.1.2.1 o.2.2.2.2.2.2.2.1 h) hS b 0 (ca_w_at hb) rfl hin d (fun H1 locs1 hP1 _ hS1 => by
    refine k H1 locs1 ls ?_ hS1 hl
    rw [ca_w_mw (i := i.toNatClampNeg) (v := v) hb (by show Sum.inl (_, n, Sum.inl _) = _; rw [mw_same])] at hP1
    exact hP1)
theorem g_zast (o : ca_O Γ cc nL own fr lo) {b n : Nat} {i v : Int32} (hb : ca_lay[b]? = some (.inr (1, n))) (hin : vp_in i n) (hv : vp_nar .boolean v = v) (d : decode cc pc = .ok (.bastore, 1)) (k : ca_G Γ nL (mw h b i.toNatClampNeg v) (pc + 1) L S) : ca_G Γ nL h pc L (.int v :: .int i :: .ref b :: S) := fun H locs ls hP hS hl =>
  va_zast o.1 o.2.1 o.2.2.2.2.2.2.1.1 hP (ca_D_w o.2.2.2.2.2.2.1.2.1 o.2.2.2.2.2.2.2.1 h) hS b 1 (ca_w_at hb) rfl hin d (fun H1 locs1 hP1 _ hS1 => by
    refine k H1 locs1 ls ?_ hS1 hl
    rw [hv] at hP1
    rw [ca_w_mw (i := i.toNatClampNeg) (v := v) hb (by show Sum.inl (_, n, Sum.inl _) = _; rw [mw_same])] at hP1
    exact hP1)
theorem g_last (o : ca_O Γ cc nL own fr lo) {n : Nat} {i : Int32} {v : Int64} (hb : ca_lay[43]? = some (.inr (2, n))) (hin : vp_in i n) (d : decode cc pc = .ok (.lastore, 1)) (k : ca_G Γ nL (ml h i.toNatClampNeg v) (pc + 1) L S) : ca_G Γ nL h pc L (.long v :: .int i :: .ref 43 :: S) := fun H locs ls hP hS hl =>
  va_last o.1 o.2.1 o.2.2.2.2.2.2.1.1 hP (ca_D_w o.2.2.2.2.2.2.1.2.1 o.2.2.2.2.2.2.2.1 h) hS 43 2 (ca_w_at hb) rfl hin d (fun H1 locs1 hP1 _ hS1 => by
    refine k H1 locs1 ls ?_ hS1 hl
    have hP2 : va_P (fK Γ).2.1 vwCl ((ca_w (fK Γ) h).set 43 ((fK Γ).1 43, ca_e (fK Γ) (ml h i.toNatClampNeg v) 43 (.inr (2, n)))) H1 := hP1
    rw [ca_w_set (h' := ml h i.toNatClampNeg v) hb rfl (fun j y hj hy => ca_e_ml hj hy)] at hP2
    exact hP2)
end GRows
/-! ===== calls, returns, statics, texts ===== -/
def ca_mt (y : MethodName) (cc : ByteArray) (nL : Nat) (ret : Option FieldType) (n : Nat) : Prop := Cond.code y cc nL ret ∈ T0 ∧ Cond.initialized y.cls ∈ T0 ∧ (y.cls ≠ "java/lang/invoke/MethodHandle" ∧ y.cls ≠ "java/lang/invoke/VarHandle" ∧ (parseMethodDescriptor y.desc).map (fun d => d.parameters.length) = some n)
def ca_mv (y : MethodName) : Prop := Cond.instanceMethod y ∈ T0 ∧ Cond.selects y.cls y y ∈ T0
theorem ca_blind {κ : Cf} {as : List Value} {h : Mem} : FrameBlind (va_Pc (as.map (ca_z κ)) (fun U => ca_E κ (ca_A κ) U ∧ va_P κ.2.1 vwCl (ca_w κ h) U.heap)) := fun a U g mk q => ⟨q.1, q.2.1.same rfl rfl, q.2.2⟩
theorem ca_after {p : Program} {l : Launch} {e : Env} {R : Room} {s : State} {m : MethodId} {args : Array Value} {below : List Frame} {meth : Method} {c : Code} {H : Heap} {locs : List Loc} {cells slots : Nat} {Q : State → Prop} {κ : Cf} {A : Nat → Prop} {Po : Option Value → Mem → Prop} {a : Array Value} {pc : Nat} {ls : Array Slot} {st0 rest : List Value}
    (hr : va_Run p l e R s m args below meth c H locs cells slots 0 0 (F0 m pc ls st0) rest (ca_Q κ Po a) (ca_A κ)) (hS : va_S A s.heap H locs) (hA : ∀ q, ca_A κ q → A q)
    (kk : ∀ (v : Option Value) (h' : Mem) (H1 : Heap) (locs1 : List Loc), Po v h' → va_P κ.2.1 vwCl (ca_w κ h') H1 → va_S A s.heap H1 locs1 → W p l e R s m args below meth c H1 locs1 cells slots Q (F0 m (pc + 3) ls ((v.map (ca_z κ)).toList ++ rest))) : W p l e R s m args below meth c H locs cells slots Q (F0 m pc ls st0) := by
  intro T hT X
  obtain ⟨v, st₀, t, T', L, h0, X', hL, e1, e2, ⟨w, h', hv, hpo, hP1, hz, hk⟩, st⟩ := hr T hT X
  cases hv
  rw [h0] at hz hk
  obtain ⟨t2, a1, b1⟩ := kk w h' T'.heap (locs ++ L) hpo (by rw [e1]; exact hP1) ⟨Nat.le_trans hS.1 (by rw [e1]; exact hz), fun q h1 h2 => by rw [e1, hk q (Nat.lt_of_lt_of_le h1 hS.1) (fun z => h2 (hA q z))]; exact hS.2.1 q h1 h2, fun q hq => by
      rcases List.mem_append.mp hq with h | h
      · exact hS.2.2 q h
      · exact hA _ (hL q h)⟩ T' rfl X'
  exact ⟨t2, st t2 a1, b1⟩
theorem ca_rest (κ : Cf) (v : Option Value) (S : List Value) : (v.map (ca_z κ)).toList ++ S.map (ca_z κ) = (v.toList ++ S).map (ca_z κ) := by cases v <;> rfl
theorem ca_cats (κ : Cf) (S : List Value) : ((S.map (ca_z κ)).map fun v => v.category) = S.map fun v => v.category := by
  rw [List.map_map]
  exact List.map_congr_left (fun v _ => ca_z_cat κ v)
section GCalls
variable {Γ : Fr} {cc : ByteArray} {nL : Nat} {own : String} {fr lo : Nat} {h : Mem} {pc : Nat} {L : List (Option Value)} {S : List Value}
variable {y : MethodName} {cc2 : ByteArray} {nL2 : Nat} {ret2 : Option FieldType} {fr2 lo2 n idx b ci N : Nat} {fs : List (Option Nat)} {As st : List Value} {Po : Option Value → Mem → Prop} {T : u_T}
theorem g_callV (o : ca_O Γ cc nL own fr lo) (K : Ct y cc2 nL2 ret2 fr2 lo2 (.ref b :: As) h Po) (mt : ca_mt y cc2 nL2 ret2 n) (mv : ca_mv y) (hlk : Cond.methodLink own idx y ∈ T0) (hb : ca_lay[b]? = some (.inl (ci, fs))) (hc : vwCl[ci]? = some (y.cls, T, N)) (hn : As.length = n) (hR : fr2 + 1 ≤ fr ∧ 8 + (nL2 + 11) + lo2 ≤ lo) (hst : st = As.reverse ++ .ref b :: S) (hcat : (S.map fun v => v.category).sum ≤ 8) (d : decode cc pc = .ok (.invokevirtual idx, 3))
    (k : ∀ (v : Option Value) (h' : Mem), Po v h' → ca_G Γ nL h' (pc + 3) L (v.toList ++ S)) : ca_G Γ nL h pc L st := by
  intro H locs ls hP hS hl
  subst hst
  obtain ⟨hx, hb1, hml, hown, hts, hlocks, hE, hA, hfr, hlo, hce, hsl⟩ := o
  refine ca_after (Po := Po) (κ := fK Γ) (rest := S.map (ca_z (fK Γ))) (a := (Value.ref ((fK Γ).1 b) :: As.map (ca_z (fK Γ))).toArray) (va_runV (C := y.cls) (Ts := T0) (b := (fK Γ).1 b) (As := As.map (ca_z (fK Γ))) (rest := S.map (ca_z (fK Γ))) (n := n) ⟨hx, hb1, hml, hown, hts⟩ (K (fL Γ) (fK Γ)) ⟨callB_of n hts (T0_code mt.1) rfl rfl rfl (hts _ mt.2.1) (hts _ hlk) mt.2.2 ⟨Nat.le_trans hR.1 hfr, Nat.le_trans hR.2 hlo⟩, hts _ mv.1, hts _ mv.2⟩ ⟨ca_blind, ?_, fun U hU hW => ⟨rfl, hE.go (fun q h1 h2 => by rw [hU]; exact hS.2.1 q h1 h2) hW hA, by rw [hU]; exact hP⟩⟩ rfl (by rw [List.length_map]; exact hn) (hl.1) (by simp [ca_z]) (lv_room (by rw [ca_cats]; exact hcat)) d ⟨hce, hsl⟩) hS hA ?_
  · exact va_recv hE.1 hP hc (ca_w_at hb)
  · intro v h' H1 locs1 hpo hP1 hS1
    have := k v h' hpo H1 locs1 ls hP1 hS1 hl
    rw [ca_rest]
    exact this
theorem g_callS (o : ca_O Γ cc nL own fr lo) (K : Ct y cc2 nL2 ret2 fr2 lo2 As h Po) (mt : ca_mt y cc2 nL2 ret2 n) (ms : Cond.static y ∈ T0) (hlk : Cond.methodLink own idx y ∈ T0) (hn : As.length = n) (hR : fr2 + 1 ≤ fr ∧ 8 + (nL2 + 11) + lo2 ≤ lo) (hst : st = As.reverse ++ S) (hcat : (S.map fun v => v.category).sum ≤ 8) (d : decode cc pc = .ok (.invokestatic idx, 3))
    (k : ∀ (v : Option Value) (h' : Mem), Po v h' → ca_G Γ nL h' (pc + 3) L (v.toList ++ S)) : ca_G Γ nL h pc L st := by
  intro H locs ls hP hS hl
  subst hst
  obtain ⟨hx, hb1, hml, hown, hts, hlocks, hE, hA, hfr, hlo, hce, hsl⟩ := o
  refine ca_after (Po := Po) (κ := fK Γ) (rest := S.map (ca_z (fK Γ))) (a := (As.map (ca_z (fK Γ))).toArray) (va_runS (Ts := T0) (As := As.map (ca_z (fK Γ))) (rest := S.map (ca_z (fK Γ))) (n := n) ⟨hx, hb1, hml, hown, hts⟩ (K (fL Γ) (fK Γ)) ⟨callB_of n hts (T0_code mt.1) rfl rfl rfl (hts _ mt.2.1) (hts _ hlk) mt.2.2 ⟨Nat.le_trans hR.1 hfr, Nat.le_trans hR.2 hlo⟩, hts _ ms⟩ ⟨ca_blind, fun U hU hW => ⟨rfl, hE.go (fun q h1 h2 => by rw [hU]; exact hS.2.1 q h1 h2) hW hA, by rw [hU]; exact hP⟩⟩ rfl (by rw [List.length_map]; exact hn) (hl.1) (by simp) (lv_room (by rw [ca_cats]; exact hcat)) d ⟨hce, hsl⟩) hS hA ?_
  intro v h' H1 locs1 hpo hP1 hS1
  have := k v h' hpo H1 locs1 ls hP1 hS1 hl
  rw [ca_rest]
  exact this
theorem g_callN (o : ca_O Γ cc nL own fr lo) {host : String} (K : Ct y cc2 nL2 ret2 fr2 lo2 As h Po) (mt : ca_mt y cc2 nL2 ret2 n) (ms : Cond.static y ∈ T0) (hlk : Cond.methodLinkNest own idx y host ∈ ca_nest) (hn : As.length = n) (hR : fr2 + 1 ≤ fr ∧ 8 + (nL2 + 11) + lo2 ≤ lo) (hst : st = As.reverse ++ S) (hcat : (S.map fun v => v.category).sum ≤ 8) (d : decode cc pc = .ok (.invokestatic idx, 3))
    (k : ∀ (v : Option Value) (h' : Mem), Po v h' → ca_G Γ nL h' (pc + 3) L (v.toList ++ S)) : ca_G Γ nL h pc L st := by
  intro H locs ls hP hS hl
  subst hst
  obtain ⟨hx, hb1, hml, hown, hts, hlocks, hE, hA, hfr, hlo, hce, hsl⟩ := o
  refine ca_after (Po := Po) (κ := fK Γ) (rest := S.map (ca_z (fK Γ))) (a := (As.map (ca_z (fK Γ))).toArray) (va_runSN (Ts := T0) (As := As.map (ca_z (fK Γ))) (rest := S.map (ca_z (fK Γ))) (n := n) (host := host) ⟨hx, hb1, hml, hown, hts⟩ (K (fL Γ) (fK Γ)) ⟨va_cnB n hts (T0_code mt.1) rfl rfl rfl (hE.2.2.1 _ hlk) (hts _ mt.2.1) mt.2.2 ⟨Nat.le_trans hR.1 hfr, Nat.le_trans hR.2 hlo⟩, hts _ ms, trivial⟩ ⟨ca_blind, fun U hU hW => ⟨rfl, hE.go (fun q h1 h2 => by rw [hU]; exact hS.2.1 q h1 h2) hW hA, by rw [hU]; exact hP⟩⟩ rfl (by rw [List.length_map]; exact hn) (hl.1) (by simp) (lv_room (by rw [ca_cats]; exact hcat)) d ⟨hce, hsl⟩) hS hA ?_
  intro v h' H1 locs1 hpo hP1 hS1
  have := k v h' hpo H1 locs1 ls hP1 hS1 hl
  rw [ca_rest]
  exact this
/-- a call on a text -/
theorem g_callT (o : ca_O Γ cc nL own fr lo) {i : Nat} (K : Ct y cc2 nL2 ret2 fr2 lo2 (.ref (1000 + i) :: As) h Po) (mt : ca_mt y cc2 nL2 ret2 n) (mv : ca_mv y) (hlk : Cond.methodLink own idx y ∈ T0) (hi : i < 12) (hc : y.cls = "java/lang/String") (hn : As.length = n) (hR : fr2 + 1 ≤ fr ∧ 8 + (nL2 + 11) + lo2 ≤ lo) (hst : st = As.reverse ++ .ref (1000 + i) :: S) (hcat : (S.map fun v => v.category).sum ≤ 8) (d : decode cc pc = .ok (.invokevirtual idx, 3))
    (k : ∀ (v : Option Value) (h' : Mem), Po v h' → ca_G Γ nL h' (pc + 3) L (v.toList ++ S)) : ca_G Γ nL h pc L st := by
  intro H locs ls hP hS hl
  subst hst
  obtain ⟨hx, hb1, hml, hown, hts, hlocks, hE, hA, hfr, hlo, hce, hsl⟩ := o
  refine ca_after (Po := Po) (κ := fK Γ) (rest := S.map (ca_z (fK Γ))) (a := (Value.ref ((fK Γ).1 (1000 + i)) :: As.map (ca_z (fK Γ))).toArray) (va_runV (C := y.cls) (Ts := T0) (b := (fK Γ).1 (1000 + i)) (As := As.map (ca_z (fK Γ))) (rest := S.map (ca_z (fK Γ))) (n := n) ⟨hx, hb1, hml, hown, hts⟩ (K (fL Γ) (fK Γ)) ⟨callB_of n hts (T0_code mt.1) rfl rfl rfl (hts _ mt.2.1) (hts _ hlk) mt.2.2 ⟨Nat.le_trans hR.1 hfr, Nat.le_trans hR.2 hlo⟩, hts _ mv.1, hts _ mv.2⟩ ⟨ca_blind, ?_, fun U hU hW => ⟨rfl, hE.go (fun q h1 h2 => by rw [hU]; exact hS.2.1 q h1 h2) hW hA, by rw [hU]; exact hP⟩⟩ rfl (by rw [List.length_map]; exact hn) (hl.1) (by simp [ca_z]) (lv_room (by rw [ca_cats]; exact hcat)) d ⟨hce, hsl⟩) hS hA ?_
  · rw [hc]
    exact vk_recv (adK := fun i => (fK Γ).1 (1000 + i)) (i := i) hE.2.2.2.2.2.2.2.2.2.2 hi hS
  · intro v h' H1 locs1 hpo hP1 hS1
    have := k v h' hpo H1 locs1 ls hP1 hS1 hl
    rw [ca_rest]
    exact this
/-! returns -/
variable {ret : Option FieldType} {Pr : Option Value → Mem → Prop}
theorem ca_ret (r : ca_R Γ ret Pr) {v : Option Value} (hp : Pr v h) {H : Heap} {locs : List Loc} (hP : va_P (fK Γ).2.1 vwCl (ca_w (fK Γ) h) H) (hS : va_S (fW Γ) (fS Γ).heap H locs) : (∀ t : State, t.heap = H → (fS Γ).WarmedH t.vm → ca_Q (fK Γ) Pr (fA Γ) (fS Γ) (.returned (v.map (ca_z (fK Γ)))) t) ∧ ∀ q ∈ locs, ca_A (fK Γ) q.base := by
  have hw := r.2.2
  rw [hw] at hS
  exact ⟨fun t ht _ => ⟨v, h, rfl, hp, by rw [ht]; exact hP, hS.F ht⟩, hS.2.2⟩
theorem g_iret (o : ca_O Γ cc nL own fr lo) (r : ca_R Γ (some .int) Pr) {x : Int32} (d : decode cc pc = .ok (.ireturn, 1)) (hp : Pr (some (.int x)) h) : ca_G Γ nL h pc L [.int x] := fun H locs ls hP hS hl => by
  rw [r.2.1]
  exact W.iret o.1 o.2.1 r.1 (ca_ret r hp hP hS).1 (ca_ret r hp hP hS).2 d o.2.2.2.2.2.1
theorem g_zret (o : ca_O Γ cc nL own fr lo) {ty : FieldType} (r : ca_R Γ (some ty) Pr) {x : Int32} (hn : narrow ty (.int x) = .int x) (d : decode cc pc = .ok (.ireturn, 1)) (hp : Pr (some (.int x)) h) : ca_G Γ nL h pc L [.int x] := fun H locs ls hP hS hl => by
  rw [r.2.1]
  exact W.zret o.1 o.2.1 r.1 hn (ca_ret r hp hP hS).1 (ca_ret r hp hP hS).2 d o.2.2.2.2.2.1
theorem g_lret (o : ca_O Γ cc nL own fr lo) (r : ca_R Γ (some .long) Pr) {x : Int64} (d : decode cc pc = .ok (.lreturn, 1)) (hp : Pr (some (.long x)) h) : ca_G Γ nL h pc L [.long x] := fun H locs ls hP hS hl => by
  rw [r.2.1]
  exact W.lret o.1 o.2.1 r.1 (ca_ret r hp hP hS).1 (ca_ret r hp hP hS).2 d o.2.2.2.2.2.1
theorem g_vret (o : ca_O Γ cc nL own fr lo) (r : ca_R Γ none Pr) (d : decode cc pc = .ok (.return_, 1)) (hp : Pr none h) : ca_G Γ nL h pc L [] := fun H locs ls hP hS hl => by
  rw [r.2.1]
  exact W.vret o.1 o.2.1 r.1 (ca_ret r hp hP hS).1 (ca_ret r hp hP hS).2 d o.2.2.2.2.2.1
theorem g_aret (o : ca_O Γ cc nL own fr lo) {nm : String} (r : ca_R Γ (some (.object nm)) Pr) {x : Nat} (d : decode cc pc = .ok (.areturn, 1)) (hp : Pr (some (.ref x)) h) : ca_G Γ nL h pc L [.ref x] := fun H locs ls hP hS hl => by
  rw [r.2.1]
  exact W.aret o.1 o.2.1 r.1 (Or.inl ⟨_, rfl⟩) (Or.inr ⟨_, rfl⟩) (ca_ret r hp hP hS).1 (ca_ret r hp hP hS).2 d o.2.2.2.2.2.1
/-! statics and texts -/
theorem g_asked (o : ca_O Γ cc nL own fr lo) (hlk : Cond.fieldLink own idx "ReleaseTerms$Terms" "ASKED" "[I" ∈ T0) (d : decode cc pc = .ok (.getstatic idx, 3)) (k : ca_G Γ nL h (pc + 3) L (.ref 900 :: S)) : ca_G Γ nL h pc L S := fun H locs ls hP hS hl =>
  va_gets o.1 o.2.1 o.2.2.2.2.2.2.1.2.2.2.1 hS o.2.2.2.1 (o.2.2.2.2.1 _ hlk) (fun _ z => z) d (k H locs ls hP hS hl)
theorem g_above (o : ca_O Γ cc nL own fr lo) (hlk : Cond.fieldLink own idx "ReleaseTerms$Terms" "ABOVE" "[I" ∈ T0) (d : decode cc pc = .ok (.getstatic idx, 3)) (k : ca_G Γ nL h (pc + 3) L (.ref 901 :: S)) : ca_G Γ nL h pc L S := fun H locs ls hP hS hl =>
  va_gets o.1 o.2.1 o.2.2.2.2.2.2.1.2.2.2.2.2.1 hS o.2.2.2.1 (o.2.2.2.2.1 _ hlk) (fun _ z => z) d (k H locs ls hP hS hl)
theorem g_askedAt (o : ca_O Γ cc nL own fr lo) {i : Int32} (hin : vp_in i 7) (d : decode cc pc = .ok (.iaload, 1)) (k : ca_G Γ nL h (pc + 1) L (.int (ca_asked.getD i.toNatClampNeg 0) :: S)) : ca_G Γ nL h pc L (.int i :: .ref 900 :: S) := fun H locs ls hP hS hl =>
  va_ti o.1 o.2.1 o.2.2.2.2.2.2.1.2.2.2.2.1 hS hin rfl d (k H locs ls hP hS hl)
theorem g_aboveAt (o : ca_O Γ cc nL own fr lo) {i : Int32} (hin : vp_in i 7) (d : decode cc pc = .ok (.iaload, 1)) (k : ca_G Γ nL h (pc + 1) L (.int (ca_above.getD i.toNatClampNeg 0) :: S)) : ca_G Γ nL h pc L (.int i :: .ref 901 :: S) := fun H locs ls hP hS hl =>
  va_ti o.1 o.2.1 o.2.2.2.2.2.2.1.2.2.2.2.2.2.1 hS hin rfl d (k H locs ls hP hS hl)
theorem g_compact (o : ca_O Γ cc nL own fr lo) (hlk : Cond.fieldLink own idx "java/lang/String" "COMPACT_STRINGS" "Z" ∈ T0) (d : decode cc pc = .ok (.getstatic idx, 3)) (k : ca_G Γ nL h (pc + 3) L (.int 1 :: S)) : ca_G Γ nL h pc L S := fun H locs ls hP hS hl =>
  va_gets o.1 o.2.1 o.2.2.2.2.2.2.1.2.2.2.2.2.2.2.1 hS o.2.2.2.1 (o.2.2.2.2.1 _ hlk) (fun _ z => z) d (k H locs ls hP hS hl)
theorem g_fmt (o : ca_O Γ cc nL own fr lo) (hlk : Cond.fieldLink own idx "jdk/internal/util/Preconditions" "SIOOBE_FORMATTER" "Ljava/util/function/BiFunction;" ∈ T0) (d : decode cc pc = .ok (.getstatic idx, 3)) (k : ∀ v : Value, v = .null ∨ v = .ref 950 → ca_G Γ nL h (pc + 3) L (v :: S)) : ca_G Γ nL h pc L S := fun H locs ls hP hS hl => by
  rcases o.2.2.2.2.2.2.1.2.2.2.2.2.2.2.2.1 with z | z
  · exact va_gets o.1 o.2.1 z hS o.2.2.2.1 (o.2.2.2.2.1 _ hlk) (fun _ z => z) d (k .null (Or.inl rfl) H locs ls hP hS hl)
  · exact va_gets o.1 o.2.1 z hS o.2.2.2.1 (o.2.2.2.2.1 _ hlk) (fun _ z => z) d (k (.ref 950) (Or.inr rfl) H locs ls hP hS hl)
theorem g_ldcS (o : ca_O Γ cc nL "ReleaseTerms$Reader" fr lo) {i j : Nat} {tx : String} (hs : ca_strs[i]? = some (j, tx)) (d : decode cc pc = .ok (.ldc j, 2)) (k : ca_G Γ nL h (pc + 2) L (.ref (1000 + i) :: S)) : ca_G Γ nL h pc L S := fun H locs ls hP hS hl =>
  va_ldcS o.1 o.2.1 o.2.2.2.1 (o.2.2.2.2.2.2.1.2.2.2.2.2.2.2.2.2.1 i (j, tx) hs) d (k H locs ls hP hS hl)
theorem g_sval (o : ca_O Γ cc nL own fr lo) {i : Nat} (hi : i < 12) (hlk : Cond.fieldLink own idx "java/lang/String" "value" "[B" ∈ T0) (d : decode cc pc = .ok (.getfield idx, 3)) (k : ca_G Γ nL h (pc + 3) L (.ref (1100 + i) :: S)) : ca_G Γ nL h pc L (.ref (1000 + i) :: S) := fun H locs ls hP hS hl =>
  vk_getf o.1 o.2.1 (o.2.2.2.2.2.2.1.2.2.2.2.2.2.2.2.2.2.1 i hi).2.2.1 hS o.2.2.2.1 (o.2.2.2.2.1 _ hlk) (fun _ z => z) d (k H locs ls hP hS hl)
theorem g_scod (o : ca_O Γ cc nL own fr lo) {i : Nat} (hi : i < 12) (hlk : Cond.fieldLink own idx "java/lang/String" "coder" "B" ∈ T0) (d : decode cc pc = .ok (.getfield idx, 3)) (k : ca_G Γ nL h (pc + 3) L (.int 0 :: S)) : ca_G Γ nL h pc L (.ref (1000 + i) :: S) := fun H locs ls hP hS hl =>
  vk_getf o.1 o.2.1 (o.2.2.2.2.2.2.1.2.2.2.2.2.2.2.2.2.2.1 i hi).2.1 hS o.2.2.2.1 (o.2.2.2.2.1 _ hlk) (fun _ z => z) d (k H locs ls hP hS hl)
theorem g_slen (o : ca_O Γ cc nL own fr lo) {i : Nat} (hi : i < 12) (d : decode cc pc = .ok (.arraylength, 1)) (k : ca_G Γ nL h (pc + 1) L (.int (nI (ca_slen.getD i 0)) :: S)) : ca_G Γ nL h pc L (.ref (1100 + i) :: S) := fun H locs ls hP hS hl =>
  va_tlen o.1 o.2.1 (o.2.2.2.2.2.2.1.2.2.2.2.2.2.2.2.2.2.1 i hi).2.2.2 hS rfl d (k H locs ls hP hS hl)
theorem g_sbyt (o : ca_O Γ cc nL own fr lo) {i : Nat} (hi : i < 12) {j : Int32} (hin : vp_in j (ca_slen.getD i 0)) (d : decode cc pc = .ok (.baload, 1)) (k : ca_G Γ nL h (pc + 1) L (.int ((ca_sbyt.getD i []).getD j.toNatClampNeg 0) :: S)) : ca_G Γ nL h pc L (.int j :: .ref (1100 + i) :: S) := fun H locs ls hP hS hl =>
  va_tb o.1 o.2.1 (o.2.2.2.2.2.2.1.2.2.2.2.2.2.2.2.2.2.1 i hi).2.2.2 hS hin rfl d (k H locs ls hP hS hl)
/-! the library's own -/
theorem g_min (o : ca_O Γ cc nL own fr lo) {x z : Int32} (hlk : Cond.methodLink own idx Lib.Math.min.name ∈ T0) (hst : Cond.static Lib.Math.min.name ∈ T0) (hini : Cond.initialized "java/lang/Math" ∈ T0) (hcode : Cond.code Lib.Math.min.name Lib.Math.min.code 2 (some .int) ∈ T0) (hf : 1 ≤ fr) (hlc : (S.map fun v => v.category).sum + 13 ≤ lo) (d : decode cc pc = .ok (.invokestatic idx, 3)) (k : ca_G Γ nL h (pc + 3) L (.int (if z < x then z else x) :: S)) : ca_G Γ nL h pc L (.int z :: .int x :: S) := fun H locs ls hP hS hl =>
  va_mmin o.1 o.2.1 (o.2.2.1.trans hl.1.symm) o.2.2.2.1 (o.2.2.2.2.1 _ hlk) (o.2.2.2.2.1 _ hst) (o.2.2.2.2.1 _ hini) (o.2.2.2.2.1 _ hcode) (Nat.le_trans hf o.2.2.2.2.2.2.2.2.1) (Nat.le_trans (by rw [ca_cats]; exact hlc) o.2.2.2.2.2.2.2.2.2.1) o.2.2.2.2.2.2.2.2.2.2.1 o.2.2.2.2.2.2.2.2.2.2.2 d (k H locs ls hP hS hl)
theorem g_acopy (o : ca_O Γ cc nL own fr lo) {ks kd n0 n1 : Nat} {sp dp m : Int32} (hk0 : ca_lay[ks]? = some (.inr (0, n0))) (hk1 : ca_lay[kd]? = some (.inr (0, n1))) (h1 : ¬ sp < 0) (h2 : ¬ dp < 0) (h3 : ¬ m < 0) (h4 : sp.toNatClampNeg + m.toNatClampNeg ≤ n0) (h5 : dp.toNatClampNeg + m.toNatClampNeg ≤ n1) (hlk : Cond.methodLink own idx arraycopyName ∈ T0) (hnat : Cond.native arraycopyName ∈ T0) (hst : Cond.static arraycopyName ∈ T0) (hini : Cond.initialized "java/lang/System" ∈ T0) (hf : 1 ≤ fr) (hlc : (S.map fun v => v.category).sum + (nativeFrameWords "java/lang/System" "arraycopy" 5 + 11) ≤ lo) (d : decode cc pc = .ok (.invokestatic idx, 3))
    (k : ca_G Γ nL (mcp h ks kd sp.toNatClampNeg dp.toNatClampNeg m.toNatClampNeg) (pc + 3) L S) : ca_G Γ nL h pc L (.int m :: .int dp :: .ref kd :: .int sp :: .ref ks :: S) := fun H locs ls hP hS hl =>
  va_copyi (ty := .int) o.1 o.2.1 (o.2.2.1.trans hl.1.symm) o.2.2.2.1 (o.2.2.2.2.1 _ hlk) (o.2.2.2.2.1 _ hnat) (o.2.2.2.2.1 _ hst) (o.2.2.2.2.1 _ hini) o.2.2.2.2.2.2.1.1 hP (ca_D_w o.2.2.2.2.2.2.1.2.1 o.2.2.2.2.2.2.2.1 h) hS ks kd 0 0 (ca_w_at hk0) (ca_w_at hk1) rfl rfl rfl h1 h2 h3 h4 h5 (fun _ _ => rfl) (Nat.le_trans hf o.2.2.2.2.2.2.2.2.1) (Nat.le_trans (by rw [ca_cats]; exact hlc) o.2.2.2.2.2.2.2.2.2.1) d (fun H1 locs1 hP1 _ hS1 => by
    refine k H1 locs1 ls ?_ hS1 hl
    rw [ca_w_set (h' := mcp h ks kd sp.toNatClampNeg dp.toNatClampNeg m.toNatClampNeg) hk1 (by show Sum.inl (_, n1, Sum.inl _) = _; rw [mcp_same]) (fun j y hj hy => ca_e_off y (mcp_ne h _ _ _ hj) rfl)] at hP1
    exact hP1)
end GCalls
