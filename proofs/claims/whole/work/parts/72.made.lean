/-! ===== the constructors ===== -/
def fl (b : Nat) (f : Nat → Int32) : Nat → (Nat → Int32)
  | 0 => f
  | i + 1 => upd (fl b f i) (b + i) (-1)
def hF : Nat → Int32 := fl 0 (fun _ => 0) 6
def pF : Nat → Int32 := fl 0 (fun _ => 0) 10
def sF : Nat → Int32 := fl 331 (fl 274 (upd (fun _ => 0) 284 1) 10) 6
def w_X2 (κ : Cf) (a : Nat → Nat) : va_W := [(a 0, .inr (2, [.ref (a 1)])), (a 1, .inl (κ.2.2.1, 8, .inl fun _ => 0))]
theorem hfs_X2 : ∀ j, j < 1 → defaultValue (tyX2 j) = vp_V [.null] j := by
  intro j hj
  rcases (by omega : j = 0) with rfl <;> rfl
def w_X5 (κ : Cf) (a : Nat → Nat) : va_W := [(a 0, .inr (5, [.ref (a 1), .int 0])), (a 1, .inl (κ.2.2.1, 240, .inl fun _ => 0))]
theorem hfs_X5 : ∀ j, j < 2 → defaultValue (tyX5 j) = vp_V [.null, .int 0] j := by
  intro j hj
  rcases (by omega : j = 0 ∨ j = 1) with rfl | rfl <;> rfl
def w_X7 (κ : Cf) (a : Nat → Nat) : va_W := [(a 0, .inr (7, [.ref (a 1), .int 0])), (a 1, .inl (κ.2.2.1, 84, .inl fun _ => 0))]
theorem hfs_X7 : ∀ j, j < 2 → defaultValue (tyX7 j) = vp_V [.null, .int 0] j := by
  intro j hj
  rcases (by omega : j = 0 ∨ j = 1) with rfl | rfl <;> rfl
def w_X6 (κ : Cf) (a : Nat → Nat) : va_W := [(a 0, .inr (6, [.ref (a 1), .ref (a 2), .ref (a 3), .ref (a 4)])), (a 1, .inl (κ.2.2.1, 5, .inl fun _ => 0)), (a 2, .inl (κ.2.2.1, 5, .inl fun _ => 0)), (a 3, .inl (κ.2.2.1, 30, .inl fun _ => 0)), (a 4, .inl (κ.2.2.1, 6, .inl fun _ => 0))]
theorem hfs_X6 : ∀ j, j < 4 → defaultValue (tyX6 j) = vp_V [.null, .null, .null, .null] j := by
  intro j hj
  rcases (by omega : j = 0 ∨ j = 1 ∨ j = 2 ∨ j = 3) with rfl | rfl | rfl | rfl <;> rfl
def w_X3 (κ : Cf) (a : Nat → Nat) : va_W := [(a 0, .inr (3, [.ref (a 1), .int 0, .ref (a 2), .int 0, .int 0, .int 0, .int 0, .int 0, .int 0, .int 0, .ref (a 3)])), (a 1, .inl (κ.2.2.1, 120, .inl fun _ => 0)), (a 2, .inl (κ.2.2.1, 160, .inl fun _ => 0)), (a 3, .inl (κ.2.2.1, 6, .inl fun _ => 0))]
theorem hfs_X3 : ∀ j, j < 11 → defaultValue (tyX3 j) = vp_V [.null, .int 0, .null, .int 0, .int 0, .int 0, .int 0, .int 0, .int 0, .int 0, .null] j := by
  intro j hj
  rcases (by omega : j = 0 ∨ j = 1 ∨ j = 2 ∨ j = 3 ∨ j = 4 ∨ j = 5 ∨ j = 6 ∨ j = 7 ∨ j = 8 ∨ j = 9 ∨ j = 10) with rfl | rfl | rfl | rfl | rfl | rfl | rfl | rfl | rfl | rfl | rfl <;> rfl
def w_X4 (κ : Cf) (a : Nat → Nat) : va_W := [(a 0, .inr (4, [.ref (a 1), .ref (a 2), .ref (a 3)])), (a 1, .inl (κ.2.2.1, 4, .inl fun _ => 0)), (a 2, .inl (κ.2.2.1, 4, .inl fun _ => 0)), (a 3, .inl (κ.2.2.1, 160, .inl fun _ => 0))]
theorem hfs_X4 : ∀ j, j < 3 → defaultValue (tyX4 j) = vp_V [.null, .null, .null] j := by
  intro j hj
  rcases (by omega : j = 0 ∨ j = 1 ∨ j = 2) with rfl | rfl | rfl <;> rfl
def w_X1 (κ : Cf) (a : Nat → Nat) : va_W := [(a 0, .inr (1, [.ref (a 1), .ref (a 2), .ref (a 3), .ref (a 4), .ref (a 5), .ref (a 6), .ref (a 7), .ref (a 8), .int 0, .int 0])), (a 1, .inl (κ.2.2.1, 24, .inl fun _ => 0)), (a 2, .inl (κ.2.2.1, 8, .inl fun _ => 0)), (a 3, .inl (κ.2.2.1, 192, .inl fun _ => 0)), (a 4, .inl (κ.2.2.1, 24576, .inl fun _ => 0)), (a 5, .inl (κ.2.2.2.2, 24576, .inr (.inl fun _ => 0))), (a 6, .inl (κ.2.2.1, 8192, .inl fun _ => 0)), (a 7, .inl (κ.2.2.1, 8192, .inl fun _ => 0)), (a 8, .inl (κ.2.2.1, 8, .inl fun _ => 0))]
theorem hfs_X1 : ∀ j, j < 10 → defaultValue (tyX1 j) = vp_V [.null, .null, .null, .null, .null, .null, .null, .null, .int 0, .int 0] j := by
  intro j hj
  rcases (by omega : j = 0 ∨ j = 1 ∨ j = 2 ∨ j = 3 ∨ j = 4 ∨ j = 5 ∨ j = 6 ∨ j = 7 ∨ j = 8 ∨ j = 9) with rfl | rfl | rfl | rfl | rfl | rfl | rfl | rfl | rfl | rfl <;> rfl
def w_X8 (κ : Cf) (a : Nat → Nat) : va_W := [(a 0, .inr (8, [.ref (a 1), .ref (a 2), .int 0])), (a 1, .inl (κ.2.2.1, 24, .inl fun _ => 0)), (a 2, .inl (κ.2.2.1, 4, .inl fun _ => 0))]
theorem hfs_X8 : ∀ j, j < 3 → defaultValue (tyX8 j) = vp_V [.null, .null, .int 0] j := by
  intro j hj
  rcases (by omega : j = 0 ∨ j = 1 ∨ j = 2) with rfl | rfl | rfl <;> rfl
def w_X0 (κ : Cf) (a : Nat → Nat) (f : Nat → Int32) (g : Nat → Int32) : va_W := [(a 0, .inr (0, [.ref (a 1), .ref (a 3), .ref (a 5), .ref (a 7), .ref (a 12), .ref (a 13), .int 1])), (a 1, .inr (2, [.ref (a 2)])), (a 2, .inl (κ.2.2.1, 8, .inl fun _ => 0)), (a 3, .inr (5, [.ref (a 4), .int 0])), (a 4, .inl (κ.2.2.1, 240, .inl fun _ => 0)), (a 5, .inr (7, [.ref (a 6), .int 0])), (a 6, .inl (κ.2.2.1, 84, .inl fun _ => 0)), (a 7, .inr (6, [.ref (a 8), .ref (a 9), .ref (a 10), .ref (a 11)])), (a 8, .inl (κ.2.2.1, 5, .inl fun _ => 0)), (a 9, .inl (κ.2.2.1, 5, .inl fun _ => 0)), (a 10, .inl (κ.2.2.1, 30, .inl fun _ => 0)), (a 11, .inl (κ.2.2.1, 6, .inl fun _ => 0)), (a 12, .inl (κ.2.2.1, 6, .inl f)), (a 13, .inl (κ.2.2.1, 10, .inl g))]
theorem hfs_X0 : ∀ j, j < 7 → defaultValue (tyX0 j) = vp_V [.null, .null, .null, .null, .null, .null, .int 0] j := by
  intro j hj
  rcases (by omega : j = 0 ∨ j = 1 ∨ j = 2 ∨ j = 3 ∨ j = 4 ∨ j = 5 ∨ j = 6) with rfl | rfl | rfl | rfl | rfl | rfl | rfl <;> rfl
def w_X9 (κ : Cf) (a : Nat → Nat) : va_W := [(a 0, .inr (9, [.ref (a 1), .ref (a 15), .int 0, .ref (a 29), .ref (a 30), .ref (a 34), .ref (a 38), .ref (a 47), .ref (a 50), .int 0])), (a 1, .inr (0, [.ref (a 2), .ref (a 4), .ref (a 6), .ref (a 8), .ref (a 13), .ref (a 14), .int 1])), (a 2, .inr (2, [.ref (a 3)])), (a 3, .inl (κ.2.2.1, 8, .inl fun _ => 0)), (a 4, .inr (5, [.ref (a 5), .int 0])), (a 5, .inl (κ.2.2.1, 240, .inl fun _ => 0)), (a 6, .inr (7, [.ref (a 7), .int 0])), (a 7, .inl (κ.2.2.1, 84, .inl fun _ => 0)), (a 8, .inr (6, [.ref (a 9), .ref (a 10), .ref (a 11), .ref (a 12)])), (a 9, .inl (κ.2.2.1, 5, .inl fun _ => 0)), (a 10, .inl (κ.2.2.1, 5, .inl fun _ => 0)), (a 11, .inl (κ.2.2.1, 30, .inl fun _ => 0)), (a 12, .inl (κ.2.2.1, 6, .inl fun _ => 0)), (a 13, .inl (κ.2.2.1, 6, .inl hF)), (a 14, .inl (κ.2.2.1, 10, .inl pF)), (a 15, .inr (0, [.ref (a 16), .ref (a 18), .ref (a 20), .ref (a 22), .ref (a 27), .ref (a 28), .int 1])), (a 16, .inr (2, [.ref (a 17)])), (a 17, .inl (κ.2.2.1, 8, .inl fun _ => 0)), (a 18, .inr (5, [.ref (a 19), .int 0])), (a 19, .inl (κ.2.2.1, 240, .inl fun _ => 0)), (a 20, .inr (7, [.ref (a 21), .int 0])), (a 21, .inl (κ.2.2.1, 84, .inl fun _ => 0)), (a 22, .inr (6, [.ref (a 23), .ref (a 24), .ref (a 25), .ref (a 26)])), (a 23, .inl (κ.2.2.1, 5, .inl fun _ => 0)), (a 24, .inl (κ.2.2.1, 5, .inl fun _ => 0)), (a 25, .inl (κ.2.2.1, 30, .inl fun _ => 0)), (a 26, .inl (κ.2.2.1, 6, .inl fun _ => 0)), (a 27, .inl (κ.2.2.1, 6, .inl hF)), (a 28, .inl (κ.2.2.1, 10, .inl pF)), (a 29, .inl (κ.2.2.1, 7, .inl fun _ => 0)), (a 30, .inr (3, [.ref (a 31), .int 0, .ref (a 32), .int 0, .int 0, .int 0, .int 0, .int 0, .int 0, .int 0, .ref (a 33)])), (a 31, .inl (κ.2.2.1, 120, .inl fun _ => 0)), (a 32, .inl (κ.2.2.1, 160, .inl fun _ => 0)), (a 33, .inl (κ.2.2.1, 6, .inl fun _ => 0)), (a 34, .inr (4, [.ref (a 35), .ref (a 36), .ref (a 37)])), (a 35, .inl (κ.2.2.1, 4, .inl fun _ => 0)), (a 36, .inl (κ.2.2.1, 4, .inl fun _ => 0)), (a 37, .inl (κ.2.2.1, 160, .inl fun _ => 0)), (a 38, .inr (1, [.ref (a 39), .ref (a 40), .ref (a 41), .ref (a 42), .ref (a 43), .ref (a 44), .ref (a 45), .ref (a 46), .int 0, .int 0])), (a 39, .inl (κ.2.2.1, 24, .inl fun _ => 0)), (a 40, .inl (κ.2.2.1, 8, .inl fun _ => 0)), (a 41, .inl (κ.2.2.1, 192, .inl fun _ => 0)), (a 42, .inl (κ.2.2.1, 24576, .inl fun _ => 0)), (a 43, .inl (κ.2.2.2.2, 24576, .inr (.inl fun _ => 0))), (a 44, .inl (κ.2.2.1, 8192, .inl fun _ => 0)), (a 45, .inl (κ.2.2.1, 8192, .inl fun _ => 0)), (a 46, .inl (κ.2.2.1, 8, .inl fun _ => 0)), (a 47, .inr (8, [.ref (a 48), .ref (a 49), .int 0])), (a 48, .inl (κ.2.2.1, 24, .inl fun _ => 0)), (a 49, .inl (κ.2.2.1, 4, .inl fun _ => 0)), (a 50, .inl (κ.2.2.1, 24, .inl fun _ => 0))]
theorem hfs_X9 : ∀ j, j < 10 → defaultValue (tyX9 j) = vp_V [.null, .null, .int 0, .null, .null, .null, .null, .null, .null, .int 0] j := by
  intro j hj
  rcases (by omega : j = 0 ∨ j = 1 ∨ j = 2 ∨ j = 3 ∨ j = 4 ∨ j = 5 ∨ j = 6 ∨ j = 7 ∨ j = 8 ∨ j = 9) with rfl | rfl | rfl | rfl | rfl | rfl | rfl | rfl | rfl | rfl <;> rfl
def w_X10 (κ : Cf) (a : Nat → Nat) (f : Nat → Int32) : va_W := [(a 0, .inr (10, [.ref (a 1), .ref (a 2), .ref (a 3), .ref (a 4), .int 0, .ref (a 5), .ref (a 6), .ref (a 7), .ref (a 8), .int 0, .int 0, .int 0, .ref (a 9), .ref (a 10), .ref (a 11), .int 0, .ref (a 12), .ref (a 13), .ref (a 14), .ref (a 15), .int 0, .int 0, .int 0, .int 0, .int 0, .ref (a 16), .ref (a 17), .ref (a 18), .ref (a 19)])), (a 1, .inl (κ.2.2.1, 337, .inl f)), (a 2, .inl (κ.2.2.1, 337, .inl fun _ => 0)), (a 3, .inl (κ.2.2.1, 337, .inl fun _ => 0)), (a 4, .inl (κ.2.2.1, 7, .inl fun _ => 0)), (a 5, .inl (κ.2.2.1, 24, .inl fun _ => 0)), (a 6, .inl (κ.2.2.1, 5, .inl fun _ => 0)), (a 7, .inl (κ.2.2.1, 5, .inl fun _ => 0)), (a 8, .inl (κ.2.2.1, 5, .inl fun _ => 0)), (a 9, .inl (κ.2.2.1, 8192, .inl fun _ => 0)), (a 10, .inl (κ.2.2.1, 8192, .inl fun _ => 0)), (a 11, .inl (κ.2.2.1, 24, .inl fun _ => 0)), (a 12, .inl (κ.2.2.2.1, 8192, .inl fun _ => 0)), (a 13, .inl (κ.2.2.2.1, 8192, .inl fun _ => 0)), (a 14, .inl (κ.2.2.1, 10, .inl fun _ => 0)), (a 15, .inl (κ.2.2.1, 120, .inl fun _ => 0)), (a 16, .inl (κ.2.2.1, 4, .inl fun _ => 0)), (a 17, .inl (κ.2.2.1, 4, .inl fun _ => 0)), (a 18, .inl (κ.2.2.1, 160, .inl fun _ => 0)), (a 19, .inl (κ.2.2.1, 40, .inl fun _ => 0))]
theorem hfs_X10 : ∀ j, j < 29 → defaultValue (tyX10 j) = vp_V [.null, .null, .null, .null, .int 0, .null, .null, .null, .null, .int 0, .int 0, .int 0, .null, .null, .null, .int 0, .null, .null, .null, .null, .int 0, .int 0, .int 0, .int 0, .int 0, .null, .null, .null, .null] j := by
  intro j hj
  rcases (by omega : j = 0 ∨ j = 1 ∨ j = 2 ∨ j = 3 ∨ j = 4 ∨ j = 5 ∨ j = 6 ∨ j = 7 ∨ j = 8 ∨ j = 9 ∨ j = 10 ∨ j = 11 ∨ j = 12 ∨ j = 13 ∨ j = 14 ∨ j = 15 ∨ j = 16 ∨ j = 17 ∨ j = 18 ∨ j = 19 ∨ j = 20 ∨ j = 21 ∨ j = 22 ∨ j = 23 ∨ j = 24 ∨ j = 25 ∨ j = 26 ∨ j = 27 ∨ j = 28) with rfl | rfl | rfl | rfl | rfl | rfl | rfl | rfl | rfl | rfl | rfl | rfl | rfl | rfl | rfl | rfl | rfl | rfl | rfl | rfl | rfl | rfl | rfl | rfl | rfl | rfl | rfl | rfl | rfl <;> rfl
set_option maxRecDepth 100000 in
set_option maxHeartbeats 1000000 in
theorem lpb_X0_71 {Γ : Fr} (o : cbO Γ cX0_init 2 RX0 2 40) {x y : Nat} (a : Nat → Nat) (g : Nat → Int32) (k : cbG Γ 2 (w_X0 (fK Γ) a (fl 0 (fun _ => 0) 6) g) x y 90 [(1, .int (nI 6)), (0, .ref (a 0))] []) : ∀ n i, i + n = 6 → cbG Γ 2 (w_X0 (fK Γ) a (fl 0 (fun _ => 0) i) g) x y 71 [(1, .int (nI i)), (0, .ref (a 0))] [] := by
  intro n
  induction n with
  | zero =>
    intro i hi
    have e : i = 6 := by omega
    subst e
    refine b_iload (pc := 71) o 0 rfl dX0_init_71 ?_
    refine b_bipush (pc := 72) o dX0_init_72 (nI 6) (by decide) ?_
    refine b_ic_ge (pc := 74) o 90 dX0_init_74 (by decide) (fun _ => k) (fun c => absurd (by decide) c)
  | succ n ih =>
    intro i hi
    refine b_iload (pc := 71) o 0 rfl dX0_init_71 ?_
    refine b_bipush (pc := 72) o dX0_init_72 (nI 6) (by decide) ?_
    refine b_ic_ge (pc := 74) o 90 dX0_init_74 (by decide) (fun c => absurd ((nI_leI (a := 6) (b := i) (by decide) (by omega)).mp c) (by omega)) (fun _ => ?_)
    refine b_aload (pc := 77) o 1 rfl dX0_init_77 ?_
    refine b_get (pc := 78) o 4 0 rfl rfl inX0 (by decide) lf_X0_39 rfl dX0_init_78 ?_
    refine b_iload (pc := 81) o 0 rfl dX0_init_81 ?_
    refine b_iconst (pc := 82) o dX0_init_82 (-1) (by decide) ?_
    refine b_iast (pc := 83) o 12 rfl (0 + i) (by rw [Nat.zero_add]) (by omega) (by decide) dX0_init_83 ?_
    refine b_iinc (pc := 84) (v := nI (i + 1)) (lv' := [(1, .int (nI (i + 1))), (0, .ref (a 0))]) o 0 rfl dX0_init_84 (nI_1 i) (by decide) rfl ?_
    refine b_goto (pc := 87) o 71 dX0_init_87 (by decide) ?_
    exact ih (i + 1) (by omega)
set_option maxRecDepth 100000 in
set_option maxHeartbeats 1000000 in
theorem lpb_X0_92 {Γ : Fr} (o : cbO Γ cX0_init 2 RX0 2 40) {x y : Nat} (a : Nat → Nat) (f : Nat → Int32) (k : cbG Γ 2 (w_X0 (fK Γ) a f (fl 0 (fun _ => 0) 10)) x y 111 [(1, .int (nI 10)), (0, .ref (a 0))] []) : ∀ n i, i + n = 10 → cbG Γ 2 (w_X0 (fK Γ) a f (fl 0 (fun _ => 0) i)) x y 92 [(1, .int (nI i)), (0, .ref (a 0))] [] := by
  intro n
  induction n with
  | zero =>
    intro i hi
    have e : i = 10 := by omega
    subst e
    refine b_iload (pc := 92) o 0 rfl dX0_init_92 ?_
    refine b_bipush (pc := 93) o dX0_init_93 (nI 10) (by decide) ?_
    refine b_ic_ge (pc := 95) o 111 dX0_init_95 (by decide) (fun _ => k) (fun c => absurd (by decide) c)
  | succ n ih =>
    intro i hi
    refine b_iload (pc := 92) o 0 rfl dX0_init_92 ?_
    refine b_bipush (pc := 93) o dX0_init_93 (nI 10) (by decide) ?_
    refine b_ic_ge (pc := 95) o 111 dX0_init_95 (by decide) (fun c => absurd ((nI_leI (a := 10) (b := i) (by decide) (by omega)).mp c) (by omega)) (fun _ => ?_)
    refine b_aload (pc := 98) o 1 rfl dX0_init_98 ?_
    refine b_get (pc := 99) o 5 0 rfl rfl inX0 (by decide) lf_X0_43 rfl dX0_init_99 ?_
    refine b_iload (pc := 102) o 0 rfl dX0_init_102 ?_
    refine b_iconst (pc := 103) o dX0_init_103 (-1) (by decide) ?_
    refine b_iast (pc := 104) o 13 rfl (0 + i) (by rw [Nat.zero_add]) (by omega) (by decide) dX0_init_104 ?_
    refine b_iinc (pc := 105) (v := nI (i + 1)) (lv' := [(1, .int (nI (i + 1))), (0, .ref (a 0))]) o 0 rfl dX0_init_105 (nI_1 i) (by decide) rfl ?_
    refine b_goto (pc := 108) o 92 dX0_init_108 (by decide) ?_
    exact ih (i + 1) (by omega)
set_option maxRecDepth 100000 in
set_option maxHeartbeats 1000000 in
theorem lpb_X10_170 {Γ : Fr} (o : cbO Γ cX10_init 2 RX10 1 20) {x y : Nat} (a : Nat → Nat) (k : cbG Γ 2 (w_X10 (fK Γ) a (fl 274 (upd (fun _ => 0) 284 1) 10)) x y 193 [(1, .int (nI 10)), (0, .ref (a 0))] []) : ∀ n i, i + n = 10 → cbG Γ 2 (w_X10 (fK Γ) a (fl 274 (upd (fun _ => 0) 284 1) i)) x y 170 [(1, .int (nI i)), (0, .ref (a 0))] [] := by
  intro n
  induction n with
  | zero =>
    intro i hi
    have e : i = 10 := by omega
    subst e
    refine b_iload (pc := 170) o 0 rfl dX10_init_170 ?_
    refine b_bipush (pc := 171) o dX10_init_171 (nI 10) (by decide) ?_
    refine b_ic_ge (pc := 173) o 193 dX10_init_173 (by decide) (fun _ => k) (fun c => absurd (by decide) c)
  | succ n ih =>
    intro i hi
    refine b_iload (pc := 170) o 0 rfl dX10_init_170 ?_
    refine b_bipush (pc := 171) o dX10_init_171 (nI 10) (by decide) ?_
    refine b_ic_ge (pc := 173) o 193 dX10_init_173 (by decide) (fun c => absurd ((nI_leI (a := 10) (b := i) (by decide) (by omega)).mp c) (by omega)) (fun _ => ?_)
    refine b_aload (pc := 176) o 1 rfl dX10_init_176 ?_
    refine b_get (pc := 177) o 0 0 rfl rfl inX10 (by decide) lf_X10_7 rfl dX10_init_177 ?_
    refine b_sipush (pc := 180) o dX10_init_180 (nI 274) (by decide) ?_
    refine b_iload (pc := 183) o 0 rfl dX10_init_183 ?_
    refine b_iadd (pc := 184) o dX10_init_184 ?_
    refine b_iconst (pc := 185) o dX10_init_185 (-1) (by decide) ?_
    refine b_iast (pc := 186) o 1 rfl (274 + i) (nI_add 274 i) (by omega) (by decide) dX10_init_186 ?_
    refine b_iinc (pc := 187) (v := nI (i + 1)) (lv' := [(1, .int (nI (i + 1))), (0, .ref (a 0))]) o 0 rfl dX10_init_187 (nI_1 i) (by decide) rfl ?_
    refine b_goto (pc := 190) o 170 dX10_init_190 (by decide) ?_
    exact ih (i + 1) (by omega)
set_option maxRecDepth 100000 in
set_option maxHeartbeats 1000000 in
theorem lpb_X10_195 {Γ : Fr} (o : cbO Γ cX10_init 2 RX10 1 20) {x y : Nat} (a : Nat → Nat) (k : cbG Γ 2 (w_X10 (fK Γ) a (fl 331 (fl 274 (upd (fun _ => 0) 284 1) 10) 6)) x y 218 [(1, .int (nI 6)), (0, .ref (a 0))] []) : ∀ n i, i + n = 6 → cbG Γ 2 (w_X10 (fK Γ) a (fl 331 (fl 274 (upd (fun _ => 0) 284 1) 10) i)) x y 195 [(1, .int (nI i)), (0, .ref (a 0))] [] := by
  intro n
  induction n with
  | zero =>
    intro i hi
    have e : i = 6 := by omega
    subst e
    refine b_iload (pc := 195) o 0 rfl dX10_init_195 ?_
    refine b_bipush (pc := 196) o dX10_init_196 (nI 6) (by decide) ?_
    refine b_ic_ge (pc := 198) o 218 dX10_init_198 (by decide) (fun _ => k) (fun c => absurd (by decide) c)
  | succ n ih =>
    intro i hi
    refine b_iload (pc := 195) o 0 rfl dX10_init_195 ?_
    refine b_bipush (pc := 196) o dX10_init_196 (nI 6) (by decide) ?_
    refine b_ic_ge (pc := 198) o 218 dX10_init_198 (by decide) (fun c => absurd ((nI_leI (a := 6) (b := i) (by decide) (by omega)).mp c) (by omega)) (fun _ => ?_)
    refine b_aload (pc := 201) o 1 rfl dX10_init_201 ?_
    refine b_get (pc := 202) o 0 0 rfl rfl inX10 (by decide) lf_X10_7 rfl dX10_init_202 ?_
    refine b_sipush (pc := 205) o dX10_init_205 (nI 331) (by decide) ?_
    refine b_iload (pc := 208) o 0 rfl dX10_init_208 ?_
    refine b_iadd (pc := 209) o dX10_init_209 ?_
    refine b_iconst (pc := 210) o dX10_init_210 (-1) (by decide) ?_
    refine b_iast (pc := 211) o 1 rfl (331 + i) (nI_add 331 i) (by omega) (by decide) dX10_init_211 ?_
    refine b_iinc (pc := 212) (v := nI (i + 1)) (lv' := [(1, .int (nI (i + 1))), (0, .ref (a 0))]) o 0 rfl dX10_init_212 (nI_1 i) (by decide) rfl ?_
    refine b_goto (pc := 215) o 195 dX10_init_215 (by decide) ?_
    exact ih (i + 1) (by omega)
set_option maxRecDepth 100000 in
set_option maxHeartbeats 2000000 in
theorem k_X2 : Bt yX2_init cX2_init 1 1 20 1 8 2 [.null] (fun κ q w => ∃ a : Nat → Nat, a 0 = q ∧ w = w_X2 κ a) := by
  refine Bt.of (by decide) (by decide) rfl (fun Γ q o ρ => ?_)
  refine b_aload (pc := 0) o 0 rfl dX2_init_0 ?_
  refine b_oinit (pc := 1) o lk_X2_3 (by decide) (by decide) dX2_init_1 ?_
  refine b_aload (pc := 4) o 0 rfl dX2_init_4 ?_
  refine b_bipush (pc := 5) o dX2_init_5 8 (by decide) ?_
  refine b_new_int (pc := 7) o 8 (by decide) (by decide) (Nat.le_of_ble_eq_true rfl) (by rw [ρ.2.2.2.1]; exact Nat.le_of_ble_eq_true rfl) (by rw [ρ.2.2.2.2.1]; exact Nat.le_of_ble_eq_true rfl) dX2_init_7 (fun r1 => ?_)
  show cbG Γ 1 (_ :: (_ ++ _)) _ _ _ _ _
  refine b_putF (pc := 9) o ρ.2.2.2.2.2 0 rfl inX2 tyX2_ok nmX2 (by decide) lf_X2_9 rfl rfl rfl rfl (Nat.le_of_ble_eq_true rfl) dX2_init_9 ?_
  show cbG Γ 1 ((q, .inr (2, [.ref r1])) :: _) _ _ _ _ _
  exact b_vret (pc := 12) o ρ ⟨(fun k => [q, r1].getD k 0), rfl, rfl⟩ (Nat.le_of_ble_eq_true rfl) (Nat.le_of_ble_eq_true rfl) dX2_init_12
set_option maxRecDepth 100000 in
set_option maxHeartbeats 2000000 in
theorem k_X5 : Bt yX5_init cX5_init 1 1 20 1 240 5 [.null, .int 0] (fun κ q w => ∃ a : Nat → Nat, a 0 = q ∧ w = w_X5 κ a) := by
  refine Bt.of (by decide) (by decide) rfl (fun Γ q o ρ => ?_)
  refine b_aload (pc := 0) o 0 rfl dX5_init_0 ?_
  refine b_oinit (pc := 1) o lk_X5_3 (by decide) (by decide) dX5_init_1 ?_
  refine b_aload (pc := 4) o 0 rfl dX5_init_4 ?_
  refine b_sipush (pc := 5) o dX5_init_5 240 (by decide) ?_
  refine b_new_int (pc := 8) o 240 (by decide) (by decide) (Nat.le_of_ble_eq_true rfl) (by rw [ρ.2.2.2.1]; exact Nat.le_of_ble_eq_true rfl) (by rw [ρ.2.2.2.2.1]; exact Nat.le_of_ble_eq_true rfl) dX5_init_8 (fun r1 => ?_)
  show cbG Γ 1 (_ :: (_ ++ _)) _ _ _ _ _
  refine b_putF (pc := 10) o ρ.2.2.2.2.2 0 rfl inX5 tyX5_ok nmX5 (by decide) lf_X5_11 rfl rfl rfl rfl (Nat.le_of_ble_eq_true rfl) dX5_init_10 ?_
  show cbG Γ 1 ((q, .inr (5, [.ref r1, .int 0])) :: _) _ _ _ _ _
  exact b_vret (pc := 13) o ρ ⟨(fun k => [q, r1].getD k 0), rfl, rfl⟩ (Nat.le_of_ble_eq_true rfl) (Nat.le_of_ble_eq_true rfl) dX5_init_13
set_option maxRecDepth 100000 in
set_option maxHeartbeats 2000000 in
theorem k_X7 : Bt yX7_init cX7_init 1 1 20 1 84 7 [.null, .int 0] (fun κ q w => ∃ a : Nat → Nat, a 0 = q ∧ w = w_X7 κ a) := by
  refine Bt.of (by decide) (by decide) rfl (fun Γ q o ρ => ?_)
  refine b_aload (pc := 0) o 0 rfl dX7_init_0 ?_
  refine b_oinit (pc := 1) o lk_X7_3 (by decide) (by decide) dX7_init_1 ?_
  refine b_aload (pc := 4) o 0 rfl dX7_init_4 ?_
  refine b_bipush (pc := 5) o dX7_init_5 84 (by decide) ?_
  refine b_new_int (pc := 7) o 84 (by decide) (by decide) (Nat.le_of_ble_eq_true rfl) (by rw [ρ.2.2.2.1]; exact Nat.le_of_ble_eq_true rfl) (by rw [ρ.2.2.2.2.1]; exact Nat.le_of_ble_eq_true rfl) dX7_init_7 (fun r1 => ?_)
  show cbG Γ 1 (_ :: (_ ++ _)) _ _ _ _ _
  refine b_putF (pc := 9) o ρ.2.2.2.2.2 0 rfl inX7 tyX7_ok nmX7 (by decide) lf_X7_11 rfl rfl rfl rfl (Nat.le_of_ble_eq_true rfl) dX7_init_9 ?_
  show cbG Γ 1 ((q, .inr (7, [.ref r1, .int 0])) :: _) _ _ _ _ _
  exact b_vret (pc := 12) o ρ ⟨(fun k => [q, r1].getD k 0), rfl, rfl⟩ (Nat.le_of_ble_eq_true rfl) (Nat.le_of_ble_eq_true rfl) dX7_init_12
set_option maxRecDepth 100000 in
set_option maxHeartbeats 2000000 in
theorem k_X6 : Bt yX6_init cX6_init 1 1 20 4 46 6 [.null, .null, .null, .null] (fun κ q w => ∃ a : Nat → Nat, a 0 = q ∧ w = w_X6 κ a) := by
  refine Bt.of (by decide) (by decide) rfl (fun Γ q o ρ => ?_)
  refine b_aload (pc := 0) o 0 rfl dX6_init_0 ?_
  refine b_oinit (pc := 1) o lk_X6_3 (by decide) (by decide) dX6_init_1 ?_
  refine b_aload (pc := 4) o 0 rfl dX6_init_4 ?_
  refine b_iconst (pc := 5) o dX6_init_5 5 (by decide) ?_
  refine b_new_int (pc := 6) o 5 (by decide) (by decide) (Nat.le_of_ble_eq_true rfl) (by rw [ρ.2.2.2.1]; exact Nat.le_of_ble_eq_true rfl) (by rw [ρ.2.2.2.2.1]; exact Nat.le_of_ble_eq_true rfl) dX6_init_6 (fun r1 => ?_)
  show cbG Γ 1 (_ :: (_ ++ _)) _ _ _ _ _
  refine b_putF (pc := 8) o ρ.2.2.2.2.2 0 rfl inX6 tyX6_ok nmX6 (by decide) lf_X6_9 rfl rfl rfl rfl (Nat.le_of_ble_eq_true rfl) dX6_init_8 ?_
  show cbG Γ 1 ((q, .inr (6, [.ref r1, .null, .null, .null])) :: _) _ _ _ _ _
  refine b_aload (pc := 11) o 0 rfl dX6_init_11 ?_
  refine b_iconst (pc := 12) o dX6_init_12 5 (by decide) ?_
  refine b_new_int (pc := 13) o 5 (by decide) (by decide) (Nat.le_of_ble_eq_true rfl) (by rw [ρ.2.2.2.1]; exact Nat.le_of_ble_eq_true rfl) (by rw [ρ.2.2.2.2.1]; exact Nat.le_of_ble_eq_true rfl) dX6_init_13 (fun r2 => ?_)
  show cbG Γ 1 (_ :: (_ ++ _)) _ _ _ _ _
  refine b_putF (pc := 15) o ρ.2.2.2.2.2 1 rfl inX6 tyX6_ok nmX6 (by decide) lf_X6_15 rfl rfl rfl rfl (Nat.le_of_ble_eq_true rfl) dX6_init_15 ?_
  show cbG Γ 1 ((q, .inr (6, [.ref r1, .ref r2, .null, .null])) :: _) _ _ _ _ _
  refine b_aload (pc := 18) o 0 rfl dX6_init_18 ?_
  refine b_bipush (pc := 19) o dX6_init_19 30 (by decide) ?_
  refine b_new_int (pc := 21) o 30 (by decide) (by decide) (Nat.le_of_ble_eq_true rfl) (by rw [ρ.2.2.2.1]; exact Nat.le_of_ble_eq_true rfl) (by rw [ρ.2.2.2.2.1]; exact Nat.le_of_ble_eq_true rfl) dX6_init_21 (fun r3 => ?_)
  show cbG Γ 1 (_ :: (_ ++ _)) _ _ _ _ _
  refine b_putF (pc := 23) o ρ.2.2.2.2.2 2 rfl inX6 tyX6_ok nmX6 (by decide) lf_X6_18 rfl rfl rfl rfl (Nat.le_of_ble_eq_true rfl) dX6_init_23 ?_
  show cbG Γ 1 ((q, .inr (6, [.ref r1, .ref r2, .ref r3, .null])) :: _) _ _ _ _ _
  refine b_aload (pc := 26) o 0 rfl dX6_init_26 ?_
  refine b_bipush (pc := 27) o dX6_init_27 6 (by decide) ?_
  refine b_new_int (pc := 29) o 6 (by decide) (by decide) (Nat.le_of_ble_eq_true rfl) (by rw [ρ.2.2.2.1]; exact Nat.le_of_ble_eq_true rfl) (by rw [ρ.2.2.2.2.1]; exact Nat.le_of_ble_eq_true rfl) dX6_init_29 (fun r4 => ?_)
  show cbG Γ 1 (_ :: (_ ++ _)) _ _ _ _ _
  refine b_putF (pc := 31) o ρ.2.2.2.2.2 3 rfl inX6 tyX6_ok nmX6 (by decide) lf_X6_21 rfl rfl rfl rfl (Nat.le_of_ble_eq_true rfl) dX6_init_31 ?_
  show cbG Γ 1 ((q, .inr (6, [.ref r1, .ref r2, .ref r3, .ref r4])) :: _) _ _ _ _ _
  exact b_vret (pc := 34) o ρ ⟨(fun k => [q, r1, r2, r3, r4].getD k 0), rfl, rfl⟩ (Nat.le_of_ble_eq_true rfl) (Nat.le_of_ble_eq_true rfl) dX6_init_34
set_option maxRecDepth 100000 in
set_option maxHeartbeats 2000000 in
theorem k_X3 : Bt yX3_init cX3_init 1 1 20 3 286 3 [.null, .int 0, .null, .int 0, .int 0, .int 0, .int 0, .int 0, .int 0, .int 0, .null] (fun κ q w => ∃ a : Nat → Nat, a 0 = q ∧ w = w_X3 κ a) := by
  refine Bt.of (by decide) (by decide) rfl (fun Γ q o ρ => ?_)
  refine b_aload (pc := 0) o 0 rfl dX3_init_0 ?_
  refine b_oinit (pc := 1) o lk_X3_5 (by decide) (by decide) dX3_init_1 ?_
  refine b_aload (pc := 4) o 0 rfl dX3_init_4 ?_
  refine b_bipush (pc := 5) o dX3_init_5 120 (by decide) ?_
  refine b_new_int (pc := 7) o 120 (by decide) (by decide) (Nat.le_of_ble_eq_true rfl) (by rw [ρ.2.2.2.1]; exact Nat.le_of_ble_eq_true rfl) (by rw [ρ.2.2.2.2.1]; exact Nat.le_of_ble_eq_true rfl) dX3_init_7 (fun r1 => ?_)
  show cbG Γ 1 (_ :: (_ ++ _)) _ _ _ _ _
  refine b_putF (pc := 9) o ρ.2.2.2.2.2 0 rfl inX3 tyX3_ok nmX3 (by decide) lf_X3_11 rfl rfl rfl rfl (Nat.le_of_ble_eq_true rfl) dX3_init_9 ?_
  show cbG Γ 1 ((q, .inr (3, [.ref r1, .int 0, .null, .int 0, .int 0, .int 0, .int 0, .int 0, .int 0, .int 0, .null])) :: _) _ _ _ _ _
  refine b_aload (pc := 12) o 0 rfl dX3_init_12 ?_
  refine b_sipush (pc := 13) o dX3_init_13 160 (by decide) ?_
  refine b_new_int (pc := 16) o 160 (by decide) (by decide) (Nat.le_of_ble_eq_true rfl) (by rw [ρ.2.2.2.1]; exact Nat.le_of_ble_eq_true rfl) (by rw [ρ.2.2.2.2.1]; exact Nat.le_of_ble_eq_true rfl) dX3_init_16 (fun r2 => ?_)
  show cbG Γ 1 (_ :: (_ ++ _)) _ _ _ _ _
  refine b_putF (pc := 18) o ρ.2.2.2.2.2 2 rfl inX3 tyX3_ok nmX3 (by decide) lf_X3_15 rfl rfl rfl rfl (Nat.le_of_ble_eq_true rfl) dX3_init_18 ?_
  show cbG Γ 1 ((q, .inr (3, [.ref r1, .int 0, .ref r2, .int 0, .int 0, .int 0, .int 0, .int 0, .int 0, .int 0, .null])) :: _) _ _ _ _ _
  refine b_aload (pc := 21) o 0 rfl dX3_init_21 ?_
  refine b_bipush (pc := 22) o dX3_init_22 6 (by decide) ?_
  refine b_new_int (pc := 24) o 6 (by decide) (by decide) (Nat.le_of_ble_eq_true rfl) (by rw [ρ.2.2.2.1]; exact Nat.le_of_ble_eq_true rfl) (by rw [ρ.2.2.2.2.1]; exact Nat.le_of_ble_eq_true rfl) dX3_init_24 (fun r3 => ?_)
  show cbG Γ 1 (_ :: (_ ++ _)) _ _ _ _ _
  refine b_putF (pc := 26) o ρ.2.2.2.2.2 10 rfl inX3 tyX3_ok nmX3 (by decide) lf_X3_18 rfl rfl rfl rfl (Nat.le_of_ble_eq_true rfl) dX3_init_26 ?_
  show cbG Γ 1 ((q, .inr (3, [.ref r1, .int 0, .ref r2, .int 0, .int 0, .int 0, .int 0, .int 0, .int 0, .int 0, .ref r3])) :: _) _ _ _ _ _
  exact b_vret (pc := 29) o ρ ⟨(fun k => [q, r1, r2, r3].getD k 0), rfl, rfl⟩ (Nat.le_of_ble_eq_true rfl) (Nat.le_of_ble_eq_true rfl) dX3_init_29
set_option maxRecDepth 100000 in
set_option maxHeartbeats 2000000 in
theorem k_X4 : Bt yX4_init cX4_init 1 1 20 3 168 4 [.null, .null, .null] (fun κ q w => ∃ a : Nat → Nat, a 0 = q ∧ w = w_X4 κ a) := by
  refine Bt.of (by decide) (by decide) rfl (fun Γ q o ρ => ?_)
  refine b_aload (pc := 0) o 0 rfl dX4_init_0 ?_
  refine b_oinit (pc := 1) o lk_X4_1 (by decide) (by decide) dX4_init_1 ?_
  refine b_aload (pc := 4) o 0 rfl dX4_init_4 ?_
  refine b_iconst (pc := 5) o dX4_init_5 4 (by decide) ?_
  refine b_new_int (pc := 6) o 4 (by decide) (by decide) (Nat.le_of_ble_eq_true rfl) (by rw [ρ.2.2.2.1]; exact Nat.le_of_ble_eq_true rfl) (by rw [ρ.2.2.2.2.1]; exact Nat.le_of_ble_eq_true rfl) dX4_init_6 (fun r1 => ?_)
  show cbG Γ 1 (_ :: (_ ++ _)) _ _ _ _ _
  refine b_putF (pc := 8) o ρ.2.2.2.2.2 0 rfl inX4 tyX4_ok nmX4 (by decide) lf_X4_9 rfl rfl rfl rfl (Nat.le_of_ble_eq_true rfl) dX4_init_8 ?_
  show cbG Γ 1 ((q, .inr (4, [.ref r1, .null, .null])) :: _) _ _ _ _ _
  refine b_aload (pc := 11) o 0 rfl dX4_init_11 ?_
  refine b_iconst (pc := 12) o dX4_init_12 4 (by decide) ?_
  refine b_new_int (pc := 13) o 4 (by decide) (by decide) (Nat.le_of_ble_eq_true rfl) (by rw [ρ.2.2.2.1]; exact Nat.le_of_ble_eq_true rfl) (by rw [ρ.2.2.2.2.1]; exact Nat.le_of_ble_eq_true rfl) dX4_init_13 (fun r2 => ?_)
  show cbG Γ 1 (_ :: (_ ++ _)) _ _ _ _ _
  refine b_putF (pc := 15) o ρ.2.2.2.2.2 1 rfl inX4 tyX4_ok nmX4 (by decide) lf_X4_13 rfl rfl rfl rfl (Nat.le_of_ble_eq_true rfl) dX4_init_15 ?_
  show cbG Γ 1 ((q, .inr (4, [.ref r1, .ref r2, .null])) :: _) _ _ _ _ _
  refine b_aload (pc := 18) o 0 rfl dX4_init_18 ?_
  refine b_sipush (pc := 19) o dX4_init_19 160 (by decide) ?_
  refine b_new_int (pc := 22) o 160 (by decide) (by decide) (Nat.le_of_ble_eq_true rfl) (by rw [ρ.2.2.2.1]; exact Nat.le_of_ble_eq_true rfl) (by rw [ρ.2.2.2.2.1]; exact Nat.le_of_ble_eq_true rfl) dX4_init_22 (fun r3 => ?_)
  show cbG Γ 1 (_ :: (_ ++ _)) _ _ _ _ _
  refine b_putF (pc := 24) o ρ.2.2.2.2.2 2 rfl inX4 tyX4_ok nmX4 (by decide) lf_X4_16 rfl rfl rfl rfl (Nat.le_of_ble_eq_true rfl) dX4_init_24 ?_
  show cbG Γ 1 ((q, .inr (4, [.ref r1, .ref r2, .ref r3])) :: _) _ _ _ _ _
  exact b_vret (pc := 27) o ρ ⟨(fun k => [q, r1, r2, r3].getD k 0), rfl, rfl⟩ (Nat.le_of_ble_eq_true rfl) (Nat.le_of_ble_eq_true rfl) dX4_init_27
set_option maxRecDepth 100000 in
set_option maxHeartbeats 2000000 in
theorem k_X1 : Bt yX1_init cX1_init 1 1 20 8 65768 1 [.null, .null, .null, .null, .null, .null, .null, .null, .int 0, .int 0] (fun κ q w => ∃ a : Nat → Nat, a 0 = q ∧ w = w_X1 κ a) := by
  refine Bt.of (by decide) (by decide) rfl (fun Γ q o ρ => ?_)
  refine b_aload (pc := 0) o 0 rfl dX1_init_0 ?_
  refine b_oinit (pc := 1) o lk_X1_3 (by decide) (by decide) dX1_init_1 ?_
  refine b_aload (pc := 4) o 0 rfl dX1_init_4 ?_
  refine b_bipush (pc := 5) o dX1_init_5 24 (by decide) ?_
  refine b_new_int (pc := 7) o 24 (by decide) (by decide) (Nat.le_of_ble_eq_true rfl) (by rw [ρ.2.2.2.1]; exact Nat.le_of_ble_eq_true rfl) (by rw [ρ.2.2.2.2.1]; exact Nat.le_of_ble_eq_true rfl) dX1_init_7 (fun r1 => ?_)
  show cbG Γ 1 (_ :: (_ ++ _)) _ _ _ _ _
  refine b_putF (pc := 9) o ρ.2.2.2.2.2 0 rfl inX1 tyX1_ok nmX1 (by decide) lf_X1_9 rfl rfl rfl rfl (Nat.le_of_ble_eq_true rfl) dX1_init_9 ?_
  show cbG Γ 1 ((q, .inr (1, [.ref r1, .null, .null, .null, .null, .null, .null, .null, .int 0, .int 0])) :: _) _ _ _ _ _
  refine b_aload (pc := 12) o 0 rfl dX1_init_12 ?_
  refine b_bipush (pc := 13) o dX1_init_13 8 (by decide) ?_
  refine b_new_int (pc := 15) o 8 (by decide) (by decide) (Nat.le_of_ble_eq_true rfl) (by rw [ρ.2.2.2.1]; exact Nat.le_of_ble_eq_true rfl) (by rw [ρ.2.2.2.2.1]; exact Nat.le_of_ble_eq_true rfl) dX1_init_15 (fun r2 => ?_)
  show cbG Γ 1 (_ :: (_ ++ _)) _ _ _ _ _
  refine b_putF (pc := 17) o ρ.2.2.2.2.2 1 rfl inX1 tyX1_ok nmX1 (by decide) lf_X1_15 rfl rfl rfl rfl (Nat.le_of_ble_eq_true rfl) dX1_init_17 ?_
  show cbG Γ 1 ((q, .inr (1, [.ref r1, .ref r2, .null, .null, .null, .null, .null, .null, .int 0, .int 0])) :: _) _ _ _ _ _
  refine b_aload (pc := 20) o 0 rfl dX1_init_20 ?_
  refine b_sipush (pc := 21) o dX1_init_21 192 (by decide) ?_
  refine b_new_int (pc := 24) o 192 (by decide) (by decide) (Nat.le_of_ble_eq_true rfl) (by rw [ρ.2.2.2.1]; exact Nat.le_of_ble_eq_true rfl) (by rw [ρ.2.2.2.2.1]; exact Nat.le_of_ble_eq_true rfl) dX1_init_24 (fun r3 => ?_)
  show cbG Γ 1 (_ :: (_ ++ _)) _ _ _ _ _
  refine b_putF (pc := 26) o ρ.2.2.2.2.2 2 rfl inX1 tyX1_ok nmX1 (by decide) lf_X1_18 rfl rfl rfl rfl (Nat.le_of_ble_eq_true rfl) dX1_init_26 ?_
  show cbG Γ 1 ((q, .inr (1, [.ref r1, .ref r2, .ref r3, .null, .null, .null, .null, .null, .int 0, .int 0])) :: _) _ _ _ _ _
  refine b_aload (pc := 29) o 0 rfl dX1_init_29 ?_
  refine b_sipush (pc := 30) o dX1_init_30 24576 (by decide) ?_
  refine b_new_int (pc := 33) o 24576 (by decide) (by decide) (Nat.le_of_ble_eq_true rfl) (by rw [ρ.2.2.2.1]; exact Nat.le_of_ble_eq_true rfl) (by rw [ρ.2.2.2.2.1]; exact Nat.le_of_ble_eq_true rfl) dX1_init_33 (fun r4 => ?_)
  show cbG Γ 1 (_ :: (_ ++ _)) _ _ _ _ _
  refine b_putF (pc := 35) o ρ.2.2.2.2.2 3 rfl inX1 tyX1_ok nmX1 (by decide) lf_X1_21 rfl rfl rfl rfl (Nat.le_of_ble_eq_true rfl) dX1_init_35 ?_
  show cbG Γ 1 ((q, .inr (1, [.ref r1, .ref r2, .ref r3, .ref r4, .null, .null, .null, .null, .int 0, .int 0])) :: _) _ _ _ _ _
  refine b_aload (pc := 38) o 0 rfl dX1_init_38 ?_
  refine b_sipush (pc := 39) o dX1_init_39 24576 (by decide) ?_
  refine b_new_long (pc := 42) o 24576 (by decide) (by decide) (Nat.le_of_ble_eq_true rfl) (by rw [ρ.2.2.2.1]; exact Nat.le_of_ble_eq_true rfl) (by rw [ρ.2.2.2.2.1]; exact Nat.le_of_ble_eq_true rfl) dX1_init_42 (fun r5 => ?_)
  show cbG Γ 1 (_ :: (_ ++ _)) _ _ _ _ _
  refine b_putF (pc := 44) o ρ.2.2.2.2.2 4 rfl inX1 tyX1_ok nmX1 (by decide) lf_X1_24 rfl rfl rfl rfl (Nat.le_of_ble_eq_true rfl) dX1_init_44 ?_
  show cbG Γ 1 ((q, .inr (1, [.ref r1, .ref r2, .ref r3, .ref r4, .ref r5, .null, .null, .null, .int 0, .int 0])) :: _) _ _ _ _ _
  refine b_aload (pc := 47) o 0 rfl dX1_init_47 ?_
  refine b_sipush (pc := 48) o dX1_init_48 8192 (by decide) ?_
  refine b_new_int (pc := 51) o 8192 (by decide) (by decide) (Nat.le_of_ble_eq_true rfl) (by rw [ρ.2.2.2.1]; exact Nat.le_of_ble_eq_true rfl) (by rw [ρ.2.2.2.2.1]; exact Nat.le_of_ble_eq_true rfl) dX1_init_51 (fun r6 => ?_)
  show cbG Γ 1 (_ :: (_ ++ _)) _ _ _ _ _
  refine b_putF (pc := 53) o ρ.2.2.2.2.2 5 rfl inX1 tyX1_ok nmX1 (by decide) lf_X1_28 rfl rfl rfl rfl (Nat.le_of_ble_eq_true rfl) dX1_init_53 ?_
  show cbG Γ 1 ((q, .inr (1, [.ref r1, .ref r2, .ref r3, .ref r4, .ref r5, .ref r6, .null, .null, .int 0, .int 0])) :: _) _ _ _ _ _
  refine b_aload (pc := 56) o 0 rfl dX1_init_56 ?_
  refine b_sipush (pc := 57) o dX1_init_57 8192 (by decide) ?_
  refine b_new_int (pc := 60) o 8192 (by decide) (by decide) (Nat.le_of_ble_eq_true rfl) (by rw [ρ.2.2.2.1]; exact Nat.le_of_ble_eq_true rfl) (by rw [ρ.2.2.2.2.1]; exact Nat.le_of_ble_eq_true rfl) dX1_init_60 (fun r7 => ?_)
  show cbG Γ 1 (_ :: (_ ++ _)) _ _ _ _ _
  refine b_putF (pc := 62) o ρ.2.2.2.2.2 6 rfl inX1 tyX1_ok nmX1 (by decide) lf_X1_31 rfl rfl rfl rfl (Nat.le_of_ble_eq_true rfl) dX1_init_62 ?_
  show cbG Γ 1 ((q, .inr (1, [.ref r1, .ref r2, .ref r3, .ref r4, .ref r5, .ref r6, .ref r7, .null, .int 0, .int 0])) :: _) _ _ _ _ _
  refine b_aload (pc := 65) o 0 rfl dX1_init_65 ?_
  refine b_bipush (pc := 66) o dX1_init_66 8 (by decide) ?_
  refine b_new_int (pc := 68) o 8 (by decide) (by decide) (Nat.le_of_ble_eq_true rfl) (by rw [ρ.2.2.2.1]; exact Nat.le_of_ble_eq_true rfl) (by rw [ρ.2.2.2.2.1]; exact Nat.le_of_ble_eq_true rfl) dX1_init_68 (fun r8 => ?_)
  show cbG Γ 1 (_ :: (_ ++ _)) _ _ _ _ _
  refine b_putF (pc := 70) o ρ.2.2.2.2.2 7 rfl inX1 tyX1_ok nmX1 (by decide) lf_X1_34 rfl rfl rfl rfl (Nat.le_of_ble_eq_true rfl) dX1_init_70 ?_
  show cbG Γ 1 ((q, .inr (1, [.ref r1, .ref r2, .ref r3, .ref r4, .ref r5, .ref r6, .ref r7, .ref r8, .int 0, .int 0])) :: _) _ _ _ _ _
  exact b_vret (pc := 73) o ρ ⟨(fun k => [q, r1, r2, r3, r4, r5, r6, r7, r8].getD k 0), rfl, rfl⟩ (Nat.le_of_ble_eq_true rfl) (Nat.le_of_ble_eq_true rfl) dX1_init_73
set_option maxRecDepth 100000 in
set_option maxHeartbeats 2000000 in
theorem k_X8 : Bt yX8_init cX8_init 1 1 20 2 28 8 [.null, .null, .int 0] (fun κ q w => ∃ a : Nat → Nat, a 0 = q ∧ w = w_X8 κ a) := by
  refine Bt.of (by decide) (by decide) rfl (fun Γ q o ρ => ?_)
  refine b_aload (pc := 0) o 0 rfl dX8_init_0 ?_
  refine b_oinit (pc := 1) o lk_X8_3 (by decide) (by decide) dX8_init_1 ?_
  refine b_aload (pc := 4) o 0 rfl dX8_init_4 ?_
  refine b_bipush (pc := 5) o dX8_init_5 24 (by decide) ?_
  refine b_new_int (pc := 7) o 24 (by decide) (by decide) (Nat.le_of_ble_eq_true rfl) (by rw [ρ.2.2.2.1]; exact Nat.le_of_ble_eq_true rfl) (by rw [ρ.2.2.2.2.1]; exact Nat.le_of_ble_eq_true rfl) dX8_init_7 (fun r1 => ?_)
  show cbG Γ 1 (_ :: (_ ++ _)) _ _ _ _ _
  refine b_putF (pc := 9) o ρ.2.2.2.2.2 0 rfl inX8 tyX8_ok nmX8 (by decide) lf_X8_9 rfl rfl rfl rfl (Nat.le_of_ble_eq_true rfl) dX8_init_9 ?_
  show cbG Γ 1 ((q, .inr (8, [.ref r1, .null, .int 0])) :: _) _ _ _ _ _
  refine b_aload (pc := 12) o 0 rfl dX8_init_12 ?_
  refine b_iconst (pc := 13) o dX8_init_13 4 (by decide) ?_
  refine b_new_int (pc := 14) o 4 (by decide) (by decide) (Nat.le_of_ble_eq_true rfl) (by rw [ρ.2.2.2.1]; exact Nat.le_of_ble_eq_true rfl) (by rw [ρ.2.2.2.2.1]; exact Nat.le_of_ble_eq_true rfl) dX8_init_14 (fun r2 => ?_)
  show cbG Γ 1 (_ :: (_ ++ _)) _ _ _ _ _
  refine b_putF (pc := 16) o ρ.2.2.2.2.2 1 rfl inX8 tyX8_ok nmX8 (by decide) lf_X8_15 rfl rfl rfl rfl (Nat.le_of_ble_eq_true rfl) dX8_init_16 ?_
  show cbG Γ 1 ((q, .inr (8, [.ref r1, .ref r2, .int 0])) :: _) _ _ _ _ _
  exact b_vret (pc := 19) o ρ ⟨(fun k => [q, r1, r2].getD k 0), rfl, rfl⟩ (Nat.le_of_ble_eq_true rfl) (Nat.le_of_ble_eq_true rfl) dX8_init_19
set_option maxRecDepth 100000 in
set_option maxHeartbeats 2000000 in
theorem k_X0 : Bt yX0_init cX0_init 2 2 40 13 403 0 [.null, .null, .null, .null, .null, .null, .int 0] (fun κ q w => ∃ a : Nat → Nat, a 0 = q ∧ w = w_X0 κ a hF pF) := by
  refine Bt.of (by decide) (by decide) rfl (fun Γ q o ρ => ?_)
  refine b_aload (pc := 0) o 0 rfl dX0_init_0 ?_
  refine b_oinit (pc := 1) o lk_X0_3 (by decide) (by decide) dX0_init_1 ?_
  refine b_aload (pc := 4) o 0 rfl dX0_init_4 ?_
  refine b_sub (pc := 5) o k_X2 mt_X2_init wi_X2 rfl wc_X0_9 wn_X2 inX2 tyX2_ok rfl hfs_X2 (Or.inl ⟨_, ln_X0_11⟩) (by decide) (by rw [ρ.2.2.2.1]; exact Nat.le_of_ble_eq_true rfl) (by rw [ρ.2.2.2.2.1]; exact Nat.le_of_ble_eq_true rfl) (Nat.le_of_ble_eq_true rfl) dX0_init_5 dX0_init_8 dX0_init_9 (fun r1 w1 u1 => ?_)
  obtain ⟨a1, rfl, rfl⟩ := u1
  show cbG Γ 2 (_ :: (_ ++ _)) _ _ _ _ _
  refine b_putF (pc := 12) o ρ.2.2.2.2.2 0 rfl inX0 tyX0_ok nmX0 (by decide) lf_X0_12 rfl rfl rfl rfl (Nat.le_of_ble_eq_true rfl) dX0_init_12 ?_
  show cbG Γ 2 ((q, .inr (0, [.ref (a1 0), .null, .null, .null, .null, .null, .int 0])) :: _) _ _ _ _ _
  refine b_aload (pc := 15) o 0 rfl dX0_init_15 ?_
  refine b_sub (pc := 16) o k_X5 mt_X5_init wi_X5 rfl wc_X0_18 wn_X5 inX5 tyX5_ok rfl hfs_X5 (Or.inl ⟨_, ln_X0_20⟩) (by decide) (by rw [ρ.2.2.2.1]; exact Nat.le_of_ble_eq_true rfl) (by rw [ρ.2.2.2.2.1]; exact Nat.le_of_ble_eq_true rfl) (Nat.le_of_ble_eq_true rfl) dX0_init_16 dX0_init_19 dX0_init_20 (fun r2 w2 u2 => ?_)
  obtain ⟨a2, rfl, rfl⟩ := u2
  show cbG Γ 2 (_ :: (_ ++ _)) _ _ _ _ _
  refine b_putF (pc := 23) o ρ.2.2.2.2.2 1 rfl inX0 tyX0_ok nmX0 (by decide) lf_X0_21 rfl rfl rfl rfl (Nat.le_of_ble_eq_true rfl) dX0_init_23 ?_
  show cbG Γ 2 ((q, .inr (0, [.ref (a1 0), .ref (a2 0), .null, .null, .null, .null, .int 0])) :: _) _ _ _ _ _
  refine b_aload (pc := 26) o 0 rfl dX0_init_26 ?_
  refine b_sub (pc := 27) o k_X7 mt_X7_init wi_X7 rfl wc_X0_25 wn_X7 inX7 tyX7_ok rfl hfs_X7 (Or.inl ⟨_, ln_X0_27⟩) (by decide) (by rw [ρ.2.2.2.1]; exact Nat.le_of_ble_eq_true rfl) (by rw [ρ.2.2.2.2.1]; exact Nat.le_of_ble_eq_true rfl) (Nat.le_of_ble_eq_true rfl) dX0_init_27 dX0_init_30 dX0_init_31 (fun r3 w3 u3 => ?_)
  obtain ⟨a3, rfl, rfl⟩ := u3
  show cbG Γ 2 (_ :: (_ ++ _)) _ _ _ _ _
  refine b_putF (pc := 34) o ρ.2.2.2.2.2 2 rfl inX0 tyX0_ok nmX0 (by decide) lf_X0_28 rfl rfl rfl rfl (Nat.le_of_ble_eq_true rfl) dX0_init_34 ?_
  show cbG Γ 2 ((q, .inr (0, [.ref (a1 0), .ref (a2 0), .ref (a3 0), .null, .null, .null, .int 0])) :: _) _ _ _ _ _
  refine b_aload (pc := 37) o 0 rfl dX0_init_37 ?_
  refine b_sub (pc := 38) o k_X6 mt_X6_init wi_X6 rfl wc_X0_32 wn_X6 inX6 tyX6_ok rfl hfs_X6 (Or.inl ⟨_, ln_X0_34⟩) (by decide) (by rw [ρ.2.2.2.1]; exact Nat.le_of_ble_eq_true rfl) (by rw [ρ.2.2.2.2.1]; exact Nat.le_of_ble_eq_true rfl) (Nat.le_of_ble_eq_true rfl) dX0_init_38 dX0_init_41 dX0_init_42 (fun r4 w4 u4 => ?_)
  obtain ⟨a4, rfl, rfl⟩ := u4
  show cbG Γ 2 (_ :: (_ ++ _)) _ _ _ _ _
  refine b_putF (pc := 45) o ρ.2.2.2.2.2 3 rfl inX0 tyX0_ok nmX0 (by decide) lf_X0_35 rfl rfl rfl rfl (Nat.le_of_ble_eq_true rfl) dX0_init_45 ?_
  show cbG Γ 2 ((q, .inr (0, [.ref (a1 0), .ref (a2 0), .ref (a3 0), .ref (a4 0), .null, .null, .int 0])) :: _) _ _ _ _ _
  refine b_aload (pc := 48) o 0 rfl dX0_init_48 ?_
  refine b_bipush (pc := 49) o dX0_init_49 6 (by decide) ?_
  refine b_new_int (pc := 51) o 6 (by decide) (by decide) (Nat.le_of_ble_eq_true rfl) (by rw [ρ.2.2.2.1]; exact Nat.le_of_ble_eq_true rfl) (by rw [ρ.2.2.2.2.1]; exact Nat.le_of_ble_eq_true rfl) dX0_init_51 (fun r5 => ?_)
  show cbG Γ 2 (_ :: (_ ++ _)) _ _ _ _ _
  refine b_putF (pc := 53) o ρ.2.2.2.2.2 4 rfl inX0 tyX0_ok nmX0 (by decide) lf_X0_39 rfl rfl rfl rfl (Nat.le_of_ble_eq_true rfl) dX0_init_53 ?_
  show cbG Γ 2 ((q, .inr (0, [.ref (a1 0), .ref (a2 0), .ref (a3 0), .ref (a4 0), .ref r5, .null, .int 0])) :: _) _ _ _ _ _
  refine b_aload (pc := 56) o 0 rfl dX0_init_56 ?_
  refine b_bipush (pc := 57) o dX0_init_57 10 (by decide) ?_
  refine b_new_int (pc := 59) o 10 (by decide) (by decide) (Nat.le_of_ble_eq_true rfl) (by rw [ρ.2.2.2.1]; exact Nat.le_of_ble_eq_true rfl) (by rw [ρ.2.2.2.2.1]; exact Nat.le_of_ble_eq_true rfl) dX0_init_59 (fun r6 => ?_)
  show cbG Γ 2 (_ :: (_ ++ _)) _ _ _ _ _
  refine b_putF (pc := 61) o ρ.2.2.2.2.2 5 rfl inX0 tyX0_ok nmX0 (by decide) lf_X0_43 rfl rfl rfl rfl (Nat.le_of_ble_eq_true rfl) dX0_init_61 ?_
  show cbG Γ 2 ((q, .inr (0, [.ref (a1 0), .ref (a2 0), .ref (a3 0), .ref (a4 0), .ref r5, .ref r6, .int 0])) :: _) _ _ _ _ _
  refine b_aload (pc := 64) o 0 rfl dX0_init_64 ?_
  refine b_iconst (pc := 65) o dX0_init_65 1 (by decide) ?_
  refine b_put (pc := 66) o 6 rfl inX0 tyX0_ok nmX0 (by decide) lf_X0_46 rfl rfl rfl (Nat.le_of_ble_eq_true rfl) dX0_init_66 ?_
  show cbG Γ 2 ((q, .inr (0, [.ref (a1 0), .ref (a2 0), .ref (a3 0), .ref (a4 0), .ref r5, .ref r6, .int 1])) :: _) _ _ _ _ _
  refine b_iconst (pc := 69) o dX0_init_69 0 (by decide) ?_
  refine b_istore (pc := 70) (lv' := [(1, .int (nI 0)), (0, .ref q)]) o dX0_init_70 (by decide) rfl ?_
  show cbG Γ 2 (w_X0 (fK Γ) (fun k => [q, a1 0, a1 1, a2 0, a2 1, a3 0, a3 1, a4 0, a4 1, a4 2, a4 3, a4 4, r5, r6].getD k 0) (fl 0 (fun _ => 0) 0) (fun _ => 0)) _ _ _ [(1, .int (nI 0)), (0, .ref ((fun k => [q, a1 0, a1 1, a2 0, a2 1, a3 0, a3 1, a4 0, a4 1, a4 2, a4 3, a4 4, r5, r6].getD k 0) 0))] _
  refine lpb_X0_71 o (fun k => [q, a1 0, a1 1, a2 0, a2 1, a3 0, a3 1, a4 0, a4 1, a4 2, a4 3, a4 4, r5, r6].getD k 0) (fun _ => 0) ?_ 6 0 rfl
  refine b_iconst (pc := 90) o dX0_init_90 (nI 0) (by decide) ?_
  refine b_istore (pc := 91) (lv' := [(1, .int (nI 0)), (0, .ref ((fun k => [q, a1 0, a1 1, a2 0, a2 1, a3 0, a3 1, a4 0, a4 1, a4 2, a4 3, a4 4, r5, r6].getD k 0) 0))]) o dX0_init_91 (by decide) rfl ?_
  show cbG Γ 2 (w_X0 (fK Γ) (fun k => [q, a1 0, a1 1, a2 0, a2 1, a3 0, a3 1, a4 0, a4 1, a4 2, a4 3, a4 4, r5, r6].getD k 0) (fl 0 (fun _ => 0) 6) (fl 0 (fun _ => 0) 0)) _ _ _ [(1, .int (nI 0)), (0, .ref ((fun k => [q, a1 0, a1 1, a2 0, a2 1, a3 0, a3 1, a4 0, a4 1, a4 2, a4 3, a4 4, r5, r6].getD k 0) 0))] _
  refine lpb_X0_92 o (fun k => [q, a1 0, a1 1, a2 0, a2 1, a3 0, a3 1, a4 0, a4 1, a4 2, a4 3, a4 4, r5, r6].getD k 0) (fl 0 (fun _ => 0) 6) ?_ 10 0 rfl
  exact b_vret (pc := 111) o ρ ⟨(fun k => [q, a1 0, a1 1, a2 0, a2 1, a3 0, a3 1, a4 0, a4 1, a4 2, a4 3, a4 4, r5, r6].getD k 0), rfl, rfl⟩ (Nat.le_of_ble_eq_true rfl) (Nat.le_of_ble_eq_true rfl) dX0_init_111
set_option maxRecDepth 100000 in
set_option maxHeartbeats 2000000 in
theorem k_X9 : Bt yX9_init cX9_init 1 3 61 50 67128 9 [.null, .null, .int 0, .null, .null, .null, .null, .null, .null, .int 0] (fun κ q w => ∃ a : Nat → Nat, a 0 = q ∧ w = w_X9 κ a) := by
  refine Bt.of (by decide) (by decide) rfl (fun Γ q o ρ => ?_)
  refine b_aload (pc := 0) o 0 rfl dX9_init_0 ?_
  refine b_oinit (pc := 1) o lk_X9_1 (by decide) (by decide) dX9_init_1 ?_
  refine b_aload (pc := 4) o 0 rfl dX9_init_4 ?_
  refine b_sub (pc := 5) o k_X0 mt_X0_init wi_X0 rfl wc_X9_7 wn_X0 inX0 tyX0_ok rfl hfs_X0 (Or.inr lk_X9_9) (by decide) (by rw [ρ.2.2.2.1]; exact Nat.le_of_ble_eq_true rfl) (by rw [ρ.2.2.2.2.1]; exact Nat.le_of_ble_eq_true rfl) (Nat.le_of_ble_eq_true rfl) dX9_init_5 dX9_init_8 dX9_init_9 (fun r1 w1 u1 => ?_)
  obtain ⟨a1, rfl, rfl⟩ := u1
  show cbG Γ 1 (_ :: (_ ++ _)) _ _ _ _ _
  refine b_putF (pc := 12) o ρ.2.2.2.2.2 0 rfl inX9 tyX9_ok nmX9 (by decide) lf_X9_10 rfl rfl rfl rfl (Nat.le_of_ble_eq_true rfl) dX9_init_12 ?_
  show cbG Γ 1 ((q, .inr (9, [.ref (a1 0), .null, .int 0, .null, .null, .null, .null, .null, .null, .int 0])) :: _) _ _ _ _ _
  refine b_aload (pc := 15) o 0 rfl dX9_init_15 ?_
  refine b_sub (pc := 16) o k_X0 mt_X0_init wi_X0 rfl wc_X9_7 wn_X0 inX0 tyX0_ok rfl hfs_X0 (Or.inr lk_X9_9) (by decide) (by rw [ρ.2.2.2.1]; exact Nat.le_of_ble_eq_true rfl) (by rw [ρ.2.2.2.2.1]; exact Nat.le_of_ble_eq_true rfl) (Nat.le_of_ble_eq_true rfl) dX9_init_16 dX9_init_19 dX9_init_20 (fun r2 w2 u2 => ?_)
  obtain ⟨a2, rfl, rfl⟩ := u2
  show cbG Γ 1 (_ :: (_ ++ _)) _ _ _ _ _
  refine b_putF (pc := 23) o ρ.2.2.2.2.2 1 rfl inX9 tyX9_ok nmX9 (by decide) lf_X9_16 rfl rfl rfl rfl (Nat.le_of_ble_eq_true rfl) dX9_init_23 ?_
  show cbG Γ 1 ((q, .inr (9, [.ref (a1 0), .ref (a2 0), .int 0, .null, .null, .null, .null, .null, .null, .int 0])) :: _) _ _ _ _ _
  refine b_aload (pc := 26) o 0 rfl dX9_init_26 ?_
  refine b_bipush (pc := 27) o dX9_init_27 7 (by decide) ?_
  refine b_new_int (pc := 29) o 7 (by decide) (by decide) (Nat.le_of_ble_eq_true rfl) (by rw [ρ.2.2.2.1]; exact Nat.le_of_ble_eq_true rfl) (by rw [ρ.2.2.2.2.1]; exact Nat.le_of_ble_eq_true rfl) dX9_init_29 (fun r3 => ?_)
  show cbG Γ 1 (_ :: (_ ++ _)) _ _ _ _ _
  refine b_putF (pc := 31) o ρ.2.2.2.2.2 3 rfl inX9 tyX9_ok nmX9 (by decide) lf_X9_19 rfl rfl rfl rfl (Nat.le_of_ble_eq_true rfl) dX9_init_31 ?_
  show cbG Γ 1 ((q, .inr (9, [.ref (a1 0), .ref (a2 0), .int 0, .ref r3, .null, .null, .null, .null, .null, .int 0])) :: _) _ _ _ _ _
  refine b_aload (pc := 34) o 0 rfl dX9_init_34 ?_
  refine b_sub (pc := 35) o k_X3 mt_X3_init wi_X3 rfl wc_X9_23 wn_X3 inX3 tyX3_ok rfl hfs_X3 (Or.inl ⟨_, ln_X9_25⟩) (by decide) (by rw [ρ.2.2.2.1]; exact Nat.le_of_ble_eq_true rfl) (by rw [ρ.2.2.2.2.1]; exact Nat.le_of_ble_eq_true rfl) (Nat.le_of_ble_eq_true rfl) dX9_init_35 dX9_init_38 dX9_init_39 (fun r4 w4 u4 => ?_)
  obtain ⟨a4, rfl, rfl⟩ := u4
  show cbG Γ 1 (_ :: (_ ++ _)) _ _ _ _ _
  refine b_putF (pc := 42) o ρ.2.2.2.2.2 4 rfl inX9 tyX9_ok nmX9 (by decide) lf_X9_26 rfl rfl rfl rfl (Nat.le_of_ble_eq_true rfl) dX9_init_42 ?_
  show cbG Γ 1 ((q, .inr (9, [.ref (a1 0), .ref (a2 0), .int 0, .ref r3, .ref (a4 0), .null, .null, .null, .null, .int 0])) :: _) _ _ _ _ _
  refine b_aload (pc := 45) o 0 rfl dX9_init_45 ?_
  refine b_sub (pc := 46) o k_X4 mt_X4_init wi_X4 rfl wc_X9_30 wn_X4 inX4 tyX4_ok rfl hfs_X4 (Or.inl ⟨_, ln_X9_32⟩) (by decide) (by rw [ρ.2.2.2.1]; exact Nat.le_of_ble_eq_true rfl) (by rw [ρ.2.2.2.2.1]; exact Nat.le_of_ble_eq_true rfl) (Nat.le_of_ble_eq_true rfl) dX9_init_46 dX9_init_49 dX9_init_50 (fun r5 w5 u5 => ?_)
  obtain ⟨a5, rfl, rfl⟩ := u5
  show cbG Γ 1 (_ :: (_ ++ _)) _ _ _ _ _
  refine b_putF (pc := 53) o ρ.2.2.2.2.2 5 rfl inX9 tyX9_ok nmX9 (by decide) lf_X9_33 rfl rfl rfl rfl (Nat.le_of_ble_eq_true rfl) dX9_init_53 ?_
  show cbG Γ 1 ((q, .inr (9, [.ref (a1 0), .ref (a2 0), .int 0, .ref r3, .ref (a4 0), .ref (a5 0), .null, .null, .null, .int 0])) :: _) _ _ _ _ _
  refine b_aload (pc := 56) o 0 rfl dX9_init_56 ?_
  refine b_sub (pc := 57) o k_X1 mt_X1_init wi_X1 rfl wc_X9_37 wn_X1 inX1 tyX1_ok rfl hfs_X1 (Or.inl ⟨_, ln_X9_39⟩) (by decide) (by rw [ρ.2.2.2.1]; exact Nat.le_of_ble_eq_true rfl) (by rw [ρ.2.2.2.2.1]; exact Nat.le_of_ble_eq_true rfl) (Nat.le_of_ble_eq_true rfl) dX9_init_57 dX9_init_60 dX9_init_61 (fun r6 w6 u6 => ?_)
  obtain ⟨a6, rfl, rfl⟩ := u6
  show cbG Γ 1 (_ :: (_ ++ _)) _ _ _ _ _
  refine b_putF (pc := 64) o ρ.2.2.2.2.2 6 rfl inX9 tyX9_ok nmX9 (by decide) lf_X9_40 rfl rfl rfl rfl (Nat.le_of_ble_eq_true rfl) dX9_init_64 ?_
  show cbG Γ 1 ((q, .inr (9, [.ref (a1 0), .ref (a2 0), .int 0, .ref r3, .ref (a4 0), .ref (a5 0), .ref (a6 0), .null, .null, .int 0])) :: _) _ _ _ _ _
  refine b_aload (pc := 67) o 0 rfl dX9_init_67 ?_
  refine b_sub (pc := 68) o k_X8 mt_X8_init wi_X8 rfl wc_X9_44 wn_X8 inX8 tyX8_ok rfl hfs_X8 (Or.inl ⟨_, ln_X9_46⟩) (by decide) (by rw [ρ.2.2.2.1]; exact Nat.le_of_ble_eq_true rfl) (by rw [ρ.2.2.2.2.1]; exact Nat.le_of_ble_eq_true rfl) (Nat.le_of_ble_eq_true rfl) dX9_init_68 dX9_init_71 dX9_init_72 (fun r7 w7 u7 => ?_)
  obtain ⟨a7, rfl, rfl⟩ := u7
  show cbG Γ 1 (_ :: (_ ++ _)) _ _ _ _ _
  refine b_putF (pc := 75) o ρ.2.2.2.2.2 7 rfl inX9 tyX9_ok nmX9 (by decide) lf_X9_47 rfl rfl rfl rfl (Nat.le_of_ble_eq_true rfl) dX9_init_75 ?_
  show cbG Γ 1 ((q, .inr (9, [.ref (a1 0), .ref (a2 0), .int 0, .ref r3, .ref (a4 0), .ref (a5 0), .ref (a6 0), .ref (a7 0), .null, .int 0])) :: _) _ _ _ _ _
  refine b_aload (pc := 78) o 0 rfl dX9_init_78 ?_
  refine b_bipush (pc := 79) o dX9_init_79 24 (by decide) ?_
  refine b_new_int (pc := 81) o 24 (by decide) (by decide) (Nat.le_of_ble_eq_true rfl) (by rw [ρ.2.2.2.1]; exact Nat.le_of_ble_eq_true rfl) (by rw [ρ.2.2.2.2.1]; exact Nat.le_of_ble_eq_true rfl) dX9_init_81 (fun r8 => ?_)
  show cbG Γ 1 (_ :: (_ ++ _)) _ _ _ _ _
  refine b_putF (pc := 83) o ρ.2.2.2.2.2 8 rfl inX9 tyX9_ok nmX9 (by decide) lf_X9_51 rfl rfl rfl rfl (Nat.le_of_ble_eq_true rfl) dX9_init_83 ?_
  show cbG Γ 1 ((q, .inr (9, [.ref (a1 0), .ref (a2 0), .int 0, .ref r3, .ref (a4 0), .ref (a5 0), .ref (a6 0), .ref (a7 0), .ref r8, .int 0])) :: _) _ _ _ _ _
  exact b_vret (pc := 86) o ρ ⟨(fun k => [q, a1 0, a1 1, a1 2, a1 3, a1 4, a1 5, a1 6, a1 7, a1 8, a1 9, a1 10, a1 11, a1 12, a1 13, a2 0, a2 1, a2 2, a2 3, a2 4, a2 5, a2 6, a2 7, a2 8, a2 9, a2 10, a2 11, a2 12, a2 13, r3, a4 0, a4 1, a4 2, a4 3, a5 0, a5 1, a5 2, a5 3, a6 0, a6 1, a6 2, a6 3, a6 4, a6 5, a6 6, a6 7, a6 8, a7 0, a7 1, a7 2, r8].getD k 0), rfl, rfl⟩ (Nat.le_of_ble_eq_true rfl) (Nat.le_of_ble_eq_true rfl) dX9_init_86
set_option maxRecDepth 100000 in
set_option maxHeartbeats 2000000 in
theorem k_X10 : Bt yX10_init cX10_init 2 1 20 19 34187 10 [.null, .null, .null, .null, .int 0, .null, .null, .null, .null, .int 0, .int 0, .int 0, .null, .null, .null, .int 0, .null, .null, .null, .null, .int 0, .int 0, .int 0, .int 0, .int 0, .null, .null, .null, .null] (fun κ q w => ∃ a : Nat → Nat, a 0 = q ∧ w = w_X10 κ a sF) := by
  refine Bt.of (by decide) (by decide) rfl (fun Γ q o ρ => ?_)
  refine b_aload (pc := 0) o 0 rfl dX10_init_0 ?_
  refine b_oinit (pc := 1) o lk_X10_1 (by decide) (by decide) dX10_init_1 ?_
  refine b_aload (pc := 4) o 0 rfl dX10_init_4 ?_
  refine b_sipush (pc := 5) o dX10_init_5 337 (by decide) ?_
  refine b_new_int (pc := 8) o 337 (by decide) (by decide) (Nat.le_of_ble_eq_true rfl) (by rw [ρ.2.2.2.1]; exact Nat.le_of_ble_eq_true rfl) (by rw [ρ.2.2.2.2.1]; exact Nat.le_of_ble_eq_true rfl) dX10_init_8 (fun r1 => ?_)
  show cbG Γ 2 (_ :: (_ ++ _)) _ _ _ _ _
  refine b_putF (pc := 10) o ρ.2.2.2.2.2 0 rfl inX10 tyX10_ok nmX10 (by decide) lf_X10_7 rfl rfl rfl rfl (Nat.le_of_ble_eq_true rfl) dX10_init_10 ?_
  show cbG Γ 2 ((q, .inr (10, [.ref r1, .null, .null, .null, .int 0, .null, .null, .null, .null, .int 0, .int 0, .int 0, .null, .null, .null, .int 0, .null, .null, .null, .null, .int 0, .int 0, .int 0, .int 0, .int 0, .null, .null, .null, .null])) :: _) _ _ _ _ _
  refine b_aload (pc := 13) o 0 rfl dX10_init_13 ?_
  refine b_sipush (pc := 14) o dX10_init_14 337 (by decide) ?_
  refine b_new_int (pc := 17) o 337 (by decide) (by decide) (Nat.le_of_ble_eq_true rfl) (by rw [ρ.2.2.2.1]; exact Nat.le_of_ble_eq_true rfl) (by rw [ρ.2.2.2.2.1]; exact Nat.le_of_ble_eq_true rfl) dX10_init_17 (fun r2 => ?_)
  show cbG Γ 2 (_ :: (_ ++ _)) _ _ _ _ _
  refine b_putF (pc := 19) o ρ.2.2.2.2.2 1 rfl inX10 tyX10_ok nmX10 (by decide) lf_X10_13 rfl rfl rfl rfl (Nat.le_of_ble_eq_true rfl) dX10_init_19 ?_
  show cbG Γ 2 ((q, .inr (10, [.ref r1, .ref r2, .null, .null, .int 0, .null, .null, .null, .null, .int 0, .int 0, .int 0, .null, .null, .null, .int 0, .null, .null, .null, .null, .int 0, .int 0, .int 0, .int 0, .int 0, .null, .null, .null, .null])) :: _) _ _ _ _ _
  refine b_aload (pc := 22) o 0 rfl dX10_init_22 ?_
  refine b_sipush (pc := 23) o dX10_init_23 337 (by decide) ?_
  refine b_new_int (pc := 26) o 337 (by decide) (by decide) (Nat.le_of_ble_eq_true rfl) (by rw [ρ.2.2.2.1]; exact Nat.le_of_ble_eq_true rfl) (by rw [ρ.2.2.2.2.1]; exact Nat.le_of_ble_eq_true rfl) dX10_init_26 (fun r3 => ?_)
  show cbG Γ 2 (_ :: (_ ++ _)) _ _ _ _ _
  refine b_putF (pc := 28) o ρ.2.2.2.2.2 2 rfl inX10 tyX10_ok nmX10 (by decide) lf_X10_16 rfl rfl rfl rfl (Nat.le_of_ble_eq_true rfl) dX10_init_28 ?_
  show cbG Γ 2 ((q, .inr (10, [.ref r1, .ref r2, .ref r3, .null, .int 0, .null, .null, .null, .null, .int 0, .int 0, .int 0, .null, .null, .null, .int 0, .null, .null, .null, .null, .int 0, .int 0, .int 0, .int 0, .int 0, .null, .null, .null, .null])) :: _) _ _ _ _ _
  refine b_aload (pc := 31) o 0 rfl dX10_init_31 ?_
  refine b_bipush (pc := 32) o dX10_init_32 7 (by decide) ?_
  refine b_new_int (pc := 34) o 7 (by decide) (by decide) (Nat.le_of_ble_eq_true rfl) (by rw [ρ.2.2.2.1]; exact Nat.le_of_ble_eq_true rfl) (by rw [ρ.2.2.2.2.1]; exact Nat.le_of_ble_eq_true rfl) dX10_init_34 (fun r4 => ?_)
  show cbG Γ 2 (_ :: (_ ++ _)) _ _ _ _ _
  refine b_putF (pc := 36) o ρ.2.2.2.2.2 3 rfl inX10 tyX10_ok nmX10 (by decide) lf_X10_19 rfl rfl rfl rfl (Nat.le_of_ble_eq_true rfl) dX10_init_36 ?_
  show cbG Γ 2 ((q, .inr (10, [.ref r1, .ref r2, .ref r3, .ref r4, .int 0, .null, .null, .null, .null, .int 0, .int 0, .int 0, .null, .null, .null, .int 0, .null, .null, .null, .null, .int 0, .int 0, .int 0, .int 0, .int 0, .null, .null, .null, .null])) :: _) _ _ _ _ _
  refine b_aload (pc := 39) o 0 rfl dX10_init_39 ?_
  refine b_bipush (pc := 40) o dX10_init_40 24 (by decide) ?_
  refine b_new_int (pc := 42) o 24 (by decide) (by decide) (Nat.le_of_ble_eq_true rfl) (by rw [ρ.2.2.2.1]; exact Nat.le_of_ble_eq_true rfl) (by rw [ρ.2.2.2.2.1]; exact Nat.le_of_ble_eq_true rfl) dX10_init_42 (fun r5 => ?_)
  show cbG Γ 2 (_ :: (_ ++ _)) _ _ _ _ _
  refine b_putF (pc := 44) o ρ.2.2.2.2.2 5 rfl inX10 tyX10_ok nmX10 (by decide) lf_X10_22 rfl rfl rfl rfl (Nat.le_of_ble_eq_true rfl) dX10_init_44 ?_
  show cbG Γ 2 ((q, .inr (10, [.ref r1, .ref r2, .ref r3, .ref r4, .int 0, .ref r5, .null, .null, .null, .int 0, .int 0, .int 0, .null, .null, .null, .int 0, .null, .null, .null, .null, .int 0, .int 0, .int 0, .int 0, .int 0, .null, .null, .null, .null])) :: _) _ _ _ _ _
  refine b_aload (pc := 47) o 0 rfl dX10_init_47 ?_
  refine b_iconst (pc := 48) o dX10_init_48 5 (by decide) ?_
  refine b_new_int (pc := 49) o 5 (by decide) (by decide) (Nat.le_of_ble_eq_true rfl) (by rw [ρ.2.2.2.1]; exact Nat.le_of_ble_eq_true rfl) (by rw [ρ.2.2.2.2.1]; exact Nat.le_of_ble_eq_true rfl) dX10_init_49 (fun r6 => ?_)
  show cbG Γ 2 (_ :: (_ ++ _)) _ _ _ _ _
  refine b_putF (pc := 51) o ρ.2.2.2.2.2 6 rfl inX10 tyX10_ok nmX10 (by decide) lf_X10_25 rfl rfl rfl rfl (Nat.le_of_ble_eq_true rfl) dX10_init_51 ?_
  show cbG Γ 2 ((q, .inr (10, [.ref r1, .ref r2, .ref r3, .ref r4, .int 0, .ref r5, .ref r6, .null, .null, .int 0, .int 0, .int 0, .null, .null, .null, .int 0, .null, .null, .null, .null, .int 0, .int 0, .int 0, .int 0, .int 0, .null, .null, .null, .null])) :: _) _ _ _ _ _
  refine b_aload (pc := 54) o 0 rfl dX10_init_54 ?_
  refine b_iconst (pc := 55) o dX10_init_55 5 (by decide) ?_
  refine b_new_int (pc := 56) o 5 (by decide) (by decide) (Nat.le_of_ble_eq_true rfl) (by rw [ρ.2.2.2.1]; exact Nat.le_of_ble_eq_true rfl) (by rw [ρ.2.2.2.2.1]; exact Nat.le_of_ble_eq_true rfl) dX10_init_56 (fun r7 => ?_)
  show cbG Γ 2 (_ :: (_ ++ _)) _ _ _ _ _
  refine b_putF (pc := 58) o ρ.2.2.2.2.2 7 rfl inX10 tyX10_ok nmX10 (by decide) lf_X10_28 rfl rfl rfl rfl (Nat.le_of_ble_eq_true rfl) dX10_init_58 ?_
  show cbG Γ 2 ((q, .inr (10, [.ref r1, .ref r2, .ref r3, .ref r4, .int 0, .ref r5, .ref r6, .ref r7, .null, .int 0, .int 0, .int 0, .null, .null, .null, .int 0, .null, .null, .null, .null, .int 0, .int 0, .int 0, .int 0, .int 0, .null, .null, .null, .null])) :: _) _ _ _ _ _
  refine b_aload (pc := 61) o 0 rfl dX10_init_61 ?_
  refine b_iconst (pc := 62) o dX10_init_62 5 (by decide) ?_
  refine b_new_int (pc := 63) o 5 (by decide) (by decide) (Nat.le_of_ble_eq_true rfl) (by rw [ρ.2.2.2.1]; exact Nat.le_of_ble_eq_true rfl) (by rw [ρ.2.2.2.2.1]; exact Nat.le_of_ble_eq_true rfl) dX10_init_63 (fun r8 => ?_)
  show cbG Γ 2 (_ :: (_ ++ _)) _ _ _ _ _
  refine b_putF (pc := 65) o ρ.2.2.2.2.2 8 rfl inX10 tyX10_ok nmX10 (by decide) lf_X10_31 rfl rfl rfl rfl (Nat.le_of_ble_eq_true rfl) dX10_init_65 ?_
  show cbG Γ 2 ((q, .inr (10, [.ref r1, .ref r2, .ref r3, .ref r4, .int 0, .ref r5, .ref r6, .ref r7, .ref r8, .int 0, .int 0, .int 0, .null, .null, .null, .int 0, .null, .null, .null, .null, .int 0, .int 0, .int 0, .int 0, .int 0, .null, .null, .null, .null])) :: _) _ _ _ _ _
  refine b_aload (pc := 68) o 0 rfl dX10_init_68 ?_
  refine b_sipush (pc := 69) o dX10_init_69 8192 (by decide) ?_
  refine b_new_int (pc := 72) o 8192 (by decide) (by decide) (Nat.le_of_ble_eq_true rfl) (by rw [ρ.2.2.2.1]; exact Nat.le_of_ble_eq_true rfl) (by rw [ρ.2.2.2.2.1]; exact Nat.le_of_ble_eq_true rfl) dX10_init_72 (fun r9 => ?_)
  show cbG Γ 2 (_ :: (_ ++ _)) _ _ _ _ _
  refine b_putF (pc := 74) o ρ.2.2.2.2.2 12 rfl inX10 tyX10_ok nmX10 (by decide) lf_X10_34 rfl rfl rfl rfl (Nat.le_of_ble_eq_true rfl) dX10_init_74 ?_
  show cbG Γ 2 ((q, .inr (10, [.ref r1, .ref r2, .ref r3, .ref r4, .int 0, .ref r5, .ref r6, .ref r7, .ref r8, .int 0, .int 0, .int 0, .ref r9, .null, .null, .int 0, .null, .null, .null, .null, .int 0, .int 0, .int 0, .int 0, .int 0, .null, .null, .null, .null])) :: _) _ _ _ _ _
  refine b_aload (pc := 77) o 0 rfl dX10_init_77 ?_
  refine b_sipush (pc := 78) o dX10_init_78 8192 (by decide) ?_
  refine b_new_int (pc := 81) o 8192 (by decide) (by decide) (Nat.le_of_ble_eq_true rfl) (by rw [ρ.2.2.2.1]; exact Nat.le_of_ble_eq_true rfl) (by rw [ρ.2.2.2.2.1]; exact Nat.le_of_ble_eq_true rfl) dX10_init_81 (fun r10 => ?_)
  show cbG Γ 2 (_ :: (_ ++ _)) _ _ _ _ _
  refine b_putF (pc := 83) o ρ.2.2.2.2.2 13 rfl inX10 tyX10_ok nmX10 (by decide) lf_X10_37 rfl rfl rfl rfl (Nat.le_of_ble_eq_true rfl) dX10_init_83 ?_
  show cbG Γ 2 ((q, .inr (10, [.ref r1, .ref r2, .ref r3, .ref r4, .int 0, .ref r5, .ref r6, .ref r7, .ref r8, .int 0, .int 0, .int 0, .ref r9, .ref r10, .null, .int 0, .null, .null, .null, .null, .int 0, .int 0, .int 0, .int 0, .int 0, .null, .null, .null, .null])) :: _) _ _ _ _ _
  refine b_aload (pc := 86) o 0 rfl dX10_init_86 ?_
  refine b_bipush (pc := 87) o dX10_init_87 24 (by decide) ?_
  refine b_new_int (pc := 89) o 24 (by decide) (by decide) (Nat.le_of_ble_eq_true rfl) (by rw [ρ.2.2.2.1]; exact Nat.le_of_ble_eq_true rfl) (by rw [ρ.2.2.2.2.1]; exact Nat.le_of_ble_eq_true rfl) dX10_init_89 (fun r11 => ?_)
  show cbG Γ 2 (_ :: (_ ++ _)) _ _ _ _ _
  refine b_putF (pc := 91) o ρ.2.2.2.2.2 14 rfl inX10 tyX10_ok nmX10 (by decide) lf_X10_40 rfl rfl rfl rfl (Nat.le_of_ble_eq_true rfl) dX10_init_91 ?_
  show cbG Γ 2 ((q, .inr (10, [.ref r1, .ref r2, .ref r3, .ref r4, .int 0, .ref r5, .ref r6, .ref r7, .ref r8, .int 0, .int 0, .int 0, .ref r9, .ref r10, .ref r11, .int 0, .null, .null, .null, .null, .int 0, .int 0, .int 0, .int 0, .int 0, .null, .null, .null, .null])) :: _) _ _ _ _ _
  refine b_aload (pc := 94) o 0 rfl dX10_init_94 ?_
  refine b_sipush (pc := 95) o dX10_init_95 8192 (by decide) ?_
  refine b_new_boolean (pc := 98) o 8192 (by decide) (by decide) (Nat.le_of_ble_eq_true rfl) (by rw [ρ.2.2.2.1]; exact Nat.le_of_ble_eq_true rfl) (by rw [ρ.2.2.2.2.1]; exact Nat.le_of_ble_eq_true rfl) dX10_init_98 (fun r12 => ?_)
  show cbG Γ 2 (_ :: (_ ++ _)) _ _ _ _ _
  refine b_putF (pc := 100) o ρ.2.2.2.2.2 16 rfl inX10 tyX10_ok nmX10 (by decide) lf_X10_43 rfl rfl rfl rfl (Nat.le_of_ble_eq_true rfl) dX10_init_100 ?_
  show cbG Γ 2 ((q, .inr (10, [.ref r1, .ref r2, .ref r3, .ref r4, .int 0, .ref r5, .ref r6, .ref r7, .ref r8, .int 0, .int 0, .int 0, .ref r9, .ref r10, .ref r11, .int 0, .ref r12, .null, .null, .null, .int 0, .int 0, .int 0, .int 0, .int 0, .null, .null, .null, .null])) :: _) _ _ _ _ _
  refine b_aload (pc := 103) o 0 rfl dX10_init_103 ?_
  refine b_sipush (pc := 104) o dX10_init_104 8192 (by decide) ?_
  refine b_new_boolean (pc := 107) o 8192 (by decide) (by decide) (Nat.le_of_ble_eq_true rfl) (by rw [ρ.2.2.2.1]; exact Nat.le_of_ble_eq_true rfl) (by rw [ρ.2.2.2.2.1]; exact Nat.le_of_ble_eq_true rfl) dX10_init_107 (fun r13 => ?_)
  show cbG Γ 2 (_ :: (_ ++ _)) _ _ _ _ _
  refine b_putF (pc := 109) o ρ.2.2.2.2.2 17 rfl inX10 tyX10_ok nmX10 (by decide) lf_X10_47 rfl rfl rfl rfl (Nat.le_of_ble_eq_true rfl) dX10_init_109 ?_
  show cbG Γ 2 ((q, .inr (10, [.ref r1, .ref r2, .ref r3, .ref r4, .int 0, .ref r5, .ref r6, .ref r7, .ref r8, .int 0, .int 0, .int 0, .ref r9, .ref r10, .ref r11, .int 0, .ref r12, .ref r13, .null, .null, .int 0, .int 0, .int 0, .int 0, .int 0, .null, .null, .null, .null])) :: _) _ _ _ _ _
  refine b_aload (pc := 112) o 0 rfl dX10_init_112 ?_
  refine b_bipush (pc := 113) o dX10_init_113 10 (by decide) ?_
  refine b_new_int (pc := 115) o 10 (by decide) (by decide) (Nat.le_of_ble_eq_true rfl) (by rw [ρ.2.2.2.1]; exact Nat.le_of_ble_eq_true rfl) (by rw [ρ.2.2.2.2.1]; exact Nat.le_of_ble_eq_true rfl) dX10_init_115 (fun r14 => ?_)
  show cbG Γ 2 (_ :: (_ ++ _)) _ _ _ _ _
  refine b_putF (pc := 117) o ρ.2.2.2.2.2 18 rfl inX10 tyX10_ok nmX10 (by decide) lf_X10_50 rfl rfl rfl rfl (Nat.le_of_ble_eq_true rfl) dX10_init_117 ?_
  show cbG Γ 2 ((q, .inr (10, [.ref r1, .ref r2, .ref r3, .ref r4, .int 0, .ref r5, .ref r6, .ref r7, .ref r8, .int 0, .int 0, .int 0, .ref r9, .ref r10, .ref r11, .int 0, .ref r12, .ref r13, .ref r14, .null, .int 0, .int 0, .int 0, .int 0, .int 0, .null, .null, .null, .null])) :: _) _ _ _ _ _
  refine b_aload (pc := 120) o 0 rfl dX10_init_120 ?_
  refine b_bipush (pc := 121) o dX10_init_121 120 (by decide) ?_
  refine b_new_int (pc := 123) o 120 (by decide) (by decide) (Nat.le_of_ble_eq_true rfl) (by rw [ρ.2.2.2.1]; exact Nat.le_of_ble_eq_true rfl) (by rw [ρ.2.2.2.2.1]; exact Nat.le_of_ble_eq_true rfl) dX10_init_123 (fun r15 => ?_)
  show cbG Γ 2 (_ :: (_ ++ _)) _ _ _ _ _
  refine b_putF (pc := 125) o ρ.2.2.2.2.2 19 rfl inX10 tyX10_ok nmX10 (by decide) lf_X10_53 rfl rfl rfl rfl (Nat.le_of_ble_eq_true rfl) dX10_init_125 ?_
  show cbG Γ 2 ((q, .inr (10, [.ref r1, .ref r2, .ref r3, .ref r4, .int 0, .ref r5, .ref r6, .ref r7, .ref r8, .int 0, .int 0, .int 0, .ref r9, .ref r10, .ref r11, .int 0, .ref r12, .ref r13, .ref r14, .ref r15, .int 0, .int 0, .int 0, .int 0, .int 0, .null, .null, .null, .null])) :: _) _ _ _ _ _
  refine b_aload (pc := 128) o 0 rfl dX10_init_128 ?_
  refine b_iconst (pc := 129) o dX10_init_129 4 (by decide) ?_
  refine b_new_int (pc := 130) o 4 (by decide) (by decide) (Nat.le_of_ble_eq_true rfl) (by rw [ρ.2.2.2.1]; exact Nat.le_of_ble_eq_true rfl) (by rw [ρ.2.2.2.2.1]; exact Nat.le_of_ble_eq_true rfl) dX10_init_130 (fun r16 => ?_)
  show cbG Γ 2 (_ :: (_ ++ _)) _ _ _ _ _
  refine b_putF (pc := 132) o ρ.2.2.2.2.2 25 rfl inX10 tyX10_ok nmX10 (by decide) lf_X10_56 rfl rfl rfl rfl (Nat.le_of_ble_eq_true rfl) dX10_init_132 ?_
  show cbG Γ 2 ((q, .inr (10, [.ref r1, .ref r2, .ref r3, .ref r4, .int 0, .ref r5, .ref r6, .ref r7, .ref r8, .int 0, .int 0, .int 0, .ref r9, .ref r10, .ref r11, .int 0, .ref r12, .ref r13, .ref r14, .ref r15, .int 0, .int 0, .int 0, .int 0, .int 0, .ref r16, .null, .null, .null])) :: _) _ _ _ _ _
  refine b_aload (pc := 135) o 0 rfl dX10_init_135 ?_
  refine b_iconst (pc := 136) o dX10_init_136 4 (by decide) ?_
  refine b_new_int (pc := 137) o 4 (by decide) (by decide) (Nat.le_of_ble_eq_true rfl) (by rw [ρ.2.2.2.1]; exact Nat.le_of_ble_eq_true rfl) (by rw [ρ.2.2.2.2.1]; exact Nat.le_of_ble_eq_true rfl) dX10_init_137 (fun r17 => ?_)
  show cbG Γ 2 (_ :: (_ ++ _)) _ _ _ _ _
  refine b_putF (pc := 139) o ρ.2.2.2.2.2 26 rfl inX10 tyX10_ok nmX10 (by decide) lf_X10_59 rfl rfl rfl rfl (Nat.le_of_ble_eq_true rfl) dX10_init_139 ?_
  show cbG Γ 2 ((q, .inr (10, [.ref r1, .ref r2, .ref r3, .ref r4, .int 0, .ref r5, .ref r6, .ref r7, .ref r8, .int 0, .int 0, .int 0, .ref r9, .ref r10, .ref r11, .int 0, .ref r12, .ref r13, .ref r14, .ref r15, .int 0, .int 0, .int 0, .int 0, .int 0, .ref r16, .ref r17, .null, .null])) :: _) _ _ _ _ _
  refine b_aload (pc := 142) o 0 rfl dX10_init_142 ?_
  refine b_sipush (pc := 143) o dX10_init_143 160 (by decide) ?_
  refine b_new_int (pc := 146) o 160 (by decide) (by decide) (Nat.le_of_ble_eq_true rfl) (by rw [ρ.2.2.2.1]; exact Nat.le_of_ble_eq_true rfl) (by rw [ρ.2.2.2.2.1]; exact Nat.le_of_ble_eq_true rfl) dX10_init_146 (fun r18 => ?_)
  show cbG Γ 2 (_ :: (_ ++ _)) _ _ _ _ _
  refine b_putF (pc := 148) o ρ.2.2.2.2.2 27 rfl inX10 tyX10_ok nmX10 (by decide) lf_X10_62 rfl rfl rfl rfl (Nat.le_of_ble_eq_true rfl) dX10_init_148 ?_
  show cbG Γ 2 ((q, .inr (10, [.ref r1, .ref r2, .ref r3, .ref r4, .int 0, .ref r5, .ref r6, .ref r7, .ref r8, .int 0, .int 0, .int 0, .ref r9, .ref r10, .ref r11, .int 0, .ref r12, .ref r13, .ref r14, .ref r15, .int 0, .int 0, .int 0, .int 0, .int 0, .ref r16, .ref r17, .ref r18, .null])) :: _) _ _ _ _ _
  refine b_aload (pc := 151) o 0 rfl dX10_init_151 ?_
  refine b_bipush (pc := 152) o dX10_init_152 40 (by decide) ?_
  refine b_new_int (pc := 154) o 40 (by decide) (by decide) (Nat.le_of_ble_eq_true rfl) (by rw [ρ.2.2.2.1]; exact Nat.le_of_ble_eq_true rfl) (by rw [ρ.2.2.2.2.1]; exact Nat.le_of_ble_eq_true rfl) dX10_init_154 (fun r19 => ?_)
  show cbG Γ 2 (_ :: (_ ++ _)) _ _ _ _ _
  refine b_putF (pc := 156) o ρ.2.2.2.2.2 28 rfl inX10 tyX10_ok nmX10 (by decide) lf_X10_65 rfl rfl rfl rfl (Nat.le_of_ble_eq_true rfl) dX10_init_156 ?_
  show cbG Γ 2 ((q, .inr (10, [.ref r1, .ref r2, .ref r3, .ref r4, .int 0, .ref r5, .ref r6, .ref r7, .ref r8, .int 0, .int 0, .int 0, .ref r9, .ref r10, .ref r11, .int 0, .ref r12, .ref r13, .ref r14, .ref r15, .int 0, .int 0, .int 0, .int 0, .int 0, .ref r16, .ref r17, .ref r18, .ref r19])) :: _) _ _ _ _ _
  refine b_aload (pc := 159) o 0 rfl dX10_init_159 ?_
  refine b_get (pc := 160) o 0 0 rfl rfl inX10 (by decide) lf_X10_7 rfl dX10_init_160 ?_
  refine b_sipush (pc := 163) o dX10_init_163 284 (by decide) ?_
  refine b_iconst (pc := 166) o dX10_init_166 1 (by decide) ?_
  refine b_iast (pc := 167) o 1 rfl 284 rfl (by decide) (by decide) dX10_init_167 ?_
  refine b_iconst (pc := 168) o dX10_init_168 0 (by decide) ?_
  refine b_istore (pc := 169) (lv' := [(1, .int (nI 0)), (0, .ref q)]) o dX10_init_169 (by decide) rfl ?_
  show cbG Γ 2 (w_X10 (fK Γ) (fun k => [q, r1, r2, r3, r4, r5, r6, r7, r8, r9, r10, r11, r12, r13, r14, r15, r16, r17, r18, r19].getD k 0) (fl 274 (upd (fun _ => 0) 284 1) 0)) _ _ _ [(1, .int (nI 0)), (0, .ref ((fun k => [q, r1, r2, r3, r4, r5, r6, r7, r8, r9, r10, r11, r12, r13, r14, r15, r16, r17, r18, r19].getD k 0) 0))] _
  refine lpb_X10_170 o (fun k => [q, r1, r2, r3, r4, r5, r6, r7, r8, r9, r10, r11, r12, r13, r14, r15, r16, r17, r18, r19].getD k 0) ?_ 10 0 rfl
  refine b_iconst (pc := 193) o dX10_init_193 (nI 0) (by decide) ?_
  refine b_istore (pc := 194) (lv' := [(1, .int (nI 0)), (0, .ref ((fun k => [q, r1, r2, r3, r4, r5, r6, r7, r8, r9, r10, r11, r12, r13, r14, r15, r16, r17, r18, r19].getD k 0) 0))]) o dX10_init_194 (by decide) rfl ?_
  show cbG Γ 2 (w_X10 (fK Γ) (fun k => [q, r1, r2, r3, r4, r5, r6, r7, r8, r9, r10, r11, r12, r13, r14, r15, r16, r17, r18, r19].getD k 0) (fl 331 (fl 274 (upd (fun _ => 0) 284 1) 10) 0)) _ _ _ [(1, .int (nI 0)), (0, .ref ((fun k => [q, r1, r2, r3, r4, r5, r6, r7, r8, r9, r10, r11, r12, r13, r14, r15, r16, r17, r18, r19].getD k 0) 0))] _
  refine lpb_X10_195 o (fun k => [q, r1, r2, r3, r4, r5, r6, r7, r8, r9, r10, r11, r12, r13, r14, r15, r16, r17, r18, r19].getD k 0) ?_ 6 0 rfl
  exact b_vret (pc := 218) o ρ ⟨(fun k => [q, r1, r2, r3, r4, r5, r6, r7, r8, r9, r10, r11, r12, r13, r14, r15, r16, r17, r18, r19].getD k 0), rfl, rfl⟩ (Nat.le_of_ble_eq_true rfl) (Nat.le_of_ble_eq_true rfl) dX10_init_218

