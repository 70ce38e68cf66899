/-! ===== the best way, hour by hour ===== -/
def lowF (f : Nat → Bool) : Nat → Nat
  | 0 => 8
  | n + 1 => if f (7 - n) = true then 7 - n else lowF f n
theorem lowF_s (f : Nat → Bool) (n : Nat) : lowF f (n + 1) = if f (7 - n) = true then 7 - n else lowF f n := rfl
theorem low_ex (f : Nat → Bool) : ∀ n, n ≤ 8 → (∃ r, 8 - n ≤ r ∧ r < 8 ∧ f r = true) → lowF f n < 8 ∧ f (lowF f n) = true ∧ ∀ j, 8 - n ≤ j → j < lowF f n → ¬ f j = true
  | 0, _, ⟨r, h1, h2, _⟩ => by omega
  | n + 1, hn, ⟨r, h1, h2, h3⟩ => by
    rw [lowF_s]
    by_cases w : f (7 - n) = true
    · rw [if_pos w]
      exact ⟨by omega, w, fun j a b => by omega⟩
    · rw [if_neg w]
      have rn : 8 - n ≤ r := by
        rcases Nat.lt_or_ge r (8 - n) with z | z
        · rw [show r = 7 - n by omega] at h3; exact absurd h3 w
        · exact z
      obtain ⟨a, b, c⟩ := low_ex f n (by omega) ⟨r, rn, h2, h3⟩
      refine ⟨a, b, fun j hj hj2 => ?_⟩
      by_cases z : j = 7 - n
      · rw [z]; exact w
      · exact c j (by omega) hj2
theorem low_eq {f : Nat → Bool} {r : Nat} (hr : r < 8) (h : f r = true) (hn : ∀ j, j < r → ¬ f j = true) : lowF f 8 = r := by
  obtain ⟨a, b, c⟩ := low_ex f 8 (by omega) ⟨r, by omega, hr, h⟩
  rcases Nat.lt_trichotomy (lowF f 8) r with w | w | w
  · exact absurd b (hn _ w)
  · exact w
  · exact absurd h (c r (by omega) w)
theorem low_c {f g : Nat → Bool} (h : ∀ j, j < 8 → f j = g j) : ∀ n, lowF f n = lowF g n
  | 0 => rfl
  | n + 1 => by rw [lowF_s, lowF_s, h (7 - n) (by omega), low_c h n]
/-- the moves of the best way, 1000 where there is none -/
def bsF (A : Au) : Nat := mnF (fun q => if bt (A.lw 0) q = true then cgF A 23 (A.nx A.c0 0 q) q else 1000) 8
theorem few_bs (s : Nat → Int32) (p : Int32) (d : Nat) (X : Int32) : fewF s p d X = bsF (auM s p d X) := rfl
def b0F (A : Au) (q : Nat) : Bool := decide (bt (A.lw 0) q = true ∧ cgF A 23 (A.nx A.c0 0 q) q = bsF A)
def bnF (A : Au) (m z c r : Nat) : Bool := decide (okA A (m + 1) z r ∧ cgF A (22 - m) (A.nx c (m + 1) r) r + (if r = z then 0 else 1) = cgF A (23 - m) c z)
def wyF (A : Au) : Nat → Nat × Nat
  | 0 => (lowF (b0F A) 8, A.nx A.c0 0 (lowF (b0F A) 8))
  | m + 1 => (lowF (bnF A m (wyF A m).1 (wyF A m).2) 8, A.nx (wyF A m).2 (m + 1) (lowF (bnF A m (wyF A m).1 (wyF A m).2) 8))
theorem wp_0 (A : Au) : (wyF A 0).1 = lowF (b0F A) 8 := rfl
theorem wp_s (A : Au) (m : Nat) : (wyF A (m + 1)).1 = lowF (bnF A m (wyF A m).1 (wyF A m).2) 8 := rfl
theorem wc_0 (A : Au) : (wyF A 0).2 = A.nx A.c0 0 (wyF A 0).1 := rfl
theorem wc_s (A : Au) (m : Nat) : (wyF A (m + 1)).2 = A.nx (wyF A m).2 (m + 1) (wyF A (m + 1)).1 := rfl
theorem bs_ex {A : Au} (h : bsF A < 1000) : ∃ r, r < 8 ∧ bt (A.lw 0) r = true ∧ cgF A 23 (A.nx A.c0 0 r) r = bsF A := by
  obtain ⟨r, hr, e⟩ := mnF_ex _ _ h
  by_cases z : bt (A.lw 0) r = true
  · rw [if_pos z] at e
    exact ⟨r, hr, z, e⟩
  · rw [if_neg z] at e
    unfold bsF at h
    rw [← e] at h
    exact absurd h (Nat.lt_irrefl 1000)
theorem bs_le {A : Au} {r : Nat} (hr : r < 8) (z : bt (A.lw 0) r = true) : bsF A ≤ cgF A 23 (A.nx A.c0 0 r) r := by
  have := mnF_le (fun q => if bt (A.lw 0) q = true then cgF A 23 (A.nx A.c0 0 q) q else 1000) 8 hr
  rw [if_pos z] at this
  exact this
theorem bn_ex {A : Au} {m z c : Nat} (hm : m < 23) (h : cgF A (23 - m) c z < 1000) : ∃ r, r < 8 ∧ bnF A m z c r = true := by
  have e1 : 23 - m = (22 - m) + 1 := by omega
  have e2 : 23 - (22 - m) = m + 1 := by omega
  have h2 := h
  rw [e1, cgF_s, e2] at h2
  obtain ⟨r, hr, e⟩ := mnF_ex _ _ h2
  refine ⟨r, hr, ?_⟩
  unfold bnF
  rw [decide_eq_true_eq, e1, cgF_s, e2, ← e]
  rw [← e] at h2
  by_cases w : okA A (m + 1) z r
  · rw [if_pos w]
    exact ⟨w, rfl⟩
  · rw [if_neg w] at h2
    exact absurd h2 (Nat.lt_irrefl 1000)
theorem wy_ok {A : Au} (h : bsF A < 1000) : ∀ m, m ≤ 23 → (wyF A m).1 < 8 ∧ RCH A m (wyF A m).2 (wyF A m).1 ∧ cgF A (23 - m) (wyF A m).2 (wyF A m).1 < 1000
  | 0, _ => by
    obtain ⟨r, hr, z, e⟩ := bs_ex h
    obtain ⟨a, b, _⟩ := low_ex (b0F A) 8 (by omega) ⟨r, by omega, hr, by unfold b0F; exact decide_eq_true ⟨z, e⟩⟩
    unfold b0F at b
    rw [decide_eq_true_eq] at b
    refine ⟨a, ⟨b.1, rfl⟩, ?_⟩
    show cgF A 23 (A.nx A.c0 0 (lowF (b0F A) 8)) (lowF (b0F A) 8) < 1000
    have := b.2
    unfold b0F
    rw [this]
    exact h
  | m + 1, hm => by
    obtain ⟨a, b, c⟩ := wy_ok h m (by omega)
    obtain ⟨r, hr, e⟩ := bn_ex (by omega) c
    obtain ⟨a2, b2, _⟩ := low_ex (bnF A m (wyF A m).1 (wyF A m).2) 8 (by omega) ⟨r, by omega, hr, e⟩
    rw [← wp_s] at a2 b2
    unfold bnF at b2
    rw [decide_eq_true_eq] at b2
    refine ⟨a2, ⟨(wyF A m).2, (wyF A m).1, a, b, b2.1, rfl⟩, ?_⟩
    rw [wc_s, show 23 - (m + 1) = 22 - m by omega]
    have := b2.2
    omega
theorem wy_sim {A B : Au} {R : Nat → Nat → Prop} (S : Sim A B R) (h : bsF A < 1000) : bsF A = bsF B ∧ ∀ m, m ≤ 23 → (wyF A m).1 = (wyF B m).1 ∧ R (wyF A m).2 (wyF B m).2 := by
  have e0 : bsF A = bsF B := by
    unfold bsF
    refine mnF_c 8 (fun r hr => ?_)
    rw [S.el 0 (by omega), S.cg 23 (by omega) _ _ r (S.rn _ _ 0 r (by omega) hr S.r0)]
  refine ⟨e0, fun m => ?_⟩
  induction m with
  | zero =>
    intro _
    have z : (wyF A 0).1 = (wyF B 0).1 := by
      rw [wp_0, wp_0]
      refine low_c (fun j hj => ?_) 8
      unfold b0F
      rw [S.el 0 (by omega), S.cg 23 (by omega) _ _ j (S.rn _ _ 0 j (by omega) hj S.r0), e0]
    refine ⟨z, ?_⟩
    rw [wc_0, wc_0, ← z]
    exact S.rn _ _ 0 _ (by omega) (wy_ok h 0 (by omega)).1 S.r0
  | succ m ih =>
    intro hm
    obtain ⟨a, b⟩ := ih (by omega)
    have z : (wyF A (m + 1)).1 = (wyF B (m + 1)).1 := by
      rw [wp_s, wp_s]
      refine low_c (fun j hj => ?_) 8
      unfold bnF okA
      rw [S.el (m + 1) (by omega), S.es, ← a, S.cg (22 - m) (by omega) _ _ j (S.rn _ _ (m + 1) j (by omega) hj b), S.cg (23 - m) (by omega) _ _ _ b]
    refine ⟨z, ?_⟩
    rw [wc_s, wc_s, ← z]
    exact S.rn _ _ (m + 1) _ (by omega) (wy_ok h (m + 1) hm).1 b
/-- what the class asks of its bytes is what is asked of the moves -/
theorem best_iff {A : Au} {H c z r : Nat} (hH : H < 23) (hz : z < 8) (R : RCH A H c z) (h : cgF A (23 - H) c z < 1000) : (ad A.s z r ∧ cbF A (H + 1) (A.nx c (H + 1) r) r + (if r = z then 0 else 1) = cgF A (23 - H) c z) ↔ bnF A H z c r = true := by
  have l := cg_le A _ _ _ h
  unfold bnF
  rw [decide_eq_true_eq]
  constructor
  · rintro ⟨a, b⟩
    have k : cbF A (H + 1) (A.nx c (H + 1) r) r < 255 := by omega
    have k2 := cb_lt.mp k
    rw [cb_y k2, show 23 - (H + 1) = 22 - H by omega] at b
    exact ⟨⟨rch_lw k2.1, a⟩, b⟩
  · rintro ⟨a, b⟩
    refine ⟨a.2, ?_⟩
    have rr : RCH A (H + 1) (A.nx c (H + 1) r) r := ⟨c, z, hz, R, a, rfl⟩
    have e22 : 23 - (H + 1) = 22 - H := by omega
    have lt : cgF A (23 - (H + 1)) (A.nx c (H + 1) r) r < 1000 := by rw [e22]; omega
    rw [cb_y ⟨rr, lt⟩, e22]
    exact b
set_option maxRecDepth 100000 in
set_option maxHeartbeats 400000 in
theorem lp_bn {Γ : Fr} (o : ca_O Γ cX1_bestNext 7 RX1 2 46) {Pr : Option Value → Mem → Prop} (ρ : ca_R Γ (some .int) Pr) {h : Mem} {s : Nat → Int32} (e40 : ∀ q, q < 8 → h.1 40 q = stpF s q) (a : Nat → Nat) (ha : ∀ q, q < 8 → a q ≤ 255) (e46 : ∀ q, q < 8 → h.1 46 q = nI (a q)) (z : Nat) (hz : z < 8) (x1 x2 : Int32) (L : Nat) (hL : L ≤ 255) (f : Nat → Bool) (hf : ∀ r, r < 8 → ((ad s z r ∧ a r + (if r = z then 0 else 1) = L) ↔ f r = true)) (w : Nat) (hw : w < 8) (fw : f w = true) (hp : Pr (some (.int (nI (lowF f 8)))) h) : ∀ i, i ≤ 8 → ∀ (xi : Int32) (v6 : Option Value), xi = nI i → (∀ j, j < i → ¬ f j = true) → ca_G Γ 7 h 16 [some (.ref 38), some (.int x1), some (.int x2), some (.int (nI z)), some (.int (nI L)), some (.int xi), v6] [] := by
  refine downI 8 (fun i hi ih => ?_)
  rintro xi v6 rfl e1
  refine g_iload (pc := 16) o dX1_bestNext_16 rfl ?_
  refine g_bipush (pc := 18) o dX1_bestNext_18 8 rfl ?_
  refine g_ic_ge (pc := 20) o 74 dX1_bestNext_20 (by decide) (fun c20 => ?_) (fun c20 => ?_)
  · skip
    have q : i = 8 := ge8 (n := 8) (by decide) (by omega) c20
    subst q
    exact absurd fw (e1 w hw)
  · skip
    have iq : i < 8 := lt8 (n := 8) (by decide) (by omega) c20
    have ai := ha i iq
    have st34 : ∀ (x6 : Int32) (v6 : Option Value), x6 = nI (if i = z then 0 else 1) → ca_G Γ 7 h 34 [some (.ref 38), some (.int x1), some (.int x2), some (.int (nI z)), some (.int (nI L)), some (.int (nI i)), v6] [.int x6] := by
      rintro x6 v6 rfl
      refine g_istore (pc := 34) o dX1_bestNext_34 (by decide) ?_
      show ca_G Γ 7 _ _ [_, _, _, _, _, _, _] _
      refine g_aload_n (pc := 36) o dX1_bestNext_36 rfl ?_
      refine g_getR (pc := 37) o 1 rfl rfl rfl inX1 (by decide) lf_X1_15 dX1_bestNext_37 ?_
      refine g_iload_n (pc := 40) o dX1_bestNext_40 rfl ?_
      refine n_ialdE (pc := 41) o z (rfl) rfl ((by omega)) (by decide) (e40 z hz) dX1_bestNext_41 ?_
      refine g_iload (pc := 42) o dX1_bestNext_42 rfl ?_
      refine g_callNi (pc := 44) o (c_has (stpF s z) i (by omega) h) mt_X9_has ms_X9_has ln_X1_66 rfl (by decide) rfl (Nat.le_of_ble_eq_true rfl) dX1_bestNext_44 ?_
      refine g_if_eq (pc := 47) o 68 dX1_bestNext_47 (by decide) (fun c47 => ?_) (fun c47 => ?_)
      · skip
        have u := bI_0.mp c47
        refine g_iinc (pc := 68) o dX1_bestNext_68 rfl 1 rfl (by decide) ?_
        show ca_G Γ 7 _ _ [_, _, _, _, _, _, _] _
        refine g_goto (pc := 71) o 16 dX1_bestNext_71 (by decide) ?_
        refine ih iq _ _ (nI_1 i) (fun j hj => ?_)
        by_cases v : j = i
        · subst v
          exact fun y => u ((stp_b hz (by omega)).mpr ((hf j iq).mpr y).1)
        · exact e1 j (by omega)
      · skip
        have u := (stp_b hz (by omega)).mp (bI_n0.mp c47)
        refine g_aload_n (pc := 50) o dX1_bestNext_50 rfl ?_
        refine g_getR (pc := 51) o 7 rfl rfl rfl inX1 (by decide) lf_X1_34 dX1_bestNext_51 ?_
        refine g_iload (pc := 54) o dX1_bestNext_54 rfl ?_
        refine n_ialdE (pc := 56) o i (rfl) rfl ((by omega)) (by decide) (e46 i iq) dX1_bestNext_56 ?_
        refine g_iload (pc := 57) o dX1_bestNext_57 rfl ?_
        refine g_iadd (pc := 59) o dX1_bestNext_59 ?_
        rw [nI_add]
        have bd : a i + (if i = z then 0 else 1) < 2 ^ 31 := by split <;> omega
        refine g_iload (pc := 60) o dX1_bestNext_60 rfl ?_
        refine g_ic_ne (pc := 62) o 68 dX1_bestNext_62 (by decide) (fun c62 => ?_) (fun c62 => ?_)
        · skip
          have n1 := mt (nI_eq bd (by omega)).mpr c62
          refine g_iinc (pc := 68) o dX1_bestNext_68 rfl 1 rfl (by decide) ?_
          show ca_G Γ 7 _ _ [_, _, _, _, _, _, _] _
          refine g_goto (pc := 71) o 16 dX1_bestNext_71 (by decide) ?_
          refine ih iq _ _ (nI_1 i) (fun j hj => ?_)
          by_cases v : j = i
          · subst v
            exact fun y => n1 ((hf j iq).mpr y).2
          · exact e1 j (by omega)
        · skip
          have n1 := (nI_eq bd (by omega)).mp c62
          refine g_iload (pc := 65) o dX1_bestNext_65 rfl ?_
          exact g_iret o ρ dX1_bestNext_67 (by rw [← low_eq iq ((hf i iq).mp ⟨u, n1⟩) e1]; exact hp)
    refine g_iload (pc := 23) o dX1_bestNext_23 rfl ?_
    refine g_iload_n (pc := 25) o dX1_bestNext_25 rfl ?_
    refine g_ic_ne (pc := 26) o 33 dX1_bestNext_26 (by decide) (fun c26 => ?_) (fun c26 => ?_)
    · skip
      have n1 := mt (nI_eq (a := i) (b := z) (by omega) (by omega)).mpr c26
      refine g_iconst (pc := 33) o dX1_bestNext_33 1 rfl ?_
      exact st34 _ _ (by rw [if_neg n1]; rfl)
    · skip
      have n1 := (nI_eq (a := i) (b := z) (by omega) (by omega)).mp c26
      refine g_iconst (pc := 29) o dX1_bestNext_29 0 rfl ?_
      refine g_goto (pc := 30) o 34 dX1_bestNext_30 (by decide) ?_
      exact st34 _ _ (by rw [if_pos n1]; rfl)
set_option maxRecDepth 100000 in
set_option maxHeartbeats 400000 in
theorem c_bestNext {h : Mem} {s : Nat → Int32} {p : Int32} {d : Nat} {X : Int32} (h5 : akN s X 12 ≤ 5) (P : PR h s p d X) (N : Nat) (eN : debF s X 12 = N) (hN : N < mlF (rxC s X) 12) (H D : Nat) (hH : H < 23) (hD : D ≤ N) (E : TG h N (auC s p d X) (H + 1)) (z : Nat) (hz : z < 8) (R : RCH (auC s p d X) H D z) (hc : cgF (auC s p d X) (23 - H) D z < 1000) : Ct yX1_bestNext cX1_bestNext 7 (some .int) 2 46 [.ref 38, .int (nI H), .int (nI D), .int (nI z)] h (Qi (fun r h2 => r = nI (lowF (bnF (auC s p d X) H z D) 8) ∧ (∀ c, c ≠ 46 → h2.1 c = h.1 c) ∧ h2.2 = h.2)) := by
  refine Ct.of (by decide) (Nat.le_of_ble_eq_true rfl) (fun Γ o ρ => ?_)
  show ca_G Γ 7 _ _ [_, _, _, _, _, _, _] _
  have lc := cg_le _ _ _ _ hc
  refine g_aload_n (pc := 0) o dX1_bestNext_0 rfl ?_
  refine g_iload_n (pc := 1) o dX1_bestNext_1 rfl ?_
  refine g_iload_n (pc := 2) o dX1_bestNext_2 rfl ?_
  refine g_callVQv (pc := 3) o (c_look (h := h) h5 P N eN hN H D hH hD E) mt_X1_lookAhead mv_X1_lookAhead lk_X1_111 rfl rfl rfl (by decide) rfl (Nat.le_of_ble_eq_true rfl) dX1_bestNext_3 ?_
  rintro h2 w
  obtain ⟨w1, w2, w3⟩ := w
  have e40 : ∀ q, q < 8 → h2.1 40 q = stpF s q := fun q hq => by rw [w2 40 (by decide)]; exact P.2.2.2 q hq
  have cl := c_least (h := h2) (s := s) e40 (fun q => cbF (auC s p d X) (H + 1) ((auC s p d X).nx D (H + 1) q) q) (fun q _ => cb_le _ _ _ _) w1 z hz
  rw [least_eq (A := auC s p d X) (st := stpF s z) hH hz (fun q hq => stp_b hz (by omega)) R, cb_y ⟨R, hc⟩] at cl
  obtain ⟨r, hr, e⟩ := bn_ex hH hc
  refine g_aload_n (pc := 6) o dX1_bestNext_6 rfl ?_
  refine g_iload_n (pc := 7) o dX1_bestNext_7 rfl ?_
  refine g_callVi (pc := 8) o (cl) mt_X1_leastCost mv_X1_leastCost lk_X1_114 rfl rfl rfl (by decide) rfl (Nat.le_of_ble_eq_true rfl) dX1_bestNext_8 ?_
  refine g_istore (pc := 11) o dX1_bestNext_11 (by decide) ?_
  show ca_G Γ 7 _ _ [_, _, _, _, _, _, _] _
  refine g_iconst (pc := 13) o dX1_bestNext_13 0 rfl ?_
  refine g_istore (pc := 14) o dX1_bestNext_14 (by decide) ?_
  show ca_G Γ 7 _ _ [_, _, _, _, _, _, _] _
  exact lp_bn o ρ e40 (fun q => cbF (auC s p d X) (H + 1) ((auC s p d X).nx D (H + 1) q) q) (fun q _ => cb_le _ _ _ _) w1 z hz _ _ (cgF (auC s p d X) (23 - H) D z) (by omega) (bnF (auC s p d X) H z D) (fun r hr => best_iff (A := auC s p d X) hH hz R hc) r hr e ⟨_, rfl, rfl, w2, w3⟩ 0 (by omega) _ _ rfl (fun j hj => by omega)
set_option maxRecDepth 100000 in
set_option maxHeartbeats 400000 in
theorem lp_tb2 {Γ : Fr} (o : ca_O Γ cX1_tellBest 6 RX1 3 72) {Pr : Option Value → Mem → Prop} (ρ : ca_R Γ (some .int) Pr) {h0 : Mem} {s : Nat → Int32} {p : Int32} {d : Nat} {X : Int32} (h5 : akN s X 12 ≤ 5) (P : PR h0 s p d X) (N : Nat) (eN : debF s X 12 = N) (hN : N < mlF (rxC s X) 12) (E : ∀ m, m < 24 → TG h0 N (auC s p d X) m) (hb : bsF (auC s p d X) < 1000) (x3 : Int32) (hp : ∀ h : Mem, (∀ j, j < 24 → h.1 50 j = nI (wyF (auC s p d X) j).1) → (∀ c, c ≠ 46 → c ≠ 50 → h.1 c = h0.1 c) → Pr (some (.int x3)) h) : ∀ H, H ≤ 23 → ∀ (xz xc xH : Int32) (h : Mem), xz = nI (wyF (auC s p d X) H).1 → xc = nI (wyF (auC s p d X) H).2 → xH = nI H → (∀ j, j < H + 1 → h.1 50 j = nI (wyF (auC s p d X) j).1) → (∀ c, c ≠ 46 → c ≠ 50 → h.1 c = h0.1 c) → h.2 = h0.2 → ca_G Γ 6 h 77 [some (.ref 38), some (.ref 50), some (.int xz), some (.int x3), some (.int xc), some (.int xH)] [] := by
  have l := ml_1024 h5
  refine downI 23 (fun H hH ih => ?_)
  rintro xz xc xH h rfl rfl rfl e1 e2 e3
  have P2 : PR h s p d X := P.of (fun c hc => e2 c (by omega) (by omega))
  refine g_iload (pc := 77) o dX1_tellBest_77 rfl ?_
  refine g_bipush (pc := 79) o dX1_tellBest_79 23 rfl ?_
  refine g_ic_ge (pc := 81) o 120 dX1_tellBest_81 (by decide) (fun c81 => ?_) (fun c81 => ?_)
  · skip
    have q : H = 23 := ge8 (n := 23) (by decide) (by omega) c81
    subst q
    refine g_iload_n (pc := 120) o dX1_tellBest_120 rfl ?_
    exact g_iret o ρ dX1_tellBest_121 (hp h (fun j hj => e1 j (by omega)) e2)
  · skip
    have q : H < 23 := lt8 (n := 23) (by decide) (by omega) c81
    obtain ⟨a, b, c⟩ := wy_ok hb H (by omega)
    obtain ⟨a2, b2, c2⟩ := wy_ok hb (H + 1) (by omega)
    have cN := rch_le eN hN _ _ _ b
    have E2 : TG h N (auC s p d X) (H + 1) := fun c q hc hq => by rw [e3]; exact E (H + 1) (by omega) c q hc hq
    have sj : nI H + 1 = nI (H + 1) := nI_1 H
    refine g_aload_n (pc := 84) o dX1_tellBest_84 rfl ?_
    refine g_iload (pc := 85) o dX1_tellBest_85 rfl ?_
    refine g_iload (pc := 87) o dX1_tellBest_87 rfl ?_
    refine g_iload_n (pc := 89) o dX1_tellBest_89 rfl ?_
    refine g_callVQi (pc := 90) o (c_bestNext (h := h) h5 P2 N eN hN H (wyF (auC s p d X) H).2 q cN E2 (wyF (auC s p d X) H).1 a b c) mt_X1_bestNext mv_X1_bestNext lk_X1_122 rfl rfl rfl (by decide) rfl (Nat.le_of_ble_eq_true rfl) dX1_tellBest_90 ?_
    rintro r h2 w
    obtain ⟨rfl, w2, w3⟩ := w
    rw [← wp_s]
    have P3 : PR h2 s p d X := P2.of (fun c hc => w2 c (by omega))
    have cp := c_pay (h := h2) h5 P3 (wyF (auC s p d X) H).2 (H + 1) (wyF (auC s p d X) (H + 1)).1 (by omega) (by omega) a2
    rw [← wc_s] at cp
    refine g_istore_n (pc := 93) o dX1_tellBest_93 (by decide) ?_
    show ca_G Γ 6 _ _ [_, _, _, _, _, _] _
    refine g_aload_n (pc := 94) o dX1_tellBest_94 rfl ?_
    refine g_iload (pc := 95) o dX1_tellBest_95 rfl ?_
    refine g_iload (pc := 97) o dX1_tellBest_97 rfl ?_
    refine g_iconst (pc := 99) o dX1_tellBest_99 1 rfl ?_
    refine g_iadd (pc := 100) o dX1_tellBest_100 ?_
    rw [sj]
    refine g_iload_n (pc := 101) o dX1_tellBest_101 rfl ?_
    refine g_callVi (pc := 102) o (cp) mt_X1_pay mv_X1_pay lk_X1_98 rfl rfl rfl (by decide) rfl (Nat.le_of_ble_eq_true rfl) dX1_tellBest_102 ?_
    refine g_istore (pc := 105) o dX1_tellBest_105 (by decide) ?_
    show ca_G Γ 6 _ _ [_, _, _, _, _, _] _
    refine g_aload_n (pc := 107) o dX1_tellBest_107 rfl ?_
    refine g_iload (pc := 108) o dX1_tellBest_108 rfl ?_
    refine g_iconst (pc := 110) o dX1_tellBest_110 1 rfl ?_
    refine g_iadd (pc := 111) o dX1_tellBest_111 ?_
    rw [sj]
    refine g_iload_n (pc := 112) o dX1_tellBest_112 rfl ?_
    refine n_iast (pc := 113) o (H + 1) (rfl) rfl ((by omega)) (by decide) dX1_tellBest_113 ?_
    refine g_iinc (pc := 114) o dX1_tellBest_114 rfl 1 rfl (by decide) ?_
    show ca_G Γ 6 _ _ [_, _, _, _, _, _] _
    refine g_goto (pc := 117) o 77 dX1_tellBest_117 (by decide) ?_
    refine ih q _ _ _ _ rfl rfl (nI_1 H) (fun j hj => ?_) (fun c hc1 hc2 => (mw_ne _ _ _ hc2).trans ((w2 c hc1).trans (e2 c hc1 hc2))) (w3.trans e3)
    rw [mw_same]
    unfold upd
    by_cases u : j = H + 1
    · rw [if_pos u, u]
    · rw [if_neg u, w2 50 (by decide)]
      exact e1 j (by omega)
set_option maxRecDepth 100000 in
set_option maxHeartbeats 400000 in
theorem lp_tb1 {Γ : Fr} (o : ca_O Γ cX1_tellBest 6 RX1 3 72) {h : Mem} {s : Nat → Int32} {p : Int32} {d : Nat} {X : Int32} (h5 : akN s X 12 ≤ 5) (P : PR h s p d X) (N : Nat) (eN : debF s X 12 = N) (hN : N < mlF (rxC s X) 12) (E : TG h N (auC s p d X) 0) (kk : ∀ (z mv : Nat) (v4 v5 : Option Value), mv ≤ 255 → (∀ j, j < 8 → mv ≤ cbF (auC s p d X) 0 ((auC s p d X).nx N 0 j) j) → (mv = 255 ∨ (z < 8 ∧ cbF (auC s p d X) 0 ((auC s p d X).nx N 0 z) z = mv ∧ ∀ j, j < z → mv < cbF (auC s p d X) 0 ((auC s p d X).nx N 0 j) j)) → ca_G Γ 6 h 58 [some (.ref 38), some (.ref 50), some (.int (nI z)), some (.int (nI mv)), v4, v5] []) : ∀ i, i ≤ 8 → ∀ (xi xz xm : Int32) (z mv : Nat) (v5 : Option Value), xi = nI i → xz = nI z → xm = nI mv → mv ≤ 255 → (∀ j, j < i → mv ≤ cbF (auC s p d X) 0 ((auC s p d X).nx N 0 j) j) → (mv = 255 ∨ (z < i ∧ cbF (auC s p d X) 0 ((auC s p d X).nx N 0 z) z = mv ∧ ∀ j, j < z → mv < cbF (auC s p d X) 0 ((auC s p d X).nx N 0 j) j)) → ca_G Γ 6 h 9 [some (.ref 38), some (.ref 50), some (.int xz), some (.int xm), some (.int xi), v5] [] := by
  have l := ml_1024 h5
  have f8 : h.1 38 8 = nI N := by rw [← eN]; exact P.2.2.1
  refine downI 8 (fun i hi ih => ?_)
  rintro xi xz xm z mv v5 rfl rfl rfl e0 e1 e2
  refine g_iload (pc := 9) o dX1_tellBest_9 rfl ?_
  refine g_bipush (pc := 11) o dX1_tellBest_11 8 rfl ?_
  refine g_ic_ge (pc := 13) o 58 dX1_tellBest_13 (by decide) (fun c13 => ?_) (fun c13 => ?_)
  · skip
    have q : i = 8 := ge8 (n := 8) (by decide) (by omega) c13
    subst q
    exact kk z mv _ _ e0 e1 e2
  · skip
    have iq : i < 8 := lt8 (n := 8) (by decide) (by omega) c13
    have nl : (auC s p d X).nx N 0 i ≤ N := nx_le hN
    have rl := row_lt (m := 0) (by omega : N < 1024) (by omega) nl
    have cc := c_cost (h := h) (0 * (N + 1) + (auC s p d X).nx N 0 i) i rl
    rw [E _ i nl iq] at cc
    have cl := cb_le (auC s p d X) 0 ((auC s p d X).nx N 0 i) i
    refine g_aload_n (pc := 16) o dX1_tellBest_16 rfl ?_
    refine g_aload_n (pc := 17) o dX1_tellBest_17 rfl ?_
    refine g_iconst (pc := 18) o dX1_tellBest_18 0 rfl ?_
    refine g_aload_n (pc := 19) o dX1_tellBest_19 rfl ?_
    refine g_aload_n (pc := 20) o dX1_tellBest_20 rfl ?_
    refine g_getIE (pc := 21) o 8 rfl rfl rfl inX1 (by decide) lf_X1_59 (f8) dX1_tellBest_21 ?_
    refine g_iconst (pc := 24) o dX1_tellBest_24 0 rfl ?_
    refine g_iload (pc := 25) o dX1_tellBest_25 rfl ?_
    refine g_callVi (pc := 27) o (c_pay h5 P N 0 i hN (by omega) iq) mt_X1_pay mv_X1_pay lk_X1_98 rfl rfl rfl (by decide) rfl (Nat.le_of_ble_eq_true rfl) dX1_tellBest_27 ?_
    refine g_callVi (pc := 30) o (c_row f8 0 ((auC s p d X).nx N 0 i)) mt_X1_row mv_X1_row lk_X1_90 rfl rfl rfl (by decide) rfl (Nat.le_of_ble_eq_true rfl) dX1_tellBest_30 ?_
    refine g_iload (pc := 33) o dX1_tellBest_33 rfl ?_
    refine g_callVi (pc := 35) o (cc) mt_X1_cost mv_X1_cost lk_X1_117 rfl rfl rfl (by decide) rfl (Nat.le_of_ble_eq_true rfl) dX1_tellBest_35 ?_
    refine g_istore (pc := 38) o dX1_tellBest_38 (by decide) ?_
    show ca_G Γ 6 _ _ [_, _, _, _, _, _] _
    refine g_iload (pc := 40) o dX1_tellBest_40 rfl ?_
    refine g_iload_n (pc := 42) o dX1_tellBest_42 rfl ?_
    refine g_ic_ge (pc := 43) o 52 dX1_tellBest_43 (by decide) (fun c43 => ?_) (fun c43 => ?_)
    · skip
      have w := (nI_leI (by omega) (by omega)).mp c43
      refine g_iinc (pc := 52) o dX1_tellBest_52 rfl 1 rfl (by decide) ?_
      show ca_G Γ 6 _ _ [_, _, _, _, _, _] _
      refine g_goto (pc := 55) o 9 dX1_tellBest_55 (by decide) ?_
      refine ih iq _ _ _ z mv _ (nI_1 i) rfl rfl e0 (fun j hj => ?_) (e2.imp id (fun ⟨y1, y2, y3⟩ => ⟨by omega, y2, y3⟩))
      by_cases u : j = i
      · subst u; exact w
      · exact e1 j (by omega)
    · skip
      have w : cbF (auC s p d X) 0 ((auC s p d X).nx N 0 i) i < mv := by have := mt (nI_leI (a := mv) (by omega) (by omega)).mpr c43; omega
      refine g_iload (pc := 46) o dX1_tellBest_46 rfl ?_
      refine g_istore_n (pc := 48) o dX1_tellBest_48 (by decide) ?_
      show ca_G Γ 6 _ _ [_, _, _, _, _, _] _
      refine g_iload (pc := 49) o dX1_tellBest_49 rfl ?_
      refine g_istore_n (pc := 51) o dX1_tellBest_51 (by decide) ?_
      show ca_G Γ 6 _ _ [_, _, _, _, _, _] _
      refine g_iinc (pc := 52) o dX1_tellBest_52 rfl 1 rfl (by decide) ?_
      show ca_G Γ 6 _ _ [_, _, _, _, _, _] _
      refine g_goto (pc := 55) o 9 dX1_tellBest_55 (by decide) ?_
      refine ih iq _ _ _ i (cbF (auC s p d X) 0 ((auC s p d X).nx N 0 i) i) _ (nI_1 i) rfl rfl cl (fun j hj => ?_) (Or.inr ⟨by omega, rfl, fun j hj => ?_⟩)
      · by_cases u : j = i
        · subst u; exact Nat.le_refl _
        · have := e1 j (by omega); omega
      · have := e1 j hj; omega
set_option maxRecDepth 100000 in
set_option maxHeartbeats 400000 in
theorem c_tellBest {h : Mem} {s : Nat → Int32} {p : Int32} {d : Nat} {X : Int32} (h5 : akN s X 12 ≤ 5) (P : PR h s p d X) (N : Nat) (eN : debF s X 12 = N) (hN : N < mlF (rxC s X) 12) (E : ∀ m, m < 24 → TG h N (auC s p d X) m) (hb : bsF (auC s p d X) < 1000) : Ct yX1_tellBest cX1_tellBest 6 (some .int) 3 72 [.ref 38, .ref 50] h (Qi (fun r h2 => r = nI (bsF (auC s p d X)) ∧ (∀ j, j < 24 → h2.1 50 j = nI (wyF (auC s p d X) j).1) ∧ ∀ c, c ≠ 46 → c ≠ 50 → h2.1 c = h.1 c)) := by
  refine Ct.of (by decide) (Nat.le_of_ble_eq_true rfl) (fun Γ o ρ => ?_)
  show ca_G Γ 6 _ _ [_, _, _, _, _, _] _
  have l := ml_1024 h5
  have f8 : h.1 38 8 = nI N := by rw [← eN]; exact P.2.2.1
  have c0 : (auC s p d X).c0 = N := eN
  have cbq : ∀ j, bt ((auC s p d X).lw 0) j = true → cgF (auC s p d X) 23 ((auC s p d X).nx N 0 j) j < 1000 → cbF (auC s p d X) 0 ((auC s p d X).nx N 0 j) j = cgF (auC s p d X) 23 ((auC s p d X).nx N 0 j) j := fun j y1 y2 => cb_y ⟨⟨y1, by rw [c0]⟩, y2⟩
  refine g_iconst (pc := 0) o dX1_tellBest_0 0 rfl ?_
  refine g_istore_n (pc := 1) o dX1_tellBest_1 (by decide) ?_
  show ca_G Γ 6 _ _ [_, _, _, _, _, _] _
  refine g_sipush (pc := 2) o dX1_tellBest_2 255 rfl ?_
  refine g_istore_n (pc := 5) o dX1_tellBest_5 (by decide) ?_
  show ca_G Γ 6 _ _ [_, _, _, _, _, _] _
  refine g_iconst (pc := 6) o dX1_tellBest_6 0 rfl ?_
  refine g_istore (pc := 7) o dX1_tellBest_7 (by decide) ?_
  show ca_G Γ 6 _ _ [_, _, _, _, _, _] _
  refine lp_tb1 o h5 P N eN hN (E 0 (by omega)) (fun z mv v4 v5 e0 e1 e2 => ?_) 0 (by omega) _ _ _ 0 255 _ rfl rfl rfl (by omega) (fun j hj => by omega) (Or.inl rfl)
  obtain ⟨r, hr, k1, k2⟩ := bs_ex hb
  rw [c0] at k2
  have lb := cg_le (auC s p d X) 23 _ r (by rw [k2]; exact hb)
  have ar := cbq r k1 (by rw [k2]; exact hb)
  have m1 := e1 r hr
  rw [ar, k2] at m1
  rw [k2] at lb
  rcases e2 with e2 | ⟨z8, e3, e4⟩
  · omega
  have y := cb_lt.mp (show cbF (auC s p d X) 0 ((auC s p d X).nx N 0 z) z < 255 by omega)
  have zl := rch_lw y.1
  have m2 := bs_le z8 zl
  rw [c0, ← cbq z zl y.2, e3] at m2
  obtain rfl : mv = bsF (auC s p d X) := by omega
  have zw : (wyF (auC s p d X) 0).1 = z := by
    rw [wp_0]
    refine low_eq z8 ?_ (fun j hj q => ?_)
    · unfold b0F
      rw [decide_eq_true_eq, c0, ← cbq z zl y.2]
      exact ⟨zl, e3⟩
    · unfold b0F at q
      rw [decide_eq_true_eq, c0] at q
      have := e4 j hj
      rw [cbq j q.1 (by rw [q.2]; exact hb), q.2] at this
      exact absurd this (Nat.lt_irrefl _)
  have cp := c_pay (h := h) h5 P N 0 z hN (by omega) z8
  have ep : (auC s p d X).nx N 0 z = (wyF (auC s p d X) 0).2 := by rw [wc_0, zw, c0]
  rw [ep] at cp
  refine g_aload_n (pc := 58) o dX1_tellBest_58 rfl ?_
  refine g_aload_n (pc := 59) o dX1_tellBest_59 rfl ?_
  refine g_getIE (pc := 60) o 8 rfl rfl rfl inX1 (by decide) lf_X1_59 (f8) dX1_tellBest_60 ?_
  refine g_iconst (pc := 63) o dX1_tellBest_63 0 rfl ?_
  refine g_iload_n (pc := 64) o dX1_tellBest_64 rfl ?_
  refine g_callVi (pc := 65) o (cp) mt_X1_pay mv_X1_pay lk_X1_98 rfl rfl rfl (by decide) rfl (Nat.le_of_ble_eq_true rfl) dX1_tellBest_65 ?_
  refine g_istore (pc := 68) o dX1_tellBest_68 (by decide) ?_
  show ca_G Γ 6 _ _ [_, _, _, _, _, _] _
  refine g_aload_n (pc := 70) o dX1_tellBest_70 rfl ?_
  refine g_iconst (pc := 71) o dX1_tellBest_71 0 rfl ?_
  refine g_iload_n (pc := 72) o dX1_tellBest_72 rfl ?_
  refine n_iast (pc := 73) o 0 (rfl) rfl ((by omega)) (by decide) dX1_tellBest_73 ?_
  refine g_iconst (pc := 74) o dX1_tellBest_74 0 rfl ?_
  refine g_istore (pc := 75) o dX1_tellBest_75 (by decide) ?_
  show ca_G Γ 6 _ _ [_, _, _, _, _, _] _
  rw [← zw]
  refine lp_tb2 o ρ (h0 := h) h5 P N eN hN E hb _ (fun h2 a b => ⟨_, rfl, rfl, a, b⟩) 0 (by omega) _ _ _ _ rfl rfl rfl (fun j hj => ?_) (fun c hc1 hc2 => mw_ne _ _ _ hc2) rfl
  rw [mw_same]
  unfold upd
  rw [if_pos (by omega), show j = 0 by omega]

