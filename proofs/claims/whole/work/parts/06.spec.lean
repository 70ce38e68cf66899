/-! ===== the abstract state and what each call does to it ===== -/
abbrev Sg : Type := Nat → Nat → Int32
-- 0 s, 1 statuses, 2 keptS, 3 way, 4 tape, 5 bitsOf, 6 sizeOf, 7 number, 8 scalars: 0 isKept, 1 isTold, 2 taped
def su (σ : Sg) (k i : Nat) (v : Int32) : Sg := fun j => if j = k then upd (σ k) i v else σ j
def sf (σ : Sg) (k : Nat) (f : Nat → Int32) : Sg := fun j => if j = k then f else σ j
def absM (h : Mem) : Sg := fun k => match k with
  | 0 => h.1 52
  | 1 => h.1 55
  | 2 => h.1 53
  | 3 => h.1 62
  | 4 => h.1 66
  | 5 => h.1 67
  | 6 => h.1 68
  | 7 => h.1 69
  | 8 => fun i => match i with
    | 0 => h.1 51 4
    | 1 => h.1 51 15
    | _ => h.1 51 20
  | _ => fun _ => 0
def fnd (σ : Sg) (k : Nat) : Int32 × Sg := (-1000001 - nI k, su σ 1 k (σ 1 k + 1))
abbrev ca_n (x : Int32) : Nat := x.toNatClampNeg
/-- the class's book, by its rows, holds s -/
def BF (nb so sr to tr sp bo rm bk gv bl hr s : Nat → Int32) : Prop :=
  (∀ i, i < 8 → nb i = s i) ∧ (so 1 = s 8) ∧ (∀ k, k < 60 → sr (4 * k) = s (9 + 3 * k) ∧ sr (4 * k + 1) = s (10 + 3 * k) ∧ sr (4 * k + 2) = s (11 + 3 * k) / 100 ∧ sr (4 * k + 3) = jrem (s (11 + 3 * k)) 100) ∧ (to 1 = s 189) ∧ (∀ j, j < 84 → tr j = s (190 + j)) ∧ (∀ j, j < 10 → sp j = s (274 + j)) ∧ (bo 6 = s 284) ∧ (∀ j, j < 5 → rm j = s (285 + j)) ∧ (∀ j, j < 5 → bk j = s (290 + j)) ∧ (∀ j, j < 30 → gv j = s (295 + j)) ∧ (∀ j, j < 6 → bl j = s (325 + j)) ∧ (∀ j, j < 6 → hr j = s (331 + j))
def BR (h : Mem) (b : Nat) (s : Nat → Int32) : Prop := BF (h.1 (b + 2)) (h.1 (b + 3)) (h.1 (b + 4)) (h.1 (b + 5)) (h.1 (b + 6)) (h.1 (b + 13)) (h.1 b) (h.1 (b + 8)) (h.1 (b + 9)) (h.1 (b + 10)) (h.1 (b + 11)) (h.1 (b + 12)) s
theorem BF.nb {nb so sr to tr sp bo rm bk gv bl hr s : Nat → Int32} {i : Nat} {v : Int32} (H : BF nb so sr to tr sp bo rm bk gv bl hr s) (hi : i < 8) : BF (upd nb i v) so sr to tr sp bo rm bk gv bl hr (upd s (i) v) := by
  obtain ⟨a_nb, a_so, a_sr, a_to, a_tr, a_sp, a_bo, a_rm, a_bk, a_gv, a_bl, a_hr⟩ := H
  exact ⟨(fun j hj => if e : j = i then (by unfold upd; rw [if_pos e, if_pos (by omega)]) else (by unfold upd; rw [if_neg e, if_neg (by omega)]; exact a_nb j hj)), (by rw [pk_un (by omega)]; exact a_so), (fun k hk => by rw [pk_un (by omega), pk_un (by omega), pk_un (by omega)]; exact a_sr k hk), (by rw [pk_un (by omega)]; exact a_to), (fun j hj => by rw [pk_un (by omega)]; exact a_tr j hj), (fun j hj => by rw [pk_un (by omega)]; exact a_sp j hj), (by rw [pk_un (by omega)]; exact a_bo), (fun j hj => by rw [pk_un (by omega)]; exact a_rm j hj), (fun j hj => by rw [pk_un (by omega)]; exact a_bk j hj), (fun j hj => by rw [pk_un (by omega)]; exact a_gv j hj), (fun j hj => by rw [pk_un (by omega)]; exact a_bl j hj), (fun j hj => by rw [pk_un (by omega)]; exact a_hr j hj)⟩
theorem BR_nb {h : Mem} {s : Nat → Int32} {i : Nat} {v : Int32} (H : BR h 1 s) (hi : i < 8) : BR (mw h 3 i v) 1 (upd s (i) v) := BF.nb H hi
theorem BF.so {nb so sr to tr sp bo rm bk gv bl hr s : Nat → Int32} {v : Int32} (H : BF nb so sr to tr sp bo rm bk gv bl hr s) : BF nb (upd so 1 v) sr to tr sp bo rm bk gv bl hr (upd s 8 v) := by
  obtain ⟨a_nb, a_so, a_sr, a_to, a_tr, a_sp, a_bo, a_rm, a_bk, a_gv, a_bl, a_hr⟩ := H
  exact ⟨(fun j hj => by rw [pk_un (by omega)]; exact a_nb j hj), (by unfold upd; rw [if_pos rfl, if_pos rfl]), (fun k hk => by rw [pk_un (by omega), pk_un (by omega), pk_un (by omega)]; exact a_sr k hk), (by rw [pk_un (by omega)]; exact a_to), (fun j hj => by rw [pk_un (by omega)]; exact a_tr j hj), (fun j hj => by rw [pk_un (by omega)]; exact a_sp j hj), (by rw [pk_un (by omega)]; exact a_bo), (fun j hj => by rw [pk_un (by omega)]; exact a_rm j hj), (fun j hj => by rw [pk_un (by omega)]; exact a_bk j hj), (fun j hj => by rw [pk_un (by omega)]; exact a_gv j hj), (fun j hj => by rw [pk_un (by omega)]; exact a_bl j hj), (fun j hj => by rw [pk_un (by omega)]; exact a_hr j hj)⟩
theorem BR_so {h : Mem} {s : Nat → Int32} {v : Int32} (H : BR h 1 s) : BR (mw h 4 1 v) 1 (upd s 8 v) := BF.so H
theorem BF.to {nb so sr to tr sp bo rm bk gv bl hr s : Nat → Int32} {v : Int32} (H : BF nb so sr to tr sp bo rm bk gv bl hr s) : BF nb so sr (upd to 1 v) tr sp bo rm bk gv bl hr (upd s 189 v) := by
  obtain ⟨a_nb, a_so, a_sr, a_to, a_tr, a_sp, a_bo, a_rm, a_bk, a_gv, a_bl, a_hr⟩ := H
  exact ⟨(fun j hj => by rw [pk_un (by omega)]; exact a_nb j hj), (by rw [pk_un (by omega)]; exact a_so), (fun k hk => by rw [pk_un (by omega), pk_un (by omega), pk_un (by omega)]; exact a_sr k hk), (by unfold upd; rw [if_pos rfl, if_pos rfl]), (fun j hj => by rw [pk_un (by omega)]; exact a_tr j hj), (fun j hj => by rw [pk_un (by omega)]; exact a_sp j hj), (by rw [pk_un (by omega)]; exact a_bo), (fun j hj => by rw [pk_un (by omega)]; exact a_rm j hj), (fun j hj => by rw [pk_un (by omega)]; exact a_bk j hj), (fun j hj => by rw [pk_un (by omega)]; exact a_gv j hj), (fun j hj => by rw [pk_un (by omega)]; exact a_bl j hj), (fun j hj => by rw [pk_un (by omega)]; exact a_hr j hj)⟩
theorem BR_to {h : Mem} {s : Nat → Int32} {v : Int32} (H : BR h 1 s) : BR (mw h 6 1 v) 1 (upd s 189 v) := BF.to H
theorem BF.tr {nb so sr to tr sp bo rm bk gv bl hr s : Nat → Int32} {i : Nat} {v : Int32} (H : BF nb so sr to tr sp bo rm bk gv bl hr s) (hi : i < 84) : BF nb so sr to (upd tr i v) sp bo rm bk gv bl hr (upd s (190 + i) v) := by
  obtain ⟨a_nb, a_so, a_sr, a_to, a_tr, a_sp, a_bo, a_rm, a_bk, a_gv, a_bl, a_hr⟩ := H
  exact ⟨(fun j hj => by rw [pk_un (by omega)]; exact a_nb j hj), (by rw [pk_un (by omega)]; exact a_so), (fun k hk => by rw [pk_un (by omega), pk_un (by omega), pk_un (by omega)]; exact a_sr k hk), (by rw [pk_un (by omega)]; exact a_to), (fun j hj => if e : j = i then (by unfold upd; rw [if_pos e, if_pos (by omega)]) else (by unfold upd; rw [if_neg e, if_neg (by omega)]; exact a_tr j hj)), (fun j hj => by rw [pk_un (by omega)]; exact a_sp j hj), (by rw [pk_un (by omega)]; exact a_bo), (fun j hj => by rw [pk_un (by omega)]; exact a_rm j hj), (fun j hj => by rw [pk_un (by omega)]; exact a_bk j hj), (fun j hj => by rw [pk_un (by omega)]; exact a_gv j hj), (fun j hj => by rw [pk_un (by omega)]; exact a_bl j hj), (fun j hj => by rw [pk_un (by omega)]; exact a_hr j hj)⟩
theorem BR_tr {h : Mem} {s : Nat → Int32} {i : Nat} {v : Int32} (H : BR h 1 s) (hi : i < 84) : BR (mw h 7 i v) 1 (upd s (190 + i) v) := BF.tr H hi
theorem BF.sp {nb so sr to tr sp bo rm bk gv bl hr s : Nat → Int32} {i : Nat} {v : Int32} (H : BF nb so sr to tr sp bo rm bk gv bl hr s) (hi : i < 10) : BF nb so sr to tr (upd sp i v) bo rm bk gv bl hr (upd s (274 + i) v) := by
  obtain ⟨a_nb, a_so, a_sr, a_to, a_tr, a_sp, a_bo, a_rm, a_bk, a_gv, a_bl, a_hr⟩ := H
  exact ⟨(fun j hj => by rw [pk_un (by omega)]; exact a_nb j hj), (by rw [pk_un (by omega)]; exact a_so), (fun k hk => by rw [pk_un (by omega), pk_un (by omega), pk_un (by omega)]; exact a_sr k hk), (by rw [pk_un (by omega)]; exact a_to), (fun j hj => by rw [pk_un (by omega)]; exact a_tr j hj), (fun j hj => if e : j = i then (by unfold upd; rw [if_pos e, if_pos (by omega)]) else (by unfold upd; rw [if_neg e, if_neg (by omega)]; exact a_sp j hj)), (by rw [pk_un (by omega)]; exact a_bo), (fun j hj => by rw [pk_un (by omega)]; exact a_rm j hj), (fun j hj => by rw [pk_un (by omega)]; exact a_bk j hj), (fun j hj => by rw [pk_un (by omega)]; exact a_gv j hj), (fun j hj => by rw [pk_un (by omega)]; exact a_bl j hj), (fun j hj => by rw [pk_un (by omega)]; exact a_hr j hj)⟩
theorem BR_sp {h : Mem} {s : Nat → Int32} {i : Nat} {v : Int32} (H : BR h 1 s) (hi : i < 10) : BR (mw h 14 i v) 1 (upd s (274 + i) v) := BF.sp H hi
theorem BF.bo {nb so sr to tr sp bo rm bk gv bl hr s : Nat → Int32} {v : Int32} (H : BF nb so sr to tr sp bo rm bk gv bl hr s) : BF nb so sr to tr sp (upd bo 6 v) rm bk gv bl hr (upd s 284 v) := by
  obtain ⟨a_nb, a_so, a_sr, a_to, a_tr, a_sp, a_bo, a_rm, a_bk, a_gv, a_bl, a_hr⟩ := H
  exact ⟨(fun j hj => by rw [pk_un (by omega)]; exact a_nb j hj), (by rw [pk_un (by omega)]; exact a_so), (fun k hk => by rw [pk_un (by omega), pk_un (by omega), pk_un (by omega)]; exact a_sr k hk), (by rw [pk_un (by omega)]; exact a_to), (fun j hj => by rw [pk_un (by omega)]; exact a_tr j hj), (fun j hj => by rw [pk_un (by omega)]; exact a_sp j hj), (by unfold upd; rw [if_pos rfl, if_pos rfl]), (fun j hj => by rw [pk_un (by omega)]; exact a_rm j hj), (fun j hj => by rw [pk_un (by omega)]; exact a_bk j hj), (fun j hj => by rw [pk_un (by omega)]; exact a_gv j hj), (fun j hj => by rw [pk_un (by omega)]; exact a_bl j hj), (fun j hj => by rw [pk_un (by omega)]; exact a_hr j hj)⟩
theorem BR_bo {h : Mem} {s : Nat → Int32} {v : Int32} (H : BR h 1 s) : BR (mw h 1 6 v) 1 (upd s 284 v) := BF.bo H
theorem BF.rm {nb so sr to tr sp bo rm bk gv bl hr s : Nat → Int32} {i : Nat} {v : Int32} (H : BF nb so sr to tr sp bo rm bk gv bl hr s) (hi : i < 5) : BF nb so sr to tr sp bo (upd rm i v) bk gv bl hr (upd s (285 + i) v) := by
  obtain ⟨a_nb, a_so, a_sr, a_to, a_tr, a_sp, a_bo, a_rm, a_bk, a_gv, a_bl, a_hr⟩ := H
  exact ⟨(fun j hj => by rw [pk_un (by omega)]; exact a_nb j hj), (by rw [pk_un (by omega)]; exact a_so), (fun k hk => by rw [pk_un (by omega), pk_un (by omega), pk_un (by omega)]; exact a_sr k hk), (by rw [pk_un (by omega)]; exact a_to), (fun j hj => by rw [pk_un (by omega)]; exact a_tr j hj), (fun j hj => by rw [pk_un (by omega)]; exact a_sp j hj), (by rw [pk_un (by omega)]; exact a_bo), (fun j hj => if e : j = i then (by unfold upd; rw [if_pos e, if_pos (by omega)]) else (by unfold upd; rw [if_neg e, if_neg (by omega)]; exact a_rm j hj)), (fun j hj => by rw [pk_un (by omega)]; exact a_bk j hj), (fun j hj => by rw [pk_un (by omega)]; exact a_gv j hj), (fun j hj => by rw [pk_un (by omega)]; exact a_bl j hj), (fun j hj => by rw [pk_un (by omega)]; exact a_hr j hj)⟩
theorem BR_rm {h : Mem} {s : Nat → Int32} {i : Nat} {v : Int32} (H : BR h 1 s) (hi : i < 5) : BR (mw h 9 i v) 1 (upd s (285 + i) v) := BF.rm H hi
theorem BF.bk {nb so sr to tr sp bo rm bk gv bl hr s : Nat → Int32} {i : Nat} {v : Int32} (H : BF nb so sr to tr sp bo rm bk gv bl hr s) (hi : i < 5) : BF nb so sr to tr sp bo rm (upd bk i v) gv bl hr (upd s (290 + i) v) := by
  obtain ⟨a_nb, a_so, a_sr, a_to, a_tr, a_sp, a_bo, a_rm, a_bk, a_gv, a_bl, a_hr⟩ := H
  exact ⟨(fun j hj => by rw [pk_un (by omega)]; exact a_nb j hj), (by rw [pk_un (by omega)]; exact a_so), (fun k hk => by rw [pk_un (by omega), pk_un (by omega), pk_un (by omega)]; exact a_sr k hk), (by rw [pk_un (by omega)]; exact a_to), (fun j hj => by rw [pk_un (by omega)]; exact a_tr j hj), (fun j hj => by rw [pk_un (by omega)]; exact a_sp j hj), (by rw [pk_un (by omega)]; exact a_bo), (fun j hj => by rw [pk_un (by omega)]; exact a_rm j hj), (fun j hj => if e : j = i then (by unfold upd; rw [if_pos e, if_pos (by omega)]) else (by unfold upd; rw [if_neg e, if_neg (by omega)]; exact a_bk j hj)), (fun j hj => by rw [pk_un (by omega)]; exact a_gv j hj), (fun j hj => by rw [pk_un (by omega)]; exact a_bl j hj), (fun j hj => by rw [pk_un (by omega)]; exact a_hr j hj)⟩
theorem BR_bk {h : Mem} {s : Nat → Int32} {i : Nat} {v : Int32} (H : BR h 1 s) (hi : i < 5) : BR (mw h 10 i v) 1 (upd s (290 + i) v) := BF.bk H hi
theorem BF.gv {nb so sr to tr sp bo rm bk gv bl hr s : Nat → Int32} {i : Nat} {v : Int32} (H : BF nb so sr to tr sp bo rm bk gv bl hr s) (hi : i < 30) : BF nb so sr to tr sp bo rm bk (upd gv i v) bl hr (upd s (295 + i) v) := by
  obtain ⟨a_nb, a_so, a_sr, a_to, a_tr, a_sp, a_bo, a_rm, a_bk, a_gv, a_bl, a_hr⟩ := H
  exact ⟨(fun j hj => by rw [pk_un (by omega)]; exact a_nb j hj), (by rw [pk_un (by omega)]; exact a_so), (fun k hk => by rw [pk_un (by omega), pk_un (by omega), pk_un (by omega)]; exact a_sr k hk), (by rw [pk_un (by omega)]; exact a_to), (fun j hj => by rw [pk_un (by omega)]; exact a_tr j hj), (fun j hj => by rw [pk_un (by omega)]; exact a_sp j hj), (by rw [pk_un (by omega)]; exact a_bo), (fun j hj => by rw [pk_un (by omega)]; exact a_rm j hj), (fun j hj => by rw [pk_un (by omega)]; exact a_bk j hj), (fun j hj => if e : j = i then (by unfold upd; rw [if_pos e, if_pos (by omega)]) else (by unfold upd; rw [if_neg e, if_neg (by omega)]; exact a_gv j hj)), (fun j hj => by rw [pk_un (by omega)]; exact a_bl j hj), (fun j hj => by rw [pk_un (by omega)]; exact a_hr j hj)⟩
theorem BR_gv {h : Mem} {s : Nat → Int32} {i : Nat} {v : Int32} (H : BR h 1 s) (hi : i < 30) : BR (mw h 11 i v) 1 (upd s (295 + i) v) := BF.gv H hi
theorem BF.bl {nb so sr to tr sp bo rm bk gv bl hr s : Nat → Int32} {i : Nat} {v : Int32} (H : BF nb so sr to tr sp bo rm bk gv bl hr s) (hi : i < 6) : BF nb so sr to tr sp bo rm bk gv (upd bl i v) hr (upd s (325 + i) v) := by
  obtain ⟨a_nb, a_so, a_sr, a_to, a_tr, a_sp, a_bo, a_rm, a_bk, a_gv, a_bl, a_hr⟩ := H
  exact ⟨(fun j hj => by rw [pk_un (by omega)]; exact a_nb j hj), (by rw [pk_un (by omega)]; exact a_so), (fun k hk => by rw [pk_un (by omega), pk_un (by omega), pk_un (by omega)]; exact a_sr k hk), (by rw [pk_un (by omega)]; exact a_to), (fun j hj => by rw [pk_un (by omega)]; exact a_tr j hj), (fun j hj => by rw [pk_un (by omega)]; exact a_sp j hj), (by rw [pk_un (by omega)]; exact a_bo), (fun j hj => by rw [pk_un (by omega)]; exact a_rm j hj), (fun j hj => by rw [pk_un (by omega)]; exact a_bk j hj), (fun j hj => by rw [pk_un (by omega)]; exact a_gv j hj), (fun j hj => if e : j = i then (by unfold upd; rw [if_pos e, if_pos (by omega)]) else (by unfold upd; rw [if_neg e, if_neg (by omega)]; exact a_bl j hj)), (fun j hj => by rw [pk_un (by omega)]; exact a_hr j hj)⟩
theorem BR_bl {h : Mem} {s : Nat → Int32} {i : Nat} {v : Int32} (H : BR h 1 s) (hi : i < 6) : BR (mw h 12 i v) 1 (upd s (325 + i) v) := BF.bl H hi
theorem BF.hr {nb so sr to tr sp bo rm bk gv bl hr s : Nat → Int32} {i : Nat} {v : Int32} (H : BF nb so sr to tr sp bo rm bk gv bl hr s) (hi : i < 6) : BF nb so sr to tr sp bo rm bk gv bl (upd hr i v) (upd s (331 + i) v) := by
  obtain ⟨a_nb, a_so, a_sr, a_to, a_tr, a_sp, a_bo, a_rm, a_bk, a_gv, a_bl, a_hr⟩ := H
  exact ⟨(fun j hj => by rw [pk_un (by omega)]; exact a_nb j hj), (by rw [pk_un (by omega)]; exact a_so), (fun k hk => by rw [pk_un (by omega), pk_un (by omega), pk_un (by omega)]; exact a_sr k hk), (by rw [pk_un (by omega)]; exact a_to), (fun j hj => by rw [pk_un (by omega)]; exact a_tr j hj), (fun j hj => by rw [pk_un (by omega)]; exact a_sp j hj), (by rw [pk_un (by omega)]; exact a_bo), (fun j hj => by rw [pk_un (by omega)]; exact a_rm j hj), (fun j hj => by rw [pk_un (by omega)]; exact a_bk j hj), (fun j hj => by rw [pk_un (by omega)]; exact a_gv j hj), (fun j hj => by rw [pk_un (by omega)]; exact a_bl j hj), (fun j hj => if e : j = i then (by unfold upd; rw [if_pos e, if_pos (by omega)]) else (by unfold upd; rw [if_neg e, if_neg (by omega)]; exact a_hr j hj))⟩
theorem BR_hr {h : Mem} {s : Nat → Int32} {i : Nat} {v : Int32} (H : BR h 1 s) (hi : i < 6) : BR (mw h 13 i v) 1 (upd s (331 + i) v) := BF.hr H hi
theorem BF.sr {nb so sr to tr sp bo rm bk gv bl hr s : Nat → Int32} {k : Nat} {p q w d m : Int32} (H : BF nb so sr to tr sp bo rm bk gv bl hr s) (hk : k < 60) (hd : d = w / 100) (hm : m = jrem w 100) : BF nb so (upd (upd (upd (upd sr (4 * k) p) (4 * k + 1) q) (4 * k + 2) d) (4 * k + 3) m) to tr sp bo rm bk gv bl hr (upd (upd (upd s (9 + 3 * k) p) (10 + 3 * k) q) (11 + 3 * k) w) := by
  obtain ⟨a_nb, a_so, a_sr, a_to, a_tr, a_sp, a_bo, a_rm, a_bk, a_gv, a_bl, a_hr⟩ := H
  exact ⟨(fun j hj => by rw [pk_un (by omega), pk_un (by omega), pk_un (by omega)]; exact a_nb j hj), (by rw [pk_un (by omega), pk_un (by omega), pk_un (by omega)]; exact a_so), (fun k2 hk2 => by
    obtain ⟨b1, b2, b3, b4⟩ := a_sr k2 hk2
    unfold upd
    by_cases e : k2 = k
    · subst e
      refine ⟨?_, ?_, ?_, ?_⟩
      · rw [if_neg (by omega), if_neg (by omega), if_neg (by omega), if_pos rfl, if_neg (by omega), if_neg (by omega), if_pos rfl]
      · rw [if_neg (by omega), if_neg (by omega), if_pos rfl, if_neg (by omega), if_pos rfl]
      · rw [if_neg (by omega), if_pos rfl, if_pos rfl, hd]
      · rw [if_pos rfl, if_pos rfl, hm]
    · refine ⟨?_, ?_, ?_, ?_⟩
      · rw [if_neg (by omega), if_neg (by omega), if_neg (by omega), if_neg (by omega), if_neg (by omega), if_neg (by omega), if_neg (by omega)]; exact b1
      · rw [if_neg (by omega), if_neg (by omega), if_neg (by omega), if_neg (by omega), if_neg (by omega), if_neg (by omega), if_neg (by omega)]; exact b2
      · rw [if_neg (by omega), if_neg (by omega), if_neg (by omega), if_neg (by omega), if_neg (by omega), if_neg (by omega), if_neg (by omega)]; exact b3
      · rw [if_neg (by omega), if_neg (by omega), if_neg (by omega), if_neg (by omega), if_neg (by omega), if_neg (by omega), if_neg (by omega)]; exact b4), (by rw [pk_un (by omega), pk_un (by omega), pk_un (by omega)]; exact a_to), (fun j hj => by rw [pk_un (by omega), pk_un (by omega), pk_un (by omega)]; exact a_tr j hj), (fun j hj => by rw [pk_un (by omega), pk_un (by omega), pk_un (by omega)]; exact a_sp j hj), (by rw [pk_un (by omega), pk_un (by omega), pk_un (by omega)]; exact a_bo), (fun j hj => by rw [pk_un (by omega), pk_un (by omega), pk_un (by omega)]; exact a_rm j hj), (fun j hj => by rw [pk_un (by omega), pk_un (by omega), pk_un (by omega)]; exact a_bk j hj), (fun j hj => by rw [pk_un (by omega), pk_un (by omega), pk_un (by omega)]; exact a_gv j hj), (fun j hj => by rw [pk_un (by omega), pk_un (by omega), pk_un (by omega)]; exact a_bl j hj), (fun j hj => by rw [pk_un (by omega), pk_un (by omega), pk_un (by omega)]; exact a_hr j hj)⟩
theorem BR_sr {h : Mem} {s : Nat → Int32} {k : Nat} {p q w d m : Int32} (H : BR h 1 s) (hk : k < 60) (hd : d = w / 100) (hm : m = jrem w 100) : BR (mw (mw (mw (mw h 5 (4 * k) p) 5 (4 * k + 1) q) 5 (4 * k + 2) d) 5 (4 * k + 3) m) 1 (upd (upd (upd s (9 + 3 * k) p) (10 + 3 * k) q) (11 + 3 * k) w) := BF.sr H hk hd hm
/-- the class's cells hold σ -/
def CR (h : Mem) (σ : Sg) : Prop :=
  BR h 1 (σ 0) ∧ (∀ j, j < 7 → h.1 29 j = σ 1 j) ∧ h.1 0 2 = σ 8 0 ∧ (σ 8 0 = 1 → BR h 15 (σ 2)) ∧ h.1 0 9 = σ 8 1 ∧ (∀ j, j < 24 → h.1 50 j = σ 3 j) ∧
  h.1 30 1 = σ 8 2 ∧ (∀ j, j < 120 → h.1 31 j = σ 4 j) ∧ (∀ j, j < 4 → h.1 35 j = σ 5 j) ∧ (∀ j, j < 4 → h.1 36 j = σ 6 j) ∧ (∀ j, j < 160 → h.1 37 j = σ 7 j)
/-- the places that BR b reads -/
def inB (b k : Nat) : Bool := k == b || k == b + 2 || k == b + 3 || k == b + 4 || k == b + 5 || k == b + 6 || k == b + 8 || k == b + 9 || k == b + 10 || k == b + 11 || k == b + 12 || k == b + 13
theorem BR.of {h h2 : Mem} {b : Nat} {s : Nat → Int32} (H : BR h b s) (e : ∀ k, inB b k = true → h2.1 k = h.1 k) : BR h2 b s := by
  unfold BR at H ⊢
  rw [e (b + 2) (by simp [inB]), e (b + 3) (by simp [inB]), e (b + 4) (by simp [inB]), e (b + 5) (by simp [inB]), e (b + 6) (by simp [inB]), e (b + 13) (by simp [inB]), e b (by simp [inB]), e (b + 8) (by simp [inB]), e (b + 9) (by simp [inB]), e (b + 10) (by simp [inB]), e (b + 11) (by simp [inB]), e (b + 12) (by simp [inB])]
  exact H
/-- the places that CR reads -/
def inC (k : Nat) : Bool := inB 1 k || inB 15 k || k == 29 || k == 0 || k == 50 || k == 30 || k == 31 || k == 35 || k == 36 || k == 37
theorem CR.of {h h2 : Mem} {σ : Sg} (H : CR h σ) (e : ∀ k, inC k = true → h2.1 k = h.1 k) : CR h2 σ := by
  obtain ⟨a1, a2, a3, a4, a5, a6, a7, a8, a9, a10, a11⟩ := H
  refine ⟨a1.of (fun k hk => e k (by simp [inC, hk])), ?_, ?_, fun q => (a4 q).of (fun k hk => e k (by simp [inC, hk])), ?_, ?_, ?_, ?_, ?_, ?_, ?_⟩
  · rw [e 29 (by decide)]; exact a2
  · rw [e 0 (by decide)]; exact a3
  · rw [e 0 (by decide)]; exact a5
  · rw [e 50 (by decide)]; exact a6
  · rw [e 30 (by decide)]; exact a7
  · rw [e 31 (by decide)]; exact a8
  · rw [e 35 (by decide)]; exact a9
  · rw [e 36 (by decide)]; exact a10
  · rw [e 37 (by decide)]; exact a11
/-- what a run of the class leaves as it was: the model's cells -/
def kM (h h2 : Mem) : Prop := ∀ k, 51 ≤ k → h2.1 k = h.1 k
/-- what a run of the model leaves as it was: the class's cells -/
def kC (h h2 : Mem) : Prop := ∀ k, k < 51 → h2.1 k = h.1 k
theorem kM.rf (h : Mem) : kM h h := fun _ _ => rfl
theorem kC.rf (h : Mem) : kC h h := fun _ _ => rfl
theorem kM.abs {h h2 : Mem} (H : kM h h2) : absM h2 = absM h := by
  funext k
  unfold absM
  rw [H 52 (by decide), H 55 (by decide), H 53 (by decide), H 62 (by decide), H 66 (by decide), H 67 (by decide), H 68 (by decide), H 69 (by decide), H 51 (by decide)]
theorem inC_lt {k : Nat} (h : inC k = true) : k < 51 := by
  simp only [inC, inB, Bool.or_eq_true, beq_iff_eq] at h
  omega
theorem kC.CR {h h2 : Mem} {σ : Sg} (H : kC h h2) (c : CR h σ) : CR h2 σ := c.of (fun k hk => H k (inC_lt hk))
theorem kM.tr {a b c : Mem} (h1 : kM a b) (h2 : kM b c) : kM a c := fun k hk => (h2 k hk).trans (h1 k hk)
theorem kC.tr {a b c : Mem} (h1 : kC a b) (h2 : kC b c) : kC a c := fun k hk => (h2 k hk).trans (h1 k hk)
theorem kM.mw {h h2 : Mem} (H : kM h h2) {k i : Nat} {v : Int32} (hk : k < 51) : kM h (mw h2 k i v) := fun j hj => (mw_ne h2 i v (by omega)).trans (H j hj)
theorem kC.mw {h h2 : Mem} (H : kC h h2) {k i : Nat} {v : Int32} (hk : 51 ≤ k) : kC h (mw h2 k i v) := fun j hj => (mw_ne h2 i v (by omega)).trans (H j hj)
/-! ===== what is always so of s, and of σ ===== -/
def tmF (s : Nat → Int32) (t w : Nat) : Int32 := s (190 + (t * 7 + w))
def cntP (s : Nat → Int32) (p : Int32) : Nat → Nat
  | 0 => 0
  | n + 1 => cntP s p n + (if tmF s n 1 = p then 1 else 0)
def cntD (s : Nat → Int32) (d : Int32) : Nat → Nat
  | 0 => 0
  | n + 1 => cntD s d n + (if s (331 + n) = d then 1 else 0)
def SI (s : Nat → Int32) : Prop :=
  (∀ i j, i < 8 → j < 32 → bt (s i) j = true → j < 8 ∧ j ≠ i ∧ bt (s j) i = true) ∧
  (∃ n, n ≤ 60 ∧ s 8 = nI n) ∧
  (∀ k, k < 60 → ∃ p q d m, p < 6 ∧ q < 8 ∧ d < 30 ∧ m < 24 ∧ s (9 + 3 * k) = nI p ∧ s (10 + 3 * k) = nI q ∧ s (11 + 3 * k) = nI (100 * d + m)) ∧
  (∃ n, n ≤ 12 ∧ s 189 = nI n ∧ (∀ p, p < 6 → cntP s (nI p) n ≤ 5) ∧ ∀ j, j < 10 → s (274 + j) = -1 ∨ ∃ t, t < n ∧ s (274 + j) = nI t) ∧
  (∀ t, t < 12 → ∃ k p q a b c d, k < 7 ∧ p < 6 ∧ q < 8 ∧ a ≤ b ∧ b < 24 ∧ c ≤ d ∧ d < 30 ∧ tmF s t 0 = nI k ∧ tmF s t 1 = nI p ∧ tmF s t 2 = nI q ∧ tmF s t 3 = nI a ∧ tmF s t 4 = nI b ∧ tmF s t 5 = nI c ∧ tmF s t 6 = nI d) ∧
  (∀ p, p < 6 → s (331 + p) = -1 ∨ ∃ d, d < 30 ∧ s (331 + p) = nI d) ∧ ∀ d, d < 30 → cntD s (nI d) 6 ≤ 2
def Iv (σ : Sg) : Prop :=
  SI (σ 0) ∧ (σ 8 0 = 1 → SI (σ 2)) ∧ (σ 8 0 = 0 ∨ σ 8 0 = 1) ∧ (σ 8 1 = 0 ∨ σ 8 1 = 1) ∧ (∃ n, n ≤ 120 ∧ σ 8 2 = nI n) ∧ (∀ j, j < 120 → ∃ c, c < 256 ∧ σ 4 j = nI c) ∧
  ∀ j, j < 4 → (σ 5 j = 0 ∨ σ 5 j = 8 ∨ σ 5 j = 16 ∨ σ 5 j = 32) ∧ ∃ m, m ≤ 40 ∧ σ 6 j = nI m ∧ (σ 5 j = 0 → m = 0)
/-! ===== ends of calls ===== -/
def Po (h : Mem) (q : Int32 × Sg) : Option Value → Mem → Prop := Qi (fun r h2 => r = q.1 ∧ CR h2 q.2 ∧ kM h h2)
def Pm (h : Mem) (q : Int32 × Sg) : Option Value → Mem → Prop := Qi (fun r h2 => r = q.1 ∧ absM h2 = q.2 ∧ kC h h2)
theorem su_same (σ : Sg) (k i : Nat) (v : Int32) : su σ k i v k = upd (σ k) i v := by simp [su]
theorem su_ne (σ : Sg) {k j : Nat} (i : Nat) (v : Int32) (hj : j ≠ k) : su σ k i v j = σ j := by simp [su, hj]
theorem CR_fnd {h : Mem} {σ : Sg} (C : CR h σ) {k : Nat} (hk : k < 7) : CR (mw h 29 k (h.1 29 k + 1)) (fnd σ k).2 := by
  obtain ⟨a1, a2, a3, a4, a5, a6, a7, a8, a9, a10, a11⟩ := C
  refine ⟨a1, fun j hj => ?_, a3, a4, a5, a6, a7, a8, a9, a10, a11⟩
  show upd (h.1 29) k (h.1 29 k + 1) j = upd (σ 1) k (σ 1 k + 1) j
  unfold upd
  by_cases e : j = k
  · rw [if_pos e, if_pos e, a2 k hk]
  · rw [if_neg e, if_neg e, a2 j hj]
theorem Po_fnd {h : Mem} {σ : Sg} (C : CR h σ) {k : Nat} (hk : k < 7) : Po h (fnd σ k) (some (.int (-1000001 - nI k))) (mw h 29 k (h.1 29 k + 1)) := Qi.mk ⟨rfl, CR_fnd C hk, (kM.rf h).mw (by decide)⟩
theorem Po_fnd2 {h h1 : Mem} {σ : Sg} (C : CR h1 σ) (hm : kM h h1) {k : Nat} (hk : k < 7) : Po h (fnd σ k) (some (.int (-1000001 - nI k))) (mw h1 29 k (h1.1 29 k + 1)) := Qi.mk ⟨rfl, CR_fnd C hk, hm.mw (by decide)⟩
theorem Po.eq {h h2 : Mem} {q q2 : Int32 × Sg} {v : Option Value} (e : q = q2) (H : Po h q2 v h2) : Po h q v h2 := by rw [e]; exact H
theorem Pm.eq {h h2 : Mem} {q q2 : Int32 × Sg} {v : Option Value} (e : q = q2) (H : Pm h q2 v h2) : Pm h q v h2 := by rw [e]; exact H
theorem Po.mk {h h2 : Mem} {q : Int32 × Sg} {r : Int32} (e : r = q.1) (c : CR h2 q.2) (m : kM h h2) : Po h q (some (.int r)) h2 := Qi.mk ⟨e, c, m⟩
theorem Pm.mk {h h2 : Mem} {q : Int32 × Sg} {r : Int32} (e : r = q.1) (c : absM h2 = q.2) (m : kC h h2) : Pm h q (some (.int r)) h2 := Qi.mk ⟨e, c, m⟩
theorem abs_off {h : Mem} {k i : Nat} {v : Int32} (hk : k ≠ 51 ∧ k ≠ 52 ∧ k ≠ 53 ∧ k ≠ 55 ∧ k ≠ 62 ∧ k ≠ 66 ∧ k ≠ 67 ∧ k ≠ 68 ∧ k ≠ 69) : absM (mw h k i v) = absM h := by
  funext j
  unfold absM
  rw [mw_ne h i v (by omega : 52 ≠ k), mw_ne h i v (by omega : 55 ≠ k), mw_ne h i v (by omega : 53 ≠ k), mw_ne h i v (by omega : 62 ≠ k), mw_ne h i v (by omega : 66 ≠ k), mw_ne h i v (by omega : 67 ≠ k), mw_ne h i v (by omega : 68 ≠ k), mw_ne h i v (by omega : 69 ≠ k), mw_ne h i v (by omega : 51 ≠ k)]
theorem abs_f (a b : Sg) (h0 : a 0 = b 0) (h1 : a 1 = b 1) (h2 : a 2 = b 2) (h3 : a 3 = b 3) (h4 : a 4 = b 4) (h5 : a 5 = b 5) (h6 : a 6 = b 6) (h7 : a 7 = b 7) (h8 : a 8 = b 8) (h9 : ∀ k, 9 ≤ k → a k = b k) : a = b := by
  funext k
  rcases (by omega : k = 0 ∨ k = 1 ∨ k = 2 ∨ k = 3 ∨ k = 4 ∨ k = 5 ∨ k = 6 ∨ k = 7 ∨ k = 8 ∨ 9 ≤ k) with rfl | rfl | rfl | rfl | rfl | rfl | rfl | rfl | rfl | hk
  · exact h0
  · exact h1
  · exact h2
  · exact h3
  · exact h4
  · exact h5
  · exact h6
  · exact h7
  · exact h8
  · exact h9 k hk
theorem abs_52 {h : Mem} {i : Nat} {v : Int32} : absM (mw h 52 i v) = su (absM h) 0 i v := abs_f _ _ rfl rfl rfl rfl rfl rfl rfl rfl rfl (fun k hk => by obtain ⟨n, rfl⟩ := Nat.exists_eq_add_of_le hk; rw [show 9 + n = n + 9 by omega]; rw [su_ne _ _ _ (by omega)]; rfl)
theorem abs_55 {h : Mem} {i : Nat} {v : Int32} : absM (mw h 55 i v) = su (absM h) 1 i v := abs_f _ _ rfl rfl rfl rfl rfl rfl rfl rfl rfl (fun k hk => by obtain ⟨n, rfl⟩ := Nat.exists_eq_add_of_le hk; rw [show 9 + n = n + 9 by omega]; rw [su_ne _ _ _ (by omega)]; rfl)
theorem abs_53 {h : Mem} {i : Nat} {v : Int32} : absM (mw h 53 i v) = su (absM h) 2 i v := abs_f _ _ rfl rfl rfl rfl rfl rfl rfl rfl rfl (fun k hk => by obtain ⟨n, rfl⟩ := Nat.exists_eq_add_of_le hk; rw [show 9 + n = n + 9 by omega]; rw [su_ne _ _ _ (by omega)]; rfl)
theorem abs_62 {h : Mem} {i : Nat} {v : Int32} : absM (mw h 62 i v) = su (absM h) 3 i v := abs_f _ _ rfl rfl rfl rfl rfl rfl rfl rfl rfl (fun k hk => by obtain ⟨n, rfl⟩ := Nat.exists_eq_add_of_le hk; rw [show 9 + n = n + 9 by omega]; rw [su_ne _ _ _ (by omega)]; rfl)
theorem abs_66 {h : Mem} {i : Nat} {v : Int32} : absM (mw h 66 i v) = su (absM h) 4 i v := abs_f _ _ rfl rfl rfl rfl rfl rfl rfl rfl rfl (fun k hk => by obtain ⟨n, rfl⟩ := Nat.exists_eq_add_of_le hk; rw [show 9 + n = n + 9 by omega]; rw [su_ne _ _ _ (by omega)]; rfl)
theorem abs_67 {h : Mem} {i : Nat} {v : Int32} : absM (mw h 67 i v) = su (absM h) 5 i v := abs_f _ _ rfl rfl rfl rfl rfl rfl rfl rfl rfl (fun k hk => by obtain ⟨n, rfl⟩ := Nat.exists_eq_add_of_le hk; rw [show 9 + n = n + 9 by omega]; rw [su_ne _ _ _ (by omega)]; rfl)
theorem abs_68 {h : Mem} {i : Nat} {v : Int32} : absM (mw h 68 i v) = su (absM h) 6 i v := abs_f _ _ rfl rfl rfl rfl rfl rfl rfl rfl rfl (fun k hk => by obtain ⟨n, rfl⟩ := Nat.exists_eq_add_of_le hk; rw [show 9 + n = n + 9 by omega]; rw [su_ne _ _ _ (by omega)]; rfl)
theorem abs_69 {h : Mem} {i : Nat} {v : Int32} : absM (mw h 69 i v) = su (absM h) 7 i v := abs_f _ _ rfl rfl rfl rfl rfl rfl rfl rfl rfl (fun k hk => by obtain ⟨n, rfl⟩ := Nat.exists_eq_add_of_le hk; rw [show 9 + n = n + 9 by omega]; rw [su_ne _ _ _ (by omega)]; rfl)
theorem abs_51_4 {h : Mem} {v : Int32} : absM (mw h 51 4 v) = su (absM h) 8 0 v := abs_f _ _ rfl rfl rfl rfl rfl rfl rfl rfl (by funext i; show (absM (mw h 51 4 v)) 8 i = upd (absM h 8) 0 v i; unfold upd; match i with | 0 => rfl | 1 => rfl | 2 => rfl | i + 3 => rfl) (fun k hk => by obtain ⟨n, rfl⟩ := Nat.exists_eq_add_of_le hk; rw [show 9 + n = n + 9 by omega]; rw [su_ne _ _ _ (by omega)]; rfl)
theorem abs_51_15 {h : Mem} {v : Int32} : absM (mw h 51 15 v) = su (absM h) 8 1 v := abs_f _ _ rfl rfl rfl rfl rfl rfl rfl rfl (by funext i; show (absM (mw h 51 15 v)) 8 i = upd (absM h 8) 1 v i; unfold upd; match i with | 0 => rfl | 1 => rfl | 2 => rfl | i + 3 => rfl) (fun k hk => by obtain ⟨n, rfl⟩ := Nat.exists_eq_add_of_le hk; rw [show 9 + n = n + 9 by omega]; rw [su_ne _ _ _ (by omega)]; rfl)
theorem abs_51_o {h : Mem} {q : Nat} {v : Int32} (hq : q ≠ 4 ∧ q ≠ 15 ∧ q ≠ 20) : absM (mw h 51 q v) = absM h := abs_f _ _ rfl rfl rfl rfl rfl rfl rfl rfl (by funext i; show (match i with | 0 => upd (h.1 51) q v 4 | 1 => upd (h.1 51) q v 15 | _ => upd (h.1 51) q v 20) = (match i with | 0 => h.1 51 4 | 1 => h.1 51 15 | _ => h.1 51 20); rw [pk_un (by omega), pk_un (by omega), pk_un (by omega)]) (fun k hk => by obtain ⟨n, rfl⟩ := Nat.exists_eq_add_of_le hk; rw [show 9 + n = n + 9 by omega]; rfl)
theorem Pm_fnd {h h1 : Mem} {σ : Sg} (C : absM h1 = σ) (hm : kC h h1) {k : Nat} (hk : k < 7) : Pm h (fnd σ k) (some (.int (-1000001 - nI k))) (mw h1 55 k (h1.1 55 k + 1)) := Qi.mk ⟨rfl, by subst C; exact abs_55, hm.mw (by decide)⟩

