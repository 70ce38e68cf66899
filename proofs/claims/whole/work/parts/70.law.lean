/-! ===== the law: its 48 cases and its loop ===== -/
def scO (Γ : Fr) (L : Nat) (xs : Nat → Int32) : Prop := va_X ((fK Γ).1 960) L xs (fS Γ) (fS Γ).heap ∧ (fK Γ).1 960 < (fS Γ).heap.size ∧ ¬ fW Γ ((fK Γ).1 960)
theorem n_sld {Γ : Fr} {cc : ByteArray} {nL : Nat} {own : String} {fr lo : Nat} {h : Mem} {pc : Nat} {Lc : List (Option Value)} {S : List Value} (o : ca_O Γ cc nL own fr lo) {L : Nat} {xs : Nat → Int32} (sc : scO Γ L xs) {i : Int32} (j : Nat) (e : i = nI j) (hj : j < L) (hL : L < 2 ^ 31) (d : decode cc pc = .ok (.iaload, 1)) (k : ca_G Γ nL h (pc + 1) Lc (.int (xs j) :: S)) : ca_G Γ nL h pc Lc (.int i :: .ref 960 :: S) := fun H locs ls hP hS hl => by
  obtain ⟨h1, h2⟩ := n_in e hj hL
  refine va_sld o.1 o.2.1 sc.1 sc.2.1 sc.2.2 hS h1 d ?_
  rw [h2]
  exact k H locs ls hP hS hl
theorem n_scl {Γ : Fr} {cc : ByteArray} {nL : Nat} {own : String} {fr lo : Nat} {h : Mem} {pc : Nat} {Lc : List (Option Value)} {S : List Value} (o : ca_O Γ cc nL own fr lo) {L : Nat} {xs : Nat → Int32} (sc : scO Γ L xs) (d : decode cc pc = .ok (.arraylength, 1)) (k : ca_G Γ nL h (pc + 1) Lc (.int (nI L) :: S)) : ca_G Γ nL h pc Lc (.ref 960 :: S) := fun H locs ls hP hS hl => va_slen o.1 o.2.1 sc.1 sc.2.1 sc.2.2 hS d (k H locs ls hP hS hl)
def LV (h : Mem) : Prop := CR h (absM h) ∧ Iv (absM h)
theorem abs_kM {h h2 : Mem} (m : kM h h2) : absM h2 = absM h := abs_f _ _ (m 52 (by decide)) (m 55 (by decide)) (m 53 (by decide)) (m 62 (by decide)) (m 66 (by decide)) (m 67 (by decide)) (m 68 (by decide)) (m 69 (by decide)) (by unfold absM; rw [m 51 (by decide)]; rfl) (fun k hk => by obtain ⟨n, rfl⟩ := Nat.exists_eq_add_of_le hk; rw [show 9 + n = n + 9 by omega]; rfl)
theorem CR_kC {h h2 : Mem} {σ : Sg} (m : kC h h2) (C : CR h σ) : CR h2 σ := C.of (fun k hk => m k (by revert hk; unfold inC; simp only [inB, Bool.or_eq_true, beq_iff_eq]; omega))
theorem LV_end {h h2 : Mem} (q : Int32 × Sg) (a : absM h2 = q.2) (C : CR h q.2) (m : kC h h2) (I : Iv q.2) : LV h2 := by
  unfold LV
  rw [a]
  exact ⟨CR_kC m C, I⟩
abbrev lwL (n : Nat) : List (Option Value) := [some (.ref 960), some (.ref 0), some (.ref 51), some (.int (nI n))]
set_option maxRecDepth 100000 in
set_option maxHeartbeats 400000 in
theorem lc_road0 {Γ : Fr} (o : ca_O Γ cL_law 4 RL 13 492) {L : Nat} {xs : Nat → Int32} (sc : scO Γ L xs) {h : Mem} (V : LV h) {n : Nat} (hn : n + 6 ≤ L) (hL : L < 2 ^ 31) (z : xs (n + 3) = 0) (k : ∀ h2 : Mem, LV h2 → ca_G Γ 4 h2 1850 (lwL n) []) : ca_G Γ 4 h 240 (lwL n) [] := by
  refine g_aload_n (pc := 240) o dL_law_240 rfl ?_
  refine g_aload_n (pc := 241) o dL_law_241 rfl ?_
  refine g_iload_n (pc := 242) o dL_law_242 rfl ?_
  refine g_iconst (pc := 243) o dL_law_243 1 rfl ?_
  refine g_iadd (pc := 244) o dL_law_244 ?_
  refine n_sld (pc := 245) o sc (n + 1) (nI_add n 1) (by omega) hL dL_law_245 ?_
  refine g_aload_n (pc := 246) o dL_law_246 rfl ?_
  refine g_iload_n (pc := 247) o dL_law_247 rfl ?_
  refine g_iconst (pc := 248) o dL_law_248 2 rfl ?_
  refine g_iadd (pc := 249) o dL_law_249 ?_
  refine n_sld (pc := 250) o sc (n + 2) (nI_add n 2) (by omega) hL dL_law_250 ?_
  refine g_aload_n (pc := 251) o dL_law_251 rfl ?_
  refine g_iload_n (pc := 252) o dL_law_252 rfl ?_
  refine g_iconst (pc := 253) o dL_law_253 3 rfl ?_
  refine g_iadd (pc := 254) o dL_law_254 ?_
  refine n_sld (pc := 255) o sc (n + 3) (nI_add n 3) (by omega) hL dL_law_255 ?_
  refine g_if_eq (pc := 256) o 263 dL_law_256 (by decide) (fun _ => ?_) (fun c => absurd z c)
  refine g_iconst (pc := 263) o dL_law_263 0 rfl ?_
  refine g_callVQi (pc := 264) o (co_road V.1 (xs (n + 1)) (xs (n + 2)) 0) mt_X9_road mv_X9_road lk_L_13 rfl rfl rfl (by decide) rfl (Nat.le_of_ble_eq_true rfl) dL_law_264 ?_
  rintro r1 h2 ⟨e1, C2, m2⟩
  have A2 := abs_kM m2
  refine g_aload_n (pc := 267) o dL_law_267 rfl ?_
  refine g_aload_n (pc := 268) o dL_law_268 rfl ?_
  refine g_iload_n (pc := 269) o dL_law_269 rfl ?_
  refine g_iconst (pc := 270) o dL_law_270 1 rfl ?_
  refine g_iadd (pc := 271) o dL_law_271 ?_
  refine n_sld (pc := 272) o sc (n + 1) (nI_add n 1) (by omega) hL dL_law_272 ?_
  refine g_aload_n (pc := 273) o dL_law_273 rfl ?_
  refine g_iload_n (pc := 274) o dL_law_274 rfl ?_
  refine g_iconst (pc := 275) o dL_law_275 2 rfl ?_
  refine g_iadd (pc := 276) o dL_law_276 ?_
  refine n_sld (pc := 277) o sc (n + 2) (nI_add n 2) (by omega) hL dL_law_277 ?_
  refine g_aload_n (pc := 278) o dL_law_278 rfl ?_
  refine g_iload_n (pc := 279) o dL_law_279 rfl ?_
  refine g_iconst (pc := 280) o dL_law_280 3 rfl ?_
  refine g_iadd (pc := 281) o dL_law_281 ?_
  refine n_sld (pc := 282) o sc (n + 3) (nI_add n 3) (by omega) hL dL_law_282 ?_
  refine g_if_eq (pc := 283) o 290 dL_law_283 (by decide) (fun _ => ?_) (fun c => absurd z c)
  refine g_iconst (pc := 290) o dL_law_290 0 rfl ?_
  refine g_callVQi (pc := 291) o (mo_road (h := h2) (xs (n + 1)) (xs (n + 2)) 0) mt_X10_road mv_X10_road lk_L_17 rfl rfl rfl (by decide) rfl (Nat.le_of_ble_eq_true rfl) dL_law_291 ?_
  rintro r2 h3 ⟨e2, a3, m3⟩
  rw [A2] at e2 a3
  exact g_ic_eq (pc := 294) o 1850 dL_law_294 (by decide) (fun _ => k h3 (LV_end (op_road (xs (n + 1)) (xs (n + 2)) 0 (absM h)) a3 C2 m3 (Iv_road V.2 (xs (n + 1)) (xs (n + 2)) 0))) (fun c => absurd (e1.trans e2.symm) c)
set_option maxRecDepth 100000 in
set_option maxHeartbeats 400000 in
theorem lc_road1 {Γ : Fr} (o : ca_O Γ cL_law 4 RL 13 492) {L : Nat} {xs : Nat → Int32} (sc : scO Γ L xs) {h : Mem} (V : LV h) {n : Nat} (hn : n + 6 ≤ L) (hL : L < 2 ^ 31) (z : ¬ xs (n + 3) = 0) (k : ∀ h2 : Mem, LV h2 → ca_G Γ 4 h2 1850 (lwL n) []) : ca_G Γ 4 h 240 (lwL n) [] := by
  refine g_aload_n (pc := 240) o dL_law_240 rfl ?_
  refine g_aload_n (pc := 241) o dL_law_241 rfl ?_
  refine g_iload_n (pc := 242) o dL_law_242 rfl ?_
  refine g_iconst (pc := 243) o dL_law_243 1 rfl ?_
  refine g_iadd (pc := 244) o dL_law_244 ?_
  refine n_sld (pc := 245) o sc (n + 1) (nI_add n 1) (by omega) hL dL_law_245 ?_
  refine g_aload_n (pc := 246) o dL_law_246 rfl ?_
  refine g_iload_n (pc := 247) o dL_law_247 rfl ?_
  refine g_iconst (pc := 248) o dL_law_248 2 rfl ?_
  refine g_iadd (pc := 249) o dL_law_249 ?_
  refine n_sld (pc := 250) o sc (n + 2) (nI_add n 2) (by omega) hL dL_law_250 ?_
  refine g_aload_n (pc := 251) o dL_law_251 rfl ?_
  refine g_iload_n (pc := 252) o dL_law_252 rfl ?_
  refine g_iconst (pc := 253) o dL_law_253 3 rfl ?_
  refine g_iadd (pc := 254) o dL_law_254 ?_
  refine n_sld (pc := 255) o sc (n + 3) (nI_add n 3) (by omega) hL dL_law_255 ?_
  refine g_if_eq (pc := 256) o 263 dL_law_256 (by decide) (fun c => absurd c z) (fun _ => ?_)
  refine g_iconst (pc := 259) o dL_law_259 1 rfl ?_
  refine g_goto (pc := 260) o 264 dL_law_260 (by decide) ?_
  refine g_callVQi (pc := 264) o (co_road V.1 (xs (n + 1)) (xs (n + 2)) 1) mt_X9_road mv_X9_road lk_L_13 rfl rfl rfl (by decide) rfl (Nat.le_of_ble_eq_true rfl) dL_law_264 ?_
  rintro r1 h2 ⟨e1, C2, m2⟩
  have A2 := abs_kM m2
  refine g_aload_n (pc := 267) o dL_law_267 rfl ?_
  refine g_aload_n (pc := 268) o dL_law_268 rfl ?_
  refine g_iload_n (pc := 269) o dL_law_269 rfl ?_
  refine g_iconst (pc := 270) o dL_law_270 1 rfl ?_
  refine g_iadd (pc := 271) o dL_law_271 ?_
  refine n_sld (pc := 272) o sc (n + 1) (nI_add n 1) (by omega) hL dL_law_272 ?_
  refine g_aload_n (pc := 273) o dL_law_273 rfl ?_
  refine g_iload_n (pc := 274) o dL_law_274 rfl ?_
  refine g_iconst (pc := 275) o dL_law_275 2 rfl ?_
  refine g_iadd (pc := 276) o dL_law_276 ?_
  refine n_sld (pc := 277) o sc (n + 2) (nI_add n 2) (by omega) hL dL_law_277 ?_
  refine g_aload_n (pc := 278) o dL_law_278 rfl ?_
  refine g_iload_n (pc := 279) o dL_law_279 rfl ?_
  refine g_iconst (pc := 280) o dL_law_280 3 rfl ?_
  refine g_iadd (pc := 281) o dL_law_281 ?_
  refine n_sld (pc := 282) o sc (n + 3) (nI_add n 3) (by omega) hL dL_law_282 ?_
  refine g_if_eq (pc := 283) o 290 dL_law_283 (by decide) (fun c => absurd c z) (fun _ => ?_)
  refine g_iconst (pc := 286) o dL_law_286 1 rfl ?_
  refine g_goto (pc := 287) o 291 dL_law_287 (by decide) ?_
  refine g_callVQi (pc := 291) o (mo_road (h := h2) (xs (n + 1)) (xs (n + 2)) 1) mt_X10_road mv_X10_road lk_L_17 rfl rfl rfl (by decide) rfl (Nat.le_of_ble_eq_true rfl) dL_law_291 ?_
  rintro r2 h3 ⟨e2, a3, m3⟩
  rw [A2] at e2 a3
  exact g_ic_eq (pc := 294) o 1850 dL_law_294 (by decide) (fun _ => k h3 (LV_end (op_road (xs (n + 1)) (xs (n + 2)) 1 (absM h)) a3 C2 m3 (Iv_road V.2 (xs (n + 1)) (xs (n + 2)) 1))) (fun c => absurd (e1.trans e2.symm) c)
theorem lc_road {Γ : Fr} (o : ca_O Γ cL_law 4 RL 13 492) {L : Nat} {xs : Nat → Int32} (sc : scO Γ L xs) {h : Mem} (V : LV h) {n : Nat} (hn : n + 6 ≤ L) (hL : L < 2 ^ 31) (k : ∀ h2 : Mem, LV h2 → ca_G Γ 4 h2 1850 (lwL n) []) : ca_G Γ 4 h 240 (lwL n) [] := by
  by_cases z : xs (n + 3) = 0
  · exact lc_road0 o sc V hn hL z k
  · exact lc_road1 o sc V hn hL z k
set_option maxRecDepth 100000 in
set_option maxHeartbeats 400000 in
theorem lc_roads {Γ : Fr} (o : ca_O Γ cL_law 4 RL 13 492) {L : Nat} {xs : Nat → Int32} (sc : scO Γ L xs) {h : Mem} (V : LV h) {n : Nat} (hn : n + 6 ≤ L) (hL : L < 2 ^ 31) (k : ∀ h2 : Mem, LV h2 → ca_G Γ 4 h2 1850 (lwL n) []) : ca_G Γ 4 h 299 (lwL n) [] := by
  refine g_aload_n (pc := 299) o dL_law_299 rfl ?_
  refine g_aload_n (pc := 300) o dL_law_300 rfl ?_
  refine g_iload_n (pc := 301) o dL_law_301 rfl ?_
  refine g_iconst (pc := 302) o dL_law_302 1 rfl ?_
  refine g_iadd (pc := 303) o dL_law_303 ?_
  refine n_sld (pc := 304) o sc (n + 1) (nI_add n 1) (by omega) hL dL_law_304 ?_
  refine g_callVQi (pc := 305) o (co_roads V.1 (xs (n + 1))) mt_X9_roads mv_X9_roads lk_L_18 rfl rfl rfl (by decide) rfl (Nat.le_of_ble_eq_true rfl) dL_law_305 ?_
  rintro r1 h2 ⟨e1, C2, m2⟩
  have A2 := abs_kM m2
  refine g_aload_n (pc := 308) o dL_law_308 rfl ?_
  refine g_aload_n (pc := 309) o dL_law_309 rfl ?_
  refine g_iload_n (pc := 310) o dL_law_310 rfl ?_
  refine g_iconst (pc := 311) o dL_law_311 1 rfl ?_
  refine g_iadd (pc := 312) o dL_law_312 ?_
  refine n_sld (pc := 313) o sc (n + 1) (nI_add n 1) (by omega) hL dL_law_313 ?_
  refine g_callVQi (pc := 314) o (mo_roads (h := h2) (xs (n + 1))) mt_X10_roads mv_X10_roads lk_L_22 rfl rfl rfl (by decide) rfl (Nat.le_of_ble_eq_true rfl) dL_law_314 ?_
  rintro r2 h3 ⟨e2, a3, m3⟩
  rw [A2] at e2 a3
  exact g_ic_eq (pc := 317) o 1850 dL_law_317 (by decide) (fun _ => k h3 (LV_end (op_roads (xs (n + 1)) (absM h)) a3 C2 m3 (Iv_roads V.2 (xs (n + 1))))) (fun c => absurd (e1.trans e2.symm) c)
set_option maxRecDepth 100000 in
set_option maxHeartbeats 400000 in
theorem lc_far {Γ : Fr} (o : ca_O Γ cL_law 4 RL 13 492) {L : Nat} {xs : Nat → Int32} (sc : scO Γ L xs) {h : Mem} (V : LV h) {n : Nat} (hn : n + 6 ≤ L) (hL : L < 2 ^ 31) (k : ∀ h2 : Mem, LV h2 → ca_G Γ 4 h2 1850 (lwL n) []) : ca_G Γ 4 h 322 (lwL n) [] := by
  refine g_aload_n (pc := 322) o dL_law_322 rfl ?_
  refine g_aload_n (pc := 323) o dL_law_323 rfl ?_
  refine g_iload_n (pc := 324) o dL_law_324 rfl ?_
  refine g_iconst (pc := 325) o dL_law_325 1 rfl ?_
  refine g_iadd (pc := 326) o dL_law_326 ?_
  refine n_sld (pc := 327) o sc (n + 1) (nI_add n 1) (by omega) hL dL_law_327 ?_
  refine g_aload_n (pc := 328) o dL_law_328 rfl ?_
  refine g_iload_n (pc := 329) o dL_law_329 rfl ?_
  refine g_iconst (pc := 330) o dL_law_330 2 rfl ?_
  refine g_iadd (pc := 331) o dL_law_331 ?_
  refine n_sld (pc := 332) o sc (n + 2) (nI_add n 2) (by omega) hL dL_law_332 ?_
  refine g_callVQi (pc := 333) o (co_far V.1 (xs (n + 1)) (xs (n + 2))) mt_X9_far mv_X9_far lk_L_23 rfl rfl rfl (by decide) rfl (Nat.le_of_ble_eq_true rfl) dL_law_333 ?_
  rintro r1 h2 ⟨e1, C2, m2⟩
  have A2 := abs_kM m2
  refine g_aload_n (pc := 336) o dL_law_336 rfl ?_
  refine g_aload_n (pc := 337) o dL_law_337 rfl ?_
  refine g_iload_n (pc := 338) o dL_law_338 rfl ?_
  refine g_iconst (pc := 339) o dL_law_339 1 rfl ?_
  refine g_iadd (pc := 340) o dL_law_340 ?_
  refine n_sld (pc := 341) o sc (n + 1) (nI_add n 1) (by omega) hL dL_law_341 ?_
  refine g_aload_n (pc := 342) o dL_law_342 rfl ?_
  refine g_iload_n (pc := 343) o dL_law_343 rfl ?_
  refine g_iconst (pc := 344) o dL_law_344 2 rfl ?_
  refine g_iadd (pc := 345) o dL_law_345 ?_
  refine n_sld (pc := 346) o sc (n + 2) (nI_add n 2) (by omega) hL dL_law_346 ?_
  refine g_callVQi (pc := 347) o (mo_far (h := h2) (xs (n + 1)) (xs (n + 2))) mt_X10_far mv_X10_far lk_L_27 rfl rfl rfl (by decide) rfl (Nat.le_of_ble_eq_true rfl) dL_law_347 ?_
  rintro r2 h3 ⟨e2, a3, m3⟩
  rw [A2] at e2 a3
  exact g_ic_eq (pc := 350) o 1850 dL_law_350 (by decide) (fun _ => k h3 (LV_end (op_far (xs (n + 1)) (xs (n + 2)) (absM h)) a3 C2 m3 (Iv_far V.2 (xs (n + 1)) (xs (n + 2))))) (fun c => absurd (e1.trans e2.symm) c)
set_option maxRecDepth 100000 in
set_option maxHeartbeats 400000 in
theorem lc_seen {Γ : Fr} (o : ca_O Γ cL_law 4 RL 13 492) {L : Nat} {xs : Nat → Int32} (sc : scO Γ L xs) {h : Mem} (V : LV h) {n : Nat} (hn : n + 6 ≤ L) (hL : L < 2 ^ 31) (k : ∀ h2 : Mem, LV h2 → ca_G Γ 4 h2 1850 (lwL n) []) : ca_G Γ 4 h 355 (lwL n) [] := by
  refine g_aload_n (pc := 355) o dL_law_355 rfl ?_
  refine g_aload_n (pc := 356) o dL_law_356 rfl ?_
  refine g_iload_n (pc := 357) o dL_law_357 rfl ?_
  refine g_iconst (pc := 358) o dL_law_358 1 rfl ?_
  refine g_iadd (pc := 359) o dL_law_359 ?_
  refine n_sld (pc := 360) o sc (n + 1) (nI_add n 1) (by omega) hL dL_law_360 ?_
  refine g_aload_n (pc := 361) o dL_law_361 rfl ?_
  refine g_iload_n (pc := 362) o dL_law_362 rfl ?_
  refine g_iconst (pc := 363) o dL_law_363 2 rfl ?_
  refine g_iadd (pc := 364) o dL_law_364 ?_
  refine n_sld (pc := 365) o sc (n + 2) (nI_add n 2) (by omega) hL dL_law_365 ?_
  refine g_aload_n (pc := 366) o dL_law_366 rfl ?_
  refine g_iload_n (pc := 367) o dL_law_367 rfl ?_
  refine g_iconst (pc := 368) o dL_law_368 3 rfl ?_
  refine g_iadd (pc := 369) o dL_law_369 ?_
  refine n_sld (pc := 370) o sc (n + 3) (nI_add n 3) (by omega) hL dL_law_370 ?_
  refine g_callVQi (pc := 371) o (co_seen V.1 V.2 (xs (n + 1)) (xs (n + 2)) (xs (n + 3))) mt_X9_seen mv_X9_seen lk_L_28 rfl rfl rfl (by decide) rfl (Nat.le_of_ble_eq_true rfl) dL_law_371 ?_
  rintro r1 h2 ⟨e1, C2, m2⟩
  have A2 := abs_kM m2
  have I2 : Iv (absM h2) := by rw [A2]; exact V.2
  refine g_aload_n (pc := 374) o dL_law_374 rfl ?_
  refine g_aload_n (pc := 375) o dL_law_375 rfl ?_
  refine g_iload_n (pc := 376) o dL_law_376 rfl ?_
  refine g_iconst (pc := 377) o dL_law_377 1 rfl ?_
  refine g_iadd (pc := 378) o dL_law_378 ?_
  refine n_sld (pc := 379) o sc (n + 1) (nI_add n 1) (by omega) hL dL_law_379 ?_
  refine g_aload_n (pc := 380) o dL_law_380 rfl ?_
  refine g_iload_n (pc := 381) o dL_law_381 rfl ?_
  refine g_iconst (pc := 382) o dL_law_382 2 rfl ?_
  refine g_iadd (pc := 383) o dL_law_383 ?_
  refine n_sld (pc := 384) o sc (n + 2) (nI_add n 2) (by omega) hL dL_law_384 ?_
  refine g_aload_n (pc := 385) o dL_law_385 rfl ?_
  refine g_iload_n (pc := 386) o dL_law_386 rfl ?_
  refine g_iconst (pc := 387) o dL_law_387 3 rfl ?_
  refine g_iadd (pc := 388) o dL_law_388 ?_
  refine n_sld (pc := 389) o sc (n + 3) (nI_add n 3) (by omega) hL dL_law_389 ?_
  refine g_callVQi (pc := 390) o (mo_seen (h := h2) I2 (xs (n + 1)) (xs (n + 2)) (xs (n + 3))) mt_X10_seen mv_X10_seen lk_L_32 rfl rfl rfl (by decide) rfl (Nat.le_of_ble_eq_true rfl) dL_law_390 ?_
  rintro r2 h3 ⟨e2, a3, m3⟩
  rw [A2] at e2 a3
  exact g_ic_eq (pc := 393) o 1850 dL_law_393 (by decide) (fun _ => k h3 (LV_end (op_seen (xs (n + 1)) (xs (n + 2)) (xs (n + 3)) (absM h)) a3 C2 m3 (Iv_seen V.2 (xs (n + 1)) (xs (n + 2)) (xs (n + 3))))) (fun c => absurd (e1.trans e2.symm) c)
set_option maxRecDepth 100000 in
set_option maxHeartbeats 400000 in
theorem lc_seenOf {Γ : Fr} (o : ca_O Γ cL_law 4 RL 13 492) {L : Nat} {xs : Nat → Int32} (sc : scO Γ L xs) {h : Mem} (V : LV h) {n : Nat} (hn : n + 6 ≤ L) (hL : L < 2 ^ 31) (k : ∀ h2 : Mem, LV h2 → ca_G Γ 4 h2 1850 (lwL n) []) : ca_G Γ 4 h 398 (lwL n) [] := by
  refine g_aload_n (pc := 398) o dL_law_398 rfl ?_
  refine g_aload_n (pc := 399) o dL_law_399 rfl ?_
  refine g_iload_n (pc := 400) o dL_law_400 rfl ?_
  refine g_iconst (pc := 401) o dL_law_401 1 rfl ?_
  refine g_iadd (pc := 402) o dL_law_402 ?_
  refine n_sld (pc := 403) o sc (n + 1) (nI_add n 1) (by omega) hL dL_law_403 ?_
  refine g_aload_n (pc := 404) o dL_law_404 rfl ?_
  refine g_iload_n (pc := 405) o dL_law_405 rfl ?_
  refine g_iconst (pc := 406) o dL_law_406 2 rfl ?_
  refine g_iadd (pc := 407) o dL_law_407 ?_
  refine n_sld (pc := 408) o sc (n + 2) (nI_add n 2) (by omega) hL dL_law_408 ?_
  refine g_callVQi (pc := 409) o (co_seenOf V.1 V.2 (xs (n + 1)) (xs (n + 2))) mt_X9_seenOf mv_X9_seenOf lk_L_33 rfl rfl rfl (by decide) rfl (Nat.le_of_ble_eq_true rfl) dL_law_409 ?_
  rintro r1 h2 ⟨e1, C2, m2⟩
  have A2 := abs_kM m2
  have I2 : Iv (absM h2) := by rw [A2]; exact V.2
  refine g_aload_n (pc := 412) o dL_law_412 rfl ?_
  refine g_aload_n (pc := 413) o dL_law_413 rfl ?_
  refine g_iload_n (pc := 414) o dL_law_414 rfl ?_
  refine g_iconst (pc := 415) o dL_law_415 1 rfl ?_
  refine g_iadd (pc := 416) o dL_law_416 ?_
  refine n_sld (pc := 417) o sc (n + 1) (nI_add n 1) (by omega) hL dL_law_417 ?_
  refine g_aload_n (pc := 418) o dL_law_418 rfl ?_
  refine g_iload_n (pc := 419) o dL_law_419 rfl ?_
  refine g_iconst (pc := 420) o dL_law_420 2 rfl ?_
  refine g_iadd (pc := 421) o dL_law_421 ?_
  refine n_sld (pc := 422) o sc (n + 2) (nI_add n 2) (by omega) hL dL_law_422 ?_
  refine g_callVQi (pc := 423) o (mo_seenOf (h := h2) I2 (xs (n + 1)) (xs (n + 2))) mt_X10_seenOf mv_X10_seenOf lk_L_36 rfl rfl rfl (by decide) rfl (Nat.le_of_ble_eq_true rfl) dL_law_423 ?_
  rintro r2 h3 ⟨e2, a3, m3⟩
  rw [A2] at e2 a3
  exact g_ic_eq (pc := 426) o 1850 dL_law_426 (by decide) (fun _ => k h3 (LV_end (op_seenOf (xs (n + 1)) (xs (n + 2)) (absM h)) a3 C2 m3 (Iv_seenOf V.2 (xs (n + 1)) (xs (n + 2))))) (fun c => absurd (e1.trans e2.symm) c)
set_option maxRecDepth 100000 in
set_option maxHeartbeats 400000 in
theorem lc_where {Γ : Fr} (o : ca_O Γ cL_law 4 RL 13 492) {L : Nat} {xs : Nat → Int32} (sc : scO Γ L xs) {h : Mem} (V : LV h) {n : Nat} (hn : n + 6 ≤ L) (hL : L < 2 ^ 31) (k : ∀ h2 : Mem, LV h2 → ca_G Γ 4 h2 1850 (lwL n) []) : ca_G Γ 4 h 431 (lwL n) [] := by
  refine g_aload_n (pc := 431) o dL_law_431 rfl ?_
  refine g_aload_n (pc := 432) o dL_law_432 rfl ?_
  refine g_iload_n (pc := 433) o dL_law_433 rfl ?_
  refine g_iconst (pc := 434) o dL_law_434 1 rfl ?_
  refine g_iadd (pc := 435) o dL_law_435 ?_
  refine n_sld (pc := 436) o sc (n + 1) (nI_add n 1) (by omega) hL dL_law_436 ?_
  refine g_aload_n (pc := 437) o dL_law_437 rfl ?_
  refine g_iload_n (pc := 438) o dL_law_438 rfl ?_
  refine g_iconst (pc := 439) o dL_law_439 2 rfl ?_
  refine g_iadd (pc := 440) o dL_law_440 ?_
  refine n_sld (pc := 441) o sc (n + 2) (nI_add n 2) (by omega) hL dL_law_441 ?_
  refine g_callVQi (pc := 442) o (co_where V.1 V.2 (xs (n + 1)) (xs (n + 2))) mt_X9_where mv_X9_where lk_L_37 rfl rfl rfl (by decide) rfl (Nat.le_of_ble_eq_true rfl) dL_law_442 ?_
  rintro r1 h2 ⟨e1, C2, m2⟩
  have A2 := abs_kM m2
  have I2 : Iv (absM h2) := by rw [A2]; exact V.2
  refine g_aload_n (pc := 445) o dL_law_445 rfl ?_
  refine g_aload_n (pc := 446) o dL_law_446 rfl ?_
  refine g_iload_n (pc := 447) o dL_law_447 rfl ?_
  refine g_iconst (pc := 448) o dL_law_448 1 rfl ?_
  refine g_iadd (pc := 449) o dL_law_449 ?_
  refine n_sld (pc := 450) o sc (n + 1) (nI_add n 1) (by omega) hL dL_law_450 ?_
  refine g_aload_n (pc := 451) o dL_law_451 rfl ?_
  refine g_iload_n (pc := 452) o dL_law_452 rfl ?_
  refine g_iconst (pc := 453) o dL_law_453 2 rfl ?_
  refine g_iadd (pc := 454) o dL_law_454 ?_
  refine n_sld (pc := 455) o sc (n + 2) (nI_add n 2) (by omega) hL dL_law_455 ?_
  refine g_callVQi (pc := 456) o (mo_where (h := h2) I2 (xs (n + 1)) (xs (n + 2))) mt_X10_where mv_X10_where lk_L_40 rfl rfl rfl (by decide) rfl (Nat.le_of_ble_eq_true rfl) dL_law_456 ?_
  rintro r2 h3 ⟨e2, a3, m3⟩
  rw [A2] at e2 a3
  exact g_ic_eq (pc := 459) o 1850 dL_law_459 (by decide) (fun _ => k h3 (LV_end (op_where (xs (n + 1)) (xs (n + 2)) (absM h)) a3 C2 m3 (Iv_where V.2 (xs (n + 1)) (xs (n + 2))))) (fun c => absurd (e1.trans e2.symm) c)
set_option maxRecDepth 100000 in
set_option maxHeartbeats 400000 in
theorem lc_could {Γ : Fr} (o : ca_O Γ cL_law 4 RL 13 492) {L : Nat} {xs : Nat → Int32} (sc : scO Γ L xs) {h : Mem} (V : LV h) {n : Nat} (hn : n + 6 ≤ L) (hL : L < 2 ^ 31) (k : ∀ h2 : Mem, LV h2 → ca_G Γ 4 h2 1850 (lwL n) []) : ca_G Γ 4 h 464 (lwL n) [] := by
  refine g_aload_n (pc := 464) o dL_law_464 rfl ?_
  refine g_aload_n (pc := 465) o dL_law_465 rfl ?_
  refine g_iload_n (pc := 466) o dL_law_466 rfl ?_
  refine g_iconst (pc := 467) o dL_law_467 1 rfl ?_
  refine g_iadd (pc := 468) o dL_law_468 ?_
  refine n_sld (pc := 469) o sc (n + 1) (nI_add n 1) (by omega) hL dL_law_469 ?_
  refine g_aload_n (pc := 470) o dL_law_470 rfl ?_
  refine g_iload_n (pc := 471) o dL_law_471 rfl ?_
  refine g_iconst (pc := 472) o dL_law_472 2 rfl ?_
  refine g_iadd (pc := 473) o dL_law_473 ?_
  refine n_sld (pc := 474) o sc (n + 2) (nI_add n 2) (by omega) hL dL_law_474 ?_
  refine g_callVQi (pc := 475) o (co_could V.1 V.2 (xs (n + 1)) (xs (n + 2))) mt_X9_could mv_X9_could lk_L_41 rfl rfl rfl (by decide) rfl (Nat.le_of_ble_eq_true rfl) dL_law_475 ?_
  rintro r1 h2 ⟨e1, C2, m2⟩
  have A2 := abs_kM m2
  have I2 : Iv (absM h2) := by rw [A2]; exact V.2
  refine g_aload_n (pc := 478) o dL_law_478 rfl ?_
  refine g_aload_n (pc := 479) o dL_law_479 rfl ?_
  refine g_iload_n (pc := 480) o dL_law_480 rfl ?_
  refine g_iconst (pc := 481) o dL_law_481 1 rfl ?_
  refine g_iadd (pc := 482) o dL_law_482 ?_
  refine n_sld (pc := 483) o sc (n + 1) (nI_add n 1) (by omega) hL dL_law_483 ?_
  refine g_aload_n (pc := 484) o dL_law_484 rfl ?_
  refine g_iload_n (pc := 485) o dL_law_485 rfl ?_
  refine g_iconst (pc := 486) o dL_law_486 2 rfl ?_
  refine g_iadd (pc := 487) o dL_law_487 ?_
  refine n_sld (pc := 488) o sc (n + 2) (nI_add n 2) (by omega) hL dL_law_488 ?_
  refine g_callVQi (pc := 489) o (mo_could (h := h2) I2 (xs (n + 1)) (xs (n + 2))) mt_X10_could mv_X10_could lk_L_44 rfl rfl rfl (by decide) rfl (Nat.le_of_ble_eq_true rfl) dL_law_489 ?_
  rintro r2 h3 ⟨e2, a3, m3⟩
  rw [A2] at e2 a3
  exact g_ic_eq (pc := 492) o 1850 dL_law_492 (by decide) (fun _ => k h3 (LV_end (op_could (xs (n + 1)) (xs (n + 2)) (absM h)) a3 C2 m3 (Iv_could V.2 (xs (n + 1)) (xs (n + 2))))) (fun c => absurd (e1.trans e2.symm) c)
set_option maxRecDepth 100000 in
set_option maxHeartbeats 400000 in
theorem lc_drift {Γ : Fr} (o : ca_O Γ cL_law 4 RL 13 492) {L : Nat} {xs : Nat → Int32} (sc : scO Γ L xs) {h : Mem} (V : LV h) {n : Nat} (hn : n + 6 ≤ L) (hL : L < 2 ^ 31) (k : ∀ h2 : Mem, LV h2 → ca_G Γ 4 h2 1850 (lwL n) []) : ca_G Γ 4 h 497 (lwL n) [] := by
  refine g_aload_n (pc := 497) o dL_law_497 rfl ?_
  refine g_aload_n (pc := 498) o dL_law_498 rfl ?_
  refine g_iload_n (pc := 499) o dL_law_499 rfl ?_
  refine g_iconst (pc := 500) o dL_law_500 1 rfl ?_
  refine g_iadd (pc := 501) o dL_law_501 ?_
  refine n_sld (pc := 502) o sc (n + 1) (nI_add n 1) (by omega) hL dL_law_502 ?_
  refine g_aload_n (pc := 503) o dL_law_503 rfl ?_
  refine g_iload_n (pc := 504) o dL_law_504 rfl ?_
  refine g_iconst (pc := 505) o dL_law_505 2 rfl ?_
  refine g_iadd (pc := 506) o dL_law_506 ?_
  refine n_sld (pc := 507) o sc (n + 2) (nI_add n 2) (by omega) hL dL_law_507 ?_
  refine g_aload_n (pc := 508) o dL_law_508 rfl ?_
  refine g_iload_n (pc := 509) o dL_law_509 rfl ?_
  refine g_iconst (pc := 510) o dL_law_510 3 rfl ?_
  refine g_iadd (pc := 511) o dL_law_511 ?_
  refine n_sld (pc := 512) o sc (n + 3) (nI_add n 3) (by omega) hL dL_law_512 ?_
  refine g_callVQi (pc := 513) o (co_drift V.1 V.2 (xs (n + 1)) (xs (n + 2)) (xs (n + 3))) mt_X9_drift mv_X9_drift lk_L_45 rfl rfl rfl (by decide) rfl (Nat.le_of_ble_eq_true rfl) dL_law_513 ?_
  rintro r1 h2 ⟨e1, C2, m2⟩
  have A2 := abs_kM m2
  have I2 : Iv (absM h2) := by rw [A2]; exact V.2
  refine g_aload_n (pc := 516) o dL_law_516 rfl ?_
  refine g_aload_n (pc := 517) o dL_law_517 rfl ?_
  refine g_iload_n (pc := 518) o dL_law_518 rfl ?_
  refine g_iconst (pc := 519) o dL_law_519 1 rfl ?_
  refine g_iadd (pc := 520) o dL_law_520 ?_
  refine n_sld (pc := 521) o sc (n + 1) (nI_add n 1) (by omega) hL dL_law_521 ?_
  refine g_aload_n (pc := 522) o dL_law_522 rfl ?_
  refine g_iload_n (pc := 523) o dL_law_523 rfl ?_
  refine g_iconst (pc := 524) o dL_law_524 2 rfl ?_
  refine g_iadd (pc := 525) o dL_law_525 ?_
  refine n_sld (pc := 526) o sc (n + 2) (nI_add n 2) (by omega) hL dL_law_526 ?_
  refine g_aload_n (pc := 527) o dL_law_527 rfl ?_
  refine g_iload_n (pc := 528) o dL_law_528 rfl ?_
  refine g_iconst (pc := 529) o dL_law_529 3 rfl ?_
  refine g_iadd (pc := 530) o dL_law_530 ?_
  refine n_sld (pc := 531) o sc (n + 3) (nI_add n 3) (by omega) hL dL_law_531 ?_
  refine g_callVQi (pc := 532) o (mo_drift (h := h2) I2 (xs (n + 1)) (xs (n + 2)) (xs (n + 3))) mt_X10_drift mv_X10_drift lk_L_48 rfl rfl rfl (by decide) rfl (Nat.le_of_ble_eq_true rfl) dL_law_532 ?_
  rintro r2 h3 ⟨e2, a3, m3⟩
  rw [A2] at e2 a3
  exact g_ic_eq (pc := 535) o 1850 dL_law_535 (by decide) (fun _ => k h3 (LV_end (op_drift (xs (n + 1)) (xs (n + 2)) (xs (n + 3)) (absM h)) a3 C2 m3 (Iv_drift V.2 (xs (n + 1)) (xs (n + 2)) (xs (n + 3))))) (fun c => absurd (e1.trans e2.symm) c)
set_option maxRecDepth 100000 in
set_option maxHeartbeats 400000 in
theorem lc_term {Γ : Fr} (o : ca_O Γ cL_law 4 RL 13 492) {L : Nat} {xs : Nat → Int32} (sc : scO Γ L xs) {h : Mem} (V : LV h) {n : Nat} (hn : n + 6 ≤ L) (hL : L < 2 ^ 31) (k : ∀ h2 : Mem, LV h2 → ca_G Γ 4 h2 1850 (lwL n) []) : ca_G Γ 4 h 540 (lwL n) [] := by
  refine g_aload_n (pc := 540) o dL_law_540 rfl ?_
  refine g_aload_n (pc := 541) o dL_law_541 rfl ?_
  refine g_iload_n (pc := 542) o dL_law_542 rfl ?_
  refine g_iconst (pc := 543) o dL_law_543 1 rfl ?_
  refine g_iadd (pc := 544) o dL_law_544 ?_
  refine n_sld (pc := 545) o sc (n + 1) (nI_add n 1) (by omega) hL dL_law_545 ?_
  refine g_aload_n (pc := 546) o dL_law_546 rfl ?_
  refine g_iload_n (pc := 547) o dL_law_547 rfl ?_
  refine g_iconst (pc := 548) o dL_law_548 2 rfl ?_
  refine g_iadd (pc := 549) o dL_law_549 ?_
  refine n_sld (pc := 550) o sc (n + 2) (nI_add n 2) (by omega) hL dL_law_550 ?_
  refine g_aload_n (pc := 551) o dL_law_551 rfl ?_
  refine g_iload_n (pc := 552) o dL_law_552 rfl ?_
  refine g_iconst (pc := 553) o dL_law_553 3 rfl ?_
  refine g_iadd (pc := 554) o dL_law_554 ?_
  refine n_sld (pc := 555) o sc (n + 3) (nI_add n 3) (by omega) hL dL_law_555 ?_
  refine g_callVQi (pc := 556) o (co_term V.1 V.2 (xs (n + 1)) (xs (n + 2)) (xs (n + 3))) mt_X9_term mv_X9_term lk_L_49 rfl rfl rfl (by decide) rfl (Nat.le_of_ble_eq_true rfl) dL_law_556 ?_
  rintro r1 h2 ⟨e1, C2, m2⟩
  have A2 := abs_kM m2
  have I2 : Iv (absM h2) := by rw [A2]; exact V.2
  refine g_aload_n (pc := 559) o dL_law_559 rfl ?_
  refine g_aload_n (pc := 560) o dL_law_560 rfl ?_
  refine g_iload_n (pc := 561) o dL_law_561 rfl ?_
  refine g_iconst (pc := 562) o dL_law_562 1 rfl ?_
  refine g_iadd (pc := 563) o dL_law_563 ?_
  refine n_sld (pc := 564) o sc (n + 1) (nI_add n 1) (by omega) hL dL_law_564 ?_
  refine g_aload_n (pc := 565) o dL_law_565 rfl ?_
  refine g_iload_n (pc := 566) o dL_law_566 rfl ?_
  refine g_iconst (pc := 567) o dL_law_567 2 rfl ?_
  refine g_iadd (pc := 568) o dL_law_568 ?_
  refine n_sld (pc := 569) o sc (n + 2) (nI_add n 2) (by omega) hL dL_law_569 ?_
  refine g_aload_n (pc := 570) o dL_law_570 rfl ?_
  refine g_iload_n (pc := 571) o dL_law_571 rfl ?_
  refine g_iconst (pc := 572) o dL_law_572 3 rfl ?_
  refine g_iadd (pc := 573) o dL_law_573 ?_
  refine n_sld (pc := 574) o sc (n + 3) (nI_add n 3) (by omega) hL dL_law_574 ?_
  refine g_callVQi (pc := 575) o (mo_term (h := h2) I2 (xs (n + 1)) (xs (n + 2)) (xs (n + 3))) mt_X10_term mv_X10_term lk_L_52 rfl rfl rfl (by decide) rfl (Nat.le_of_ble_eq_true rfl) dL_law_575 ?_
  rintro r2 h3 ⟨e2, a3, m3⟩
  rw [A2] at e2 a3
  exact g_ic_eq (pc := 578) o 1850 dL_law_578 (by decide) (fun _ => k h3 (LV_end (op_term (xs (n + 1)) (xs (n + 2)) (xs (n + 3)) (absM h)) a3 C2 m3 (Iv_term V.2 (xs (n + 1)) (xs (n + 2)) (xs (n + 3))))) (fun c => absurd (e1.trans e2.symm) c)
set_option maxRecDepth 100000 in
set_option maxHeartbeats 400000 in
theorem lc_termOf {Γ : Fr} (o : ca_O Γ cL_law 4 RL 13 492) {L : Nat} {xs : Nat → Int32} (sc : scO Γ L xs) {h : Mem} (V : LV h) {n : Nat} (hn : n + 6 ≤ L) (hL : L < 2 ^ 31) (k : ∀ h2 : Mem, LV h2 → ca_G Γ 4 h2 1850 (lwL n) []) : ca_G Γ 4 h 583 (lwL n) [] := by
  refine g_aload_n (pc := 583) o dL_law_583 rfl ?_
  refine g_aload_n (pc := 584) o dL_law_584 rfl ?_
  refine g_iload_n (pc := 585) o dL_law_585 rfl ?_
  refine g_iconst (pc := 586) o dL_law_586 1 rfl ?_
  refine g_iadd (pc := 587) o dL_law_587 ?_
  refine n_sld (pc := 588) o sc (n + 1) (nI_add n 1) (by omega) hL dL_law_588 ?_
  refine g_aload_n (pc := 589) o dL_law_589 rfl ?_
  refine g_iload_n (pc := 590) o dL_law_590 rfl ?_
  refine g_iconst (pc := 591) o dL_law_591 2 rfl ?_
  refine g_iadd (pc := 592) o dL_law_592 ?_
  refine n_sld (pc := 593) o sc (n + 2) (nI_add n 2) (by omega) hL dL_law_593 ?_
  refine g_callVQi (pc := 594) o (co_termOf V.1 V.2 (xs (n + 1)) (xs (n + 2))) mt_X9_termOf mv_X9_termOf lk_L_53 rfl rfl rfl (by decide) rfl (Nat.le_of_ble_eq_true rfl) dL_law_594 ?_
  rintro r1 h2 ⟨e1, C2, m2⟩
  have A2 := abs_kM m2
  have I2 : Iv (absM h2) := by rw [A2]; exact V.2
  refine g_aload_n (pc := 597) o dL_law_597 rfl ?_
  refine g_aload_n (pc := 598) o dL_law_598 rfl ?_
  refine g_iload_n (pc := 599) o dL_law_599 rfl ?_
  refine g_iconst (pc := 600) o dL_law_600 1 rfl ?_
  refine g_iadd (pc := 601) o dL_law_601 ?_
  refine n_sld (pc := 602) o sc (n + 1) (nI_add n 1) (by omega) hL dL_law_602 ?_
  refine g_aload_n (pc := 603) o dL_law_603 rfl ?_
  refine g_iload_n (pc := 604) o dL_law_604 rfl ?_
  refine g_iconst (pc := 605) o dL_law_605 2 rfl ?_
  refine g_iadd (pc := 606) o dL_law_606 ?_
  refine n_sld (pc := 607) o sc (n + 2) (nI_add n 2) (by omega) hL dL_law_607 ?_
  refine g_callVQi (pc := 608) o (mo_termOf (h := h2) I2 (xs (n + 1)) (xs (n + 2))) mt_X10_termOf mv_X10_termOf lk_L_56 rfl rfl rfl (by decide) rfl (Nat.le_of_ble_eq_true rfl) dL_law_608 ?_
  rintro r2 h3 ⟨e2, a3, m3⟩
  rw [A2] at e2 a3
  exact g_ic_eq (pc := 611) o 1850 dL_law_611 (by decide) (fun _ => k h3 (LV_end (op_termOf (xs (n + 1)) (xs (n + 2)) (absM h)) a3 C2 m3 (Iv_termOf V.2 (xs (n + 1)) (xs (n + 2))))) (fun c => absurd (e1.trans e2.symm) c)
set_option maxRecDepth 100000 in
set_option maxHeartbeats 400000 in
theorem lc_span {Γ : Fr} (o : ca_O Γ cL_law 4 RL 13 492) {L : Nat} {xs : Nat → Int32} (sc : scO Γ L xs) {h : Mem} (V : LV h) {n : Nat} (hn : n + 6 ≤ L) (hL : L < 2 ^ 31) (k : ∀ h2 : Mem, LV h2 → ca_G Γ 4 h2 1850 (lwL n) []) : ca_G Γ 4 h 616 (lwL n) [] := by
  refine g_aload_n (pc := 616) o dL_law_616 rfl ?_
  refine g_aload_n (pc := 617) o dL_law_617 rfl ?_
  refine g_iload_n (pc := 618) o dL_law_618 rfl ?_
  refine g_iconst (pc := 619) o dL_law_619 1 rfl ?_
  refine g_iadd (pc := 620) o dL_law_620 ?_
  refine n_sld (pc := 621) o sc (n + 1) (nI_add n 1) (by omega) hL dL_law_621 ?_
  refine g_aload_n (pc := 622) o dL_law_622 rfl ?_
  refine g_iload_n (pc := 623) o dL_law_623 rfl ?_
  refine g_iconst (pc := 624) o dL_law_624 2 rfl ?_
  refine g_iadd (pc := 625) o dL_law_625 ?_
  refine n_sld (pc := 626) o sc (n + 2) (nI_add n 2) (by omega) hL dL_law_626 ?_
  refine g_aload_n (pc := 627) o dL_law_627 rfl ?_
  refine g_iload_n (pc := 628) o dL_law_628 rfl ?_
  refine g_iconst (pc := 629) o dL_law_629 3 rfl ?_
  refine g_iadd (pc := 630) o dL_law_630 ?_
  refine n_sld (pc := 631) o sc (n + 3) (nI_add n 3) (by omega) hL dL_law_631 ?_
  refine g_aload_n (pc := 632) o dL_law_632 rfl ?_
  refine g_iload_n (pc := 633) o dL_law_633 rfl ?_
  refine g_iconst (pc := 634) o dL_law_634 4 rfl ?_
  refine g_iadd (pc := 635) o dL_law_635 ?_
  refine n_sld (pc := 636) o sc (n + 4) (nI_add n 4) (by omega) hL dL_law_636 ?_
  refine g_callVQi (pc := 637) o (co_span V.1 V.2 (xs (n + 1)) (xs (n + 2)) (xs (n + 3)) (xs (n + 4))) mt_X9_span mv_X9_span lk_L_57 rfl rfl rfl (by decide) rfl (Nat.le_of_ble_eq_true rfl) dL_law_637 ?_
  rintro r1 h2 ⟨e1, C2, m2⟩
  have A2 := abs_kM m2
  have I2 : Iv (absM h2) := by rw [A2]; exact V.2
  refine g_aload_n (pc := 640) o dL_law_640 rfl ?_
  refine g_aload_n (pc := 641) o dL_law_641 rfl ?_
  refine g_iload_n (pc := 642) o dL_law_642 rfl ?_
  refine g_iconst (pc := 643) o dL_law_643 1 rfl ?_
  refine g_iadd (pc := 644) o dL_law_644 ?_
  refine n_sld (pc := 645) o sc (n + 1) (nI_add n 1) (by omega) hL dL_law_645 ?_
  refine g_aload_n (pc := 646) o dL_law_646 rfl ?_
  refine g_iload_n (pc := 647) o dL_law_647 rfl ?_
  refine g_iconst (pc := 648) o dL_law_648 2 rfl ?_
  refine g_iadd (pc := 649) o dL_law_649 ?_
  refine n_sld (pc := 650) o sc (n + 2) (nI_add n 2) (by omega) hL dL_law_650 ?_
  refine g_aload_n (pc := 651) o dL_law_651 rfl ?_
  refine g_iload_n (pc := 652) o dL_law_652 rfl ?_
  refine g_iconst (pc := 653) o dL_law_653 3 rfl ?_
  refine g_iadd (pc := 654) o dL_law_654 ?_
  refine n_sld (pc := 655) o sc (n + 3) (nI_add n 3) (by omega) hL dL_law_655 ?_
  refine g_aload_n (pc := 656) o dL_law_656 rfl ?_
  refine g_iload_n (pc := 657) o dL_law_657 rfl ?_
  refine g_iconst (pc := 658) o dL_law_658 4 rfl ?_
  refine g_iadd (pc := 659) o dL_law_659 ?_
  refine n_sld (pc := 660) o sc (n + 4) (nI_add n 4) (by omega) hL dL_law_660 ?_
  refine g_callVQi (pc := 661) o (mo_span (h := h2) I2 (xs (n + 1)) (xs (n + 2)) (xs (n + 3)) (xs (n + 4))) mt_X10_span mv_X10_span lk_L_61 rfl rfl rfl (by decide) rfl (Nat.le_of_ble_eq_true rfl) dL_law_661 ?_
  rintro r2 h3 ⟨e2, a3, m3⟩
  rw [A2] at e2 a3
  exact g_ic_eq (pc := 664) o 1850 dL_law_664 (by decide) (fun _ => k h3 (LV_end (op_span (xs (n + 1)) (xs (n + 2)) (xs (n + 3)) (xs (n + 4)) (absM h)) a3 C2 m3 (Iv_span V.2 (xs (n + 1)) (xs (n + 2)) (xs (n + 3)) (xs (n + 4))))) (fun c => absurd (e1.trans e2.symm) c)
set_option maxRecDepth 100000 in
set_option maxHeartbeats 400000 in
theorem lc_turn {Γ : Fr} (o : ca_O Γ cL_law 4 RL 13 492) {L : Nat} {xs : Nat → Int32} (sc : scO Γ L xs) {h : Mem} (V : LV h) {n : Nat} (hn : n + 6 ≤ L) (hL : L < 2 ^ 31) (k : ∀ h2 : Mem, LV h2 → ca_G Γ 4 h2 1850 (lwL n) []) : ca_G Γ 4 h 669 (lwL n) [] := by
  refine g_aload_n (pc := 669) o dL_law_669 rfl ?_
  refine g_aload_n (pc := 670) o dL_law_670 rfl ?_
  refine g_iload_n (pc := 671) o dL_law_671 rfl ?_
  refine g_iconst (pc := 672) o dL_law_672 1 rfl ?_
  refine g_iadd (pc := 673) o dL_law_673 ?_
  refine n_sld (pc := 674) o sc (n + 1) (nI_add n 1) (by omega) hL dL_law_674 ?_
  refine g_aload_n (pc := 675) o dL_law_675 rfl ?_
  refine g_iload_n (pc := 676) o dL_law_676 rfl ?_
  refine g_iconst (pc := 677) o dL_law_677 2 rfl ?_
  refine g_iadd (pc := 678) o dL_law_678 ?_
  refine n_sld (pc := 679) o sc (n + 2) (nI_add n 2) (by omega) hL dL_law_679 ?_
  refine g_callVQi (pc := 680) o (co_turn V.1 V.2 (xs (n + 1)) (xs (n + 2))) mt_X9_turn mv_X9_turn lk_L_62 rfl rfl rfl (by decide) rfl (Nat.le_of_ble_eq_true rfl) dL_law_680 ?_
  rintro r1 h2 ⟨e1, C2, m2⟩
  have A2 := abs_kM m2
  have I2 : Iv (absM h2) := by rw [A2]; exact V.2
  refine g_aload_n (pc := 683) o dL_law_683 rfl ?_
  refine g_aload_n (pc := 684) o dL_law_684 rfl ?_
  refine g_iload_n (pc := 685) o dL_law_685 rfl ?_
  refine g_iconst (pc := 686) o dL_law_686 1 rfl ?_
  refine g_iadd (pc := 687) o dL_law_687 ?_
  refine n_sld (pc := 688) o sc (n + 1) (nI_add n 1) (by omega) hL dL_law_688 ?_
  refine g_aload_n (pc := 689) o dL_law_689 rfl ?_
  refine g_iload_n (pc := 690) o dL_law_690 rfl ?_
  refine g_iconst (pc := 691) o dL_law_691 2 rfl ?_
  refine g_iadd (pc := 692) o dL_law_692 ?_
  refine n_sld (pc := 693) o sc (n + 2) (nI_add n 2) (by omega) hL dL_law_693 ?_
  refine g_callVQi (pc := 694) o (mo_turn (h := h2) I2 (xs (n + 1)) (xs (n + 2))) mt_X10_turn mv_X10_turn lk_L_65 rfl rfl rfl (by decide) rfl (Nat.le_of_ble_eq_true rfl) dL_law_694 ?_
  rintro r2 h3 ⟨e2, a3, m3⟩
  rw [A2] at e2 a3
  exact g_ic_eq (pc := 697) o 1850 dL_law_697 (by decide) (fun _ => k h3 (LV_end (op_turn (xs (n + 1)) (xs (n + 2)) (absM h)) a3 C2 m3 (Iv_turn V.2 (xs (n + 1)) (xs (n + 2))))) (fun c => absurd (e1.trans e2.symm) c)
set_option maxRecDepth 100000 in
set_option maxHeartbeats 400000 in
theorem lc_change {Γ : Fr} (o : ca_O Γ cL_law 4 RL 13 492) {L : Nat} {xs : Nat → Int32} (sc : scO Γ L xs) {h : Mem} (V : LV h) {n : Nat} (hn : n + 6 ≤ L) (hL : L < 2 ^ 31) (k : ∀ h2 : Mem, LV h2 → ca_G Γ 4 h2 1850 (lwL n) []) : ca_G Γ 4 h 702 (lwL n) [] := by
  refine g_aload_n (pc := 702) o dL_law_702 rfl ?_
  refine g_aload_n (pc := 703) o dL_law_703 rfl ?_
  refine g_iload_n (pc := 704) o dL_law_704 rfl ?_
  refine g_iconst (pc := 705) o dL_law_705 1 rfl ?_
  refine g_iadd (pc := 706) o dL_law_706 ?_
  refine n_sld (pc := 707) o sc (n + 1) (nI_add n 1) (by omega) hL dL_law_707 ?_
  refine g_aload_n (pc := 708) o dL_law_708 rfl ?_
  refine g_iload_n (pc := 709) o dL_law_709 rfl ?_
  refine g_iconst (pc := 710) o dL_law_710 2 rfl ?_
  refine g_iadd (pc := 711) o dL_law_711 ?_
  refine n_sld (pc := 712) o sc (n + 2) (nI_add n 2) (by omega) hL dL_law_712 ?_
  refine g_aload_n (pc := 713) o dL_law_713 rfl ?_
  refine g_iload_n (pc := 714) o dL_law_714 rfl ?_
  refine g_iconst (pc := 715) o dL_law_715 3 rfl ?_
  refine g_iadd (pc := 716) o dL_law_716 ?_
  refine n_sld (pc := 717) o sc (n + 3) (nI_add n 3) (by omega) hL dL_law_717 ?_
  refine g_callVQi (pc := 718) o (co_change V.1 V.2 (xs (n + 1)) (xs (n + 2)) (xs (n + 3))) mt_X9_change mv_X9_change lk_L_66 rfl rfl rfl (by decide) rfl (Nat.le_of_ble_eq_true rfl) dL_law_718 ?_
  rintro r1 h2 ⟨e1, C2, m2⟩
  have A2 := abs_kM m2
  have I2 : Iv (absM h2) := by rw [A2]; exact V.2
  refine g_aload_n (pc := 721) o dL_law_721 rfl ?_
  refine g_aload_n (pc := 722) o dL_law_722 rfl ?_
  refine g_iload_n (pc := 723) o dL_law_723 rfl ?_
  refine g_iconst (pc := 724) o dL_law_724 1 rfl ?_
  refine g_iadd (pc := 725) o dL_law_725 ?_
  refine n_sld (pc := 726) o sc (n + 1) (nI_add n 1) (by omega) hL dL_law_726 ?_
  refine g_aload_n (pc := 727) o dL_law_727 rfl ?_
  refine g_iload_n (pc := 728) o dL_law_728 rfl ?_
  refine g_iconst (pc := 729) o dL_law_729 2 rfl ?_
  refine g_iadd (pc := 730) o dL_law_730 ?_
  refine n_sld (pc := 731) o sc (n + 2) (nI_add n 2) (by omega) hL dL_law_731 ?_
  refine g_aload_n (pc := 732) o dL_law_732 rfl ?_
  refine g_iload_n (pc := 733) o dL_law_733 rfl ?_
  refine g_iconst (pc := 734) o dL_law_734 3 rfl ?_
  refine g_iadd (pc := 735) o dL_law_735 ?_
  refine n_sld (pc := 736) o sc (n + 3) (nI_add n 3) (by omega) hL dL_law_736 ?_
  refine g_callVQi (pc := 737) o (mo_change (h := h2) I2 (xs (n + 1)) (xs (n + 2)) (xs (n + 3))) mt_X10_change mv_X10_change lk_L_69 rfl rfl rfl (by decide) rfl (Nat.le_of_ble_eq_true rfl) dL_law_737 ?_
  rintro r2 h3 ⟨e2, a3, m3⟩
  rw [A2] at e2 a3
  exact g_ic_eq (pc := 740) o 1850 dL_law_740 (by decide) (fun _ => k h3 (LV_end (op_change (xs (n + 1)) (xs (n + 2)) (xs (n + 3)) (absM h)) a3 C2 m3 (Iv_change V.2 (xs (n + 1)) (xs (n + 2)) (xs (n + 3))))) (fun c => absurd (e1.trans e2.symm) c)
set_option maxRecDepth 100000 in
set_option maxHeartbeats 400000 in
theorem lc_bad {Γ : Fr} (o : ca_O Γ cL_law 4 RL 13 492) {L : Nat} {xs : Nat → Int32} (sc : scO Γ L xs) {h : Mem} (V : LV h) {n : Nat} (hn : n + 6 ≤ L) (hL : L < 2 ^ 31) (k : ∀ h2 : Mem, LV h2 → ca_G Γ 4 h2 1850 (lwL n) []) : ca_G Γ 4 h 745 (lwL n) [] := by
  refine g_aload_n (pc := 745) o dL_law_745 rfl ?_
  refine g_aload_n (pc := 746) o dL_law_746 rfl ?_
  refine g_iload_n (pc := 747) o dL_law_747 rfl ?_
  refine g_iconst (pc := 748) o dL_law_748 1 rfl ?_
  refine g_iadd (pc := 749) o dL_law_749 ?_
  refine n_sld (pc := 750) o sc (n + 1) (nI_add n 1) (by omega) hL dL_law_750 ?_
  refine g_callVQi (pc := 751) o (co_bad V.1 V.2 (xs (n + 1))) mt_X9_bad mv_X9_bad lk_L_70 rfl rfl rfl (by decide) rfl (Nat.le_of_ble_eq_true rfl) dL_law_751 ?_
  rintro r1 h2 ⟨e1, C2, m2⟩
  have A2 := abs_kM m2
  have I2 : Iv (absM h2) := by rw [A2]; exact V.2
  refine g_aload_n (pc := 754) o dL_law_754 rfl ?_
  refine g_aload_n (pc := 755) o dL_law_755 rfl ?_
  refine g_iload_n (pc := 756) o dL_law_756 rfl ?_
  refine g_iconst (pc := 757) o dL_law_757 1 rfl ?_
  refine g_iadd (pc := 758) o dL_law_758 ?_
  refine n_sld (pc := 759) o sc (n + 1) (nI_add n 1) (by omega) hL dL_law_759 ?_
  refine g_callVQi (pc := 760) o (mo_bad (h := h2) I2 (xs (n + 1))) mt_X10_bad mv_X10_bad lk_L_73 rfl rfl rfl (by decide) rfl (Nat.le_of_ble_eq_true rfl) dL_law_760 ?_
  rintro r2 h3 ⟨e2, a3, m3⟩
  rw [A2] at e2 a3
  exact g_ic_eq (pc := 763) o 1850 dL_law_763 (by decide) (fun _ => k h3 (LV_end (op_bad (xs (n + 1)) (absM h)) a3 C2 m3 (Iv_bad V.2 (xs (n + 1))))) (fun c => absurd (e1.trans e2.symm) c)
set_option maxRecDepth 100000 in
set_option maxHeartbeats 400000 in
theorem lc_inForce {Γ : Fr} (o : ca_O Γ cL_law 4 RL 13 492) {L : Nat} {xs : Nat → Int32} (sc : scO Γ L xs) {h : Mem} (V : LV h) {n : Nat} (hn : n + 6 ≤ L) (hL : L < 2 ^ 31) (k : ∀ h2 : Mem, LV h2 → ca_G Γ 4 h2 1850 (lwL n) []) : ca_G Γ 4 h 768 (lwL n) [] := by
  refine g_aload_n (pc := 768) o dL_law_768 rfl ?_
  refine g_aload_n (pc := 769) o dL_law_769 rfl ?_
  refine g_iload_n (pc := 770) o dL_law_770 rfl ?_
  refine g_iconst (pc := 771) o dL_law_771 1 rfl ?_
  refine g_iadd (pc := 772) o dL_law_772 ?_
  refine n_sld (pc := 773) o sc (n + 1) (nI_add n 1) (by omega) hL dL_law_773 ?_
  refine g_aload_n (pc := 774) o dL_law_774 rfl ?_
  refine g_iload_n (pc := 775) o dL_law_775 rfl ?_
  refine g_iconst (pc := 776) o dL_law_776 2 rfl ?_
  refine g_iadd (pc := 777) o dL_law_777 ?_
  refine n_sld (pc := 778) o sc (n + 2) (nI_add n 2) (by omega) hL dL_law_778 ?_
  refine g_callVQi (pc := 779) o (co_inForce V.1 V.2 (xs (n + 1)) (xs (n + 2))) mt_X9_inForce mv_X9_inForce lk_L_74 rfl rfl rfl (by decide) rfl (Nat.le_of_ble_eq_true rfl) dL_law_779 ?_
  rintro r1 h2 ⟨e1, C2, m2⟩
  have A2 := abs_kM m2
  have I2 : Iv (absM h2) := by rw [A2]; exact V.2
  refine g_aload_n (pc := 782) o dL_law_782 rfl ?_
  refine g_aload_n (pc := 783) o dL_law_783 rfl ?_
  refine g_iload_n (pc := 784) o dL_law_784 rfl ?_
  refine g_iconst (pc := 785) o dL_law_785 1 rfl ?_
  refine g_iadd (pc := 786) o dL_law_786 ?_
  refine n_sld (pc := 787) o sc (n + 1) (nI_add n 1) (by omega) hL dL_law_787 ?_
  refine g_aload_n (pc := 788) o dL_law_788 rfl ?_
  refine g_iload_n (pc := 789) o dL_law_789 rfl ?_
  refine g_iconst (pc := 790) o dL_law_790 2 rfl ?_
  refine g_iadd (pc := 791) o dL_law_791 ?_
  refine n_sld (pc := 792) o sc (n + 2) (nI_add n 2) (by omega) hL dL_law_792 ?_
  refine g_callVQi (pc := 793) o (mo_inForce (h := h2) I2 (xs (n + 1)) (xs (n + 2))) mt_X10_inForce mv_X10_inForce lk_L_77 rfl rfl rfl (by decide) rfl (Nat.le_of_ble_eq_true rfl) dL_law_793 ?_
  rintro r2 h3 ⟨e2, a3, m3⟩
  rw [A2] at e2 a3
  exact g_ic_eq (pc := 796) o 1850 dL_law_796 (by decide) (fun _ => k h3 (LV_end (op_inForce (xs (n + 1)) (xs (n + 2)) (absM h)) a3 C2 m3 (Iv_inForce V.2 (xs (n + 1)) (xs (n + 2))))) (fun c => absurd (e1.trans e2.symm) c)
set_option maxRecDepth 100000 in
set_option maxHeartbeats 400000 in
theorem lc_kept {Γ : Fr} (o : ca_O Γ cL_law 4 RL 13 492) {L : Nat} {xs : Nat → Int32} (sc : scO Γ L xs) {h : Mem} (V : LV h) {n : Nat} (hn : n + 6 ≤ L) (hL : L < 2 ^ 31) (k : ∀ h2 : Mem, LV h2 → ca_G Γ 4 h2 1850 (lwL n) []) : ca_G Γ 4 h 801 (lwL n) [] := by
  refine g_aload_n (pc := 801) o dL_law_801 rfl ?_
  refine g_aload_n (pc := 802) o dL_law_802 rfl ?_
  refine g_iload_n (pc := 803) o dL_law_803 rfl ?_
  refine g_iconst (pc := 804) o dL_law_804 1 rfl ?_
  refine g_iadd (pc := 805) o dL_law_805 ?_
  refine n_sld (pc := 806) o sc (n + 1) (nI_add n 1) (by omega) hL dL_law_806 ?_
  refine g_aload_n (pc := 807) o dL_law_807 rfl ?_
  refine g_iload_n (pc := 808) o dL_law_808 rfl ?_
  refine g_iconst (pc := 809) o dL_law_809 2 rfl ?_
  refine g_iadd (pc := 810) o dL_law_810 ?_
  refine n_sld (pc := 811) o sc (n + 2) (nI_add n 2) (by omega) hL dL_law_811 ?_
  refine g_callVQi (pc := 812) o (co_kept V.1 V.2 (xs (n + 1)) (xs (n + 2))) mt_X9_kept mv_X9_kept lk_L_78 rfl rfl rfl (by decide) rfl (Nat.le_of_ble_eq_true rfl) dL_law_812 ?_
  rintro r1 h2 ⟨e1, C2, m2⟩
  have A2 := abs_kM m2
  have I2 : Iv (absM h2) := by rw [A2]; exact V.2
  refine g_aload_n (pc := 815) o dL_law_815 rfl ?_
  refine g_aload_n (pc := 816) o dL_law_816 rfl ?_
  refine g_iload_n (pc := 817) o dL_law_817 rfl ?_
  refine g_iconst (pc := 818) o dL_law_818 1 rfl ?_
  refine g_iadd (pc := 819) o dL_law_819 ?_
  refine n_sld (pc := 820) o sc (n + 1) (nI_add n 1) (by omega) hL dL_law_820 ?_
  refine g_aload_n (pc := 821) o dL_law_821 rfl ?_
  refine g_iload_n (pc := 822) o dL_law_822 rfl ?_
  refine g_iconst (pc := 823) o dL_law_823 2 rfl ?_
  refine g_iadd (pc := 824) o dL_law_824 ?_
  refine n_sld (pc := 825) o sc (n + 2) (nI_add n 2) (by omega) hL dL_law_825 ?_
  refine g_callVQi (pc := 826) o (mo_kept (h := h2) I2 (xs (n + 1)) (xs (n + 2))) mt_X10_kept mv_X10_kept lk_L_81 rfl rfl rfl (by decide) rfl (Nat.le_of_ble_eq_true rfl) dL_law_826 ?_
  rintro r2 h3 ⟨e2, a3, m3⟩
  rw [A2] at e2 a3
  exact g_ic_eq (pc := 829) o 1850 dL_law_829 (by decide) (fun _ => k h3 (LV_end (op_kept (xs (n + 1)) (xs (n + 2)) (absM h)) a3 C2 m3 (Iv_kept V.2 (xs (n + 1)) (xs (n + 2))))) (fun c => absurd (e1.trans e2.symm) c)
set_option maxRecDepth 100000 in
set_option maxHeartbeats 400000 in
theorem lc_count {Γ : Fr} (o : ca_O Γ cL_law 4 RL 13 492) {L : Nat} {xs : Nat → Int32} (sc : scO Γ L xs) {h : Mem} (V : LV h) {n : Nat} (hn : n + 6 ≤ L) (hL : L < 2 ^ 31) (k : ∀ h2 : Mem, LV h2 → ca_G Γ 4 h2 1850 (lwL n) []) : ca_G Γ 4 h 834 (lwL n) [] := by
  refine g_aload_n (pc := 834) o dL_law_834 rfl ?_
  refine g_aload_n (pc := 835) o dL_law_835 rfl ?_
  refine g_iload_n (pc := 836) o dL_law_836 rfl ?_
  refine g_iconst (pc := 837) o dL_law_837 1 rfl ?_
  refine g_iadd (pc := 838) o dL_law_838 ?_
  refine n_sld (pc := 839) o sc (n + 1) (nI_add n 1) (by omega) hL dL_law_839 ?_
  refine g_aload_n (pc := 840) o dL_law_840 rfl ?_
  refine g_iload_n (pc := 841) o dL_law_841 rfl ?_
  refine g_iconst (pc := 842) o dL_law_842 2 rfl ?_
  refine g_iadd (pc := 843) o dL_law_843 ?_
  refine n_sld (pc := 844) o sc (n + 2) (nI_add n 2) (by omega) hL dL_law_844 ?_
  refine g_aload_n (pc := 845) o dL_law_845 rfl ?_
  refine g_iload_n (pc := 846) o dL_law_846 rfl ?_
  refine g_iconst (pc := 847) o dL_law_847 3 rfl ?_
  refine g_iadd (pc := 848) o dL_law_848 ?_
  refine n_sld (pc := 849) o sc (n + 3) (nI_add n 3) (by omega) hL dL_law_849 ?_
  refine g_aload_n (pc := 850) o dL_law_850 rfl ?_
  refine g_iload_n (pc := 851) o dL_law_851 rfl ?_
  refine g_iconst (pc := 852) o dL_law_852 4 rfl ?_
  refine g_iadd (pc := 853) o dL_law_853 ?_
  refine n_sld (pc := 854) o sc (n + 4) (nI_add n 4) (by omega) hL dL_law_854 ?_
  refine g_callVQi (pc := 855) o (co_count V.1 V.2 (xs (n + 1)) (xs (n + 2)) (xs (n + 3)) (xs (n + 4))) mt_X9_count mv_X9_count lk_L_82 rfl rfl rfl (by decide) rfl (Nat.le_of_ble_eq_true rfl) dL_law_855 ?_
  rintro r1 h2 ⟨e1, C2, m2⟩
  have A2 := abs_kM m2
  have I2 : Iv (absM h2) := by rw [A2]; exact V.2
  refine g_aload_n (pc := 858) o dL_law_858 rfl ?_
  refine g_aload_n (pc := 859) o dL_law_859 rfl ?_
  refine g_iload_n (pc := 860) o dL_law_860 rfl ?_
  refine g_iconst (pc := 861) o dL_law_861 1 rfl ?_
  refine g_iadd (pc := 862) o dL_law_862 ?_
  refine n_sld (pc := 863) o sc (n + 1) (nI_add n 1) (by omega) hL dL_law_863 ?_
  refine g_aload_n (pc := 864) o dL_law_864 rfl ?_
  refine g_iload_n (pc := 865) o dL_law_865 rfl ?_
  refine g_iconst (pc := 866) o dL_law_866 2 rfl ?_
  refine g_iadd (pc := 867) o dL_law_867 ?_
  refine n_sld (pc := 868) o sc (n + 2) (nI_add n 2) (by omega) hL dL_law_868 ?_
  refine g_aload_n (pc := 869) o dL_law_869 rfl ?_
  refine g_iload_n (pc := 870) o dL_law_870 rfl ?_
  refine g_iconst (pc := 871) o dL_law_871 3 rfl ?_
  refine g_iadd (pc := 872) o dL_law_872 ?_
  refine n_sld (pc := 873) o sc (n + 3) (nI_add n 3) (by omega) hL dL_law_873 ?_
  refine g_aload_n (pc := 874) o dL_law_874 rfl ?_
  refine g_iload_n (pc := 875) o dL_law_875 rfl ?_
  refine g_iconst (pc := 876) o dL_law_876 4 rfl ?_
  refine g_iadd (pc := 877) o dL_law_877 ?_
  refine n_sld (pc := 878) o sc (n + 4) (nI_add n 4) (by omega) hL dL_law_878 ?_
  refine g_callVQi (pc := 879) o (mo_count (h := h2) I2 (xs (n + 1)) (xs (n + 2)) (xs (n + 3)) (xs (n + 4))) mt_X10_count mv_X10_count lk_L_85 rfl rfl rfl (by decide) rfl (Nat.le_of_ble_eq_true rfl) dL_law_879 ?_
  rintro r2 h3 ⟨e2, a3, m3⟩
  rw [A2] at e2 a3
  exact g_ic_eq (pc := 882) o 1850 dL_law_882 (by decide) (fun _ => k h3 (LV_end (op_count (xs (n + 1)) (xs (n + 2)) (xs (n + 3)) (xs (n + 4)) (absM h)) a3 C2 m3 (Iv_count V.2 (xs (n + 1)) (xs (n + 2)) (xs (n + 3)) (xs (n + 4))))) (fun c => absurd (e1.trans e2.symm) c)
set_option maxRecDepth 100000 in
set_option maxHeartbeats 400000 in
theorem lc_breach {Γ : Fr} (o : ca_O Γ cL_law 4 RL 13 492) {L : Nat} {xs : Nat → Int32} (sc : scO Γ L xs) {h : Mem} (V : LV h) {n : Nat} (hn : n + 6 ≤ L) (hL : L < 2 ^ 31) (k : ∀ h2 : Mem, LV h2 → ca_G Γ 4 h2 1850 (lwL n) []) : ca_G Γ 4 h 887 (lwL n) [] := by
  refine g_aload_n (pc := 887) o dL_law_887 rfl ?_
  refine g_aload_n (pc := 888) o dL_law_888 rfl ?_
  refine g_iload_n (pc := 889) o dL_law_889 rfl ?_
  refine g_iconst (pc := 890) o dL_law_890 1 rfl ?_
  refine g_iadd (pc := 891) o dL_law_891 ?_
  refine n_sld (pc := 892) o sc (n + 1) (nI_add n 1) (by omega) hL dL_law_892 ?_
  refine g_aload_n (pc := 893) o dL_law_893 rfl ?_
  refine g_iload_n (pc := 894) o dL_law_894 rfl ?_
  refine g_iconst (pc := 895) o dL_law_895 2 rfl ?_
  refine g_iadd (pc := 896) o dL_law_896 ?_
  refine n_sld (pc := 897) o sc (n + 2) (nI_add n 2) (by omega) hL dL_law_897 ?_
  refine g_callVQi (pc := 898) o (co_breach V.1 V.2 (xs (n + 1)) (xs (n + 2))) mt_X9_breach mv_X9_breach lk_L_86 rfl rfl rfl (by decide) rfl (Nat.le_of_ble_eq_true rfl) dL_law_898 ?_
  rintro r1 h2 ⟨e1, C2, m2⟩
  have A2 := abs_kM m2
  have I2 : Iv (absM h2) := by rw [A2]; exact V.2
  refine g_aload_n (pc := 901) o dL_law_901 rfl ?_
  refine g_aload_n (pc := 902) o dL_law_902 rfl ?_
  refine g_iload_n (pc := 903) o dL_law_903 rfl ?_
  refine g_iconst (pc := 904) o dL_law_904 1 rfl ?_
  refine g_iadd (pc := 905) o dL_law_905 ?_
  refine n_sld (pc := 906) o sc (n + 1) (nI_add n 1) (by omega) hL dL_law_906 ?_
  refine g_aload_n (pc := 907) o dL_law_907 rfl ?_
  refine g_iload_n (pc := 908) o dL_law_908 rfl ?_
  refine g_iconst (pc := 909) o dL_law_909 2 rfl ?_
  refine g_iadd (pc := 910) o dL_law_910 ?_
  refine n_sld (pc := 911) o sc (n + 2) (nI_add n 2) (by omega) hL dL_law_911 ?_
  refine g_callVQi (pc := 912) o (mo_breach (h := h2) I2 (xs (n + 1)) (xs (n + 2))) mt_X10_breach mv_X10_breach lk_L_89 rfl rfl rfl (by decide) rfl (Nat.le_of_ble_eq_true rfl) dL_law_912 ?_
  rintro r2 h3 ⟨e2, a3, m3⟩
  rw [A2] at e2 a3
  exact g_ic_eq (pc := 915) o 1850 dL_law_915 (by decide) (fun _ => k h3 (LV_end (op_breach (xs (n + 1)) (xs (n + 2)) (absM h)) a3 C2 m3 (Iv_breach V.2 (xs (n + 1)) (xs (n + 2))))) (fun c => absurd (e1.trans e2.symm) c)
set_option maxRecDepth 100000 in
set_option maxHeartbeats 400000 in
theorem lc_way {Γ : Fr} (o : ca_O Γ cL_law 4 RL 13 492) {L : Nat} {xs : Nat → Int32} (sc : scO Γ L xs) {h : Mem} (V : LV h) {n : Nat} (hn : n + 6 ≤ L) (hL : L < 2 ^ 31) (k : ∀ h2 : Mem, LV h2 → ca_G Γ 4 h2 1850 (lwL n) []) : ca_G Γ 4 h 920 (lwL n) [] := by
  refine g_aload_n (pc := 920) o dL_law_920 rfl ?_
  refine g_aload_n (pc := 921) o dL_law_921 rfl ?_
  refine g_iload_n (pc := 922) o dL_law_922 rfl ?_
  refine g_iconst (pc := 923) o dL_law_923 1 rfl ?_
  refine g_iadd (pc := 924) o dL_law_924 ?_
  refine n_sld (pc := 925) o sc (n + 1) (nI_add n 1) (by omega) hL dL_law_925 ?_
  refine g_aload_n (pc := 926) o dL_law_926 rfl ?_
  refine g_iload_n (pc := 927) o dL_law_927 rfl ?_
  refine g_iconst (pc := 928) o dL_law_928 2 rfl ?_
  refine g_iadd (pc := 929) o dL_law_929 ?_
  refine n_sld (pc := 930) o sc (n + 2) (nI_add n 2) (by omega) hL dL_law_930 ?_
  refine g_callVQi (pc := 931) o (co_way V.1 V.2 (xs (n + 1)) (xs (n + 2))) mt_X9_way mv_X9_way lk_L_90 rfl rfl rfl (by decide) rfl (Nat.le_of_ble_eq_true rfl) dL_law_931 ?_
  rintro r1 h2 ⟨e1, C2, m2⟩
  have A2 := abs_kM m2
  have I2 : Iv (absM h2) := by rw [A2]; exact V.2
  refine g_aload_n (pc := 934) o dL_law_934 rfl ?_
  refine g_aload_n (pc := 935) o dL_law_935 rfl ?_
  refine g_iload_n (pc := 936) o dL_law_936 rfl ?_
  refine g_iconst (pc := 937) o dL_law_937 1 rfl ?_
  refine g_iadd (pc := 938) o dL_law_938 ?_
  refine n_sld (pc := 939) o sc (n + 1) (nI_add n 1) (by omega) hL dL_law_939 ?_
  refine g_aload_n (pc := 940) o dL_law_940 rfl ?_
  refine g_iload_n (pc := 941) o dL_law_941 rfl ?_
  refine g_iconst (pc := 942) o dL_law_942 2 rfl ?_
  refine g_iadd (pc := 943) o dL_law_943 ?_
  refine n_sld (pc := 944) o sc (n + 2) (nI_add n 2) (by omega) hL dL_law_944 ?_
  refine g_callVQi (pc := 945) o (mo_way (h := h2) I2 (xs (n + 1)) (xs (n + 2))) mt_X10_way mv_X10_way lk_L_93 rfl rfl rfl (by decide) rfl (Nat.le_of_ble_eq_true rfl) dL_law_945 ?_
  rintro r2 h3 ⟨e2, a3, m3⟩
  rw [A2] at e2 a3
  exact g_ic_eq (pc := 948) o 1850 dL_law_948 (by decide) (fun _ => k h3 (LV_end (op_way (xs (n + 1)) (xs (n + 2)) (absM h)) a3 C2 m3 (Iv_way V.2 (xs (n + 1)) (xs (n + 2))))) (fun c => absurd (e1.trans e2.symm) c)
set_option maxRecDepth 100000 in
set_option maxHeartbeats 400000 in
theorem lc_at {Γ : Fr} (o : ca_O Γ cL_law 4 RL 13 492) {L : Nat} {xs : Nat → Int32} (sc : scO Γ L xs) {h : Mem} (V : LV h) {n : Nat} (hn : n + 6 ≤ L) (hL : L < 2 ^ 31) (k : ∀ h2 : Mem, LV h2 → ca_G Γ 4 h2 1850 (lwL n) []) : ca_G Γ 4 h 953 (lwL n) [] := by
  refine g_aload_n (pc := 953) o dL_law_953 rfl ?_
  refine g_aload_n (pc := 954) o dL_law_954 rfl ?_
  refine g_iload_n (pc := 955) o dL_law_955 rfl ?_
  refine g_iconst (pc := 956) o dL_law_956 1 rfl ?_
  refine g_iadd (pc := 957) o dL_law_957 ?_
  refine n_sld (pc := 958) o sc (n + 1) (nI_add n 1) (by omega) hL dL_law_958 ?_
  refine g_callVQi (pc := 959) o (co_at V.1 (xs (n + 1))) mt_X9_at mv_X9_at lk_L_94 rfl rfl rfl (by decide) rfl (Nat.le_of_ble_eq_true rfl) dL_law_959 ?_
  rintro r1 h2 ⟨e1, C2, m2⟩
  have A2 := abs_kM m2
  refine g_aload_n (pc := 962) o dL_law_962 rfl ?_
  refine g_aload_n (pc := 963) o dL_law_963 rfl ?_
  refine g_iload_n (pc := 964) o dL_law_964 rfl ?_
  refine g_iconst (pc := 965) o dL_law_965 1 rfl ?_
  refine g_iadd (pc := 966) o dL_law_966 ?_
  refine n_sld (pc := 967) o sc (n + 1) (nI_add n 1) (by omega) hL dL_law_967 ?_
  refine g_callVQi (pc := 968) o (mo_at (h := h2) (xs (n + 1))) mt_X10_at mv_X10_at lk_L_97 rfl rfl rfl (by decide) rfl (Nat.le_of_ble_eq_true rfl) dL_law_968 ?_
  rintro r2 h3 ⟨e2, a3, m3⟩
  rw [A2] at e2 a3
  exact g_ic_eq (pc := 971) o 1850 dL_law_971 (by decide) (fun _ => k h3 (LV_end (op_at (xs (n + 1)) (absM h)) a3 C2 m3 (Iv_at V.2 (xs (n + 1))))) (fun c => absurd (e1.trans e2.symm) c)
set_option maxRecDepth 100000 in
set_option maxHeartbeats 400000 in
theorem lc_may {Γ : Fr} (o : ca_O Γ cL_law 4 RL 13 492) {L : Nat} {xs : Nat → Int32} (sc : scO Γ L xs) {h : Mem} (V : LV h) {n : Nat} (hn : n + 6 ≤ L) (hL : L < 2 ^ 31) (k : ∀ h2 : Mem, LV h2 → ca_G Γ 4 h2 1850 (lwL n) []) : ca_G Γ 4 h 976 (lwL n) [] := by
  refine g_aload_n (pc := 976) o dL_law_976 rfl ?_
  refine g_aload_n (pc := 977) o dL_law_977 rfl ?_
  refine g_iload_n (pc := 978) o dL_law_978 rfl ?_
  refine g_iconst (pc := 979) o dL_law_979 1 rfl ?_
  refine g_iadd (pc := 980) o dL_law_980 ?_
  refine n_sld (pc := 981) o sc (n + 1) (nI_add n 1) (by omega) hL dL_law_981 ?_
  refine g_aload_n (pc := 982) o dL_law_982 rfl ?_
  refine g_iload_n (pc := 983) o dL_law_983 rfl ?_
  refine g_iconst (pc := 984) o dL_law_984 2 rfl ?_
  refine g_iadd (pc := 985) o dL_law_985 ?_
  refine n_sld (pc := 986) o sc (n + 2) (nI_add n 2) (by omega) hL dL_law_986 ?_
  refine g_callVQi (pc := 987) o (co_may V.1 V.2 (xs (n + 1)) (xs (n + 2))) mt_X9_may mv_X9_may lk_L_98 rfl rfl rfl (by decide) rfl (Nat.le_of_ble_eq_true rfl) dL_law_987 ?_
  rintro r1 h2 ⟨e1, C2, m2⟩
  have A2 := abs_kM m2
  have I2 : Iv (absM h2) := by rw [A2]; exact V.2
  refine g_aload_n (pc := 990) o dL_law_990 rfl ?_
  refine g_aload_n (pc := 991) o dL_law_991 rfl ?_
  refine g_iload_n (pc := 992) o dL_law_992 rfl ?_
  refine g_iconst (pc := 993) o dL_law_993 1 rfl ?_
  refine g_iadd (pc := 994) o dL_law_994 ?_
  refine n_sld (pc := 995) o sc (n + 1) (nI_add n 1) (by omega) hL dL_law_995 ?_
  refine g_aload_n (pc := 996) o dL_law_996 rfl ?_
  refine g_iload_n (pc := 997) o dL_law_997 rfl ?_
  refine g_iconst (pc := 998) o dL_law_998 2 rfl ?_
  refine g_iadd (pc := 999) o dL_law_999 ?_
  refine n_sld (pc := 1000) o sc (n + 2) (nI_add n 2) (by omega) hL dL_law_1000 ?_
  refine g_callVQi (pc := 1001) o (mo_may (h := h2) I2 (xs (n + 1)) (xs (n + 2))) mt_X10_may mv_X10_may lk_L_101 rfl rfl rfl (by decide) rfl (Nat.le_of_ble_eq_true rfl) dL_law_1001 ?_
  rintro r2 h3 ⟨e2, a3, m3⟩
  rw [A2] at e2 a3
  exact g_ic_eq (pc := 1004) o 1850 dL_law_1004 (by decide) (fun _ => k h3 (LV_end (op_may (xs (n + 1)) (xs (n + 2)) (absM h)) a3 C2 m3 (Iv_may V.2 (xs (n + 1)) (xs (n + 2))))) (fun c => absurd (e1.trans e2.symm) c)
set_option maxRecDepth 100000 in
set_option maxHeartbeats 400000 in
theorem lc_ways {Γ : Fr} (o : ca_O Γ cL_law 4 RL 13 492) {L : Nat} {xs : Nat → Int32} (sc : scO Γ L xs) {h : Mem} (V : LV h) {n : Nat} (hn : n + 6 ≤ L) (hL : L < 2 ^ 31) (k : ∀ h2 : Mem, LV h2 → ca_G Γ 4 h2 1850 (lwL n) []) : ca_G Γ 4 h 1009 (lwL n) [] := by
  refine g_aload_n (pc := 1009) o dL_law_1009 rfl ?_
  refine g_aload_n (pc := 1010) o dL_law_1010 rfl ?_
  refine g_iload_n (pc := 1011) o dL_law_1011 rfl ?_
  refine g_iconst (pc := 1012) o dL_law_1012 1 rfl ?_
  refine g_iadd (pc := 1013) o dL_law_1013 ?_
  refine n_sld (pc := 1014) o sc (n + 1) (nI_add n 1) (by omega) hL dL_law_1014 ?_
  refine g_aload_n (pc := 1015) o dL_law_1015 rfl ?_
  refine g_iload_n (pc := 1016) o dL_law_1016 rfl ?_
  refine g_iconst (pc := 1017) o dL_law_1017 2 rfl ?_
  refine g_iadd (pc := 1018) o dL_law_1018 ?_
  refine n_sld (pc := 1019) o sc (n + 2) (nI_add n 2) (by omega) hL dL_law_1019 ?_
  refine g_callVQi (pc := 1020) o (co_ways V.1 V.2 (xs (n + 1)) (xs (n + 2))) mt_X9_ways mv_X9_ways lk_L_102 rfl rfl rfl (by decide) rfl (Nat.le_of_ble_eq_true rfl) dL_law_1020 ?_
  rintro r1 h2 ⟨e1, C2, m2⟩
  have A2 := abs_kM m2
  have I2 : Iv (absM h2) := by rw [A2]; exact V.2
  refine g_aload_n (pc := 1023) o dL_law_1023 rfl ?_
  refine g_aload_n (pc := 1024) o dL_law_1024 rfl ?_
  refine g_iload_n (pc := 1025) o dL_law_1025 rfl ?_
  refine g_iconst (pc := 1026) o dL_law_1026 1 rfl ?_
  refine g_iadd (pc := 1027) o dL_law_1027 ?_
  refine n_sld (pc := 1028) o sc (n + 1) (nI_add n 1) (by omega) hL dL_law_1028 ?_
  refine g_aload_n (pc := 1029) o dL_law_1029 rfl ?_
  refine g_iload_n (pc := 1030) o dL_law_1030 rfl ?_
  refine g_iconst (pc := 1031) o dL_law_1031 2 rfl ?_
  refine g_iadd (pc := 1032) o dL_law_1032 ?_
  refine n_sld (pc := 1033) o sc (n + 2) (nI_add n 2) (by omega) hL dL_law_1033 ?_
  refine g_callVQi (pc := 1034) o (mo_ways (h := h2) I2 (xs (n + 1)) (xs (n + 2))) mt_X10_ways mv_X10_ways lk_L_105 rfl rfl rfl (by decide) rfl (Nat.le_of_ble_eq_true rfl) dL_law_1034 ?_
  rintro r2 h3 ⟨e2, a3, m3⟩
  rw [A2] at e2 a3
  exact g_ic_eq (pc := 1037) o 1850 dL_law_1037 (by decide) (fun _ => k h3 (LV_end (op_ways (xs (n + 1)) (xs (n + 2)) (absM h)) a3 C2 m3 (Iv_ways V.2 (xs (n + 1)) (xs (n + 2))))) (fun c => absurd (e1.trans e2.symm) c)
set_option maxRecDepth 100000 in
set_option maxHeartbeats 400000 in
theorem lc_bars {Γ : Fr} (o : ca_O Γ cL_law 4 RL 13 492) {L : Nat} {xs : Nat → Int32} (sc : scO Γ L xs) {h : Mem} (V : LV h) {n : Nat} (hn : n + 6 ≤ L) (hL : L < 2 ^ 31) (k : ∀ h2 : Mem, LV h2 → ca_G Γ 4 h2 1850 (lwL n) []) : ca_G Γ 4 h 1042 (lwL n) [] := by
  refine g_aload_n (pc := 1042) o dL_law_1042 rfl ?_
  refine g_aload_n (pc := 1043) o dL_law_1043 rfl ?_
  refine g_iload_n (pc := 1044) o dL_law_1044 rfl ?_
  refine g_iconst (pc := 1045) o dL_law_1045 1 rfl ?_
  refine g_iadd (pc := 1046) o dL_law_1046 ?_
  refine n_sld (pc := 1047) o sc (n + 1) (nI_add n 1) (by omega) hL dL_law_1047 ?_
  refine g_aload_n (pc := 1048) o dL_law_1048 rfl ?_
  refine g_iload_n (pc := 1049) o dL_law_1049 rfl ?_
  refine g_iconst (pc := 1050) o dL_law_1050 2 rfl ?_
  refine g_iadd (pc := 1051) o dL_law_1051 ?_
  refine n_sld (pc := 1052) o sc (n + 2) (nI_add n 2) (by omega) hL dL_law_1052 ?_
  refine g_callVQi (pc := 1053) o (co_bars V.1 V.2 (xs (n + 1)) (xs (n + 2))) mt_X9_bars mv_X9_bars lk_L_106 rfl rfl rfl (by decide) rfl (Nat.le_of_ble_eq_true rfl) dL_law_1053 ?_
  rintro r1 h2 ⟨e1, C2, m2⟩
  have A2 := abs_kM m2
  have I2 : Iv (absM h2) := by rw [A2]; exact V.2
  refine g_aload_n (pc := 1056) o dL_law_1056 rfl ?_
  refine g_aload_n (pc := 1057) o dL_law_1057 rfl ?_
  refine g_iload_n (pc := 1058) o dL_law_1058 rfl ?_
  refine g_iconst (pc := 1059) o dL_law_1059 1 rfl ?_
  refine g_iadd (pc := 1060) o dL_law_1060 ?_
  refine n_sld (pc := 1061) o sc (n + 1) (nI_add n 1) (by omega) hL dL_law_1061 ?_
  refine g_aload_n (pc := 1062) o dL_law_1062 rfl ?_
  refine g_iload_n (pc := 1063) o dL_law_1063 rfl ?_
  refine g_iconst (pc := 1064) o dL_law_1064 2 rfl ?_
  refine g_iadd (pc := 1065) o dL_law_1065 ?_
  refine n_sld (pc := 1066) o sc (n + 2) (nI_add n 2) (by omega) hL dL_law_1066 ?_
  refine g_callVQi (pc := 1067) o (mo_bars (h := h2) I2 (xs (n + 1)) (xs (n + 2))) mt_X10_bars mv_X10_bars lk_L_109 rfl rfl rfl (by decide) rfl (Nat.le_of_ble_eq_true rfl) dL_law_1067 ?_
  rintro r2 h3 ⟨e2, a3, m3⟩
  rw [A2] at e2 a3
  exact g_ic_eq (pc := 1070) o 1850 dL_law_1070 (by decide) (fun _ => k h3 (LV_end (op_bars (xs (n + 1)) (xs (n + 2)) (absM h)) a3 C2 m3 (Iv_bars V.2 (xs (n + 1)) (xs (n + 2))))) (fun c => absurd (e1.trans e2.symm) c)
set_option maxRecDepth 100000 in
set_option maxHeartbeats 400000 in
theorem lc_risk {Γ : Fr} (o : ca_O Γ cL_law 4 RL 13 492) {L : Nat} {xs : Nat → Int32} (sc : scO Γ L xs) {h : Mem} (V : LV h) {n : Nat} (hn : n + 6 ≤ L) (hL : L < 2 ^ 31) (k : ∀ h2 : Mem, LV h2 → ca_G Γ 4 h2 1850 (lwL n) []) : ca_G Γ 4 h 1075 (lwL n) [] := by
  refine g_aload_n (pc := 1075) o dL_law_1075 rfl ?_
  refine g_aload_n (pc := 1076) o dL_law_1076 rfl ?_
  refine g_iload_n (pc := 1077) o dL_law_1077 rfl ?_
  refine g_iconst (pc := 1078) o dL_law_1078 1 rfl ?_
  refine g_iadd (pc := 1079) o dL_law_1079 ?_
  refine n_sld (pc := 1080) o sc (n + 1) (nI_add n 1) (by omega) hL dL_law_1080 ?_
  refine g_aload_n (pc := 1081) o dL_law_1081 rfl ?_
  refine g_iload_n (pc := 1082) o dL_law_1082 rfl ?_
  refine g_iconst (pc := 1083) o dL_law_1083 2 rfl ?_
  refine g_iadd (pc := 1084) o dL_law_1084 ?_
  refine n_sld (pc := 1085) o sc (n + 2) (nI_add n 2) (by omega) hL dL_law_1085 ?_
  refine g_aload_n (pc := 1086) o dL_law_1086 rfl ?_
  refine g_iload_n (pc := 1087) o dL_law_1087 rfl ?_
  refine g_iconst (pc := 1088) o dL_law_1088 3 rfl ?_
  refine g_iadd (pc := 1089) o dL_law_1089 ?_
  refine n_sld (pc := 1090) o sc (n + 3) (nI_add n 3) (by omega) hL dL_law_1090 ?_
  refine g_aload_n (pc := 1091) o dL_law_1091 rfl ?_
  refine g_iload_n (pc := 1092) o dL_law_1092 rfl ?_
  refine g_iconst (pc := 1093) o dL_law_1093 4 rfl ?_
  refine g_iadd (pc := 1094) o dL_law_1094 ?_
  refine n_sld (pc := 1095) o sc (n + 4) (nI_add n 4) (by omega) hL dL_law_1095 ?_
  refine g_callVQi (pc := 1096) o (co_risk V.1 (xs (n + 1)) (xs (n + 2)) (xs (n + 3)) (xs (n + 4))) mt_X9_risk mv_X9_risk lk_L_110 rfl rfl rfl (by decide) rfl (Nat.le_of_ble_eq_true rfl) dL_law_1096 ?_
  rintro r1 h2 ⟨e1, C2, m2⟩
  have A2 := abs_kM m2
  refine g_aload_n (pc := 1099) o dL_law_1099 rfl ?_
  refine g_aload_n (pc := 1100) o dL_law_1100 rfl ?_
  refine g_iload_n (pc := 1101) o dL_law_1101 rfl ?_
  refine g_iconst (pc := 1102) o dL_law_1102 1 rfl ?_
  refine g_iadd (pc := 1103) o dL_law_1103 ?_
  refine n_sld (pc := 1104) o sc (n + 1) (nI_add n 1) (by omega) hL dL_law_1104 ?_
  refine g_aload_n (pc := 1105) o dL_law_1105 rfl ?_
  refine g_iload_n (pc := 1106) o dL_law_1106 rfl ?_
  refine g_iconst (pc := 1107) o dL_law_1107 2 rfl ?_
  refine g_iadd (pc := 1108) o dL_law_1108 ?_
  refine n_sld (pc := 1109) o sc (n + 2) (nI_add n 2) (by omega) hL dL_law_1109 ?_
  refine g_aload_n (pc := 1110) o dL_law_1110 rfl ?_
  refine g_iload_n (pc := 1111) o dL_law_1111 rfl ?_
  refine g_iconst (pc := 1112) o dL_law_1112 3 rfl ?_
  refine g_iadd (pc := 1113) o dL_law_1113 ?_
  refine n_sld (pc := 1114) o sc (n + 3) (nI_add n 3) (by omega) hL dL_law_1114 ?_
  refine g_aload_n (pc := 1115) o dL_law_1115 rfl ?_
  refine g_iload_n (pc := 1116) o dL_law_1116 rfl ?_
  refine g_iconst (pc := 1117) o dL_law_1117 4 rfl ?_
  refine g_iadd (pc := 1118) o dL_law_1118 ?_
  refine n_sld (pc := 1119) o sc (n + 4) (nI_add n 4) (by omega) hL dL_law_1119 ?_
  refine g_callVQi (pc := 1120) o (mo_risk (h := h2) (xs (n + 1)) (xs (n + 2)) (xs (n + 3)) (xs (n + 4))) mt_X10_risk mv_X10_risk lk_L_113 rfl rfl rfl (by decide) rfl (Nat.le_of_ble_eq_true rfl) dL_law_1120 ?_
  rintro r2 h3 ⟨e2, a3, m3⟩
  rw [A2] at e2 a3
  exact g_ic_eq (pc := 1123) o 1850 dL_law_1123 (by decide) (fun _ => k h3 (LV_end (op_risk (xs (n + 1)) (xs (n + 2)) (xs (n + 3)) (xs (n + 4)) (absM h)) a3 C2 m3 (Iv_risk V.2 (xs (n + 1)) (xs (n + 2)) (xs (n + 3)) (xs (n + 4))))) (fun c => absurd (e1.trans e2.symm) c)
set_option maxRecDepth 100000 in
set_option maxHeartbeats 400000 in
theorem lc_strict {Γ : Fr} (o : ca_O Γ cL_law 4 RL 13 492) {L : Nat} {xs : Nat → Int32} (sc : scO Γ L xs) {h : Mem} (V : LV h) {n : Nat} (hn : n + 6 ≤ L) (hL : L < 2 ^ 31) (k : ∀ h2 : Mem, LV h2 → ca_G Γ 4 h2 1850 (lwL n) []) : ca_G Γ 4 h 1128 (lwL n) [] := by
  refine g_aload_n (pc := 1128) o dL_law_1128 rfl ?_
  refine g_aload_n (pc := 1129) o dL_law_1129 rfl ?_
  refine g_iload_n (pc := 1130) o dL_law_1130 rfl ?_
  refine g_iconst (pc := 1131) o dL_law_1131 1 rfl ?_
  refine g_iadd (pc := 1132) o dL_law_1132 ?_
  refine n_sld (pc := 1133) o sc (n + 1) (nI_add n 1) (by omega) hL dL_law_1133 ?_
  refine g_aload_n (pc := 1134) o dL_law_1134 rfl ?_
  refine g_iload_n (pc := 1135) o dL_law_1135 rfl ?_
  refine g_iconst (pc := 1136) o dL_law_1136 2 rfl ?_
  refine g_iadd (pc := 1137) o dL_law_1137 ?_
  refine n_sld (pc := 1138) o sc (n + 2) (nI_add n 2) (by omega) hL dL_law_1138 ?_
  refine g_aload_n (pc := 1139) o dL_law_1139 rfl ?_
  refine g_iload_n (pc := 1140) o dL_law_1140 rfl ?_
  refine g_iconst (pc := 1141) o dL_law_1141 3 rfl ?_
  refine g_iadd (pc := 1142) o dL_law_1142 ?_
  refine n_sld (pc := 1143) o sc (n + 3) (nI_add n 3) (by omega) hL dL_law_1143 ?_
  refine g_callVQi (pc := 1144) o (co_strict V.1 (xs (n + 1)) (xs (n + 2)) (xs (n + 3))) mt_X9_strict mv_X9_strict lk_L_114 rfl rfl rfl (by decide) rfl (Nat.le_of_ble_eq_true rfl) dL_law_1144 ?_
  rintro r1 h2 ⟨e1, C2, m2⟩
  have A2 := abs_kM m2
  refine g_aload_n (pc := 1147) o dL_law_1147 rfl ?_
  refine g_aload_n (pc := 1148) o dL_law_1148 rfl ?_
  refine g_iload_n (pc := 1149) o dL_law_1149 rfl ?_
  refine g_iconst (pc := 1150) o dL_law_1150 1 rfl ?_
  refine g_iadd (pc := 1151) o dL_law_1151 ?_
  refine n_sld (pc := 1152) o sc (n + 1) (nI_add n 1) (by omega) hL dL_law_1152 ?_
  refine g_aload_n (pc := 1153) o dL_law_1153 rfl ?_
  refine g_iload_n (pc := 1154) o dL_law_1154 rfl ?_
  refine g_iconst (pc := 1155) o dL_law_1155 2 rfl ?_
  refine g_iadd (pc := 1156) o dL_law_1156 ?_
  refine n_sld (pc := 1157) o sc (n + 2) (nI_add n 2) (by omega) hL dL_law_1157 ?_
  refine g_aload_n (pc := 1158) o dL_law_1158 rfl ?_
  refine g_iload_n (pc := 1159) o dL_law_1159 rfl ?_
  refine g_iconst (pc := 1160) o dL_law_1160 3 rfl ?_
  refine g_iadd (pc := 1161) o dL_law_1161 ?_
  refine n_sld (pc := 1162) o sc (n + 3) (nI_add n 3) (by omega) hL dL_law_1162 ?_
  refine g_callVQi (pc := 1163) o (mo_strict (h := h2) (xs (n + 1)) (xs (n + 2)) (xs (n + 3))) mt_X10_strict mv_X10_strict lk_L_117 rfl rfl rfl (by decide) rfl (Nat.le_of_ble_eq_true rfl) dL_law_1163 ?_
  rintro r2 h3 ⟨e2, a3, m3⟩
  rw [A2] at e2 a3
  exact g_ic_eq (pc := 1166) o 1850 dL_law_1166 (by decide) (fun _ => k h3 (LV_end (op_strict (xs (n + 1)) (xs (n + 2)) (xs (n + 3)) (absM h)) a3 C2 m3 (Iv_strict V.2 (xs (n + 1)) (xs (n + 2)) (xs (n + 3))))) (fun c => absurd (e1.trans e2.symm) c)
set_option maxRecDepth 100000 in
set_option maxHeartbeats 400000 in
theorem lc_surety {Γ : Fr} (o : ca_O Γ cL_law 4 RL 13 492) {L : Nat} {xs : Nat → Int32} (sc : scO Γ L xs) {h : Mem} (V : LV h) {n : Nat} (hn : n + 6 ≤ L) (hL : L < 2 ^ 31) (k : ∀ h2 : Mem, LV h2 → ca_G Γ 4 h2 1850 (lwL n) []) : ca_G Γ 4 h 1171 (lwL n) [] := by
  refine g_aload_n (pc := 1171) o dL_law_1171 rfl ?_
  refine g_aload_n (pc := 1172) o dL_law_1172 rfl ?_
  refine g_iload_n (pc := 1173) o dL_law_1173 rfl ?_
  refine g_iconst (pc := 1174) o dL_law_1174 1 rfl ?_
  refine g_iadd (pc := 1175) o dL_law_1175 ?_
  refine n_sld (pc := 1176) o sc (n + 1) (nI_add n 1) (by omega) hL dL_law_1176 ?_
  refine g_aload_n (pc := 1177) o dL_law_1177 rfl ?_
  refine g_iload_n (pc := 1178) o dL_law_1178 rfl ?_
  refine g_iconst (pc := 1179) o dL_law_1179 2 rfl ?_
  refine g_iadd (pc := 1180) o dL_law_1180 ?_
  refine n_sld (pc := 1181) o sc (n + 2) (nI_add n 2) (by omega) hL dL_law_1181 ?_
  refine g_aload_n (pc := 1182) o dL_law_1182 rfl ?_
  refine g_iload_n (pc := 1183) o dL_law_1183 rfl ?_
  refine g_iconst (pc := 1184) o dL_law_1184 3 rfl ?_
  refine g_iadd (pc := 1185) o dL_law_1185 ?_
  refine n_sld (pc := 1186) o sc (n + 3) (nI_add n 3) (by omega) hL dL_law_1186 ?_
  refine g_callVQi (pc := 1187) o (co_surety V.1 (xs (n + 1)) (xs (n + 2)) (xs (n + 3))) mt_X9_surety mv_X9_surety lk_L_118 rfl rfl rfl (by decide) rfl (Nat.le_of_ble_eq_true rfl) dL_law_1187 ?_
  rintro r1 h2 ⟨e1, C2, m2⟩
  have A2 := abs_kM m2
  refine g_aload_n (pc := 1190) o dL_law_1190 rfl ?_
  refine g_aload_n (pc := 1191) o dL_law_1191 rfl ?_
  refine g_iload_n (pc := 1192) o dL_law_1192 rfl ?_
  refine g_iconst (pc := 1193) o dL_law_1193 1 rfl ?_
  refine g_iadd (pc := 1194) o dL_law_1194 ?_
  refine n_sld (pc := 1195) o sc (n + 1) (nI_add n 1) (by omega) hL dL_law_1195 ?_
  refine g_aload_n (pc := 1196) o dL_law_1196 rfl ?_
  refine g_iload_n (pc := 1197) o dL_law_1197 rfl ?_
  refine g_iconst (pc := 1198) o dL_law_1198 2 rfl ?_
  refine g_iadd (pc := 1199) o dL_law_1199 ?_
  refine n_sld (pc := 1200) o sc (n + 2) (nI_add n 2) (by omega) hL dL_law_1200 ?_
  refine g_aload_n (pc := 1201) o dL_law_1201 rfl ?_
  refine g_iload_n (pc := 1202) o dL_law_1202 rfl ?_
  refine g_iconst (pc := 1203) o dL_law_1203 3 rfl ?_
  refine g_iadd (pc := 1204) o dL_law_1204 ?_
  refine n_sld (pc := 1205) o sc (n + 3) (nI_add n 3) (by omega) hL dL_law_1205 ?_
  refine g_callVQi (pc := 1206) o (mo_surety (h := h2) (xs (n + 1)) (xs (n + 2)) (xs (n + 3))) mt_X10_surety mv_X10_surety lk_L_121 rfl rfl rfl (by decide) rfl (Nat.le_of_ble_eq_true rfl) dL_law_1206 ?_
  rintro r2 h3 ⟨e2, a3, m3⟩
  rw [A2] at e2 a3
  exact g_ic_eq (pc := 1209) o 1850 dL_law_1209 (by decide) (fun _ => k h3 (LV_end (op_surety (xs (n + 1)) (xs (n + 2)) (xs (n + 3)) (absM h)) a3 C2 m3 (Iv_surety V.2 (xs (n + 1)) (xs (n + 2)) (xs (n + 3))))) (fun c => absurd (e1.trans e2.symm) c)
set_option maxRecDepth 100000 in
set_option maxHeartbeats 400000 in
theorem lc_bail {Γ : Fr} (o : ca_O Γ cL_law 4 RL 13 492) {L : Nat} {xs : Nat → Int32} (sc : scO Γ L xs) {h : Mem} (V : LV h) {n : Nat} (hn : n + 6 ≤ L) (hL : L < 2 ^ 31) (k : ∀ h2 : Mem, LV h2 → ca_G Γ 4 h2 1850 (lwL n) []) : ca_G Γ 4 h 1214 (lwL n) [] := by
  refine g_aload_n (pc := 1214) o dL_law_1214 rfl ?_
  refine g_aload_n (pc := 1215) o dL_law_1215 rfl ?_
  refine g_iload_n (pc := 1216) o dL_law_1216 rfl ?_
  refine g_iconst (pc := 1217) o dL_law_1217 1 rfl ?_
  refine g_iadd (pc := 1218) o dL_law_1218 ?_
  refine n_sld (pc := 1219) o sc (n + 1) (nI_add n 1) (by omega) hL dL_law_1219 ?_
  refine g_aload_n (pc := 1220) o dL_law_1220 rfl ?_
  refine g_iload_n (pc := 1221) o dL_law_1221 rfl ?_
  refine g_iconst (pc := 1222) o dL_law_1222 2 rfl ?_
  refine g_iadd (pc := 1223) o dL_law_1223 ?_
  refine n_sld (pc := 1224) o sc (n + 2) (nI_add n 2) (by omega) hL dL_law_1224 ?_
  refine g_callVQi (pc := 1225) o (co_bail V.1 (xs (n + 1)) (xs (n + 2))) mt_X9_bail mv_X9_bail lk_L_122 rfl rfl rfl (by decide) rfl (Nat.le_of_ble_eq_true rfl) dL_law_1225 ?_
  rintro r1 h2 ⟨e1, C2, m2⟩
  have A2 := abs_kM m2
  refine g_aload_n (pc := 1228) o dL_law_1228 rfl ?_
  refine g_aload_n (pc := 1229) o dL_law_1229 rfl ?_
  refine g_iload_n (pc := 1230) o dL_law_1230 rfl ?_
  refine g_iconst (pc := 1231) o dL_law_1231 1 rfl ?_
  refine g_iadd (pc := 1232) o dL_law_1232 ?_
  refine n_sld (pc := 1233) o sc (n + 1) (nI_add n 1) (by omega) hL dL_law_1233 ?_
  refine g_aload_n (pc := 1234) o dL_law_1234 rfl ?_
  refine g_iload_n (pc := 1235) o dL_law_1235 rfl ?_
  refine g_iconst (pc := 1236) o dL_law_1236 2 rfl ?_
  refine g_iadd (pc := 1237) o dL_law_1237 ?_
  refine n_sld (pc := 1238) o sc (n + 2) (nI_add n 2) (by omega) hL dL_law_1238 ?_
  refine g_callVQi (pc := 1239) o (mo_bail (h := h2) (xs (n + 1)) (xs (n + 2))) mt_X10_bail mv_X10_bail lk_L_125 rfl rfl rfl (by decide) rfl (Nat.le_of_ble_eq_true rfl) dL_law_1239 ?_
  rintro r2 h3 ⟨e2, a3, m3⟩
  rw [A2] at e2 a3
  exact g_ic_eq (pc := 1242) o 1850 dL_law_1242 (by decide) (fun _ => k h3 (LV_end (op_bail (xs (n + 1)) (xs (n + 2)) (absM h)) a3 C2 m3 (Iv_bail V.2 (xs (n + 1)) (xs (n + 2))))) (fun c => absurd (e1.trans e2.symm) c)
set_option maxRecDepth 100000 in
set_option maxHeartbeats 400000 in
theorem lc_call {Γ : Fr} (o : ca_O Γ cL_law 4 RL 13 492) {L : Nat} {xs : Nat → Int32} (sc : scO Γ L xs) {h : Mem} (V : LV h) {n : Nat} (hn : n + 6 ≤ L) (hL : L < 2 ^ 31) (k : ∀ h2 : Mem, LV h2 → ca_G Γ 4 h2 1850 (lwL n) []) : ca_G Γ 4 h 1247 (lwL n) [] := by
  refine g_aload_n (pc := 1247) o dL_law_1247 rfl ?_
  refine g_aload_n (pc := 1248) o dL_law_1248 rfl ?_
  refine g_iload_n (pc := 1249) o dL_law_1249 rfl ?_
  refine g_iconst (pc := 1250) o dL_law_1250 1 rfl ?_
  refine g_iadd (pc := 1251) o dL_law_1251 ?_
  refine n_sld (pc := 1252) o sc (n + 1) (nI_add n 1) (by omega) hL dL_law_1252 ?_
  refine g_callVQi (pc := 1253) o (co_call V.1 (xs (n + 1))) mt_X9_call mv_X9_call lk_L_126 rfl rfl rfl (by decide) rfl (Nat.le_of_ble_eq_true rfl) dL_law_1253 ?_
  rintro r1 h2 ⟨e1, C2, m2⟩
  have A2 := abs_kM m2
  refine g_aload_n (pc := 1256) o dL_law_1256 rfl ?_
  refine g_aload_n (pc := 1257) o dL_law_1257 rfl ?_
  refine g_iload_n (pc := 1258) o dL_law_1258 rfl ?_
  refine g_iconst (pc := 1259) o dL_law_1259 1 rfl ?_
  refine g_iadd (pc := 1260) o dL_law_1260 ?_
  refine n_sld (pc := 1261) o sc (n + 1) (nI_add n 1) (by omega) hL dL_law_1261 ?_
  refine g_callVQi (pc := 1262) o (mo_call (h := h2) (xs (n + 1))) mt_X10_call mv_X10_call lk_L_129 rfl rfl rfl (by decide) rfl (Nat.le_of_ble_eq_true rfl) dL_law_1262 ?_
  rintro r2 h3 ⟨e2, a3, m3⟩
  rw [A2] at e2 a3
  exact g_ic_eq (pc := 1265) o 1850 dL_law_1265 (by decide) (fun _ => k h3 (LV_end (op_call (xs (n + 1)) (absM h)) a3 C2 m3 (Iv_call V.2 (xs (n + 1))))) (fun c => absurd (e1.trans e2.symm) c)
set_option maxRecDepth 100000 in
set_option maxHeartbeats 400000 in
theorem lc_back {Γ : Fr} (o : ca_O Γ cL_law 4 RL 13 492) {L : Nat} {xs : Nat → Int32} (sc : scO Γ L xs) {h : Mem} (V : LV h) {n : Nat} (hn : n + 6 ≤ L) (hL : L < 2 ^ 31) (k : ∀ h2 : Mem, LV h2 → ca_G Γ 4 h2 1850 (lwL n) []) : ca_G Γ 4 h 1270 (lwL n) [] := by
  refine g_aload_n (pc := 1270) o dL_law_1270 rfl ?_
  refine g_aload_n (pc := 1271) o dL_law_1271 rfl ?_
  refine g_iload_n (pc := 1272) o dL_law_1272 rfl ?_
  refine g_iconst (pc := 1273) o dL_law_1273 1 rfl ?_
  refine g_iadd (pc := 1274) o dL_law_1274 ?_
  refine n_sld (pc := 1275) o sc (n + 1) (nI_add n 1) (by omega) hL dL_law_1275 ?_
  refine g_callVQi (pc := 1276) o (co_back V.1 (xs (n + 1))) mt_X9_back mv_X9_back lk_L_130 rfl rfl rfl (by decide) rfl (Nat.le_of_ble_eq_true rfl) dL_law_1276 ?_
  rintro r1 h2 ⟨e1, C2, m2⟩
  have A2 := abs_kM m2
  refine g_aload_n (pc := 1279) o dL_law_1279 rfl ?_
  refine g_aload_n (pc := 1280) o dL_law_1280 rfl ?_
  refine g_iload_n (pc := 1281) o dL_law_1281 rfl ?_
  refine g_iconst (pc := 1282) o dL_law_1282 1 rfl ?_
  refine g_iadd (pc := 1283) o dL_law_1283 ?_
  refine n_sld (pc := 1284) o sc (n + 1) (nI_add n 1) (by omega) hL dL_law_1284 ?_
  refine g_callVQi (pc := 1285) o (mo_back (h := h2) (xs (n + 1))) mt_X10_back mv_X10_back lk_L_133 rfl rfl rfl (by decide) rfl (Nat.le_of_ble_eq_true rfl) dL_law_1285 ?_
  rintro r2 h3 ⟨e2, a3, m3⟩
  rw [A2] at e2 a3
  exact g_ic_eq (pc := 1288) o 1850 dL_law_1288 (by decide) (fun _ => k h3 (LV_end (op_back (xs (n + 1)) (absM h)) a3 C2 m3 (Iv_back V.2 (xs (n + 1))))) (fun c => absurd (e1.trans e2.symm) c)
set_option maxRecDepth 100000 in
set_option maxHeartbeats 400000 in
theorem lc_suretyOf {Γ : Fr} (o : ca_O Γ cL_law 4 RL 13 492) {L : Nat} {xs : Nat → Int32} (sc : scO Γ L xs) {h : Mem} (V : LV h) {n : Nat} (hn : n + 6 ≤ L) (hL : L < 2 ^ 31) (k : ∀ h2 : Mem, LV h2 → ca_G Γ 4 h2 1850 (lwL n) []) : ca_G Γ 4 h 1293 (lwL n) [] := by
  refine g_aload_n (pc := 1293) o dL_law_1293 rfl ?_
  refine g_aload_n (pc := 1294) o dL_law_1294 rfl ?_
  refine g_iload_n (pc := 1295) o dL_law_1295 rfl ?_
  refine g_iconst (pc := 1296) o dL_law_1296 1 rfl ?_
  refine g_iadd (pc := 1297) o dL_law_1297 ?_
  refine n_sld (pc := 1298) o sc (n + 1) (nI_add n 1) (by omega) hL dL_law_1298 ?_
  refine g_aload_n (pc := 1299) o dL_law_1299 rfl ?_
  refine g_iload_n (pc := 1300) o dL_law_1300 rfl ?_
  refine g_iconst (pc := 1301) o dL_law_1301 2 rfl ?_
  refine g_iadd (pc := 1302) o dL_law_1302 ?_
  refine n_sld (pc := 1303) o sc (n + 2) (nI_add n 2) (by omega) hL dL_law_1303 ?_
  refine g_callVQi (pc := 1304) o (co_suretyOf V.1 (xs (n + 1)) (xs (n + 2))) mt_X9_suretyOf mv_X9_suretyOf lk_L_134 rfl rfl rfl (by decide) rfl (Nat.le_of_ble_eq_true rfl) dL_law_1304 ?_
  rintro r1 h2 ⟨e1, C2, m2⟩
  have A2 := abs_kM m2
  refine g_aload_n (pc := 1307) o dL_law_1307 rfl ?_
  refine g_aload_n (pc := 1308) o dL_law_1308 rfl ?_
  refine g_iload_n (pc := 1309) o dL_law_1309 rfl ?_
  refine g_iconst (pc := 1310) o dL_law_1310 1 rfl ?_
  refine g_iadd (pc := 1311) o dL_law_1311 ?_
  refine n_sld (pc := 1312) o sc (n + 1) (nI_add n 1) (by omega) hL dL_law_1312 ?_
  refine g_aload_n (pc := 1313) o dL_law_1313 rfl ?_
  refine g_iload_n (pc := 1314) o dL_law_1314 rfl ?_
  refine g_iconst (pc := 1315) o dL_law_1315 2 rfl ?_
  refine g_iadd (pc := 1316) o dL_law_1316 ?_
  refine n_sld (pc := 1317) o sc (n + 2) (nI_add n 2) (by omega) hL dL_law_1317 ?_
  refine g_callVQi (pc := 1318) o (mo_suretyOf (h := h2) (xs (n + 1)) (xs (n + 2))) mt_X10_suretyOf mv_X10_suretyOf lk_L_137 rfl rfl rfl (by decide) rfl (Nat.le_of_ble_eq_true rfl) dL_law_1318 ?_
  rintro r2 h3 ⟨e2, a3, m3⟩
  rw [A2] at e2 a3
  exact g_ic_eq (pc := 1321) o 1850 dL_law_1321 (by decide) (fun _ => k h3 (LV_end (op_suretyOf (xs (n + 1)) (xs (n + 2)) (absM h)) a3 C2 m3 (Iv_suretyOf V.2 (xs (n + 1)) (xs (n + 2))))) (fun c => absurd (e1.trans e2.symm) c)
set_option maxRecDepth 100000 in
set_option maxHeartbeats 400000 in
theorem lc_hearing {Γ : Fr} (o : ca_O Γ cL_law 4 RL 13 492) {L : Nat} {xs : Nat → Int32} (sc : scO Γ L xs) {h : Mem} (V : LV h) {n : Nat} (hn : n + 6 ≤ L) (hL : L < 2 ^ 31) (k : ∀ h2 : Mem, LV h2 → ca_G Γ 4 h2 1850 (lwL n) []) : ca_G Γ 4 h 1326 (lwL n) [] := by
  refine g_aload_n (pc := 1326) o dL_law_1326 rfl ?_
  refine g_aload_n (pc := 1327) o dL_law_1327 rfl ?_
  refine g_iload_n (pc := 1328) o dL_law_1328 rfl ?_
  refine g_iconst (pc := 1329) o dL_law_1329 1 rfl ?_
  refine g_iadd (pc := 1330) o dL_law_1330 ?_
  refine n_sld (pc := 1331) o sc (n + 1) (nI_add n 1) (by omega) hL dL_law_1331 ?_
  refine g_aload_n (pc := 1332) o dL_law_1332 rfl ?_
  refine g_iload_n (pc := 1333) o dL_law_1333 rfl ?_
  refine g_iconst (pc := 1334) o dL_law_1334 2 rfl ?_
  refine g_iadd (pc := 1335) o dL_law_1335 ?_
  refine n_sld (pc := 1336) o sc (n + 2) (nI_add n 2) (by omega) hL dL_law_1336 ?_
  refine g_callVQi (pc := 1337) o (co_hearing V.1 (xs (n + 1)) (xs (n + 2))) mt_X9_hearing mv_X9_hearing lk_L_138 rfl rfl rfl (by decide) rfl (Nat.le_of_ble_eq_true rfl) dL_law_1337 ?_
  rintro r1 h2 ⟨e1, C2, m2⟩
  have A2 := abs_kM m2
  have I2 : Iv (absM h2) := by rw [A2]; exact V.2
  refine g_aload_n (pc := 1340) o dL_law_1340 rfl ?_
  refine g_aload_n (pc := 1341) o dL_law_1341 rfl ?_
  refine g_iload_n (pc := 1342) o dL_law_1342 rfl ?_
  refine g_iconst (pc := 1343) o dL_law_1343 1 rfl ?_
  refine g_iadd (pc := 1344) o dL_law_1344 ?_
  refine n_sld (pc := 1345) o sc (n + 1) (nI_add n 1) (by omega) hL dL_law_1345 ?_
  refine g_aload_n (pc := 1346) o dL_law_1346 rfl ?_
  refine g_iload_n (pc := 1347) o dL_law_1347 rfl ?_
  refine g_iconst (pc := 1348) o dL_law_1348 2 rfl ?_
  refine g_iadd (pc := 1349) o dL_law_1349 ?_
  refine n_sld (pc := 1350) o sc (n + 2) (nI_add n 2) (by omega) hL dL_law_1350 ?_
  refine g_callVQi (pc := 1351) o (mo_hearing (h := h2) I2 (xs (n + 1)) (xs (n + 2))) mt_X10_hearing mv_X10_hearing lk_L_141 rfl rfl rfl (by decide) rfl (Nat.le_of_ble_eq_true rfl) dL_law_1351 ?_
  rintro r2 h3 ⟨e2, a3, m3⟩
  rw [A2] at e2 a3
  exact g_ic_eq (pc := 1354) o 1850 dL_law_1354 (by decide) (fun _ => k h3 (LV_end (op_hearing (xs (n + 1)) (xs (n + 2)) (absM h)) a3 C2 m3 (Iv_hearing V.2 (xs (n + 1)) (xs (n + 2))))) (fun c => absurd (e1.trans e2.symm) c)
set_option maxRecDepth 100000 in
set_option maxHeartbeats 400000 in
theorem lc_heard {Γ : Fr} (o : ca_O Γ cL_law 4 RL 13 492) {L : Nat} {xs : Nat → Int32} (sc : scO Γ L xs) {h : Mem} (V : LV h) {n : Nat} (hn : n + 6 ≤ L) (hL : L < 2 ^ 31) (k : ∀ h2 : Mem, LV h2 → ca_G Γ 4 h2 1850 (lwL n) []) : ca_G Γ 4 h 1359 (lwL n) [] := by
  refine g_aload_n (pc := 1359) o dL_law_1359 rfl ?_
  refine g_aload_n (pc := 1360) o dL_law_1360 rfl ?_
  refine g_iload_n (pc := 1361) o dL_law_1361 rfl ?_
  refine g_iconst (pc := 1362) o dL_law_1362 1 rfl ?_
  refine g_iadd (pc := 1363) o dL_law_1363 ?_
  refine n_sld (pc := 1364) o sc (n + 1) (nI_add n 1) (by omega) hL dL_law_1364 ?_
  refine g_callVQi (pc := 1365) o (co_heard V.1 (xs (n + 1))) mt_X9_heard mv_X9_heard lk_L_142 rfl rfl rfl (by decide) rfl (Nat.le_of_ble_eq_true rfl) dL_law_1365 ?_
  rintro r1 h2 ⟨e1, C2, m2⟩
  have A2 := abs_kM m2
  have I2 : Iv (absM h2) := by rw [A2]; exact V.2
  refine g_aload_n (pc := 1368) o dL_law_1368 rfl ?_
  refine g_aload_n (pc := 1369) o dL_law_1369 rfl ?_
  refine g_iload_n (pc := 1370) o dL_law_1370 rfl ?_
  refine g_iconst (pc := 1371) o dL_law_1371 1 rfl ?_
  refine g_iadd (pc := 1372) o dL_law_1372 ?_
  refine n_sld (pc := 1373) o sc (n + 1) (nI_add n 1) (by omega) hL dL_law_1373 ?_
  refine g_callVQi (pc := 1374) o (mo_heard (h := h2) I2 (xs (n + 1))) mt_X10_heard mv_X10_heard lk_L_145 rfl rfl rfl (by decide) rfl (Nat.le_of_ble_eq_true rfl) dL_law_1374 ?_
  rintro r2 h3 ⟨e2, a3, m3⟩
  rw [A2] at e2 a3
  exact g_ic_eq (pc := 1377) o 1850 dL_law_1377 (by decide) (fun _ => k h3 (LV_end (op_heard (xs (n + 1)) (absM h)) a3 C2 m3 (Iv_heard V.2 (xs (n + 1))))) (fun c => absurd (e1.trans e2.symm) c)
set_option maxRecDepth 100000 in
set_option maxHeartbeats 400000 in
theorem lc_seed {Γ : Fr} (o : ca_O Γ cL_law 4 RL 13 492) {L : Nat} {xs : Nat → Int32} (sc : scO Γ L xs) {h : Mem} (V : LV h) {n : Nat} (hn : n + 6 ≤ L) (hL : L < 2 ^ 31) (k : ∀ h2 : Mem, LV h2 → ca_G Γ 4 h2 1850 (lwL n) []) : ca_G Γ 4 h 1382 (lwL n) [] := by
  refine g_aload_n (pc := 1382) o dL_law_1382 rfl ?_
  refine g_aload_n (pc := 1383) o dL_law_1383 rfl ?_
  refine g_iload_n (pc := 1384) o dL_law_1384 rfl ?_
  refine g_iconst (pc := 1385) o dL_law_1385 1 rfl ?_
  refine g_iadd (pc := 1386) o dL_law_1386 ?_
  refine n_sld (pc := 1387) o sc (n + 1) (nI_add n 1) (by omega) hL dL_law_1387 ?_
  refine g_callVQi (pc := 1388) o (co_seed V.1 (xs (n + 1))) mt_X9_seed mv_X9_seed lk_L_146 rfl rfl rfl (by decide) rfl (Nat.le_of_ble_eq_true rfl) dL_law_1388 ?_
  rintro r1 h2 ⟨e1, C2, m2⟩
  have A2 := abs_kM m2
  refine g_aload_n (pc := 1391) o dL_law_1391 rfl ?_
  refine g_aload_n (pc := 1392) o dL_law_1392 rfl ?_
  refine g_iload_n (pc := 1393) o dL_law_1393 rfl ?_
  refine g_iconst (pc := 1394) o dL_law_1394 1 rfl ?_
  refine g_iadd (pc := 1395) o dL_law_1395 ?_
  refine n_sld (pc := 1396) o sc (n + 1) (nI_add n 1) (by omega) hL dL_law_1396 ?_
  refine g_callVQi (pc := 1397) o (mo_seed (h := h2) (xs (n + 1))) mt_X10_seed mv_X10_seed lk_L_149 rfl rfl rfl (by decide) rfl (Nat.le_of_ble_eq_true rfl) dL_law_1397 ?_
  rintro r2 h3 ⟨e2, a3, m3⟩
  rw [A2] at e2 a3
  exact g_ic_eq (pc := 1400) o 1850 dL_law_1400 (by decide) (fun _ => k h3 (LV_end (op_seed (xs (n + 1)) (absM h)) a3 C2 m3 (Iv_seed V.2 (xs (n + 1))))) (fun c => absurd (e1.trans e2.symm) c)
set_option maxRecDepth 100000 in
set_option maxHeartbeats 400000 in
theorem lc_feed {Γ : Fr} (o : ca_O Γ cL_law 4 RL 13 492) {L : Nat} {xs : Nat → Int32} (sc : scO Γ L xs) {h : Mem} (V : LV h) {n : Nat} (hn : n + 6 ≤ L) (hL : L < 2 ^ 31) (k : ∀ h2 : Mem, LV h2 → ca_G Γ 4 h2 1850 (lwL n) []) : ca_G Γ 4 h 1405 (lwL n) [] := by
  refine g_aload_n (pc := 1405) o dL_law_1405 rfl ?_
  refine g_aload_n (pc := 1406) o dL_law_1406 rfl ?_
  refine g_iload_n (pc := 1407) o dL_law_1407 rfl ?_
  refine g_iconst (pc := 1408) o dL_law_1408 1 rfl ?_
  refine g_iadd (pc := 1409) o dL_law_1409 ?_
  refine n_sld (pc := 1410) o sc (n + 1) (nI_add n 1) (by omega) hL dL_law_1410 ?_
  refine g_aload_n (pc := 1411) o dL_law_1411 rfl ?_
  refine g_iload_n (pc := 1412) o dL_law_1412 rfl ?_
  refine g_iconst (pc := 1413) o dL_law_1413 2 rfl ?_
  refine g_iadd (pc := 1414) o dL_law_1414 ?_
  refine n_sld (pc := 1415) o sc (n + 2) (nI_add n 2) (by omega) hL dL_law_1415 ?_
  refine g_callVQi (pc := 1416) o (co_feed V.1 V.2 (xs (n + 1)) (xs (n + 2))) mt_X9_feed mv_X9_feed lk_L_150 rfl rfl rfl (by decide) rfl (Nat.le_of_ble_eq_true rfl) dL_law_1416 ?_
  rintro r1 h2 ⟨e1, C2, m2⟩
  have A2 := abs_kM m2
  have I2 : Iv (absM h2) := by rw [A2]; exact V.2
  refine g_aload_n (pc := 1419) o dL_law_1419 rfl ?_
  refine g_aload_n (pc := 1420) o dL_law_1420 rfl ?_
  refine g_iload_n (pc := 1421) o dL_law_1421 rfl ?_
  refine g_iconst (pc := 1422) o dL_law_1422 1 rfl ?_
  refine g_iadd (pc := 1423) o dL_law_1423 ?_
  refine n_sld (pc := 1424) o sc (n + 1) (nI_add n 1) (by omega) hL dL_law_1424 ?_
  refine g_aload_n (pc := 1425) o dL_law_1425 rfl ?_
  refine g_iload_n (pc := 1426) o dL_law_1426 rfl ?_
  refine g_iconst (pc := 1427) o dL_law_1427 2 rfl ?_
  refine g_iadd (pc := 1428) o dL_law_1428 ?_
  refine n_sld (pc := 1429) o sc (n + 2) (nI_add n 2) (by omega) hL dL_law_1429 ?_
  refine g_callVQi (pc := 1430) o (mo_feed (h := h2) I2 (xs (n + 1)) (xs (n + 2))) mt_X10_feed mv_X10_feed lk_L_153 rfl rfl rfl (by decide) rfl (Nat.le_of_ble_eq_true rfl) dL_law_1430 ?_
  rintro r2 h3 ⟨e2, a3, m3⟩
  rw [A2] at e2 a3
  exact g_ic_eq (pc := 1433) o 1850 dL_law_1433 (by decide) (fun _ => k h3 (LV_end (op_feed (xs (n + 1)) (xs (n + 2)) (absM h)) a3 C2 m3 (Iv_feed V.2 (xs (n + 1)) (xs (n + 2))))) (fun c => absurd (e1.trans e2.symm) c)
set_option maxRecDepth 100000 in
set_option maxHeartbeats 400000 in
theorem lc_wipe {Γ : Fr} (o : ca_O Γ cL_law 4 RL 13 492) {L : Nat} {xs : Nat → Int32} (sc : scO Γ L xs) {h : Mem} (V : LV h) {n : Nat} (hn : n + 6 ≤ L) (hL : L < 2 ^ 31) (k : ∀ h2 : Mem, LV h2 → ca_G Γ 4 h2 1850 (lwL n) []) : ca_G Γ 4 h 1438 (lwL n) [] := by
  refine g_aload_n (pc := 1438) o dL_law_1438 rfl ?_
  refine g_callVQi (pc := 1439) o (co_wipe V.1 ) mt_X9_wipe mv_X9_wipe lk_L_154 rfl rfl rfl (by decide) rfl (Nat.le_of_ble_eq_true rfl) dL_law_1439 ?_
  rintro r1 h2 ⟨e1, C2, m2⟩
  have A2 := abs_kM m2
  refine g_aload_n (pc := 1442) o dL_law_1442 rfl ?_
  refine g_callVQi (pc := 1443) o (mo_wipe (h := h2) ) mt_X10_wipe mv_X10_wipe lk_L_158 rfl rfl rfl (by decide) rfl (Nat.le_of_ble_eq_true rfl) dL_law_1443 ?_
  rintro r2 h3 ⟨e2, a3, m3⟩
  rw [A2] at e2 a3
  exact g_ic_eq (pc := 1446) o 1850 dL_law_1446 (by decide) (fun _ => k h3 (LV_end (op_wipe  (absM h)) a3 C2 m3 (Iv_wipe V.2 ))) (fun c => absurd (e1.trans e2.symm) c)
set_option maxRecDepth 100000 in
set_option maxHeartbeats 400000 in
theorem lc_text {Γ : Fr} (o : ca_O Γ cL_law 4 RL 13 492) {L : Nat} {xs : Nat → Int32} (sc : scO Γ L xs) {h : Mem} (V : LV h) {n : Nat} (hn : n + 6 ≤ L) (hL : L < 2 ^ 31) (k : ∀ h2 : Mem, LV h2 → ca_G Γ 4 h2 1850 (lwL n) []) : ca_G Γ 4 h 1451 (lwL n) [] := by
  refine g_aload_n (pc := 1451) o dL_law_1451 rfl ?_
  refine g_callVQi (pc := 1452) o (co_text V.1 V.2 ) mt_X9_text mv_X9_text lk_L_159 rfl rfl rfl (by decide) rfl (Nat.le_of_ble_eq_true rfl) dL_law_1452 ?_
  rintro r1 h2 ⟨e1, C2, m2⟩
  have A2 := abs_kM m2
  have I2 : Iv (absM h2) := by rw [A2]; exact V.2
  refine g_aload_n (pc := 1455) o dL_law_1455 rfl ?_
  refine g_callVQi (pc := 1456) o (mo_text (h := h2) I2 ) mt_X10_text mv_X10_text lk_L_162 rfl rfl rfl (by decide) rfl (Nat.le_of_ble_eq_true rfl) dL_law_1456 ?_
  rintro r2 h3 ⟨e2, a3, m3⟩
  rw [A2] at e2 a3
  exact g_ic_eq (pc := 1459) o 1850 dL_law_1459 (by decide) (fun _ => k h3 (LV_end (op_text  (absM h)) a3 C2 m3 (Iv_text V.2 ))) (fun c => absurd (e1.trans e2.symm) c)
set_option maxRecDepth 100000 in
set_option maxHeartbeats 400000 in
theorem lc_hold {Γ : Fr} (o : ca_O Γ cL_law 4 RL 13 492) {L : Nat} {xs : Nat → Int32} (sc : scO Γ L xs) {h : Mem} (V : LV h) {n : Nat} (hn : n + 6 ≤ L) (hL : L < 2 ^ 31) (k : ∀ h2 : Mem, LV h2 → ca_G Γ 4 h2 1850 (lwL n) []) : ca_G Γ 4 h 1464 (lwL n) [] := by
  refine g_aload_n (pc := 1464) o dL_law_1464 rfl ?_
  refine g_aload_n (pc := 1465) o dL_law_1465 rfl ?_
  refine g_iload_n (pc := 1466) o dL_law_1466 rfl ?_
  refine g_iconst (pc := 1467) o dL_law_1467 1 rfl ?_
  refine g_iadd (pc := 1468) o dL_law_1468 ?_
  refine n_sld (pc := 1469) o sc (n + 1) (nI_add n 1) (by omega) hL dL_law_1469 ?_
  refine g_aload_n (pc := 1470) o dL_law_1470 rfl ?_
  refine g_iload_n (pc := 1471) o dL_law_1471 rfl ?_
  refine g_iconst (pc := 1472) o dL_law_1472 2 rfl ?_
  refine g_iadd (pc := 1473) o dL_law_1473 ?_
  refine n_sld (pc := 1474) o sc (n + 2) (nI_add n 2) (by omega) hL dL_law_1474 ?_
  refine g_callVQi (pc := 1475) o (co_hold V.1 (xs (n + 1)) (xs (n + 2))) mt_X9_hold mv_X9_hold lk_L_163 rfl rfl rfl (by decide) rfl (Nat.le_of_ble_eq_true rfl) dL_law_1475 ?_
  rintro r1 h2 ⟨e1, C2, m2⟩
  have A2 := abs_kM m2
  have I2 : Iv (absM h2) := by rw [A2]; exact V.2
  refine g_aload_n (pc := 1478) o dL_law_1478 rfl ?_
  refine g_aload_n (pc := 1479) o dL_law_1479 rfl ?_
  refine g_iload_n (pc := 1480) o dL_law_1480 rfl ?_
  refine g_iconst (pc := 1481) o dL_law_1481 1 rfl ?_
  refine g_iadd (pc := 1482) o dL_law_1482 ?_
  refine n_sld (pc := 1483) o sc (n + 1) (nI_add n 1) (by omega) hL dL_law_1483 ?_
  refine g_aload_n (pc := 1484) o dL_law_1484 rfl ?_
  refine g_iload_n (pc := 1485) o dL_law_1485 rfl ?_
  refine g_iconst (pc := 1486) o dL_law_1486 2 rfl ?_
  refine g_iadd (pc := 1487) o dL_law_1487 ?_
  refine n_sld (pc := 1488) o sc (n + 2) (nI_add n 2) (by omega) hL dL_law_1488 ?_
  refine g_callVQi (pc := 1489) o (mo_hold (h := h2) I2 (xs (n + 1)) (xs (n + 2))) mt_X10_hold mv_X10_hold lk_L_166 rfl rfl rfl (by decide) rfl (Nat.le_of_ble_eq_true rfl) dL_law_1489 ?_
  rintro r2 h3 ⟨e2, a3, m3⟩
  rw [A2] at e2 a3
  exact g_ic_eq (pc := 1492) o 1850 dL_law_1492 (by decide) (fun _ => k h3 (LV_end (op_hold (xs (n + 1)) (xs (n + 2)) (absM h)) a3 C2 m3 (Iv_hold V.2 (xs (n + 1)) (xs (n + 2))))) (fun c => absurd (e1.trans e2.symm) c)
set_option maxRecDepth 100000 in
set_option maxHeartbeats 400000 in
theorem lc_as {Γ : Fr} (o : ca_O Γ cL_law 4 RL 13 492) {L : Nat} {xs : Nat → Int32} (sc : scO Γ L xs) {h : Mem} (V : LV h) {n : Nat} (hn : n + 6 ≤ L) (hL : L < 2 ^ 31) (k : ∀ h2 : Mem, LV h2 → ca_G Γ 4 h2 1850 (lwL n) []) : ca_G Γ 4 h 1497 (lwL n) [] := by
  refine g_aload_n (pc := 1497) o dL_law_1497 rfl ?_
  refine g_aload_n (pc := 1498) o dL_law_1498 rfl ?_
  refine g_iload_n (pc := 1499) o dL_law_1499 rfl ?_
  refine g_iconst (pc := 1500) o dL_law_1500 1 rfl ?_
  refine g_iadd (pc := 1501) o dL_law_1501 ?_
  refine n_sld (pc := 1502) o sc (n + 1) (nI_add n 1) (by omega) hL dL_law_1502 ?_
  refine g_aload_n (pc := 1503) o dL_law_1503 rfl ?_
  refine g_iload_n (pc := 1504) o dL_law_1504 rfl ?_
  refine g_iconst (pc := 1505) o dL_law_1505 2 rfl ?_
  refine g_iadd (pc := 1506) o dL_law_1506 ?_
  refine n_sld (pc := 1507) o sc (n + 2) (nI_add n 2) (by omega) hL dL_law_1507 ?_
  refine g_callVQi (pc := 1508) o (co_as V.1 V.2 (xs (n + 1)) (xs (n + 2))) mt_X9_as mv_X9_as lk_L_167 rfl rfl rfl (by decide) rfl (Nat.le_of_ble_eq_true rfl) dL_law_1508 ?_
  rintro r1 h2 ⟨e1, C2, m2⟩
  have A2 := abs_kM m2
  have I2 : Iv (absM h2) := by rw [A2]; exact V.2
  refine g_aload_n (pc := 1511) o dL_law_1511 rfl ?_
  refine g_aload_n (pc := 1512) o dL_law_1512 rfl ?_
  refine g_iload_n (pc := 1513) o dL_law_1513 rfl ?_
  refine g_iconst (pc := 1514) o dL_law_1514 1 rfl ?_
  refine g_iadd (pc := 1515) o dL_law_1515 ?_
  refine n_sld (pc := 1516) o sc (n + 1) (nI_add n 1) (by omega) hL dL_law_1516 ?_
  refine g_aload_n (pc := 1517) o dL_law_1517 rfl ?_
  refine g_iload_n (pc := 1518) o dL_law_1518 rfl ?_
  refine g_iconst (pc := 1519) o dL_law_1519 2 rfl ?_
  refine g_iadd (pc := 1520) o dL_law_1520 ?_
  refine n_sld (pc := 1521) o sc (n + 2) (nI_add n 2) (by omega) hL dL_law_1521 ?_
  refine g_callVQi (pc := 1522) o (mo_as (h := h2) I2 (xs (n + 1)) (xs (n + 2))) mt_X10_as mv_X10_as lk_L_170 rfl rfl rfl (by decide) rfl (Nat.le_of_ble_eq_true rfl) dL_law_1522 ?_
  rintro r2 h3 ⟨e2, a3, m3⟩
  rw [A2] at e2 a3
  exact g_ic_eq (pc := 1525) o 1850 dL_law_1525 (by decide) (fun _ => k h3 (LV_end (op_as (xs (n + 1)) (xs (n + 2)) (absM h)) a3 C2 m3 (Iv_as V.2 (xs (n + 1)) (xs (n + 2))))) (fun c => absurd (e1.trans e2.symm) c)
set_option maxRecDepth 100000 in
set_option maxHeartbeats 400000 in
theorem lc_sheet {Γ : Fr} (o : ca_O Γ cL_law 4 RL 13 492) {L : Nat} {xs : Nat → Int32} (sc : scO Γ L xs) {h : Mem} (V : LV h) {n : Nat} (hn : n + 6 ≤ L) (hL : L < 2 ^ 31) (k : ∀ h2 : Mem, LV h2 → ca_G Γ 4 h2 1850 (lwL n) []) : ca_G Γ 4 h 1530 (lwL n) [] := by
  refine g_aload_n (pc := 1530) o dL_law_1530 rfl ?_
  refine g_aload_n (pc := 1531) o dL_law_1531 rfl ?_
  refine g_iload_n (pc := 1532) o dL_law_1532 rfl ?_
  refine g_iconst (pc := 1533) o dL_law_1533 1 rfl ?_
  refine g_iadd (pc := 1534) o dL_law_1534 ?_
  refine n_sld (pc := 1535) o sc (n + 1) (nI_add n 1) (by omega) hL dL_law_1535 ?_
  refine g_aload_n (pc := 1536) o dL_law_1536 rfl ?_
  refine g_iload_n (pc := 1537) o dL_law_1537 rfl ?_
  refine g_iconst (pc := 1538) o dL_law_1538 2 rfl ?_
  refine g_iadd (pc := 1539) o dL_law_1539 ?_
  refine n_sld (pc := 1540) o sc (n + 2) (nI_add n 2) (by omega) hL dL_law_1540 ?_
  refine g_aload_n (pc := 1541) o dL_law_1541 rfl ?_
  refine g_iload_n (pc := 1542) o dL_law_1542 rfl ?_
  refine g_iconst (pc := 1543) o dL_law_1543 3 rfl ?_
  refine g_iadd (pc := 1544) o dL_law_1544 ?_
  refine n_sld (pc := 1545) o sc (n + 3) (nI_add n 3) (by omega) hL dL_law_1545 ?_
  refine g_callVQi (pc := 1546) o (co_sheet V.1 (xs (n + 1)) (xs (n + 2)) (xs (n + 3))) mt_X9_sheet mv_X9_sheet lk_L_171 rfl rfl rfl (by decide) rfl (Nat.le_of_ble_eq_true rfl) dL_law_1546 ?_
  rintro r1 h2 ⟨e1, C2, m2⟩
  have A2 := abs_kM m2
  refine g_aload_n (pc := 1549) o dL_law_1549 rfl ?_
  refine g_aload_n (pc := 1550) o dL_law_1550 rfl ?_
  refine g_iload_n (pc := 1551) o dL_law_1551 rfl ?_
  refine g_iconst (pc := 1552) o dL_law_1552 1 rfl ?_
  refine g_iadd (pc := 1553) o dL_law_1553 ?_
  refine n_sld (pc := 1554) o sc (n + 1) (nI_add n 1) (by omega) hL dL_law_1554 ?_
  refine g_aload_n (pc := 1555) o dL_law_1555 rfl ?_
  refine g_iload_n (pc := 1556) o dL_law_1556 rfl ?_
  refine g_iconst (pc := 1557) o dL_law_1557 2 rfl ?_
  refine g_iadd (pc := 1558) o dL_law_1558 ?_
  refine n_sld (pc := 1559) o sc (n + 2) (nI_add n 2) (by omega) hL dL_law_1559 ?_
  refine g_aload_n (pc := 1560) o dL_law_1560 rfl ?_
  refine g_iload_n (pc := 1561) o dL_law_1561 rfl ?_
  refine g_iconst (pc := 1562) o dL_law_1562 3 rfl ?_
  refine g_iadd (pc := 1563) o dL_law_1563 ?_
  refine n_sld (pc := 1564) o sc (n + 3) (nI_add n 3) (by omega) hL dL_law_1564 ?_
  refine g_callVQi (pc := 1565) o (mo_sheet (h := h2) (xs (n + 1)) (xs (n + 2)) (xs (n + 3))) mt_X10_sheet mv_X10_sheet lk_L_174 rfl rfl rfl (by decide) rfl (Nat.le_of_ble_eq_true rfl) dL_law_1565 ?_
  rintro r2 h3 ⟨e2, a3, m3⟩
  rw [A2] at e2 a3
  exact g_ic_eq (pc := 1568) o 1850 dL_law_1568 (by decide) (fun _ => k h3 (LV_end (op_sheet (xs (n + 1)) (xs (n + 2)) (xs (n + 3)) (absM h)) a3 C2 m3 (Iv_sheet V.2 (xs (n + 1)) (xs (n + 2)) (xs (n + 3))))) (fun c => absurd (e1.trans e2.symm) c)
set_option maxRecDepth 100000 in
set_option maxHeartbeats 400000 in
theorem lc_write {Γ : Fr} (o : ca_O Γ cL_law 4 RL 13 492) {L : Nat} {xs : Nat → Int32} (sc : scO Γ L xs) {h : Mem} (V : LV h) {n : Nat} (hn : n + 6 ≤ L) (hL : L < 2 ^ 31) (k : ∀ h2 : Mem, LV h2 → ca_G Γ 4 h2 1850 (lwL n) []) : ca_G Γ 4 h 1573 (lwL n) [] := by
  refine g_aload_n (pc := 1573) o dL_law_1573 rfl ?_
  refine g_aload_n (pc := 1574) o dL_law_1574 rfl ?_
  refine g_iload_n (pc := 1575) o dL_law_1575 rfl ?_
  refine g_iconst (pc := 1576) o dL_law_1576 1 rfl ?_
  refine g_iadd (pc := 1577) o dL_law_1577 ?_
  refine n_sld (pc := 1578) o sc (n + 1) (nI_add n 1) (by omega) hL dL_law_1578 ?_
  refine g_aload_n (pc := 1579) o dL_law_1579 rfl ?_
  refine g_iload_n (pc := 1580) o dL_law_1580 rfl ?_
  refine g_iconst (pc := 1581) o dL_law_1581 2 rfl ?_
  refine g_iadd (pc := 1582) o dL_law_1582 ?_
  refine n_sld (pc := 1583) o sc (n + 2) (nI_add n 2) (by omega) hL dL_law_1583 ?_
  refine g_aload_n (pc := 1584) o dL_law_1584 rfl ?_
  refine g_iload_n (pc := 1585) o dL_law_1585 rfl ?_
  refine g_iconst (pc := 1586) o dL_law_1586 3 rfl ?_
  refine g_iadd (pc := 1587) o dL_law_1587 ?_
  refine n_sld (pc := 1588) o sc (n + 3) (nI_add n 3) (by omega) hL dL_law_1588 ?_
  refine g_callVQi (pc := 1589) o (co_write V.1 V.2 (xs (n + 1)) (xs (n + 2)) (xs (n + 3))) mt_X9_write mv_X9_write lk_L_175 rfl rfl rfl (by decide) rfl (Nat.le_of_ble_eq_true rfl) dL_law_1589 ?_
  rintro r1 h2 ⟨e1, C2, m2⟩
  have A2 := abs_kM m2
  have I2 : Iv (absM h2) := by rw [A2]; exact V.2
  refine g_aload_n (pc := 1592) o dL_law_1592 rfl ?_
  refine g_aload_n (pc := 1593) o dL_law_1593 rfl ?_
  refine g_iload_n (pc := 1594) o dL_law_1594 rfl ?_
  refine g_iconst (pc := 1595) o dL_law_1595 1 rfl ?_
  refine g_iadd (pc := 1596) o dL_law_1596 ?_
  refine n_sld (pc := 1597) o sc (n + 1) (nI_add n 1) (by omega) hL dL_law_1597 ?_
  refine g_aload_n (pc := 1598) o dL_law_1598 rfl ?_
  refine g_iload_n (pc := 1599) o dL_law_1599 rfl ?_
  refine g_iconst (pc := 1600) o dL_law_1600 2 rfl ?_
  refine g_iadd (pc := 1601) o dL_law_1601 ?_
  refine n_sld (pc := 1602) o sc (n + 2) (nI_add n 2) (by omega) hL dL_law_1602 ?_
  refine g_aload_n (pc := 1603) o dL_law_1603 rfl ?_
  refine g_iload_n (pc := 1604) o dL_law_1604 rfl ?_
  refine g_iconst (pc := 1605) o dL_law_1605 3 rfl ?_
  refine g_iadd (pc := 1606) o dL_law_1606 ?_
  refine n_sld (pc := 1607) o sc (n + 3) (nI_add n 3) (by omega) hL dL_law_1607 ?_
  refine g_callVQi (pc := 1608) o (mo_write (h := h2) I2 (xs (n + 1)) (xs (n + 2)) (xs (n + 3))) mt_X10_write mv_X10_write lk_L_178 rfl rfl rfl (by decide) rfl (Nat.le_of_ble_eq_true rfl) dL_law_1608 ?_
  rintro r2 h3 ⟨e2, a3, m3⟩
  rw [A2] at e2 a3
  exact g_ic_eq (pc := 1611) o 1850 dL_law_1611 (by decide) (fun _ => k h3 (LV_end (op_write (xs (n + 1)) (xs (n + 2)) (xs (n + 3)) (absM h)) a3 C2 m3 (Iv_write V.2 (xs (n + 1)) (xs (n + 2)) (xs (n + 3))))) (fun c => absurd (e1.trans e2.symm) c)
set_option maxRecDepth 100000 in
set_option maxHeartbeats 400000 in
theorem lc_copy {Γ : Fr} (o : ca_O Γ cL_law 4 RL 13 492) {L : Nat} {xs : Nat → Int32} (sc : scO Γ L xs) {h : Mem} (V : LV h) {n : Nat} (hn : n + 6 ≤ L) (hL : L < 2 ^ 31) (k : ∀ h2 : Mem, LV h2 → ca_G Γ 4 h2 1850 (lwL n) []) : ca_G Γ 4 h 1616 (lwL n) [] := by
  refine g_aload_n (pc := 1616) o dL_law_1616 rfl ?_
  refine g_aload_n (pc := 1617) o dL_law_1617 rfl ?_
  refine g_iload_n (pc := 1618) o dL_law_1618 rfl ?_
  refine g_iconst (pc := 1619) o dL_law_1619 1 rfl ?_
  refine g_iadd (pc := 1620) o dL_law_1620 ?_
  refine n_sld (pc := 1621) o sc (n + 1) (nI_add n 1) (by omega) hL dL_law_1621 ?_
  refine g_aload_n (pc := 1622) o dL_law_1622 rfl ?_
  refine g_iload_n (pc := 1623) o dL_law_1623 rfl ?_
  refine g_iconst (pc := 1624) o dL_law_1624 2 rfl ?_
  refine g_iadd (pc := 1625) o dL_law_1625 ?_
  refine n_sld (pc := 1626) o sc (n + 2) (nI_add n 2) (by omega) hL dL_law_1626 ?_
  refine g_aload_n (pc := 1627) o dL_law_1627 rfl ?_
  refine g_iload_n (pc := 1628) o dL_law_1628 rfl ?_
  refine g_iconst (pc := 1629) o dL_law_1629 3 rfl ?_
  refine g_iadd (pc := 1630) o dL_law_1630 ?_
  refine n_sld (pc := 1631) o sc (n + 3) (nI_add n 3) (by omega) hL dL_law_1631 ?_
  refine g_aload_n (pc := 1632) o dL_law_1632 rfl ?_
  refine g_iload_n (pc := 1633) o dL_law_1633 rfl ?_
  refine g_iconst (pc := 1634) o dL_law_1634 4 rfl ?_
  refine g_iadd (pc := 1635) o dL_law_1635 ?_
  refine n_sld (pc := 1636) o sc (n + 4) (nI_add n 4) (by omega) hL dL_law_1636 ?_
  refine g_aload_n (pc := 1637) o dL_law_1637 rfl ?_
  refine g_iload_n (pc := 1638) o dL_law_1638 rfl ?_
  refine g_iconst (pc := 1639) o dL_law_1639 5 rfl ?_
  refine g_iadd (pc := 1640) o dL_law_1640 ?_
  refine n_sld (pc := 1641) o sc (n + 5) (nI_add n 5) (by omega) hL dL_law_1641 ?_
  refine g_callVQi (pc := 1642) o (co_copy V.1 V.2 (xs (n + 1)) (xs (n + 2)) (xs (n + 3)) (xs (n + 4)) (xs (n + 5))) mt_X9_copy mv_X9_copy lk_L_179 rfl rfl rfl (by decide) rfl (Nat.le_of_ble_eq_true rfl) dL_law_1642 ?_
  rintro r1 h2 ⟨e1, C2, m2⟩
  have A2 := abs_kM m2
  have I2 : Iv (absM h2) := by rw [A2]; exact V.2
  refine g_aload_n (pc := 1645) o dL_law_1645 rfl ?_
  refine g_aload_n (pc := 1646) o dL_law_1646 rfl ?_
  refine g_iload_n (pc := 1647) o dL_law_1647 rfl ?_
  refine g_iconst (pc := 1648) o dL_law_1648 1 rfl ?_
  refine g_iadd (pc := 1649) o dL_law_1649 ?_
  refine n_sld (pc := 1650) o sc (n + 1) (nI_add n 1) (by omega) hL dL_law_1650 ?_
  refine g_aload_n (pc := 1651) o dL_law_1651 rfl ?_
  refine g_iload_n (pc := 1652) o dL_law_1652 rfl ?_
  refine g_iconst (pc := 1653) o dL_law_1653 2 rfl ?_
  refine g_iadd (pc := 1654) o dL_law_1654 ?_
  refine n_sld (pc := 1655) o sc (n + 2) (nI_add n 2) (by omega) hL dL_law_1655 ?_
  refine g_aload_n (pc := 1656) o dL_law_1656 rfl ?_
  refine g_iload_n (pc := 1657) o dL_law_1657 rfl ?_
  refine g_iconst (pc := 1658) o dL_law_1658 3 rfl ?_
  refine g_iadd (pc := 1659) o dL_law_1659 ?_
  refine n_sld (pc := 1660) o sc (n + 3) (nI_add n 3) (by omega) hL dL_law_1660 ?_
  refine g_aload_n (pc := 1661) o dL_law_1661 rfl ?_
  refine g_iload_n (pc := 1662) o dL_law_1662 rfl ?_
  refine g_iconst (pc := 1663) o dL_law_1663 4 rfl ?_
  refine g_iadd (pc := 1664) o dL_law_1664 ?_
  refine n_sld (pc := 1665) o sc (n + 4) (nI_add n 4) (by omega) hL dL_law_1665 ?_
  refine g_aload_n (pc := 1666) o dL_law_1666 rfl ?_
  refine g_iload_n (pc := 1667) o dL_law_1667 rfl ?_
  refine g_iconst (pc := 1668) o dL_law_1668 5 rfl ?_
  refine g_iadd (pc := 1669) o dL_law_1669 ?_
  refine n_sld (pc := 1670) o sc (n + 5) (nI_add n 5) (by omega) hL dL_law_1670 ?_
  refine g_callVQi (pc := 1671) o (mo_copy (h := h2) I2 (xs (n + 1)) (xs (n + 2)) (xs (n + 3)) (xs (n + 4)) (xs (n + 5))) mt_X10_copy mv_X10_copy lk_L_183 rfl rfl rfl (by decide) rfl (Nat.le_of_ble_eq_true rfl) dL_law_1671 ?_
  rintro r2 h3 ⟨e2, a3, m3⟩
  rw [A2] at e2 a3
  exact g_ic_eq (pc := 1674) o 1850 dL_law_1674 (by decide) (fun _ => k h3 (LV_end (op_copy (xs (n + 1)) (xs (n + 2)) (xs (n + 3)) (xs (n + 4)) (xs (n + 5)) (absM h)) a3 C2 m3 (Iv_copy V.2 (xs (n + 1)) (xs (n + 2)) (xs (n + 3)) (xs (n + 4)) (xs (n + 5))))) (fun c => absurd (e1.trans e2.symm) c)
set_option maxRecDepth 100000 in
set_option maxHeartbeats 400000 in
theorem lc_load {Γ : Fr} (o : ca_O Γ cL_law 4 RL 13 492) {L : Nat} {xs : Nat → Int32} (sc : scO Γ L xs) {h : Mem} (V : LV h) {n : Nat} (hn : n + 6 ≤ L) (hL : L < 2 ^ 31) (k : ∀ h2 : Mem, LV h2 → ca_G Γ 4 h2 1850 (lwL n) []) : ca_G Γ 4 h 1679 (lwL n) [] := by
  refine g_aload_n (pc := 1679) o dL_law_1679 rfl ?_
  refine g_aload_n (pc := 1680) o dL_law_1680 rfl ?_
  refine g_iload_n (pc := 1681) o dL_law_1681 rfl ?_
  refine g_iconst (pc := 1682) o dL_law_1682 1 rfl ?_
  refine g_iadd (pc := 1683) o dL_law_1683 ?_
  refine n_sld (pc := 1684) o sc (n + 1) (nI_add n 1) (by omega) hL dL_law_1684 ?_
  refine g_aload_n (pc := 1685) o dL_law_1685 rfl ?_
  refine g_iload_n (pc := 1686) o dL_law_1686 rfl ?_
  refine g_iconst (pc := 1687) o dL_law_1687 2 rfl ?_
  refine g_iadd (pc := 1688) o dL_law_1688 ?_
  refine n_sld (pc := 1689) o sc (n + 2) (nI_add n 2) (by omega) hL dL_law_1689 ?_
  refine g_aload_n (pc := 1690) o dL_law_1690 rfl ?_
  refine g_iload_n (pc := 1691) o dL_law_1691 rfl ?_
  refine g_iconst (pc := 1692) o dL_law_1692 3 rfl ?_
  refine g_iadd (pc := 1693) o dL_law_1693 ?_
  refine n_sld (pc := 1694) o sc (n + 3) (nI_add n 3) (by omega) hL dL_law_1694 ?_
  refine g_callVQi (pc := 1695) o (co_load V.1 V.2 (xs (n + 1)) (xs (n + 2)) (xs (n + 3))) mt_X9_load mv_X9_load lk_L_184 rfl rfl rfl (by decide) rfl (Nat.le_of_ble_eq_true rfl) dL_law_1695 ?_
  rintro r1 h2 ⟨e1, C2, m2⟩
  have A2 := abs_kM m2
  have I2 : Iv (absM h2) := by rw [A2]; exact V.2
  refine g_aload_n (pc := 1698) o dL_law_1698 rfl ?_
  refine g_aload_n (pc := 1699) o dL_law_1699 rfl ?_
  refine g_iload_n (pc := 1700) o dL_law_1700 rfl ?_
  refine g_iconst (pc := 1701) o dL_law_1701 1 rfl ?_
  refine g_iadd (pc := 1702) o dL_law_1702 ?_
  refine n_sld (pc := 1703) o sc (n + 1) (nI_add n 1) (by omega) hL dL_law_1703 ?_
  refine g_aload_n (pc := 1704) o dL_law_1704 rfl ?_
  refine g_iload_n (pc := 1705) o dL_law_1705 rfl ?_
  refine g_iconst (pc := 1706) o dL_law_1706 2 rfl ?_
  refine g_iadd (pc := 1707) o dL_law_1707 ?_
  refine n_sld (pc := 1708) o sc (n + 2) (nI_add n 2) (by omega) hL dL_law_1708 ?_
  refine g_aload_n (pc := 1709) o dL_law_1709 rfl ?_
  refine g_iload_n (pc := 1710) o dL_law_1710 rfl ?_
  refine g_iconst (pc := 1711) o dL_law_1711 3 rfl ?_
  refine g_iadd (pc := 1712) o dL_law_1712 ?_
  refine n_sld (pc := 1713) o sc (n + 3) (nI_add n 3) (by omega) hL dL_law_1713 ?_
  refine g_callVQi (pc := 1714) o (mo_load (h := h2) I2 (xs (n + 1)) (xs (n + 2)) (xs (n + 3))) mt_X10_load mv_X10_load lk_L_187 rfl rfl rfl (by decide) rfl (Nat.le_of_ble_eq_true rfl) dL_law_1714 ?_
  rintro r2 h3 ⟨e2, a3, m3⟩
  rw [A2] at e2 a3
  exact g_ic_eq (pc := 1717) o 1850 dL_law_1717 (by decide) (fun _ => k h3 (LV_end (op_load (xs (n + 1)) (xs (n + 2)) (xs (n + 3)) (absM h)) a3 C2 m3 (Iv_load V.2 (xs (n + 1)) (xs (n + 2)) (xs (n + 3))))) (fun c => absurd (e1.trans e2.symm) c)
set_option maxRecDepth 100000 in
set_option maxHeartbeats 400000 in
theorem lc_judge {Γ : Fr} (o : ca_O Γ cL_law 4 RL 13 492) {L : Nat} {xs : Nat → Int32} (sc : scO Γ L xs) {h : Mem} (V : LV h) {n : Nat} (hn : n + 6 ≤ L) (hL : L < 2 ^ 31) (k : ∀ h2 : Mem, LV h2 → ca_G Γ 4 h2 1850 (lwL n) []) : ca_G Γ 4 h 1722 (lwL n) [] := by
  refine g_aload_n (pc := 1722) o dL_law_1722 rfl ?_
  refine g_aload_n (pc := 1723) o dL_law_1723 rfl ?_
  refine g_iload_n (pc := 1724) o dL_law_1724 rfl ?_
  refine g_iconst (pc := 1725) o dL_law_1725 1 rfl ?_
  refine g_iadd (pc := 1726) o dL_law_1726 ?_
  refine n_sld (pc := 1727) o sc (n + 1) (nI_add n 1) (by omega) hL dL_law_1727 ?_
  refine g_aload_n (pc := 1728) o dL_law_1728 rfl ?_
  refine g_iload_n (pc := 1729) o dL_law_1729 rfl ?_
  refine g_iconst (pc := 1730) o dL_law_1730 2 rfl ?_
  refine g_iadd (pc := 1731) o dL_law_1731 ?_
  refine n_sld (pc := 1732) o sc (n + 2) (nI_add n 2) (by omega) hL dL_law_1732 ?_
  refine g_aload_n (pc := 1733) o dL_law_1733 rfl ?_
  refine g_iload_n (pc := 1734) o dL_law_1734 rfl ?_
  refine g_iconst (pc := 1735) o dL_law_1735 3 rfl ?_
  refine g_iadd (pc := 1736) o dL_law_1736 ?_
  refine n_sld (pc := 1737) o sc (n + 3) (nI_add n 3) (by omega) hL dL_law_1737 ?_
  refine g_callVQi (pc := 1738) o (co_judge V.1 V.2 (xs (n + 1)) (xs (n + 2)) (xs (n + 3))) mt_X9_judge mv_X9_judge lk_L_188 rfl rfl rfl (by decide) rfl (Nat.le_of_ble_eq_true rfl) dL_law_1738 ?_
  rintro r1 h2 ⟨e1, C2, m2⟩
  have A2 := abs_kM m2
  have I2 : Iv (absM h2) := by rw [A2]; exact V.2
  refine g_aload_n (pc := 1741) o dL_law_1741 rfl ?_
  refine g_aload_n (pc := 1742) o dL_law_1742 rfl ?_
  refine g_iload_n (pc := 1743) o dL_law_1743 rfl ?_
  refine g_iconst (pc := 1744) o dL_law_1744 1 rfl ?_
  refine g_iadd (pc := 1745) o dL_law_1745 ?_
  refine n_sld (pc := 1746) o sc (n + 1) (nI_add n 1) (by omega) hL dL_law_1746 ?_
  refine g_aload_n (pc := 1747) o dL_law_1747 rfl ?_
  refine g_iload_n (pc := 1748) o dL_law_1748 rfl ?_
  refine g_iconst (pc := 1749) o dL_law_1749 2 rfl ?_
  refine g_iadd (pc := 1750) o dL_law_1750 ?_
  refine n_sld (pc := 1751) o sc (n + 2) (nI_add n 2) (by omega) hL dL_law_1751 ?_
  refine g_aload_n (pc := 1752) o dL_law_1752 rfl ?_
  refine g_iload_n (pc := 1753) o dL_law_1753 rfl ?_
  refine g_iconst (pc := 1754) o dL_law_1754 3 rfl ?_
  refine g_iadd (pc := 1755) o dL_law_1755 ?_
  refine n_sld (pc := 1756) o sc (n + 3) (nI_add n 3) (by omega) hL dL_law_1756 ?_
  refine g_callVQi (pc := 1757) o (mo_judge (h := h2) I2 (xs (n + 1)) (xs (n + 2)) (xs (n + 3))) mt_X10_judge mv_X10_judge lk_L_191 rfl rfl rfl (by decide) rfl (Nat.le_of_ble_eq_true rfl) dL_law_1757 ?_
  rintro r2 h3 ⟨e2, a3, m3⟩
  rw [A2] at e2 a3
  exact g_ic_eq (pc := 1760) o 1850 dL_law_1760 (by decide) (fun _ => k h3 (LV_end (op_judge (xs (n + 1)) (xs (n + 2)) (xs (n + 3)) (absM h)) a3 C2 m3 (Iv_judge V.2 (xs (n + 1)) (xs (n + 2)) (xs (n + 3))))) (fun c => absurd (e1.trans e2.symm) c)
set_option maxRecDepth 100000 in
set_option maxHeartbeats 400000 in
theorem lc_image {Γ : Fr} (o : ca_O Γ cL_law 4 RL 13 492) {L : Nat} {xs : Nat → Int32} (sc : scO Γ L xs) {h : Mem} (V : LV h) {n : Nat} (hn : n + 6 ≤ L) (hL : L < 2 ^ 31) (k : ∀ h2 : Mem, LV h2 → ca_G Γ 4 h2 1850 (lwL n) []) : ca_G Γ 4 h 1765 (lwL n) [] := by
  refine g_aload_n (pc := 1765) o dL_law_1765 rfl ?_
  refine g_callVQi (pc := 1766) o (co_image V.1 ) mt_X9_image mv_X9_image lk_L_192 rfl rfl rfl (by decide) rfl (Nat.le_of_ble_eq_true rfl) dL_law_1766 ?_
  rintro r1 h2 ⟨e1, C2, m2⟩
  have A2 := abs_kM m2
  refine g_aload_n (pc := 1769) o dL_law_1769 rfl ?_
  refine g_callVQi (pc := 1770) o (mo_image (h := h2) ) mt_X10_image mv_X10_image lk_L_195 rfl rfl rfl (by decide) rfl (Nat.le_of_ble_eq_true rfl) dL_law_1770 ?_
  rintro r2 h3 ⟨e2, a3, m3⟩
  rw [A2] at e2 a3
  exact g_ic_eq (pc := 1773) o 1850 dL_law_1773 (by decide) (fun _ => k h3 (LV_end (op_image  (absM h)) a3 C2 m3 (Iv_image V.2 ))) (fun c => absurd (e1.trans e2.symm) c)
set_option maxRecDepth 100000 in
set_option maxHeartbeats 400000 in
theorem lc_undo {Γ : Fr} (o : ca_O Γ cL_law 4 RL 13 492) {L : Nat} {xs : Nat → Int32} (sc : scO Γ L xs) {h : Mem} (V : LV h) {n : Nat} (hn : n + 6 ≤ L) (hL : L < 2 ^ 31) (k : ∀ h2 : Mem, LV h2 → ca_G Γ 4 h2 1850 (lwL n) []) : ca_G Γ 4 h 1778 (lwL n) [] := by
  refine g_aload_n (pc := 1778) o dL_law_1778 rfl ?_
  refine g_callVQi (pc := 1779) o (co_undo V.1 V.2 ) mt_X9_undo mv_X9_undo lk_L_196 rfl rfl rfl (by decide) rfl (Nat.le_of_ble_eq_true rfl) dL_law_1779 ?_
  rintro r1 h2 ⟨e1, C2, m2⟩
  have A2 := abs_kM m2
  refine g_aload_n (pc := 1782) o dL_law_1782 rfl ?_
  refine g_callVQi (pc := 1783) o (mo_undo (h := h2) ) mt_X10_undo mv_X10_undo lk_L_199 rfl rfl rfl (by decide) rfl (Nat.le_of_ble_eq_true rfl) dL_law_1783 ?_
  rintro r2 h3 ⟨e2, a3, m3⟩
  rw [A2] at e2 a3
  exact g_ic_eq (pc := 1786) o 1850 dL_law_1786 (by decide) (fun _ => k h3 (LV_end (op_undo  (absM h)) a3 C2 m3 (Iv_undo V.2 ))) (fun c => absurd (e1.trans e2.symm) c)
set_option maxRecDepth 100000 in
set_option maxHeartbeats 400000 in
theorem lc_tear {Γ : Fr} (o : ca_O Γ cL_law 4 RL 13 492) {L : Nat} {xs : Nat → Int32} (sc : scO Γ L xs) {h : Mem} (V : LV h) {n : Nat} (hn : n + 6 ≤ L) (hL : L < 2 ^ 31) (k : ∀ h2 : Mem, LV h2 → ca_G Γ 4 h2 1850 (lwL n) []) : ca_G Γ 4 h 1791 (lwL n) [] := by
  refine g_aload_n (pc := 1791) o dL_law_1791 rfl ?_
  refine g_callVQi (pc := 1792) o (co_tear V.1 ) mt_X9_tear mv_X9_tear lk_L_200 rfl rfl rfl (by decide) rfl (Nat.le_of_ble_eq_true rfl) dL_law_1792 ?_
  rintro r1 h2 ⟨e1, C2, m2⟩
  have A2 := abs_kM m2
  refine g_aload_n (pc := 1795) o dL_law_1795 rfl ?_
  refine g_callVQi (pc := 1796) o (mo_tear (h := h2) ) mt_X10_tear mv_X10_tear lk_L_203 rfl rfl rfl (by decide) rfl (Nat.le_of_ble_eq_true rfl) dL_law_1796 ?_
  rintro r2 h3 ⟨e2, a3, m3⟩
  rw [A2] at e2 a3
  exact g_ic_eq (pc := 1799) o 1850 dL_law_1799 (by decide) (fun _ => k h3 (LV_end (op_tear  (absM h)) a3 C2 m3 (Iv_tear V.2 ))) (fun c => absurd (e1.trans e2.symm) c)
set_option maxRecDepth 100000 in
set_option maxHeartbeats 400000 in
theorem lc_many {Γ : Fr} (o : ca_O Γ cL_law 4 RL 13 492) {L : Nat} {xs : Nat → Int32} (sc : scO Γ L xs) {h : Mem} (V : LV h) {n : Nat} (hn : n + 6 ≤ L) (hL : L < 2 ^ 31) (k : ∀ h2 : Mem, LV h2 → ca_G Γ 4 h2 1850 (lwL n) []) : ca_G Γ 4 h 1804 (lwL n) [] := by
  refine g_aload_n (pc := 1804) o dL_law_1804 rfl ?_
  refine g_aload_n (pc := 1805) o dL_law_1805 rfl ?_
  refine g_iload_n (pc := 1806) o dL_law_1806 rfl ?_
  refine g_iconst (pc := 1807) o dL_law_1807 1 rfl ?_
  refine g_iadd (pc := 1808) o dL_law_1808 ?_
  refine n_sld (pc := 1809) o sc (n + 1) (nI_add n 1) (by omega) hL dL_law_1809 ?_
  refine g_callVQi (pc := 1810) o (co_many V.1 V.2 (xs (n + 1))) mt_X9_many mv_X9_many lk_L_204 rfl rfl rfl (by decide) rfl (Nat.le_of_ble_eq_true rfl) dL_law_1810 ?_
  rintro r1 h2 ⟨e1, C2, m2⟩
  have A2 := abs_kM m2
  have I2 : Iv (absM h2) := by rw [A2]; exact V.2
  refine g_aload_n (pc := 1813) o dL_law_1813 rfl ?_
  refine g_aload_n (pc := 1814) o dL_law_1814 rfl ?_
  refine g_iload_n (pc := 1815) o dL_law_1815 rfl ?_
  refine g_iconst (pc := 1816) o dL_law_1816 1 rfl ?_
  refine g_iadd (pc := 1817) o dL_law_1817 ?_
  refine n_sld (pc := 1818) o sc (n + 1) (nI_add n 1) (by omega) hL dL_law_1818 ?_
  refine g_callVQi (pc := 1819) o (mo_many (h := h2) I2 (xs (n + 1))) mt_X10_many mv_X10_many lk_L_207 rfl rfl rfl (by decide) rfl (Nat.le_of_ble_eq_true rfl) dL_law_1819 ?_
  rintro r2 h3 ⟨e2, a3, m3⟩
  rw [A2] at e2 a3
  exact g_ic_eq (pc := 1822) o 1850 dL_law_1822 (by decide) (fun _ => k h3 (LV_end (op_many (xs (n + 1)) (absM h)) a3 C2 m3 (Iv_many V.2 (xs (n + 1))))) (fun c => absurd (e1.trans e2.symm) c)
set_option maxRecDepth 100000 in
set_option maxHeartbeats 400000 in
theorem lc_status {Γ : Fr} (o : ca_O Γ cL_law 4 RL 13 492) {L : Nat} {xs : Nat → Int32} (sc : scO Γ L xs) {h : Mem} (V : LV h) {n : Nat} (hn : n + 6 ≤ L) (hL : L < 2 ^ 31) (k : ∀ h2 : Mem, LV h2 → ca_G Γ 4 h2 1850 (lwL n) []) : ca_G Γ 4 h 1827 (lwL n) [] := by
  refine g_aload_n (pc := 1827) o dL_law_1827 rfl ?_
  refine g_aload_n (pc := 1828) o dL_law_1828 rfl ?_
  refine g_iload_n (pc := 1829) o dL_law_1829 rfl ?_
  refine g_iconst (pc := 1830) o dL_law_1830 1 rfl ?_
  refine g_iadd (pc := 1831) o dL_law_1831 ?_
  refine n_sld (pc := 1832) o sc (n + 1) (nI_add n 1) (by omega) hL dL_law_1832 ?_
  refine g_callVQi (pc := 1833) o (co_status V.1 (xs (n + 1))) mt_X9_status mv_X9_status lk_L_208 rfl rfl rfl (by decide) rfl (Nat.le_of_ble_eq_true rfl) dL_law_1833 ?_
  rintro r1 h2 ⟨e1, C2, m2⟩
  have A2 := abs_kM m2
  refine g_aload_n (pc := 1836) o dL_law_1836 rfl ?_
  refine g_aload_n (pc := 1837) o dL_law_1837 rfl ?_
  refine g_iload_n (pc := 1838) o dL_law_1838 rfl ?_
  refine g_iconst (pc := 1839) o dL_law_1839 1 rfl ?_
  refine g_iadd (pc := 1840) o dL_law_1840 ?_
  refine n_sld (pc := 1841) o sc (n + 1) (nI_add n 1) (by omega) hL dL_law_1841 ?_
  refine g_callVQi (pc := 1842) o (mo_status (h := h2) (xs (n + 1))) mt_X10_status mv_X10_status lk_L_211 rfl rfl rfl (by decide) rfl (Nat.le_of_ble_eq_true rfl) dL_law_1842 ?_
  rintro r2 h3 ⟨e2, a3, m3⟩
  rw [A2] at e2 a3
  exact g_ic_eq (pc := 1845) o 1850 dL_law_1845 (by decide) (fun _ => k h3 (LV_end (op_status (xs (n + 1)) (absM h)) a3 C2 m3 (Iv_status V.2 (xs (n + 1))))) (fun c => absurd (e1.trans e2.symm) c)
theorem lw_cmp {L n : Nat} (hL : L < 2 ^ 31) (hn : n ≤ L) (c : ¬ nI L - 6 < nI n) : n + 6 ≤ L := by
  by_cases q : 6 ≤ L
  · obtain ⟨m, rfl⟩ := Nat.exists_eq_add_of_le q
    have e : nI (6 + m) - 6 = nI m := by rw [Nat.add_comm 6 m, ← nI_add]; exact Int32.add_sub_cancel _ _
    rw [e] at c
    have := mt (nI_ltI (a := m) (b := n) (by omega) (by omega)).mpr c
    omega
  · exfalso
    apply c
    rw [Int32.lt_iff_toInt_lt, nI_toInt (by omega : n < 2 ^ 31)]
    rcases (by omega : L = 0 ∨ L = 1 ∨ L = 2 ∨ L = 3 ∨ L = 4 ∨ L = 5) with rfl | rfl | rfl | rfl | rfl | rfl
    · exact Int.lt_of_lt_of_le (show (nI 0 - 6).toInt < 0 by decide) (Int.natCast_nonneg n)
    · exact Int.lt_of_lt_of_le (show (nI 1 - 6).toInt < 0 by decide) (Int.natCast_nonneg n)
    · exact Int.lt_of_lt_of_le (show (nI 2 - 6).toInt < 0 by decide) (Int.natCast_nonneg n)
    · exact Int.lt_of_lt_of_le (show (nI 3 - 6).toInt < 0 by decide) (Int.natCast_nonneg n)
    · exact Int.lt_of_lt_of_le (show (nI 4 - 6).toInt < 0 by decide) (Int.natCast_nonneg n)
    · exact Int.lt_of_lt_of_le (show (nI 5 - 6).toInt < 0 by decide) (Int.natCast_nonneg n)
set_option maxRecDepth 100000 in
set_option maxHeartbeats 1000000 in
theorem lw_sw {Γ : Fr} (o : ca_O Γ cL_law 4 RL 13 492) {L : Nat} {xs : Nat → Int32} (sc : scO Γ L xs) {h : Mem} (V : LV h) {n : Nat} (hn : n + 6 ≤ L) (hL : L < 2 ^ 31) (k : ∀ h2 : Mem, LV h2 → ca_G Γ 4 h2 1850 (lwL n) []) : ∀ c : Nat, c < 64 → ca_G Γ 4 h 33 (lwL n) [.int (nI c)] := by
  intro c hc
  rcases (by omega : c = 0 ∨ c = 1 ∨ c = 2 ∨ c = 3 ∨ c = 4 ∨ c = 5 ∨ c = 6 ∨ c = 7 ∨ c = 8 ∨ c = 9 ∨ c = 10 ∨ c = 11 ∨ c = 12 ∨ c = 13 ∨ c = 14 ∨ c = 15 ∨ c = 16 ∨ c = 17 ∨ c = 18 ∨ c = 19 ∨ c = 20 ∨ c = 21 ∨ c = 22 ∨ c = 23 ∨ c = 24 ∨ c = 25 ∨ c = 26 ∨ c = 27 ∨ c = 28 ∨ c = 29 ∨ c = 30 ∨ c = 31 ∨ c = 32 ∨ c = 33 ∨ c = 34 ∨ c = 35 ∨ c = 36 ∨ c = 37 ∨ c = 38 ∨ c = 39 ∨ c = 40 ∨ c = 41 ∨ c = 42 ∨ c = 43 ∨ c = 44 ∨ c = 45 ∨ c = 46 ∨ c = 47 ∨ 48 ≤ c) with rfl | rfl | rfl | rfl | rfl | rfl | rfl | rfl | rfl | rfl | rfl | rfl | rfl | rfl | rfl | rfl | rfl | rfl | rfl | rfl | rfl | rfl | rfl | rfl | rfl | rfl | rfl | rfl | rfl | rfl | rfl | rfl | rfl | rfl | rfl | rfl | rfl | rfl | rfl | rfl | rfl | rfl | rfl | rfl | rfl | rfl | rfl | rfl | hc2
  · exact g_tabIn (pc := 33) o 240 dL_law_33 (by decide) (by decide) rfl (by decide) (lc_road o sc V hn hL k)
  · exact g_tabIn (pc := 33) o 299 dL_law_33 (by decide) (by decide) rfl (by decide) (lc_roads o sc V hn hL k)
  · exact g_tabIn (pc := 33) o 322 dL_law_33 (by decide) (by decide) rfl (by decide) (lc_far o sc V hn hL k)
  · exact g_tabIn (pc := 33) o 355 dL_law_33 (by decide) (by decide) rfl (by decide) (lc_seen o sc V hn hL k)
  · exact g_tabIn (pc := 33) o 398 dL_law_33 (by decide) (by decide) rfl (by decide) (lc_seenOf o sc V hn hL k)
  · exact g_tabIn (pc := 33) o 431 dL_law_33 (by decide) (by decide) rfl (by decide) (lc_where o sc V hn hL k)
  · exact g_tabIn (pc := 33) o 464 dL_law_33 (by decide) (by decide) rfl (by decide) (lc_could o sc V hn hL k)
  · exact g_tabIn (pc := 33) o 497 dL_law_33 (by decide) (by decide) rfl (by decide) (lc_drift o sc V hn hL k)
  · exact g_tabIn (pc := 33) o 540 dL_law_33 (by decide) (by decide) rfl (by decide) (lc_term o sc V hn hL k)
  · exact g_tabIn (pc := 33) o 583 dL_law_33 (by decide) (by decide) rfl (by decide) (lc_termOf o sc V hn hL k)
  · exact g_tabIn (pc := 33) o 616 dL_law_33 (by decide) (by decide) rfl (by decide) (lc_span o sc V hn hL k)
  · exact g_tabIn (pc := 33) o 669 dL_law_33 (by decide) (by decide) rfl (by decide) (lc_turn o sc V hn hL k)
  · exact g_tabIn (pc := 33) o 702 dL_law_33 (by decide) (by decide) rfl (by decide) (lc_change o sc V hn hL k)
  · exact g_tabIn (pc := 33) o 745 dL_law_33 (by decide) (by decide) rfl (by decide) (lc_bad o sc V hn hL k)
  · exact g_tabIn (pc := 33) o 768 dL_law_33 (by decide) (by decide) rfl (by decide) (lc_inForce o sc V hn hL k)
  · exact g_tabIn (pc := 33) o 801 dL_law_33 (by decide) (by decide) rfl (by decide) (lc_kept o sc V hn hL k)
  · exact g_tabIn (pc := 33) o 834 dL_law_33 (by decide) (by decide) rfl (by decide) (lc_count o sc V hn hL k)
  · exact g_tabIn (pc := 33) o 887 dL_law_33 (by decide) (by decide) rfl (by decide) (lc_breach o sc V hn hL k)
  · exact g_tabIn (pc := 33) o 920 dL_law_33 (by decide) (by decide) rfl (by decide) (lc_way o sc V hn hL k)
  · exact g_tabIn (pc := 33) o 953 dL_law_33 (by decide) (by decide) rfl (by decide) (lc_at o sc V hn hL k)
  · exact g_tabIn (pc := 33) o 976 dL_law_33 (by decide) (by decide) rfl (by decide) (lc_may o sc V hn hL k)
  · exact g_tabIn (pc := 33) o 1009 dL_law_33 (by decide) (by decide) rfl (by decide) (lc_ways o sc V hn hL k)
  · exact g_tabIn (pc := 33) o 1042 dL_law_33 (by decide) (by decide) rfl (by decide) (lc_bars o sc V hn hL k)
  · exact g_tabIn (pc := 33) o 1075 dL_law_33 (by decide) (by decide) rfl (by decide) (lc_risk o sc V hn hL k)
  · exact g_tabIn (pc := 33) o 1128 dL_law_33 (by decide) (by decide) rfl (by decide) (lc_strict o sc V hn hL k)
  · exact g_tabIn (pc := 33) o 1171 dL_law_33 (by decide) (by decide) rfl (by decide) (lc_surety o sc V hn hL k)
  · exact g_tabIn (pc := 33) o 1214 dL_law_33 (by decide) (by decide) rfl (by decide) (lc_bail o sc V hn hL k)
  · exact g_tabIn (pc := 33) o 1247 dL_law_33 (by decide) (by decide) rfl (by decide) (lc_call o sc V hn hL k)
  · exact g_tabIn (pc := 33) o 1270 dL_law_33 (by decide) (by decide) rfl (by decide) (lc_back o sc V hn hL k)
  · exact g_tabIn (pc := 33) o 1293 dL_law_33 (by decide) (by decide) rfl (by decide) (lc_suretyOf o sc V hn hL k)
  · exact g_tabIn (pc := 33) o 1326 dL_law_33 (by decide) (by decide) rfl (by decide) (lc_hearing o sc V hn hL k)
  · exact g_tabIn (pc := 33) o 1359 dL_law_33 (by decide) (by decide) rfl (by decide) (lc_heard o sc V hn hL k)
  · exact g_tabIn (pc := 33) o 1382 dL_law_33 (by decide) (by decide) rfl (by decide) (lc_seed o sc V hn hL k)
  · exact g_tabIn (pc := 33) o 1405 dL_law_33 (by decide) (by decide) rfl (by decide) (lc_feed o sc V hn hL k)
  · exact g_tabIn (pc := 33) o 1438 dL_law_33 (by decide) (by decide) rfl (by decide) (lc_wipe o sc V hn hL k)
  · exact g_tabIn (pc := 33) o 1451 dL_law_33 (by decide) (by decide) rfl (by decide) (lc_text o sc V hn hL k)
  · exact g_tabIn (pc := 33) o 1464 dL_law_33 (by decide) (by decide) rfl (by decide) (lc_hold o sc V hn hL k)
  · exact g_tabIn (pc := 33) o 1497 dL_law_33 (by decide) (by decide) rfl (by decide) (lc_as o sc V hn hL k)
  · exact g_tabIn (pc := 33) o 1530 dL_law_33 (by decide) (by decide) rfl (by decide) (lc_sheet o sc V hn hL k)
  · exact g_tabIn (pc := 33) o 1573 dL_law_33 (by decide) (by decide) rfl (by decide) (lc_write o sc V hn hL k)
  · exact g_tabIn (pc := 33) o 1616 dL_law_33 (by decide) (by decide) rfl (by decide) (lc_copy o sc V hn hL k)
  · exact g_tabIn (pc := 33) o 1679 dL_law_33 (by decide) (by decide) rfl (by decide) (lc_load o sc V hn hL k)
  · exact g_tabIn (pc := 33) o 1722 dL_law_33 (by decide) (by decide) rfl (by decide) (lc_judge o sc V hn hL k)
  · exact g_tabIn (pc := 33) o 1765 dL_law_33 (by decide) (by decide) rfl (by decide) (lc_image o sc V hn hL k)
  · exact g_tabIn (pc := 33) o 1778 dL_law_33 (by decide) (by decide) rfl (by decide) (lc_undo o sc V hn hL k)
  · exact g_tabIn (pc := 33) o 1791 dL_law_33 (by decide) (by decide) rfl (by decide) (lc_tear o sc V hn hL k)
  · exact g_tabIn (pc := 33) o 1804 dL_law_33 (by decide) (by decide) rfl (by decide) (lc_many o sc V hn hL k)
  · exact g_tabIn (pc := 33) o 1827 dL_law_33 (by decide) (by decide) rfl (by decide) (lc_status o sc V hn hL k)
  · exact g_tabOut (pc := 33) o 1850 dL_law_33 (Or.inr (by rw [nI_toInt (by omega)]; omega)) (by decide) (k h V)
set_option maxRecDepth 100000 in
set_option maxHeartbeats 400000 in
theorem lw_loop {Γ : Fr} (o : ca_O Γ cL_law 4 RL 13 492) {L : Nat} {xs : Nat → Int32} (sc : scO Γ L xs) (hL : L < 2 ^ 31) (fin : ∀ (h : Mem) (n : Nat), ca_G Γ 4 h 1856 (lwL n) []) : ∀ (fuel n : Nat) (h : Mem), n ≤ L → L - n < fuel → LV h → ca_G Γ 4 h 18 (lwL n) [] := by
  intro fuel
  induction fuel with
  | zero => intro n h _ hf _; omega
  | succ fuel ih =>
    intro n h hn hf V
    refine g_iload_n (pc := 18) o dL_law_18 rfl ?_
    refine g_aload_n (pc := 19) o dL_law_19 rfl ?_
    refine n_scl (pc := 20) o sc dL_law_20 ?_
    refine g_bipush (pc := 21) o dL_law_21 6 rfl ?_
    refine g_isub (pc := 23) o dL_law_23 ?_
    refine g_ic_gt (pc := 24) o 1856 dL_law_24 (by decide) (fun _ => fin h n) (fun c => ?_)
    have hn6 := lw_cmp hL hn c
    refine g_aload_n (pc := 27) o dL_law_27 rfl ?_
    refine g_iload_n (pc := 28) o dL_law_28 rfl ?_
    refine n_sld (pc := 29) o sc n rfl (by omega) hL dL_law_29 ?_
    refine g_bipush (pc := 30) o dL_law_30 63 rfl ?_
    refine g_iand (pc := 32) o dL_law_32 ?_
    have e64 : ∃ c, c < 64 ∧ xs n &&& 63 = nI c := pk_andE _ 6 (by decide)
    obtain ⟨c, hc, ec⟩ := e64
    rw [ec]
    refine lw_sw o sc V hn6 hL (fun h2 V2 => ?_) c hc
    refine g_iinc (pc := 1850) o dL_law_1850 rfl 6 rfl (by decide) ?_
    show ca_G Γ 4 _ _ [_, _, _, _] _
    refine g_goto (pc := 1853) o 18 dL_law_1853 (by decide) ?_
    have e6 : nI n + 6 = nI (n + 6) := nI_add n 6
    rw [e6]
    exact ih (n + 6) h2 hn6 (by omega) V2

