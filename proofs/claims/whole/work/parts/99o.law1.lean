/-- the law as a method of the abstract machine; its script is the address 150 -/
def miL : MI := (⟨RL, "law", "([I)Z"⟩, cL_law, 4, ret)
def lwX (b L : Nat) (xs : Nat → Int32) (E : List Frame → State → State → Prop) : CX := fun G p l e R s m args below meth A cells slots Qf => G.2.2 150 = b ∧ va_X b L xs s s.heap ∧ b < s.heap.size ∧ ¬ A b ∧ R = room_1 ∧ args = #[Value.ref b] ∧ A = (fun q => s.heap.size ≤ q) ∧ Qf = E below s ∧ cells ≤ 600000 ∧ slots ≤ 7302250
theorem s_len {b L d pc : Nat} {xs : Nat → Int32} {E : List Frame → State → State → Prop} {Lc : List (Nat × Option Value)} {st : List Value} {M : Mm} (hd : decode miL.2.1 pc = .ok (.arraylength, 1)) (kk : AW miL d (lwX b L xs E) (pc + 1) Lc (.int (nI L) :: st) M) : AW miL d (lwX b L xs E) pc Lc (.ref 150 :: st) M := by
  intro G p l e R s m args below meth c A cells slots Qf B hX H locs ls hP hD hS hl
  have k := kk G p l e R s m args below meth c A cells slots Qf B hX H locs ls hP hD hS hl
  show W p l e R s m args below meth c H locs cells slots Qf (F0 m pc ls (.ref (G.2.2 150) :: st.map (vmA G.2.2)))
  rw [hX.1]
  exact va_slen B.1 B.2.1 hX.2.1 hX.2.2.1 hX.2.2.2.1 hS hd k
theorem s_ld {b L d pc j : Nat} {xs : Nat → Int32} {E : List Frame → State → State → Prop} {Lc : List (Nat × Option Value)} {st : List Value} {M : Mm} (hj : j < L) (hL : L ≤ 3072) (hd : decode miL.2.1 pc = .ok (.iaload, 1)) (kk : AW miL d (lwX b L xs E) (pc + 1) Lc (.int (xs j) :: st) M) : AW miL d (lwX b L xs E) pc Lc (.int (nI j) :: .ref 150 :: st) M := by
  intro G p l e R s m args below meth c A cells slots Qf B hX H locs ls hP hD hS hl
  have k := kk G p l e R s m args below meth c A cells slots Qf B hX H locs ls hP hD hS hl
  show W p l e R s m args below meth c H locs cells slots Qf (F0 m pc ls (.int (nI j) :: .ref (G.2.2 150) :: st.map (vmA G.2.2)))
  rw [hX.1]
  refine va_sld B.1 B.2.1 hX.2.1 hX.2.2.1 hX.2.2.2.1 hS (vp_in_nI hj (by omega)) hd ?_
  rw [show (nI j).toNatClampNeg = j from by unfold Int32.toNatClampNeg; rw [nI_toInt (by omega)]; exact Int.toNat_natCast j]
  exact k
/-- what stands between two calls -/
def LI (M : Mm) (T : TT) : Prop := IX M T ∧ IM M T ∧ TI T
abbrev lwL (i : Nat) : List (Nat × Option Value) := [(0, some (.ref 150)), (1, some (.ref 0)), (2, some (.ref 132)), (3, some (.int (nI i)))]
theorem lgc_0 (v : Int64) : (lg_cmp v v).toInt = 0 := by
  have h : lg_cmp v v = 0 := by unfold lg_cmp; simp
  rw [h]; rfl
theorem LI_1 {M M1 M2 : Mm} {T T' : TT} (h : LI M T) (h1 : IX M1 T') (h2 : IM M2 T') (k2 : keX M1 M2) (ht : TI T') : LI M2 T' := ⟨IX_ke h1 ht.1.2.2.2.2.2.1 k2, h2, ht⟩
theorem LI_0 {M : Mm} {T : TT} (h : LI M T) : LI (siM M 132 1 (nI 0)) T := ⟨IX_ke h.1 h.2.2.1.2.2.2.2.2.1 keX_th, IM_th h.2.1, h.2.2⟩

set_option maxRecDepth 100000 in
set_option maxHeartbeats 800000 in
theorem lw_c0 {b L i : Nat} {xs : Nat → Int32} {E : List Frame → State → State → Prop} {M : Mm} {T : TT} (hL : L ≤ 3072) (hi : i + 6 ≤ L) (hnext : ∀ M T, LI M T → AW miL 300 (lwX b L xs E) 1822 (lwL i) [] M) (h : LI M T) : AW miL 300 (lwX b L xs E) 260 (lwL i) [] M := by
  refine a_aload_n rfl dL_law_260 ?_
  refine n_callV (mi' := miX11_status) dL_law_261 lL_13 mX11_status (by decide) rfl rfl rfl (c_X11_status h.1 h.2.2.1 ?_ 0) rfl rfl (by decide) (by decide) (Nat.le_of_ble_eq_true rfl)
  show AW _ _ _ _ _ _ _
  refine a_aload_n rfl dL_law_264 ?_
  refine n_callV (mi' := miX12_status) dL_law_265 lL_17 mX12_status (by decide) rfl rfl rfl (c_X12_status h.2.1 ?_ 0) rfl rfl (by decide) (by decide) (Nat.le_of_ble_eq_true rfl)
  show AW _ _ _ _ _ _ _
  refine u_icmp_eq 1822 dL_law_268 (by decide) (fun _ => ?_) (fun q => absurd rfl q)
  exact hnext _ _ (LI_0 h)

set_option maxRecDepth 100000 in
set_option maxHeartbeats 800000 in
theorem lw_c1 {b L i : Nat} {xs : Nat → Int32} {E : List Frame → State → State → Prop} {M : Mm} {T : TT} (hL : L ≤ 3072) (hi : i + 6 ≤ L) (hnext : ∀ M T, LI M T → AW miL 300 (lwX b L xs E) 1822 (lwL i) [] M) (h : LI M T) : AW miL 300 (lwX b L xs E) 273 (lwL i) [] M := by
  refine a_aload_n rfl dL_law_273 ?_
  refine n_callV (mi' := miX11_top) dL_law_274 lL_18 mX11_top (by decide) rfl rfl rfl (c_X11_top h.1 h.2.2.1 ?_ 0) rfl rfl (by decide) (by decide) (Nat.le_of_ble_eq_true rfl)
  show AW _ _ _ _ _ _ _
  refine a_aload_n rfl dL_law_277 ?_
  refine n_callV (mi' := miX12_top) dL_law_278 lL_22 mX12_top (by decide) rfl rfl rfl (c_X12_top h.2.1 ?_ 0) rfl rfl (by decide) (by decide) (Nat.le_of_ble_eq_true rfl)
  show AW _ _ _ _ _ _ _
  refine a_lcmp dL_law_281 ?_
  refine r_if_eq 1822 dL_law_282 (by decide) (fun _ => ?_) (fun q => absurd (lgc_0 _) q)
  exact hnext _ _ (LI_0 h)

set_option maxRecDepth 100000 in
set_option maxHeartbeats 800000 in
theorem lw_c2 {b L i : Nat} {xs : Nat → Int32} {E : List Frame → State → State → Prop} {M : Mm} {T : TT} (hL : L ≤ 3072) (hi : i + 6 ≤ L) (hnext : ∀ M T, LI M T → AW miL 300 (lwX b L xs E) 1822 (lwL i) [] M) (h : LI M T) : AW miL 300 (lwX b L xs E) 287 (lwL i) [] M := by
  refine a_aload_n rfl dL_law_287 ?_
  refine n_callV (mi' := miX11_bottom) dL_law_288 lL_23 mX11_bottom (by decide) rfl rfl rfl (c_X11_bottom h.1 h.2.2.1 ?_ 0) rfl rfl (by decide) (by decide) (Nat.le_of_ble_eq_true rfl)
  show AW _ _ _ _ _ _ _
  refine a_aload_n rfl dL_law_291 ?_
  refine n_callV (mi' := miX12_bottom) dL_law_292 lL_26 mX12_bottom (by decide) rfl rfl rfl (c_X12_bottom h.2.1 ?_ 0) rfl rfl (by decide) (by decide) (Nat.le_of_ble_eq_true rfl)
  show AW _ _ _ _ _ _ _
  refine a_lcmp dL_law_295 ?_
  refine r_if_eq 1822 dL_law_296 (by decide) (fun _ => ?_) (fun q => absurd (lgc_0 _) q)
  exact hnext _ _ (LI_0 h)

set_option maxRecDepth 100000 in
set_option maxHeartbeats 800000 in
theorem lw_c3 {b L i : Nat} {xs : Nat → Int32} {E : List Frame → State → State → Prop} {M : Mm} {T : TT} (hL : L ≤ 3072) (hi : i + 6 ≤ L) (hnext : ∀ M T, LI M T → AW miL 300 (lwX b L xs E) 1822 (lwL i) [] M) (h : LI M T) : AW miL 300 (lwX b L xs E) 301 (lwL i) [] M := by
  refine a_aload_n rfl dL_law_301 ?_
  refine a_aload_n rfl dL_law_302 ?_
  refine a_iload_n rfl dL_law_303 ?_
  refine n_iconst 1 rfl dL_law_304 ?_
  refine n_iadd dL_law_305 ?_
  refine s_ld (by omega) hL dL_law_306 ?_
  refine a_aload_n rfl dL_law_307 ?_
  refine a_iload_n rfl dL_law_308 ?_
  refine n_iconst 2 rfl dL_law_309 ?_
  refine n_iadd dL_law_310 ?_
  refine s_ld (by omega) hL dL_law_311 ?_
  refine a_aload_n rfl dL_law_312 ?_
  refine a_iload_n rfl dL_law_313 ?_
  refine n_iconst 3 rfl dL_law_314 ?_
  refine n_iadd dL_law_315 ?_
  refine s_ld (by omega) hL dL_law_316 ?_
  refine n_callV (mi' := miX11_tray) dL_law_317 lL_27 mX11_tray (by decide) rfl rfl rfl (c_X11_tray h.1 h.2.2.1 (fun M1 h1 k1 => ?_) 0) rfl rfl (by decide) (by decide) (Nat.le_of_ble_eq_true rfl)
  show AW _ _ _ _ _ _ _
  refine a_aload_n rfl dL_law_320 ?_
  refine a_aload_n rfl dL_law_321 ?_
  refine a_iload_n rfl dL_law_322 ?_
  refine n_iconst 1 rfl dL_law_323 ?_
  refine n_iadd dL_law_324 ?_
  refine s_ld (by omega) hL dL_law_325 ?_
  refine a_aload_n rfl dL_law_326 ?_
  refine a_iload_n rfl dL_law_327 ?_
  refine n_iconst 2 rfl dL_law_328 ?_
  refine n_iadd dL_law_329 ?_
  refine s_ld (by omega) hL dL_law_330 ?_
  refine a_aload_n rfl dL_law_331 ?_
  refine a_iload_n rfl dL_law_332 ?_
  refine n_iconst 3 rfl dL_law_333 ?_
  refine n_iadd dL_law_334 ?_
  refine s_ld (by omega) hL dL_law_335 ?_
  refine n_callV (mi' := miX12_tray) dL_law_336 lL_31 mX12_tray (by decide) rfl rfl rfl (c_X12_tray (IM_ke h.2.1 k1) h.2.2.1 (fun M2 h2 k2 => ?_) 0) rfl rfl (by decide) (by decide) (Nat.le_of_ble_eq_true rfl)
  show AW _ _ _ _ _ _ _
  refine u_icmp_eq 1822 dL_law_339 (by decide) (fun _ => ?_) (fun q => absurd rfl q)
  exact hnext _ _ (LI_1 h h1 h2 k2 (TI_tray h.2.2))

set_option maxRecDepth 100000 in
set_option maxHeartbeats 800000 in
theorem lw_c4 {b L i : Nat} {xs : Nat → Int32} {E : List Frame → State → State → Prop} {M : Mm} {T : TT} (hL : L ≤ 3072) (hi : i + 6 ≤ L) (hnext : ∀ M T, LI M T → AW miL 300 (lwX b L xs E) 1822 (lwL i) [] M) (h : LI M T) : AW miL 300 (lwX b L xs E) 344 (lwL i) [] M := by
  refine a_aload_n rfl dL_law_344 ?_
  refine a_aload_n rfl dL_law_345 ?_
  refine a_iload_n rfl dL_law_346 ?_
  refine n_iconst 1 rfl dL_law_347 ?_
  refine n_iadd dL_law_348 ?_
  refine s_ld (by omega) hL dL_law_349 ?_
  refine a_aload_n rfl dL_law_350 ?_
  refine a_iload_n rfl dL_law_351 ?_
  refine n_iconst 2 rfl dL_law_352 ?_
  refine n_iadd dL_law_353 ?_
  refine s_ld (by omega) hL dL_law_354 ?_
  refine a_aload_n rfl dL_law_355 ?_
  refine a_iload_n rfl dL_law_356 ?_
  refine n_iconst 3 rfl dL_law_357 ?_
  refine n_iadd dL_law_358 ?_
  refine s_ld (by omega) hL dL_law_359 ?_
  refine a_i2l dL_law_360 ?_
  refine n_bipush 32 rfl dL_law_361 ?_
  refine a_lshl dL_law_363 ?_
  refine a_aload_n rfl dL_law_364 ?_
  refine a_iload_n rfl dL_law_365 ?_
  refine n_iconst 4 rfl dL_law_366 ?_
  refine n_iadd dL_law_367 ?_
  refine s_ld (by omega) hL dL_law_368 ?_
  refine a_i2l dL_law_369 ?_
  refine a_ldc2 kL_32 dL_law_370 ?_
  refine a_land dL_law_373 ?_
  refine a_lor dL_law_374 ?_
  refine n_callV (mi' := miX11_write) dL_law_375 lL_34 mX11_write (by decide) rfl rfl rfl (c_X11_write h.1 h.2.2.1 (fun M1 h1 k1 => ?_) 0) rfl rfl (by decide) (by decide) (Nat.le_of_ble_eq_true rfl)
  show AW _ _ _ _ _ _ _
  refine a_aload_n rfl dL_law_378 ?_
  refine a_aload_n rfl dL_law_379 ?_
  refine a_iload_n rfl dL_law_380 ?_
  refine n_iconst 1 rfl dL_law_381 ?_
  refine n_iadd dL_law_382 ?_
  refine s_ld (by omega) hL dL_law_383 ?_
  refine a_aload_n rfl dL_law_384 ?_
  refine a_iload_n rfl dL_law_385 ?_
  refine n_iconst 2 rfl dL_law_386 ?_
  refine n_iadd dL_law_387 ?_
  refine s_ld (by omega) hL dL_law_388 ?_
  refine a_aload_n rfl dL_law_389 ?_
  refine a_iload_n rfl dL_law_390 ?_
  refine n_iconst 3 rfl dL_law_391 ?_
  refine n_iadd dL_law_392 ?_
  refine s_ld (by omega) hL dL_law_393 ?_
  refine a_i2l dL_law_394 ?_
  refine n_bipush 32 rfl dL_law_395 ?_
  refine a_lshl dL_law_397 ?_
  refine a_aload_n rfl dL_law_398 ?_
  refine a_iload_n rfl dL_law_399 ?_
  refine n_iconst 4 rfl dL_law_400 ?_
  refine n_iadd dL_law_401 ?_
  refine s_ld (by omega) hL dL_law_402 ?_
  refine a_i2l dL_law_403 ?_
  refine a_ldc2 kL_32 dL_law_404 ?_
  refine a_land dL_law_407 ?_
  refine a_lor dL_law_408 ?_
  refine n_callV (mi' := miX12_write) dL_law_409 lL_38 mX12_write (by decide) rfl rfl rfl (c_X12_write (IM_ke h.2.1 k1) h.2.2.1 (fun M2 h2 k2 => ?_) 0) rfl rfl (by decide) (by decide) (Nat.le_of_ble_eq_true rfl)
  show AW _ _ _ _ _ _ _
  refine u_icmp_eq 1822 dL_law_412 (by decide) (fun _ => ?_) (fun q => absurd rfl q)
  exact hnext _ _ (LI_1 h h1 h2 k2 (TI_write h.2.2))

set_option maxRecDepth 100000 in
set_option maxHeartbeats 800000 in
theorem lw_c5 {b L i : Nat} {xs : Nat → Int32} {E : List Frame → State → State → Prop} {M : Mm} {T : TT} (hL : L ≤ 3072) (hi : i + 6 ≤ L) (hnext : ∀ M T, LI M T → AW miL 300 (lwX b L xs E) 1822 (lwL i) [] M) (h : LI M T) : AW miL 300 (lwX b L xs E) 417 (lwL i) [] M := by
  refine a_aload_n rfl dL_law_417 ?_
  refine a_aload_n rfl dL_law_418 ?_
  refine a_iload_n rfl dL_law_419 ?_
  refine n_iconst 1 rfl dL_law_420 ?_
  refine n_iadd dL_law_421 ?_
  refine s_ld (by omega) hL dL_law_422 ?_
  refine a_aload_n rfl dL_law_423 ?_
  refine a_iload_n rfl dL_law_424 ?_
  refine n_iconst 2 rfl dL_law_425 ?_
  refine n_iadd dL_law_426 ?_
  refine s_ld (by omega) hL dL_law_427 ?_
  refine n_callV (mi' := miX11_read) dL_law_428 lL_39 mX11_read (by decide) rfl rfl rfl (c_X11_read h.1 h.2.2.1 (fun M1 h1 k1 => ?_) 0) rfl rfl (by decide) (by decide) (Nat.le_of_ble_eq_true rfl)
  show AW _ _ _ _ _ _ _
  refine a_aload_n rfl dL_law_431 ?_
  refine a_aload_n rfl dL_law_432 ?_
  refine a_iload_n rfl dL_law_433 ?_
  refine n_iconst 1 rfl dL_law_434 ?_
  refine n_iadd dL_law_435 ?_
  refine s_ld (by omega) hL dL_law_436 ?_
  refine a_aload_n rfl dL_law_437 ?_
  refine a_iload_n rfl dL_law_438 ?_
  refine n_iconst 2 rfl dL_law_439 ?_
  refine n_iadd dL_law_440 ?_
  refine s_ld (by omega) hL dL_law_441 ?_
  refine n_callV (mi' := miX12_read) dL_law_442 lL_43 mX12_read (by decide) rfl rfl rfl (c_X12_read (IM_ke h.2.1 k1) h.2.2.1 (fun M2 h2 k2 => ?_) 0) rfl rfl (by decide) (by decide) (Nat.le_of_ble_eq_true rfl)
  show AW _ _ _ _ _ _ _
  refine a_lcmp dL_law_445 ?_
  refine r_if_eq 1822 dL_law_446 (by decide) (fun _ => ?_) (fun q => absurd (lgc_0 _) q)
  exact hnext _ _ (LI_1 h h1 h2 k2 (TI_read h.2.2))

set_option maxRecDepth 100000 in
set_option maxHeartbeats 800000 in
theorem lw_c6 {b L i : Nat} {xs : Nat → Int32} {E : List Frame → State → State → Prop} {M : Mm} {T : TT} (hL : L ≤ 3072) (hi : i + 6 ≤ L) (hnext : ∀ M T, LI M T → AW miL 300 (lwX b L xs E) 1822 (lwL i) [] M) (h : LI M T) : AW miL 300 (lwX b L xs E) 451 (lwL i) [] M := by
  refine a_aload_n rfl dL_law_451 ?_
  refine a_aload_n rfl dL_law_452 ?_
  refine a_iload_n rfl dL_law_453 ?_
  refine n_iconst 1 rfl dL_law_454 ?_
  refine n_iadd dL_law_455 ?_
  refine s_ld (by omega) hL dL_law_456 ?_
  refine a_aload_n rfl dL_law_457 ?_
  refine a_iload_n rfl dL_law_458 ?_
  refine n_iconst 2 rfl dL_law_459 ?_
  refine n_iadd dL_law_460 ?_
  refine s_ld (by omega) hL dL_law_461 ?_
  refine a_aload_n rfl dL_law_462 ?_
  refine a_iload_n rfl dL_law_463 ?_
  refine n_iconst 3 rfl dL_law_464 ?_
  refine n_iadd dL_law_465 ?_
  refine s_ld (by omega) hL dL_law_466 ?_
  refine a_aload_n rfl dL_law_467 ?_
  refine a_iload_n rfl dL_law_468 ?_
  refine n_iconst 4 rfl dL_law_469 ?_
  refine n_iadd dL_law_470 ?_
  refine s_ld (by omega) hL dL_law_471 ?_
  refine a_aload_n rfl dL_law_472 ?_
  refine a_iload_n rfl dL_law_473 ?_
  refine n_iconst 5 rfl dL_law_474 ?_
  refine n_iadd dL_law_475 ?_
  refine s_ld (by omega) hL dL_law_476 ?_
  refine n_callV (mi' := miX11_pour) dL_law_477 lL_44 mX11_pour (by decide) rfl rfl rfl (c_X11_pour h.1 h.2.2.1 (fun M1 h1 k1 => ?_) 0) rfl rfl (by decide) (by decide) (Nat.le_of_ble_eq_true rfl)
  show AW _ _ _ _ _ _ _
  refine a_aload_n rfl dL_law_480 ?_
  refine a_aload_n rfl dL_law_481 ?_
  refine a_iload_n rfl dL_law_482 ?_
  refine n_iconst 1 rfl dL_law_483 ?_
  refine n_iadd dL_law_484 ?_
  refine s_ld (by omega) hL dL_law_485 ?_
  refine a_aload_n rfl dL_law_486 ?_
  refine a_iload_n rfl dL_law_487 ?_
  refine n_iconst 2 rfl dL_law_488 ?_
  refine n_iadd dL_law_489 ?_
  refine s_ld (by omega) hL dL_law_490 ?_
  refine a_aload_n rfl dL_law_491 ?_
  refine a_iload_n rfl dL_law_492 ?_
  refine n_iconst 3 rfl dL_law_493 ?_
  refine n_iadd dL_law_494 ?_
  refine s_ld (by omega) hL dL_law_495 ?_
  refine a_aload_n rfl dL_law_496 ?_
  refine a_iload_n rfl dL_law_497 ?_
  refine n_iconst 4 rfl dL_law_498 ?_
  refine n_iadd dL_law_499 ?_
  refine s_ld (by omega) hL dL_law_500 ?_
  refine a_aload_n rfl dL_law_501 ?_
  refine a_iload_n rfl dL_law_502 ?_
  refine n_iconst 5 rfl dL_law_503 ?_
  refine n_iadd dL_law_504 ?_
  refine s_ld (by omega) hL dL_law_505 ?_
  refine n_callV (mi' := miX12_pour) dL_law_506 lL_48 mX12_pour (by decide) rfl rfl rfl (c_X12_pour (IM_ke h.2.1 k1) h.2.2.1 (fun M2 h2 k2 => ?_) 0) rfl rfl (by decide) (by decide) (Nat.le_of_ble_eq_true rfl)
  show AW _ _ _ _ _ _ _
  refine u_icmp_eq 1822 dL_law_509 (by decide) (fun _ => ?_) (fun q => absurd rfl q)
  exact hnext _ _ (LI_1 h h1 h2 k2 (TI_pour h.2.2))

set_option maxRecDepth 100000 in
set_option maxHeartbeats 800000 in
theorem lw_c7 {b L i : Nat} {xs : Nat → Int32} {E : List Frame → State → State → Prop} {M : Mm} {T : TT} (hL : L ≤ 3072) (hi : i + 6 ≤ L) (hnext : ∀ M T, LI M T → AW miL 300 (lwX b L xs E) 1822 (lwL i) [] M) (h : LI M T) : AW miL 300 (lwX b L xs E) 514 (lwL i) [] M := by
  refine a_aload_n rfl dL_law_514 ?_
  refine a_aload_n rfl dL_law_515 ?_
  refine a_iload_n rfl dL_law_516 ?_
  refine n_iconst 1 rfl dL_law_517 ?_
  refine n_iadd dL_law_518 ?_
  refine s_ld (by omega) hL dL_law_519 ?_
  refine a_aload_n rfl dL_law_520 ?_
  refine a_iload_n rfl dL_law_521 ?_
  refine n_iconst 2 rfl dL_law_522 ?_
  refine n_iadd dL_law_523 ?_
  refine s_ld (by omega) hL dL_law_524 ?_
  refine a_aload_n rfl dL_law_525 ?_
  refine a_iload_n rfl dL_law_526 ?_
  refine n_iconst 3 rfl dL_law_527 ?_
  refine n_iadd dL_law_528 ?_
  refine s_ld (by omega) hL dL_law_529 ?_
  refine a_aload_n rfl dL_law_530 ?_
  refine a_iload_n rfl dL_law_531 ?_
  refine n_iconst 4 rfl dL_law_532 ?_
  refine n_iadd dL_law_533 ?_
  refine s_ld (by omega) hL dL_law_534 ?_
  refine a_aload_n rfl dL_law_535 ?_
  refine a_iload_n rfl dL_law_536 ?_
  refine n_iconst 5 rfl dL_law_537 ?_
  refine n_iadd dL_law_538 ?_
  refine s_ld (by omega) hL dL_law_539 ?_
  refine n_callV (mi' := miX11_feed) dL_law_540 lL_49 mX11_feed (by decide) rfl rfl rfl (c_X11_feed h.1 h.2.2.1 (fun M1 h1 k1 => ?_) 0) rfl rfl (by decide) (by decide) (Nat.le_of_ble_eq_true rfl)
  show AW _ _ _ _ _ _ _
  refine a_aload_n rfl dL_law_543 ?_
  refine a_aload_n rfl dL_law_544 ?_
  refine a_iload_n rfl dL_law_545 ?_
  refine n_iconst 1 rfl dL_law_546 ?_
  refine n_iadd dL_law_547 ?_
  refine s_ld (by omega) hL dL_law_548 ?_
  refine a_aload_n rfl dL_law_549 ?_
  refine a_iload_n rfl dL_law_550 ?_
  refine n_iconst 2 rfl dL_law_551 ?_
  refine n_iadd dL_law_552 ?_
  refine s_ld (by omega) hL dL_law_553 ?_
  refine a_aload_n rfl dL_law_554 ?_
  refine a_iload_n rfl dL_law_555 ?_
  refine n_iconst 3 rfl dL_law_556 ?_
  refine n_iadd dL_law_557 ?_
  refine s_ld (by omega) hL dL_law_558 ?_
  refine a_aload_n rfl dL_law_559 ?_
  refine a_iload_n rfl dL_law_560 ?_
  refine n_iconst 4 rfl dL_law_561 ?_
  refine n_iadd dL_law_562 ?_
  refine s_ld (by omega) hL dL_law_563 ?_
  refine a_aload_n rfl dL_law_564 ?_
  refine a_iload_n rfl dL_law_565 ?_
  refine n_iconst 5 rfl dL_law_566 ?_
  refine n_iadd dL_law_567 ?_
  refine s_ld (by omega) hL dL_law_568 ?_
  refine n_callV (mi' := miX12_feed) dL_law_569 lL_53 mX12_feed (by decide) rfl rfl rfl (c_X12_feed (IM_ke h.2.1 k1) h.2.2.1 (fun M2 h2 k2 => ?_) 0) rfl rfl (by decide) (by decide) (Nat.le_of_ble_eq_true rfl)
  show AW _ _ _ _ _ _ _
  refine u_icmp_eq 1822 dL_law_572 (by decide) (fun _ => ?_) (fun q => absurd rfl q)
  exact hnext _ _ (LI_1 h h1 h2 k2 (TI_feed h.2.2))

set_option maxRecDepth 100000 in
set_option maxHeartbeats 800000 in
theorem lw_c8 {b L i : Nat} {xs : Nat → Int32} {E : List Frame → State → State → Prop} {M : Mm} {T : TT} (hL : L ≤ 3072) (hi : i + 6 ≤ L) (hnext : ∀ M T, LI M T → AW miL 300 (lwX b L xs E) 1822 (lwL i) [] M) (h : LI M T) : AW miL 300 (lwX b L xs E) 577 (lwL i) [] M := by
  refine a_aload_n rfl dL_law_577 ?_
  refine a_aload_n rfl dL_law_578 ?_
  refine a_iload_n rfl dL_law_579 ?_
  refine n_iconst 1 rfl dL_law_580 ?_
  refine n_iadd dL_law_581 ?_
  refine s_ld (by omega) hL dL_law_582 ?_
  refine n_callV (mi' := miX11_wood) dL_law_583 lL_54 mX11_wood (by decide) rfl rfl rfl (c_X11_wood h.1 h.2.2.1 h.2.2.2 (fun M1 h1 k1 => ?_) 0) rfl rfl (by decide) (by decide) (Nat.le_of_ble_eq_true rfl)
  show AW _ _ _ _ _ _ _
  refine a_aload_n rfl dL_law_586 ?_
  refine a_aload_n rfl dL_law_587 ?_
  refine a_iload_n rfl dL_law_588 ?_
  refine n_iconst 1 rfl dL_law_589 ?_
  refine n_iadd dL_law_590 ?_
  refine s_ld (by omega) hL dL_law_591 ?_
  refine n_callV (mi' := miX12_wood) dL_law_592 lL_58 mX12_wood (by decide) rfl rfl rfl (c_X12_wood (IM_ke h.2.1 k1) h.2.2.1 h.2.2.2 (fun M2 h2 k2 => ?_) 0) rfl rfl (by decide) (by decide) (Nat.le_of_ble_eq_true rfl)
  show AW _ _ _ _ _ _ _
  refine u_icmp_eq 1822 dL_law_595 (by decide) (fun _ => ?_) (fun q => absurd rfl q)
  exact hnext _ _ (LI_1 h h1 h2 k2 (TI_wood h.2.2))

set_option maxRecDepth 100000 in
set_option maxHeartbeats 800000 in
theorem lw_c9 {b L i : Nat} {xs : Nat → Int32} {E : List Frame → State → State → Prop} {M : Mm} {T : TT} (hL : L ≤ 3072) (hi : i + 6 ≤ L) (hnext : ∀ M T, LI M T → AW miL 300 (lwX b L xs E) 1822 (lwL i) [] M) (h : LI M T) : AW miL 300 (lwX b L xs E) 600 (lwL i) [] M := by
  refine a_aload_n rfl dL_law_600 ?_
  refine a_aload_n rfl dL_law_601 ?_
  refine a_iload_n rfl dL_law_602 ?_
  refine n_iconst 1 rfl dL_law_603 ?_
  refine n_iadd dL_law_604 ?_
  refine s_ld (by omega) hL dL_law_605 ?_
  refine n_callV (mi' := miX11_years) dL_law_606 lL_59 mX11_years (by decide) rfl rfl rfl (c_X11_years h.1 h.2.2.1 h.2.2.2 (fun M1 h1 k1 => ?_) 0) rfl rfl (by decide) (by decide) (Nat.le_of_ble_eq_true rfl)
  show AW _ _ _ _ _ _ _
  refine a_aload_n rfl dL_law_609 ?_
  refine a_aload_n rfl dL_law_610 ?_
  refine a_iload_n rfl dL_law_611 ?_
  refine n_iconst 1 rfl dL_law_612 ?_
  refine n_iadd dL_law_613 ?_
  refine s_ld (by omega) hL dL_law_614 ?_
  refine n_callV (mi' := miX12_years) dL_law_615 lL_62 mX12_years (by decide) rfl rfl rfl (c_X12_years (IM_ke h.2.1 k1) h.2.2.1 h.2.2.2 (fun M2 h2 k2 => ?_) 0) rfl rfl (by decide) (by decide) (Nat.le_of_ble_eq_true rfl)
  show AW _ _ _ _ _ _ _
  refine u_icmp_eq 1822 dL_law_618 (by decide) (fun _ => ?_) (fun q => absurd rfl q)
  exact hnext _ _ (LI_1 h h1 h2 k2 (TI_years h.2.2))

set_option maxRecDepth 100000 in
set_option maxHeartbeats 800000 in
theorem lw_c10 {b L i : Nat} {xs : Nat → Int32} {E : List Frame → State → State → Prop} {M : Mm} {T : TT} (hL : L ≤ 3072) (hi : i + 6 ≤ L) (hnext : ∀ M T, LI M T → AW miL 300 (lwX b L xs E) 1822 (lwL i) [] M) (h : LI M T) : AW miL 300 (lwX b L xs E) 623 (lwL i) [] M := by
  refine a_aload_n rfl dL_law_623 ?_
  refine a_aload_n rfl dL_law_624 ?_
  refine a_iload_n rfl dL_law_625 ?_
  refine n_iconst 1 rfl dL_law_626 ?_
  refine n_iadd dL_law_627 ?_
  refine s_ld (by omega) hL dL_law_628 ?_
  refine n_callV (mi' := miX11_fault) dL_law_629 lL_63 mX11_fault (by decide) rfl rfl rfl (c_X11_fault h.1 h.2.2.1 ?_ 0) rfl rfl (by decide) (by decide) (Nat.le_of_ble_eq_true rfl)
  show AW _ _ _ _ _ _ _
  refine a_aload_n rfl dL_law_632 ?_
  refine a_aload_n rfl dL_law_633 ?_
  refine a_iload_n rfl dL_law_634 ?_
  refine n_iconst 1 rfl dL_law_635 ?_
  refine n_iadd dL_law_636 ?_
  refine s_ld (by omega) hL dL_law_637 ?_
  refine n_callV (mi' := miX12_fault) dL_law_638 lL_66 mX12_fault (by decide) rfl rfl rfl (c_X12_fault h.2.1 ?_ 0) rfl rfl (by decide) (by decide) (Nat.le_of_ble_eq_true rfl)
  show AW _ _ _ _ _ _ _
  refine u_icmp_eq 1822 dL_law_641 (by decide) (fun _ => ?_) (fun q => absurd rfl q)
  exact hnext _ _ (LI_0 h)

set_option maxRecDepth 100000 in
set_option maxHeartbeats 800000 in
theorem lw_c11 {b L i : Nat} {xs : Nat → Int32} {E : List Frame → State → State → Prop} {M : Mm} {T : TT} (hL : L ≤ 3072) (hi : i + 6 ≤ L) (hnext : ∀ M T, LI M T → AW miL 300 (lwX b L xs E) 1822 (lwL i) [] M) (h : LI M T) : AW miL 300 (lwX b L xs E) 646 (lwL i) [] M := by
  refine a_aload_n rfl dL_law_646 ?_
  refine a_aload_n rfl dL_law_647 ?_
  refine a_iload_n rfl dL_law_648 ?_
  refine n_iconst 1 rfl dL_law_649 ?_
  refine n_iadd dL_law_650 ?_
  refine s_ld (by omega) hL dL_law_651 ?_
  refine n_callV (mi' := miX11_many) dL_law_652 lL_67 mX11_many (by decide) rfl rfl rfl (c_X11_many h.1 h.2.2.1 (fun M1 h1 k1 => ?_) 0) rfl rfl (by decide) (by decide) (Nat.le_of_ble_eq_true rfl)
  show AW _ _ _ _ _ _ _
  refine a_aload_n rfl dL_law_655 ?_
  refine a_aload_n rfl dL_law_656 ?_
  refine a_iload_n rfl dL_law_657 ?_
  refine n_iconst 1 rfl dL_law_658 ?_
  refine n_iadd dL_law_659 ?_
  refine s_ld (by omega) hL dL_law_660 ?_
  refine n_callV (mi' := miX12_many) dL_law_661 lL_70 mX12_many (by decide) rfl rfl rfl (c_X12_many (IM_ke h.2.1 k1) h.2.2.1 (fun M2 h2 k2 => ?_) 0) rfl rfl (by decide) (by decide) (Nat.le_of_ble_eq_true rfl)
  show AW _ _ _ _ _ _ _
  refine u_icmp_eq 1822 dL_law_664 (by decide) (fun _ => ?_) (fun q => absurd rfl q)
  exact hnext _ _ (LI_1 h h1 h2 k2 (TI_many h.2.2))

set_option maxRecDepth 100000 in
set_option maxHeartbeats 800000 in
theorem lw_c12 {b L i : Nat} {xs : Nat → Int32} {E : List Frame → State → State → Prop} {M : Mm} {T : TT} (hL : L ≤ 3072) (hi : i + 6 ≤ L) (hnext : ∀ M T, LI M T → AW miL 300 (lwX b L xs E) 1822 (lwL i) [] M) (h : LI M T) : AW miL 300 (lwX b L xs E) 669 (lwL i) [] M := by
  refine a_aload_n rfl dL_law_669 ?_
  refine a_aload_n rfl dL_law_670 ?_
  refine a_iload_n rfl dL_law_671 ?_
  refine n_iconst 1 rfl dL_law_672 ?_
  refine n_iadd dL_law_673 ?_
  refine s_ld (by omega) hL dL_law_674 ?_
  refine a_aload_n rfl dL_law_675 ?_
  refine a_iload_n rfl dL_law_676 ?_
  refine n_iconst 2 rfl dL_law_677 ?_
  refine n_iadd dL_law_678 ?_
  refine s_ld (by omega) hL dL_law_679 ?_
  refine n_callV (mi' := miX11_matter) dL_law_680 lL_71 mX11_matter (by decide) rfl rfl rfl (c_X11_matter h.1 h.2.2.1 (fun M1 h1 k1 => ?_) 0) rfl rfl (by decide) (by decide) (Nat.le_of_ble_eq_true rfl)
  show AW _ _ _ _ _ _ _
  refine a_aload_n rfl dL_law_683 ?_
  refine a_aload_n rfl dL_law_684 ?_
  refine a_iload_n rfl dL_law_685 ?_
  refine n_iconst 1 rfl dL_law_686 ?_
  refine n_iadd dL_law_687 ?_
  refine s_ld (by omega) hL dL_law_688 ?_
  refine a_aload_n rfl dL_law_689 ?_
  refine a_iload_n rfl dL_law_690 ?_
  refine n_iconst 2 rfl dL_law_691 ?_
  refine n_iadd dL_law_692 ?_
  refine s_ld (by omega) hL dL_law_693 ?_
  refine n_callV (mi' := miX12_matter) dL_law_694 lL_75 mX12_matter (by decide) rfl rfl rfl (c_X12_matter (IM_ke h.2.1 k1) h.2.2.1 (fun M2 h2 k2 => ?_) 0) rfl rfl (by decide) (by decide) (Nat.le_of_ble_eq_true rfl)
  show AW _ _ _ _ _ _ _
  refine u_icmp_eq 1822 dL_law_697 (by decide) (fun _ => ?_) (fun q => absurd rfl q)
  exact hnext _ _ (LI_1 h h1 h2 k2 (TI_matter h.2.2))

set_option maxRecDepth 100000 in
set_option maxHeartbeats 800000 in
theorem lw_c13 {b L i : Nat} {xs : Nat → Int32} {E : List Frame → State → State → Prop} {M : Mm} {T : TT} (hL : L ≤ 3072) (hi : i + 6 ≤ L) (hnext : ∀ M T, LI M T → AW miL 300 (lwX b L xs E) 1822 (lwL i) [] M) (h : LI M T) : AW miL 300 (lwX b L xs E) 702 (lwL i) [] M := by
  refine a_aload_n rfl dL_law_702 ?_
  refine a_aload_n rfl dL_law_703 ?_
  refine a_iload_n rfl dL_law_704 ?_
  refine n_iconst 1 rfl dL_law_705 ?_
  refine n_iadd dL_law_706 ?_
  refine s_ld (by omega) hL dL_law_707 ?_
  refine a_aload_n rfl dL_law_708 ?_
  refine a_iload_n rfl dL_law_709 ?_
  refine n_iconst 2 rfl dL_law_710 ?_
  refine n_iadd dL_law_711 ?_
  refine s_ld (by omega) hL dL_law_712 ?_
  refine n_callV (mi' := miX11_hold) dL_law_713 lL_76 mX11_hold (by decide) rfl rfl rfl (c_X11_hold h.1 h.2.2.1 (fun M1 h1 k1 => ?_) 0) rfl rfl (by decide) (by decide) (Nat.le_of_ble_eq_true rfl)
  show AW _ _ _ _ _ _ _
  refine a_aload_n rfl dL_law_716 ?_
  refine a_aload_n rfl dL_law_717 ?_
  refine a_iload_n rfl dL_law_718 ?_
  refine n_iconst 1 rfl dL_law_719 ?_
  refine n_iadd dL_law_720 ?_
  refine s_ld (by omega) hL dL_law_721 ?_
  refine a_aload_n rfl dL_law_722 ?_
  refine a_iload_n rfl dL_law_723 ?_
  refine n_iconst 2 rfl dL_law_724 ?_
  refine n_iadd dL_law_725 ?_
  refine s_ld (by omega) hL dL_law_726 ?_
  refine n_callV (mi' := miX12_hold) dL_law_727 lL_79 mX12_hold (by decide) rfl rfl rfl (c_X12_hold (IM_ke h.2.1 k1) h.2.2.1 (fun M2 h2 k2 => ?_) 0) rfl rfl (by decide) (by decide) (Nat.le_of_ble_eq_true rfl)
  show AW _ _ _ _ _ _ _
  refine u_icmp_eq 1822 dL_law_730 (by decide) (fun _ => ?_) (fun q => absurd rfl q)
  exact hnext _ _ (LI_1 h h1 h2 k2 (TI_hold h.2.2))

set_option maxRecDepth 100000 in
set_option maxHeartbeats 800000 in
theorem lw_c14 {b L i : Nat} {xs : Nat → Int32} {E : List Frame → State → State → Prop} {M : Mm} {T : TT} (hL : L ≤ 3072) (hi : i + 6 ≤ L) (hnext : ∀ M T, LI M T → AW miL 300 (lwX b L xs E) 1822 (lwL i) [] M) (h : LI M T) : AW miL 300 (lwX b L xs E) 735 (lwL i) [] M := by
  refine a_aload_n rfl dL_law_735 ?_
  refine a_aload_n rfl dL_law_736 ?_
  refine a_iload_n rfl dL_law_737 ?_
  refine n_iconst 1 rfl dL_law_738 ?_
  refine n_iadd dL_law_739 ?_
  refine s_ld (by omega) hL dL_law_740 ?_
  refine a_aload_n rfl dL_law_741 ?_
  refine a_iload_n rfl dL_law_742 ?_
  refine n_iconst 2 rfl dL_law_743 ?_
  refine n_iadd dL_law_744 ?_
  refine s_ld (by omega) hL dL_law_745 ?_
  refine n_callV (mi' := miX11_sitter) dL_law_746 lL_80 mX11_sitter (by decide) rfl rfl rfl (c_X11_sitter h.1 h.2.2.1 (fun M1 h1 k1 => ?_) 0) rfl rfl (by decide) (by decide) (Nat.le_of_ble_eq_true rfl)
  show AW _ _ _ _ _ _ _
  refine a_aload_n rfl dL_law_749 ?_
  refine a_aload_n rfl dL_law_750 ?_
  refine a_iload_n rfl dL_law_751 ?_
  refine n_iconst 1 rfl dL_law_752 ?_
  refine n_iadd dL_law_753 ?_
  refine s_ld (by omega) hL dL_law_754 ?_
  refine a_aload_n rfl dL_law_755 ?_
  refine a_iload_n rfl dL_law_756 ?_
  refine n_iconst 2 rfl dL_law_757 ?_
  refine n_iadd dL_law_758 ?_
  refine s_ld (by omega) hL dL_law_759 ?_
  refine n_callV (mi' := miX12_sitter) dL_law_760 lL_83 mX12_sitter (by decide) rfl rfl rfl (c_X12_sitter (IM_ke h.2.1 k1) h.2.2.1 (fun M2 h2 k2 => ?_) 0) rfl rfl (by decide) (by decide) (Nat.le_of_ble_eq_true rfl)
  show AW _ _ _ _ _ _ _
  refine u_icmp_eq 1822 dL_law_763 (by decide) (fun _ => ?_) (fun q => absurd rfl q)
  exact hnext _ _ (LI_1 h h1 h2 k2 (TI_sitter h.2.2))

set_option maxRecDepth 100000 in
set_option maxHeartbeats 800000 in
theorem lw_c15 {b L i : Nat} {xs : Nat → Int32} {E : List Frame → State → State → Prop} {M : Mm} {T : TT} (hL : L ≤ 3072) (hi : i + 6 ≤ L) (hnext : ∀ M T, LI M T → AW miL 300 (lwX b L xs E) 1822 (lwL i) [] M) (h : LI M T) : AW miL 300 (lwX b L xs E) 768 (lwL i) [] M := by
  refine a_aload_n rfl dL_law_768 ?_
  refine a_aload_n rfl dL_law_769 ?_
  refine a_iload_n rfl dL_law_770 ?_
  refine n_iconst 1 rfl dL_law_771 ?_
  refine n_iadd dL_law_772 ?_
  refine s_ld (by omega) hL dL_law_773 ?_
  refine a_aload_n rfl dL_law_774 ?_
  refine a_iload_n rfl dL_law_775 ?_
  refine n_iconst 2 rfl dL_law_776 ?_
  refine n_iadd dL_law_777 ?_
  refine s_ld (by omega) hL dL_law_778 ?_
  refine n_callV (mi' := miX11_news) dL_law_779 lL_84 mX11_news (by decide) rfl rfl rfl (c_X11_news h.1 h.2.2.1 (fun M1 h1 k1 => ?_) 0) rfl rfl (by decide) (by decide) (Nat.le_of_ble_eq_true rfl)
  show AW _ _ _ _ _ _ _
  refine a_aload_n rfl dL_law_782 ?_
  refine a_aload_n rfl dL_law_783 ?_
  refine a_iload_n rfl dL_law_784 ?_
  refine n_iconst 1 rfl dL_law_785 ?_
  refine n_iadd dL_law_786 ?_
  refine s_ld (by omega) hL dL_law_787 ?_
  refine a_aload_n rfl dL_law_788 ?_
  refine a_iload_n rfl dL_law_789 ?_
  refine n_iconst 2 rfl dL_law_790 ?_
  refine n_iadd dL_law_791 ?_
  refine s_ld (by omega) hL dL_law_792 ?_
  refine n_callV (mi' := miX12_news) dL_law_793 lL_87 mX12_news (by decide) rfl rfl rfl (c_X12_news (IM_ke h.2.1 k1) h.2.2.1 (fun M2 h2 k2 => ?_) 0) rfl rfl (by decide) (by decide) (Nat.le_of_ble_eq_true rfl)
  show AW _ _ _ _ _ _ _
  refine u_icmp_eq 1822 dL_law_796 (by decide) (fun _ => ?_) (fun q => absurd rfl q)
  exact hnext _ _ (LI_1 h h1 h2 k2 (TI_news h.2.2))

set_option maxRecDepth 100000 in
set_option maxHeartbeats 800000 in
theorem lw_c16 {b L i : Nat} {xs : Nat → Int32} {E : List Frame → State → State → Prop} {M : Mm} {T : TT} (hL : L ≤ 3072) (hi : i + 6 ≤ L) (hnext : ∀ M T, LI M T → AW miL 300 (lwX b L xs E) 1822 (lwL i) [] M) (h : LI M T) : AW miL 300 (lwX b L xs E) 801 (lwL i) [] M := by
  refine a_aload_n rfl dL_law_801 ?_
  refine a_aload_n rfl dL_law_802 ?_
  refine a_iload_n rfl dL_law_803 ?_
  refine n_iconst 1 rfl dL_law_804 ?_
  refine n_iadd dL_law_805 ?_
  refine s_ld (by omega) hL dL_law_806 ?_
  refine n_callV (mi' := miX11_copyHeights) dL_law_807 lL_88 mX11_copyHeights (by decide) rfl rfl rfl (c_X11_copyHeights h.1 h.2.2.1 (fun M1 h1 k1 => ?_) 0) rfl rfl (by decide) (by decide) (Nat.le_of_ble_eq_true rfl)
  show AW _ _ _ _ _ _ _
  refine a_aload_n rfl dL_law_810 ?_
  refine a_aload_n rfl dL_law_811 ?_
  refine a_iload_n rfl dL_law_812 ?_
  refine n_iconst 1 rfl dL_law_813 ?_
  refine n_iadd dL_law_814 ?_
  refine s_ld (by omega) hL dL_law_815 ?_
  refine n_callV (mi' := miX12_copyHeights) dL_law_816 lL_91 mX12_copyHeights (by decide) rfl rfl rfl (c_X12_copyHeights (IM_ke h.2.1 k1) h.2.2.1 (fun M2 h2 k2 => ?_) 0) rfl rfl (by decide) (by decide) (Nat.le_of_ble_eq_true rfl)
  show AW _ _ _ _ _ _ _
  refine u_icmp_eq 1822 dL_law_819 (by decide) (fun _ => ?_) (fun q => absurd rfl q)
  exact hnext _ _ (LI_1 h h1 h2 k2 (TI_copyHeights h.2.2))

set_option maxRecDepth 100000 in
set_option maxHeartbeats 800000 in
theorem lw_c17 {b L i : Nat} {xs : Nat → Int32} {E : List Frame → State → State → Prop} {M : Mm} {T : TT} (hL : L ≤ 3072) (hi : i + 6 ≤ L) (hnext : ∀ M T, LI M T → AW miL 300 (lwX b L xs E) 1822 (lwL i) [] M) (h : LI M T) : AW miL 300 (lwX b L xs E) 824 (lwL i) [] M := by
  refine a_aload_n rfl dL_law_824 ?_
  refine a_aload_n rfl dL_law_825 ?_
  refine a_iload_n rfl dL_law_826 ?_
  refine n_iconst 1 rfl dL_law_827 ?_
  refine n_iadd dL_law_828 ?_
  refine s_ld (by omega) hL dL_law_829 ?_
  refine n_callV (mi' := miX11_day) dL_law_830 lL_92 mX11_day (by decide) rfl rfl rfl (c_X11_day h.1 h.2.2.1 (fun M1 h1 k1 => ?_) 0) rfl rfl (by decide) (by decide) (Nat.le_of_ble_eq_true rfl)
  show AW _ _ _ _ _ _ _
  refine a_aload_n rfl dL_law_833 ?_
  refine a_aload_n rfl dL_law_834 ?_
  refine a_iload_n rfl dL_law_835 ?_
  refine n_iconst 1 rfl dL_law_836 ?_
  refine n_iadd dL_law_837 ?_
  refine s_ld (by omega) hL dL_law_838 ?_
  refine n_callV (mi' := miX12_day) dL_law_839 lL_95 mX12_day (by decide) rfl rfl rfl (c_X12_day (IM_ke h.2.1 k1) h.2.2.1 (fun M2 h2 k2 => ?_) 0) rfl rfl (by decide) (by decide) (Nat.le_of_ble_eq_true rfl)
  show AW _ _ _ _ _ _ _
  refine u_icmp_eq 1822 dL_law_842 (by decide) (fun _ => ?_) (fun q => absurd rfl q)
  exact hnext _ _ (LI_1 h h1 h2 k2 (TI_day h.2.2))

set_option maxRecDepth 100000 in
set_option maxHeartbeats 800000 in
theorem lw_c18 {b L i : Nat} {xs : Nat → Int32} {E : List Frame → State → State → Prop} {M : Mm} {T : TT} (hL : L ≤ 3072) (hi : i + 6 ≤ L) (hnext : ∀ M T, LI M T → AW miL 300 (lwX b L xs E) 1822 (lwL i) [] M) (h : LI M T) : AW miL 300 (lwX b L xs E) 847 (lwL i) [] M := by
  refine a_aload_n rfl dL_law_847 ?_
  refine a_aload_n rfl dL_law_848 ?_
  refine a_iload_n rfl dL_law_849 ?_
  refine n_iconst 1 rfl dL_law_850 ?_
  refine n_iadd dL_law_851 ?_
  refine s_ld (by omega) hL dL_law_852 ?_
  refine n_callV (mi' := miX11_bring) dL_law_853 lL_96 mX11_bring (by decide) rfl rfl rfl (c_X11_bring h.1 h.2.2.1 (fun M1 h1 k1 => ?_) 0) rfl rfl (by decide) (by decide) (Nat.le_of_ble_eq_true rfl)
  show AW _ _ _ _ _ _ _
  refine a_aload_n rfl dL_law_856 ?_
  refine a_aload_n rfl dL_law_857 ?_
  refine a_iload_n rfl dL_law_858 ?_
  refine n_iconst 1 rfl dL_law_859 ?_
  refine n_iadd dL_law_860 ?_
  refine s_ld (by omega) hL dL_law_861 ?_
  refine n_callV (mi' := miX12_bring) dL_law_862 lL_99 mX12_bring (by decide) rfl rfl rfl (c_X12_bring (IM_ke h.2.1 k1) h.2.2.1 (fun M2 h2 k2 => ?_) 0) rfl rfl (by decide) (by decide) (Nat.le_of_ble_eq_true rfl)
  show AW _ _ _ _ _ _ _
  refine u_icmp_eq 1822 dL_law_865 (by decide) (fun _ => ?_) (fun q => absurd rfl q)
  exact hnext _ _ (LI_1 h h1 h2 k2 (TI_bring h.2.2))

set_option maxRecDepth 100000 in
set_option maxHeartbeats 800000 in
theorem lw_c19 {b L i : Nat} {xs : Nat → Int32} {E : List Frame → State → State → Prop} {M : Mm} {T : TT} (hL : L ≤ 3072) (hi : i + 6 ≤ L) (hnext : ∀ M T, LI M T → AW miL 300 (lwX b L xs E) 1822 (lwL i) [] M) (h : LI M T) : AW miL 300 (lwX b L xs E) 870 (lwL i) [] M := by
  refine a_aload_n rfl dL_law_870 ?_
  refine a_aload_n rfl dL_law_871 ?_
  refine a_iload_n rfl dL_law_872 ?_
  refine n_iconst 1 rfl dL_law_873 ?_
  refine n_iadd dL_law_874 ?_
  refine s_ld (by omega) hL dL_law_875 ?_
  refine a_aload_n rfl dL_law_876 ?_
  refine a_iload_n rfl dL_law_877 ?_
  refine n_iconst 2 rfl dL_law_878 ?_
  refine n_iadd dL_law_879 ?_
  refine s_ld (by omega) hL dL_law_880 ?_
  refine n_callV (mi' := miX11_crisis) dL_law_881 lL_100 mX11_crisis (by decide) rfl rfl rfl (c_X11_crisis h.1 h.2.2.1 (fun M1 h1 k1 => ?_) 0) rfl rfl (by decide) (by decide) (Nat.le_of_ble_eq_true rfl)
  show AW _ _ _ _ _ _ _
  refine a_aload_n rfl dL_law_884 ?_
  refine a_aload_n rfl dL_law_885 ?_
  refine a_iload_n rfl dL_law_886 ?_
  refine n_iconst 1 rfl dL_law_887 ?_
  refine n_iadd dL_law_888 ?_
  refine s_ld (by omega) hL dL_law_889 ?_
  refine a_aload_n rfl dL_law_890 ?_
  refine a_iload_n rfl dL_law_891 ?_
  refine n_iconst 2 rfl dL_law_892 ?_
  refine n_iadd dL_law_893 ?_
  refine s_ld (by omega) hL dL_law_894 ?_
  refine n_callV (mi' := miX12_crisis) dL_law_895 lL_103 mX12_crisis (by decide) rfl rfl rfl (c_X12_crisis (IM_ke h.2.1 k1) h.2.2.1 (fun M2 h2 k2 => ?_) 0) rfl rfl (by decide) (by decide) (Nat.le_of_ble_eq_true rfl)
  show AW _ _ _ _ _ _ _
  refine u_icmp_eq 1822 dL_law_898 (by decide) (fun _ => ?_) (fun q => absurd rfl q)
  exact hnext _ _ (LI_1 h h1 h2 k2 (TI_crisis h.2.2))

set_option maxRecDepth 100000 in
set_option maxHeartbeats 800000 in
theorem lw_c20 {b L i : Nat} {xs : Nat → Int32} {E : List Frame → State → State → Prop} {M : Mm} {T : TT} (hL : L ≤ 3072) (hi : i + 6 ≤ L) (hnext : ∀ M T, LI M T → AW miL 300 (lwX b L xs E) 1822 (lwL i) [] M) (h : LI M T) : AW miL 300 (lwX b L xs E) 903 (lwL i) [] M := by
  refine a_aload_n rfl dL_law_903 ?_
  refine a_aload_n rfl dL_law_904 ?_
  refine a_iload_n rfl dL_law_905 ?_
  refine n_iconst 1 rfl dL_law_906 ?_
  refine n_iadd dL_law_907 ?_
  refine s_ld (by omega) hL dL_law_908 ?_
  refine a_aload_n rfl dL_law_909 ?_
  refine a_iload_n rfl dL_law_910 ?_
  refine n_iconst 2 rfl dL_law_911 ?_
  refine n_iadd dL_law_912 ?_
  refine s_ld (by omega) hL dL_law_913 ?_
  refine n_callV (mi' := miX11_turn) dL_law_914 lL_104 mX11_turn (by decide) rfl rfl rfl (c_X11_turn h.1 h.2.2.1 (fun M1 h1 k1 => ?_) 0) rfl rfl (by decide) (by decide) (Nat.le_of_ble_eq_true rfl)
  show AW _ _ _ _ _ _ _
  refine a_aload_n rfl dL_law_917 ?_
  refine a_aload_n rfl dL_law_918 ?_
  refine a_iload_n rfl dL_law_919 ?_
  refine n_iconst 1 rfl dL_law_920 ?_
  refine n_iadd dL_law_921 ?_
  refine s_ld (by omega) hL dL_law_922 ?_
  refine a_aload_n rfl dL_law_923 ?_
  refine a_iload_n rfl dL_law_924 ?_
  refine n_iconst 2 rfl dL_law_925 ?_
  refine n_iadd dL_law_926 ?_
  refine s_ld (by omega) hL dL_law_927 ?_
  refine n_callV (mi' := miX12_turn) dL_law_928 lL_107 mX12_turn (by decide) rfl rfl rfl (c_X12_turn (IM_ke h.2.1 k1) h.2.2.1 (fun M2 h2 k2 => ?_) 0) rfl rfl (by decide) (by decide) (Nat.le_of_ble_eq_true rfl)
  show AW _ _ _ _ _ _ _
  refine u_icmp_eq 1822 dL_law_931 (by decide) (fun _ => ?_) (fun q => absurd rfl q)
  exact hnext _ _ (LI_1 h h1 h2 k2 (TI_turn h.2.2))

set_option maxRecDepth 100000 in
set_option maxHeartbeats 800000 in
theorem lw_c21 {b L i : Nat} {xs : Nat → Int32} {E : List Frame → State → State → Prop} {M : Mm} {T : TT} (hL : L ≤ 3072) (hi : i + 6 ≤ L) (hnext : ∀ M T, LI M T → AW miL 300 (lwX b L xs E) 1822 (lwL i) [] M) (h : LI M T) : AW miL 300 (lwX b L xs E) 936 (lwL i) [] M := by
  refine a_aload_n rfl dL_law_936 ?_
  refine a_aload_n rfl dL_law_937 ?_
  refine a_iload_n rfl dL_law_938 ?_
  refine n_iconst 1 rfl dL_law_939 ?_
  refine n_iadd dL_law_940 ?_
  refine s_ld (by omega) hL dL_law_941 ?_
  refine a_aload_n rfl dL_law_942 ?_
  refine a_iload_n rfl dL_law_943 ?_
  refine n_iconst 2 rfl dL_law_944 ?_
  refine n_iadd dL_law_945 ?_
  refine s_ld (by omega) hL dL_law_946 ?_
  refine a_aload_n rfl dL_law_947 ?_
  refine a_iload_n rfl dL_law_948 ?_
  refine n_iconst 3 rfl dL_law_949 ?_
  refine n_iadd dL_law_950 ?_
  refine s_ld (by omega) hL dL_law_951 ?_
  refine n_callV (mi' := miX11_sit) dL_law_952 lL_108 mX11_sit (by decide) rfl rfl rfl (c_X11_sit h.1 h.2.2.1 (fun M1 h1 k1 => ?_) 0) rfl rfl (by decide) (by decide) (Nat.le_of_ble_eq_true rfl)
  show AW _ _ _ _ _ _ _
  refine a_aload_n rfl dL_law_955 ?_
  refine a_aload_n rfl dL_law_956 ?_
  refine a_iload_n rfl dL_law_957 ?_
  refine n_iconst 1 rfl dL_law_958 ?_
  refine n_iadd dL_law_959 ?_
  refine s_ld (by omega) hL dL_law_960 ?_
  refine a_aload_n rfl dL_law_961 ?_
  refine a_iload_n rfl dL_law_962 ?_
  refine n_iconst 2 rfl dL_law_963 ?_
  refine n_iadd dL_law_964 ?_
  refine s_ld (by omega) hL dL_law_965 ?_
  refine a_aload_n rfl dL_law_966 ?_
  refine a_iload_n rfl dL_law_967 ?_
  refine n_iconst 3 rfl dL_law_968 ?_
  refine n_iadd dL_law_969 ?_
  refine s_ld (by omega) hL dL_law_970 ?_
  refine n_callV (mi' := miX12_sit) dL_law_971 lL_112 mX12_sit (by decide) rfl rfl rfl (c_X12_sit (IM_ke h.2.1 k1) h.2.2.1 (fun M2 h2 k2 => ?_) 0) rfl rfl (by decide) (by decide) (Nat.le_of_ble_eq_true rfl)
  show AW _ _ _ _ _ _ _
  refine u_icmp_eq 1822 dL_law_974 (by decide) (fun _ => ?_) (fun q => absurd rfl q)
  exact hnext _ _ (LI_1 h h1 h2 k2 (TI_sit h.2.2))

set_option maxRecDepth 100000 in
set_option maxHeartbeats 800000 in
theorem lw_c22 {b L i : Nat} {xs : Nat → Int32} {E : List Frame → State → State → Prop} {M : Mm} {T : TT} (hL : L ≤ 3072) (hi : i + 6 ≤ L) (hnext : ∀ M T, LI M T → AW miL 300 (lwX b L xs E) 1822 (lwL i) [] M) (h : LI M T) : AW miL 300 (lwX b L xs E) 979 (lwL i) [] M := by
  refine a_aload_n rfl dL_law_979 ?_
  refine a_aload_n rfl dL_law_980 ?_
  refine a_iload_n rfl dL_law_981 ?_
  refine n_iconst 1 rfl dL_law_982 ?_
  refine n_iadd dL_law_983 ?_
  refine s_ld (by omega) hL dL_law_984 ?_
  refine a_aload_n rfl dL_law_985 ?_
  refine a_iload_n rfl dL_law_986 ?_
  refine n_iconst 2 rfl dL_law_987 ?_
  refine n_iadd dL_law_988 ?_
  refine s_ld (by omega) hL dL_law_989 ?_
  refine n_callV (mi' := miX11_hear) dL_law_990 lL_113 mX11_hear (by decide) rfl rfl rfl (c_X11_hear h.1 h.2.2.1 (fun M1 h1 k1 => ?_) 0) rfl rfl (by decide) (by decide) (Nat.le_of_ble_eq_true rfl)
  show AW _ _ _ _ _ _ _
  refine a_aload_n rfl dL_law_993 ?_
  refine a_aload_n rfl dL_law_994 ?_
  refine a_iload_n rfl dL_law_995 ?_
  refine n_iconst 1 rfl dL_law_996 ?_
  refine n_iadd dL_law_997 ?_
  refine s_ld (by omega) hL dL_law_998 ?_
  refine a_aload_n rfl dL_law_999 ?_
  refine a_iload_n rfl dL_law_1000 ?_
  refine n_iconst 2 rfl dL_law_1001 ?_
  refine n_iadd dL_law_1002 ?_
  refine s_ld (by omega) hL dL_law_1003 ?_
  refine n_callV (mi' := miX12_hear) dL_law_1004 lL_116 mX12_hear (by decide) rfl rfl rfl (c_X12_hear (IM_ke h.2.1 k1) h.2.2.1 (fun M2 h2 k2 => ?_) 0) rfl rfl (by decide) (by decide) (Nat.le_of_ble_eq_true rfl)
  show AW _ _ _ _ _ _ _
  refine u_icmp_eq 1822 dL_law_1007 (by decide) (fun _ => ?_) (fun q => absurd rfl q)
  exact hnext _ _ (LI_1 h h1 h2 k2 (TI_hear h.2.2))

set_option maxRecDepth 100000 in
set_option maxHeartbeats 800000 in
theorem lw_c23 {b L i : Nat} {xs : Nat → Int32} {E : List Frame → State → State → Prop} {M : Mm} {T : TT} (hL : L ≤ 3072) (hi : i + 6 ≤ L) (hnext : ∀ M T, LI M T → AW miL 300 (lwX b L xs E) 1822 (lwL i) [] M) (h : LI M T) : AW miL 300 (lwX b L xs E) 1012 (lwL i) [] M := by
  refine a_aload_n rfl dL_law_1012 ?_
  refine a_aload_n rfl dL_law_1013 ?_
  refine a_iload_n rfl dL_law_1014 ?_
  refine n_iconst 1 rfl dL_law_1015 ?_
  refine n_iadd dL_law_1016 ?_
  refine s_ld (by omega) hL dL_law_1017 ?_
  refine a_aload_n rfl dL_law_1018 ?_
  refine a_iload_n rfl dL_law_1019 ?_
  refine n_iconst 2 rfl dL_law_1020 ?_
  refine n_iadd dL_law_1021 ?_
  refine s_ld (by omega) hL dL_law_1022 ?_
  refine n_callV (mi' := miX11_bind) dL_law_1023 lL_117 mX11_bind (by decide) rfl rfl rfl (c_X11_bind h.1 h.2.2.1 (fun M1 h1 k1 => ?_) 0) rfl rfl (by decide) (by decide) (Nat.le_of_ble_eq_true rfl)
  show AW _ _ _ _ _ _ _
  refine a_aload_n rfl dL_law_1026 ?_
  refine a_aload_n rfl dL_law_1027 ?_
  refine a_iload_n rfl dL_law_1028 ?_
  refine n_iconst 1 rfl dL_law_1029 ?_
  refine n_iadd dL_law_1030 ?_
  refine s_ld (by omega) hL dL_law_1031 ?_
  refine a_aload_n rfl dL_law_1032 ?_
  refine a_iload_n rfl dL_law_1033 ?_
  refine n_iconst 2 rfl dL_law_1034 ?_
  refine n_iadd dL_law_1035 ?_
  refine s_ld (by omega) hL dL_law_1036 ?_
  refine n_callV (mi' := miX12_bind) dL_law_1037 lL_120 mX12_bind (by decide) rfl rfl rfl (c_X12_bind (IM_ke h.2.1 k1) h.2.2.1 (fun M2 h2 k2 => ?_) 0) rfl rfl (by decide) (by decide) (Nat.le_of_ble_eq_true rfl)
  show AW _ _ _ _ _ _ _
  refine u_icmp_eq 1822 dL_law_1040 (by decide) (fun _ => ?_) (fun q => absurd rfl q)
  exact hnext _ _ (LI_1 h h1 h2 k2 (TI_bind h.2.2))

set_option maxRecDepth 100000 in
set_option maxHeartbeats 800000 in
theorem lw_c24 {b L i : Nat} {xs : Nat → Int32} {E : List Frame → State → State → Prop} {M : Mm} {T : TT} (hL : L ≤ 3072) (hi : i + 6 ≤ L) (hnext : ∀ M T, LI M T → AW miL 300 (lwX b L xs E) 1822 (lwL i) [] M) (h : LI M T) : AW miL 300 (lwX b L xs E) 1045 (lwL i) [] M := by
  refine a_aload_n rfl dL_law_1045 ?_
  refine a_aload_n rfl dL_law_1046 ?_
  refine a_iload_n rfl dL_law_1047 ?_
  refine n_iconst 1 rfl dL_law_1048 ?_
  refine n_iadd dL_law_1049 ?_
  refine s_ld (by omega) hL dL_law_1050 ?_
  refine n_callV (mi' := miX11_loose) dL_law_1051 lL_121 mX11_loose (by decide) rfl rfl rfl (c_X11_loose h.1 h.2.2.1 (fun M1 h1 k1 => ?_) 0) rfl rfl (by decide) (by decide) (Nat.le_of_ble_eq_true rfl)
  show AW _ _ _ _ _ _ _
  refine a_aload_n rfl dL_law_1054 ?_
  refine a_aload_n rfl dL_law_1055 ?_
  refine a_iload_n rfl dL_law_1056 ?_
  refine n_iconst 1 rfl dL_law_1057 ?_
  refine n_iadd dL_law_1058 ?_
  refine s_ld (by omega) hL dL_law_1059 ?_
  refine n_callV (mi' := miX12_loose) dL_law_1060 lL_124 mX12_loose (by decide) rfl rfl rfl (c_X12_loose (IM_ke h.2.1 k1) h.2.2.1 (fun M2 h2 k2 => ?_) 0) rfl rfl (by decide) (by decide) (Nat.le_of_ble_eq_true rfl)
  show AW _ _ _ _ _ _ _
  refine u_icmp_eq 1822 dL_law_1063 (by decide) (fun _ => ?_) (fun q => absurd rfl q)
  exact hnext _ _ (LI_1 h h1 h2 k2 (TI_loose h.2.2))

set_option maxRecDepth 100000 in
set_option maxHeartbeats 800000 in
theorem lw_c25 {b L i : Nat} {xs : Nat → Int32} {E : List Frame → State → State → Prop} {M : Mm} {T : TT} (hL : L ≤ 3072) (hi : i + 6 ≤ L) (hnext : ∀ M T, LI M T → AW miL 300 (lwX b L xs E) 1822 (lwL i) [] M) (h : LI M T) : AW miL 300 (lwX b L xs E) 1068 (lwL i) [] M := by
  refine a_aload_n rfl dL_law_1068 ?_
  refine a_aload_n rfl dL_law_1069 ?_
  refine a_iload_n rfl dL_law_1070 ?_
  refine n_iconst 1 rfl dL_law_1071 ?_
  refine n_iadd dL_law_1072 ?_
  refine s_ld (by omega) hL dL_law_1073 ?_
  refine a_aload_n rfl dL_law_1074 ?_
  refine a_iload_n rfl dL_law_1075 ?_
  refine n_iconst 2 rfl dL_law_1076 ?_
  refine n_iadd dL_law_1077 ?_
  refine s_ld (by omega) hL dL_law_1078 ?_
  refine n_callV (mi' := miX11_hurry) dL_law_1079 lL_125 mX11_hurry (by decide) rfl rfl rfl (c_X11_hurry h.1 h.2.2.1 (fun M1 h1 k1 => ?_) 0) rfl rfl (by decide) (by decide) (Nat.le_of_ble_eq_true rfl)
  show AW _ _ _ _ _ _ _
  refine a_aload_n rfl dL_law_1082 ?_
  refine a_aload_n rfl dL_law_1083 ?_
  refine a_iload_n rfl dL_law_1084 ?_
  refine n_iconst 1 rfl dL_law_1085 ?_
  refine n_iadd dL_law_1086 ?_
  refine s_ld (by omega) hL dL_law_1087 ?_
  refine a_aload_n rfl dL_law_1088 ?_
  refine a_iload_n rfl dL_law_1089 ?_
  refine n_iconst 2 rfl dL_law_1090 ?_
  refine n_iadd dL_law_1091 ?_
  refine s_ld (by omega) hL dL_law_1092 ?_
  refine n_callV (mi' := miX12_hurry) dL_law_1093 lL_128 mX12_hurry (by decide) rfl rfl rfl (c_X12_hurry (IM_ke h.2.1 k1) h.2.2.1 (fun M2 h2 k2 => ?_) 0) rfl rfl (by decide) (by decide) (Nat.le_of_ble_eq_true rfl)
  show AW _ _ _ _ _ _ _
  refine u_icmp_eq 1822 dL_law_1096 (by decide) (fun _ => ?_) (fun q => absurd rfl q)
  exact hnext _ _ (LI_1 h h1 h2 k2 (TI_hurry h.2.2))

set_option maxRecDepth 100000 in
set_option maxHeartbeats 800000 in
theorem lw_c26 {b L i : Nat} {xs : Nat → Int32} {E : List Frame → State → State → Prop} {M : Mm} {T : TT} (hL : L ≤ 3072) (hi : i + 6 ≤ L) (hnext : ∀ M T, LI M T → AW miL 300 (lwX b L xs E) 1822 (lwL i) [] M) (h : LI M T) : AW miL 300 (lwX b L xs E) 1101 (lwL i) [] M := by
  refine a_aload_n rfl dL_law_1101 ?_
  refine a_aload_n rfl dL_law_1102 ?_
  refine a_iload_n rfl dL_law_1103 ?_
  refine n_iconst 1 rfl dL_law_1104 ?_
  refine n_iadd dL_law_1105 ?_
  refine s_ld (by omega) hL dL_law_1106 ?_
  refine n_callV (mi' := miX11_rule) dL_law_1107 lL_129 mX11_rule (by decide) rfl rfl rfl (c_X11_rule h.1 h.2.2.1 (fun M1 h1 k1 => ?_) 0) rfl rfl (by decide) (by decide) (Nat.le_of_ble_eq_true rfl)
  show AW _ _ _ _ _ _ _
  refine a_aload_n rfl dL_law_1110 ?_
  refine a_aload_n rfl dL_law_1111 ?_
  refine a_iload_n rfl dL_law_1112 ?_
  refine n_iconst 1 rfl dL_law_1113 ?_
  refine n_iadd dL_law_1114 ?_
  refine s_ld (by omega) hL dL_law_1115 ?_
  refine n_callV (mi' := miX12_rule) dL_law_1116 lL_133 mX12_rule (by decide) rfl rfl rfl (c_X12_rule (IM_ke h.2.1 k1) h.2.2.1 (fun M2 h2 k2 => ?_) 0) rfl rfl (by decide) (by decide) (Nat.le_of_ble_eq_true rfl)
  show AW _ _ _ _ _ _ _
  refine u_icmp_eq 1822 dL_law_1119 (by decide) (fun _ => ?_) (fun q => absurd rfl q)
  exact hnext _ _ (LI_1 h h1 h2 k2 (TI_rule h.2.2))

set_option maxRecDepth 100000 in
set_option maxHeartbeats 800000 in
theorem lw_c27 {b L i : Nat} {xs : Nat → Int32} {E : List Frame → State → State → Prop} {M : Mm} {T : TT} (hL : L ≤ 3072) (hi : i + 6 ≤ L) (hnext : ∀ M T, LI M T → AW miL 300 (lwX b L xs E) 1822 (lwL i) [] M) (h : LI M T) : AW miL 300 (lwX b L xs E) 1124 (lwL i) [] M := by
  refine a_aload_n rfl dL_law_1124 ?_
  refine a_aload_n rfl dL_law_1125 ?_
  refine a_iload_n rfl dL_law_1126 ?_
  refine n_iconst 1 rfl dL_law_1127 ?_
  refine n_iadd dL_law_1128 ?_
  refine s_ld (by omega) hL dL_law_1129 ?_
  refine a_aload_n rfl dL_law_1130 ?_
  refine a_iload_n rfl dL_law_1131 ?_
  refine n_iconst 2 rfl dL_law_1132 ?_
  refine n_iadd dL_law_1133 ?_
  refine s_ld (by omega) hL dL_law_1134 ?_
  refine n_callV (mi' := miX11_clearIn) dL_law_1135 lL_134 mX11_clearIn (by decide) rfl rfl rfl (c_X11_clearIn h.1 h.2.2.1 (fun M1 h1 k1 => ?_) 0) rfl rfl (by decide) (by decide) (Nat.le_of_ble_eq_true rfl)
  show AW _ _ _ _ _ _ _
  refine a_aload_n rfl dL_law_1138 ?_
  refine a_aload_n rfl dL_law_1139 ?_
  refine a_iload_n rfl dL_law_1140 ?_
  refine n_iconst 1 rfl dL_law_1141 ?_
  refine n_iadd dL_law_1142 ?_
  refine s_ld (by omega) hL dL_law_1143 ?_
  refine a_aload_n rfl dL_law_1144 ?_
  refine a_iload_n rfl dL_law_1145 ?_
  refine n_iconst 2 rfl dL_law_1146 ?_
  refine n_iadd dL_law_1147 ?_
  refine s_ld (by omega) hL dL_law_1148 ?_
  refine n_callV (mi' := miX12_clearIn) dL_law_1149 lL_137 mX12_clearIn (by decide) rfl rfl rfl (c_X12_clearIn (IM_ke h.2.1 k1) h.2.2.1 (fun M2 h2 k2 => ?_) 0) rfl rfl (by decide) (by decide) (Nat.le_of_ble_eq_true rfl)
  show AW _ _ _ _ _ _ _
  refine u_icmp_eq 1822 dL_law_1152 (by decide) (fun _ => ?_) (fun q => absurd rfl q)
  exact hnext _ _ (LI_1 h h1 h2 k2 (TI_clearIn h.2.2))

set_option maxRecDepth 100000 in
set_option maxHeartbeats 800000 in
theorem lw_c28 {b L i : Nat} {xs : Nat → Int32} {E : List Frame → State → State → Prop} {M : Mm} {T : TT} (hL : L ≤ 3072) (hi : i + 6 ≤ L) (hnext : ∀ M T, LI M T → AW miL 300 (lwX b L xs E) 1822 (lwL i) [] M) (h : LI M T) : AW miL 300 (lwX b L xs E) 1157 (lwL i) [] M := by
  refine a_aload_n rfl dL_law_1157 ?_
  refine a_aload_n rfl dL_law_1158 ?_
  refine a_iload_n rfl dL_law_1159 ?_
  refine n_iconst 1 rfl dL_law_1160 ?_
  refine n_iadd dL_law_1161 ?_
  refine s_ld (by omega) hL dL_law_1162 ?_
  refine a_aload_n rfl dL_law_1163 ?_
  refine a_iload_n rfl dL_law_1164 ?_
  refine n_iconst 2 rfl dL_law_1165 ?_
  refine n_iadd dL_law_1166 ?_
  refine s_ld (by omega) hL dL_law_1167 ?_
  refine n_callV (mi' := miX11_heightIn) dL_law_1168 lL_138 mX11_heightIn (by decide) rfl rfl rfl (c_X11_heightIn h.1 h.2.2.1 (fun M1 h1 k1 => ?_) 0) rfl rfl (by decide) (by decide) (Nat.le_of_ble_eq_true rfl)
  show AW _ _ _ _ _ _ _
  refine a_aload_n rfl dL_law_1171 ?_
  refine a_aload_n rfl dL_law_1172 ?_
  refine a_iload_n rfl dL_law_1173 ?_
  refine n_iconst 1 rfl dL_law_1174 ?_
  refine n_iadd dL_law_1175 ?_
  refine s_ld (by omega) hL dL_law_1176 ?_
  refine a_aload_n rfl dL_law_1177 ?_
  refine a_iload_n rfl dL_law_1178 ?_
  refine n_iconst 2 rfl dL_law_1179 ?_
  refine n_iadd dL_law_1180 ?_
  refine s_ld (by omega) hL dL_law_1181 ?_
  refine n_callV (mi' := miX12_heightIn) dL_law_1182 lL_141 mX12_heightIn (by decide) rfl rfl rfl (c_X12_heightIn (IM_ke h.2.1 k1) h.2.2.1 (fun M2 h2 k2 => ?_) 0) rfl rfl (by decide) (by decide) (Nat.le_of_ble_eq_true rfl)
  show AW _ _ _ _ _ _ _
  refine u_icmp_eq 1822 dL_law_1185 (by decide) (fun _ => ?_) (fun q => absurd rfl q)
  exact hnext _ _ (LI_1 h h1 h2 k2 (TI_heightIn h.2.2))

set_option maxRecDepth 100000 in
set_option maxHeartbeats 800000 in
theorem lw_c29 {b L i : Nat} {xs : Nat → Int32} {E : List Frame → State → State → Prop} {M : Mm} {T : TT} (hL : L ≤ 3072) (hi : i + 6 ≤ L) (hnext : ∀ M T, LI M T → AW miL 300 (lwX b L xs E) 1822 (lwL i) [] M) (h : LI M T) : AW miL 300 (lwX b L xs E) 1190 (lwL i) [] M := by
  refine a_aload_n rfl dL_law_1190 ?_
  refine a_aload_n rfl dL_law_1191 ?_
  refine a_iload_n rfl dL_law_1192 ?_
  refine n_iconst 1 rfl dL_law_1193 ?_
  refine n_iadd dL_law_1194 ?_
  refine s_ld (by omega) hL dL_law_1195 ?_
  refine n_callV (mi' := miX11_downIn) dL_law_1196 lL_142 mX11_downIn (by decide) rfl rfl rfl (c_X11_downIn h.1 h.2.2.1 (fun M1 h1 k1 => ?_) 0) rfl rfl (by decide) (by decide) (Nat.le_of_ble_eq_true rfl)
  show AW _ _ _ _ _ _ _
  refine a_aload_n rfl dL_law_1199 ?_
  refine a_aload_n rfl dL_law_1200 ?_
  refine a_iload_n rfl dL_law_1201 ?_
  refine n_iconst 1 rfl dL_law_1202 ?_
  refine n_iadd dL_law_1203 ?_
  refine s_ld (by omega) hL dL_law_1204 ?_
  refine n_callV (mi' := miX12_downIn) dL_law_1205 lL_145 mX12_downIn (by decide) rfl rfl rfl (c_X12_downIn (IM_ke h.2.1 k1) h.2.2.1 (fun M2 h2 k2 => ?_) 0) rfl rfl (by decide) (by decide) (Nat.le_of_ble_eq_true rfl)
  show AW _ _ _ _ _ _ _
  refine u_icmp_eq 1822 dL_law_1208 (by decide) (fun _ => ?_) (fun q => absurd rfl q)
  exact hnext _ _ (LI_1 h h1 h2 k2 (TI_downIn h.2.2))

set_option maxRecDepth 100000 in
set_option maxHeartbeats 800000 in
theorem lw_c30 {b L i : Nat} {xs : Nat → Int32} {E : List Frame → State → State → Prop} {M : Mm} {T : TT} (hL : L ≤ 3072) (hi : i + 6 ≤ L) (hnext : ∀ M T, LI M T → AW miL 300 (lwX b L xs E) 1822 (lwL i) [] M) (h : LI M T) : AW miL 300 (lwX b L xs E) 1213 (lwL i) [] M := by
  refine a_aload_n rfl dL_law_1213 ?_
  refine a_aload_n rfl dL_law_1214 ?_
  refine a_iload_n rfl dL_law_1215 ?_
  refine n_iconst 1 rfl dL_law_1216 ?_
  refine n_iadd dL_law_1217 ?_
  refine s_ld (by omega) hL dL_law_1218 ?_
  refine n_callV (mi' := miX11_least) dL_law_1219 lL_146 mX11_least (by decide) rfl rfl rfl (c_X11_least h.1 h.2.2.1 (fun M1 h1 k1 => ?_) 0) rfl rfl (by decide) (by decide) (Nat.le_of_ble_eq_true rfl)
  show AW _ _ _ _ _ _ _
  refine a_aload_n rfl dL_law_1222 ?_
  refine a_aload_n rfl dL_law_1223 ?_
  refine a_iload_n rfl dL_law_1224 ?_
  refine n_iconst 1 rfl dL_law_1225 ?_
  refine n_iadd dL_law_1226 ?_
  refine s_ld (by omega) hL dL_law_1227 ?_
  refine n_callV (mi' := miX12_least) dL_law_1228 lL_149 mX12_least (by decide) rfl rfl rfl (c_X12_least (IM_ke h.2.1 k1) h.2.2.1 (fun M2 h2 k2 => ?_) 0) rfl rfl (by decide) (by decide) (Nat.le_of_ble_eq_true rfl)
  show AW _ _ _ _ _ _ _
  refine u_icmp_eq 1822 dL_law_1231 (by decide) (fun _ => ?_) (fun q => absurd rfl q)
  exact hnext _ _ (LI_1 h h1 h2 k2 (TI_least h.2.2))

set_option maxRecDepth 100000 in
set_option maxHeartbeats 800000 in
theorem lw_c31 {b L i : Nat} {xs : Nat → Int32} {E : List Frame → State → State → Prop} {M : Mm} {T : TT} (hL : L ≤ 3072) (hi : i + 6 ≤ L) (hnext : ∀ M T, LI M T → AW miL 300 (lwX b L xs E) 1822 (lwL i) [] M) (h : LI M T) : AW miL 300 (lwX b L xs E) 1236 (lwL i) [] M := by
  refine a_aload_n rfl dL_law_1236 ?_
  refine a_aload_n rfl dL_law_1237 ?_
  refine a_iload_n rfl dL_law_1238 ?_
  refine n_iconst 1 rfl dL_law_1239 ?_
  refine n_iadd dL_law_1240 ?_
  refine s_ld (by omega) hL dL_law_1241 ?_
  refine n_callV (mi' := miX11_leastSet) dL_law_1242 lL_150 mX11_leastSet (by decide) rfl rfl rfl (c_X11_leastSet h.1 h.2.2.1 (fun M1 h1 k1 => ?_) 0) rfl rfl (by decide) (by decide) (Nat.le_of_ble_eq_true rfl)
  show AW _ _ _ _ _ _ _
  refine a_aload_n rfl dL_law_1245 ?_
  refine a_aload_n rfl dL_law_1246 ?_
  refine a_iload_n rfl dL_law_1247 ?_
  refine n_iconst 1 rfl dL_law_1248 ?_
  refine n_iadd dL_law_1249 ?_
  refine s_ld (by omega) hL dL_law_1250 ?_
  refine n_callV (mi' := miX12_leastSet) dL_law_1251 lL_153 mX12_leastSet (by decide) rfl rfl rfl (c_X12_leastSet (IM_ke h.2.1 k1) h.2.2.1 (fun M2 h2 k2 => ?_) 0) rfl rfl (by decide) (by decide) (Nat.le_of_ble_eq_true rfl)
  show AW _ _ _ _ _ _ _
  refine u_icmp_eq 1822 dL_law_1254 (by decide) (fun _ => ?_) (fun q => absurd rfl q)
  exact hnext _ _ (LI_1 h h1 h2 k2 (TI_leastSet h.2.2))

set_option maxRecDepth 100000 in
set_option maxHeartbeats 800000 in
theorem lw_c32 {b L i : Nat} {xs : Nat → Int32} {E : List Frame → State → State → Prop} {M : Mm} {T : TT} (hL : L ≤ 3072) (hi : i + 6 ≤ L) (hnext : ∀ M T, LI M T → AW miL 300 (lwX b L xs E) 1822 (lwL i) [] M) (h : LI M T) : AW miL 300 (lwX b L xs E) 1259 (lwL i) [] M := by
  refine a_aload_n rfl dL_law_1259 ?_
  refine n_callV (mi' := miX11_ring) dL_law_1260 lL_154 mX11_ring (by decide) rfl rfl rfl (c_X11_ring h.1 h.2.2.1 (fun M1 h1 k1 => ?_) 0) rfl rfl (by decide) (by decide) (Nat.le_of_ble_eq_true rfl)
  show AW _ _ _ _ _ _ _
  refine a_aload_n rfl dL_law_1263 ?_
  refine n_callV (mi' := miX12_ring) dL_law_1264 lL_157 mX12_ring (by decide) rfl rfl rfl (c_X12_ring (IM_ke h.2.1 k1) h.2.2.1 (fun M2 h2 k2 => ?_) 0) rfl rfl (by decide) (by decide) (Nat.le_of_ble_eq_true rfl)
  show AW _ _ _ _ _ _ _
  refine u_icmp_eq 1822 dL_law_1267 (by decide) (fun _ => ?_) (fun q => absurd rfl q)
  exact hnext _ _ (LI_1 h h1 h2 k2 (TI_ring h.2.2))

set_option maxRecDepth 100000 in
set_option maxHeartbeats 800000 in
theorem lw_c33 {b L i : Nat} {xs : Nat → Int32} {E : List Frame → State → State → Prop} {M : Mm} {T : TT} (hL : L ≤ 3072) (hi : i + 6 ≤ L) (hnext : ∀ M T, LI M T → AW miL 300 (lwX b L xs E) 1822 (lwL i) [] M) (h : LI M T) : AW miL 300 (lwX b L xs E) 1272 (lwL i) [] M := by
  refine a_aload_n rfl dL_law_1272 ?_
  refine n_callV (mi' := miX11_loosen) dL_law_1273 lL_158 mX11_loosen (by decide) rfl rfl rfl (c_X11_loosen h.1 h.2.2.1 (fun M1 h1 k1 => ?_) 0) rfl rfl (by decide) (by decide) (Nat.le_of_ble_eq_true rfl)
  show AW _ _ _ _ _ _ _
  refine a_aload_n rfl dL_law_1276 ?_
  refine n_callV (mi' := miX12_loosen) dL_law_1277 lL_161 mX12_loosen (by decide) rfl rfl rfl (c_X12_loosen (IM_ke h.2.1 k1) h.2.2.1 (fun M2 h2 k2 => ?_) 0) rfl rfl (by decide) (by decide) (Nat.le_of_ble_eq_true rfl)
  show AW _ _ _ _ _ _ _
  refine u_icmp_eq 1822 dL_law_1280 (by decide) (fun _ => ?_) (fun q => absurd rfl q)
  exact hnext _ _ (LI_1 h h1 h2 k2 (TI_loosen h.2.2))

set_option maxRecDepth 100000 in
set_option maxHeartbeats 800000 in
theorem lw_c34 {b L i : Nat} {xs : Nat → Int32} {E : List Frame → State → State → Prop} {M : Mm} {T : TT} (hL : L ≤ 3072) (hi : i + 6 ≤ L) (hnext : ∀ M T, LI M T → AW miL 300 (lwX b L xs E) 1822 (lwL i) [] M) (h : LI M T) : AW miL 300 (lwX b L xs E) 1285 (lwL i) [] M := by
  refine a_aload_n rfl dL_law_1285 ?_
  refine n_callV (mi' := miX11_loosenSet) dL_law_1286 lL_162 mX11_loosenSet (by decide) rfl rfl rfl (c_X11_loosenSet h.1 h.2.2.1 (fun M1 h1 k1 => ?_) 0) rfl rfl (by decide) (by decide) (Nat.le_of_ble_eq_true rfl)
  show AW _ _ _ _ _ _ _
  refine a_aload_n rfl dL_law_1289 ?_
  refine n_callV (mi' := miX12_loosenSet) dL_law_1290 lL_165 mX12_loosenSet (by decide) rfl rfl rfl (c_X12_loosenSet (IM_ke h.2.1 k1) h.2.2.1 (fun M2 h2 k2 => ?_) 0) rfl rfl (by decide) (by decide) (Nat.le_of_ble_eq_true rfl)
  show AW _ _ _ _ _ _ _
  refine u_icmp_eq 1822 dL_law_1293 (by decide) (fun _ => ?_) (fun q => absurd rfl q)
  exact hnext _ _ (LI_1 h h1 h2 k2 (TI_loosenSet h.2.2))

set_option maxRecDepth 100000 in
set_option maxHeartbeats 800000 in
theorem lw_c35 {b L i : Nat} {xs : Nat → Int32} {E : List Frame → State → State → Prop} {M : Mm} {T : TT} (hL : L ≤ 3072) (hi : i + 6 ≤ L) (hnext : ∀ M T, LI M T → AW miL 300 (lwX b L xs E) 1822 (lwL i) [] M) (h : LI M T) : AW miL 300 (lwX b L xs E) 1298 (lwL i) [] M := by
  refine a_aload_n rfl dL_law_1298 ?_
  refine n_callV (mi' := miX11_waiting) dL_law_1299 lL_166 mX11_waiting (by decide) rfl rfl rfl (c_X11_waiting h.1 h.2.2.1 (fun M1 h1 k1 => ?_) 0) rfl rfl (by decide) (by decide) (Nat.le_of_ble_eq_true rfl)
  show AW _ _ _ _ _ _ _
  refine a_aload_n rfl dL_law_1302 ?_
  refine n_callV (mi' := miX12_waiting) dL_law_1303 lL_169 mX12_waiting (by decide) rfl rfl rfl (c_X12_waiting (IM_ke h.2.1 k1) h.2.2.1 (fun M2 h2 k2 => ?_) 0) rfl rfl (by decide) (by decide) (Nat.le_of_ble_eq_true rfl)
  show AW _ _ _ _ _ _ _
  refine u_icmp_eq 1822 dL_law_1306 (by decide) (fun _ => ?_) (fun q => absurd rfl q)
  exact hnext _ _ (LI_1 h h1 h2 k2 (TI_waiting h.2.2))

set_option maxRecDepth 100000 in
set_option maxHeartbeats 800000 in
theorem lw_c36 {b L i : Nat} {xs : Nat → Int32} {E : List Frame → State → State → Prop} {M : Mm} {T : TT} (hL : L ≤ 3072) (hi : i + 6 ≤ L) (hnext : ∀ M T, LI M T → AW miL 300 (lwX b L xs E) 1822 (lwL i) [] M) (h : LI M T) : AW miL 300 (lwX b L xs E) 1311 (lwL i) [] M := by
  refine a_aload_n rfl dL_law_1311 ?_
  refine a_aload_n rfl dL_law_1312 ?_
  refine a_iload_n rfl dL_law_1313 ?_
  refine n_iconst 1 rfl dL_law_1314 ?_
  refine n_iadd dL_law_1315 ?_
  refine s_ld (by omega) hL dL_law_1316 ?_
  refine n_callV (mi' := miX11_orderAt) dL_law_1317 lL_170 mX11_orderAt (by decide) rfl rfl rfl (c_X11_orderAt h.1 h.2.2.1 (fun M1 h1 k1 => ?_) 0) rfl rfl (by decide) (by decide) (Nat.le_of_ble_eq_true rfl)
  show AW _ _ _ _ _ _ _
  refine a_aload_n rfl dL_law_1320 ?_
  refine a_aload_n rfl dL_law_1321 ?_
  refine a_iload_n rfl dL_law_1322 ?_
  refine n_iconst 1 rfl dL_law_1323 ?_
  refine n_iadd dL_law_1324 ?_
  refine s_ld (by omega) hL dL_law_1325 ?_
  refine n_callV (mi' := miX12_orderAt) dL_law_1326 lL_173 mX12_orderAt (by decide) rfl rfl rfl (c_X12_orderAt (IM_ke h.2.1 k1) h.2.2.1 (fun M2 h2 k2 => ?_) 0) rfl rfl (by decide) (by decide) (Nat.le_of_ble_eq_true rfl)
  show AW _ _ _ _ _ _ _
  refine u_icmp_eq 1822 dL_law_1329 (by decide) (fun _ => ?_) (fun q => absurd rfl q)
  exact hnext _ _ (LI_1 h h1 h2 k2 (TI_orderAt h.2.2))

set_option maxRecDepth 100000 in
set_option maxHeartbeats 800000 in
theorem lw_c37 {b L i : Nat} {xs : Nat → Int32} {E : List Frame → State → State → Prop} {M : Mm} {T : TT} (hL : L ≤ 3072) (hi : i + 6 ≤ L) (hnext : ∀ M T, LI M T → AW miL 300 (lwX b L xs E) 1822 (lwL i) [] M) (h : LI M T) : AW miL 300 (lwX b L xs E) 1334 (lwL i) [] M := by
  refine a_aload_n rfl dL_law_1334 ?_
  refine a_aload_n rfl dL_law_1335 ?_
  refine a_iload_n rfl dL_law_1336 ?_
  refine n_iconst 1 rfl dL_law_1337 ?_
  refine n_iadd dL_law_1338 ?_
  refine s_ld (by omega) hL dL_law_1339 ?_
  refine n_callV (mi' := miX11_round) dL_law_1340 lL_174 mX11_round (by decide) rfl rfl rfl (c_X11_round h.1 h.2.2.1 (fun M1 h1 k1 => ?_) 0) rfl rfl (by decide) (by decide) (Nat.le_of_ble_eq_true rfl)
  show AW _ _ _ _ _ _ _
  refine a_aload_n rfl dL_law_1343 ?_
  refine a_aload_n rfl dL_law_1344 ?_
  refine a_iload_n rfl dL_law_1345 ?_
  refine n_iconst 1 rfl dL_law_1346 ?_
  refine n_iadd dL_law_1347 ?_
  refine s_ld (by omega) hL dL_law_1348 ?_
  refine n_callV (mi' := miX12_round) dL_law_1349 lL_177 mX12_round (by decide) rfl rfl rfl (c_X12_round (IM_ke h.2.1 k1) h.2.2.1 (fun M2 h2 k2 => ?_) 0) rfl rfl (by decide) (by decide) (Nat.le_of_ble_eq_true rfl)
  show AW _ _ _ _ _ _ _
  refine u_icmp_eq 1822 dL_law_1352 (by decide) (fun _ => ?_) (fun q => absurd rfl q)
  exact hnext _ _ (LI_1 h h1 h2 k2 (TI_round h.2.2))

set_option maxRecDepth 100000 in
set_option maxHeartbeats 800000 in
theorem lw_c38 {b L i : Nat} {xs : Nat → Int32} {E : List Frame → State → State → Prop} {M : Mm} {T : TT} (hL : L ≤ 3072) (hi : i + 6 ≤ L) (hnext : ∀ M T, LI M T → AW miL 300 (lwX b L xs E) 1822 (lwL i) [] M) (h : LI M T) : AW miL 300 (lwX b L xs E) 1357 (lwL i) [] M := by
  refine a_aload_n rfl dL_law_1357 ?_
  refine a_aload_n rfl dL_law_1358 ?_
  refine a_iload_n rfl dL_law_1359 ?_
  refine n_iconst 1 rfl dL_law_1360 ?_
  refine n_iadd dL_law_1361 ?_
  refine s_ld (by omega) hL dL_law_1362 ?_
  refine a_aload_n rfl dL_law_1363 ?_
  refine a_iload_n rfl dL_law_1364 ?_
  refine n_iconst 2 rfl dL_law_1365 ?_
  refine n_iadd dL_law_1366 ?_
  refine s_ld (by omega) hL dL_law_1367 ?_
  refine a_aload_n rfl dL_law_1368 ?_
  refine a_iload_n rfl dL_law_1369 ?_
  refine n_iconst 3 rfl dL_law_1370 ?_
  refine n_iadd dL_law_1371 ?_
  refine s_ld (by omega) hL dL_law_1372 ?_
  refine n_callV (mi' := miX11_out) dL_law_1373 lL_178 mX11_out (by decide) rfl rfl rfl (c_X11_out h.1 h.2.2.1 (fun M1 h1 k1 => ?_) 0) rfl rfl (by decide) (by decide) (Nat.le_of_ble_eq_true rfl)
  show AW _ _ _ _ _ _ _
  refine a_aload_n rfl dL_law_1376 ?_
  refine a_aload_n rfl dL_law_1377 ?_
  refine a_iload_n rfl dL_law_1378 ?_
  refine n_iconst 1 rfl dL_law_1379 ?_
  refine n_iadd dL_law_1380 ?_
  refine s_ld (by omega) hL dL_law_1381 ?_
  refine a_aload_n rfl dL_law_1382 ?_
  refine a_iload_n rfl dL_law_1383 ?_
  refine n_iconst 2 rfl dL_law_1384 ?_
  refine n_iadd dL_law_1385 ?_
  refine s_ld (by omega) hL dL_law_1386 ?_
  refine a_aload_n rfl dL_law_1387 ?_
  refine a_iload_n rfl dL_law_1388 ?_
  refine n_iconst 3 rfl dL_law_1389 ?_
  refine n_iadd dL_law_1390 ?_
  refine s_ld (by omega) hL dL_law_1391 ?_
  refine n_callV (mi' := miX12_out) dL_law_1392 lL_181 mX12_out (by decide) rfl rfl rfl (c_X12_out (IM_ke h.2.1 k1) h.2.2.1 (fun M2 h2 k2 => ?_) 0) rfl rfl (by decide) (by decide) (Nat.le_of_ble_eq_true rfl)
  show AW _ _ _ _ _ _ _
  refine u_icmp_eq 1822 dL_law_1395 (by decide) (fun _ => ?_) (fun q => absurd rfl q)
  exact hnext _ _ (LI_1 h h1 h2 k2 (TI_out h.2.2))

set_option maxRecDepth 100000 in
set_option maxHeartbeats 800000 in
theorem lw_c39 {b L i : Nat} {xs : Nat → Int32} {E : List Frame → State → State → Prop} {M : Mm} {T : TT} (hL : L ≤ 3072) (hi : i + 6 ≤ L) (hnext : ∀ M T, LI M T → AW miL 300 (lwX b L xs E) 1822 (lwL i) [] M) (h : LI M T) : AW miL 300 (lwX b L xs E) 1400 (lwL i) [] M := by
  refine a_aload_n rfl dL_law_1400 ?_
  refine a_aload_n rfl dL_law_1401 ?_
  refine a_iload_n rfl dL_law_1402 ?_
  refine n_iconst 1 rfl dL_law_1403 ?_
  refine n_iadd dL_law_1404 ?_
  refine s_ld (by omega) hL dL_law_1405 ?_
  refine a_aload_n rfl dL_law_1406 ?_
  refine a_iload_n rfl dL_law_1407 ?_
  refine n_iconst 2 rfl dL_law_1408 ?_
  refine n_iadd dL_law_1409 ?_
  refine s_ld (by omega) hL dL_law_1410 ?_
  refine a_aload_n rfl dL_law_1411 ?_
  refine a_iload_n rfl dL_law_1412 ?_
  refine n_iconst 3 rfl dL_law_1413 ?_
  refine n_iadd dL_law_1414 ?_
  refine s_ld (by omega) hL dL_law_1415 ?_
  refine n_callV (mi' := miX11_ask) dL_law_1416 lL_182 mX11_ask (by decide) rfl rfl rfl (c_X11_ask h.1 h.2.2.1 (fun M1 h1 k1 => ?_) 0) rfl rfl (by decide) (by decide) (Nat.le_of_ble_eq_true rfl)
  show AW _ _ _ _ _ _ _
  refine a_aload_n rfl dL_law_1419 ?_
  refine a_aload_n rfl dL_law_1420 ?_
  refine a_iload_n rfl dL_law_1421 ?_
  refine n_iconst 1 rfl dL_law_1422 ?_
  refine n_iadd dL_law_1423 ?_
  refine s_ld (by omega) hL dL_law_1424 ?_
  refine a_aload_n rfl dL_law_1425 ?_
  refine a_iload_n rfl dL_law_1426 ?_
  refine n_iconst 2 rfl dL_law_1427 ?_
  refine n_iadd dL_law_1428 ?_
  refine s_ld (by omega) hL dL_law_1429 ?_
  refine a_aload_n rfl dL_law_1430 ?_
  refine a_iload_n rfl dL_law_1431 ?_
  refine n_iconst 3 rfl dL_law_1432 ?_
  refine n_iadd dL_law_1433 ?_
  refine s_ld (by omega) hL dL_law_1434 ?_
  refine n_callV (mi' := miX12_ask) dL_law_1435 lL_185 mX12_ask (by decide) rfl rfl rfl (c_X12_ask (IM_ke h.2.1 k1) h.2.2.1 (fun M2 h2 k2 => ?_) 0) rfl rfl (by decide) (by decide) (Nat.le_of_ble_eq_true rfl)
  show AW _ _ _ _ _ _ _
  refine u_icmp_eq 1822 dL_law_1438 (by decide) (fun _ => ?_) (fun q => absurd rfl q)
  exact hnext _ _ (LI_1 h h1 h2 k2 (TI_ask h.2.2))

set_option maxRecDepth 100000 in
set_option maxHeartbeats 800000 in
theorem lw_c40 {b L i : Nat} {xs : Nat → Int32} {E : List Frame → State → State → Prop} {M : Mm} {T : TT} (hL : L ≤ 3072) (hi : i + 6 ≤ L) (hnext : ∀ M T, LI M T → AW miL 300 (lwX b L xs E) 1822 (lwL i) [] M) (h : LI M T) : AW miL 300 (lwX b L xs E) 1443 (lwL i) [] M := by
  refine a_aload_n rfl dL_law_1443 ?_
  refine a_aload_n rfl dL_law_1444 ?_
  refine a_iload_n rfl dL_law_1445 ?_
  refine n_iconst 1 rfl dL_law_1446 ?_
  refine n_iadd dL_law_1447 ?_
  refine s_ld (by omega) hL dL_law_1448 ?_
  refine a_aload_n rfl dL_law_1449 ?_
  refine a_iload_n rfl dL_law_1450 ?_
  refine n_iconst 2 rfl dL_law_1451 ?_
  refine n_iadd dL_law_1452 ?_
  refine s_ld (by omega) hL dL_law_1453 ?_
  refine n_callV (mi' := miX11_laws) dL_law_1454 lL_186 mX11_laws (by decide) rfl rfl rfl (c_X11_laws h.1 h.2.2.1 (fun M1 h1 k1 => ?_) 0) rfl rfl (by decide) (by decide) (Nat.le_of_ble_eq_true rfl)
  show AW _ _ _ _ _ _ _
  refine a_aload_n rfl dL_law_1457 ?_
  refine a_aload_n rfl dL_law_1458 ?_
  refine a_iload_n rfl dL_law_1459 ?_
  refine n_iconst 1 rfl dL_law_1460 ?_
  refine n_iadd dL_law_1461 ?_
  refine s_ld (by omega) hL dL_law_1462 ?_
  refine a_aload_n rfl dL_law_1463 ?_
  refine a_iload_n rfl dL_law_1464 ?_
  refine n_iconst 2 rfl dL_law_1465 ?_
  refine n_iadd dL_law_1466 ?_
  refine s_ld (by omega) hL dL_law_1467 ?_
  refine n_callV (mi' := miX12_laws) dL_law_1468 lL_189 mX12_laws (by decide) rfl rfl rfl (c_X12_laws (IM_ke h.2.1 k1) h.2.2.1 (fun M2 h2 k2 => ?_) 0) rfl rfl (by decide) (by decide) (Nat.le_of_ble_eq_true rfl)
  show AW _ _ _ _ _ _ _
  refine u_icmp_eq 1822 dL_law_1471 (by decide) (fun _ => ?_) (fun q => absurd rfl q)
  exact hnext _ _ (LI_1 h h1 h2 k2 (TI_laws h.2.2))

set_option maxRecDepth 100000 in
set_option maxHeartbeats 800000 in
theorem lw_c41 {b L i : Nat} {xs : Nat → Int32} {E : List Frame → State → State → Prop} {M : Mm} {T : TT} (hL : L ≤ 3072) (hi : i + 6 ≤ L) (hnext : ∀ M T, LI M T → AW miL 300 (lwX b L xs E) 1822 (lwL i) [] M) (h : LI M T) : AW miL 300 (lwX b L xs E) 1476 (lwL i) [] M := by
  refine a_aload_n rfl dL_law_1476 ?_
  refine a_aload_n rfl dL_law_1477 ?_
  refine a_iload_n rfl dL_law_1478 ?_
  refine n_iconst 1 rfl dL_law_1479 ?_
  refine n_iadd dL_law_1480 ?_
  refine s_ld (by omega) hL dL_law_1481 ?_
  refine a_aload_n rfl dL_law_1482 ?_
  refine a_iload_n rfl dL_law_1483 ?_
  refine n_iconst 2 rfl dL_law_1484 ?_
  refine n_iadd dL_law_1485 ?_
  refine s_ld (by omega) hL dL_law_1486 ?_
  refine a_aload_n rfl dL_law_1487 ?_
  refine a_iload_n rfl dL_law_1488 ?_
  refine n_iconst 3 rfl dL_law_1489 ?_
  refine n_iadd dL_law_1490 ?_
  refine s_ld (by omega) hL dL_law_1491 ?_
  refine n_callV (mi' := miX11_lawOf) dL_law_1492 lL_190 mX11_lawOf (by decide) rfl rfl rfl (c_X11_lawOf h.1 h.2.2.1 (fun M1 h1 k1 => ?_) 0) rfl rfl (by decide) (by decide) (Nat.le_of_ble_eq_true rfl)
  show AW _ _ _ _ _ _ _
  refine a_aload_n rfl dL_law_1495 ?_
  refine a_aload_n rfl dL_law_1496 ?_
  refine a_iload_n rfl dL_law_1497 ?_
  refine n_iconst 1 rfl dL_law_1498 ?_
  refine n_iadd dL_law_1499 ?_
  refine s_ld (by omega) hL dL_law_1500 ?_
  refine a_aload_n rfl dL_law_1501 ?_
  refine a_iload_n rfl dL_law_1502 ?_
  refine n_iconst 2 rfl dL_law_1503 ?_
  refine n_iadd dL_law_1504 ?_
  refine s_ld (by omega) hL dL_law_1505 ?_
  refine a_aload_n rfl dL_law_1506 ?_
  refine a_iload_n rfl dL_law_1507 ?_
  refine n_iconst 3 rfl dL_law_1508 ?_
  refine n_iadd dL_law_1509 ?_
  refine s_ld (by omega) hL dL_law_1510 ?_
  refine n_callV (mi' := miX12_lawOf) dL_law_1511 lL_193 mX12_lawOf (by decide) rfl rfl rfl (c_X12_lawOf (IM_ke h.2.1 k1) h.2.2.1 (fun M2 h2 k2 => ?_) 0) rfl rfl (by decide) (by decide) (Nat.le_of_ble_eq_true rfl)
  show AW _ _ _ _ _ _ _
  refine u_icmp_eq 1822 dL_law_1514 (by decide) (fun _ => ?_) (fun q => absurd rfl q)
  exact hnext _ _ (LI_1 h h1 h2 k2 (TI_lawOf h.2.2))

set_option maxRecDepth 100000 in
set_option maxHeartbeats 800000 in
theorem lw_c42 {b L i : Nat} {xs : Nat → Int32} {E : List Frame → State → State → Prop} {M : Mm} {T : TT} (hL : L ≤ 3072) (hi : i + 6 ≤ L) (hnext : ∀ M T, LI M T → AW miL 300 (lwX b L xs E) 1822 (lwL i) [] M) (h : LI M T) : AW miL 300 (lwX b L xs E) 1519 (lwL i) [] M := by
  refine a_aload_n rfl dL_law_1519 ?_
  refine a_aload_n rfl dL_law_1520 ?_
  refine a_iload_n rfl dL_law_1521 ?_
  refine n_iconst 1 rfl dL_law_1522 ?_
  refine n_iadd dL_law_1523 ?_
  refine s_ld (by omega) hL dL_law_1524 ?_
  refine a_aload_n rfl dL_law_1525 ?_
  refine a_iload_n rfl dL_law_1526 ?_
  refine n_iconst 2 rfl dL_law_1527 ?_
  refine n_iadd dL_law_1528 ?_
  refine s_ld (by omega) hL dL_law_1529 ?_
  refine n_callV (mi' := miX11_off) dL_law_1530 lL_194 mX11_off (by decide) rfl rfl rfl (c_X11_off h.1 h.2.2.1 (fun M1 h1 k1 => ?_) 0) rfl rfl (by decide) (by decide) (Nat.le_of_ble_eq_true rfl)
  show AW _ _ _ _ _ _ _
  refine a_aload_n rfl dL_law_1533 ?_
  refine a_aload_n rfl dL_law_1534 ?_
  refine a_iload_n rfl dL_law_1535 ?_
  refine n_iconst 1 rfl dL_law_1536 ?_
  refine n_iadd dL_law_1537 ?_
  refine s_ld (by omega) hL dL_law_1538 ?_
  refine a_aload_n rfl dL_law_1539 ?_
  refine a_iload_n rfl dL_law_1540 ?_
  refine n_iconst 2 rfl dL_law_1541 ?_
  refine n_iadd dL_law_1542 ?_
  refine s_ld (by omega) hL dL_law_1543 ?_
  refine n_callV (mi' := miX12_off) dL_law_1544 lL_198 mX12_off (by decide) rfl rfl rfl (c_X12_off (IM_ke h.2.1 k1) h.2.2.1 (fun M2 h2 k2 => ?_) 0) rfl rfl (by decide) (by decide) (Nat.le_of_ble_eq_true rfl)
  show AW _ _ _ _ _ _ _
  refine u_icmp_eq 1822 dL_law_1547 (by decide) (fun _ => ?_) (fun q => absurd rfl q)
  exact hnext _ _ (LI_1 h h1 h2 k2 (TI_off h.2.2))

set_option maxRecDepth 100000 in
set_option maxHeartbeats 800000 in
theorem lw_c43 {b L i : Nat} {xs : Nat → Int32} {E : List Frame → State → State → Prop} {M : Mm} {T : TT} (hL : L ≤ 3072) (hi : i + 6 ≤ L) (hnext : ∀ M T, LI M T → AW miL 300 (lwX b L xs E) 1822 (lwL i) [] M) (h : LI M T) : AW miL 300 (lwX b L xs E) 1552 (lwL i) [] M := by
  refine a_aload_n rfl dL_law_1552 ?_
  refine a_aload_n rfl dL_law_1553 ?_
  refine a_iload_n rfl dL_law_1554 ?_
  refine n_iconst 1 rfl dL_law_1555 ?_
  refine n_iadd dL_law_1556 ?_
  refine s_ld (by omega) hL dL_law_1557 ?_
  refine a_aload_n rfl dL_law_1558 ?_
  refine a_iload_n rfl dL_law_1559 ?_
  refine n_iconst 2 rfl dL_law_1560 ?_
  refine n_iadd dL_law_1561 ?_
  refine s_ld (by omega) hL dL_law_1562 ?_
  refine n_callV (mi' := miX11_stay) dL_law_1563 lL_199 mX11_stay (by decide) rfl rfl rfl (c_X11_stay h.1 h.2.2.1 (fun M1 h1 k1 => ?_) 0) rfl rfl (by decide) (by decide) (Nat.le_of_ble_eq_true rfl)
  show AW _ _ _ _ _ _ _
  refine a_aload_n rfl dL_law_1566 ?_
  refine a_aload_n rfl dL_law_1567 ?_
  refine a_iload_n rfl dL_law_1568 ?_
  refine n_iconst 1 rfl dL_law_1569 ?_
  refine n_iadd dL_law_1570 ?_
  refine s_ld (by omega) hL dL_law_1571 ?_
  refine a_aload_n rfl dL_law_1572 ?_
  refine a_iload_n rfl dL_law_1573 ?_
  refine n_iconst 2 rfl dL_law_1574 ?_
  refine n_iadd dL_law_1575 ?_
  refine s_ld (by omega) hL dL_law_1576 ?_
  refine n_callV (mi' := miX12_stay) dL_law_1577 lL_202 mX12_stay (by decide) rfl rfl rfl (c_X12_stay (IM_ke h.2.1 k1) h.2.2.1 (fun M2 h2 k2 => ?_) 0) rfl rfl (by decide) (by decide) (Nat.le_of_ble_eq_true rfl)
  show AW _ _ _ _ _ _ _
  refine u_icmp_eq 1822 dL_law_1580 (by decide) (fun _ => ?_) (fun q => absurd rfl q)
  exact hnext _ _ (LI_1 h h1 h2 k2 (TI_stay h.2.2))

set_option maxRecDepth 100000 in
set_option maxHeartbeats 800000 in
theorem lw_c44 {b L i : Nat} {xs : Nat → Int32} {E : List Frame → State → State → Prop} {M : Mm} {T : TT} (hL : L ≤ 3072) (hi : i + 6 ≤ L) (hnext : ∀ M T, LI M T → AW miL 300 (lwX b L xs E) 1822 (lwL i) [] M) (h : LI M T) : AW miL 300 (lwX b L xs E) 1585 (lwL i) [] M := by
  refine a_aload_n rfl dL_law_1585 ?_
  refine a_aload_n rfl dL_law_1586 ?_
  refine a_iload_n rfl dL_law_1587 ?_
  refine n_iconst 1 rfl dL_law_1588 ?_
  refine n_iadd dL_law_1589 ?_
  refine s_ld (by omega) hL dL_law_1590 ?_
  refine a_aload_n rfl dL_law_1591 ?_
  refine a_iload_n rfl dL_law_1592 ?_
  refine n_iconst 2 rfl dL_law_1593 ?_
  refine n_iadd dL_law_1594 ?_
  refine s_ld (by omega) hL dL_law_1595 ?_
  refine a_aload_n rfl dL_law_1596 ?_
  refine a_iload_n rfl dL_law_1597 ?_
  refine n_iconst 3 rfl dL_law_1598 ?_
  refine n_iadd dL_law_1599 ?_
  refine s_ld (by omega) hL dL_law_1600 ?_
  refine n_callV (mi' := miX11_game) dL_law_1601 lL_203 mX11_game (by decide) rfl rfl rfl (c_X11_game h.1 h.2.2.1 (fun M1 h1 k1 => ?_) 0) rfl rfl (by decide) (by decide) (Nat.le_of_ble_eq_true rfl)
  show AW _ _ _ _ _ _ _
  refine a_aload_n rfl dL_law_1604 ?_
  refine a_aload_n rfl dL_law_1605 ?_
  refine a_iload_n rfl dL_law_1606 ?_
  refine n_iconst 1 rfl dL_law_1607 ?_
  refine n_iadd dL_law_1608 ?_
  refine s_ld (by omega) hL dL_law_1609 ?_
  refine a_aload_n rfl dL_law_1610 ?_
  refine a_iload_n rfl dL_law_1611 ?_
  refine n_iconst 2 rfl dL_law_1612 ?_
  refine n_iadd dL_law_1613 ?_
  refine s_ld (by omega) hL dL_law_1614 ?_
  refine a_aload_n rfl dL_law_1615 ?_
  refine a_iload_n rfl dL_law_1616 ?_
  refine n_iconst 3 rfl dL_law_1617 ?_
  refine n_iadd dL_law_1618 ?_
  refine s_ld (by omega) hL dL_law_1619 ?_
  refine n_callV (mi' := miX12_game) dL_law_1620 lL_206 mX12_game (by decide) rfl rfl rfl (c_X12_game (IM_ke h.2.1 k1) h.2.2.1 (fun M2 h2 k2 => ?_) 0) rfl rfl (by decide) (by decide) (Nat.le_of_ble_eq_true rfl)
  show AW _ _ _ _ _ _ _
  refine u_icmp_eq 1822 dL_law_1623 (by decide) (fun _ => ?_) (fun q => absurd rfl q)
  exact hnext _ _ (LI_1 h h1 h2 k2 (TI_game h.2.2))

set_option maxRecDepth 100000 in
set_option maxHeartbeats 800000 in
theorem lw_c45 {b L i : Nat} {xs : Nat → Int32} {E : List Frame → State → State → Prop} {M : Mm} {T : TT} (hL : L ≤ 3072) (hi : i + 6 ≤ L) (hnext : ∀ M T, LI M T → AW miL 300 (lwX b L xs E) 1822 (lwL i) [] M) (h : LI M T) : AW miL 300 (lwX b L xs E) 1628 (lwL i) [] M := by
  refine a_aload_n rfl dL_law_1628 ?_
  refine a_aload_n rfl dL_law_1629 ?_
  refine a_iload_n rfl dL_law_1630 ?_
  refine n_iconst 1 rfl dL_law_1631 ?_
  refine n_iadd dL_law_1632 ?_
  refine s_ld (by omega) hL dL_law_1633 ?_
  refine a_aload_n rfl dL_law_1634 ?_
  refine a_iload_n rfl dL_law_1635 ?_
  refine n_iconst 2 rfl dL_law_1636 ?_
  refine n_iadd dL_law_1637 ?_
  refine s_ld (by omega) hL dL_law_1638 ?_
  refine a_aload_n rfl dL_law_1639 ?_
  refine a_iload_n rfl dL_law_1640 ?_
  refine n_iconst 3 rfl dL_law_1641 ?_
  refine n_iadd dL_law_1642 ?_
  refine s_ld (by omega) hL dL_law_1643 ?_
  refine n_callV (mi' := miX11_moveOf) dL_law_1644 lL_207 mX11_moveOf (by decide) rfl rfl rfl (c_X11_moveOf h.1 h.2.2.1 (fun M1 h1 k1 => ?_) 0) rfl rfl (by decide) (by decide) (Nat.le_of_ble_eq_true rfl)
  show AW _ _ _ _ _ _ _
  refine a_aload_n rfl dL_law_1647 ?_
  refine a_aload_n rfl dL_law_1648 ?_
  refine a_iload_n rfl dL_law_1649 ?_
  refine n_iconst 1 rfl dL_law_1650 ?_
  refine n_iadd dL_law_1651 ?_
  refine s_ld (by omega) hL dL_law_1652 ?_
  refine a_aload_n rfl dL_law_1653 ?_
  refine a_iload_n rfl dL_law_1654 ?_
  refine n_iconst 2 rfl dL_law_1655 ?_
  refine n_iadd dL_law_1656 ?_
  refine s_ld (by omega) hL dL_law_1657 ?_
  refine a_aload_n rfl dL_law_1658 ?_
  refine a_iload_n rfl dL_law_1659 ?_
  refine n_iconst 3 rfl dL_law_1660 ?_
  refine n_iadd dL_law_1661 ?_
  refine s_ld (by omega) hL dL_law_1662 ?_
  refine n_callV (mi' := miX12_moveOf) dL_law_1663 lL_210 mX12_moveOf (by decide) rfl rfl rfl (c_X12_moveOf (IM_ke h.2.1 k1) h.2.2.1 (fun M2 h2 k2 => ?_) 0) rfl rfl (by decide) (by decide) (Nat.le_of_ble_eq_true rfl)
  show AW _ _ _ _ _ _ _
  refine u_icmp_eq 1822 dL_law_1666 (by decide) (fun _ => ?_) (fun q => absurd rfl q)
  exact hnext _ _ (LI_1 h h1 h2 k2 (TI_moveOf h.2.2))

set_option maxRecDepth 100000 in
set_option maxHeartbeats 800000 in
theorem lw_c46 {b L i : Nat} {xs : Nat → Int32} {E : List Frame → State → State → Prop} {M : Mm} {T : TT} (hL : L ≤ 3072) (hi : i + 6 ≤ L) (hnext : ∀ M T, LI M T → AW miL 300 (lwX b L xs E) 1822 (lwL i) [] M) (h : LI M T) : AW miL 300 (lwX b L xs E) 1671 (lwL i) [] M := by
  refine a_aload_n rfl dL_law_1671 ?_
  refine a_aload_n rfl dL_law_1672 ?_
  refine a_iload_n rfl dL_law_1673 ?_
  refine n_iconst 1 rfl dL_law_1674 ?_
  refine n_iadd dL_law_1675 ?_
  refine s_ld (by omega) hL dL_law_1676 ?_
  refine n_callV (mi' := miX11_lasts) dL_law_1677 lL_211 mX11_lasts (by decide) rfl rfl rfl (c_X11_lasts h.1 h.2.2.1 (fun M1 h1 k1 => ?_) 0) rfl rfl (by decide) (by decide) (Nat.le_of_ble_eq_true rfl)
  show AW _ _ _ _ _ _ _
  refine a_aload_n rfl dL_law_1680 ?_
  refine a_aload_n rfl dL_law_1681 ?_
  refine a_iload_n rfl dL_law_1682 ?_
  refine n_iconst 1 rfl dL_law_1683 ?_
  refine n_iadd dL_law_1684 ?_
  refine s_ld (by omega) hL dL_law_1685 ?_
  refine n_callV (mi' := miX12_lasts) dL_law_1686 lL_214 mX12_lasts (by decide) rfl rfl rfl (c_X12_lasts (IM_ke h.2.1 k1) h.2.2.1 (fun M2 h2 k2 => ?_) 0) rfl rfl (by decide) (by decide) (Nat.le_of_ble_eq_true rfl)
  show AW _ _ _ _ _ _ _
  refine u_icmp_eq 1822 dL_law_1689 (by decide) (fun _ => ?_) (fun q => absurd rfl q)
  exact hnext _ _ (LI_1 h h1 h2 k2 (TI_lasts h.2.2))

set_option maxRecDepth 100000 in
set_option maxHeartbeats 800000 in
theorem lw_c47 {b L i : Nat} {xs : Nat → Int32} {E : List Frame → State → State → Prop} {M : Mm} {T : TT} (hL : L ≤ 3072) (hi : i + 6 ≤ L) (hnext : ∀ M T, LI M T → AW miL 300 (lwX b L xs E) 1822 (lwL i) [] M) (h : LI M T) : AW miL 300 (lwX b L xs E) 1694 (lwL i) [] M := by
  refine a_aload_n rfl dL_law_1694 ?_
  refine a_aload_n rfl dL_law_1695 ?_
  refine a_iload_n rfl dL_law_1696 ?_
  refine n_iconst 1 rfl dL_law_1697 ?_
  refine n_iadd dL_law_1698 ?_
  refine s_ld (by omega) hL dL_law_1699 ?_
  refine n_callV (mi' := miX11_share) dL_law_1700 lL_215 mX11_share (by decide) rfl rfl rfl (c_X11_share h.1 h.2.2.1 (fun M1 h1 k1 => ?_) 0) rfl rfl (by decide) (by decide) (Nat.le_of_ble_eq_true rfl)
  show AW _ _ _ _ _ _ _
  refine a_aload_n rfl dL_law_1703 ?_
  refine a_aload_n rfl dL_law_1704 ?_
  refine a_iload_n rfl dL_law_1705 ?_
  refine n_iconst 1 rfl dL_law_1706 ?_
  refine n_iadd dL_law_1707 ?_
  refine s_ld (by omega) hL dL_law_1708 ?_
  refine n_callV (mi' := miX12_share) dL_law_1709 lL_218 mX12_share (by decide) rfl rfl rfl (c_X12_share (IM_ke h.2.1 k1) h.2.2.1 (fun M2 h2 k2 => ?_) 0) rfl rfl (by decide) (by decide) (Nat.le_of_ble_eq_true rfl)
  show AW _ _ _ _ _ _ _
  refine u_icmp_eq 1822 dL_law_1712 (by decide) (fun _ => ?_) (fun q => absurd rfl q)
  exact hnext _ _ (LI_1 h h1 h2 k2 (TI_share h.2.2))

set_option maxRecDepth 100000 in
set_option maxHeartbeats 800000 in
theorem lw_c48 {b L i : Nat} {xs : Nat → Int32} {E : List Frame → State → State → Prop} {M : Mm} {T : TT} (hL : L ≤ 3072) (hi : i + 6 ≤ L) (hnext : ∀ M T, LI M T → AW miL 300 (lwX b L xs E) 1822 (lwL i) [] M) (h : LI M T) : AW miL 300 (lwX b L xs E) 1717 (lwL i) [] M := by
  refine a_aload_n rfl dL_law_1717 ?_
  refine a_aload_n rfl dL_law_1718 ?_
  refine a_iload_n rfl dL_law_1719 ?_
  refine n_iconst 1 rfl dL_law_1720 ?_
  refine n_iadd dL_law_1721 ?_
  refine s_ld (by omega) hL dL_law_1722 ?_
  refine n_callV (mi' := miX11_live) dL_law_1723 lL_219 mX11_live (by decide) rfl rfl rfl (c_X11_live h.1 h.2.2.1 (fun M1 h1 k1 => ?_) 0) rfl rfl (by decide) (by decide) (Nat.le_of_ble_eq_true rfl)
  show AW _ _ _ _ _ _ _
  refine a_aload_n rfl dL_law_1726 ?_
  refine a_aload_n rfl dL_law_1727 ?_
  refine a_iload_n rfl dL_law_1728 ?_
  refine n_iconst 1 rfl dL_law_1729 ?_
  refine n_iadd dL_law_1730 ?_
  refine s_ld (by omega) hL dL_law_1731 ?_
  refine n_callV (mi' := miX12_live) dL_law_1732 lL_222 mX12_live (by decide) rfl rfl rfl (c_X12_live (IM_ke h.2.1 k1) h.2.2.1 (fun M2 h2 k2 => ?_) 0) rfl rfl (by decide) (by decide) (Nat.le_of_ble_eq_true rfl)
  show AW _ _ _ _ _ _ _
  refine u_icmp_eq 1822 dL_law_1735 (by decide) (fun _ => ?_) (fun q => absurd rfl q)
  exact hnext _ _ (LI_1 h h1 h2 k2 (TI_live h.2.2))

set_option maxRecDepth 100000 in
set_option maxHeartbeats 800000 in
theorem lw_c49 {b L i : Nat} {xs : Nat → Int32} {E : List Frame → State → State → Prop} {M : Mm} {T : TT} (hL : L ≤ 3072) (hi : i + 6 ≤ L) (hnext : ∀ M T, LI M T → AW miL 300 (lwX b L xs E) 1822 (lwL i) [] M) (h : LI M T) : AW miL 300 (lwX b L xs E) 1740 (lwL i) [] M := by
  refine a_aload_n rfl dL_law_1740 ?_
  refine a_aload_n rfl dL_law_1741 ?_
  refine a_iload_n rfl dL_law_1742 ?_
  refine n_iconst 1 rfl dL_law_1743 ?_
  refine n_iadd dL_law_1744 ?_
  refine s_ld (by omega) hL dL_law_1745 ?_
  refine n_callV (mi' := miX11_lived) dL_law_1746 lL_223 mX11_lived (by decide) rfl rfl rfl (c_X11_lived h.1 h.2.2.1 (fun M1 h1 k1 => ?_) 0) rfl rfl (by decide) (by decide) (Nat.le_of_ble_eq_true rfl)
  show AW _ _ _ _ _ _ _
  refine a_aload_n rfl dL_law_1749 ?_
  refine a_aload_n rfl dL_law_1750 ?_
  refine a_iload_n rfl dL_law_1751 ?_
  refine n_iconst 1 rfl dL_law_1752 ?_
  refine n_iadd dL_law_1753 ?_
  refine s_ld (by omega) hL dL_law_1754 ?_
  refine n_callV (mi' := miX12_lived) dL_law_1755 lL_226 mX12_lived (by decide) rfl rfl rfl (c_X12_lived (IM_ke h.2.1 k1) h.2.2.1 (fun M2 h2 k2 => ?_) 0) rfl rfl (by decide) (by decide) (Nat.le_of_ble_eq_true rfl)
  show AW _ _ _ _ _ _ _
  refine u_icmp_eq 1822 dL_law_1758 (by decide) (fun _ => ?_) (fun q => absurd rfl q)
  exact hnext _ _ (LI_1 h h1 h2 k2 (TI_lived h.2.2))

set_option maxRecDepth 100000 in
set_option maxHeartbeats 800000 in
theorem lw_c50 {b L i : Nat} {xs : Nat → Int32} {E : List Frame → State → State → Prop} {M : Mm} {T : TT} (hL : L ≤ 3072) (hi : i + 6 ≤ L) (hnext : ∀ M T, LI M T → AW miL 300 (lwX b L xs E) 1822 (lwL i) [] M) (h : LI M T) : AW miL 300 (lwX b L xs E) 1763 (lwL i) [] M := by
  refine a_aload_n rfl dL_law_1763 ?_
  refine a_aload_n rfl dL_law_1764 ?_
  refine a_iload_n rfl dL_law_1765 ?_
  refine n_iconst 1 rfl dL_law_1766 ?_
  refine n_iadd dL_law_1767 ?_
  refine s_ld (by omega) hL dL_law_1768 ?_
  refine a_aload_n rfl dL_law_1769 ?_
  refine a_iload_n rfl dL_law_1770 ?_
  refine n_iconst 2 rfl dL_law_1771 ?_
  refine n_iadd dL_law_1772 ?_
  refine s_ld (by omega) hL dL_law_1773 ?_
  refine n_callV (mi' := miX11_mean) dL_law_1774 lL_227 mX11_mean (by decide) rfl rfl rfl (c_X11_mean h.1 h.2.2.1 (fun M1 h1 k1 => ?_) 0) rfl rfl (by decide) (by decide) (Nat.le_of_ble_eq_true rfl)
  show AW _ _ _ _ _ _ _
  refine a_aload_n rfl dL_law_1777 ?_
  refine a_aload_n rfl dL_law_1778 ?_
  refine a_iload_n rfl dL_law_1779 ?_
  refine n_iconst 1 rfl dL_law_1780 ?_
  refine n_iadd dL_law_1781 ?_
  refine s_ld (by omega) hL dL_law_1782 ?_
  refine a_aload_n rfl dL_law_1783 ?_
  refine a_iload_n rfl dL_law_1784 ?_
  refine n_iconst 2 rfl dL_law_1785 ?_
  refine n_iadd dL_law_1786 ?_
  refine s_ld (by omega) hL dL_law_1787 ?_
  refine n_callV (mi' := miX12_mean) dL_law_1788 lL_230 mX12_mean (by decide) rfl rfl rfl (c_X12_mean (IM_ke h.2.1 k1) h.2.2.1 (fun M2 h2 k2 => ?_) 0) rfl rfl (by decide) (by decide) (Nat.le_of_ble_eq_true rfl)
  show AW _ _ _ _ _ _ _
  refine u_icmp_eq 1822 dL_law_1791 (by decide) (fun _ => ?_) (fun q => absurd rfl q)
  exact hnext _ _ (LI_1 h h1 h2 k2 (TI_mean h.2.2))

set_option maxRecDepth 100000 in
set_option maxHeartbeats 800000 in
theorem lw_c51 {b L i : Nat} {xs : Nat → Int32} {E : List Frame → State → State → Prop} {M : Mm} {T : TT} (hL : L ≤ 3072) (hi : i + 6 ≤ L) (hnext : ∀ M T, LI M T → AW miL 300 (lwX b L xs E) 1822 (lwL i) [] M) (h : LI M T) : AW miL 300 (lwX b L xs E) 1796 (lwL i) [] M := by
  refine a_aload_n rfl dL_law_1796 ?_
  refine n_callV (mi' := miX11_mark) dL_law_1797 lL_231 mX11_mark (by decide) rfl rfl rfl (c_X11_mark h.1 h.2.2.1 (fun M1 h1 k1 => ?_) 0) rfl rfl (by decide) (by decide) (Nat.le_of_ble_eq_true rfl)
  show AW _ _ _ _ _ _ _
  refine a_aload_n rfl dL_law_1800 ?_
  refine n_callV (mi' := miX12_mark) dL_law_1801 lL_234 mX12_mark (by decide) rfl rfl rfl (c_X12_mark (IM_ke h.2.1 k1) h.2.2.1 (fun M2 h2 k2 => ?_) 0) rfl rfl (by decide) (by decide) (Nat.le_of_ble_eq_true rfl)
  show AW _ _ _ _ _ _ _
  refine u_icmp_eq 1822 dL_law_1804 (by decide) (fun _ => ?_) (fun q => absurd rfl q)
  exact hnext _ _ (LI_1 h h1 h2 k2 (TI_mark h.2.2))

set_option maxRecDepth 100000 in
set_option maxHeartbeats 800000 in
theorem lw_c52 {b L i : Nat} {xs : Nat → Int32} {E : List Frame → State → State → Prop} {M : Mm} {T : TT} (hL : L ≤ 3072) (hi : i + 6 ≤ L) (hnext : ∀ M T, LI M T → AW miL 300 (lwX b L xs E) 1822 (lwL i) [] M) (h : LI M T) : AW miL 300 (lwX b L xs E) 1809 (lwL i) [] M := by
  refine a_aload_n rfl dL_law_1809 ?_
  refine n_callV (mi' := miX11_back) dL_law_1810 lL_235 mX11_back (by decide) rfl rfl rfl (c_X11_back h.1 h.2.2.1 (fun M1 h1 k1 => ?_) 0) rfl rfl (by decide) (by decide) (Nat.le_of_ble_eq_true rfl)
  show AW _ _ _ _ _ _ _
  refine a_aload_n rfl dL_law_1813 ?_
  refine n_callV (mi' := miX12_back) dL_law_1814 lL_238 mX12_back (by decide) rfl rfl rfl (c_X12_back (IM_ke h.2.1 k1) h.2.2.1 (fun M2 h2 k2 => ?_) 0) rfl rfl (by decide) (by decide) (Nat.le_of_ble_eq_true rfl)
  show AW _ _ _ _ _ _ _
  refine u_icmp_eq 1822 dL_law_1817 (by decide) (fun _ => ?_) (fun q => absurd rfl q)
  exact hnext _ _ (LI_1 h h1 h2 k2 (TI_back h.2.2))

set_option maxRecDepth 100000 in
set_option maxHeartbeats 800000 in
theorem lw_sw {b L i : Nat} {xs : Nat → Int32} {E : List Frame → State → State → Prop} {M : Mm} {T : TT} {y : Int32} (hL : L ≤ 3072) (hi : i + 6 ≤ L) (hnext : ∀ M T, LI M T → AW miL 300 (lwX b L xs E) 1822 (lwL i) [] M) (h : LI M T) : AW miL 300 (lwX b L xs E) 33 (lwL i) [.int y] M := by
  by_cases hs_0 : y.toInt = 0
  · exact a_tabIn 260 dL_law_33 (by omega) (by omega) (by rw [hs_0]; rfl) (by decide) (lw_c0 hL hi hnext h)
  by_cases hs_1 : y.toInt = 1
  · exact a_tabIn 273 dL_law_33 (by omega) (by omega) (by rw [hs_1]; rfl) (by decide) (lw_c1 hL hi hnext h)
  by_cases hs_2 : y.toInt = 2
  · exact a_tabIn 287 dL_law_33 (by omega) (by omega) (by rw [hs_2]; rfl) (by decide) (lw_c2 hL hi hnext h)
  by_cases hs_3 : y.toInt = 3
  · exact a_tabIn 301 dL_law_33 (by omega) (by omega) (by rw [hs_3]; rfl) (by decide) (lw_c3 hL hi hnext h)
  by_cases hs_4 : y.toInt = 4
  · exact a_tabIn 344 dL_law_33 (by omega) (by omega) (by rw [hs_4]; rfl) (by decide) (lw_c4 hL hi hnext h)
  by_cases hs_5 : y.toInt = 5
  · exact a_tabIn 417 dL_law_33 (by omega) (by omega) (by rw [hs_5]; rfl) (by decide) (lw_c5 hL hi hnext h)
  by_cases hs_6 : y.toInt = 6
  · exact a_tabIn 451 dL_law_33 (by omega) (by omega) (by rw [hs_6]; rfl) (by decide) (lw_c6 hL hi hnext h)
  by_cases hs_7 : y.toInt = 7
  · exact a_tabIn 514 dL_law_33 (by omega) (by omega) (by rw [hs_7]; rfl) (by decide) (lw_c7 hL hi hnext h)
  by_cases hs_8 : y.toInt = 8
  · exact a_tabIn 577 dL_law_33 (by omega) (by omega) (by rw [hs_8]; rfl) (by decide) (lw_c8 hL hi hnext h)
  by_cases hs_9 : y.toInt = 9
  · exact a_tabIn 600 dL_law_33 (by omega) (by omega) (by rw [hs_9]; rfl) (by decide) (lw_c9 hL hi hnext h)
  by_cases hs_10 : y.toInt = 10
  · exact a_tabIn 623 dL_law_33 (by omega) (by omega) (by rw [hs_10]; rfl) (by decide) (lw_c10 hL hi hnext h)
  by_cases hs_11 : y.toInt = 11
  · exact a_tabIn 646 dL_law_33 (by omega) (by omega) (by rw [hs_11]; rfl) (by decide) (lw_c11 hL hi hnext h)
  by_cases hs_12 : y.toInt = 12
  · exact a_tabIn 669 dL_law_33 (by omega) (by omega) (by rw [hs_12]; rfl) (by decide) (lw_c12 hL hi hnext h)
  by_cases hs_13 : y.toInt = 13
  · exact a_tabIn 702 dL_law_33 (by omega) (by omega) (by rw [hs_13]; rfl) (by decide) (lw_c13 hL hi hnext h)
  by_cases hs_14 : y.toInt = 14
  · exact a_tabIn 735 dL_law_33 (by omega) (by omega) (by rw [hs_14]; rfl) (by decide) (lw_c14 hL hi hnext h)
  by_cases hs_15 : y.toInt = 15
  · exact a_tabIn 768 dL_law_33 (by omega) (by omega) (by rw [hs_15]; rfl) (by decide) (lw_c15 hL hi hnext h)
  by_cases hs_16 : y.toInt = 16
  · exact a_tabIn 801 dL_law_33 (by omega) (by omega) (by rw [hs_16]; rfl) (by decide) (lw_c16 hL hi hnext h)
  by_cases hs_17 : y.toInt = 17
  · exact a_tabIn 824 dL_law_33 (by omega) (by omega) (by rw [hs_17]; rfl) (by decide) (lw_c17 hL hi hnext h)
  by_cases hs_18 : y.toInt = 18
  · exact a_tabIn 847 dL_law_33 (by omega) (by omega) (by rw [hs_18]; rfl) (by decide) (lw_c18 hL hi hnext h)
  by_cases hs_19 : y.toInt = 19
  · exact a_tabIn 870 dL_law_33 (by omega) (by omega) (by rw [hs_19]; rfl) (by decide) (lw_c19 hL hi hnext h)
  by_cases hs_20 : y.toInt = 20
  · exact a_tabIn 903 dL_law_33 (by omega) (by omega) (by rw [hs_20]; rfl) (by decide) (lw_c20 hL hi hnext h)
  by_cases hs_21 : y.toInt = 21
  · exact a_tabIn 936 dL_law_33 (by omega) (by omega) (by rw [hs_21]; rfl) (by decide) (lw_c21 hL hi hnext h)
  by_cases hs_22 : y.toInt = 22
  · exact a_tabIn 979 dL_law_33 (by omega) (by omega) (by rw [hs_22]; rfl) (by decide) (lw_c22 hL hi hnext h)
  by_cases hs_23 : y.toInt = 23
  · exact a_tabIn 1012 dL_law_33 (by omega) (by omega) (by rw [hs_23]; rfl) (by decide) (lw_c23 hL hi hnext h)
  by_cases hs_24 : y.toInt = 24
  · exact a_tabIn 1045 dL_law_33 (by omega) (by omega) (by rw [hs_24]; rfl) (by decide) (lw_c24 hL hi hnext h)
  by_cases hs_25 : y.toInt = 25
  · exact a_tabIn 1068 dL_law_33 (by omega) (by omega) (by rw [hs_25]; rfl) (by decide) (lw_c25 hL hi hnext h)
  by_cases hs_26 : y.toInt = 26
  · exact a_tabIn 1101 dL_law_33 (by omega) (by omega) (by rw [hs_26]; rfl) (by decide) (lw_c26 hL hi hnext h)
  by_cases hs_27 : y.toInt = 27
  · exact a_tabIn 1124 dL_law_33 (by omega) (by omega) (by rw [hs_27]; rfl) (by decide) (lw_c27 hL hi hnext h)
  by_cases hs_28 : y.toInt = 28
  · exact a_tabIn 1157 dL_law_33 (by omega) (by omega) (by rw [hs_28]; rfl) (by decide) (lw_c28 hL hi hnext h)
  by_cases hs_29 : y.toInt = 29
  · exact a_tabIn 1190 dL_law_33 (by omega) (by omega) (by rw [hs_29]; rfl) (by decide) (lw_c29 hL hi hnext h)
  by_cases hs_30 : y.toInt = 30
  · exact a_tabIn 1213 dL_law_33 (by omega) (by omega) (by rw [hs_30]; rfl) (by decide) (lw_c30 hL hi hnext h)
  by_cases hs_31 : y.toInt = 31
  · exact a_tabIn 1236 dL_law_33 (by omega) (by omega) (by rw [hs_31]; rfl) (by decide) (lw_c31 hL hi hnext h)
  by_cases hs_32 : y.toInt = 32
  · exact a_tabIn 1259 dL_law_33 (by omega) (by omega) (by rw [hs_32]; rfl) (by decide) (lw_c32 hL hi hnext h)
  by_cases hs_33 : y.toInt = 33
  · exact a_tabIn 1272 dL_law_33 (by omega) (by omega) (by rw [hs_33]; rfl) (by decide) (lw_c33 hL hi hnext h)
  by_cases hs_34 : y.toInt = 34
  · exact a_tabIn 1285 dL_law_33 (by omega) (by omega) (by rw [hs_34]; rfl) (by decide) (lw_c34 hL hi hnext h)
  by_cases hs_35 : y.toInt = 35
  · exact a_tabIn 1298 dL_law_33 (by omega) (by omega) (by rw [hs_35]; rfl) (by decide) (lw_c35 hL hi hnext h)
  by_cases hs_36 : y.toInt = 36
  · exact a_tabIn 1311 dL_law_33 (by omega) (by omega) (by rw [hs_36]; rfl) (by decide) (lw_c36 hL hi hnext h)
  by_cases hs_37 : y.toInt = 37
  · exact a_tabIn 1334 dL_law_33 (by omega) (by omega) (by rw [hs_37]; rfl) (by decide) (lw_c37 hL hi hnext h)
  by_cases hs_38 : y.toInt = 38
  · exact a_tabIn 1357 dL_law_33 (by omega) (by omega) (by rw [hs_38]; rfl) (by decide) (lw_c38 hL hi hnext h)
  by_cases hs_39 : y.toInt = 39
  · exact a_tabIn 1400 dL_law_33 (by omega) (by omega) (by rw [hs_39]; rfl) (by decide) (lw_c39 hL hi hnext h)
  by_cases hs_40 : y.toInt = 40
  · exact a_tabIn 1443 dL_law_33 (by omega) (by omega) (by rw [hs_40]; rfl) (by decide) (lw_c40 hL hi hnext h)
  by_cases hs_41 : y.toInt = 41
  · exact a_tabIn 1476 dL_law_33 (by omega) (by omega) (by rw [hs_41]; rfl) (by decide) (lw_c41 hL hi hnext h)
  by_cases hs_42 : y.toInt = 42
  · exact a_tabIn 1519 dL_law_33 (by omega) (by omega) (by rw [hs_42]; rfl) (by decide) (lw_c42 hL hi hnext h)
  by_cases hs_43 : y.toInt = 43
  · exact a_tabIn 1552 dL_law_33 (by omega) (by omega) (by rw [hs_43]; rfl) (by decide) (lw_c43 hL hi hnext h)
  by_cases hs_44 : y.toInt = 44
  · exact a_tabIn 1585 dL_law_33 (by omega) (by omega) (by rw [hs_44]; rfl) (by decide) (lw_c44 hL hi hnext h)
  by_cases hs_45 : y.toInt = 45
  · exact a_tabIn 1628 dL_law_33 (by omega) (by omega) (by rw [hs_45]; rfl) (by decide) (lw_c45 hL hi hnext h)
  by_cases hs_46 : y.toInt = 46
  · exact a_tabIn 1671 dL_law_33 (by omega) (by omega) (by rw [hs_46]; rfl) (by decide) (lw_c46 hL hi hnext h)
  by_cases hs_47 : y.toInt = 47
  · exact a_tabIn 1694 dL_law_33 (by omega) (by omega) (by rw [hs_47]; rfl) (by decide) (lw_c47 hL hi hnext h)
  by_cases hs_48 : y.toInt = 48
  · exact a_tabIn 1717 dL_law_33 (by omega) (by omega) (by rw [hs_48]; rfl) (by decide) (lw_c48 hL hi hnext h)
  by_cases hs_49 : y.toInt = 49
  · exact a_tabIn 1740 dL_law_33 (by omega) (by omega) (by rw [hs_49]; rfl) (by decide) (lw_c49 hL hi hnext h)
  by_cases hs_50 : y.toInt = 50
  · exact a_tabIn 1763 dL_law_33 (by omega) (by omega) (by rw [hs_50]; rfl) (by decide) (lw_c50 hL hi hnext h)
  by_cases hs_51 : y.toInt = 51
  · exact a_tabIn 1796 dL_law_33 (by omega) (by omega) (by rw [hs_51]; rfl) (by decide) (lw_c51 hL hi hnext h)
  by_cases hs_52 : y.toInt = 52
  · exact a_tabIn 1809 dL_law_33 (by omega) (by omega) (by rw [hs_52]; rfl) (by decide) (lw_c52 hL hi hnext h)
  exact a_tabOut 1822 dL_law_33 (by omega) (by decide) (hnext _ _ h)
theorem lw_loop {b L : Nat} {xs : Nat → Int32} {E : List Frame → State → State → Prop} (hL : L ≤ 3072) (hend : ∀ i M, AW miL 300 (lwX b L xs E) 1828 (lwL i) [] M) : ∀ (f i : Nat) (M : Mm) (T : TT), L ≤ i + f → i ≤ L + 6 → LI M T → AW miL 300 (lwX b L xs E) 18 (lwL i) [] M := by
  have key : ∀ (f i : Nat) (M : Mm) (T : TT), i ≤ L + 6 → LI M T → (∀ M T, i + 6 ≤ L → LI M T → AW miL 300 (lwX b L xs E) 1822 (lwL i) [] M) → AW miL 300 (lwX b L xs E) 18 (lwL i) [] M := by
    intro f i M T hi h hn
    refine a_iload_n rfl dL_law_18 ?_
    refine a_aload_n rfl dL_law_19 ?_
    refine s_len dL_law_20 ?_
    refine n_bipush 6 rfl dL_law_21 ?_
    refine a_isub dL_law_23 ?_
    refine u_icmp_gt 1828 dL_law_24 (by decide) (fun _ => hend i M) (fun q => ?_)
    have e1 := pk_sub_toInt (a := L) (b := 6) (by omega) (by omega)
    have e2 : (nI i).toInt = (i : Int) := nI_toInt (by omega)
    have hle : i + 6 ≤ L := by omega
    refine a_aload_n rfl dL_law_27 ?_
    refine a_iload_n rfl dL_law_28 ?_
    refine s_ld (by omega) hL dL_law_29 ?_
    refine n_bipush 63 rfl dL_law_30 ?_
    refine a_iand dL_law_32 ?_
    exact lw_sw hL hle (fun M T h => hn M T hle h) h
  intro f
  induction f with
  | zero =>
    intro i M T h1 h2 h
    exact key 0 i M T h2 h (fun M T hle _ => absurd hle (by omega))
  | succ f ih =>
    intro i M T h1 h2 h
    refine key f i M T h2 h (fun M T hle h => ?_)
    refine n_iinc (c := 6) rfl rfl (by decide) rfl dL_law_1822 ?_
    refine a_goto 18 dL_law_1825 (by decide) ?_
    exact a_bk (ih (i + 6) M T (by omega) (by omega) h) ⟨rfl, rfl, rfl, rfl, trivial⟩
