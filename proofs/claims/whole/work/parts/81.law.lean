/-! the law's branches -/
section ZLAW
variable {p : Program} {l : Launch} {e : Env} {s : State} {m : MethodId} {below : List Frame} {meth : Method} {c : Code} {H : Heap} {locs : List Loc} {cells slots : Nat} {Q : State → Prop} {g : zG} {b L i x mo oa : Nat} {xs : Nat → Int32} {ar : Nat → Nat} {ls : Array Slot}

set_option maxRecDepth 100000 in
set_option maxHeartbeats 4000000 in
theorem k_law_isOpened (C0 : zLC p l s m c b L xs) (hi : i + 4 ≤ L) (hc : cells + 10 ≤ 601024) (hs : slots + 300 ≤ 7293034) (I0 : zLI g s b x mo oa ar i H locs ls)
    (K : ∀ (H : Heap) (locs : List Loc) (ls : Array Slot), zLI g s b x mo oa ar i H locs ls → W p l e room_1 s m #[Value.ref b] below meth c H locs (cells + 10) (slots + 300) Q (F0 m 1239 ls [])) : W p l e room_1 s m #[Value.ref b] below meth c H locs cells slots Q (F0 m 356 ls []) := by
  obtain ⟨hst, C, hX, hbl, hL⟩ := C0
  obtain ⟨S, M, T, hT, hF, ho, ho1, hM, I, hl⟩ := I0
  have hx := C.1
  have hb := C.2.1
  have hbA : ¬ (fun q : Nat => s.heap.size ≤ q) b := Nat.not_le.mpr hbl
  refine lv_aload_n hx hb dL_law_356 rfl (lv_at hl 1 rfl) ?_
  refine lv_aload_n hx hb dL_law_357 rfl (lv_at hl 0 rfl) ?_
  refine lv_iload hx hb dL_law_358 (lv_at hl 4 rfl) ?_
  refine lv_iconst (v := 1) hx hb dL_law_360 (by decide) ?_
  refine lv_iadd hx hb dL_law_361 ?_
  refine zr_top (y := nI (i + 1)) (nI_add i 1) ?_
  refine va_sld hx hb hX hbl hbA I.S (vp_in_nI (n := i + 1) (by omega) (by omega)) dL_law_362 ?_
  refine lv_topi (fun i1 e1 => ?_)
  refine lv_aload_n hx hb dL_law_363 rfl (lv_at hl 3 rfl) ?_
  have hcb : zc_prom T i1 ≤ 3 := zb_prom T i1
  refine zc_SH (n := 3) (rest := []) C I (k_L_isOpened l g hst S T x oa i1 hT hF ho ho1) zm_332 zm_333 zm_23 zm_334 rfl hl.1 dL_law_364 (by decide +kernel) rfl ⟨Nat.le_of_ble_eq_true rfl, Nat.le_of_ble_eq_true rfl⟩ (Nat.le_of_ble_eq_true rfl) ⟨hc, hs⟩ (fun v S' H locs hq I => ?_)
  obtain ⟨rfl, hF1, ho2, hn1, hJ⟩ := hq
  have ho1 := ho2
  have I := I.swap
  refine W.widen (k := cells + 10) (n := slots + 300) (Nat.le_refl _) (Nat.le_refl _) ?_
  refine lv_istore (lv' := [(5, .int (nI (zc_prom T i1))), (0, .ref b), (1, .ref x), (2, .ref mo), (3, .ref oa), (4, .int (nI i))]) hx hb dL_law_367 hl (by decide) rfl (fun ls hl => ?_)
  refine lv_aload_n hx hb dL_law_369 rfl (lv_at hl 3 rfl) ?_
  refine lv_aload_n hx hb dL_law_370 rfl (lv_at hl 1 rfl) ?_
  refine lv_iload hx hb dL_law_371 (lv_at hl 5 rfl) ?_
  refine lv_iconst (v := 1) hx hb dL_law_373 (by decide) ?_
  refine lv_iadd hx hb dL_law_374 ?_
  refine zr_top (y := nI (i + 1)) (nI_add i 1) ?_
  refine va_sld hx hb hX hbl hbA I.S (vp_in_nI (n := i + 1) (by omega) (by omega)) dL_law_375 ?_
  refine zr_top (y := i1) e1.symm ?_
  refine zc_V (n := 1) (rest := []) C I hM.1 rfl rfl (k_X4_isOpened l g M T mo ar hT hM i1) zm_600 zm_601 zm_602 zm_28 zm_603 rfl hl.1 dL_law_376 (by decide +kernel) rfl ⟨Nat.le_of_ble_eq_true rfl, Nat.le_of_ble_eq_true rfl⟩ (Nat.le_of_ble_eq_true rfl) ⟨hc, hs⟩ (fun v M' H locs hq I => ?_)
  obtain ⟨h20, hM1, hkM, v1, rfl, hw⟩ := hq
  refine W.widen (k := cells + 10) (n := slots + 300) (Nat.le_refl _) (Nat.le_refl _) ?_
  refine lv_istore (lv' := [(6, .int v1), (5, .int (nI (zc_prom T i1))), (0, .ref b), (1, .ref x), (2, .ref mo), (3, .ref oa), (4, .int (nI i))]) hx hb dL_law_379 hl (by decide) rfl (fun ls hl => ?_)
  refine lv_aload_n hx hb dL_law_381 rfl (lv_at hl 4 rfl) ?_
  refine zc_V (n := 0) (rest := []) C I hM1.1 rfl rfl (k_X4_thrown l g M' mo hM1.1) zm_563 zm_564 zm_565 zm_28 zm_566 rfl hl.1 dL_law_382 (by decide +kernel) rfl ⟨Nat.le_of_ble_eq_true rfl, Nat.le_of_ble_eq_true rfl⟩ (Nat.le_of_ble_eq_true rfl) ⟨hc, hs⟩ (fun v M2 H locs hq I => ?_)
  obtain ⟨rfl, eM⟩ := hq
  rw [eM] at I
  have I := I.swap
  refine W.widen (k := cells + 10) (n := slots + 300) (Nat.le_refl _) (Nat.le_refl _) ?_
  refine zr_top (y := nI (zc_prom T i1)) (h20) ?_
  refine lv_iload hx hb dL_law_385 (lv_at hl 1 rfl) ?_
  refine lv_icmp_eq (tgt := 392) hx hb dL_law_387 (by decide) (fun _ => ?_) (fun h9 => absurd ((nI_eq (a := zc_prom T i1) (b := zc_prom T i1) (by omega) (by omega)).mpr (rfl)) h9)
  refine lv_iload hx hb dL_law_392 (lv_at hl 1 rfl) ?_
  refine lv_if_ne (tgt := 416) hx hb dL_law_394 (by decide) (fun c8 => ?_) (fun c8 => ?_)
  · have c8 : ¬ (zc_prom T i1) = 0 := fun h9 => c8 ((nI_eq (a := zc_prom T i1) (b := 0) (by omega) (by omega)).mpr h9)
    refine lv_goto (tgt := 1239) hx hb dL_law_416 (by decide) ?_
    exact K _ _ _ ⟨S', M', _, hT, hF1, ho1, hn1, hM1, I, lv_sub hl [2, 3, 4, 5, 6] rfl⟩
  · have c8 : (zc_prom T i1) = 0 := (nI_eq (a := zc_prom T i1) (b := 0) (by omega) (by omega)).mp c8
    refine lv_aload_n hx hb dL_law_397 rfl (lv_at hl 5 rfl) ?_
    refine lv_iconst (v := 0) hx hb dL_law_398 (by decide) ?_
    refine zr_lald (v := if T.2 2 (zx i1) = 0 then 0 else 1) C I ho1 (by rw [hn1]; exact (show vp_in (nI 0) 1 from vp_in_nI (by omega) (by omega))) (by rw [show (0 : Int32).toNatClampNeg = 0 from by decide]; exact hJ c8) dL_law_399 ?_
    refine lv_iload hx hb dL_law_400 (lv_at hl 0 rfl) ?_
    refine zr_top (y := nI (T.2 2 (zx i1))) (hw c8) ?_
    have hb2 : T.2 2 (zx i1) ≤ 1 := (hT.2.2.1 (zx i1)).2.2.1
    refine lv_if_eq (tgt := 409) hx hb dL_law_402 (by decide) (fun c7 => ?_) (fun c7 => ?_)
    · have c7 : (T.2 2 (zx i1)) = 0 := (nI_eq (a := T.2 2 (zx i1)) (b := 0) (by omega) (by omega)).mp c7
      refine lv_lconst (v := 0) hx hb dL_law_409 (by decide) ?_
      rw [if_pos c7]
      refine W.lcmp hx hb dL_law_410 ?_
      refine zr_top (y := 0) (lg_self _) ?_
      refine lv_if_eq (tgt := 416) hx hb dL_law_411 (by decide) (fun _ => ?_) (fun h9 => absurd ((nI_eq (a := 0) (b := 0) (by omega) (by omega)).mpr (rfl)) h9)
      refine lv_goto (tgt := 1239) hx hb dL_law_416 (by decide) ?_
      exact K _ _ _ ⟨S', M', _, hT, hF1, ho1, hn1, hM1, I, lv_sub hl [2, 3, 4, 5, 6] rfl⟩
    · have c7 : ¬ (T.2 2 (zx i1)) = 0 := fun h9 => c7 ((nI_eq (a := T.2 2 (zx i1)) (b := 0) (by omega) (by omega)).mpr h9)
      refine lv_lconst (v := 1) hx hb dL_law_405 (by decide) ?_
      refine lv_goto (tgt := 410) hx hb dL_law_406 (by decide) ?_
      rw [if_neg c7]
      refine W.lcmp hx hb dL_law_410 ?_
      refine zr_top (y := 0) (lg_self _) ?_
      refine lv_if_eq (tgt := 416) hx hb dL_law_411 (by decide) (fun _ => ?_) (fun h9 => absurd ((nI_eq (a := 0) (b := 0) (by omega) (by omega)).mpr (rfl)) h9)
      refine lv_goto (tgt := 1239) hx hb dL_law_416 (by decide) ?_
      exact K _ _ _ ⟨S', M', _, hT, hF1, ho1, hn1, hM1, I, lv_sub hl [2, 3, 4, 5, 6] rfl⟩

set_option maxRecDepth 100000 in
set_option maxHeartbeats 4000000 in
theorem k_law_setPart (C0 : zLC p l s m c b L xs) (hi : i + 4 ≤ L) (hc : cells + 10 ≤ 601024) (hs : slots + 300 ≤ 7293034) (I0 : zLI g s b x mo oa ar i H locs ls)
    (K : ∀ (H : Heap) (locs : List Loc) (ls : Array Slot), zLI g s b x mo oa ar i H locs ls → W p l e room_1 s m #[Value.ref b] below meth c H locs (cells + 10) (slots + 300) Q (F0 m 1239 ls [])) : W p l e room_1 s m #[Value.ref b] below meth c H locs cells slots Q (F0 m 419 ls []) := by
  obtain ⟨hst, C, hX, hbl, hL⟩ := C0
  obtain ⟨S, M, T, hT, hF, ho, ho1, hM, I, hl⟩ := I0
  have hx := C.1
  have hb := C.2.1
  have hbA : ¬ (fun q : Nat => s.heap.size ≤ q) b := Nat.not_le.mpr hbl
  refine lv_aload_n hx hb dL_law_419 rfl (lv_at hl 1 rfl) ?_
  refine lv_aload_n hx hb dL_law_420 rfl (lv_at hl 0 rfl) ?_
  refine lv_iload hx hb dL_law_421 (lv_at hl 4 rfl) ?_
  refine lv_iconst (v := 1) hx hb dL_law_423 (by decide) ?_
  refine lv_iadd hx hb dL_law_424 ?_
  refine zr_top (y := nI (i + 1)) (nI_add i 1) ?_
  refine va_sld hx hb hX hbl hbA I.S (vp_in_nI (n := i + 1) (by omega) (by omega)) dL_law_425 ?_
  refine lv_topi (fun i1 e1 => ?_)
  refine lv_aload_n hx hb dL_law_426 rfl (lv_at hl 0 rfl) ?_
  refine lv_iload hx hb dL_law_427 (lv_at hl 4 rfl) ?_
  refine lv_iconst (v := 2) hx hb dL_law_429 (by decide) ?_
  refine lv_iadd hx hb dL_law_430 ?_
  refine zr_top (y := nI (i + 2)) (nI_add i 2) ?_
  refine va_sld hx hb hX hbl hbA I.S (vp_in_nI (n := i + 2) (by omega) (by omega)) dL_law_431 ?_
  refine lv_topi (fun i2 e2 => ?_)
  refine lv_aload_n hx hb dL_law_432 rfl (lv_at hl 3 rfl) ?_
  have hcb : zc_part i1 i2 ≤ 3 := zb_part i1 i2
  refine zc_SH (n := 4) (rest := []) C I (k_L_setPart l g hst S T x oa i1 i2 hT hF ho ho1) zm_339 zm_340 zm_23 zm_341 rfl hl.1 dL_law_433 (by decide +kernel) rfl ⟨Nat.le_of_ble_eq_true rfl, Nat.le_of_ble_eq_true rfl⟩ (Nat.le_of_ble_eq_true rfl) ⟨hc, hs⟩ (fun v S' H locs hq I => ?_)
  obtain ⟨rfl, hF1, ho2, hn1, hJ⟩ := hq
  have ho1 := ho2
  have I := I.swap
  refine W.widen (k := cells + 10) (n := slots + 300) (Nat.le_refl _) (Nat.le_refl _) ?_
  refine lv_istore (lv' := [(5, .int (nI (zc_part i1 i2))), (0, .ref b), (1, .ref x), (2, .ref mo), (3, .ref oa), (4, .int (nI i))]) hx hb dL_law_436 hl (by decide) rfl (fun ls hl => ?_)
  refine lv_aload_n hx hb dL_law_438 rfl (lv_at hl 3 rfl) ?_
  refine lv_aload_n hx hb dL_law_439 rfl (lv_at hl 1 rfl) ?_
  refine lv_iload hx hb dL_law_440 (lv_at hl 5 rfl) ?_
  refine lv_iconst (v := 1) hx hb dL_law_442 (by decide) ?_
  refine lv_iadd hx hb dL_law_443 ?_
  refine zr_top (y := nI (i + 1)) (nI_add i 1) ?_
  refine va_sld hx hb hX hbl hbA I.S (vp_in_nI (n := i + 1) (by omega) (by omega)) dL_law_444 ?_
  refine zr_top (y := i1) e1.symm ?_
  refine lv_aload_n hx hb dL_law_445 rfl (lv_at hl 1 rfl) ?_
  refine lv_iload hx hb dL_law_446 (lv_at hl 5 rfl) ?_
  refine lv_iconst (v := 2) hx hb dL_law_448 (by decide) ?_
  refine lv_iadd hx hb dL_law_449 ?_
  refine zr_top (y := nI (i + 2)) (nI_add i 2) ?_
  refine va_sld hx hb hX hbl hbA I.S (vp_in_nI (n := i + 2) (by omega) (by omega)) dL_law_450 ?_
  refine zr_top (y := i2) e2.symm ?_
  refine zc_V (n := 2) (rest := []) C I hM.1 rfl rfl (k_X4_setPart l g M T mo ar hT hM i1 i2) zm_604 zm_605 zm_606 zm_28 zm_607 rfl hl.1 dL_law_451 (by decide +kernel) rfl ⟨Nat.le_of_ble_eq_true rfl, Nat.le_of_ble_eq_true rfl⟩ (Nat.le_of_ble_eq_true rfl) ⟨hc, hs⟩ (fun v M' H locs hq I => ?_)
  obtain ⟨h20, hM1, hkM, v1, rfl, hw⟩ := hq
  refine W.widen (k := cells + 10) (n := slots + 300) (Nat.le_refl _) (Nat.le_refl _) ?_
  refine lv_istore (lv' := [(6, .int v1), (5, .int (nI (zc_part i1 i2))), (0, .ref b), (1, .ref x), (2, .ref mo), (3, .ref oa), (4, .int (nI i))]) hx hb dL_law_454 hl (by decide) rfl (fun ls hl => ?_)
  refine lv_aload_n hx hb dL_law_456 rfl (lv_at hl 4 rfl) ?_
  refine zc_V (n := 0) (rest := []) C I hM1.1 rfl rfl (k_X4_thrown l g M' mo hM1.1) zm_563 zm_564 zm_565 zm_28 zm_566 rfl hl.1 dL_law_457 (by decide +kernel) rfl ⟨Nat.le_of_ble_eq_true rfl, Nat.le_of_ble_eq_true rfl⟩ (Nat.le_of_ble_eq_true rfl) ⟨hc, hs⟩ (fun v M2 H locs hq I => ?_)
  obtain ⟨rfl, eM⟩ := hq
  rw [eM] at I
  have I := I.swap
  refine W.widen (k := cells + 10) (n := slots + 300) (Nat.le_refl _) (Nat.le_refl _) ?_
  refine zr_top (y := nI (zc_part i1 i2)) (h20) ?_
  refine lv_iload hx hb dL_law_460 (lv_at hl 1 rfl) ?_
  refine lv_icmp_eq (tgt := 467) hx hb dL_law_462 (by decide) (fun _ => ?_) (fun h9 => absurd ((nI_eq (a := zc_part i1 i2) (b := zc_part i1 i2) (by omega) (by omega)).mpr (rfl)) h9)
  refine lv_iload hx hb dL_law_467 (lv_at hl 1 rfl) ?_
  refine lv_if_ne (tgt := 484) hx hb dL_law_469 (by decide) (fun c8 => ?_) (fun c8 => ?_)
  · have c8 : ¬ (zc_part i1 i2) = 0 := fun h9 => c8 ((nI_eq (a := zc_part i1 i2) (b := 0) (by omega) (by omega)).mpr h9)
    refine lv_goto (tgt := 1239) hx hb dL_law_484 (by decide) ?_
    exact K _ _ _ ⟨S', M', _, zt_ok_part hT i1 i2, hF1, ho1, hn1, hM1, I, lv_sub hl [2, 3, 4, 5, 6] rfl⟩
  · have c8 : (zc_part i1 i2) = 0 := (nI_eq (a := zc_part i1 i2) (b := 0) (by omega) (by omega)).mp c8
    refine lv_aload_n hx hb dL_law_472 rfl (lv_at hl 5 rfl) ?_
    refine lv_iconst (v := 0) hx hb dL_law_473 (by decide) ?_
    refine zr_lald (v := (nI (T.2 4 (zx i1))).toInt64) C I ho1 (by rw [hn1]; exact (show vp_in (nI 0) 1 from vp_in_nI (by omega) (by omega))) (by rw [show (0 : Int32).toNatClampNeg = 0 from by decide]; exact hJ c8) dL_law_474 ?_
    refine lv_iload hx hb dL_law_475 (lv_at hl 0 rfl) ?_
    refine zr_top (y := nI (T.2 4 (zx i1))) (hw c8) ?_
    refine lv_i2l hx hb dL_law_477 rfl ?_
    refine W.lcmp hx hb dL_law_478 ?_
    refine zr_top (y := 0) (lg_self _) ?_
    refine lv_if_eq (tgt := 484) hx hb dL_law_479 (by decide) (fun _ => ?_) (fun h9 => absurd ((nI_eq (a := 0) (b := 0) (by omega) (by omega)).mpr (rfl)) h9)
    refine lv_goto (tgt := 1239) hx hb dL_law_484 (by decide) ?_
    exact K _ _ _ ⟨S', M', _, zt_ok_part hT i1 i2, hF1, ho1, hn1, hM1, I, lv_sub hl [2, 3, 4, 5, 6] rfl⟩

set_option maxRecDepth 100000 in
set_option maxHeartbeats 4000000 in
theorem k_law_roll (C0 : zLC p l s m c b L xs) (hi : i + 4 ≤ L) (hc : cells + 10 ≤ 601024) (hs : slots + 300 ≤ 7293034) (I0 : zLI g s b x mo oa ar i H locs ls)
    (K : ∀ (H : Heap) (locs : List Loc) (ls : Array Slot), zLI g s b x mo oa ar i H locs ls → W p l e room_1 s m #[Value.ref b] below meth c H locs (cells + 10) (slots + 300) Q (F0 m 1239 ls [])) : W p l e room_1 s m #[Value.ref b] below meth c H locs cells slots Q (F0 m 487 ls []) := by
  obtain ⟨hst, C, hX, hbl, hL⟩ := C0
  obtain ⟨S, M, T, hT, hF, ho, ho1, hM, I, hl⟩ := I0
  have hx := C.1
  have hb := C.2.1
  have hbA : ¬ (fun q : Nat => s.heap.size ≤ q) b := Nat.not_le.mpr hbl
  refine lv_aload_n hx hb dL_law_487 rfl (lv_at hl 1 rfl) ?_
  refine lv_aload_n hx hb dL_law_488 rfl (lv_at hl 0 rfl) ?_
  refine lv_iload hx hb dL_law_489 (lv_at hl 4 rfl) ?_
  refine lv_iconst (v := 1) hx hb dL_law_491 (by decide) ?_
  refine lv_iadd hx hb dL_law_492 ?_
  refine zr_top (y := nI (i + 1)) (nI_add i 1) ?_
  refine va_sld hx hb hX hbl hbA I.S (vp_in_nI (n := i + 1) (by omega) (by omega)) dL_law_493 ?_
  refine lv_topi (fun i1 e1 => ?_)
  refine lv_aload_n hx hb dL_law_494 rfl (lv_at hl 0 rfl) ?_
  refine lv_iload hx hb dL_law_495 (lv_at hl 4 rfl) ?_
  refine lv_iconst (v := 2) hx hb dL_law_497 (by decide) ?_
  refine lv_iadd hx hb dL_law_498 ?_
  refine zr_top (y := nI (i + 2)) (nI_add i 2) ?_
  refine va_sld hx hb hX hbl hbA I.S (vp_in_nI (n := i + 2) (by omega) (by omega)) dL_law_499 ?_
  refine lv_topi (fun i2 e2 => ?_)
  refine lv_aload_n hx hb dL_law_500 rfl (lv_at hl 0 rfl) ?_
  refine lv_iload hx hb dL_law_501 (lv_at hl 4 rfl) ?_
  refine lv_iconst (v := 3) hx hb dL_law_503 (by decide) ?_
  refine lv_iadd hx hb dL_law_504 ?_
  refine zr_top (y := nI (i + 3)) (nI_add i 3) ?_
  refine va_sld hx hb hX hbl hbA I.S (vp_in_nI (n := i + 3) (by omega) (by omega)) dL_law_505 ?_
  refine lv_topi (fun i3 e3 => ?_)
  refine lv_aload_n hx hb dL_law_506 rfl (lv_at hl 3 rfl) ?_
  have hcb : zc_roll T i1 i2 i3 ≤ 3 := zb_rollc T i1 i2 i3
  refine zc_SH (n := 5) (rest := []) C I (k_L_roll l g hst S T x oa i1 i2 i3 hT hF ho ho1) zm_349 zm_350 zm_23 zm_351 rfl hl.1 dL_law_507 (by decide +kernel) rfl ⟨Nat.le_of_ble_eq_true rfl, Nat.le_of_ble_eq_true rfl⟩ (Nat.le_of_ble_eq_true rfl) ⟨hc, hs⟩ (fun v S' H locs hq I => ?_)
  obtain ⟨rfl, hF1, ho2, hn1, hJ⟩ := hq
  have ho1 := ho2
  have I := I.swap
  refine W.widen (k := cells + 10) (n := slots + 300) (Nat.le_refl _) (Nat.le_refl _) ?_
  refine lv_istore (lv' := [(5, .int (nI (zc_roll T i1 i2 i3))), (0, .ref b), (1, .ref x), (2, .ref mo), (3, .ref oa), (4, .int (nI i))]) hx hb dL_law_510 hl (by decide) rfl (fun ls hl => ?_)
  refine lv_aload_n hx hb dL_law_512 rfl (lv_at hl 3 rfl) ?_
  refine lv_aload_n hx hb dL_law_513 rfl (lv_at hl 1 rfl) ?_
  refine lv_iload hx hb dL_law_514 (lv_at hl 5 rfl) ?_
  refine lv_iconst (v := 1) hx hb dL_law_516 (by decide) ?_
  refine lv_iadd hx hb dL_law_517 ?_
  refine zr_top (y := nI (i + 1)) (nI_add i 1) ?_
  refine va_sld hx hb hX hbl hbA I.S (vp_in_nI (n := i + 1) (by omega) (by omega)) dL_law_518 ?_
  refine zr_top (y := i1) e1.symm ?_
  refine lv_aload_n hx hb dL_law_519 rfl (lv_at hl 1 rfl) ?_
  refine lv_iload hx hb dL_law_520 (lv_at hl 5 rfl) ?_
  refine lv_iconst (v := 2) hx hb dL_law_522 (by decide) ?_
  refine lv_iadd hx hb dL_law_523 ?_
  refine zr_top (y := nI (i + 2)) (nI_add i 2) ?_
  refine va_sld hx hb hX hbl hbA I.S (vp_in_nI (n := i + 2) (by omega) (by omega)) dL_law_524 ?_
  refine zr_top (y := i2) e2.symm ?_
  refine lv_aload_n hx hb dL_law_525 rfl (lv_at hl 1 rfl) ?_
  refine lv_iload hx hb dL_law_526 (lv_at hl 5 rfl) ?_
  refine lv_iconst (v := 3) hx hb dL_law_528 (by decide) ?_
  refine lv_iadd hx hb dL_law_529 ?_
  refine zr_top (y := nI (i + 3)) (nI_add i 3) ?_
  refine va_sld hx hb hX hbl hbA I.S (vp_in_nI (n := i + 3) (by omega) (by omega)) dL_law_530 ?_
  refine zr_top (y := i3) e3.symm ?_
  refine zc_V (n := 3) (rest := []) C I hM.1 rfl rfl (k_X4_roll l g M T mo ar hT hM i1 i2 i3) zm_611 zm_612 zm_613 zm_28 zm_614 rfl hl.1 dL_law_531 (by decide +kernel) rfl ⟨Nat.le_of_ble_eq_true rfl, Nat.le_of_ble_eq_true rfl⟩ (Nat.le_of_ble_eq_true rfl) ⟨hc, hs⟩ (fun v M' H locs hq I => ?_)
  obtain ⟨h20, hM1, hkM, v1, rfl, hw⟩ := hq
  refine W.widen (k := cells + 10) (n := slots + 300) (Nat.le_refl _) (Nat.le_refl _) ?_
  refine lv_istore (lv' := [(6, .int v1), (5, .int (nI (zc_roll T i1 i2 i3))), (0, .ref b), (1, .ref x), (2, .ref mo), (3, .ref oa), (4, .int (nI i))]) hx hb dL_law_534 hl (by decide) rfl (fun ls hl => ?_)
  refine lv_aload_n hx hb dL_law_536 rfl (lv_at hl 4 rfl) ?_
  refine zc_V (n := 0) (rest := []) C I hM1.1 rfl rfl (k_X4_thrown l g M' mo hM1.1) zm_563 zm_564 zm_565 zm_28 zm_566 rfl hl.1 dL_law_537 (by decide +kernel) rfl ⟨Nat.le_of_ble_eq_true rfl, Nat.le_of_ble_eq_true rfl⟩ (Nat.le_of_ble_eq_true rfl) ⟨hc, hs⟩ (fun v M2 H locs hq I => ?_)
  obtain ⟨rfl, eM⟩ := hq
  rw [eM] at I
  have I := I.swap
  refine W.widen (k := cells + 10) (n := slots + 300) (Nat.le_refl _) (Nat.le_refl _) ?_
  refine zr_top (y := nI (zc_roll T i1 i2 i3)) (h20) ?_
  refine lv_iload hx hb dL_law_540 (lv_at hl 1 rfl) ?_
  refine lv_icmp_eq (tgt := 547) hx hb dL_law_542 (by decide) (fun _ => ?_) (fun h9 => absurd ((nI_eq (a := zc_roll T i1 i2 i3) (b := zc_roll T i1 i2 i3) (by omega) (by omega)).mpr (rfl)) h9)
  refine lv_iload hx hb dL_law_547 (lv_at hl 1 rfl) ?_
  refine lv_if_ne (tgt := 564) hx hb dL_law_549 (by decide) (fun c8 => ?_) (fun c8 => ?_)
  · have c8 : ¬ (zc_roll T i1 i2 i3) = 0 := fun h9 => c8 ((nI_eq (a := zc_roll T i1 i2 i3) (b := 0) (by omega) (by omega)).mpr h9)
    refine lv_goto (tgt := 1239) hx hb dL_law_564 (by decide) ?_
    exact K _ _ _ ⟨S', M', _, zt_ok_roll hT i1 i2 i3, hF1, ho1, hn1, hM1, I, lv_sub hl [2, 3, 4, 5, 6] rfl⟩
  · have c8 : (zc_roll T i1 i2 i3) = 0 := (nI_eq (a := zc_roll T i1 i2 i3) (b := 0) (by omega) (by omega)).mp c8
    refine lv_aload_n hx hb dL_law_552 rfl (lv_at hl 5 rfl) ?_
    refine lv_iconst (v := 0) hx hb dL_law_553 (by decide) ?_
    refine zr_lald (v := (nI (zr_roll T i1 i2 i3)).toInt64) C I ho1 (by rw [hn1]; exact (show vp_in (nI 0) 1 from vp_in_nI (by omega) (by omega))) (by rw [show (0 : Int32).toNatClampNeg = 0 from by decide]; exact hJ c8) dL_law_554 ?_
    refine lv_iload hx hb dL_law_555 (lv_at hl 0 rfl) ?_
    refine zr_top (y := nI (zr_roll T i1 i2 i3)) (hw c8) ?_
    refine lv_i2l hx hb dL_law_557 rfl ?_
    refine W.lcmp hx hb dL_law_558 ?_
    refine zr_top (y := 0) (lg_self _) ?_
    refine lv_if_eq (tgt := 564) hx hb dL_law_559 (by decide) (fun _ => ?_) (fun h9 => absurd ((nI_eq (a := 0) (b := 0) (by omega) (by omega)).mpr (rfl)) h9)
    refine lv_goto (tgt := 1239) hx hb dL_law_564 (by decide) ?_
    exact K _ _ _ ⟨S', M', _, zt_ok_roll hT i1 i2 i3, hF1, ho1, hn1, hM1, I, lv_sub hl [2, 3, 4, 5, 6] rfl⟩

set_option maxRecDepth 100000 in
set_option maxHeartbeats 4000000 in
theorem k_law_entries (C0 : zLC p l s m c b L xs) (hi : i + 4 ≤ L) (hc : cells + 10 ≤ 601024) (hs : slots + 300 ≤ 7293034) (I0 : zLI g s b x mo oa ar i H locs ls)
    (K : ∀ (H : Heap) (locs : List Loc) (ls : Array Slot), zLI g s b x mo oa ar i H locs ls → W p l e room_1 s m #[Value.ref b] below meth c H locs (cells + 10) (slots + 300) Q (F0 m 1239 ls [])) : W p l e room_1 s m #[Value.ref b] below meth c H locs cells slots Q (F0 m 567 ls []) := by
  obtain ⟨hst, C, hX, hbl, hL⟩ := C0
  obtain ⟨S, M, T, hT, hF, ho, ho1, hM, I, hl⟩ := I0
  have hx := C.1
  have hb := C.2.1
  have hbA : ¬ (fun q : Nat => s.heap.size ≤ q) b := Nat.not_le.mpr hbl
  obtain ⟨pl, lo, pt, ty, pa, la, ap, ad, ae, hF9⟩ := id hF
  refine lv_aload_n hx hb dL_law_567 rfl (lv_at hl 1 rfl) ?_
  refine zc_V (n := 0) (rest := []) C I hF9.1.1 rfl rfl (k_X3_entries l g hst S T x pl lo pt ty pa la ap ad ae hT hF9) zm_91 zm_92 zm_93 zm_24 zm_94 rfl hl.1 dL_law_568 (by decide +kernel) rfl ⟨Nat.le_of_ble_eq_true rfl, Nat.le_of_ble_eq_true rfl⟩ (Nat.le_of_ble_eq_true rfl) ⟨Nat.le_trans (Nat.le_add_right _ 10) hc, Nat.le_trans (Nat.le_add_right _ 300) hs⟩ (fun v S' H locs hq I => ?_)
  obtain ⟨rfl, eS⟩ := hq
  rw [eS] at I
  have I := I.swap
  refine W.widen (k := cells + 10) (n := slots + 300) (Nat.le_add_right _ 10) (Nat.le_add_right _ 300) ?_
  refine lv_aload_n hx hb dL_law_571 rfl (lv_at hl 2 rfl) ?_
  refine zc_V (n := 0) (rest := [.int (nI T.1.2)]) C I hM.1 rfl rfl (k_X4_entries l g M T mo ar hT hM) zm_625 zm_626 zm_627 zm_28 zm_628 rfl hl.1 dL_law_572 (by decide +kernel) rfl ⟨Nat.le_of_ble_eq_true rfl, Nat.le_of_ble_eq_true rfl⟩ (Nat.le_of_ble_eq_true rfl) ⟨hc, hs⟩ (fun v M' H locs hq I => ?_)
  obtain ⟨h20, hM1, hkM, v1, rfl, hw⟩ := hq
  have I := I.swap
  refine W.widen (k := cells + 10) (n := slots + 300) (Nat.le_refl _) (Nat.le_refl _) ?_
  refine zr_top (y := nI T.1.2) (hw rfl) ?_
  refine lv_icmp_eq (tgt := 1239) hx hb dL_law_575 (by decide) (fun _ => ?_) (fun h9 => absurd (rfl) h9)
  have hF1 := hF
  have hn1 := ho1
  have ho1 := ho
  exact K _ _ _ ⟨S, M', _, hT, hF1, ho1, hn1, hM1, I, lv_sub hl [0, 1, 2, 3, 4] rfl⟩

end ZLAW
