/-! the law's branches -/
section ZLAW
variable {p : Program} {l : Launch} {e : Env} {s : State} {m : MethodId} {below : List Frame} {meth : Method} {c : Code} {H : Heap} {locs : List Loc} {cells slots : Nat} {Q : State → Prop} {g : zG} {b L i x mo oa : Nat} {xs : Nat → Int32} {ar : Nat → Nat} {ls : Array Slot}

set_option maxRecDepth 100000 in
set_option maxHeartbeats 4000000 in
theorem k_law_value (C0 : zLC p l s m c b L xs) (hi : i + 4 ≤ L) (hc : cells + 10 ≤ 601024) (hs : slots + 300 ≤ 7293034) (I0 : zLI g s b x mo oa ar i H locs ls)
    (K : ∀ (H : Heap) (locs : List Loc) (ls : Array Slot), zLI g s b x mo oa ar i H locs ls → W p l e room_1 s m #[Value.ref b] below meth c H locs (cells + 10) (slots + 300) Q (F0 m 1239 ls [])) : W p l e room_1 s m #[Value.ref b] below meth c H locs cells slots Q (F0 m 580 ls []) := by
  obtain ⟨hst, C, hX, hbl, hL⟩ := C0
  obtain ⟨S, M, T, hT, hF, ho, ho1, hM, I, hl⟩ := I0
  have hx := C.1
  have hb := C.2.1
  have hbA : ¬ (fun q : Nat => s.heap.size ≤ q) b := Nat.not_le.mpr hbl
  refine lv_aload_n hx hb dL_law_580 rfl (lv_at hl 1 rfl) ?_
  refine lv_aload_n hx hb dL_law_581 rfl (lv_at hl 0 rfl) ?_
  refine lv_iload hx hb dL_law_582 (lv_at hl 4 rfl) ?_
  refine lv_iconst (v := 1) hx hb dL_law_584 (by decide) ?_
  refine lv_iadd hx hb dL_law_585 ?_
  refine zr_top (y := nI (i + 1)) (nI_add i 1) ?_
  refine va_sld hx hb hX hbl hbA I.S (vp_in_nI (n := i + 1) (by omega) (by omega)) dL_law_586 ?_
  refine lv_topi (fun i1 e1 => ?_)
  refine lv_aload_n hx hb dL_law_587 rfl (lv_at hl 3 rfl) ?_
  have hcb : zc_entry T i1 ≤ 3 := zb_entry T i1
  refine zc_SH (n := 3) (rest := []) C I (k_L_value l g hst S T x oa i1 hT hF ho ho1) zm_399 zm_400 zm_23 zm_401 rfl hl.1 dL_law_588 (by decide +kernel) rfl ⟨Nat.le_of_ble_eq_true rfl, Nat.le_of_ble_eq_true rfl⟩ (Nat.le_of_ble_eq_true rfl) ⟨hc, hs⟩ (fun v S' H locs hq I => ?_)
  obtain ⟨rfl, hF1, ho2, hn1, hJ⟩ := hq
  have ho1 := ho2
  have I := I.swap
  refine W.widen (k := cells + 10) (n := slots + 300) (Nat.le_refl _) (Nat.le_refl _) ?_
  refine lv_istore (lv' := [(5, .int (nI (zc_entry T i1))), (0, .ref b), (1, .ref x), (2, .ref mo), (3, .ref oa), (4, .int (nI i))]) hx hb dL_law_591 hl (by decide) rfl (fun ls hl => ?_)
  refine lv_aload_n hx hb dL_law_593 rfl (lv_at hl 3 rfl) ?_
  refine lv_aload_n hx hb dL_law_594 rfl (lv_at hl 1 rfl) ?_
  refine lv_iload hx hb dL_law_595 (lv_at hl 5 rfl) ?_
  refine lv_iconst (v := 1) hx hb dL_law_597 (by decide) ?_
  refine lv_iadd hx hb dL_law_598 ?_
  refine zr_top (y := nI (i + 1)) (nI_add i 1) ?_
  refine va_sld hx hb hX hbl hbA I.S (vp_in_nI (n := i + 1) (by omega) (by omega)) dL_law_599 ?_
  refine zr_top (y := i1) e1.symm ?_
  refine zc_V (n := 1) (rest := []) C I hM.1 rfl rfl (k_X4_value l g M T mo ar hT hM i1) zm_629 zm_630 zm_631 zm_28 zm_632 rfl hl.1 dL_law_600 (by decide +kernel) rfl ⟨Nat.le_of_ble_eq_true rfl, Nat.le_of_ble_eq_true rfl⟩ (Nat.le_of_ble_eq_true rfl) ⟨hc, hs⟩ (fun v M' H locs hq I => ?_)
  obtain ⟨h20, hM1, hkM, v1, rfl, hw⟩ := hq
  refine W.widen (k := cells + 10) (n := slots + 300) (Nat.le_refl _) (Nat.le_refl _) ?_
  refine lv_istore (lv' := [(6, .int v1), (5, .int (nI (zc_entry T i1))), (0, .ref b), (1, .ref x), (2, .ref mo), (3, .ref oa), (4, .int (nI i))]) hx hb dL_law_603 hl (by decide) rfl (fun ls hl => ?_)
  refine lv_aload_n hx hb dL_law_605 rfl (lv_at hl 4 rfl) ?_
  refine zc_V (n := 0) (rest := []) C I hM1.1 rfl rfl (k_X4_thrown l g M' mo hM1.1) zm_563 zm_564 zm_565 zm_28 zm_566 rfl hl.1 dL_law_606 (by decide +kernel) rfl ⟨Nat.le_of_ble_eq_true rfl, Nat.le_of_ble_eq_true rfl⟩ (Nat.le_of_ble_eq_true rfl) ⟨hc, hs⟩ (fun v M2 H locs hq I => ?_)
  obtain ⟨rfl, eM⟩ := hq
  rw [eM] at I
  have I := I.swap
  refine W.widen (k := cells + 10) (n := slots + 300) (Nat.le_refl _) (Nat.le_refl _) ?_
  refine zr_top (y := nI (zc_entry T i1)) (h20) ?_
  refine lv_iload hx hb dL_law_609 (lv_at hl 1 rfl) ?_
  refine lv_icmp_eq (tgt := 616) hx hb dL_law_611 (by decide) (fun _ => ?_) (fun h9 => absurd ((nI_eq (a := zc_entry T i1) (b := zc_entry T i1) (by omega) (by omega)).mpr (rfl)) h9)
  refine lv_iload hx hb dL_law_616 (lv_at hl 1 rfl) ?_
  refine lv_if_ne (tgt := 633) hx hb dL_law_618 (by decide) (fun c8 => ?_) (fun c8 => ?_)
  · have c8 : ¬ (zc_entry T i1) = 0 := fun h9 => c8 ((nI_eq (a := zc_entry T i1) (b := 0) (by omega) (by omega)).mpr h9)
    refine lv_goto (tgt := 1239) hx hb dL_law_633 (by decide) ?_
    exact K _ _ _ ⟨S', M', _, hT, hF1, ho1, hn1, hM1, I, lv_sub hl [2, 3, 4, 5, 6] rfl⟩
  · have c8 : (zc_entry T i1) = 0 := (nI_eq (a := zc_entry T i1) (b := 0) (by omega) (by omega)).mp c8
    refine lv_aload_n hx hb dL_law_621 rfl (lv_at hl 5 rfl) ?_
    refine lv_iconst (v := 0) hx hb dL_law_622 (by decide) ?_
    refine zr_lald (v := (nI (T.2 9 (zx i1))).toInt64) C I ho1 (by rw [hn1]; exact (show vp_in (nI 0) 1 from vp_in_nI (by omega) (by omega))) (by rw [show (0 : Int32).toNatClampNeg = 0 from by decide]; exact hJ c8) dL_law_623 ?_
    refine lv_iload hx hb dL_law_624 (lv_at hl 0 rfl) ?_
    refine zr_top (y := nI (T.2 9 (zx i1))) (hw c8) ?_
    refine lv_i2l hx hb dL_law_626 rfl ?_
    refine W.lcmp hx hb dL_law_627 ?_
    refine zr_top (y := 0) (lg_self _) ?_
    refine lv_if_eq (tgt := 633) hx hb dL_law_628 (by decide) (fun _ => ?_) (fun h9 => absurd ((nI_eq (a := 0) (b := 0) (by omega) (by omega)).mpr (rfl)) h9)
    refine lv_goto (tgt := 1239) hx hb dL_law_633 (by decide) ?_
    exact K _ _ _ ⟨S', M', _, hT, hF1, ho1, hn1, hM1, I, lv_sub hl [2, 3, 4, 5, 6] rfl⟩

set_option maxRecDepth 100000 in
set_option maxHeartbeats 4000000 in
theorem k_law_rejected (C0 : zLC p l s m c b L xs) (hi : i + 4 ≤ L) (hc : cells + 10 ≤ 601024) (hs : slots + 300 ≤ 7293034) (I0 : zLI g s b x mo oa ar i H locs ls)
    (K : ∀ (H : Heap) (locs : List Loc) (ls : Array Slot), zLI g s b x mo oa ar i H locs ls → W p l e room_1 s m #[Value.ref b] below meth c H locs (cells + 10) (slots + 300) Q (F0 m 1239 ls [])) : W p l e room_1 s m #[Value.ref b] below meth c H locs cells slots Q (F0 m 636 ls []) := by
  obtain ⟨hst, C, hX, hbl, hL⟩ := C0
  obtain ⟨S, M, T, hT, hF, ho, ho1, hM, I, hl⟩ := I0
  have hx := C.1
  have hb := C.2.1
  have hbA : ¬ (fun q : Nat => s.heap.size ≤ q) b := Nat.not_le.mpr hbl
  refine lv_aload_n hx hb dL_law_636 rfl (lv_at hl 1 rfl) ?_
  refine lv_aload_n hx hb dL_law_637 rfl (lv_at hl 0 rfl) ?_
  refine lv_iload hx hb dL_law_638 (lv_at hl 4 rfl) ?_
  refine lv_iconst (v := 1) hx hb dL_law_640 (by decide) ?_
  refine lv_iadd hx hb dL_law_641 ?_
  refine zr_top (y := nI (i + 1)) (nI_add i 1) ?_
  refine va_sld hx hb hX hbl hbA I.S (vp_in_nI (n := i + 1) (by omega) (by omega)) dL_law_642 ?_
  refine lv_topi (fun i1 e1 => ?_)
  refine lv_aload_n hx hb dL_law_643 rfl (lv_at hl 3 rfl) ?_
  have hcb : zc_entry T i1 ≤ 3 := zb_entry T i1
  refine zc_SH (n := 3) (rest := []) C I (k_L_rejected l g hst S T x oa i1 hT hF ho ho1) zm_409 zm_410 zm_23 zm_411 rfl hl.1 dL_law_644 (by decide +kernel) rfl ⟨Nat.le_of_ble_eq_true rfl, Nat.le_of_ble_eq_true rfl⟩ (Nat.le_of_ble_eq_true rfl) ⟨hc, hs⟩ (fun v S' H locs hq I => ?_)
  obtain ⟨rfl, hF1, ho2, hn1, hJ⟩ := hq
  have ho1 := ho2
  have I := I.swap
  refine W.widen (k := cells + 10) (n := slots + 300) (Nat.le_refl _) (Nat.le_refl _) ?_
  refine lv_istore (lv' := [(5, .int (nI (zc_entry T i1))), (0, .ref b), (1, .ref x), (2, .ref mo), (3, .ref oa), (4, .int (nI i))]) hx hb dL_law_647 hl (by decide) rfl (fun ls hl => ?_)
  refine lv_aload_n hx hb dL_law_649 rfl (lv_at hl 3 rfl) ?_
  refine lv_aload_n hx hb dL_law_650 rfl (lv_at hl 1 rfl) ?_
  refine lv_iload hx hb dL_law_651 (lv_at hl 5 rfl) ?_
  refine lv_iconst (v := 1) hx hb dL_law_653 (by decide) ?_
  refine lv_iadd hx hb dL_law_654 ?_
  refine zr_top (y := nI (i + 1)) (nI_add i 1) ?_
  refine va_sld hx hb hX hbl hbA I.S (vp_in_nI (n := i + 1) (by omega) (by omega)) dL_law_655 ?_
  refine zr_top (y := i1) e1.symm ?_
  refine zc_V (n := 1) (rest := []) C I hM.1 rfl rfl (k_X4_rejected l g M T mo ar hT hM i1) zm_636 zm_637 zm_638 zm_28 zm_639 rfl hl.1 dL_law_656 (by decide +kernel) rfl ⟨Nat.le_of_ble_eq_true rfl, Nat.le_of_ble_eq_true rfl⟩ (Nat.le_of_ble_eq_true rfl) ⟨hc, hs⟩ (fun v M' H locs hq I => ?_)
  obtain ⟨h20, hM1, hkM, v1, rfl, hw⟩ := hq
  refine W.widen (k := cells + 10) (n := slots + 300) (Nat.le_refl _) (Nat.le_refl _) ?_
  refine lv_istore (lv' := [(6, .int v1), (5, .int (nI (zc_entry T i1))), (0, .ref b), (1, .ref x), (2, .ref mo), (3, .ref oa), (4, .int (nI i))]) hx hb dL_law_659 hl (by decide) rfl (fun ls hl => ?_)
  refine lv_aload_n hx hb dL_law_661 rfl (lv_at hl 4 rfl) ?_
  refine zc_V (n := 0) (rest := []) C I hM1.1 rfl rfl (k_X4_thrown l g M' mo hM1.1) zm_563 zm_564 zm_565 zm_28 zm_566 rfl hl.1 dL_law_662 (by decide +kernel) rfl ⟨Nat.le_of_ble_eq_true rfl, Nat.le_of_ble_eq_true rfl⟩ (Nat.le_of_ble_eq_true rfl) ⟨hc, hs⟩ (fun v M2 H locs hq I => ?_)
  obtain ⟨rfl, eM⟩ := hq
  rw [eM] at I
  have I := I.swap
  refine W.widen (k := cells + 10) (n := slots + 300) (Nat.le_refl _) (Nat.le_refl _) ?_
  refine zr_top (y := nI (zc_entry T i1)) (h20) ?_
  refine lv_iload hx hb dL_law_665 (lv_at hl 1 rfl) ?_
  refine lv_icmp_eq (tgt := 672) hx hb dL_law_667 (by decide) (fun _ => ?_) (fun h9 => absurd ((nI_eq (a := zc_entry T i1) (b := zc_entry T i1) (by omega) (by omega)).mpr (rfl)) h9)
  refine lv_iload hx hb dL_law_672 (lv_at hl 1 rfl) ?_
  refine lv_if_ne (tgt := 689) hx hb dL_law_674 (by decide) (fun c8 => ?_) (fun c8 => ?_)
  · have c8 : ¬ (zc_entry T i1) = 0 := fun h9 => c8 ((nI_eq (a := zc_entry T i1) (b := 0) (by omega) (by omega)).mpr h9)
    refine lv_goto (tgt := 1239) hx hb dL_law_689 (by decide) ?_
    exact K _ _ _ ⟨S', M', _, hT, hF1, ho1, hn1, hM1, I, lv_sub hl [2, 3, 4, 5, 6] rfl⟩
  · have c8 : (zc_entry T i1) = 0 := (nI_eq (a := zc_entry T i1) (b := 0) (by omega) (by omega)).mp c8
    refine lv_aload_n hx hb dL_law_677 rfl (lv_at hl 5 rfl) ?_
    refine lv_iconst (v := 0) hx hb dL_law_678 (by decide) ?_
    refine zr_lald (v := (nI (T.2 10 (zx i1))).toInt64) C I ho1 (by rw [hn1]; exact (show vp_in (nI 0) 1 from vp_in_nI (by omega) (by omega))) (by rw [show (0 : Int32).toNatClampNeg = 0 from by decide]; exact hJ c8) dL_law_679 ?_
    refine lv_iload hx hb dL_law_680 (lv_at hl 0 rfl) ?_
    refine zr_top (y := nI (T.2 10 (zx i1))) (hw c8) ?_
    refine lv_i2l hx hb dL_law_682 rfl ?_
    refine W.lcmp hx hb dL_law_683 ?_
    refine zr_top (y := 0) (lg_self _) ?_
    refine lv_if_eq (tgt := 689) hx hb dL_law_684 (by decide) (fun _ => ?_) (fun h9 => absurd ((nI_eq (a := 0) (b := 0) (by omega) (by omega)).mpr (rfl)) h9)
    refine lv_goto (tgt := 1239) hx hb dL_law_689 (by decide) ?_
    exact K _ _ _ ⟨S', M', _, hT, hF1, ho1, hn1, hM1, I, lv_sub hl [2, 3, 4, 5, 6] rfl⟩

set_option maxRecDepth 100000 in
set_option maxHeartbeats 4000000 in
theorem k_law_sum (C0 : zLC p l s m c b L xs) (hi : i + 4 ≤ L) (hc : cells + 10 ≤ 601024) (hs : slots + 300 ≤ 7293034) (I0 : zLI g s b x mo oa ar i H locs ls)
    (K : ∀ (H : Heap) (locs : List Loc) (ls : Array Slot), zLI g s b x mo oa ar i H locs ls → W p l e room_1 s m #[Value.ref b] below meth c H locs (cells + 10) (slots + 300) Q (F0 m 1239 ls [])) : W p l e room_1 s m #[Value.ref b] below meth c H locs cells slots Q (F0 m 692 ls []) := by
  obtain ⟨hst, C, hX, hbl, hL⟩ := C0
  obtain ⟨S, M, T, hT, hF, ho, ho1, hM, I, hl⟩ := I0
  have hx := C.1
  have hb := C.2.1
  have hbA : ¬ (fun q : Nat => s.heap.size ≤ q) b := Nat.not_le.mpr hbl
  refine lv_aload_n hx hb dL_law_692 rfl (lv_at hl 1 rfl) ?_
  refine lv_aload_n hx hb dL_law_693 rfl (lv_at hl 0 rfl) ?_
  refine lv_iload hx hb dL_law_694 (lv_at hl 4 rfl) ?_
  refine lv_iconst (v := 1) hx hb dL_law_696 (by decide) ?_
  refine lv_iadd hx hb dL_law_697 ?_
  refine zr_top (y := nI (i + 1)) (nI_add i 1) ?_
  refine va_sld hx hb hX hbl hbA I.S (vp_in_nI (n := i + 1) (by omega) (by omega)) dL_law_698 ?_
  refine lv_topi (fun i1 e1 => ?_)
  refine lv_aload_n hx hb dL_law_699 rfl (lv_at hl 3 rfl) ?_
  have hcb : zc_entry T i1 ≤ 3 := zb_entry T i1
  refine zc_SH (n := 3) (rest := []) C I (k_L_sum l g hst S T x oa i1 hT hF ho ho1) zm_416 zm_417 zm_23 zm_418 rfl hl.1 dL_law_700 (by decide +kernel) rfl ⟨Nat.le_of_ble_eq_true rfl, Nat.le_of_ble_eq_true rfl⟩ (Nat.le_of_ble_eq_true rfl) ⟨hc, hs⟩ (fun v S' H locs hq I => ?_)
  obtain ⟨rfl, hF1, ho2, hn1, hJ⟩ := hq
  have ho1 := ho2
  have I := I.swap
  refine W.widen (k := cells + 10) (n := slots + 300) (Nat.le_refl _) (Nat.le_refl _) ?_
  refine lv_istore (lv' := [(5, .int (nI (zc_entry T i1))), (0, .ref b), (1, .ref x), (2, .ref mo), (3, .ref oa), (4, .int (nI i))]) hx hb dL_law_703 hl (by decide) rfl (fun ls hl => ?_)
  refine lv_aload_n hx hb dL_law_705 rfl (lv_at hl 3 rfl) ?_
  refine lv_aload_n hx hb dL_law_706 rfl (lv_at hl 1 rfl) ?_
  refine lv_iload hx hb dL_law_707 (lv_at hl 5 rfl) ?_
  refine lv_iconst (v := 1) hx hb dL_law_709 (by decide) ?_
  refine lv_iadd hx hb dL_law_710 ?_
  refine zr_top (y := nI (i + 1)) (nI_add i 1) ?_
  refine va_sld hx hb hX hbl hbA I.S (vp_in_nI (n := i + 1) (by omega) (by omega)) dL_law_711 ?_
  refine zr_top (y := i1) e1.symm ?_
  refine zc_V (n := 1) (rest := []) C I hM.1 rfl rfl (k_X4_sum l g M T mo ar hT hM i1) zm_640 zm_641 zm_642 zm_28 zm_643 rfl hl.1 dL_law_712 (by decide +kernel) rfl ⟨Nat.le_of_ble_eq_true rfl, Nat.le_of_ble_eq_true rfl⟩ (Nat.le_of_ble_eq_true rfl) ⟨hc, hs⟩ (fun v M' H locs hq I => ?_)
  obtain ⟨h20, hM1, hkM, v1, rfl, hw⟩ := hq
  refine W.widen (k := cells + 10) (n := slots + 300) (Nat.le_refl _) (Nat.le_refl _) ?_
  refine lv_istore (lv' := [(6, .int v1), (5, .int (nI (zc_entry T i1))), (0, .ref b), (1, .ref x), (2, .ref mo), (3, .ref oa), (4, .int (nI i))]) hx hb dL_law_715 hl (by decide) rfl (fun ls hl => ?_)
  refine lv_aload_n hx hb dL_law_717 rfl (lv_at hl 4 rfl) ?_
  refine zc_V (n := 0) (rest := []) C I hM1.1 rfl rfl (k_X4_thrown l g M' mo hM1.1) zm_563 zm_564 zm_565 zm_28 zm_566 rfl hl.1 dL_law_718 (by decide +kernel) rfl ⟨Nat.le_of_ble_eq_true rfl, Nat.le_of_ble_eq_true rfl⟩ (Nat.le_of_ble_eq_true rfl) ⟨hc, hs⟩ (fun v M2 H locs hq I => ?_)
  obtain ⟨rfl, eM⟩ := hq
  rw [eM] at I
  have I := I.swap
  refine W.widen (k := cells + 10) (n := slots + 300) (Nat.le_refl _) (Nat.le_refl _) ?_
  refine zr_top (y := nI (zc_entry T i1)) (h20) ?_
  refine lv_iload hx hb dL_law_721 (lv_at hl 1 rfl) ?_
  refine lv_icmp_eq (tgt := 728) hx hb dL_law_723 (by decide) (fun _ => ?_) (fun h9 => absurd ((nI_eq (a := zc_entry T i1) (b := zc_entry T i1) (by omega) (by omega)).mpr (rfl)) h9)
  refine lv_iload hx hb dL_law_728 (lv_at hl 1 rfl) ?_
  refine lv_if_ne (tgt := 745) hx hb dL_law_730 (by decide) (fun c8 => ?_) (fun c8 => ?_)
  · have c8 : ¬ (zc_entry T i1) = 0 := fun h9 => c8 ((nI_eq (a := zc_entry T i1) (b := 0) (by omega) (by omega)).mpr h9)
    refine lv_goto (tgt := 1239) hx hb dL_law_745 (by decide) ?_
    exact K _ _ _ ⟨S', M', _, hT, hF1, ho1, hn1, hM1, I, lv_sub hl [2, 3, 4, 5, 6] rfl⟩
  · have c8 : (zc_entry T i1) = 0 := (nI_eq (a := zc_entry T i1) (b := 0) (by omega) (by omega)).mp c8
    refine lv_aload_n hx hb dL_law_733 rfl (lv_at hl 5 rfl) ?_
    refine lv_iconst (v := 0) hx hb dL_law_734 (by decide) ?_
    refine zr_lald (v := (nI (T.2 11 (zx i1))).toInt64) C I ho1 (by rw [hn1]; exact (show vp_in (nI 0) 1 from vp_in_nI (by omega) (by omega))) (by rw [show (0 : Int32).toNatClampNeg = 0 from by decide]; exact hJ c8) dL_law_735 ?_
    refine lv_iload hx hb dL_law_736 (lv_at hl 0 rfl) ?_
    refine zr_top (y := nI (T.2 11 (zx i1))) (hw c8) ?_
    refine lv_i2l hx hb dL_law_738 rfl ?_
    refine W.lcmp hx hb dL_law_739 ?_
    refine zr_top (y := 0) (lg_self _) ?_
    refine lv_if_eq (tgt := 745) hx hb dL_law_740 (by decide) (fun _ => ?_) (fun h9 => absurd ((nI_eq (a := 0) (b := 0) (by omega) (by omega)).mpr (rfl)) h9)
    refine lv_goto (tgt := 1239) hx hb dL_law_745 (by decide) ?_
    exact K _ _ _ ⟨S', M', _, hT, hF1, ho1, hn1, hM1, I, lv_sub hl [2, 3, 4, 5, 6] rfl⟩

set_option maxRecDepth 100000 in
set_option maxHeartbeats 4000000 in
theorem k_law_alter (C0 : zLC p l s m c b L xs) (hi : i + 4 ≤ L) (hc : cells + 10 ≤ 601024) (hs : slots + 300 ≤ 7293034) (I0 : zLI g s b x mo oa ar i H locs ls)
    (K : ∀ (H : Heap) (locs : List Loc) (ls : Array Slot), zLI g s b x mo oa ar i H locs ls → W p l e room_1 s m #[Value.ref b] below meth c H locs (cells + 10) (slots + 300) Q (F0 m 1239 ls [])) : W p l e room_1 s m #[Value.ref b] below meth c H locs cells slots Q (F0 m 748 ls []) := by
  obtain ⟨hst, C, hX, hbl, hL⟩ := C0
  obtain ⟨S, M, T, hT, hF, ho, ho1, hM, I, hl⟩ := I0
  have hx := C.1
  have hb := C.2.1
  have hbA : ¬ (fun q : Nat => s.heap.size ≤ q) b := Nat.not_le.mpr hbl
  refine lv_aload_n hx hb dL_law_748 rfl (lv_at hl 1 rfl) ?_
  refine lv_aload_n hx hb dL_law_749 rfl (lv_at hl 0 rfl) ?_
  refine lv_iload hx hb dL_law_750 (lv_at hl 4 rfl) ?_
  refine lv_iconst (v := 1) hx hb dL_law_752 (by decide) ?_
  refine lv_iadd hx hb dL_law_753 ?_
  refine zr_top (y := nI (i + 1)) (nI_add i 1) ?_
  refine va_sld hx hb hX hbl hbA I.S (vp_in_nI (n := i + 1) (by omega) (by omega)) dL_law_754 ?_
  refine lv_topi (fun i1 e1 => ?_)
  refine lv_aload_n hx hb dL_law_755 rfl (lv_at hl 0 rfl) ?_
  refine lv_iload hx hb dL_law_756 (lv_at hl 4 rfl) ?_
  refine lv_iconst (v := 2) hx hb dL_law_758 (by decide) ?_
  refine lv_iadd hx hb dL_law_759 ?_
  refine zr_top (y := nI (i + 2)) (nI_add i 2) ?_
  refine va_sld hx hb hX hbl hbA I.S (vp_in_nI (n := i + 2) (by omega) (by omega)) dL_law_760 ?_
  refine lv_topi (fun i2 e2 => ?_)
  refine lv_aload_n hx hb dL_law_761 rfl (lv_at hl 3 rfl) ?_
  have hcb : zc_alter T i1 i2 ≤ 3 := zb_alter T i1 i2
  refine zc_SH (n := 4) (rest := []) C I (k_L_alter l g hst S T x oa i1 i2 hT hF ho ho1) zm_423 zm_424 zm_23 zm_425 rfl hl.1 dL_law_762 (by decide +kernel) rfl ⟨Nat.le_of_ble_eq_true rfl, Nat.le_of_ble_eq_true rfl⟩ (Nat.le_of_ble_eq_true rfl) ⟨hc, hs⟩ (fun v S' H locs hq I => ?_)
  obtain ⟨rfl, hF1, ho2, hn1, hJ⟩ := hq
  have ho1 := ho2
  have I := I.swap
  refine W.widen (k := cells + 10) (n := slots + 300) (Nat.le_refl _) (Nat.le_refl _) ?_
  refine lv_istore (lv' := [(5, .int (nI (zc_alter T i1 i2))), (0, .ref b), (1, .ref x), (2, .ref mo), (3, .ref oa), (4, .int (nI i))]) hx hb dL_law_765 hl (by decide) rfl (fun ls hl => ?_)
  refine lv_aload_n hx hb dL_law_767 rfl (lv_at hl 3 rfl) ?_
  refine lv_aload_n hx hb dL_law_768 rfl (lv_at hl 1 rfl) ?_
  refine lv_iload hx hb dL_law_769 (lv_at hl 5 rfl) ?_
  refine lv_iconst (v := 1) hx hb dL_law_771 (by decide) ?_
  refine lv_iadd hx hb dL_law_772 ?_
  refine zr_top (y := nI (i + 1)) (nI_add i 1) ?_
  refine va_sld hx hb hX hbl hbA I.S (vp_in_nI (n := i + 1) (by omega) (by omega)) dL_law_773 ?_
  refine zr_top (y := i1) e1.symm ?_
  refine lv_aload_n hx hb dL_law_774 rfl (lv_at hl 1 rfl) ?_
  refine lv_iload hx hb dL_law_775 (lv_at hl 5 rfl) ?_
  refine lv_iconst (v := 2) hx hb dL_law_777 (by decide) ?_
  refine lv_iadd hx hb dL_law_778 ?_
  refine zr_top (y := nI (i + 2)) (nI_add i 2) ?_
  refine va_sld hx hb hX hbl hbA I.S (vp_in_nI (n := i + 2) (by omega) (by omega)) dL_law_779 ?_
  refine zr_top (y := i2) e2.symm ?_
  refine zc_V (n := 2) (rest := []) C I hM.1 rfl rfl (k_X4_alter l g M T mo ar hT hM i1 i2) zm_644 zm_645 zm_646 zm_28 zm_647 rfl hl.1 dL_law_780 (by decide +kernel) rfl ⟨Nat.le_of_ble_eq_true rfl, Nat.le_of_ble_eq_true rfl⟩ (Nat.le_of_ble_eq_true rfl) ⟨hc, hs⟩ (fun v M' H locs hq I => ?_)
  obtain ⟨h20, hM1, hkM, v1, rfl, hw⟩ := hq
  refine W.widen (k := cells + 10) (n := slots + 300) (Nat.le_refl _) (Nat.le_refl _) ?_
  refine lv_istore (lv' := [(6, .int v1), (5, .int (nI (zc_alter T i1 i2))), (0, .ref b), (1, .ref x), (2, .ref mo), (3, .ref oa), (4, .int (nI i))]) hx hb dL_law_783 hl (by decide) rfl (fun ls hl => ?_)
  refine lv_aload_n hx hb dL_law_785 rfl (lv_at hl 4 rfl) ?_
  refine zc_V (n := 0) (rest := []) C I hM1.1 rfl rfl (k_X4_thrown l g M' mo hM1.1) zm_563 zm_564 zm_565 zm_28 zm_566 rfl hl.1 dL_law_786 (by decide +kernel) rfl ⟨Nat.le_of_ble_eq_true rfl, Nat.le_of_ble_eq_true rfl⟩ (Nat.le_of_ble_eq_true rfl) ⟨hc, hs⟩ (fun v M2 H locs hq I => ?_)
  obtain ⟨rfl, eM⟩ := hq
  rw [eM] at I
  have I := I.swap
  refine W.widen (k := cells + 10) (n := slots + 300) (Nat.le_refl _) (Nat.le_refl _) ?_
  refine zr_top (y := nI (zc_alter T i1 i2)) (h20) ?_
  refine lv_iload hx hb dL_law_789 (lv_at hl 1 rfl) ?_
  refine lv_icmp_eq (tgt := 796) hx hb dL_law_791 (by decide) (fun _ => ?_) (fun h9 => absurd ((nI_eq (a := zc_alter T i1 i2) (b := zc_alter T i1 i2) (by omega) (by omega)).mpr (rfl)) h9)
  refine lv_iload hx hb dL_law_796 (lv_at hl 1 rfl) ?_
  refine lv_if_ne (tgt := 813) hx hb dL_law_798 (by decide) (fun c8 => ?_) (fun c8 => ?_)
  · have c8 : ¬ (zc_alter T i1 i2) = 0 := fun h9 => c8 ((nI_eq (a := zc_alter T i1 i2) (b := 0) (by omega) (by omega)).mpr h9)
    refine lv_goto (tgt := 1239) hx hb dL_law_813 (by decide) ?_
    exact K _ _ _ ⟨S', M', _, zt_ok_alter hT i1 i2, hF1, ho1, hn1, hM1, I, lv_sub hl [2, 3, 4, 5, 6] rfl⟩
  · have c8 : (zc_alter T i1 i2) = 0 := (nI_eq (a := zc_alter T i1 i2) (b := 0) (by omega) (by omega)).mp c8
    refine lv_aload_n hx hb dL_law_801 rfl (lv_at hl 5 rfl) ?_
    refine lv_iconst (v := 0) hx hb dL_law_802 (by decide) ?_
    refine zr_lald (v := (nI (T.2 9 (zx i1))).toInt64) C I ho1 (by rw [hn1]; exact (show vp_in (nI 0) 1 from vp_in_nI (by omega) (by omega))) (by rw [show (0 : Int32).toNatClampNeg = 0 from by decide]; exact hJ c8) dL_law_803 ?_
    refine lv_iload hx hb dL_law_804 (lv_at hl 0 rfl) ?_
    refine zr_top (y := nI (T.2 9 (zx i1))) (hw c8) ?_
    refine lv_i2l hx hb dL_law_806 rfl ?_
    refine W.lcmp hx hb dL_law_807 ?_
    refine zr_top (y := 0) (lg_self _) ?_
    refine lv_if_eq (tgt := 813) hx hb dL_law_808 (by decide) (fun _ => ?_) (fun h9 => absurd ((nI_eq (a := 0) (b := 0) (by omega) (by omega)).mpr (rfl)) h9)
    refine lv_goto (tgt := 1239) hx hb dL_law_813 (by decide) ?_
    exact K _ _ _ ⟨S', M', _, zt_ok_alter hT i1 i2, hF1, ho1, hn1, hM1, I, lv_sub hl [2, 3, 4, 5, 6] rfl⟩

end ZLAW
