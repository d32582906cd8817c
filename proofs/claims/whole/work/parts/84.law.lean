/-! the law's branches -/
section ZLAW
variable {p : Program} {l : Launch} {e : Env} {s : State} {m : MethodId} {below : List Frame} {meth : Method} {c : Code} {H : Heap} {locs : List Loc} {cells slots : Nat} {Q : State → Prop} {g : zG} {b L i x mo oa : Nat} {xs : Nat → Int32} {ar : Nat → Nat} {ls : Array Slot}

set_option maxRecDepth 100000 in
set_option maxHeartbeats 4000000 in
theorem k_law_isStruck (C0 : zLC p l s m c b L xs) (hi : i + 4 ≤ L) (hc : cells + 10 ≤ 601024) (hs : slots + 300 ≤ 7293034) (I0 : zLI g s b x mo oa ar i H locs ls)
    (K : ∀ (H : Heap) (locs : List Loc) (ls : Array Slot), zLI g s b x mo oa ar i H locs ls → W p l e room_1 s m #[Value.ref b] below meth c H locs (cells + 10) (slots + 300) Q (F0 m 1239 ls [])) : W p l e room_1 s m #[Value.ref b] below meth c H locs cells slots Q (F0 m 997 ls []) := by
  obtain ⟨hst, C, hX, hbl, hL⟩ := C0
  obtain ⟨S, M, T, hT, hF, ho, ho1, hM, I, hl⟩ := I0
  have hx := C.1
  have hb := C.2.1
  have hbA : ¬ (fun q : Nat => s.heap.size ≤ q) b := Nat.not_le.mpr hbl
  refine lv_aload_n hx hb dL_law_997 rfl (lv_at hl 1 rfl) ?_
  refine lv_aload_n hx hb dL_law_998 rfl (lv_at hl 0 rfl) ?_
  refine lv_iload hx hb dL_law_999 (lv_at hl 4 rfl) ?_
  refine lv_iconst (v := 1) hx hb dL_law_1001 (by decide) ?_
  refine lv_iadd hx hb dL_law_1002 ?_
  refine zr_top (y := nI (i + 1)) (nI_add i 1) ?_
  refine va_sld hx hb hX hbl hbA I.S (vp_in_nI (n := i + 1) (by omega) (by omega)) dL_law_1003 ?_
  refine lv_topi (fun i1 e1 => ?_)
  refine lv_aload_n hx hb dL_law_1004 rfl (lv_at hl 3 rfl) ?_
  have hcb : zc_entry T i1 ≤ 3 := zb_entry T i1
  refine zc_SH (n := 3) (rest := []) C I (k_L_isStruck l g hst S T x oa i1 hT hF ho ho1) zm_465 zm_466 zm_23 zm_467 rfl hl.1 dL_law_1005 (by decide +kernel) rfl ⟨Nat.le_of_ble_eq_true rfl, Nat.le_of_ble_eq_true rfl⟩ (Nat.le_of_ble_eq_true rfl) ⟨hc, hs⟩ (fun v S' H locs hq I => ?_)
  obtain ⟨rfl, hF1, ho2, hn1, hJ⟩ := hq
  have ho1 := ho2
  have I := I.swap
  refine W.widen (k := cells + 10) (n := slots + 300) (Nat.le_refl _) (Nat.le_refl _) ?_
  refine lv_istore (lv' := [(5, .int (nI (zc_entry T i1))), (0, .ref b), (1, .ref x), (2, .ref mo), (3, .ref oa), (4, .int (nI i))]) hx hb dL_law_1008 hl (by decide) rfl (fun ls hl => ?_)
  refine lv_aload_n hx hb dL_law_1010 rfl (lv_at hl 3 rfl) ?_
  refine lv_aload_n hx hb dL_law_1011 rfl (lv_at hl 1 rfl) ?_
  refine lv_iload hx hb dL_law_1012 (lv_at hl 5 rfl) ?_
  refine lv_iconst (v := 1) hx hb dL_law_1014 (by decide) ?_
  refine lv_iadd hx hb dL_law_1015 ?_
  refine zr_top (y := nI (i + 1)) (nI_add i 1) ?_
  refine va_sld hx hb hX hbl hbA I.S (vp_in_nI (n := i + 1) (by omega) (by omega)) dL_law_1016 ?_
  refine zr_top (y := i1) e1.symm ?_
  refine zc_V (n := 1) (rest := []) C I hM.1 rfl rfl (k_X4_isStruck l g M T mo ar hT hM i1) zm_670 zm_671 zm_672 zm_28 zm_673 rfl hl.1 dL_law_1017 (by decide +kernel) rfl ⟨Nat.le_of_ble_eq_true rfl, Nat.le_of_ble_eq_true rfl⟩ (Nat.le_of_ble_eq_true rfl) ⟨hc, hs⟩ (fun v M' H locs hq I => ?_)
  obtain ⟨h20, hM1, hkM, v1, rfl, hw⟩ := hq
  refine W.widen (k := cells + 10) (n := slots + 300) (Nat.le_refl _) (Nat.le_refl _) ?_
  refine lv_istore (lv' := [(6, .int v1), (5, .int (nI (zc_entry T i1))), (0, .ref b), (1, .ref x), (2, .ref mo), (3, .ref oa), (4, .int (nI i))]) hx hb dL_law_1020 hl (by decide) rfl (fun ls hl => ?_)
  refine lv_aload_n hx hb dL_law_1022 rfl (lv_at hl 4 rfl) ?_
  refine zc_V (n := 0) (rest := []) C I hM1.1 rfl rfl (k_X4_thrown l g M' mo hM1.1) zm_563 zm_564 zm_565 zm_28 zm_566 rfl hl.1 dL_law_1023 (by decide +kernel) rfl ⟨Nat.le_of_ble_eq_true rfl, Nat.le_of_ble_eq_true rfl⟩ (Nat.le_of_ble_eq_true rfl) ⟨hc, hs⟩ (fun v M2 H locs hq I => ?_)
  obtain ⟨rfl, eM⟩ := hq
  rw [eM] at I
  have I := I.swap
  refine W.widen (k := cells + 10) (n := slots + 300) (Nat.le_refl _) (Nat.le_refl _) ?_
  refine zr_top (y := nI (zc_entry T i1)) (h20) ?_
  refine lv_iload hx hb dL_law_1026 (lv_at hl 1 rfl) ?_
  refine lv_icmp_eq (tgt := 1033) hx hb dL_law_1028 (by decide) (fun _ => ?_) (fun h9 => absurd ((nI_eq (a := zc_entry T i1) (b := zc_entry T i1) (by omega) (by omega)).mpr (rfl)) h9)
  refine lv_iload hx hb dL_law_1033 (lv_at hl 1 rfl) ?_
  refine lv_if_ne (tgt := 1057) hx hb dL_law_1035 (by decide) (fun c8 => ?_) (fun c8 => ?_)
  · have c8 : ¬ (zc_entry T i1) = 0 := fun h9 => c8 ((nI_eq (a := zc_entry T i1) (b := 0) (by omega) (by omega)).mpr h9)
    refine lv_goto (tgt := 1239) hx hb dL_law_1057 (by decide) ?_
    exact K _ _ _ ⟨S', M', _, hT, hF1, ho1, hn1, hM1, I, lv_sub hl [2, 3, 4, 5, 6] rfl⟩
  · have c8 : (zc_entry T i1) = 0 := (nI_eq (a := zc_entry T i1) (b := 0) (by omega) (by omega)).mp c8
    refine lv_aload_n hx hb dL_law_1038 rfl (lv_at hl 5 rfl) ?_
    refine lv_iconst (v := 0) hx hb dL_law_1039 (by decide) ?_
    refine zr_lald (v := if T.2 12 (zx i1) = 0 then 0 else 1) C I ho1 (by rw [hn1]; exact (show vp_in (nI 0) 1 from vp_in_nI (by omega) (by omega))) (by rw [show (0 : Int32).toNatClampNeg = 0 from by decide]; exact hJ c8) dL_law_1040 ?_
    refine lv_iload hx hb dL_law_1041 (lv_at hl 0 rfl) ?_
    refine zr_top (y := nI (T.2 12 (zx i1))) (hw c8) ?_
    have hb2 : T.2 12 (zx i1) ≤ 1 := (hT.2.2.2.2.1 (zx i1) ((zi_cases i1 (n := T.1.2) (by have := hT.2.1; omega)).elim (fun h => absurd ((if_pos h : zc_entry T i1 = 1).symm.trans c8) (by decide)) (fun h => h.2.1))).2.2.2.2.2.2.2.2.2
    refine lv_if_eq (tgt := 1050) hx hb dL_law_1043 (by decide) (fun c7 => ?_) (fun c7 => ?_)
    · have c7 : (T.2 12 (zx i1)) = 0 := (nI_eq (a := T.2 12 (zx i1)) (b := 0) (by omega) (by omega)).mp c7
      refine lv_lconst (v := 0) hx hb dL_law_1050 (by decide) ?_
      rw [if_pos c7]
      refine W.lcmp hx hb dL_law_1051 ?_
      refine zr_top (y := 0) (lg_self _) ?_
      refine lv_if_eq (tgt := 1057) hx hb dL_law_1052 (by decide) (fun _ => ?_) (fun h9 => absurd ((nI_eq (a := 0) (b := 0) (by omega) (by omega)).mpr (rfl)) h9)
      refine lv_goto (tgt := 1239) hx hb dL_law_1057 (by decide) ?_
      exact K _ _ _ ⟨S', M', _, hT, hF1, ho1, hn1, hM1, I, lv_sub hl [2, 3, 4, 5, 6] rfl⟩
    · have c7 : ¬ (T.2 12 (zx i1)) = 0 := fun h9 => c7 ((nI_eq (a := T.2 12 (zx i1)) (b := 0) (by omega) (by omega)).mpr h9)
      refine lv_lconst (v := 1) hx hb dL_law_1046 (by decide) ?_
      refine lv_goto (tgt := 1051) hx hb dL_law_1047 (by decide) ?_
      rw [if_neg c7]
      refine W.lcmp hx hb dL_law_1051 ?_
      refine zr_top (y := 0) (lg_self _) ?_
      refine lv_if_eq (tgt := 1057) hx hb dL_law_1052 (by decide) (fun _ => ?_) (fun h9 => absurd ((nI_eq (a := 0) (b := 0) (by omega) (by omega)).mpr (rfl)) h9)
      refine lv_goto (tgt := 1239) hx hb dL_law_1057 (by decide) ?_
      exact K _ _ _ ⟨S', M', _, hT, hF1, ho1, hn1, hM1, I, lv_sub hl [2, 3, 4, 5, 6] rfl⟩

set_option maxRecDepth 100000 in
set_option maxHeartbeats 4000000 in
theorem k_law_count (C0 : zLC p l s m c b L xs) (hi : i + 4 ≤ L) (hc : cells + 10 ≤ 601024) (hs : slots + 300 ≤ 7293034) (I0 : zLI g s b x mo oa ar i H locs ls)
    (K : ∀ (H : Heap) (locs : List Loc) (ls : Array Slot), zLI g s b x mo oa ar i H locs ls → W p l e room_1 s m #[Value.ref b] below meth c H locs (cells + 10) (slots + 300) Q (F0 m 1239 ls [])) : W p l e room_1 s m #[Value.ref b] below meth c H locs cells slots Q (F0 m 1060 ls []) := by
  obtain ⟨hst, C, hX, hbl, hL⟩ := C0
  obtain ⟨S, M, T, hT, hF, ho, ho1, hM, I, hl⟩ := I0
  have hx := C.1
  have hb := C.2.1
  have hbA : ¬ (fun q : Nat => s.heap.size ≤ q) b := Nat.not_le.mpr hbl
  refine lv_aload_n hx hb dL_law_1060 rfl (lv_at hl 1 rfl) ?_
  refine lv_aload_n hx hb dL_law_1061 rfl (lv_at hl 0 rfl) ?_
  refine lv_iload hx hb dL_law_1062 (lv_at hl 4 rfl) ?_
  refine lv_iconst (v := 1) hx hb dL_law_1064 (by decide) ?_
  refine lv_iadd hx hb dL_law_1065 ?_
  refine zr_top (y := nI (i + 1)) (nI_add i 1) ?_
  refine va_sld hx hb hX hbl hbA I.S (vp_in_nI (n := i + 1) (by omega) (by omega)) dL_law_1066 ?_
  refine lv_topi (fun i1 e1 => ?_)
  refine lv_aload_n hx hb dL_law_1067 rfl (lv_at hl 0 rfl) ?_
  refine lv_iload hx hb dL_law_1068 (lv_at hl 4 rfl) ?_
  refine lv_iconst (v := 2) hx hb dL_law_1070 (by decide) ?_
  refine lv_iadd hx hb dL_law_1071 ?_
  refine zr_top (y := nI (i + 2)) (nI_add i 2) ?_
  refine va_sld hx hb hX hbl hbA I.S (vp_in_nI (n := i + 2) (by omega) (by omega)) dL_law_1072 ?_
  refine lv_topi (fun i2 e2 => ?_)
  refine lv_aload_n hx hb dL_law_1073 rfl (lv_at hl 3 rfl) ?_
  have hcb : zc_count i1 i2 ≤ 3 := zb_count i1 i2
  refine zc_SH (n := 4) (rest := []) C I (k_L_count l g hst S T x oa i1 i2 hT hF ho ho1) zm_472 zm_473 zm_23 zm_474 rfl hl.1 dL_law_1074 (by decide +kernel) rfl ⟨Nat.le_of_ble_eq_true rfl, Nat.le_of_ble_eq_true rfl⟩ (Nat.le_of_ble_eq_true rfl) ⟨hc, hs⟩ (fun v S' H locs hq I => ?_)
  obtain ⟨rfl, hF1, ho2, hn1, hJ⟩ := hq
  have ho1 := ho2
  have I := I.swap
  refine W.widen (k := cells + 10) (n := slots + 300) (Nat.le_refl _) (Nat.le_refl _) ?_
  refine lv_istore (lv' := [(5, .int (nI (zc_count i1 i2))), (0, .ref b), (1, .ref x), (2, .ref mo), (3, .ref oa), (4, .int (nI i))]) hx hb dL_law_1077 hl (by decide) rfl (fun ls hl => ?_)
  refine lv_aload_n hx hb dL_law_1079 rfl (lv_at hl 3 rfl) ?_
  refine lv_aload_n hx hb dL_law_1080 rfl (lv_at hl 1 rfl) ?_
  refine lv_iload hx hb dL_law_1081 (lv_at hl 5 rfl) ?_
  refine lv_iconst (v := 1) hx hb dL_law_1083 (by decide) ?_
  refine lv_iadd hx hb dL_law_1084 ?_
  refine zr_top (y := nI (i + 1)) (nI_add i 1) ?_
  refine va_sld hx hb hX hbl hbA I.S (vp_in_nI (n := i + 1) (by omega) (by omega)) dL_law_1085 ?_
  refine zr_top (y := i1) e1.symm ?_
  refine lv_aload_n hx hb dL_law_1086 rfl (lv_at hl 1 rfl) ?_
  refine lv_iload hx hb dL_law_1087 (lv_at hl 5 rfl) ?_
  refine lv_iconst (v := 2) hx hb dL_law_1089 (by decide) ?_
  refine lv_iadd hx hb dL_law_1090 ?_
  refine zr_top (y := nI (i + 2)) (nI_add i 2) ?_
  refine va_sld hx hb hX hbl hbA I.S (vp_in_nI (n := i + 2) (by omega) (by omega)) dL_law_1091 ?_
  refine zr_top (y := i2) e2.symm ?_
  refine zc_V (n := 2) (rest := []) C I hM.1 rfl rfl (k_X4_count l g M T mo ar hT hM i1 i2) zm_674 zm_675 zm_676 zm_28 zm_677 rfl hl.1 dL_law_1092 (by decide +kernel) rfl ⟨Nat.le_of_ble_eq_true rfl, Nat.le_of_ble_eq_true rfl⟩ (Nat.le_of_ble_eq_true rfl) ⟨hc, hs⟩ (fun v M' H locs hq I => ?_)
  obtain ⟨h20, hM1, hkM, v1, rfl, hw⟩ := hq
  refine W.widen (k := cells + 10) (n := slots + 300) (Nat.le_refl _) (Nat.le_refl _) ?_
  refine lv_istore (lv' := [(6, .int v1), (5, .int (nI (zc_count i1 i2))), (0, .ref b), (1, .ref x), (2, .ref mo), (3, .ref oa), (4, .int (nI i))]) hx hb dL_law_1095 hl (by decide) rfl (fun ls hl => ?_)
  refine lv_aload_n hx hb dL_law_1097 rfl (lv_at hl 4 rfl) ?_
  refine zc_V (n := 0) (rest := []) C I hM1.1 rfl rfl (k_X4_thrown l g M' mo hM1.1) zm_563 zm_564 zm_565 zm_28 zm_566 rfl hl.1 dL_law_1098 (by decide +kernel) rfl ⟨Nat.le_of_ble_eq_true rfl, Nat.le_of_ble_eq_true rfl⟩ (Nat.le_of_ble_eq_true rfl) ⟨hc, hs⟩ (fun v M2 H locs hq I => ?_)
  obtain ⟨rfl, eM⟩ := hq
  rw [eM] at I
  have I := I.swap
  refine W.widen (k := cells + 10) (n := slots + 300) (Nat.le_refl _) (Nat.le_refl _) ?_
  refine zr_top (y := nI (zc_count i1 i2)) (h20) ?_
  refine lv_iload hx hb dL_law_1101 (lv_at hl 1 rfl) ?_
  refine lv_icmp_eq (tgt := 1108) hx hb dL_law_1103 (by decide) (fun _ => ?_) (fun h9 => absurd ((nI_eq (a := zc_count i1 i2) (b := zc_count i1 i2) (by omega) (by omega)).mpr (rfl)) h9)
  refine lv_iload hx hb dL_law_1108 (lv_at hl 1 rfl) ?_
  refine lv_if_ne (tgt := 1125) hx hb dL_law_1110 (by decide) (fun c8 => ?_) (fun c8 => ?_)
  · have c8 : ¬ (zc_count i1 i2) = 0 := fun h9 => c8 ((nI_eq (a := zc_count i1 i2) (b := 0) (by omega) (by omega)).mpr h9)
    refine lv_goto (tgt := 1239) hx hb dL_law_1125 (by decide) ?_
    exact K _ _ _ ⟨S', M', _, hT, hF1, ho1, hn1, hM1, I, lv_sub hl [2, 3, 4, 5, 6] rfl⟩
  · have c8 : (zc_count i1 i2) = 0 := (nI_eq (a := zc_count i1 i2) (b := 0) (by omega) (by omega)).mp c8
    refine lv_aload_n hx hb dL_law_1113 rfl (lv_at hl 5 rfl) ?_
    refine lv_iconst (v := 0) hx hb dL_law_1114 (by decide) ?_
    refine zr_lald (v := (nI (zt_cnt T (zx i1) (zx i2) T.1.2)).toInt64) C I ho1 (by rw [hn1]; exact (show vp_in (nI 0) 1 from vp_in_nI (by omega) (by omega))) (by rw [show (0 : Int32).toNatClampNeg = 0 from by decide]; exact hJ c8) dL_law_1115 ?_
    refine lv_iload hx hb dL_law_1116 (lv_at hl 0 rfl) ?_
    refine zr_top (y := nI (zt_cnt T (zx i1) (zx i2) T.1.2)) (hw c8) ?_
    refine lv_i2l hx hb dL_law_1118 rfl ?_
    refine W.lcmp hx hb dL_law_1119 ?_
    refine zr_top (y := 0) (lg_self _) ?_
    refine lv_if_eq (tgt := 1125) hx hb dL_law_1120 (by decide) (fun _ => ?_) (fun h9 => absurd ((nI_eq (a := 0) (b := 0) (by omega) (by omega)).mpr (rfl)) h9)
    refine lv_goto (tgt := 1239) hx hb dL_law_1125 (by decide) ?_
    exact K _ _ _ ⟨S', M', _, hT, hF1, ho1, hn1, hM1, I, lv_sub hl [2, 3, 4, 5, 6] rfl⟩

set_option maxRecDepth 100000 in
set_option maxHeartbeats 4000000 in
theorem k_law_uneven (C0 : zLC p l s m c b L xs) (hi : i + 4 ≤ L) (hc : cells + 10 ≤ 601024) (hs : slots + 300 ≤ 7293034) (I0 : zLI g s b x mo oa ar i H locs ls)
    (K : ∀ (H : Heap) (locs : List Loc) (ls : Array Slot), zLI g s b x mo oa ar i H locs ls → W p l e room_1 s m #[Value.ref b] below meth c H locs (cells + 10) (slots + 300) Q (F0 m 1239 ls [])) : W p l e room_1 s m #[Value.ref b] below meth c H locs cells slots Q (F0 m 1128 ls []) := by
  obtain ⟨hst, C, hX, hbl, hL⟩ := C0
  obtain ⟨S, M, T, hT, hF, ho, ho1, hM, I, hl⟩ := I0
  have hx := C.1
  have hb := C.2.1
  have hbA : ¬ (fun q : Nat => s.heap.size ≤ q) b := Nat.not_le.mpr hbl
  refine lv_aload_n hx hb dL_law_1128 rfl (lv_at hl 1 rfl) ?_
  refine lv_aload_n hx hb dL_law_1129 rfl (lv_at hl 0 rfl) ?_
  refine lv_iload hx hb dL_law_1130 (lv_at hl 4 rfl) ?_
  refine lv_iconst (v := 1) hx hb dL_law_1132 (by decide) ?_
  refine lv_iadd hx hb dL_law_1133 ?_
  refine zr_top (y := nI (i + 1)) (nI_add i 1) ?_
  refine va_sld hx hb hX hbl hbA I.S (vp_in_nI (n := i + 1) (by omega) (by omega)) dL_law_1134 ?_
  refine lv_topi (fun i1 e1 => ?_)
  refine lv_aload_n hx hb dL_law_1135 rfl (lv_at hl 3 rfl) ?_
  have hcb : zc_unev i1 ≤ 3 := zb_unev i1
  refine zc_SH (n := 3) (rest := []) C I (k_L_uneven l g hst S T x oa i1 hT hF ho ho1) zm_481 zm_482 zm_23 zm_483 rfl hl.1 dL_law_1136 (by decide +kernel) rfl ⟨Nat.le_of_ble_eq_true rfl, Nat.le_of_ble_eq_true rfl⟩ (Nat.le_of_ble_eq_true rfl) ⟨hc, hs⟩ (fun v S' H locs hq I => ?_)
  obtain ⟨rfl, hF1, ho2, hn1, hJ⟩ := hq
  have ho1 := ho2
  have I := I.swap
  refine W.widen (k := cells + 10) (n := slots + 300) (Nat.le_refl _) (Nat.le_refl _) ?_
  refine lv_istore (lv' := [(5, .int (nI (zc_unev i1))), (0, .ref b), (1, .ref x), (2, .ref mo), (3, .ref oa), (4, .int (nI i))]) hx hb dL_law_1139 hl (by decide) rfl (fun ls hl => ?_)
  refine lv_aload_n hx hb dL_law_1141 rfl (lv_at hl 3 rfl) ?_
  refine lv_aload_n hx hb dL_law_1142 rfl (lv_at hl 1 rfl) ?_
  refine lv_iload hx hb dL_law_1143 (lv_at hl 5 rfl) ?_
  refine lv_iconst (v := 1) hx hb dL_law_1145 (by decide) ?_
  refine lv_iadd hx hb dL_law_1146 ?_
  refine zr_top (y := nI (i + 1)) (nI_add i 1) ?_
  refine va_sld hx hb hX hbl hbA I.S (vp_in_nI (n := i + 1) (by omega) (by omega)) dL_law_1147 ?_
  refine zr_top (y := i1) e1.symm ?_
  refine zc_V (n := 1) (rest := []) C I hM.1 rfl rfl (k_X4_uneven l g M T mo ar hT hM i1) zm_681 zm_682 zm_683 zm_28 zm_684 rfl hl.1 dL_law_1148 (by decide +kernel) rfl ⟨Nat.le_of_ble_eq_true rfl, Nat.le_of_ble_eq_true rfl⟩ (Nat.le_of_ble_eq_true rfl) ⟨hc, hs⟩ (fun v M' H locs hq I => ?_)
  obtain ⟨h20, hM1, hkM, v1, rfl, hw⟩ := hq
  refine W.widen (k := cells + 10) (n := slots + 300) (Nat.le_refl _) (Nat.le_refl _) ?_
  refine lv_lstore (lv' := [(6, .long v1), (5, .int (nI (zc_unev i1))), (0, .ref b), (1, .ref x), (2, .ref mo), (3, .ref oa), (4, .int (nI i))]) hx hb dL_law_1151 hl (by decide) rfl (fun ls hl => ?_)
  refine lv_aload_n hx hb dL_law_1153 rfl (lv_at hl 4 rfl) ?_
  refine zc_V (n := 0) (rest := []) C I hM1.1 rfl rfl (k_X4_thrown l g M' mo hM1.1) zm_563 zm_564 zm_565 zm_28 zm_566 rfl hl.1 dL_law_1154 (by decide +kernel) rfl ⟨Nat.le_of_ble_eq_true rfl, Nat.le_of_ble_eq_true rfl⟩ (Nat.le_of_ble_eq_true rfl) ⟨hc, hs⟩ (fun v M2 H locs hq I => ?_)
  obtain ⟨rfl, eM⟩ := hq
  rw [eM] at I
  have I := I.swap
  refine W.widen (k := cells + 10) (n := slots + 300) (Nat.le_refl _) (Nat.le_refl _) ?_
  refine zr_top (y := nI (zc_unev i1)) (h20) ?_
  refine lv_iload hx hb dL_law_1157 (lv_at hl 1 rfl) ?_
  refine lv_icmp_eq (tgt := 1164) hx hb dL_law_1159 (by decide) (fun _ => ?_) (fun h9 => absurd ((nI_eq (a := zc_unev i1) (b := zc_unev i1) (by omega) (by omega)).mpr (rfl)) h9)
  refine lv_iload hx hb dL_law_1164 (lv_at hl 1 rfl) ?_
  refine lv_if_ne (tgt := 1180) hx hb dL_law_1166 (by decide) (fun c8 => ?_) (fun c8 => ?_)
  · have c8 : ¬ (zc_unev i1) = 0 := fun h9 => c8 ((nI_eq (a := zc_unev i1) (b := 0) (by omega) (by omega)).mpr h9)
    refine lv_goto (tgt := 1239) hx hb dL_law_1180 (by decide) ?_
    exact K _ _ _ ⟨S', M', _, hT, hF1, ho1, hn1, hM1, I, lv_sub hl [2, 3, 4, 5, 6] rfl⟩
  · have c8 : (zc_unev i1) = 0 := (nI_eq (a := zc_unev i1) (b := 0) (by omega) (by omega)).mp c8
    refine lv_aload_n hx hb dL_law_1169 rfl (lv_at hl 5 rfl) ?_
    refine lv_iconst (v := 0) hx hb dL_law_1170 (by decide) ?_
    refine zr_lald (v := zt_unev T (zx i1) (zx i1)) C I ho1 (by rw [hn1]; exact (show vp_in (nI 0) 1 from vp_in_nI (by omega) (by omega))) (by rw [show (0 : Int32).toNatClampNeg = 0 from by decide]; exact hJ c8) dL_law_1171 ?_
    refine lv_lload hx hb dL_law_1172 (lv_at hl 0 rfl) ?_
    refine zr_topl (y := zt_unev T (zx i1) (zx i1)) (hw c8) ?_
    refine W.lcmp hx hb dL_law_1174 ?_
    refine zr_top (y := 0) (lg_self _) ?_
    refine lv_if_eq (tgt := 1180) hx hb dL_law_1175 (by decide) (fun _ => ?_) (fun h9 => absurd ((nI_eq (a := 0) (b := 0) (by omega) (by omega)).mpr (rfl)) h9)
    refine lv_goto (tgt := 1239) hx hb dL_law_1180 (by decide) ?_
    exact K _ _ _ ⟨S', M', _, hT, hF1, ho1, hn1, hM1, I, lv_sub hl [2, 3, 4, 5, 6] rfl⟩

set_option maxRecDepth 100000 in
set_option maxHeartbeats 4000000 in
theorem k_law_total (C0 : zLC p l s m c b L xs) (hi : i + 4 ≤ L) (hc : cells + 10 ≤ 601024) (hs : slots + 300 ≤ 7293034) (I0 : zLI g s b x mo oa ar i H locs ls)
    (K : ∀ (H : Heap) (locs : List Loc) (ls : Array Slot), zLI g s b x mo oa ar i H locs ls → W p l e room_1 s m #[Value.ref b] below meth c H locs (cells + 10) (slots + 300) Q (F0 m 1239 ls [])) : W p l e room_1 s m #[Value.ref b] below meth c H locs cells slots Q (F0 m 1183 ls []) := by
  obtain ⟨hst, C, hX, hbl, hL⟩ := C0
  obtain ⟨S, M, T, hT, hF, ho, ho1, hM, I, hl⟩ := I0
  have hx := C.1
  have hb := C.2.1
  have hbA : ¬ (fun q : Nat => s.heap.size ≤ q) b := Nat.not_le.mpr hbl
  refine lv_aload_n hx hb dL_law_1183 rfl (lv_at hl 1 rfl) ?_
  refine lv_aload_n hx hb dL_law_1184 rfl (lv_at hl 0 rfl) ?_
  refine lv_iload hx hb dL_law_1185 (lv_at hl 4 rfl) ?_
  refine lv_iconst (v := 1) hx hb dL_law_1187 (by decide) ?_
  refine lv_iadd hx hb dL_law_1188 ?_
  refine zr_top (y := nI (i + 1)) (nI_add i 1) ?_
  refine va_sld hx hb hX hbl hbA I.S (vp_in_nI (n := i + 1) (by omega) (by omega)) dL_law_1189 ?_
  refine lv_topi (fun i1 e1 => ?_)
  refine lv_aload_n hx hb dL_law_1190 rfl (lv_at hl 3 rfl) ?_
  have hcb : zc_tab i1 ≤ 3 := zb_tab i1
  refine zc_SH (n := 3) (rest := []) C I (k_L_total l g hst S T x oa i1 hT hF ho ho1) zm_494 zm_495 zm_23 zm_496 rfl hl.1 dL_law_1191 (by decide +kernel) rfl ⟨Nat.le_of_ble_eq_true rfl, Nat.le_of_ble_eq_true rfl⟩ (Nat.le_of_ble_eq_true rfl) ⟨hc, hs⟩ (fun v S' H locs hq I => ?_)
  obtain ⟨rfl, hF1, ho2, hn1, hJ⟩ := hq
  have ho1 := ho2
  have I := I.swap
  refine W.widen (k := cells + 10) (n := slots + 300) (Nat.le_refl _) (Nat.le_refl _) ?_
  refine lv_istore (lv' := [(5, .int (nI (zc_tab i1))), (0, .ref b), (1, .ref x), (2, .ref mo), (3, .ref oa), (4, .int (nI i))]) hx hb dL_law_1194 hl (by decide) rfl (fun ls hl => ?_)
  refine lv_aload_n hx hb dL_law_1196 rfl (lv_at hl 3 rfl) ?_
  refine lv_aload_n hx hb dL_law_1197 rfl (lv_at hl 1 rfl) ?_
  refine lv_iload hx hb dL_law_1198 (lv_at hl 5 rfl) ?_
  refine lv_iconst (v := 1) hx hb dL_law_1200 (by decide) ?_
  refine lv_iadd hx hb dL_law_1201 ?_
  refine zr_top (y := nI (i + 1)) (nI_add i 1) ?_
  refine va_sld hx hb hX hbl hbA I.S (vp_in_nI (n := i + 1) (by omega) (by omega)) dL_law_1202 ?_
  refine zr_top (y := i1) e1.symm ?_
  refine zc_V (n := 1) (rest := []) C I hM.1 rfl rfl (k_X4_total l g M T mo ar hT hM i1) zm_685 zm_686 zm_687 zm_28 zm_688 rfl hl.1 dL_law_1203 (by decide +kernel) rfl ⟨Nat.le_of_ble_eq_true rfl, Nat.le_of_ble_eq_true rfl⟩ (Nat.le_of_ble_eq_true rfl) ⟨hc, hs⟩ (fun v M' H locs hq I => ?_)
  obtain ⟨h20, hM1, hkM, v1, rfl, hw⟩ := hq
  refine W.widen (k := cells + 10) (n := slots + 300) (Nat.le_refl _) (Nat.le_refl _) ?_
  refine lv_istore (lv' := [(6, .int v1), (5, .int (nI (zc_tab i1))), (0, .ref b), (1, .ref x), (2, .ref mo), (3, .ref oa), (4, .int (nI i))]) hx hb dL_law_1206 hl (by decide) rfl (fun ls hl => ?_)
  refine lv_aload_n hx hb dL_law_1208 rfl (lv_at hl 4 rfl) ?_
  refine zc_V (n := 0) (rest := []) C I hM1.1 rfl rfl (k_X4_thrown l g M' mo hM1.1) zm_563 zm_564 zm_565 zm_28 zm_566 rfl hl.1 dL_law_1209 (by decide +kernel) rfl ⟨Nat.le_of_ble_eq_true rfl, Nat.le_of_ble_eq_true rfl⟩ (Nat.le_of_ble_eq_true rfl) ⟨hc, hs⟩ (fun v M2 H locs hq I => ?_)
  obtain ⟨rfl, eM⟩ := hq
  rw [eM] at I
  have I := I.swap
  refine W.widen (k := cells + 10) (n := slots + 300) (Nat.le_refl _) (Nat.le_refl _) ?_
  refine zr_top (y := nI (zc_tab i1)) (h20) ?_
  refine lv_iload hx hb dL_law_1212 (lv_at hl 1 rfl) ?_
  refine lv_icmp_eq (tgt := 1219) hx hb dL_law_1214 (by decide) (fun _ => ?_) (fun h9 => absurd ((nI_eq (a := zc_tab i1) (b := zc_tab i1) (by omega) (by omega)).mpr (rfl)) h9)
  refine lv_iload hx hb dL_law_1219 (lv_at hl 1 rfl) ?_
  refine lv_if_ne (tgt := 1236) hx hb dL_law_1221 (by decide) (fun c8 => ?_) (fun c8 => ?_)
  · have c8 : ¬ (zc_tab i1) = 0 := fun h9 => c8 ((nI_eq (a := zc_tab i1) (b := 0) (by omega) (by omega)).mpr h9)
    refine lv_goto (tgt := 1239) hx hb dL_law_1236 (by decide) ?_
    exact K _ _ _ ⟨S', M', _, hT, hF1, ho1, hn1, hM1, I, lv_sub hl [2, 3, 4, 5, 6] rfl⟩
  · have c8 : (zc_tab i1) = 0 := (nI_eq (a := zc_tab i1) (b := 0) (by omega) (by omega)).mp c8
    refine lv_aload_n hx hb dL_law_1224 rfl (lv_at hl 5 rfl) ?_
    refine lv_iconst (v := 0) hx hb dL_law_1225 (by decide) ?_
    refine zr_lald (v := (nI (zt_total T (zx i1) T.1.2)).toInt64) C I ho1 (by rw [hn1]; exact (show vp_in (nI 0) 1 from vp_in_nI (by omega) (by omega))) (by rw [show (0 : Int32).toNatClampNeg = 0 from by decide]; exact hJ c8) dL_law_1226 ?_
    refine lv_iload hx hb dL_law_1227 (lv_at hl 0 rfl) ?_
    refine zr_top (y := nI (zt_total T (zx i1) T.1.2)) (hw c8) ?_
    refine lv_i2l hx hb dL_law_1229 rfl ?_
    refine W.lcmp hx hb dL_law_1230 ?_
    refine zr_top (y := 0) (lg_self _) ?_
    refine lv_if_eq (tgt := 1236) hx hb dL_law_1231 (by decide) (fun _ => ?_) (fun h9 => absurd ((nI_eq (a := 0) (b := 0) (by omega) (by omega)).mpr (rfl)) h9)
    refine lv_goto (tgt := 1239) hx hb dL_law_1236 (by decide) ?_
    exact K _ _ _ ⟨S', M', _, hT, hF1, ho1, hn1, hM1, I, lv_sub hl [2, 3, 4, 5, 6] rfl⟩

end ZLAW
