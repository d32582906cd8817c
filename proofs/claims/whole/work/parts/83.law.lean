/-! the law's branches -/
section ZLAW
variable {p : Program} {l : Launch} {e : Env} {s : State} {m : MethodId} {below : List Frame} {meth : Method} {c : Code} {H : Heap} {locs : List Loc} {cells slots : Nat} {Q : State → Prop} {g : zG} {b L i x mo oa : Nat} {xs : Nat → Int32} {ar : Nat → Nat} {ls : Array Slot}

set_option maxRecDepth 100000 in
set_option maxHeartbeats 4000000 in
theorem k_law_broken (C0 : zLC p l s m c b L xs) (hi : i + 4 ≤ L) (hc : cells + 10 ≤ 601024) (hs : slots + 300 ≤ 7293034) (I0 : zLI g s b x mo oa ar i H locs ls)
    (K : ∀ (H : Heap) (locs : List Loc) (ls : Array Slot), zLI g s b x mo oa ar i H locs ls → W p l e room_1 s m #[Value.ref b] below meth c H locs (cells + 10) (slots + 300) Q (F0 m 1239 ls [])) : W p l e room_1 s m #[Value.ref b] below meth c H locs cells slots Q (F0 m 816 ls []) := by
  obtain ⟨hst, C, hX, hbl, hL⟩ := C0
  obtain ⟨S, M, T, hT, hF, ho, ho1, hM, I, hl⟩ := I0
  have hx := C.1
  have hb := C.2.1
  have hbA : ¬ (fun q : Nat => s.heap.size ≤ q) b := Nat.not_le.mpr hbl
  obtain ⟨pl, lo, pt, ty, pa, la, ap, ad, ae, hF9⟩ := id hF
  refine lv_aload_n hx hb dL_law_816 rfl (lv_at hl 1 rfl) ?_
  refine zc_V (n := 0) (rest := []) C I hF9.1.1 rfl rfl (k_X3_broken l g hst S T x pl lo pt ty pa la ap ad ae hT hF9) zm_99 zm_100 zm_101 zm_24 zm_102 rfl hl.1 dL_law_817 (by decide +kernel) rfl ⟨Nat.le_of_ble_eq_true rfl, Nat.le_of_ble_eq_true rfl⟩ (Nat.le_of_ble_eq_true rfl) ⟨Nat.le_trans (Nat.le_add_right _ 10) hc, Nat.le_trans (Nat.le_add_right _ 300) hs⟩ (fun v S' H locs hq I => ?_)
  obtain ⟨rfl, eS⟩ := hq
  rw [eS] at I
  have I := I.swap
  refine W.widen (k := cells + 10) (n := slots + 300) (Nat.le_add_right _ 10) (Nat.le_add_right _ 300) ?_
  refine lv_aload_n hx hb dL_law_820 rfl (lv_at hl 2 rfl) ?_
  refine zc_V (n := 0) (rest := [.int (zt_broken T T.1.2 0)]) C I hM.1 rfl rfl (k_X4_broken l g M T mo ar hT hM) zm_648 zm_649 zm_650 zm_28 zm_651 rfl hl.1 dL_law_821 (by decide +kernel) rfl ⟨Nat.le_of_ble_eq_true rfl, Nat.le_of_ble_eq_true rfl⟩ (Nat.le_of_ble_eq_true rfl) ⟨hc, hs⟩ (fun v M' H locs hq I => ?_)
  obtain ⟨h20, hM1, hkM, v1, rfl, hw⟩ := hq
  have I := I.swap
  refine W.widen (k := cells + 10) (n := slots + 300) (Nat.le_refl _) (Nat.le_refl _) ?_
  refine zr_top (y := zt_broken T T.1.2 0) (hw rfl) ?_
  refine lv_icmp_eq (tgt := 1239) hx hb dL_law_824 (by decide) (fun _ => ?_) (fun h9 => absurd (rfl) h9)
  have hF1 := hF
  have hn1 := ho1
  have ho1 := ho
  exact K _ _ _ ⟨S, M', _, hT, hF1, ho1, hn1, hM1, I, lv_sub hl [0, 1, 2, 3, 4] rfl⟩

set_option maxRecDepth 100000 in
set_option maxHeartbeats 4000000 in
theorem k_law_found (C0 : zLC p l s m c b L xs) (hi : i + 4 ≤ L) (hc : cells + 10 ≤ 601024) (hs : slots + 300 ≤ 7293034) (I0 : zLI g s b x mo oa ar i H locs ls)
    (K : ∀ (H : Heap) (locs : List Loc) (ls : Array Slot), zLI g s b x mo oa ar i H locs ls → W p l e room_1 s m #[Value.ref b] below meth c H locs (cells + 10) (slots + 300) Q (F0 m 1239 ls [])) : W p l e room_1 s m #[Value.ref b] below meth c H locs cells slots Q (F0 m 829 ls []) := by
  obtain ⟨hst, C, hX, hbl, hL⟩ := C0
  obtain ⟨S, M, T, hT, hF, ho, ho1, hM, I, hl⟩ := I0
  have hx := C.1
  have hb := C.2.1
  have hbA : ¬ (fun q : Nat => s.heap.size ≤ q) b := Nat.not_le.mpr hbl
  refine lv_aload_n hx hb dL_law_829 rfl (lv_at hl 1 rfl) ?_
  refine lv_aload_n hx hb dL_law_830 rfl (lv_at hl 0 rfl) ?_
  refine lv_iload hx hb dL_law_831 (lv_at hl 4 rfl) ?_
  refine lv_iconst (v := 1) hx hb dL_law_833 (by decide) ?_
  refine lv_iadd hx hb dL_law_834 ?_
  refine zr_top (y := nI (i + 1)) (nI_add i 1) ?_
  refine va_sld hx hb hX hbl hbA I.S (vp_in_nI (n := i + 1) (by omega) (by omega)) dL_law_835 ?_
  refine lv_topi (fun i1 e1 => ?_)
  refine lv_aload_n hx hb dL_law_836 rfl (lv_at hl 3 rfl) ?_
  have hcb : zc_found T i1 ≤ 3 := zb_found T i1
  refine zc_SH (n := 3) (rest := []) C I (k_L_found l g hst S T x oa i1 hT hF ho ho1) zm_433 zm_434 zm_23 zm_435 rfl hl.1 dL_law_837 (by decide +kernel) rfl ⟨Nat.le_of_ble_eq_true rfl, Nat.le_of_ble_eq_true rfl⟩ (Nat.le_of_ble_eq_true rfl) ⟨hc, hs⟩ (fun v S' H locs hq I => ?_)
  obtain ⟨rfl, hF1, ho2, hn1, hJ⟩ := hq
  have ho1 := ho2
  have I := I.swap
  refine W.widen (k := cells + 10) (n := slots + 300) (Nat.le_refl _) (Nat.le_refl _) ?_
  refine lv_istore (lv' := [(5, .int (nI (zc_found T i1))), (0, .ref b), (1, .ref x), (2, .ref mo), (3, .ref oa), (4, .int (nI i))]) hx hb dL_law_840 hl (by decide) rfl (fun ls hl => ?_)
  refine lv_aload_n hx hb dL_law_842 rfl (lv_at hl 3 rfl) ?_
  refine lv_aload_n hx hb dL_law_843 rfl (lv_at hl 1 rfl) ?_
  refine lv_iload hx hb dL_law_844 (lv_at hl 5 rfl) ?_
  refine lv_iconst (v := 1) hx hb dL_law_846 (by decide) ?_
  refine lv_iadd hx hb dL_law_847 ?_
  refine zr_top (y := nI (i + 1)) (nI_add i 1) ?_
  refine va_sld hx hb hX hbl hbA I.S (vp_in_nI (n := i + 1) (by omega) (by omega)) dL_law_848 ?_
  refine zr_top (y := i1) e1.symm ?_
  refine zc_V (n := 1) (rest := []) C I hM.1 rfl rfl (k_X4_found l g M T mo ar hT hM i1) zm_652 zm_653 zm_654 zm_28 zm_655 rfl hl.1 dL_law_849 (by decide +kernel) rfl ⟨Nat.le_of_ble_eq_true rfl, Nat.le_of_ble_eq_true rfl⟩ (Nat.le_of_ble_eq_true rfl) ⟨hc, hs⟩ (fun v M' H locs hq I => ?_)
  obtain ⟨h20, hM1, hkM, v1, rfl, hw⟩ := hq
  refine W.widen (k := cells + 10) (n := slots + 300) (Nat.le_refl _) (Nat.le_refl _) ?_
  refine lv_istore (lv' := [(6, .int v1), (5, .int (nI (zc_found T i1))), (0, .ref b), (1, .ref x), (2, .ref mo), (3, .ref oa), (4, .int (nI i))]) hx hb dL_law_852 hl (by decide) rfl (fun ls hl => ?_)
  refine lv_aload_n hx hb dL_law_854 rfl (lv_at hl 4 rfl) ?_
  refine zc_V (n := 0) (rest := []) C I hM1.1 rfl rfl (k_X4_thrown l g M' mo hM1.1) zm_563 zm_564 zm_565 zm_28 zm_566 rfl hl.1 dL_law_855 (by decide +kernel) rfl ⟨Nat.le_of_ble_eq_true rfl, Nat.le_of_ble_eq_true rfl⟩ (Nat.le_of_ble_eq_true rfl) ⟨hc, hs⟩ (fun v M2 H locs hq I => ?_)
  obtain ⟨rfl, eM⟩ := hq
  rw [eM] at I
  have I := I.swap
  refine W.widen (k := cells + 10) (n := slots + 300) (Nat.le_refl _) (Nat.le_refl _) ?_
  refine zr_top (y := nI (zc_found T i1)) (h20) ?_
  refine lv_iload hx hb dL_law_858 (lv_at hl 1 rfl) ?_
  refine lv_icmp_eq (tgt := 865) hx hb dL_law_860 (by decide) (fun _ => ?_) (fun h9 => absurd ((nI_eq (a := zc_found T i1) (b := zc_found T i1) (by omega) (by omega)).mpr (rfl)) h9)
  refine lv_iload hx hb dL_law_865 (lv_at hl 1 rfl) ?_
  refine lv_if_ne (tgt := 882) hx hb dL_law_867 (by decide) (fun c8 => ?_) (fun c8 => ?_)
  · have c8 : ¬ (zc_found T i1) = 0 := fun h9 => c8 ((nI_eq (a := zc_found T i1) (b := 0) (by omega) (by omega)).mpr h9)
    refine lv_goto (tgt := 1239) hx hb dL_law_882 (by decide) ?_
    exact K _ _ _ ⟨S', M', _, hT, hF1, ho1, hn1, hM1, I, lv_sub hl [2, 3, 4, 5, 6] rfl⟩
  · have c8 : (zc_found T i1) = 0 := (nI_eq (a := zc_found T i1) (b := 0) (by omega) (by omega)).mp c8
    refine lv_aload_n hx hb dL_law_870 rfl (lv_at hl 5 rfl) ?_
    refine lv_iconst (v := 0) hx hb dL_law_871 (by decide) ?_
    refine zr_lald (v := (nI (zt_fd T (T.2 5 (zx i1)) (zx i1))).toInt64) C I ho1 (by rw [hn1]; exact (show vp_in (nI 0) 1 from vp_in_nI (by omega) (by omega))) (by rw [show (0 : Int32).toNatClampNeg = 0 from by decide]; exact hJ c8) dL_law_872 ?_
    refine lv_iload hx hb dL_law_873 (lv_at hl 0 rfl) ?_
    refine zr_top (y := nI (zt_fd T (T.2 5 (zx i1)) (zx i1))) (hw c8) ?_
    refine lv_i2l hx hb dL_law_875 rfl ?_
    refine W.lcmp hx hb dL_law_876 ?_
    refine zr_top (y := 0) (lg_self _) ?_
    refine lv_if_eq (tgt := 882) hx hb dL_law_877 (by decide) (fun _ => ?_) (fun h9 => absurd ((nI_eq (a := 0) (b := 0) (by omega) (by omega)).mpr (rfl)) h9)
    refine lv_goto (tgt := 1239) hx hb dL_law_882 (by decide) ?_
    exact K _ _ _ ⟨S', M', _, hT, hF1, ho1, hn1, hM1, I, lv_sub hl [2, 3, 4, 5, 6] rfl⟩

set_option maxRecDepth 100000 in
set_option maxHeartbeats 4000000 in
theorem k_law_wrong (C0 : zLC p l s m c b L xs) (hi : i + 4 ≤ L) (hc : cells + 10 ≤ 601024) (hs : slots + 300 ≤ 7293034) (I0 : zLI g s b x mo oa ar i H locs ls)
    (K : ∀ (H : Heap) (locs : List Loc) (ls : Array Slot), zLI g s b x mo oa ar i H locs ls → W p l e room_1 s m #[Value.ref b] below meth c H locs (cells + 10) (slots + 300) Q (F0 m 1239 ls [])) : W p l e room_1 s m #[Value.ref b] below meth c H locs cells slots Q (F0 m 885 ls []) := by
  obtain ⟨hst, C, hX, hbl, hL⟩ := C0
  obtain ⟨S, M, T, hT, hF, ho, ho1, hM, I, hl⟩ := I0
  have hx := C.1
  have hb := C.2.1
  have hbA : ¬ (fun q : Nat => s.heap.size ≤ q) b := Nat.not_le.mpr hbl
  refine lv_aload_n hx hb dL_law_885 rfl (lv_at hl 1 rfl) ?_
  refine lv_aload_n hx hb dL_law_886 rfl (lv_at hl 0 rfl) ?_
  refine lv_iload hx hb dL_law_887 (lv_at hl 4 rfl) ?_
  refine lv_iconst (v := 1) hx hb dL_law_889 (by decide) ?_
  refine lv_iadd hx hb dL_law_890 ?_
  refine zr_top (y := nI (i + 1)) (nI_add i 1) ?_
  refine va_sld hx hb hX hbl hbA I.S (vp_in_nI (n := i + 1) (by omega) (by omega)) dL_law_891 ?_
  refine lv_topi (fun i1 e1 => ?_)
  refine lv_aload_n hx hb dL_law_892 rfl (lv_at hl 3 rfl) ?_
  have hcb : zc_wrong T i1 ≤ 3 := zb_wrong T i1
  refine zc_SH (n := 3) (rest := []) C I (k_L_wrong l g hst S T x oa i1 hT hF ho ho1) zm_444 zm_445 zm_23 zm_446 rfl hl.1 dL_law_893 (by decide +kernel) rfl ⟨Nat.le_of_ble_eq_true rfl, Nat.le_of_ble_eq_true rfl⟩ (Nat.le_of_ble_eq_true rfl) ⟨hc, hs⟩ (fun v S' H locs hq I => ?_)
  obtain ⟨rfl, hF1, ho2, hn1, hJ⟩ := hq
  have ho1 := ho2
  have I := I.swap
  refine W.widen (k := cells + 10) (n := slots + 300) (Nat.le_refl _) (Nat.le_refl _) ?_
  refine lv_istore (lv' := [(5, .int (nI (zc_wrong T i1))), (0, .ref b), (1, .ref x), (2, .ref mo), (3, .ref oa), (4, .int (nI i))]) hx hb dL_law_896 hl (by decide) rfl (fun ls hl => ?_)
  refine lv_aload_n hx hb dL_law_898 rfl (lv_at hl 3 rfl) ?_
  refine lv_aload_n hx hb dL_law_899 rfl (lv_at hl 1 rfl) ?_
  refine lv_iload hx hb dL_law_900 (lv_at hl 5 rfl) ?_
  refine lv_iconst (v := 1) hx hb dL_law_902 (by decide) ?_
  refine lv_iadd hx hb dL_law_903 ?_
  refine zr_top (y := nI (i + 1)) (nI_add i 1) ?_
  refine va_sld hx hb hX hbl hbA I.S (vp_in_nI (n := i + 1) (by omega) (by omega)) dL_law_904 ?_
  refine zr_top (y := i1) e1.symm ?_
  refine zc_V (n := 1) (rest := []) C I hM.1 rfl rfl (k_X4_wrong l g M T mo ar hT hM i1) zm_659 zm_660 zm_661 zm_28 zm_662 rfl hl.1 dL_law_905 (by decide +kernel) rfl ⟨Nat.le_of_ble_eq_true rfl, Nat.le_of_ble_eq_true rfl⟩ (Nat.le_of_ble_eq_true rfl) ⟨hc, hs⟩ (fun v M' H locs hq I => ?_)
  obtain ⟨h20, hM1, hkM, v1, rfl, hw⟩ := hq
  refine W.widen (k := cells + 10) (n := slots + 300) (Nat.le_refl _) (Nat.le_refl _) ?_
  refine lv_istore (lv' := [(6, .int v1), (5, .int (nI (zc_wrong T i1))), (0, .ref b), (1, .ref x), (2, .ref mo), (3, .ref oa), (4, .int (nI i))]) hx hb dL_law_908 hl (by decide) rfl (fun ls hl => ?_)
  refine lv_aload_n hx hb dL_law_910 rfl (lv_at hl 4 rfl) ?_
  refine zc_V (n := 0) (rest := []) C I hM1.1 rfl rfl (k_X4_thrown l g M' mo hM1.1) zm_563 zm_564 zm_565 zm_28 zm_566 rfl hl.1 dL_law_911 (by decide +kernel) rfl ⟨Nat.le_of_ble_eq_true rfl, Nat.le_of_ble_eq_true rfl⟩ (Nat.le_of_ble_eq_true rfl) ⟨hc, hs⟩ (fun v M2 H locs hq I => ?_)
  obtain ⟨rfl, eM⟩ := hq
  rw [eM] at I
  have I := I.swap
  refine W.widen (k := cells + 10) (n := slots + 300) (Nat.le_refl _) (Nat.le_refl _) ?_
  refine zr_top (y := nI (zc_wrong T i1)) (h20) ?_
  refine lv_iload hx hb dL_law_914 (lv_at hl 1 rfl) ?_
  refine lv_icmp_eq (tgt := 921) hx hb dL_law_916 (by decide) (fun _ => ?_) (fun h9 => absurd ((nI_eq (a := zc_wrong T i1) (b := zc_wrong T i1) (by omega) (by omega)).mpr (rfl)) h9)
  refine lv_iload hx hb dL_law_921 (lv_at hl 1 rfl) ?_
  refine lv_if_ne (tgt := 938) hx hb dL_law_923 (by decide) (fun c8 => ?_) (fun c8 => ?_)
  · have c8 : ¬ (zc_wrong T i1) = 0 := fun h9 => c8 ((nI_eq (a := zc_wrong T i1) (b := 0) (by omega) (by omega)).mpr h9)
    refine lv_goto (tgt := 1239) hx hb dL_law_938 (by decide) ?_
    exact K _ _ _ ⟨S', M', _, hT, hF1, ho1, hn1, hM1, I, lv_sub hl [2, 3, 4, 5, 6] rfl⟩
  · have c8 : (zc_wrong T i1) = 0 := (nI_eq (a := zc_wrong T i1) (b := 0) (by omega) (by omega)).mp c8
    refine lv_aload_n hx hb dL_law_926 rfl (lv_at hl 5 rfl) ?_
    refine lv_iconst (v := 0) hx hb dL_law_927 (by decide) ?_
    refine zr_lald (v := (zv_wrong T (zx i1)).toInt64) C I ho1 (by rw [hn1]; exact (show vp_in (nI 0) 1 from vp_in_nI (by omega) (by omega))) (by rw [show (0 : Int32).toNatClampNeg = 0 from by decide]; exact hJ c8) dL_law_928 ?_
    refine lv_iload hx hb dL_law_929 (lv_at hl 0 rfl) ?_
    refine zr_top (y := zv_wrong T (zx i1)) (hw c8) ?_
    refine lv_i2l hx hb dL_law_931 rfl ?_
    refine W.lcmp hx hb dL_law_932 ?_
    refine zr_top (y := 0) (lg_self _) ?_
    refine lv_if_eq (tgt := 938) hx hb dL_law_933 (by decide) (fun _ => ?_) (fun h9 => absurd ((nI_eq (a := 0) (b := 0) (by omega) (by omega)).mpr (rfl)) h9)
    refine lv_goto (tgt := 1239) hx hb dL_law_938 (by decide) ?_
    exact K _ _ _ ⟨S', M', _, hT, hF1, ho1, hn1, hM1, I, lv_sub hl [2, 3, 4, 5, 6] rfl⟩

set_option maxRecDepth 100000 in
set_option maxHeartbeats 4000000 in
theorem k_law_dispute (C0 : zLC p l s m c b L xs) (hi : i + 4 ≤ L) (hc : cells + 10 ≤ 601024) (hs : slots + 300 ≤ 7293034) (I0 : zLI g s b x mo oa ar i H locs ls)
    (K : ∀ (H : Heap) (locs : List Loc) (ls : Array Slot), zLI g s b x mo oa ar i H locs ls → W p l e room_1 s m #[Value.ref b] below meth c H locs (cells + 10) (slots + 300) Q (F0 m 1239 ls [])) : W p l e room_1 s m #[Value.ref b] below meth c H locs cells slots Q (F0 m 941 ls []) := by
  obtain ⟨hst, C, hX, hbl, hL⟩ := C0
  obtain ⟨S, M, T, hT, hF, ho, ho1, hM, I, hl⟩ := I0
  have hx := C.1
  have hb := C.2.1
  have hbA : ¬ (fun q : Nat => s.heap.size ≤ q) b := Nat.not_le.mpr hbl
  refine lv_aload_n hx hb dL_law_941 rfl (lv_at hl 1 rfl) ?_
  refine lv_aload_n hx hb dL_law_942 rfl (lv_at hl 0 rfl) ?_
  refine lv_iload hx hb dL_law_943 (lv_at hl 4 rfl) ?_
  refine lv_iconst (v := 1) hx hb dL_law_945 (by decide) ?_
  refine lv_iadd hx hb dL_law_946 ?_
  refine zr_top (y := nI (i + 1)) (nI_add i 1) ?_
  refine va_sld hx hb hX hbl hbA I.S (vp_in_nI (n := i + 1) (by omega) (by omega)) dL_law_947 ?_
  refine lv_topi (fun i1 e1 => ?_)
  refine lv_aload_n hx hb dL_law_948 rfl (lv_at hl 3 rfl) ?_
  have hcb : zc_disp T i1 ≤ 3 := zb_disp T i1
  refine zc_SH (n := 3) (rest := []) C I (k_L_dispute l g hst S T x oa i1 hT hF ho ho1) zm_454 zm_455 zm_23 zm_456 rfl hl.1 dL_law_949 (by decide +kernel) rfl ⟨Nat.le_of_ble_eq_true rfl, Nat.le_of_ble_eq_true rfl⟩ (Nat.le_of_ble_eq_true rfl) ⟨hc, hs⟩ (fun v S' H locs hq I => ?_)
  obtain ⟨rfl, hF1, ho2, hn1, hJ⟩ := hq
  have ho1 := ho2
  have I := I.swap
  refine W.widen (k := cells + 10) (n := slots + 300) (Nat.le_refl _) (Nat.le_refl _) ?_
  refine lv_istore (lv' := [(5, .int (nI (zc_disp T i1))), (0, .ref b), (1, .ref x), (2, .ref mo), (3, .ref oa), (4, .int (nI i))]) hx hb dL_law_952 hl (by decide) rfl (fun ls hl => ?_)
  refine lv_aload_n hx hb dL_law_954 rfl (lv_at hl 3 rfl) ?_
  refine lv_aload_n hx hb dL_law_955 rfl (lv_at hl 1 rfl) ?_
  refine lv_iload hx hb dL_law_956 (lv_at hl 5 rfl) ?_
  refine lv_iconst (v := 1) hx hb dL_law_958 (by decide) ?_
  refine lv_iadd hx hb dL_law_959 ?_
  refine zr_top (y := nI (i + 1)) (nI_add i 1) ?_
  refine va_sld hx hb hX hbl hbA I.S (vp_in_nI (n := i + 1) (by omega) (by omega)) dL_law_960 ?_
  refine zr_top (y := i1) e1.symm ?_
  refine zc_V (n := 1) (rest := []) C I hM.1 rfl rfl (k_X4_dispute l g M T mo ar hT hM i1) zm_666 zm_667 zm_668 zm_28 zm_669 rfl hl.1 dL_law_961 (by decide +kernel) rfl ⟨Nat.le_of_ble_eq_true rfl, Nat.le_of_ble_eq_true rfl⟩ (Nat.le_of_ble_eq_true rfl) ⟨hc, hs⟩ (fun v M' H locs hq I => ?_)
  obtain ⟨h20, hM1, hkM, v1, rfl, hw⟩ := hq
  refine W.widen (k := cells + 10) (n := slots + 300) (Nat.le_refl _) (Nat.le_refl _) ?_
  refine lv_istore (lv' := [(6, .int v1), (5, .int (nI (zc_disp T i1))), (0, .ref b), (1, .ref x), (2, .ref mo), (3, .ref oa), (4, .int (nI i))]) hx hb dL_law_964 hl (by decide) rfl (fun ls hl => ?_)
  refine lv_aload_n hx hb dL_law_966 rfl (lv_at hl 4 rfl) ?_
  refine zc_V (n := 0) (rest := []) C I hM1.1 rfl rfl (k_X4_thrown l g M' mo hM1.1) zm_563 zm_564 zm_565 zm_28 zm_566 rfl hl.1 dL_law_967 (by decide +kernel) rfl ⟨Nat.le_of_ble_eq_true rfl, Nat.le_of_ble_eq_true rfl⟩ (Nat.le_of_ble_eq_true rfl) ⟨hc, hs⟩ (fun v M2 H locs hq I => ?_)
  obtain ⟨rfl, eM⟩ := hq
  rw [eM] at I
  have I := I.swap
  refine W.widen (k := cells + 10) (n := slots + 300) (Nat.le_refl _) (Nat.le_refl _) ?_
  refine zr_top (y := nI (zc_disp T i1)) (h20) ?_
  refine lv_iload hx hb dL_law_970 (lv_at hl 1 rfl) ?_
  refine lv_icmp_eq (tgt := 977) hx hb dL_law_972 (by decide) (fun _ => ?_) (fun h9 => absurd ((nI_eq (a := zc_disp T i1) (b := zc_disp T i1) (by omega) (by omega)).mpr (rfl)) h9)
  refine lv_iload hx hb dL_law_977 (lv_at hl 1 rfl) ?_
  refine lv_if_ne (tgt := 994) hx hb dL_law_979 (by decide) (fun c8 => ?_) (fun c8 => ?_)
  · have c8 : ¬ (zc_disp T i1) = 0 := fun h9 => c8 ((nI_eq (a := zc_disp T i1) (b := 0) (by omega) (by omega)).mpr h9)
    refine lv_goto (tgt := 1239) hx hb dL_law_994 (by decide) ?_
    exact K _ _ _ ⟨S', M', _, zt_ok_disp hT i1, hF1, ho1, hn1, hM1, I, lv_sub hl [2, 3, 4, 5, 6] rfl⟩
  · have c8 : (zc_disp T i1) = 0 := (nI_eq (a := zc_disp T i1) (b := 0) (by omega) (by omega)).mp c8
    refine lv_aload_n hx hb dL_law_982 rfl (lv_at hl 5 rfl) ?_
    refine lv_iconst (v := 0) hx hb dL_law_983 (by decide) ?_
    refine zr_lald (v := (nI (zv_disp T (zx i1))).toInt64) C I ho1 (by rw [hn1]; exact (show vp_in (nI 0) 1 from vp_in_nI (by omega) (by omega))) (by rw [show (0 : Int32).toNatClampNeg = 0 from by decide]; exact hJ c8) dL_law_984 ?_
    refine lv_iload hx hb dL_law_985 (lv_at hl 0 rfl) ?_
    refine zr_top (y := nI (zv_disp T (zx i1))) (hw c8) ?_
    refine lv_i2l hx hb dL_law_987 rfl ?_
    refine W.lcmp hx hb dL_law_988 ?_
    refine zr_top (y := 0) (lg_self _) ?_
    refine lv_if_eq (tgt := 994) hx hb dL_law_989 (by decide) (fun _ => ?_) (fun h9 => absurd ((nI_eq (a := 0) (b := 0) (by omega) (by omega)).mpr (rfl)) h9)
    refine lv_goto (tgt := 1239) hx hb dL_law_994 (by decide) ?_
    exact K _ _ _ ⟨S', M', _, zt_ok_disp hT i1, hF1, ho1, hn1, hM1, I, lv_sub hl [2, 3, 4, 5, 6] rfl⟩

end ZLAW
