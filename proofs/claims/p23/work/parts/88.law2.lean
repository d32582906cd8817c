/-! the law's turns, 2: dispute, roll -/
theorem zq_own_s (T : zT) (q a n : Nat) : zt_own T q a (n + 1) = zt_own T q a n + (if T.2 5 n = q ∧ a ≤ n then 1 else 0) := rfl
section ZLAW
variable {p : Program} {l : Launch} {e : Env} {s : State} {m : MethodId} {below : List Frame} {meth : Method} {c : Code} {H : Heap} {locs : List Loc} {cells slots : Nat} {Q : State → Prop} {g : zG} {b L x t : Nat} {xs : Nat → Int32} {zv : Int32} {ar : Nat → Nat} {ls : Array Slot}
set_option maxRecDepth 100000 in
set_option maxHeartbeats 4000000 in
theorem k_law_698 (K0 : zLC p l s m c g b L xs)  (hcs : cells + 620 ≤ 794606) (hss : slots + 12610 ≤ 6717651) (KT : ∀ (H : Heap) (locs : List Loc) (ls : Array Slot), zLP g s x ar (fun T => 1 ≤ T.1.1) H locs ls [(14, .int 1), (11, .int zv), (10, .int (nI t)), (0, .ref b), (1, .ref x), (2, .ref (ar 0)), (3, .ref (ar 1)), (4, .ref (ar 2)), (5, .ref (ar 3)), (6, .ref (ar 4)), (7, .ref (ar 5)), (8, .ref (ar 6)), (9, .ref (ar 7))] → W p l e room_1 s m #[Value.ref b] below meth c H locs (cells + 10) (slots + 300) Q (F0 m 884 ls [])) (I0 : zLP g s x ar (fun T => 1 ≤ T.1.1) H locs ls [(14, .int 1), (11, .int zv), (10, .int (nI t)), (0, .ref b), (1, .ref x), (2, .ref (ar 0)), (3, .ref (ar 1)), (4, .ref (ar 2)), (5, .ref (ar 3)), (6, .ref (ar 4)), (7, .ref (ar 5)), (8, .ref (ar 6)), (9, .ref (ar 7))]) : W p l e room_1 s m #[Value.ref b] below meth c H locs cells slots Q (F0 m 698 ls []) := by
  obtain ⟨hst, C, hX, hbg, hL⟩ := id K0
  obtain ⟨S, M, T, Ct, hP, hT, hF, G, hC, I, hl⟩ := I0
  have hx := C.1
  have hb := C.2.1
  obtain ⟨pl, lo, pt, ty, pa, la, ap, ad, ae, hF9⟩ := id hF
  obtain ⟨⟨n1, n2⟩, ⟨q0, q1⟩, ⟨b2, b3, b4⟩, qp, dk, ek⟩ := id hC
  obtain ⟨t1, t2, t3, t4, t5, t6, t7⟩ := id hT
  have hl : lv_has ls 19 [(14, .int 1), (11, .int zv), (10, .int (nI t)), (0, .ref b), (1, .ref x), (2, .ref (ar 0)), (3, .ref (ar 1)), (4, .ref (ar 2)), (5, .ref (ar 3)), (6, .ref (ar 4)), (7, .ref (ar 5)), (8, .ref (ar 6)), (9, .ref (ar 7))] := hl
  refine lv_iload hx hb dL_law_698 (lv_at hl 1 rfl) ?_
  refine lv_iconst (v := 4) hx hb dL_law_700 (by decide) ?_
  refine lv_ishr hx hb dL_law_701 ?_
  refine lv_aload_n hx hb dL_law_702 rfl (lv_at hl 5 rfl) ?_
  refine lv_iconst (v := 0) hx hb dL_law_703 (by decide) ?_
  refine zr_iald (v := nI T.1.1) C I.swap (LG.at G (i := 0) (by decide)) (show vp_in (nI 0) _ from LG.inn G (i := 0) (k := 0) (by decide) (by decide)) (show zh_A M (ar 0) (nI 0).toNatClampNeg = _ from LG.rd G (by decide) (by decide) (q0)) dL_law_704 ?_
  refine zc_S (n := 2) (rest := []) C I (k_L_low l g S (zv >>> (4 &&& 31)) T.1.1 (hP) (by omega)) zm_267 zm_268 zm_15 zm_269 rfl hl.1 dL_law_705 (by decide +kernel) rfl ⟨Nat.le_of_ble_eq_true rfl, Nat.le_of_ble_eq_true rfl⟩ (Nat.le_of_ble_eq_true rfl) ⟨by show cells + 0 ≤ 794606; omega, by show slots + 0 ≤ 6717651; omega⟩ (fun v S' H locs hq I => ?_)
  obtain ⟨⟨pr, hpr, rfl⟩, eS⟩ := hq
  rw [eS] at I
  have hkz : zx (nI pr) = pr := zx_nI (by omega)
  have hzp : ¬ zi T.1.1 (nI pr) := zi_no hpr (by omega)
  obtain ⟨p1, p2, p3, p4⟩ := t3 pr
  rcases (show T.2 2 pr = 0 ∨ (T.2 2 pr = 1 ∧ T.2 3 pr = 1) ∨ (T.2 2 pr = 1 ∧ T.2 3 pr = 0) by omega) with ho | ho | ho
  · have hcd : zc_disp T (nI pr) = 2 := by unfold zc_disp; rw [if_neg hzp, hkz, if_pos (Or.inl ho)]
    refine lv_istore (lv' := [(15, .int (nI pr)), (14, .int 1), (11, .int zv), (10, .int (nI t)), (0, .ref b), (1, .ref x), (2, .ref (ar 0)), (3, .ref (ar 1)), (4, .ref (ar 2)), (5, .ref (ar 3)), (6, .ref (ar 4)), (7, .ref (ar 5)), (8, .ref (ar 6)), (9, .ref (ar 7))]) hx hb dL_law_708 hl (by decide) rfl (fun ls hl => ?_)
    refine lv_aload_n hx hb dL_law_710 rfl (lv_at hl 6 rfl) ?_
    refine lv_iconst (v := 2) hx hb dL_law_711 (by decide) ?_
    refine zr_iald (v := (Ct 0 2)) C I.swap (LG.at G (i := 0) (by decide)) (show vp_in (nI 2) _ from LG.inn G (i := 0) (k := 2) (by decide) (by decide)) (show zh_A M (ar 0) (nI 2).toNatClampNeg = _ from LG.rd G (by decide) (by decide) (rfl)) dL_law_712 ?_
    refine lv_iload hx hb dL_law_713 (lv_at hl 0 rfl) ?_
    refine lv_ishr hx hb dL_law_715 ?_
    refine lv_iconst (v := 1) hx hb dL_law_716 (by decide) ?_
    refine lv_iand hx hb dL_law_717 ?_
    refine zr_top (y := nI (T.2 2 pr)) (zbt_rd b2 (by omega)) ?_
    refine lv_if_eq (tgt := 733) hx hb dL_law_718 (by decide) (fun _ => ?_) (fun h9 => absurd ((nI_eq (a := T.2 2 pr) (b := 0) (by omega) (by omega)).mpr (ho)) h9)
    refine lv_bipush (v := (-3)) hx hb dL_law_733 (by decide) ?_
    refine lv_goto (tgt := 739) hx hb dL_law_735 (by decide) ?_
    refine lv_istore (lv' := [(16, .int (-3)), (15, .int (nI pr)), (14, .int 1), (11, .int zv), (10, .int (nI t)), (0, .ref b), (1, .ref x), (2, .ref (ar 0)), (3, .ref (ar 1)), (4, .ref (ar 2)), (5, .ref (ar 3)), (6, .ref (ar 4)), (7, .ref (ar 5)), (8, .ref (ar 6)), (9, .ref (ar 7))]) hx hb dL_law_739 hl (by decide) rfl (fun ls hl => ?_)
    refine lv_iload hx hb dL_law_741 (lv_at hl 0 rfl) ?_
    refine lv_if_ge (tgt := 750) hx hb dL_law_743 (by decide) (fun h9 => absurd h9 (by decide)) (fun _ => ?_)
    refine lv_iconst (v := (-1)) hx hb dL_law_746 (by decide) ?_
    refine lv_goto (tgt := 765) hx hb dL_law_747 (by decide) ?_
    refine lv_istore (lv' := [(17, .int (-1)), (16, .int (-3)), (15, .int (nI pr)), (14, .int 1), (11, .int zv), (10, .int (nI t)), (0, .ref b), (1, .ref x), (2, .ref (ar 0)), (3, .ref (ar 1)), (4, .ref (ar 2)), (5, .ref (ar 3)), (6, .ref (ar 4)), (7, .ref (ar 5)), (8, .ref (ar 6)), (9, .ref (ar 7))]) hx hb dL_law_765 hl (by decide) rfl (fun ls hl => ?_)
    refine lv_aload_n hx hb dL_law_767 rfl (lv_at hl 8 rfl) ?_
    refine lv_iconst (v := 3) hx hb dL_law_768 (by decide) ?_
    refine lv_dup2_11 hx hb dL_law_769 rfl rfl ?_
    refine zr_iald (v := (Ct 0 3)) C I.swap (LG.at G (i := 0) (by decide)) (show vp_in (nI 3) _ from LG.inn G (i := 0) (k := 3) (by decide) (by decide)) (show zh_A M (ar 0) (nI 3).toNatClampNeg = _ from LG.rd G (by decide) (by decide) (rfl)) dL_law_770 ?_
    refine lv_iload hx hb dL_law_771 (lv_at hl 1 rfl) ?_
    refine lv_if_ge (tgt := 780) hx hb dL_law_773 (by decide) (fun h9 => absurd h9 (by decide)) (fun _ => ?_)
    refine lv_iconst (v := 0) hx hb dL_law_776 (by decide) ?_
    refine lv_goto (tgt := 784) hx hb dL_law_777 (by decide) ?_
    refine lv_ior hx hb dL_law_784 ?_
    refine zr_iast C I.swap (LG.at G (i := 0) (by decide)) (show vp_in (nI 3) _ from LG.inn G (i := 0) (k := 3) (by decide) (by decide)) dL_law_785 (fun H locs I => ?_)
    have G := LG.wr G (i := 0) (k := 3) ((Ct 0 3) ||| 0) (by decide) (by decide)
    have I : zh_V g _ s (zh_w g S) (zaw M ar 0 3 ((Ct 0 3) ||| 0)) H locs := I
    generalize zaw M ar 0 3 ((Ct 0 3) ||| 0) = M785 at I G
    have I := I.swap
    refine lv_iload hx hb dL_law_786 (lv_at hl 0 rfl) ?_
    refine lv_if_ge (tgt := 797) hx hb dL_law_788 (by decide) (fun h9 => absurd h9 (by decide)) (fun _ => ?_)
    refine lv_aload_n hx hb dL_law_791 rfl (lv_at hl 8 rfl) ?_
    refine lv_iconst (v := 1) hx hb dL_law_792 (by decide) ?_
    refine zr_iald (v := nI T.1.2) C I.swap (LG.at G (i := 0) (by decide)) (show vp_in (nI 1) _ from LG.inn G (i := 0) (k := 1) (by decide) (by decide)) (show zh_A M785 (ar 0) (nI 1).toNatClampNeg = _ from LG.rd G (by decide) (by decide) (by have h9 := q1; simp only [zu_dc]; grind)) dL_law_793 ?_
    refine lv_goto (tgt := 799) hx hb dL_law_794 (by decide) ?_
    refine lv_istore (lv' := [(18, .int (nI T.1.2)), (17, .int (-1)), (16, .int (-3)), (15, .int (nI pr)), (14, .int 1), (11, .int zv), (10, .int (nI t)), (0, .ref b), (1, .ref x), (2, .ref (ar 0)), (3, .ref (ar 1)), (4, .ref (ar 2)), (5, .ref (ar 3)), (6, .ref (ar 4)), (7, .ref (ar 5)), (8, .ref (ar 6)), (9, .ref (ar 7))]) hx hb dL_law_799 hl (by decide) rfl (fun ls hl => ?_)
    refine lv_iload hx hb dL_law_801 (lv_at hl 0 rfl) ?_
    refine lv_aload_n hx hb dL_law_803 rfl (lv_at hl 9 rfl) ?_
    refine lv_iconst (v := 1) hx hb dL_law_804 (by decide) ?_
    refine zr_iald (v := nI T.1.2) C I.swap (LG.at G (i := 0) (by decide)) (show vp_in (nI 1) _ from LG.inn G (i := 0) (k := 1) (by decide) (by decide)) (show zh_A M785 (ar 0) (nI 1).toNatClampNeg = _ from LG.rd G (by decide) (by decide) (by have h9 := q1; simp only [zu_dc]; grind)) dL_law_805 ?_
    refine lv_icmp_ge (tgt := 863) hx hb dL_law_806 (by decide) (fun _ => ?_) (fun h9 => absurd ((nI_leI (a := T.1.2) (b := T.1.2) (by omega) (by omega)).mpr (by omega)) h9)
    refine lv_aload_n hx hb dL_law_863 rfl (lv_at hl 8 rfl) ?_
    refine lv_iconst (v := 5) hx hb dL_law_864 (by decide) ?_
    refine lv_iload hx hb dL_law_865 (lv_at hl 3 rfl) ?_
    refine lv_iconst (v := 0) hx hb dL_law_867 (by decide) ?_
    refine lv_iconst (v := 0) hx hb dL_law_868 (by decide) ?_
    refine zc_SH (n := 5) (rest := []) C I (k_L_calls_dispute l g hst S T x (nI pr) 0 0 hT hF (by rw [hcd]; decide)) zm_271 zm_272 zm_15 zm_273 rfl hl.1 dL_law_869 (by decide +kernel) rfl ⟨Nat.le_of_ble_eq_true rfl, Nat.le_of_ble_eq_true rfl⟩ (Nat.le_of_ble_eq_true rfl) ⟨by show cells + 0 + 10 ≤ 794606; omega, by show slots + 0 + 300 ≤ 6717651; omega⟩ (fun v S' H locs hq I => ?_)
    obtain ⟨rfl, hF⟩ := hq
    refine zr_top (y := (-3)) (zca_2 hcd _ _ _) ?_
    refine lv_iload hx hb dL_law_872 (lv_at hl 2 rfl) ?_
    refine lv_icmp_ne (tgt := 881) hx hb dL_law_874 (by decide) (fun h9 => absurd (rfl) h9) (fun _ => ?_)
    refine lv_iconst (v := 1) hx hb dL_law_877 (by decide) ?_
    refine lv_goto (tgt := 882) hx hb dL_law_878 (by decide) ?_
    refine lv_istore (lv' := [(14, .int 1), (18, .int (nI T.1.2)), (17, .int (-1)), (16, .int (-3)), (15, .int (nI pr)), (11, .int zv), (10, .int (nI t)), (0, .ref b), (1, .ref x), (2, .ref (ar 0)), (3, .ref (ar 1)), (4, .ref (ar 2)), (5, .ref (ar 3)), (6, .ref (ar 4)), (7, .ref (ar 5)), (8, .ref (ar 6)), (9, .ref (ar 7))]) hx hb dL_law_882 hl (by decide) rfl (fun ls hl => ?_)
    have hT8 := zt_ok_disp hT (nI pr)
    have eT : zs_disp T (nI pr) = T := if_neg (by rw [hcd]; decide)
    rw [eT] at hT8 hF
    refine W.widen (k := cells + 10) (n := slots + 300) (by show cells + 0 + 10 ≤ cells + 10; omega) (by show slots + 0 + 300 ≤ slots + 300; omega) ?_
    exact KT _ _ ls ⟨S', M785, T, (zh_u Ct 0 3 ((Ct 0 3) ||| 0)), hP, hT8, hF, G, LC_same hC (zu_or0 Ct 0 3), I, lv_sub hl [0, 5, 6, 7, 8, 9, 10, 11, 12, 13, 14, 15, 16] rfl⟩
  · have hcd : zc_disp T (nI pr) = 2 := by unfold zc_disp; rw [if_neg hzp, hkz, if_pos (Or.inr (by omega))]
    refine lv_istore (lv' := [(15, .int (nI pr)), (14, .int 1), (11, .int zv), (10, .int (nI t)), (0, .ref b), (1, .ref x), (2, .ref (ar 0)), (3, .ref (ar 1)), (4, .ref (ar 2)), (5, .ref (ar 3)), (6, .ref (ar 4)), (7, .ref (ar 5)), (8, .ref (ar 6)), (9, .ref (ar 7))]) hx hb dL_law_708 hl (by decide) rfl (fun ls hl => ?_)
    refine lv_aload_n hx hb dL_law_710 rfl (lv_at hl 6 rfl) ?_
    refine lv_iconst (v := 2) hx hb dL_law_711 (by decide) ?_
    refine zr_iald (v := (Ct 0 2)) C I.swap (LG.at G (i := 0) (by decide)) (show vp_in (nI 2) _ from LG.inn G (i := 0) (k := 2) (by decide) (by decide)) (show zh_A M (ar 0) (nI 2).toNatClampNeg = _ from LG.rd G (by decide) (by decide) (rfl)) dL_law_712 ?_
    refine lv_iload hx hb dL_law_713 (lv_at hl 0 rfl) ?_
    refine lv_ishr hx hb dL_law_715 ?_
    refine lv_iconst (v := 1) hx hb dL_law_716 (by decide) ?_
    refine lv_iand hx hb dL_law_717 ?_
    refine zr_top (y := nI (T.2 2 pr)) (zbt_rd b2 (by omega)) ?_
    refine lv_if_eq (tgt := 733) hx hb dL_law_718 (by decide) (fun h9 => absurd h9 (fun h8 => absurd ((nI_eq (a := T.2 2 pr) (b := 0) (by omega) (by omega)).mp h8) (by omega))) (fun _ => ?_)
    refine lv_aload_n hx hb dL_law_721 rfl (lv_at hl 6 rfl) ?_
    refine lv_iconst (v := 3) hx hb dL_law_722 (by decide) ?_
    refine zr_iald (v := (Ct 0 3)) C I.swap (LG.at G (i := 0) (by decide)) (show vp_in (nI 3) _ from LG.inn G (i := 0) (k := 3) (by decide) (by decide)) (show zh_A M (ar 0) (nI 3).toNatClampNeg = _ from LG.rd G (by decide) (by decide) (rfl)) dL_law_723 ?_
    refine lv_iload hx hb dL_law_724 (lv_at hl 0 rfl) ?_
    refine lv_ishr hx hb dL_law_726 ?_
    refine lv_iconst (v := 1) hx hb dL_law_727 (by decide) ?_
    refine lv_iand hx hb dL_law_728 ?_
    refine zr_top (y := nI (T.2 3 pr)) (zbt_rd b3 (by omega)) ?_
    refine lv_iconst (v := 1) hx hb dL_law_729 (by decide) ?_
    refine lv_icmp_ne (tgt := 738) hx hb dL_law_730 (by decide) (fun h9 => absurd ((nI_eq (a := T.2 3 pr) (b := 1) (by omega) (by omega)).mpr (ho.2)) h9) (fun _ => ?_)
    refine lv_bipush (v := (-3)) hx hb dL_law_733 (by decide) ?_
    refine lv_goto (tgt := 739) hx hb dL_law_735 (by decide) ?_
    refine lv_istore (lv' := [(16, .int (-3)), (15, .int (nI pr)), (14, .int 1), (11, .int zv), (10, .int (nI t)), (0, .ref b), (1, .ref x), (2, .ref (ar 0)), (3, .ref (ar 1)), (4, .ref (ar 2)), (5, .ref (ar 3)), (6, .ref (ar 4)), (7, .ref (ar 5)), (8, .ref (ar 6)), (9, .ref (ar 7))]) hx hb dL_law_739 hl (by decide) rfl (fun ls hl => ?_)
    refine lv_iload hx hb dL_law_741 (lv_at hl 0 rfl) ?_
    refine lv_if_ge (tgt := 750) hx hb dL_law_743 (by decide) (fun h9 => absurd h9 (by decide)) (fun _ => ?_)
    refine lv_iconst (v := (-1)) hx hb dL_law_746 (by decide) ?_
    refine lv_goto (tgt := 765) hx hb dL_law_747 (by decide) ?_
    refine lv_istore (lv' := [(17, .int (-1)), (16, .int (-3)), (15, .int (nI pr)), (14, .int 1), (11, .int zv), (10, .int (nI t)), (0, .ref b), (1, .ref x), (2, .ref (ar 0)), (3, .ref (ar 1)), (4, .ref (ar 2)), (5, .ref (ar 3)), (6, .ref (ar 4)), (7, .ref (ar 5)), (8, .ref (ar 6)), (9, .ref (ar 7))]) hx hb dL_law_765 hl (by decide) rfl (fun ls hl => ?_)
    refine lv_aload_n hx hb dL_law_767 rfl (lv_at hl 8 rfl) ?_
    refine lv_iconst (v := 3) hx hb dL_law_768 (by decide) ?_
    refine lv_dup2_11 hx hb dL_law_769 rfl rfl ?_
    refine zr_iald (v := (Ct 0 3)) C I.swap (LG.at G (i := 0) (by decide)) (show vp_in (nI 3) _ from LG.inn G (i := 0) (k := 3) (by decide) (by decide)) (show zh_A M (ar 0) (nI 3).toNatClampNeg = _ from LG.rd G (by decide) (by decide) (rfl)) dL_law_770 ?_
    refine lv_iload hx hb dL_law_771 (lv_at hl 1 rfl) ?_
    refine lv_if_ge (tgt := 780) hx hb dL_law_773 (by decide) (fun h9 => absurd h9 (by decide)) (fun _ => ?_)
    refine lv_iconst (v := 0) hx hb dL_law_776 (by decide) ?_
    refine lv_goto (tgt := 784) hx hb dL_law_777 (by decide) ?_
    refine lv_ior hx hb dL_law_784 ?_
    refine zr_iast C I.swap (LG.at G (i := 0) (by decide)) (show vp_in (nI 3) _ from LG.inn G (i := 0) (k := 3) (by decide) (by decide)) dL_law_785 (fun H locs I => ?_)
    have G := LG.wr G (i := 0) (k := 3) ((Ct 0 3) ||| 0) (by decide) (by decide)
    have I : zh_V g _ s (zh_w g S) (zaw M ar 0 3 ((Ct 0 3) ||| 0)) H locs := I
    generalize zaw M ar 0 3 ((Ct 0 3) ||| 0) = M785 at I G
    have I := I.swap
    refine lv_iload hx hb dL_law_786 (lv_at hl 0 rfl) ?_
    refine lv_if_ge (tgt := 797) hx hb dL_law_788 (by decide) (fun h9 => absurd h9 (by decide)) (fun _ => ?_)
    refine lv_aload_n hx hb dL_law_791 rfl (lv_at hl 8 rfl) ?_
    refine lv_iconst (v := 1) hx hb dL_law_792 (by decide) ?_
    refine zr_iald (v := nI T.1.2) C I.swap (LG.at G (i := 0) (by decide)) (show vp_in (nI 1) _ from LG.inn G (i := 0) (k := 1) (by decide) (by decide)) (show zh_A M785 (ar 0) (nI 1).toNatClampNeg = _ from LG.rd G (by decide) (by decide) (by have h9 := q1; simp only [zu_dc]; grind)) dL_law_793 ?_
    refine lv_goto (tgt := 799) hx hb dL_law_794 (by decide) ?_
    refine lv_istore (lv' := [(18, .int (nI T.1.2)), (17, .int (-1)), (16, .int (-3)), (15, .int (nI pr)), (14, .int 1), (11, .int zv), (10, .int (nI t)), (0, .ref b), (1, .ref x), (2, .ref (ar 0)), (3, .ref (ar 1)), (4, .ref (ar 2)), (5, .ref (ar 3)), (6, .ref (ar 4)), (7, .ref (ar 5)), (8, .ref (ar 6)), (9, .ref (ar 7))]) hx hb dL_law_799 hl (by decide) rfl (fun ls hl => ?_)
    refine lv_iload hx hb dL_law_801 (lv_at hl 0 rfl) ?_
    refine lv_aload_n hx hb dL_law_803 rfl (lv_at hl 9 rfl) ?_
    refine lv_iconst (v := 1) hx hb dL_law_804 (by decide) ?_
    refine zr_iald (v := nI T.1.2) C I.swap (LG.at G (i := 0) (by decide)) (show vp_in (nI 1) _ from LG.inn G (i := 0) (k := 1) (by decide) (by decide)) (show zh_A M785 (ar 0) (nI 1).toNatClampNeg = _ from LG.rd G (by decide) (by decide) (by have h9 := q1; simp only [zu_dc]; grind)) dL_law_805 ?_
    refine lv_icmp_ge (tgt := 863) hx hb dL_law_806 (by decide) (fun _ => ?_) (fun h9 => absurd ((nI_leI (a := T.1.2) (b := T.1.2) (by omega) (by omega)).mpr (by omega)) h9)
    refine lv_aload_n hx hb dL_law_863 rfl (lv_at hl 8 rfl) ?_
    refine lv_iconst (v := 5) hx hb dL_law_864 (by decide) ?_
    refine lv_iload hx hb dL_law_865 (lv_at hl 3 rfl) ?_
    refine lv_iconst (v := 0) hx hb dL_law_867 (by decide) ?_
    refine lv_iconst (v := 0) hx hb dL_law_868 (by decide) ?_
    refine zc_SH (n := 5) (rest := []) C I (k_L_calls_dispute l g hst S T x (nI pr) 0 0 hT hF (by rw [hcd]; decide)) zm_271 zm_272 zm_15 zm_273 rfl hl.1 dL_law_869 (by decide +kernel) rfl ⟨Nat.le_of_ble_eq_true rfl, Nat.le_of_ble_eq_true rfl⟩ (Nat.le_of_ble_eq_true rfl) ⟨by show cells + 0 + 10 ≤ 794606; omega, by show slots + 0 + 300 ≤ 6717651; omega⟩ (fun v S' H locs hq I => ?_)
    obtain ⟨rfl, hF⟩ := hq
    refine zr_top (y := (-3)) (zca_2 hcd _ _ _) ?_
    refine lv_iload hx hb dL_law_872 (lv_at hl 2 rfl) ?_
    refine lv_icmp_ne (tgt := 881) hx hb dL_law_874 (by decide) (fun h9 => absurd (rfl) h9) (fun _ => ?_)
    refine lv_iconst (v := 1) hx hb dL_law_877 (by decide) ?_
    refine lv_goto (tgt := 882) hx hb dL_law_878 (by decide) ?_
    refine lv_istore (lv' := [(14, .int 1), (18, .int (nI T.1.2)), (17, .int (-1)), (16, .int (-3)), (15, .int (nI pr)), (11, .int zv), (10, .int (nI t)), (0, .ref b), (1, .ref x), (2, .ref (ar 0)), (3, .ref (ar 1)), (4, .ref (ar 2)), (5, .ref (ar 3)), (6, .ref (ar 4)), (7, .ref (ar 5)), (8, .ref (ar 6)), (9, .ref (ar 7))]) hx hb dL_law_882 hl (by decide) rfl (fun ls hl => ?_)
    have hT8 := zt_ok_disp hT (nI pr)
    have eT : zs_disp T (nI pr) = T := if_neg (by rw [hcd]; decide)
    rw [eT] at hT8 hF
    refine W.widen (k := cells + 10) (n := slots + 300) (by show cells + 0 + 10 ≤ cells + 10; omega) (by show slots + 0 + 300 ≤ slots + 300; omega) ?_
    exact KT _ _ ls ⟨S', M785, T, (zh_u Ct 0 3 ((Ct 0 3) ||| 0)), hP, hT8, hF, G, LC_same hC (zu_or0 Ct 0 3), I, lv_sub hl [0, 5, 6, 7, 8, 9, 10, 11, 12, 13, 14, 15, 16] rfl⟩
  · have hcd : zc_disp T (nI pr) = 0 := by unfold zc_disp; rw [if_neg hzp, hkz, if_neg (by omega)]
    refine lv_istore (lv' := [(15, .int (nI pr)), (14, .int 1), (11, .int zv), (10, .int (nI t)), (0, .ref b), (1, .ref x), (2, .ref (ar 0)), (3, .ref (ar 1)), (4, .ref (ar 2)), (5, .ref (ar 3)), (6, .ref (ar 4)), (7, .ref (ar 5)), (8, .ref (ar 6)), (9, .ref (ar 7))]) hx hb dL_law_708 hl (by decide) rfl (fun ls hl => ?_)
    refine lv_aload_n hx hb dL_law_710 rfl (lv_at hl 6 rfl) ?_
    refine lv_iconst (v := 2) hx hb dL_law_711 (by decide) ?_
    refine zr_iald (v := (Ct 0 2)) C I.swap (LG.at G (i := 0) (by decide)) (show vp_in (nI 2) _ from LG.inn G (i := 0) (k := 2) (by decide) (by decide)) (show zh_A M (ar 0) (nI 2).toNatClampNeg = _ from LG.rd G (by decide) (by decide) (rfl)) dL_law_712 ?_
    refine lv_iload hx hb dL_law_713 (lv_at hl 0 rfl) ?_
    refine lv_ishr hx hb dL_law_715 ?_
    refine lv_iconst (v := 1) hx hb dL_law_716 (by decide) ?_
    refine lv_iand hx hb dL_law_717 ?_
    refine zr_top (y := nI (T.2 2 pr)) (zbt_rd b2 (by omega)) ?_
    refine lv_if_eq (tgt := 733) hx hb dL_law_718 (by decide) (fun h9 => absurd h9 (fun h8 => absurd ((nI_eq (a := T.2 2 pr) (b := 0) (by omega) (by omega)).mp h8) (by omega))) (fun _ => ?_)
    refine lv_aload_n hx hb dL_law_721 rfl (lv_at hl 6 rfl) ?_
    refine lv_iconst (v := 3) hx hb dL_law_722 (by decide) ?_
    refine zr_iald (v := (Ct 0 3)) C I.swap (LG.at G (i := 0) (by decide)) (show vp_in (nI 3) _ from LG.inn G (i := 0) (k := 3) (by decide) (by decide)) (show zh_A M (ar 0) (nI 3).toNatClampNeg = _ from LG.rd G (by decide) (by decide) (rfl)) dL_law_723 ?_
    refine lv_iload hx hb dL_law_724 (lv_at hl 0 rfl) ?_
    refine lv_ishr hx hb dL_law_726 ?_
    refine lv_iconst (v := 1) hx hb dL_law_727 (by decide) ?_
    refine lv_iand hx hb dL_law_728 ?_
    refine zr_top (y := nI (T.2 3 pr)) (zbt_rd b3 (by omega)) ?_
    refine lv_iconst (v := 1) hx hb dL_law_729 (by decide) ?_
    refine lv_icmp_ne (tgt := 738) hx hb dL_law_730 (by decide) (fun _ => ?_) (fun h9 => absurd h9 (fun h8 => absurd ((nI_eq (a := T.2 3 pr) (b := 1) (by omega) (by omega)).mp h8) (by omega)))
    refine lv_iconst (v := 0) hx hb dL_law_738 (by decide) ?_
    refine lv_istore (lv' := [(16, .int 0), (15, .int (nI pr)), (14, .int 1), (11, .int zv), (10, .int (nI t)), (0, .ref b), (1, .ref x), (2, .ref (ar 0)), (3, .ref (ar 1)), (4, .ref (ar 2)), (5, .ref (ar 3)), (6, .ref (ar 4)), (7, .ref (ar 5)), (8, .ref (ar 6)), (9, .ref (ar 7))]) hx hb dL_law_739 hl (by decide) rfl (fun ls hl => ?_)
    refine lv_iload hx hb dL_law_741 (lv_at hl 0 rfl) ?_
    refine lv_if_ge (tgt := 750) hx hb dL_law_743 (by decide) (fun _ => ?_) (fun h9 => absurd ((nI_leI (a := 0) (b := 0) (by omega) (by omega)).mpr (by omega)) h9)
    refine lv_iload hx hb dL_law_750 (lv_at hl 1 rfl) ?_
    refine lv_aload hx hb dL_law_752 (lv_at hl 9 rfl) ?_
    refine lv_aload hx hb dL_law_754 (lv_at hl 10 rfl) ?_
    refine lv_aload hx hb dL_law_756 (lv_at hl 11 rfl) ?_
    refine lv_aload hx hb dL_law_758 (lv_at hl 12 rfl) ?_
    refine lv_aload_n hx hb dL_law_760 rfl (lv_at hl 8 rfl) ?_
    refine lv_aload_n hx hb dL_law_761 rfl (lv_at hl 7 rfl) ?_
    refine zc_S (n := 7) (rest := []) C I.swap (k_L_wrong l g M ar Ct G T hT hC pr (by omega)) zm_390 zm_391 zm_15 zm_392 rfl hl.1 dL_law_762 (by decide +kernel) rfl ⟨Nat.le_of_ble_eq_true rfl, Nat.le_of_ble_eq_true rfl⟩ (Nat.le_of_ble_eq_true rfl) ⟨by show cells + 0 + 0 ≤ 794606; omega, by show slots + 0 + 0 ≤ 6717651; omega⟩ (fun v M' H locs hq I => ?_)
    obtain ⟨rfl, C2, G, hQ2⟩ := hq
    have I := I.swap
    have hC := hC.q hQ2
    obtain ⟨⟨n1, n2⟩, ⟨q0, q1⟩, ⟨b2, b3, b4⟩, qp, dk, ek⟩ := id hC
    rcases zt_wrong_in T pr T.1.2 0 with h1w | ⟨a, ha1, ha2, ha3⟩
    · have h1v : zv_wrong T pr = -1 := h1w
      refine zr_top (y := (-1)) (h1v) ?_
      refine lv_istore (lv' := [(17, .int (-1)), (16, .int 0), (15, .int (nI pr)), (14, .int 1), (11, .int zv), (10, .int (nI t)), (0, .ref b), (1, .ref x), (2, .ref (ar 0)), (3, .ref (ar 1)), (4, .ref (ar 2)), (5, .ref (ar 3)), (6, .ref (ar 4)), (7, .ref (ar 5)), (8, .ref (ar 6)), (9, .ref (ar 7))]) hx hb dL_law_765 hl (by decide) rfl (fun ls hl => ?_)
      refine lv_aload_n hx hb dL_law_767 rfl (lv_at hl 8 rfl) ?_
      refine lv_iconst (v := 3) hx hb dL_law_768 (by decide) ?_
      refine lv_dup2_11 hx hb dL_law_769 rfl rfl ?_
      refine zr_iald (v := (C2 0 3)) C I.swap (LG.at G (i := 0) (by decide)) (show vp_in (nI 3) _ from LG.inn G (i := 0) (k := 3) (by decide) (by decide)) (show zh_A M' (ar 0) (nI 3).toNatClampNeg = _ from LG.rd G (by decide) (by decide) (rfl)) dL_law_770 ?_
      refine lv_iload hx hb dL_law_771 (lv_at hl 1 rfl) ?_
      refine lv_if_ge (tgt := 780) hx hb dL_law_773 (by decide) (fun _ => ?_) (fun h9 => absurd ((nI_leI (a := 0) (b := 0) (by omega) (by omega)).mpr (by omega)) h9)
      refine lv_iconst (v := 1) hx hb dL_law_780 (by decide) ?_
      refine lv_iload hx hb dL_law_781 (lv_at hl 2 rfl) ?_
      refine lv_ishl hx hb dL_law_783 ?_
      refine lv_ior hx hb dL_law_784 ?_
      refine zr_iast C I.swap (LG.at G (i := 0) (by decide)) (show vp_in (nI 3) _ from LG.inn G (i := 0) (k := 3) (by decide) (by decide)) dL_law_785 (fun H locs I => ?_)
      have G := LG.wr G (i := 0) (k := 3) ((C2 0 3) ||| (1 <<< ((nI pr) &&& 31))) (by decide) (by decide)
      have I : zh_V g _ s (zh_w g S) (zaw M' ar 0 3 ((C2 0 3) ||| (1 <<< ((nI pr) &&& 31)))) H locs := I
      generalize zaw M' ar 0 3 ((C2 0 3) ||| (1 <<< ((nI pr) &&& 31))) = M785 at I G
      have I := I.swap
      refine lv_iload hx hb dL_law_786 (lv_at hl 0 rfl) ?_
      refine lv_if_ge (tgt := 797) hx hb dL_law_788 (by decide) (fun h9 => absurd h9 (by decide)) (fun _ => ?_)
      refine lv_aload_n hx hb dL_law_791 rfl (lv_at hl 8 rfl) ?_
      refine lv_iconst (v := 1) hx hb dL_law_792 (by decide) ?_
      refine zr_iald (v := nI T.1.2) C I.swap (LG.at G (i := 0) (by decide)) (show vp_in (nI 1) _ from LG.inn G (i := 0) (k := 1) (by decide) (by decide)) (show zh_A M785 (ar 0) (nI 1).toNatClampNeg = _ from LG.rd G (by decide) (by decide) (by have h9 := q1; simp only [zu_dc]; grind)) dL_law_793 ?_
      refine lv_goto (tgt := 799) hx hb dL_law_794 (by decide) ?_
      refine lv_istore (lv' := [(18, .int (nI T.1.2)), (17, .int (-1)), (16, .int 0), (15, .int (nI pr)), (14, .int 1), (11, .int zv), (10, .int (nI t)), (0, .ref b), (1, .ref x), (2, .ref (ar 0)), (3, .ref (ar 1)), (4, .ref (ar 2)), (5, .ref (ar 3)), (6, .ref (ar 4)), (7, .ref (ar 5)), (8, .ref (ar 6)), (9, .ref (ar 7))]) hx hb dL_law_799 hl (by decide) rfl (fun ls hl => ?_)
      refine lv_iload hx hb dL_law_801 (lv_at hl 0 rfl) ?_
      refine lv_aload_n hx hb dL_law_803 rfl (lv_at hl 9 rfl) ?_
      refine lv_iconst (v := 1) hx hb dL_law_804 (by decide) ?_
      refine zr_iald (v := nI T.1.2) C I.swap (LG.at G (i := 0) (by decide)) (show vp_in (nI 1) _ from LG.inn G (i := 0) (k := 1) (by decide) (by decide)) (show zh_A M785 (ar 0) (nI 1).toNatClampNeg = _ from LG.rd G (by decide) (by decide) (by have h9 := q1; simp only [zu_dc]; grind)) dL_law_805 ?_
      refine lv_icmp_ge (tgt := 863) hx hb dL_law_806 (by decide) (fun _ => ?_) (fun h9 => absurd ((nI_leI (a := T.1.2) (b := T.1.2) (by omega) (by omega)).mpr (by omega)) h9)
      refine lv_aload_n hx hb dL_law_863 rfl (lv_at hl 8 rfl) ?_
      refine lv_iconst (v := 5) hx hb dL_law_864 (by decide) ?_
      refine lv_iload hx hb dL_law_865 (lv_at hl 3 rfl) ?_
      refine lv_iconst (v := 0) hx hb dL_law_867 (by decide) ?_
      refine lv_iconst (v := 0) hx hb dL_law_868 (by decide) ?_
      refine zc_SH (n := 5) (rest := []) C I (k_L_calls_dispute l g hst S T x (nI pr) 0 0 hT hF (by rw [hcd]; decide)) zm_271 zm_272 zm_15 zm_273 rfl hl.1 dL_law_869 (by decide +kernel) rfl ⟨Nat.le_of_ble_eq_true rfl, Nat.le_of_ble_eq_true rfl⟩ (Nat.le_of_ble_eq_true rfl) ⟨by show cells + 0 + 0 + 10 ≤ 794606; omega, by show slots + 0 + 0 + 300 ≤ 6717651; omega⟩ (fun v S' H locs hq I => ?_)
      obtain ⟨rfl, hF⟩ := hq
      refine zr_top (y := 0) (by rw [zca_0 hcd, hkz]; unfold zv_disp; rw [if_pos h1v]; rfl) ?_
      refine lv_iload hx hb dL_law_872 (lv_at hl 2 rfl) ?_
      refine lv_icmp_ne (tgt := 881) hx hb dL_law_874 (by decide) (fun h9 => absurd (rfl) h9) (fun _ => ?_)
      refine lv_iconst (v := 1) hx hb dL_law_877 (by decide) ?_
      refine lv_goto (tgt := 882) hx hb dL_law_878 (by decide) ?_
      refine lv_istore (lv' := [(14, .int 1), (18, .int (nI T.1.2)), (17, .int (-1)), (16, .int 0), (15, .int (nI pr)), (11, .int zv), (10, .int (nI t)), (0, .ref b), (1, .ref x), (2, .ref (ar 0)), (3, .ref (ar 1)), (4, .ref (ar 2)), (5, .ref (ar 3)), (6, .ref (ar 4)), (7, .ref (ar 5)), (8, .ref (ar 6)), (9, .ref (ar 7))]) hx hb dL_law_882 hl (by decide) rfl (fun ls hl => ?_)
      have hT8 := zt_ok_disp hT (nI pr)
      have eT : zs_disp T (nI pr) = zt_s T 3 pr 1 := by unfold zs_disp; rw [if_pos hcd, hkz, if_pos h1v]
      rw [eT] at hT8 hF
      refine W.widen (k := cells + 10) (n := slots + 300) (by show cells + 0 + 0 + 10 ≤ cells + 10; omega) (by show slots + 0 + 0 + 300 ≤ slots + 300; omega) ?_
      exact KT _ _ ls ⟨S', M785, (zt_s T 3 pr 1), (zh_u C2 0 3 ((C2 0 3) ||| (1 <<< ((nI pr) &&& 31)))), hP, hT8, hF, G, LC_disp hC (by omega), I, lv_sub hl [0, 5, 6, 7, 8, 9, 10, 11, 12, 13, 14, 15, 16] rfl⟩
    · have h1v : zv_wrong T pr = nI a := ha3
      have hne : ¬ zv_wrong T pr = -1 := by rw [h1v]; exact zi_m1 (by omega)
      refine zr_top (y := (nI a)) (h1v) ?_
      refine lv_istore (lv' := [(17, .int (nI a)), (16, .int 0), (15, .int (nI pr)), (14, .int 1), (11, .int zv), (10, .int (nI t)), (0, .ref b), (1, .ref x), (2, .ref (ar 0)), (3, .ref (ar 1)), (4, .ref (ar 2)), (5, .ref (ar 3)), (6, .ref (ar 4)), (7, .ref (ar 5)), (8, .ref (ar 6)), (9, .ref (ar 7))]) hx hb dL_law_765 hl (by decide) rfl (fun ls hl => ?_)
      refine lv_aload_n hx hb dL_law_767 rfl (lv_at hl 8 rfl) ?_
      refine lv_iconst (v := 3) hx hb dL_law_768 (by decide) ?_
      refine lv_dup2_11 hx hb dL_law_769 rfl rfl ?_
      refine zr_iald (v := (C2 0 3)) C I.swap (LG.at G (i := 0) (by decide)) (show vp_in (nI 3) _ from LG.inn G (i := 0) (k := 3) (by decide) (by decide)) (show zh_A M' (ar 0) (nI 3).toNatClampNeg = _ from LG.rd G (by decide) (by decide) (rfl)) dL_law_770 ?_
      refine lv_iload hx hb dL_law_771 (lv_at hl 1 rfl) ?_
      refine lv_if_ge (tgt := 780) hx hb dL_law_773 (by decide) (fun _ => ?_) (fun h9 => absurd ((nI_leI (a := 0) (b := 0) (by omega) (by omega)).mpr (by omega)) h9)
      refine lv_iconst (v := 1) hx hb dL_law_780 (by decide) ?_
      refine lv_iload hx hb dL_law_781 (lv_at hl 2 rfl) ?_
      refine lv_ishl hx hb dL_law_783 ?_
      refine lv_ior hx hb dL_law_784 ?_
      refine zr_iast C I.swap (LG.at G (i := 0) (by decide)) (show vp_in (nI 3) _ from LG.inn G (i := 0) (k := 3) (by decide) (by decide)) dL_law_785 (fun H locs I => ?_)
      have G := LG.wr G (i := 0) (k := 3) ((C2 0 3) ||| (1 <<< ((nI pr) &&& 31))) (by decide) (by decide)
      have I : zh_V g _ s (zh_w g S) (zaw M' ar 0 3 ((C2 0 3) ||| (1 <<< ((nI pr) &&& 31)))) H locs := I
      generalize zaw M' ar 0 3 ((C2 0 3) ||| (1 <<< ((nI pr) &&& 31))) = M785 at I G
      have I := I.swap
      refine lv_iload hx hb dL_law_786 (lv_at hl 0 rfl) ?_
      refine lv_if_ge (tgt := 797) hx hb dL_law_788 (by decide) (fun _ => ?_) (fun h9 => absurd ((nI_leI (a := 0) (b := a) (by omega) (by omega)).mpr (by omega)) h9)
      refine lv_iload hx hb dL_law_797 (lv_at hl 0 rfl) ?_
      refine lv_istore (lv' := [(18, .int (nI a)), (17, .int (nI a)), (16, .int 0), (15, .int (nI pr)), (14, .int 1), (11, .int zv), (10, .int (nI t)), (0, .ref b), (1, .ref x), (2, .ref (ar 0)), (3, .ref (ar 1)), (4, .ref (ar 2)), (5, .ref (ar 3)), (6, .ref (ar 4)), (7, .ref (ar 5)), (8, .ref (ar 6)), (9, .ref (ar 7))]) hx hb dL_law_799 hl (by decide) rfl (fun ls hl => ?_)
      have loop : ∀ (n9 k : Nat) (M1 : zS) (C1 : Nat → Nat → Int32) (H : Heap) (locs : List Loc) (ls : Array Slot), k + n9 = T.1.2 → a ≤ k → LG M1 ar C1 → LC C1 (zs_strike (zt_s T 3 pr 1) pr a k) → zh_V g (fun q => s.heap.size ≤ q) s (zh_w g M1) S H locs → lv_has ls 19 [(18, .int (nI k)), (16, .int (nI (zt_own T pr a k))), (15, .int (nI pr)), (14, .int 1), (11, .int zv), (10, .int (nI t)), (0, .ref b), (1, .ref x), (2, .ref (ar 0)), (3, .ref (ar 1)), (4, .ref (ar 2)), (5, .ref (ar 3)), (6, .ref (ar 4)), (7, .ref (ar 5)), (8, .ref (ar 6)), (9, .ref (ar 7))] → W p l e room_1 s m #[Value.ref b] below meth c H locs (cells + (zrm 0 0 0).cells + (zrm 2 0 0).cells) (slots + (zrm 0 0 0).slots + (zrm 2 0 0).slots) Q (F0 m 801 ls []) := by
        intro n9
        induction n9 with
        | zero =>
          intro k M1 C1 H locs ls hn hak G hC I hl
          obtain ⟨⟨n1, n2⟩, ⟨q0, q1⟩, ⟨b2, b3, b4⟩, qp, dk, ek⟩ := id hC
          have n2 : T.1.2 ≤ 30 := n2
          have q1 : C1 0 1 = nI T.1.2 := q1
          refine lv_iload hx hb dL_law_801 (lv_at hl 0 rfl) ?_
          refine lv_aload_n hx hb dL_law_803 rfl (lv_at hl 8 rfl) ?_
          refine lv_iconst (v := 1) hx hb dL_law_804 (by decide) ?_
          refine zr_iald (v := nI T.1.2) C I.swap (LG.at G (i := 0) (by decide)) (show vp_in (nI 1) _ from LG.inn G (i := 0) (k := 1) (by decide) (by decide)) (show zh_A M1 (ar 0) (nI 1).toNatClampNeg = _ from LG.rd G (by decide) (by decide) (q1)) dL_law_805 ?_
          refine lv_icmp_ge (tgt := 863) hx hb dL_law_806 (by decide) (fun _ => ?_) (fun h9 => absurd ((nI_leI (a := T.1.2) (b := k) (by omega) (by omega)).mpr (by omega)) h9)
          refine lv_aload_n hx hb dL_law_863 rfl (lv_at hl 7 rfl) ?_
          refine lv_iconst (v := 5) hx hb dL_law_864 (by decide) ?_
          refine lv_iload hx hb dL_law_865 (lv_at hl 2 rfl) ?_
          refine lv_iconst (v := 0) hx hb dL_law_867 (by decide) ?_
          refine lv_iconst (v := 0) hx hb dL_law_868 (by decide) ?_
          have ek9 : k = T.1.2 := by omega
          refine zc_SH (n := 5) (rest := []) C I (k_L_calls_dispute l g hst S T x (nI pr) 0 0 hT hF (by rw [hcd]; decide)) zm_271 zm_272 zm_15 zm_273 rfl hl.1 dL_law_869 (by decide +kernel) rfl ⟨Nat.le_of_ble_eq_true rfl, Nat.le_of_ble_eq_true rfl⟩ (Nat.le_of_ble_eq_true rfl) ⟨by show cells + 0 + 0 + 10 ≤ 794606; omega, by show slots + 0 + 0 + 300 ≤ 6717651; omega⟩ (fun v S' H locs hq I => ?_)
          obtain ⟨rfl, hF⟩ := hq
          refine zr_top (y := nI (zt_own T pr a k)) (by rw [zca_0 hcd, hkz]; unfold zv_disp; rw [if_neg hne, h1v, zx_nI (by omega), ek9]) ?_
          refine lv_iload hx hb dL_law_872 (lv_at hl 1 rfl) ?_
          refine lv_icmp_ne (tgt := 881) hx hb dL_law_874 (by decide) (fun h9 => absurd (rfl) h9) (fun _ => ?_)
          refine lv_iconst (v := 1) hx hb dL_law_877 (by decide) ?_
          refine lv_goto (tgt := 882) hx hb dL_law_878 (by decide) ?_
          refine lv_istore (lv' := [(14, .int 1), (18, .int (nI k)), (16, .int (nI (zt_own T pr a k))), (15, .int (nI pr)), (11, .int zv), (10, .int (nI t)), (0, .ref b), (1, .ref x), (2, .ref (ar 0)), (3, .ref (ar 1)), (4, .ref (ar 2)), (5, .ref (ar 3)), (6, .ref (ar 4)), (7, .ref (ar 5)), (8, .ref (ar 6)), (9, .ref (ar 7))]) hx hb dL_law_882 hl (by decide) rfl (fun ls hl => ?_)
          have hT8 := zt_ok_disp hT (nI pr)
          have eT : zs_disp T (nI pr) = (zs_strike (zt_s T 3 pr 1) pr a k) := by unfold zs_disp; rw [if_pos hcd, hkz, if_neg hne, h1v, zx_nI (by omega), ek9]
          rw [eT] at hT8 hF
          refine W.widen (k := cells + 10) (n := slots + 300) (by show cells + 0 + 0 + 10 ≤ cells + 10; omega) (by show slots + 0 + 0 + 300 ≤ slots + 300; omega) ?_
          exact KT _ _ ls ⟨S', M1, (zs_strike (zt_s T 3 pr 1) pr a k), C1, hP, hT8, hF, G, hC, I, lv_sub hl [0, 4, 5, 6, 7, 8, 9, 10, 11, 12, 13, 14, 15] rfl⟩
        | succ n9 ih =>
          intro k M1 C1 H locs ls hn hak G hC I hl
          obtain ⟨⟨n1, n2⟩, ⟨q0, q1⟩, ⟨b2, b3, b4⟩, qp, dk, ek⟩ := id hC
          have n2 : T.1.2 ≤ 30 := n2
          have q1 : C1 0 1 = nI T.1.2 := q1
          obtain ⟨v5, v6, v7, v8, v9, v10, v11, v12, v13, v14⟩ := t5 k (by omega)
          have hws := zq_own_s T pr a k
          have hol := zt_own_le T pr a k
          have e5 : (zs_strike (zt_s T 3 pr 1) pr a k).2 5 k = T.2 5 k := (zs_strike_j _ _ _ _ _ (by decide)).trans (zt_s_j _ _ _ _ (by decide))
          have e6 : (zs_strike (zt_s T 3 pr 1) pr a k).2 6 k = T.2 6 k := (zs_strike_j _ _ _ _ _ (by decide)).trans (zt_s_j _ _ _ _ (by decide))
          have w2 : C1 2 k = nI (4 * T.2 5 k + T.2 6 k) := by rw [← e5, ← e6]; exact (ek k (show k < T.1.2 by omega)).1
          refine lv_iload hx hb dL_law_801 (lv_at hl 0 rfl) ?_
          refine lv_aload_n hx hb dL_law_803 rfl (lv_at hl 8 rfl) ?_
          refine lv_iconst (v := 1) hx hb dL_law_804 (by decide) ?_
          refine zr_iald (v := nI T.1.2) C I.swap (LG.at G (i := 0) (by decide)) (show vp_in (nI 1) _ from LG.inn G (i := 0) (k := 1) (by decide) (by decide)) (show zh_A M1 (ar 0) (nI 1).toNatClampNeg = _ from LG.rd G (by decide) (by decide) (q1)) dL_law_805 ?_
          refine lv_icmp_ge (tgt := 863) hx hb dL_law_806 (by decide) (fun h9 => absurd h9 (fun h8 => absurd ((nI_leI (a := T.1.2) (b := k) (by omega) (by omega)).mp h8) (by omega))) (fun _ => ?_)
          refine lv_iload hx hb dL_law_809 (lv_at hl 1 rfl) ?_
          refine lv_aload hx hb dL_law_811 (lv_at hl 10 rfl) ?_
          refine lv_iload hx hb dL_law_813 (lv_at hl 0 rfl) ?_
          refine zr_iald (v := nI (4 * T.2 5 k + T.2 6 k)) C I.swap (LG.at G (i := 2) (by decide)) (show vp_in (nI k) _ from LG.inn G (i := 2) (k := k) (by decide) (show k < 30 by omega)) (show zh_A M1 (ar 2) (nI k).toNatClampNeg = _ from LG.rd G (by decide) (show k < 30 by omega) (w2)) dL_law_815 ?_
          refine lv_iconst (v := 4) hx hb dL_law_816 (by decide) ?_
          refine lv_idiv hx hb dL_law_817 (by decide) ?_
          refine zr_top (y := nI (T.2 5 k)) ((pk_div (a := 4 * T.2 5 k + T.2 6 k) (d := 4) (by omega) (by decide) (by decide)).trans (congrArg nI (by omega))) ?_
          refine lv_iload hx hb dL_law_818 (lv_at hl 2 rfl) ?_
          refine lv_icmp_ne (tgt := 827) hx hb dL_law_820 (by decide) (fun c820 => ?_) (fun c820 => ?_)
          · have c820 : ¬ (T.2 5 k) = pr := fun h9 => c820 ((nI_eq (a := T.2 5 k) (b := pr) (by omega) (by omega)).mpr h9)
            refine lv_iconst (v := 0) hx hb dL_law_827 (by decide) ?_
            refine lv_iadd hx hb dL_law_828 ?_
            refine zr_top (y := nI ((zt_own T pr a k) + 0)) (nI_add (zt_own T pr a k) 0) ?_
            refine lv_istore (lv' := [(16, .int (nI ((zt_own T pr a k) + 0))), (18, .int (nI k)), (15, .int (nI pr)), (14, .int 1), (11, .int zv), (10, .int (nI t)), (0, .ref b), (1, .ref x), (2, .ref (ar 0)), (3, .ref (ar 1)), (4, .ref (ar 2)), (5, .ref (ar 3)), (6, .ref (ar 4)), (7, .ref (ar 5)), (8, .ref (ar 6)), (9, .ref (ar 7))]) hx hb dL_law_829 hl (by decide) rfl (fun ls hl => ?_)
            refine lv_aload_n hx hb dL_law_831 rfl (lv_at hl 8 rfl) ?_
            refine lv_iconst (v := 4) hx hb dL_law_832 (by decide) ?_
            refine lv_dup2_11 hx hb dL_law_833 rfl rfl ?_
            refine zr_iald (v := (C1 0 4)) C I.swap (LG.at G (i := 0) (by decide)) (show vp_in (nI 4) _ from LG.inn G (i := 0) (k := 4) (by decide) (by decide)) (show zh_A M1 (ar 0) (nI 4).toNatClampNeg = _ from LG.rd G (by decide) (by decide) (rfl)) dL_law_834 ?_
            refine lv_aload hx hb dL_law_835 (lv_at hl 10 rfl) ?_
            refine lv_iload hx hb dL_law_837 (lv_at hl 1 rfl) ?_
            refine zr_iald (v := nI (4 * T.2 5 k + T.2 6 k)) C I.swap (LG.at G (i := 2) (by decide)) (show vp_in (nI k) _ from LG.inn G (i := 2) (k := k) (by decide) (show k < 30 by omega)) (show zh_A M1 (ar 2) (nI k).toNatClampNeg = _ from LG.rd G (by decide) (show k < 30 by omega) (w2)) dL_law_839 ?_
            refine lv_iconst (v := 4) hx hb dL_law_840 (by decide) ?_
            refine lv_idiv hx hb dL_law_841 (by decide) ?_
            refine zr_top (y := nI (T.2 5 k)) ((pk_div (a := 4 * T.2 5 k + T.2 6 k) (d := 4) (by omega) (by decide) (by decide)).trans (congrArg nI (by omega))) ?_
            refine lv_iload hx hb dL_law_842 (lv_at hl 2 rfl) ?_
            refine lv_icmp_ne (tgt := 854) hx hb dL_law_844 (by decide) (fun _ => ?_) (fun h9 => absurd h9 (fun h8 => absurd ((nI_eq (a := T.2 5 k) (b := pr) (by omega) (by omega)).mp h8) (c820)))
            refine lv_iconst (v := 0) hx hb dL_law_854 (by decide) ?_
            refine lv_ior hx hb dL_law_855 ?_
            refine zr_iast C I.swap (LG.at G (i := 0) (by decide)) (show vp_in (nI 4) _ from LG.inn G (i := 0) (k := 4) (by decide) (by decide)) dL_law_856 (fun H locs I => ?_)
            have G := LG.wr G (i := 0) (k := 4) ((C1 0 4) ||| 0) (by decide) (by decide)
            have I : zh_V g _ s (zh_w g S) (zaw M1 ar 0 4 ((C1 0 4) ||| 0)) H locs := I
            generalize zaw M1 ar 0 4 ((C1 0 4) ||| 0) = M856 at I G
            have I := I.swap
            refine lv_iinc (v := nI (k + 1)) (lv' := [(18, .int (nI (k + 1))), (16, .int (nI ((zt_own T pr a k) + 0))), (15, .int (nI pr)), (14, .int 1), (11, .int zv), (10, .int (nI t)), (0, .ref b), (1, .ref x), (2, .ref (ar 0)), (3, .ref (ar 1)), (4, .ref (ar 2)), (5, .ref (ar 3)), (6, .ref (ar 4)), (7, .ref (ar 5)), (8, .ref (ar 6)), (9, .ref (ar 7))]) hx hb dL_law_857 hl (k := 1) rfl (nI_add k 1) (by decide) rfl (fun ls hl => ?_)
            refine lv_goto (tgt := 801) hx hb dL_law_860 (by decide) ?_
            have hC9 := LC_same hC (zu_or0 C1 0 4)
            rw [zs_strike_n (zt_s T 3 pr 1) (fun h => c820 ((zt_s_j _ _ _ _ (by decide)).symm.trans h.1))] at hC9
            rw [if_neg (fun h => c820 h.1)] at hws
            rw [← hws] at hl
            exact ih (k + 1) M856 _ _ _ ls (by omega) (by omega) G hC9 I (lv_sub hl [0, 1, 2, 3, 4, 5, 6, 7, 8, 9, 10, 11, 12, 13, 14, 15] rfl)
          · have c820 : (T.2 5 k) = pr := (nI_eq (a := T.2 5 k) (b := pr) (by omega) (by omega)).mp c820
            refine lv_iconst (v := 1) hx hb dL_law_823 (by decide) ?_
            refine lv_goto (tgt := 828) hx hb dL_law_824 (by decide) ?_
            refine lv_iadd hx hb dL_law_828 ?_
            refine zr_top (y := nI ((zt_own T pr a k) + 1)) (nI_add (zt_own T pr a k) 1) ?_
            refine lv_istore (lv' := [(16, .int (nI ((zt_own T pr a k) + 1))), (18, .int (nI k)), (15, .int (nI pr)), (14, .int 1), (11, .int zv), (10, .int (nI t)), (0, .ref b), (1, .ref x), (2, .ref (ar 0)), (3, .ref (ar 1)), (4, .ref (ar 2)), (5, .ref (ar 3)), (6, .ref (ar 4)), (7, .ref (ar 5)), (8, .ref (ar 6)), (9, .ref (ar 7))]) hx hb dL_law_829 hl (by decide) rfl (fun ls hl => ?_)
            refine lv_aload_n hx hb dL_law_831 rfl (lv_at hl 8 rfl) ?_
            refine lv_iconst (v := 4) hx hb dL_law_832 (by decide) ?_
            refine lv_dup2_11 hx hb dL_law_833 rfl rfl ?_
            refine zr_iald (v := (C1 0 4)) C I.swap (LG.at G (i := 0) (by decide)) (show vp_in (nI 4) _ from LG.inn G (i := 0) (k := 4) (by decide) (by decide)) (show zh_A M1 (ar 0) (nI 4).toNatClampNeg = _ from LG.rd G (by decide) (by decide) (rfl)) dL_law_834 ?_
            refine lv_aload hx hb dL_law_835 (lv_at hl 10 rfl) ?_
            refine lv_iload hx hb dL_law_837 (lv_at hl 1 rfl) ?_
            refine zr_iald (v := nI (4 * T.2 5 k + T.2 6 k)) C I.swap (LG.at G (i := 2) (by decide)) (show vp_in (nI k) _ from LG.inn G (i := 2) (k := k) (by decide) (show k < 30 by omega)) (show zh_A M1 (ar 2) (nI k).toNatClampNeg = _ from LG.rd G (by decide) (show k < 30 by omega) (w2)) dL_law_839 ?_
            refine lv_iconst (v := 4) hx hb dL_law_840 (by decide) ?_
            refine lv_idiv hx hb dL_law_841 (by decide) ?_
            refine zr_top (y := nI (T.2 5 k)) ((pk_div (a := 4 * T.2 5 k + T.2 6 k) (d := 4) (by omega) (by decide) (by decide)).trans (congrArg nI (by omega))) ?_
            refine lv_iload hx hb dL_law_842 (lv_at hl 2 rfl) ?_
            refine lv_icmp_ne (tgt := 854) hx hb dL_law_844 (by decide) (fun h9 => absurd ((nI_eq (a := T.2 5 k) (b := pr) (by omega) (by omega)).mpr (c820)) h9) (fun _ => ?_)
            refine lv_iconst (v := 1) hx hb dL_law_847 (by decide) ?_
            refine lv_iload hx hb dL_law_848 (lv_at hl 1 rfl) ?_
            refine lv_ishl hx hb dL_law_850 ?_
            refine lv_goto (tgt := 855) hx hb dL_law_851 (by decide) ?_
            refine lv_ior hx hb dL_law_855 ?_
            refine zr_iast C I.swap (LG.at G (i := 0) (by decide)) (show vp_in (nI 4) _ from LG.inn G (i := 0) (k := 4) (by decide) (by decide)) dL_law_856 (fun H locs I => ?_)
            have G := LG.wr G (i := 0) (k := 4) ((C1 0 4) ||| (1 <<< ((nI k) &&& 31))) (by decide) (by decide)
            have I : zh_V g _ s (zh_w g S) (zaw M1 ar 0 4 ((C1 0 4) ||| (1 <<< ((nI k) &&& 31)))) H locs := I
            generalize zaw M1 ar 0 4 ((C1 0 4) ||| (1 <<< ((nI k) &&& 31))) = M856 at I G
            have I := I.swap
            refine lv_iinc (v := nI (k + 1)) (lv' := [(18, .int (nI (k + 1))), (16, .int (nI ((zt_own T pr a k) + 1))), (15, .int (nI pr)), (14, .int 1), (11, .int zv), (10, .int (nI t)), (0, .ref b), (1, .ref x), (2, .ref (ar 0)), (3, .ref (ar 1)), (4, .ref (ar 2)), (5, .ref (ar 3)), (6, .ref (ar 4)), (7, .ref (ar 5)), (8, .ref (ar 6)), (9, .ref (ar 7))]) hx hb dL_law_857 hl (k := 1) rfl (nI_add k 1) (by decide) rfl (fun ls hl => ?_)
            refine lv_goto (tgt := 801) hx hb dL_law_860 (by decide) ?_
            have hC9 := LC_strike (T := zt_s T 3 pr 1) (k0 := k) hC (by omega) ((zt_s_j _ _ _ _ (by decide)).trans c820) hak
            rw [if_pos ⟨c820, hak⟩] at hws
            rw [← hws] at hl
            exact ih (k + 1) M856 _ _ _ ls (by omega) (by omega) G hC9 I (lv_sub hl [0, 1, 2, 3, 4, 5, 6, 7, 8, 9, 10, 11, 12, 13, 14, 15] rfl)
      have hC9 := LC_disp hC (q := pr) (by omega)
      rw [← zs_strike_0 (zt_s T 3 pr 1) pr a a (Nat.le_refl a)] at hC9
      have e0 : (0 : Int32) = nI (zt_own T pr a a) := by rw [zt_own_lo T pr a a (Nat.le_refl a)]; rfl
      have hl : lv_has ls 19 [(18, .int (nI a)), (17, .int (nI a)), (16, .int (nI (zt_own T pr a a))), (15, .int (nI pr)), (14, .int 1), (11, .int zv), (10, .int (nI t)), (0, .ref b), (1, .ref x), (2, .ref (ar 0)), (3, .ref (ar 1)), (4, .ref (ar 2)), (5, .ref (ar 3)), (6, .ref (ar 4)), (7, .ref (ar 5)), (8, .ref (ar 6)), (9, .ref (ar 7))] := by rw [← e0]; exact hl
      exact loop (T.1.2 - a) a M785 _ _ _ ls (by omega) (Nat.le_refl a) G hC9 I (lv_sub hl [0, 2, 3, 4, 5, 6, 7, 8, 9, 10, 11, 12, 13, 14, 15, 16] rfl)

set_option maxRecDepth 100000 in
set_option maxHeartbeats 4000000 in
theorem k_law_262 (K0 : zLC p l s m c g b L xs) (pr tb fc : Nat) (htb : tb < 4) (hf2 : 2 ≤ fc) (hf3 : fc ≤ 1000) (hcs : cells + 620 ≤ 794606) (hss : slots + 12610 ≤ 6717651) (KT : ∀ (H : Heap) (locs : List Loc) (ls : Array Slot), zLP g s x ar (fun T => 1 ≤ T.1.1) H locs ls [(14, .int 1), (11, .int zv), (10, .int (nI t)), (0, .ref b), (1, .ref x), (2, .ref (ar 0)), (3, .ref (ar 1)), (4, .ref (ar 2)), (5, .ref (ar 3)), (6, .ref (ar 4)), (7, .ref (ar 5)), (8, .ref (ar 6)), (9, .ref (ar 7))] → W p l e room_1 s m #[Value.ref b] below meth c H locs (cells + 10) (slots + 300) Q (F0 m 884 ls [])) (I0 : zLP g s x ar (fun T => pr < T.1.1 ∧ T.1.2 < 30) H locs ls [(16, .int (nI tb)), (15, .int (nI pr)), (14, .int 1), (11, .int zv), (10, .int (nI t)), (0, .ref b), (1, .ref x), (2, .ref (ar 0)), (3, .ref (ar 1)), (4, .ref (ar 2)), (5, .ref (ar 3)), (6, .ref (ar 4)), (7, .ref (ar 5)), (8, .ref (ar 6)), (9, .ref (ar 7))]) : W p l e room_1 s m #[Value.ref b] below meth c H locs cells slots Q (F0 m 262 ls [.int (nI fc)]) := by
  obtain ⟨hst, C, hX, hbg, hL⟩ := id K0
  obtain ⟨S, M, T, Ct, ⟨hpr, hn30⟩, hT, hF, G, hC, I, hl⟩ := I0
  have hx := C.1
  have hb := C.2.1
  obtain ⟨pl, lo, pt, ty, pa, la, ap, ad, ae, hF9⟩ := id hF
  obtain ⟨⟨n1, n2⟩, ⟨q0, q1⟩, ⟨b2, b3, b4⟩, qp, dk, ek⟩ := id hC
  obtain ⟨t1, t2, t3, t4, t5, t6, t7⟩ := id hT
  have hl : lv_has ls 19 [(16, .int (nI tb)), (15, .int (nI pr)), (14, .int 1), (11, .int zv), (10, .int (nI t)), (0, .ref b), (1, .ref x), (2, .ref (ar 0)), (3, .ref (ar 1)), (4, .ref (ar 2)), (5, .ref (ar 3)), (6, .ref (ar 4)), (7, .ref (ar 5)), (8, .ref (ar 6)), (9, .ref (ar 7))] := hl
  have hkz : zx (nI pr) = pr := zx_nI (by omega)
  have htz : zx (nI tb) = tb := zx_nI (by omega)
  have hfz : zx (nI fc) = fc := zx_nI (by omega)
  have hzp : ¬ (zi T.1.1 (nI pr) ∨ zi 4 (nI tb)) := fun h => h.elim (zi_no hpr (by omega)) (zi_no htb (by decide))
  obtain ⟨p1, p2, p3, p4⟩ := t3 pr
  have hpt := t4 tb
  have hff : ¬ (nI fc < 2 ∨ 1000 < nI fc) := fun h => h.elim (fun h => absurd ((nI_ltI (a := fc) (b := 2) (by omega) (by omega)).mp h) (by omega)) (fun h => absurd ((nI_ltI (a := 1000) (b := fc) (by omega) (by omega)).mp h) (by omega))
  rcases (show T.2 2 pr = 0 ∨ T.2 2 pr = 1 by omega) with ho | ho
  · refine lv_istore (lv' := [(17, .int (nI fc)), (16, .int (nI tb)), (15, .int (nI pr)), (14, .int 1), (11, .int zv), (10, .int (nI t)), (0, .ref b), (1, .ref x), (2, .ref (ar 0)), (3, .ref (ar 1)), (4, .ref (ar 2)), (5, .ref (ar 3)), (6, .ref (ar 4)), (7, .ref (ar 5)), (8, .ref (ar 6)), (9, .ref (ar 7))]) hx hb dL_law_262 hl (by decide) rfl (fun ls hl => ?_)
    refine lv_bipush (v := (-3)) hx hb dL_law_264 (by decide) ?_
    refine lv_istore (lv' := [(18, .int (-3)), (17, .int (nI fc)), (16, .int (nI tb)), (15, .int (nI pr)), (14, .int 1), (11, .int zv), (10, .int (nI t)), (0, .ref b), (1, .ref x), (2, .ref (ar 0)), (3, .ref (ar 1)), (4, .ref (ar 2)), (5, .ref (ar 3)), (6, .ref (ar 4)), (7, .ref (ar 5)), (8, .ref (ar 6)), (9, .ref (ar 7))]) hx hb dL_law_266 hl (by decide) rfl (fun ls hl => ?_)
    refine lv_aload_n hx hb dL_law_268 rfl (lv_at hl 9 rfl) ?_
    refine lv_iconst (v := 2) hx hb dL_law_269 (by decide) ?_
    refine zr_iald (v := (Ct 0 2)) C I.swap (LG.at G (i := 0) (by decide)) (show vp_in (nI 2) _ from LG.inn G (i := 0) (k := 2) (by decide) (by decide)) (show zh_A M (ar 0) (nI 2).toNatClampNeg = _ from LG.rd G (by decide) (by decide) (rfl)) dL_law_270 ?_
    refine lv_iload hx hb dL_law_271 (lv_at hl 3 rfl) ?_
    refine lv_ishr hx hb dL_law_273 ?_
    refine lv_iconst (v := 1) hx hb dL_law_274 (by decide) ?_
    refine lv_iand hx hb dL_law_275 ?_
    refine zr_top (y := nI (T.2 2 pr)) (zbt_rd b2 (by omega)) ?_
    refine lv_if_ne (tgt := 391) hx hb dL_law_276 (by decide) (fun h9 => absurd ((nI_eq (a := T.2 2 pr) (b := 0) (by omega) (by omega)).mpr (ho)) h9) (fun _ => ?_)
    refine lv_aload_n hx hb dL_law_279 rfl (lv_at hl 10 rfl) ?_
    refine lv_bipush (v := 6) hx hb dL_law_280 (by decide) ?_
    refine lv_iload hx hb dL_law_282 (lv_at hl 3 rfl) ?_
    refine lv_iadd hx hb dL_law_284 ?_
    refine zr_top (y := nI (6 + pr)) (nI_add 6 pr) ?_
    refine zr_iald (v := nI (T.2 1 pr)) C I.swap (LG.at G (i := 1) (by decide)) (show vp_in (nI (6 + pr)) _ from LG.inn G (i := 1) (k := 6 + pr) (by decide) (show 6 + pr < 12 by omega)) (show zh_A M (ar 1) (nI (6 + pr)).toNatClampNeg = _ from LG.rd G (by decide) (show 6 + pr < 12 by omega) ((dk pr hpr).2)) dL_law_285 ?_
    refine lv_aload_n hx hb dL_law_286 rfl (lv_at hl 9 rfl) ?_
    refine lv_iconst (v := 5) hx hb dL_law_287 (by decide) ?_
    refine lv_iload hx hb dL_law_288 (lv_at hl 2 rfl) ?_
    refine lv_iadd hx hb dL_law_290 ?_
    refine zr_top (y := nI (5 + tb)) (nI_add 5 tb) ?_
    refine zr_iald (v := nI (T.2 4 tb)) C I.swap (LG.at G (i := 0) (by decide)) (show vp_in (nI (5 + tb)) _ from LG.inn G (i := 0) (k := 5 + tb) (by decide) (show 5 + tb < 11 by omega)) (show zh_A M (ar 0) (nI (5 + tb)).toNatClampNeg = _ from LG.rd G (by decide) (show 5 + tb < 11 by omega) (qp tb htb)) dL_law_291 ?_
    refine lv_iload hx hb dL_law_292 (lv_at hl 1 rfl) ?_
    refine lv_aload_n hx hb dL_law_294 rfl (lv_at hl 9 rfl) ?_
    have hvl : (zd_val (T.2 1 pr) (T.2 4 tb) fc) ≤ fc := zd_val_le hf2
    have hrl := zd_roll_le (T.2 1 pr) (T.2 4 tb) fc
    have hz12 := t7 T.1.2 (Nat.le_refl _)
    refine zc_S (n := 4) (rest := []) C I.swap (k_L_rolls l g M ar Ct G (T.2 1 pr) (T.2 4 tb) fc p2 hpt hf2 hf3) zm_382 zm_383 zm_15 zm_384 rfl hl.1 dL_law_295 (by decide +kernel) rfl ⟨Nat.le_of_ble_eq_true rfl, Nat.le_of_ble_eq_true rfl⟩ (Nat.le_of_ble_eq_true rfl) ⟨by show cells + 0 ≤ 794606; omega, by show slots + 0 ≤ 6717651; omega⟩ (fun v M' H locs hq I => ?_)
    obtain ⟨rfl, C2, G, hQ2, h9s, h10s⟩ := hq
    have I := I.swap
    have hC := hC.q hQ2
    obtain ⟨⟨n1, n2⟩, ⟨q0, q1⟩, ⟨b2, b3, b4⟩, qp, dk, ek⟩ := id hC
    refine lv_istore (lv' := [(18, .int (nI (zd_val (T.2 1 pr) (T.2 4 tb) fc))), (17, .int (nI fc)), (16, .int (nI tb)), (15, .int (nI pr)), (14, .int 1), (11, .int zv), (10, .int (nI t)), (0, .ref b), (1, .ref x), (2, .ref (ar 0)), (3, .ref (ar 1)), (4, .ref (ar 2)), (5, .ref (ar 3)), (6, .ref (ar 4)), (7, .ref (ar 5)), (8, .ref (ar 6)), (9, .ref (ar 7))]) hx hb dL_law_298 hl (by decide) rfl (fun ls hl => ?_)
    refine lv_aload_n hx hb dL_law_300 rfl (lv_at hl 10 rfl) ?_
    refine lv_bipush (v := 6) hx hb dL_law_301 (by decide) ?_
    refine lv_iload hx hb dL_law_303 (lv_at hl 3 rfl) ?_
    refine lv_iadd hx hb dL_law_305 ?_
    refine zr_top (y := nI (6 + pr)) (nI_add 6 pr) ?_
    refine lv_aload_n hx hb dL_law_306 rfl (lv_at hl 9 rfl) ?_
    refine lv_bipush (v := 9) hx hb dL_law_307 (by decide) ?_
    refine zr_iald (v := nI (zd_roll (T.2 1 pr) (T.2 4 tb) fc).1) C I.swap (LG.at G (i := 0) (by decide)) (show vp_in (nI 9) _ from LG.inn G (i := 0) (k := 9) (by decide) (by decide)) (show zh_A M' (ar 0) (nI 9).toNatClampNeg = _ from LG.rd G (by decide) (by decide) (h9s)) dL_law_309 ?_
    refine zr_iast C I.swap (LG.at G (i := 1) (by decide)) (show vp_in (nI (6 + pr)) _ from LG.inn G (i := 1) (k := 6 + pr) (by decide) (show 6 + pr < 12 by omega)) dL_law_310 (fun H locs I => ?_)
    have G := LG.wr G (i := 1) (k := 6 + pr) (nI (zd_roll (T.2 1 pr) (T.2 4 tb) fc).1) (by decide) (show 6 + pr < 12 by omega)
    have I : zh_V g _ s (zh_w g S) (zaw M' ar 1 (6 + pr) (nI (zd_roll (T.2 1 pr) (T.2 4 tb) fc).1)) H locs := I
    generalize zaw M' ar 1 (6 + pr) (nI (zd_roll (T.2 1 pr) (T.2 4 tb) fc).1) = M310 at I G
    have I := I.swap
    refine lv_aload hx hb dL_law_311 (lv_at hl 11 rfl) ?_
    refine lv_aload_n hx hb dL_law_313 rfl (lv_at hl 9 rfl) ?_
    refine lv_iconst (v := 1) hx hb dL_law_314 (by decide) ?_
    refine zr_iald (v := nI T.1.2) C I.swap (LG.at G (i := 0) (by decide)) (show vp_in (nI 1) _ from LG.inn G (i := 0) (k := 1) (by decide) (by decide)) (show zh_A M310 (ar 0) (nI 1).toNatClampNeg = _ from LG.rd G (by decide) (by decide) (by have h9 := q1; simp only [zu_dc]; grind)) dL_law_315 ?_
    refine lv_iconst (v := 4) hx hb dL_law_316 (by decide) ?_
    refine lv_iload hx hb dL_law_317 (lv_at hl 3 rfl) ?_
    refine lv_imul hx hb dL_law_319 ?_
    refine zr_top (y := nI (4 * pr)) (pk_mul 4 pr) ?_
    refine lv_iload hx hb dL_law_320 (lv_at hl 2 rfl) ?_
    refine lv_iadd hx hb dL_law_322 ?_
    refine zr_top (y := nI ((4 * pr) + tb)) (nI_add (4 * pr) tb) ?_
    refine zr_iast C I.swap (LG.at G (i := 2) (by decide)) (show vp_in (nI T.1.2) _ from LG.inn G (i := 2) (k := T.1.2) (by decide) (show T.1.2 < 30 by omega)) dL_law_323 (fun H locs I => ?_)
    have G := LG.wr G (i := 2) (k := T.1.2) (nI ((4 * pr) + tb)) (by decide) (show T.1.2 < 30 by omega)
    have I : zh_V g _ s (zh_w g S) (zaw M310 ar 2 T.1.2 (nI ((4 * pr) + tb))) H locs := I
    generalize zaw M310 ar 2 T.1.2 (nI ((4 * pr) + tb)) = M323 at I G
    have I := I.swap
    refine lv_aload hx hb dL_law_324 (lv_at hl 12 rfl) ?_
    refine lv_aload_n hx hb dL_law_326 rfl (lv_at hl 9 rfl) ?_
    refine lv_iconst (v := 1) hx hb dL_law_327 (by decide) ?_
    refine zr_iald (v := nI T.1.2) C I.swap (LG.at G (i := 0) (by decide)) (show vp_in (nI 1) _ from LG.inn G (i := 0) (k := 1) (by decide) (by decide)) (show zh_A M323 (ar 0) (nI 1).toNatClampNeg = _ from LG.rd G (by decide) (by decide) (by have h9 := q1; simp only [zu_dc]; grind)) dL_law_328 ?_
    refine lv_aload_n hx hb dL_law_329 rfl (lv_at hl 9 rfl) ?_
    refine lv_iconst (v := 5) hx hb dL_law_330 (by decide) ?_
    refine lv_iload hx hb dL_law_331 (lv_at hl 2 rfl) ?_
    refine lv_iadd hx hb dL_law_333 ?_
    refine zr_top (y := nI (5 + tb)) (nI_add 5 tb) ?_
    refine zr_iald (v := nI (T.2 4 tb)) C I.swap (LG.at G (i := 0) (by decide)) (show vp_in (nI (5 + tb)) _ from LG.inn G (i := 0) (k := 5 + tb) (by decide) (show 5 + tb < 11 by omega)) (show zh_A M323 (ar 0) (nI (5 + tb)).toNatClampNeg = _ from LG.rd G (by decide) (show 5 + tb < 11 by omega) (by have h9 := qp tb htb; simp only [zu_dc]; grind)) dL_law_334 ?_
    refine zr_iast C I.swap (LG.at G (i := 3) (by decide)) (show vp_in (nI T.1.2) _ from LG.inn G (i := 3) (k := T.1.2) (by decide) (show T.1.2 < 30 by omega)) dL_law_335 (fun H locs I => ?_)
    have G := LG.wr G (i := 3) (k := T.1.2) (nI (T.2 4 tb)) (by decide) (show T.1.2 < 30 by omega)
    have I : zh_V g _ s (zh_w g S) (zaw M323 ar 3 T.1.2 (nI (T.2 4 tb))) H locs := I
    generalize zaw M323 ar 3 T.1.2 (nI (T.2 4 tb)) = M335 at I G
    have I := I.swap
    refine lv_aload hx hb dL_law_336 (lv_at hl 13 rfl) ?_
    refine lv_aload_n hx hb dL_law_338 rfl (lv_at hl 9 rfl) ?_
    refine lv_iconst (v := 1) hx hb dL_law_339 (by decide) ?_
    refine zr_iald (v := nI T.1.2) C I.swap (LG.at G (i := 0) (by decide)) (show vp_in (nI 1) _ from LG.inn G (i := 0) (k := 1) (by decide) (by decide)) (show zh_A M335 (ar 0) (nI 1).toNatClampNeg = _ from LG.rd G (by decide) (by decide) (by have h9 := q1; simp only [zu_dc]; grind)) dL_law_340 ?_
    refine lv_iload hx hb dL_law_341 (lv_at hl 1 rfl) ?_
    refine zr_iast C I.swap (LG.at G (i := 4) (by decide)) (show vp_in (nI T.1.2) _ from LG.inn G (i := 4) (k := T.1.2) (by decide) (show T.1.2 < 30 by omega)) dL_law_343 (fun H locs I => ?_)
    have G := LG.wr G (i := 4) (k := T.1.2) (nI fc) (by decide) (show T.1.2 < 30 by omega)
    have I : zh_V g _ s (zh_w g S) (zaw M335 ar 4 T.1.2 (nI fc)) H locs := I
    generalize zaw M335 ar 4 T.1.2 (nI fc) = M343 at I G
    have I := I.swap
    refine lv_aload hx hb dL_law_344 (lv_at hl 14 rfl) ?_
    refine lv_aload_n hx hb dL_law_346 rfl (lv_at hl 9 rfl) ?_
    refine lv_iconst (v := 1) hx hb dL_law_347 (by decide) ?_
    refine zr_iald (v := nI T.1.2) C I.swap (LG.at G (i := 0) (by decide)) (show vp_in (nI 1) _ from LG.inn G (i := 0) (k := 1) (by decide) (by decide)) (show zh_A M343 (ar 0) (nI 1).toNatClampNeg = _ from LG.rd G (by decide) (by decide) (by have h9 := q1; simp only [zu_dc]; grind)) dL_law_348 ?_
    refine lv_iload hx hb dL_law_349 (lv_at hl 0 rfl) ?_
    refine zr_iast C I.swap (LG.at G (i := 5) (by decide)) (show vp_in (nI T.1.2) _ from LG.inn G (i := 5) (k := T.1.2) (by decide) (show T.1.2 < 30 by omega)) dL_law_351 (fun H locs I => ?_)
    have G := LG.wr G (i := 5) (k := T.1.2) (nI (zd_val (T.2 1 pr) (T.2 4 tb) fc)) (by decide) (show T.1.2 < 30 by omega)
    have I : zh_V g _ s (zh_w g S) (zaw M343 ar 5 T.1.2 (nI (zd_val (T.2 1 pr) (T.2 4 tb) fc))) H locs := I
    generalize zaw M343 ar 5 T.1.2 (nI (zd_val (T.2 1 pr) (T.2 4 tb) fc)) = M351 at I G
    have I := I.swap
    refine lv_aload hx hb dL_law_352 (lv_at hl 15 rfl) ?_
    refine lv_aload_n hx hb dL_law_354 rfl (lv_at hl 9 rfl) ?_
    refine lv_iconst (v := 1) hx hb dL_law_355 (by decide) ?_
    refine zr_iald (v := nI T.1.2) C I.swap (LG.at G (i := 0) (by decide)) (show vp_in (nI 1) _ from LG.inn G (i := 0) (k := 1) (by decide) (by decide)) (show zh_A M351 (ar 0) (nI 1).toNatClampNeg = _ from LG.rd G (by decide) (by decide) (by have h9 := q1; simp only [zu_dc]; grind)) dL_law_356 ?_
    refine lv_aload_n hx hb dL_law_357 rfl (lv_at hl 9 rfl) ?_
    refine lv_bipush (v := 10) hx hb dL_law_358 (by decide) ?_
    refine zr_iald (v := nI (zd_roll (T.2 1 pr) (T.2 4 tb) fc).2) C I.swap (LG.at G (i := 0) (by decide)) (show vp_in (nI 10) _ from LG.inn G (i := 0) (k := 10) (by decide) (by decide)) (show zh_A M351 (ar 0) (nI 10).toNatClampNeg = _ from LG.rd G (by decide) (by decide) (by have h9 := h10s; simp only [zu_dc]; grind)) dL_law_360 ?_
    refine zr_iast C I.swap (LG.at G (i := 6) (by decide)) (show vp_in (nI T.1.2) _ from LG.inn G (i := 6) (k := T.1.2) (by decide) (show T.1.2 < 30 by omega)) dL_law_361 (fun H locs I => ?_)
    have G := LG.wr G (i := 6) (k := T.1.2) (nI (zd_roll (T.2 1 pr) (T.2 4 tb) fc).2) (by decide) (show T.1.2 < 30 by omega)
    have I : zh_V g _ s (zh_w g S) (zaw M351 ar 6 T.1.2 (nI (zd_roll (T.2 1 pr) (T.2 4 tb) fc).2)) H locs := I
    generalize zaw M351 ar 6 T.1.2 (nI (zd_roll (T.2 1 pr) (T.2 4 tb) fc).2) = M361 at I G
    have I := I.swap
    refine lv_aload hx hb dL_law_362 (lv_at hl 16 rfl) ?_
    refine lv_aload_n hx hb dL_law_364 rfl (lv_at hl 9 rfl) ?_
    refine lv_iconst (v := 1) hx hb dL_law_365 (by decide) ?_
    refine zr_iald (v := nI T.1.2) C I.swap (LG.at G (i := 0) (by decide)) (show vp_in (nI 1) _ from LG.inn G (i := 0) (k := 1) (by decide) (by decide)) (show zh_A M361 (ar 0) (nI 1).toNatClampNeg = _ from LG.rd G (by decide) (by decide) (by have h9 := q1; simp only [zu_dc]; grind)) dL_law_366 ?_
    refine lv_aload_n hx hb dL_law_367 rfl (lv_at hl 9 rfl) ?_
    refine lv_iconst (v := 1) hx hb dL_law_368 (by decide) ?_
    refine zr_iald (v := nI T.1.2) C I.swap (LG.at G (i := 0) (by decide)) (show vp_in (nI 1) _ from LG.inn G (i := 0) (k := 1) (by decide) (by decide)) (show zh_A M361 (ar 0) (nI 1).toNatClampNeg = _ from LG.rd G (by decide) (by decide) (by have h9 := q1; simp only [zu_dc]; grind)) dL_law_369 ?_
    refine lv_aload hx hb dL_law_370 (lv_at hl 11 rfl) ?_
    refine lv_aload hx hb dL_law_372 (lv_at hl 13 rfl) ?_
    refine lv_aload hx hb dL_law_374 (lv_at hl 14 rfl) ?_
    refine lv_aload hx hb dL_law_376 (lv_at hl 15 rfl) ?_
    refine lv_aload hx hb dL_law_378 (lv_at hl 16 rfl) ?_
    refine zc_S (n := 6) (rest := [.int (nI T.1.2), .ref (ar 7)]) C I.swap (k_L_sum l g M361 ar (zh_u (zh_u (zh_u (zh_u (zh_u (zh_u C2 1 (6 + pr) (nI (zd_roll (T.2 1 pr) (T.2 4 tb) fc).1)) 2 T.1.2 (nI ((4 * pr) + tb))) 3 T.1.2 (nI (T.2 4 tb))) 4 T.1.2 (nI fc)) 5 T.1.2 (nI (zd_val (T.2 1 pr) (T.2 4 tb) fc))) 6 T.1.2 (nI (zd_roll (T.2 1 pr) (T.2 4 tb) fc).2)) G T.1.2 (zb_roll T) pr tb fc (zd_val (T.2 1 pr) (T.2 4 tb) fc) (zd_roll (T.2 1 pr) (T.2 4 tb) fc).2 (by omega) (by simp only [zu_dc]; grind) (by simp only [zu_dc]; grind) (by simp only [zu_dc]; grind) (by simp only [zu_dc]; grind) (fun h => by have h9 := (ek (T.1.2 - 1) (by omega)).2.2.2.2.2; rw [show zb_roll T = T.2 11 (T.1.2 - 1) from if_neg h]; simp only [zu_dc]; grind) (fun h => if_pos h) (zb_roll_lt hT) (by omega) htb hf3 (by omega) hrl) zm_386 zm_387 zm_15 zm_388 rfl hl.1 dL_law_380 (by decide +kernel) rfl ⟨Nat.le_of_ble_eq_true rfl, Nat.le_of_ble_eq_true rfl⟩ (Nat.le_of_ble_eq_true rfl) ⟨by show cells + 0 + 0 ≤ 794606; omega, by show slots + 0 + 0 ≤ 6717651; omega⟩ (fun v M' H locs hq I => ?_)
    obtain ⟨rfl, eM⟩ := hq
    rw [eM] at I
    have I := I.swap
    refine zr_iast C I.swap (LG.at G (i := 7) (by decide)) (show vp_in (nI T.1.2) _ from LG.inn G (i := 7) (k := T.1.2) (by decide) (show T.1.2 < 30 by omega)) dL_law_383 (fun H locs I => ?_)
    have G := LG.wr G (i := 7) (k := T.1.2) (nI (zd_sum (zb_roll T) pr tb fc (zd_val (T.2 1 pr) (T.2 4 tb) fc) (zd_roll (T.2 1 pr) (T.2 4 tb) fc).2)) (by decide) (show T.1.2 < 30 by omega)
    have I : zh_V g _ s (zh_w g S) (zaw M361 ar 7 T.1.2 (nI (zd_sum (zb_roll T) pr tb fc (zd_val (T.2 1 pr) (T.2 4 tb) fc) (zd_roll (T.2 1 pr) (T.2 4 tb) fc).2))) H locs := I
    generalize zaw M361 ar 7 T.1.2 (nI (zd_sum (zb_roll T) pr tb fc (zd_val (T.2 1 pr) (T.2 4 tb) fc) (zd_roll (T.2 1 pr) (T.2 4 tb) fc).2)) = M383 at I G
    have I := I.swap
    refine lv_aload_n hx hb dL_law_384 rfl (lv_at hl 9 rfl) ?_
    refine lv_iconst (v := 1) hx hb dL_law_385 (by decide) ?_
    refine lv_dup2_11 hx hb dL_law_386 rfl rfl ?_
    refine zr_iald (v := nI T.1.2) C I.swap (LG.at G (i := 0) (by decide)) (show vp_in (nI 1) _ from LG.inn G (i := 0) (k := 1) (by decide) (by decide)) (show zh_A M383 (ar 0) (nI 1).toNatClampNeg = _ from LG.rd G (by decide) (by decide) (by have h9 := q1; simp only [zu_dc]; grind)) dL_law_387 ?_
    refine lv_iconst (v := 1) hx hb dL_law_388 (by decide) ?_
    refine lv_iadd hx hb dL_law_389 ?_
    refine zr_top (y := nI (T.1.2 + 1)) (nI_add T.1.2 1) ?_
    refine zr_iast C I.swap (LG.at G (i := 0) (by decide)) (show vp_in (nI 1) _ from LG.inn G (i := 0) (k := 1) (by decide) (by decide)) dL_law_390 (fun H locs I => ?_)
    have G := LG.wr G (i := 0) (k := 1) (nI (T.1.2 + 1)) (by decide) (by decide)
    have I : zh_V g _ s (zh_w g S) (zaw M383 ar 0 1 (nI (T.1.2 + 1))) H locs := I
    generalize zaw M383 ar 0 1 (nI (T.1.2 + 1)) = M390 at I G
    have I := I.swap
    refine lv_aload_n hx hb dL_law_391 rfl (lv_at hl 8 rfl) ?_
    refine lv_iconst (v := 1) hx hb dL_law_392 (by decide) ?_
    refine lv_iload hx hb dL_law_393 (lv_at hl 3 rfl) ?_
    refine lv_iload hx hb dL_law_395 (lv_at hl 2 rfl) ?_
    refine lv_iload hx hb dL_law_397 (lv_at hl 1 rfl) ?_
    have hcr : zc_roll T (nI pr) (nI tb) (nI fc) = 0 := by unfold zc_roll; rw [if_neg hzp, if_neg hff, hkz, if_neg (by omega)]
    refine zc_SH (n := 5) (rest := []) C I (k_L_calls_roll l g hst S T x (nI pr) (nI tb) (nI fc) hT hF (by rw [hcr]; decide)) zm_271 zm_272 zm_15 zm_273 rfl hl.1 dL_law_399 (by decide +kernel) rfl ⟨Nat.le_of_ble_eq_true rfl, Nat.le_of_ble_eq_true rfl⟩ (Nat.le_of_ble_eq_true rfl) ⟨by show cells + 0 + 0 + 10 ≤ 794606; omega, by show slots + 0 + 0 + 300 ≤ 6717651; omega⟩ (fun v S' H locs hq I => ?_)
    obtain ⟨rfl, hF⟩ := hq
    refine zr_top (y := nI (zd_val (T.2 1 pr) (T.2 4 tb) fc)) (by rw [zca_0 hcr]; unfold zr_roll; rw [hkz, htz, hfz]) ?_
    refine lv_iload hx hb dL_law_402 (lv_at hl 0 rfl) ?_
    refine lv_icmp_ne (tgt := 411) hx hb dL_law_404 (by decide) (fun h9 => absurd (rfl) h9) (fun _ => ?_)
    refine lv_iconst (v := 1) hx hb dL_law_407 (by decide) ?_
    refine lv_goto (tgt := 412) hx hb dL_law_408 (by decide) ?_
    refine lv_istore (lv' := [(14, .int 1), (18, .int (nI (zd_val (T.2 1 pr) (T.2 4 tb) fc))), (17, .int (nI fc)), (16, .int (nI tb)), (15, .int (nI pr)), (11, .int zv), (10, .int (nI t)), (0, .ref b), (1, .ref x), (2, .ref (ar 0)), (3, .ref (ar 1)), (4, .ref (ar 2)), (5, .ref (ar 3)), (6, .ref (ar 4)), (7, .ref (ar 5)), (8, .ref (ar 6)), (9, .ref (ar 7))]) hx hb dL_law_412 hl (by decide) rfl (fun ls hl => ?_)
    refine lv_goto (tgt := 884) hx hb dL_law_414 (by decide) ?_
    have hT8 := zt_ok_roll hT (nI pr) (nI tb) (nI fc)
    have eT : zs_roll T (nI pr) (nI tb) (nI fc) = zs_rolled T pr tb fc := by unfold zs_roll; rw [if_pos hcr, hkz, htz, hfz]
    rw [eT] at hT8 hF
    refine W.widen (k := cells + 10) (n := slots + 300) (by show cells + 0 + 0 + 10 ≤ cells + 10; omega) (by show slots + 0 + 0 + 300 ≤ slots + 300; omega) ?_
    exact KT _ _ ls ⟨S', M390, (zs_rolled T pr tb fc), (zh_u (zh_u (zh_u (zh_u (zh_u (zh_u (zh_u (zh_u C2 1 (6 + pr) (nI (zd_roll (T.2 1 pr) (T.2 4 tb) fc).1)) 2 T.1.2 (nI ((4 * pr) + tb))) 3 T.1.2 (nI (T.2 4 tb))) 4 T.1.2 (nI fc)) 5 T.1.2 (nI (zd_val (T.2 1 pr) (T.2 4 tb) fc))) 6 T.1.2 (nI (zd_roll (T.2 1 pr) (T.2 4 tb) fc).2)) 7 T.1.2 (nI (zd_sum (zb_roll T) pr tb fc (zd_val (T.2 1 pr) (T.2 4 tb) fc) (zd_roll (T.2 1 pr) (T.2 4 tb) fc).2))) 0 1 (nI (T.1.2 + 1))), (show 1 ≤ T.1.1 by omega), hT8, hF, G, LC_roll hC hpr hn30 hz12, I, lv_sub hl [0, 5, 6, 7, 8, 9, 10, 11, 12, 13, 14, 15, 16] rfl⟩
  · refine lv_istore (lv' := [(17, .int (nI fc)), (16, .int (nI tb)), (15, .int (nI pr)), (14, .int 1), (11, .int zv), (10, .int (nI t)), (0, .ref b), (1, .ref x), (2, .ref (ar 0)), (3, .ref (ar 1)), (4, .ref (ar 2)), (5, .ref (ar 3)), (6, .ref (ar 4)), (7, .ref (ar 5)), (8, .ref (ar 6)), (9, .ref (ar 7))]) hx hb dL_law_262 hl (by decide) rfl (fun ls hl => ?_)
    refine lv_bipush (v := (-3)) hx hb dL_law_264 (by decide) ?_
    refine lv_istore (lv' := [(18, .int (-3)), (17, .int (nI fc)), (16, .int (nI tb)), (15, .int (nI pr)), (14, .int 1), (11, .int zv), (10, .int (nI t)), (0, .ref b), (1, .ref x), (2, .ref (ar 0)), (3, .ref (ar 1)), (4, .ref (ar 2)), (5, .ref (ar 3)), (6, .ref (ar 4)), (7, .ref (ar 5)), (8, .ref (ar 6)), (9, .ref (ar 7))]) hx hb dL_law_266 hl (by decide) rfl (fun ls hl => ?_)
    refine lv_aload_n hx hb dL_law_268 rfl (lv_at hl 9 rfl) ?_
    refine lv_iconst (v := 2) hx hb dL_law_269 (by decide) ?_
    refine zr_iald (v := (Ct 0 2)) C I.swap (LG.at G (i := 0) (by decide)) (show vp_in (nI 2) _ from LG.inn G (i := 0) (k := 2) (by decide) (by decide)) (show zh_A M (ar 0) (nI 2).toNatClampNeg = _ from LG.rd G (by decide) (by decide) (rfl)) dL_law_270 ?_
    refine lv_iload hx hb dL_law_271 (lv_at hl 3 rfl) ?_
    refine lv_ishr hx hb dL_law_273 ?_
    refine lv_iconst (v := 1) hx hb dL_law_274 (by decide) ?_
    refine lv_iand hx hb dL_law_275 ?_
    refine zr_top (y := nI (T.2 2 pr)) (zbt_rd b2 (by omega)) ?_
    refine lv_if_ne (tgt := 391) hx hb dL_law_276 (by decide) (fun _ => ?_) (fun h9 => absurd h9 (fun h8 => absurd ((nI_eq (a := T.2 2 pr) (b := 0) (by omega) (by omega)).mp h8) (by omega)))
    refine lv_aload_n hx hb dL_law_391 rfl (lv_at hl 8 rfl) ?_
    refine lv_iconst (v := 1) hx hb dL_law_392 (by decide) ?_
    refine lv_iload hx hb dL_law_393 (lv_at hl 3 rfl) ?_
    refine lv_iload hx hb dL_law_395 (lv_at hl 2 rfl) ?_
    refine lv_iload hx hb dL_law_397 (lv_at hl 1 rfl) ?_
    have hcr : zc_roll T (nI pr) (nI tb) (nI fc) = 3 := by unfold zc_roll; rw [if_neg hzp, if_neg hff, hkz, if_pos (Or.inl (by omega))]
    refine zc_SH (n := 5) (rest := []) C I (k_L_calls_roll l g hst S T x (nI pr) (nI tb) (nI fc) hT hF (by rw [hcr]; decide)) zm_271 zm_272 zm_15 zm_273 rfl hl.1 dL_law_399 (by decide +kernel) rfl ⟨Nat.le_of_ble_eq_true rfl, Nat.le_of_ble_eq_true rfl⟩ (Nat.le_of_ble_eq_true rfl) ⟨by show cells + 10 ≤ 794606; omega, by show slots + 300 ≤ 6717651; omega⟩ (fun v S' H locs hq I => ?_)
    obtain ⟨rfl, hF⟩ := hq
    refine zr_top (y := (-3)) (zca_3 hcr _ _ _) ?_
    refine lv_iload hx hb dL_law_402 (lv_at hl 0 rfl) ?_
    refine lv_icmp_ne (tgt := 411) hx hb dL_law_404 (by decide) (fun h9 => absurd (rfl) h9) (fun _ => ?_)
    refine lv_iconst (v := 1) hx hb dL_law_407 (by decide) ?_
    refine lv_goto (tgt := 412) hx hb dL_law_408 (by decide) ?_
    refine lv_istore (lv' := [(14, .int 1), (18, .int (-3)), (17, .int (nI fc)), (16, .int (nI tb)), (15, .int (nI pr)), (11, .int zv), (10, .int (nI t)), (0, .ref b), (1, .ref x), (2, .ref (ar 0)), (3, .ref (ar 1)), (4, .ref (ar 2)), (5, .ref (ar 3)), (6, .ref (ar 4)), (7, .ref (ar 5)), (8, .ref (ar 6)), (9, .ref (ar 7))]) hx hb dL_law_412 hl (by decide) rfl (fun ls hl => ?_)
    refine lv_goto (tgt := 884) hx hb dL_law_414 (by decide) ?_
    have hT8 := zt_ok_roll hT (nI pr) (nI tb) (nI fc)
    have eT : zs_roll T (nI pr) (nI tb) (nI fc) = T := if_neg (by rw [hcr]; decide)
    rw [eT] at hT8 hF
    refine W.widen (k := cells + 10) (n := slots + 300) (by show cells + 10 ≤ cells + 10; omega) (by show slots + 300 ≤ slots + 300; omega) ?_
    exact KT _ _ ls ⟨S', M, T, Ct, (show 1 ≤ T.1.1 by omega), hT8, hF, G, hC, I, lv_sub hl [0, 5, 6, 7, 8, 9, 10, 11, 12, 13, 14, 15, 16] rfl⟩

set_option maxRecDepth 100000 in
set_option maxHeartbeats 4000000 in
theorem k_law_199 (K0 : zLC p l s m c g b L xs)  (hcs : cells + 620 ≤ 794606) (hss : slots + 12610 ≤ 6717651) (KT : ∀ (H : Heap) (locs : List Loc) (ls : Array Slot), zLP g s x ar (fun T => 1 ≤ T.1.1) H locs ls [(14, .int 1), (11, .int zv), (10, .int (nI t)), (0, .ref b), (1, .ref x), (2, .ref (ar 0)), (3, .ref (ar 1)), (4, .ref (ar 2)), (5, .ref (ar 3)), (6, .ref (ar 4)), (7, .ref (ar 5)), (8, .ref (ar 6)), (9, .ref (ar 7))] → W p l e room_1 s m #[Value.ref b] below meth c H locs (cells + 10) (slots + 300) Q (F0 m 884 ls [])) (I0 : zLP g s x ar (fun T => 1 ≤ T.1.1 ∧ T.1.2 < 30) H locs ls [(14, .int 1), (11, .int zv), (10, .int (nI t)), (0, .ref b), (1, .ref x), (2, .ref (ar 0)), (3, .ref (ar 1)), (4, .ref (ar 2)), (5, .ref (ar 3)), (6, .ref (ar 4)), (7, .ref (ar 5)), (8, .ref (ar 6)), (9, .ref (ar 7))]) : W p l e room_1 s m #[Value.ref b] below meth c H locs cells slots Q (F0 m 199 ls []) := by
  obtain ⟨hst, C, hX, hbg, hL⟩ := id K0
  obtain ⟨S, M, T, Ct, ⟨hP, hn30⟩, hT, hF, G, hC, I, hl⟩ := I0
  have hx := C.1
  have hb := C.2.1
  obtain ⟨pl, lo, pt, ty, pa, la, ap, ad, ae, hF9⟩ := id hF
  obtain ⟨⟨n1, n2⟩, ⟨q0, q1⟩, ⟨b2, b3, b4⟩, qp, dk, ek⟩ := id hC
  obtain ⟨t1, t2, t3, t4, t5, t6, t7⟩ := id hT
  have hl : lv_has ls 19 [(14, .int 1), (11, .int zv), (10, .int (nI t)), (0, .ref b), (1, .ref x), (2, .ref (ar 0)), (3, .ref (ar 1)), (4, .ref (ar 2)), (5, .ref (ar 3)), (6, .ref (ar 4)), (7, .ref (ar 5)), (8, .ref (ar 6)), (9, .ref (ar 7))] := hl
  refine lv_iload hx hb dL_law_199 (lv_at hl 1 rfl) ?_
  refine lv_iconst (v := 4) hx hb dL_law_201 (by decide) ?_
  refine lv_ishr hx hb dL_law_202 ?_
  refine lv_aload_n hx hb dL_law_203 rfl (lv_at hl 5 rfl) ?_
  refine lv_iconst (v := 0) hx hb dL_law_204 (by decide) ?_
  refine zr_iald (v := nI T.1.1) C I.swap (LG.at G (i := 0) (by decide)) (show vp_in (nI 0) _ from LG.inn G (i := 0) (k := 0) (by decide) (by decide)) (show zh_A M (ar 0) (nI 0).toNatClampNeg = _ from LG.rd G (by decide) (by decide) (q0)) dL_law_205 ?_
  refine zc_S (n := 2) (rest := []) C I (k_L_low l g S (zv >>> (4 &&& 31)) T.1.1 (hP) (by omega)) zm_267 zm_268 zm_15 zm_269 rfl hl.1 dL_law_206 (by decide +kernel) rfl ⟨Nat.le_of_ble_eq_true rfl, Nat.le_of_ble_eq_true rfl⟩ (Nat.le_of_ble_eq_true rfl) ⟨by show cells + 0 ≤ 794606; omega, by show slots + 0 ≤ 6717651; omega⟩ (fun v S' H locs hq I => ?_)
  obtain ⟨⟨pr, hpr, rfl⟩, eS⟩ := hq
  rw [eS] at I
  refine lv_istore (lv' := [(15, .int (nI pr)), (14, .int 1), (11, .int zv), (10, .int (nI t)), (0, .ref b), (1, .ref x), (2, .ref (ar 0)), (3, .ref (ar 1)), (4, .ref (ar 2)), (5, .ref (ar 3)), (6, .ref (ar 4)), (7, .ref (ar 5)), (8, .ref (ar 6)), (9, .ref (ar 7))]) hx hb dL_law_209 hl (by decide) rfl (fun ls hl => ?_)
  refine lv_iload hx hb dL_law_211 (lv_at hl 2 rfl) ?_
  refine lv_bipush (v := 7) hx hb dL_law_213 (by decide) ?_
  refine lv_ishr hx hb dL_law_215 ?_
  refine lv_iconst (v := 4) hx hb dL_law_216 (by decide) ?_
  refine zc_S (n := 2) (rest := []) C I (k_L_low l g S (zv >>> (7 &&& 31)) 4 (by decide) (by decide)) zm_267 zm_268 zm_15 zm_269 rfl hl.1 dL_law_217 (by decide +kernel) rfl ⟨Nat.le_of_ble_eq_true rfl, Nat.le_of_ble_eq_true rfl⟩ (Nat.le_of_ble_eq_true rfl) ⟨by show cells + 0 + 0 ≤ 794606; omega, by show slots + 0 + 0 ≤ 6717651; omega⟩ (fun v S' H locs hq I => ?_)
  obtain ⟨⟨tb, htb, rfl⟩, eS⟩ := hq
  rw [eS] at I
  refine lv_istore (lv' := [(16, .int (nI tb)), (15, .int (nI pr)), (14, .int 1), (11, .int zv), (10, .int (nI t)), (0, .ref b), (1, .ref x), (2, .ref (ar 0)), (3, .ref (ar 1)), (4, .ref (ar 2)), (5, .ref (ar 3)), (6, .ref (ar 4)), (7, .ref (ar 5)), (8, .ref (ar 6)), (9, .ref (ar 7))]) hx hb dL_law_220 hl (by decide) rfl (fun ls hl => ?_)
  refine lv_iload hx hb dL_law_222 (lv_at hl 3 rfl) ?_
  refine lv_bipush (v := 13) hx hb dL_law_224 (by decide) ?_
  refine lv_ishr hx hb dL_law_226 ?_
  refine lv_iconst (v := 3) hx hb dL_law_227 (by decide) ?_
  refine zc_S (n := 2) (rest := []) C I (k_L_low l g S (zv >>> (13 &&& 31)) 3 (by decide) (by decide)) zm_267 zm_268 zm_15 zm_269 rfl hl.1 dL_law_228 (by decide +kernel) rfl ⟨Nat.le_of_ble_eq_true rfl, Nat.le_of_ble_eq_true rfl⟩ (Nat.le_of_ble_eq_true rfl) ⟨by show cells + 0 + 0 + 0 ≤ 794606; omega, by show slots + 0 + 0 + 0 ≤ 6717651; omega⟩ (fun v S' H locs hq I => ?_)
  obtain ⟨⟨j3, hj3, rfl⟩, eS⟩ := hq
  rw [eS] at I
  refine lv_if_ne (tgt := 250) hx hb dL_law_231 (by decide) (fun c231 => ?_) (fun c231 => ?_)
  · have c231 : ¬ j3 = 0 := fun h9 => c231 ((nI_eq (a := j3) (b := 0) (by omega) (by omega)).mpr h9)
    refine lv_iconst (v := 2) hx hb dL_law_250 (by decide) ?_
    refine lv_iload hx hb dL_law_251 (lv_at hl 3 rfl) ?_
    refine lv_bipush (v := 9) hx hb dL_law_253 (by decide) ?_
    refine lv_ishr hx hb dL_law_255 ?_
    refine lv_bipush (v := 8) hx hb dL_law_256 (by decide) ?_
    refine zc_S (n := 2) (rest := [.int 2]) C I (k_L_low l g S (zv >>> (9 &&& 31)) 8 (by decide) (by decide)) zm_267 zm_268 zm_15 zm_269 rfl hl.1 dL_law_258 (by decide +kernel) rfl ⟨Nat.le_of_ble_eq_true rfl, Nat.le_of_ble_eq_true rfl⟩ (Nat.le_of_ble_eq_true rfl) ⟨by show cells + 0 + 0 + 0 + 0 ≤ 794606; omega, by show slots + 0 + 0 + 0 + 0 ≤ 6717651; omega⟩ (fun v S' H locs hq I => ?_)
    obtain ⟨⟨j, hj, rfl⟩, eS⟩ := hq
    rw [eS] at I
    refine lv_iadd hx hb dL_law_261 ?_
    refine zr_top (y := nI (2 + j)) (nI_add 2 j) ?_
    refine k_law_262 K0 pr tb (2 + j) htb (by omega) (by omega) (by show cells + 0 + 0 + 0 + 0 + 620 ≤ 794606; omega) (by show slots + 0 + 0 + 0 + 0 + 12610 ≤ 6717651; omega) (fun H locs ls h => KT H locs ls h) ⟨S, M, T, Ct, ⟨hpr, hn30⟩, hT, hF, G, hC, I, lv_sub hl [0, 1, 2, 3, 4, 5, 6, 7, 8, 9, 10, 11, 12, 13, 14] rfl⟩
  · have c231 : j3 = 0 := (nI_eq (a := j3) (b := 0) (by omega) (by omega)).mp c231
    refine lv_iconst (v := 2) hx hb dL_law_234 (by decide) ?_
    refine lv_iload hx hb dL_law_235 (lv_at hl 3 rfl) ?_
    refine lv_bipush (v := 6) hx hb dL_law_237 (by decide) ?_
    refine lv_ishr hx hb dL_law_239 ?_
    refine lv_sipush (v := 999) hx hb dL_law_240 (by decide) ?_
    refine zc_S (n := 2) (rest := [.int 2]) C I (k_L_low l g S (zv >>> (6 &&& 31)) 999 (by decide) (by decide)) zm_267 zm_268 zm_15 zm_269 rfl hl.1 dL_law_243 (by decide +kernel) rfl ⟨Nat.le_of_ble_eq_true rfl, Nat.le_of_ble_eq_true rfl⟩ (Nat.le_of_ble_eq_true rfl) ⟨by show cells + 0 + 0 + 0 + 0 ≤ 794606; omega, by show slots + 0 + 0 + 0 + 0 ≤ 6717651; omega⟩ (fun v S' H locs hq I => ?_)
    obtain ⟨⟨j, hj, rfl⟩, eS⟩ := hq
    rw [eS] at I
    refine lv_iadd hx hb dL_law_246 ?_
    refine zr_top (y := nI (2 + j)) (nI_add 2 j) ?_
    refine lv_goto (tgt := 262) hx hb dL_law_247 (by decide) ?_
    refine k_law_262 K0 pr tb (2 + j) htb (by omega) (by omega) (by show cells + 0 + 0 + 0 + 0 + 620 ≤ 794606; omega) (by show slots + 0 + 0 + 0 + 0 + 12610 ≤ 6717651; omega) (fun H locs ls h => KT H locs ls h) ⟨S, M, T, Ct, ⟨hpr, hn30⟩, hT, hF, G, hC, I, lv_sub hl [0, 1, 2, 3, 4, 5, 6, 7, 8, 9, 10, 11, 12, 13, 14] rfl⟩

set_option maxRecDepth 100000 in
set_option maxHeartbeats 4000000 in
theorem k_law_101 (K0 : zLC p l s m c g b L xs) (ht : t < 80) (act k : Nat) (hact : act < 16) (hcs : cells + 620 ≤ 794606) (hss : slots + 12610 ≤ 6717651) (KK : ∀ (H : Heap) (locs : List Loc) (ls : Array Slot), zLP g s x ar (fun T => True) H locs ls [(10, .int (nI (t + 1))), (0, .ref b), (1, .ref x), (2, .ref (ar 0)), (3, .ref (ar 1)), (4, .ref (ar 2)), (5, .ref (ar 3)), (6, .ref (ar 4)), (7, .ref (ar 5)), (8, .ref (ar 6)), (9, .ref (ar 7))] → W p l e room_1 s m #[Value.ref b] below meth c H locs (cells + 620) (slots + 12610) Q (F0 m 57 ls [])) (I0 : zLP g s x ar (fun T => (T.1.2 = 0 ∧ k = 0) ∨ k < T.1.2) H locs ls [(12, .int (nI act)), (11, .int zv), (10, .int (nI t)), (0, .ref b), (1, .ref x), (2, .ref (ar 0)), (3, .ref (ar 1)), (4, .ref (ar 2)), (5, .ref (ar 3)), (6, .ref (ar 4)), (7, .ref (ar 5)), (8, .ref (ar 6)), (9, .ref (ar 7))]) : W p l e room_1 s m #[Value.ref b] below meth c H locs cells slots Q (F0 m 101 ls [.int (nI k)]) := by
  obtain ⟨hst, C, hX, hbg, hL⟩ := id K0
  obtain ⟨S, M, T, Ct, hK, hT, hF, G, hC, I, hl⟩ := I0
  have hx := C.1
  have hb := C.2.1
  obtain ⟨pl, lo, pt, ty, pa, la, ap, ad, ae, hF9⟩ := id hF
  obtain ⟨⟨n1, n2⟩, ⟨q0, q1⟩, ⟨b2, b3, b4⟩, qp, dk, ek⟩ := id hC
  obtain ⟨t1, t2, t3, t4, t5, t6, t7⟩ := id hT
  have hl : lv_has ls 19 [(12, .int (nI act)), (11, .int zv), (10, .int (nI t)), (0, .ref b), (1, .ref x), (2, .ref (ar 0)), (3, .ref (ar 1)), (4, .ref (ar 2)), (5, .ref (ar 3)), (6, .ref (ar 4)), (7, .ref (ar 5)), (8, .ref (ar 6)), (9, .ref (ar 7))] := hl
  refine lv_istore (lv' := [(13, .int (nI k)), (12, .int (nI act)), (11, .int zv), (10, .int (nI t)), (0, .ref b), (1, .ref x), (2, .ref (ar 0)), (3, .ref (ar 1)), (4, .ref (ar 2)), (5, .ref (ar 3)), (6, .ref (ar 4)), (7, .ref (ar 5)), (8, .ref (ar 6)), (9, .ref (ar 7))]) hx hb dL_law_101 hl (by decide) rfl (fun ls hl => ?_)
  refine lv_iconst (v := 1) hx hb dL_law_103 (by decide) ?_
  refine lv_istore (lv' := [(14, .int 1), (13, .int (nI k)), (12, .int (nI act)), (11, .int zv), (10, .int (nI t)), (0, .ref b), (1, .ref x), (2, .ref (ar 0)), (3, .ref (ar 1)), (4, .ref (ar 2)), (5, .ref (ar 3)), (6, .ref (ar 4)), (7, .ref (ar 5)), (8, .ref (ar 6)), (9, .ref (ar 7))]) hx hb dL_law_104 hl (by decide) rfl (fun ls hl => ?_)
  refine lv_aload_n hx hb dL_law_106 rfl (lv_at hl 7 rfl) ?_
  refine lv_iconst (v := 0) hx hb dL_law_107 (by decide) ?_
  refine zr_iald (v := nI T.1.1) C I.swap (LG.at G (i := 0) (by decide)) (show vp_in (nI 0) _ from LG.inn G (i := 0) (k := 0) (by decide) (by decide)) (show zh_A M (ar 0) (nI 0).toNatClampNeg = _ from LG.rd G (by decide) (by decide) (q0)) dL_law_108 ?_
  refine lv_if_eq (tgt := 125) hx hb dL_law_109 (by decide) (fun c109 => ?_) (fun c109 => ?_)
  · have c109 : T.1.1 = 0 := (nI_eq (a := T.1.1) (b := 0) (by omega) (by omega)).mp c109
    exact k_law_125 K0 (by omega) (by omega) (fun H locs ls h => k_law_884 K0 ht (by omega) (by omega) (fun H locs ls h => KK H locs ls h) h) ⟨S, M, T, Ct, (by omega), hT, hF, G, hC, I, lv_sub hl [0, 3, 4, 5, 6, 7, 8, 9, 10, 11, 12, 13, 14] rfl⟩
  · have c109 : ¬ T.1.1 = 0 := fun h9 => c109 ((nI_eq (a := T.1.1) (b := 0) (by omega) (by omega)).mpr h9)
    have hP : 1 ≤ T.1.1 := by omega
    refine lv_iload hx hb dL_law_112 (lv_at hl 2 rfl) ?_
    refine lv_if_ne (tgt := 184) hx hb dL_law_114 (by decide) (fun c114 => ?_) (fun c114 => ?_)
    · have c114 : ¬ act = 0 := fun h9 => c114 ((nI_eq (a := act) (b := 0) (by omega) (by omega)).mpr h9)
      refine lv_iload hx hb dL_law_184 (lv_at hl 2 rfl) ?_
      refine lv_bipush (v := 8) hx hb dL_law_186 (by decide) ?_
      refine lv_icmp_ge (tgt := 417) hx hb dL_law_188 (by decide) (fun c188 => ?_) (fun c188 => ?_)
      · have c188 : 8 ≤ act := (nI_leI (a := 8) (b := act) (by omega) (by omega)).mp c188
        refine lv_iload hx hb dL_law_417 (lv_at hl 2 rfl) ?_
        refine lv_bipush (v := 10) hx hb dL_law_419 (by decide) ?_
        refine lv_icmp_ge (tgt := 486) hx hb dL_law_421 (by decide) (fun c421 => ?_) (fun c421 => ?_)
        · have c421 : 10 ≤ act := (nI_leI (a := 10) (b := act) (by omega) (by omega)).mp c421
          refine lv_iload hx hb dL_law_486 (lv_at hl 2 rfl) ?_
          refine lv_bipush (v := 12) hx hb dL_law_488 (by decide) ?_
          refine lv_icmp_ge (tgt := 622) hx hb dL_law_490 (by decide) (fun c490 => ?_) (fun c490 => ?_)
          · have c490 : 12 ≤ act := (nI_leI (a := 12) (b := act) (by omega) (by omega)).mp c490
            refine lv_iload hx hb dL_law_622 (lv_at hl 2 rfl) ?_
            refine lv_bipush (v := 14) hx hb dL_law_624 (by decide) ?_
            refine lv_icmp_ge (tgt := 698) hx hb dL_law_626 (by decide) (fun c626 => ?_) (fun c626 => ?_)
            · have c626 : 14 ≤ act := (nI_leI (a := 14) (b := act) (by omega) (by omega)).mp c626
              exact k_law_698 K0 (by omega) (by omega) (fun H locs ls h => k_law_884 K0 ht (by omega) (by omega) (fun H locs ls h => KK H locs ls h) h) ⟨S, M, T, Ct, hP, hT, hF, G, hC, I, lv_sub hl [0, 3, 4, 5, 6, 7, 8, 9, 10, 11, 12, 13, 14] rfl⟩
            · have c626 : ¬ 14 ≤ act := fun h9 => c626 ((nI_leI (a := 14) (b := act) (by omega) (by omega)).mpr h9)
              exact k_law_629 K0 (by omega) (by omega) (fun H locs ls h => k_law_884 K0 ht (by omega) (by omega) (fun H locs ls h => KK H locs ls h) h) ⟨S, M, T, Ct, hP, hT, hF, G, hC, I, lv_sub hl [0, 3, 4, 5, 6, 7, 8, 9, 10, 11, 12, 13, 14] rfl⟩
          · have c490 : ¬ 12 ≤ act := fun h9 => c490 ((nI_leI (a := 12) (b := act) (by omega) (by omega)).mpr h9)
            refine lv_aload_n hx hb dL_law_493 rfl (lv_at hl 7 rfl) ?_
            refine lv_iconst (v := 1) hx hb dL_law_494 (by decide) ?_
            refine zr_iald (v := nI T.1.2) C I.swap (LG.at G (i := 0) (by decide)) (show vp_in (nI 1) _ from LG.inn G (i := 0) (k := 1) (by decide) (by decide)) (show zh_A M (ar 0) (nI 1).toNatClampNeg = _ from LG.rd G (by decide) (by decide) (q1)) dL_law_495 ?_
            refine lv_if_le (tgt := 622) hx hb dL_law_496 (by decide) (fun c496 => ?_) (fun c496 => ?_)
            · have c496 : T.1.2 ≤ 0 := (nI_leI (a := T.1.2) (b := 0) (by omega) (by omega)).mp c496
              refine lv_iload hx hb dL_law_622 (lv_at hl 2 rfl) ?_
              refine lv_bipush (v := 14) hx hb dL_law_624 (by decide) ?_
              refine lv_icmp_ge (tgt := 698) hx hb dL_law_626 (by decide) (fun c626 => ?_) (fun c626 => ?_)
              · have c626 : 14 ≤ act := (nI_leI (a := 14) (b := act) (by omega) (by omega)).mp c626
                exact k_law_698 K0 (by omega) (by omega) (fun H locs ls h => k_law_884 K0 ht (by omega) (by omega) (fun H locs ls h => KK H locs ls h) h) ⟨S, M, T, Ct, hP, hT, hF, G, hC, I, lv_sub hl [0, 3, 4, 5, 6, 7, 8, 9, 10, 11, 12, 13, 14] rfl⟩
              · have c626 : ¬ 14 ≤ act := fun h9 => c626 ((nI_leI (a := 14) (b := act) (by omega) (by omega)).mpr h9)
                exact k_law_629 K0 (by omega) (by omega) (fun H locs ls h => k_law_884 K0 ht (by omega) (by omega) (fun H locs ls h => KK H locs ls h) h) ⟨S, M, T, Ct, hP, hT, hF, G, hC, I, lv_sub hl [0, 3, 4, 5, 6, 7, 8, 9, 10, 11, 12, 13, 14] rfl⟩
            · have c496 : ¬ T.1.2 ≤ 0 := fun h9 => c496 ((nI_leI (a := T.1.2) (b := 0) (by omega) (by omega)).mpr h9)
              exact k_law_499 K0 k (by omega) (by omega) (fun H locs ls h => k_law_884 K0 ht (by omega) (by omega) (fun H locs ls h => KK H locs ls h) h) ⟨S, M, T, Ct, ⟨hP, hK.elim (fun h => absurd h.1 (by omega)) id⟩, hT, hF, G, hC, I, lv_sub hl [1, 0, 3, 4, 5, 6, 7, 8, 9, 10, 11, 12, 13, 14] rfl⟩
        · have c421 : ¬ 10 ≤ act := fun h9 => c421 ((nI_leI (a := 10) (b := act) (by omega) (by omega)).mpr h9)
          exact k_law_424 K0 (by omega) (by omega) (fun H locs ls h => k_law_884 K0 ht (by omega) (by omega) (fun H locs ls h => KK H locs ls h) h) ⟨S, M, T, Ct, hP, hT, hF, G, hC, I, lv_sub hl [0, 3, 4, 5, 6, 7, 8, 9, 10, 11, 12, 13, 14] rfl⟩
      · have c188 : ¬ 8 ≤ act := fun h9 => c188 ((nI_leI (a := 8) (b := act) (by omega) (by omega)).mpr h9)
        refine lv_aload_n hx hb dL_law_191 rfl (lv_at hl 7 rfl) ?_
        refine lv_iconst (v := 1) hx hb dL_law_192 (by decide) ?_
        refine zr_iald (v := nI T.1.2) C I.swap (LG.at G (i := 0) (by decide)) (show vp_in (nI 1) _ from LG.inn G (i := 0) (k := 1) (by decide) (by decide)) (show zh_A M (ar 0) (nI 1).toNatClampNeg = _ from LG.rd G (by decide) (by decide) (q1)) dL_law_193 ?_
        refine lv_bipush (v := 30) hx hb dL_law_194 (by decide) ?_
        refine lv_icmp_ge (tgt := 417) hx hb dL_law_196 (by decide) (fun c196 => ?_) (fun c196 => ?_)
        · have c196 : 30 ≤ T.1.2 := (nI_leI (a := 30) (b := T.1.2) (by omega) (by omega)).mp c196
          refine lv_iload hx hb dL_law_417 (lv_at hl 2 rfl) ?_
          refine lv_bipush (v := 10) hx hb dL_law_419 (by decide) ?_
          refine lv_icmp_ge (tgt := 486) hx hb dL_law_421 (by decide) (fun c421 => ?_) (fun c421 => ?_)
          · have c421 : 10 ≤ act := (nI_leI (a := 10) (b := act) (by omega) (by omega)).mp c421
            refine lv_iload hx hb dL_law_486 (lv_at hl 2 rfl) ?_
            refine lv_bipush (v := 12) hx hb dL_law_488 (by decide) ?_
            refine lv_icmp_ge (tgt := 622) hx hb dL_law_490 (by decide) (fun c490 => ?_) (fun c490 => ?_)
            · have c490 : 12 ≤ act := (nI_leI (a := 12) (b := act) (by omega) (by omega)).mp c490
              refine lv_iload hx hb dL_law_622 (lv_at hl 2 rfl) ?_
              refine lv_bipush (v := 14) hx hb dL_law_624 (by decide) ?_
              refine lv_icmp_ge (tgt := 698) hx hb dL_law_626 (by decide) (fun c626 => ?_) (fun c626 => ?_)
              · have c626 : 14 ≤ act := (nI_leI (a := 14) (b := act) (by omega) (by omega)).mp c626
                exact k_law_698 K0 (by omega) (by omega) (fun H locs ls h => k_law_884 K0 ht (by omega) (by omega) (fun H locs ls h => KK H locs ls h) h) ⟨S, M, T, Ct, hP, hT, hF, G, hC, I, lv_sub hl [0, 3, 4, 5, 6, 7, 8, 9, 10, 11, 12, 13, 14] rfl⟩
              · have c626 : ¬ 14 ≤ act := fun h9 => c626 ((nI_leI (a := 14) (b := act) (by omega) (by omega)).mpr h9)
                exact k_law_629 K0 (by omega) (by omega) (fun H locs ls h => k_law_884 K0 ht (by omega) (by omega) (fun H locs ls h => KK H locs ls h) h) ⟨S, M, T, Ct, hP, hT, hF, G, hC, I, lv_sub hl [0, 3, 4, 5, 6, 7, 8, 9, 10, 11, 12, 13, 14] rfl⟩
            · have c490 : ¬ 12 ≤ act := fun h9 => c490 ((nI_leI (a := 12) (b := act) (by omega) (by omega)).mpr h9)
              refine lv_aload_n hx hb dL_law_493 rfl (lv_at hl 7 rfl) ?_
              refine lv_iconst (v := 1) hx hb dL_law_494 (by decide) ?_
              refine zr_iald (v := nI T.1.2) C I.swap (LG.at G (i := 0) (by decide)) (show vp_in (nI 1) _ from LG.inn G (i := 0) (k := 1) (by decide) (by decide)) (show zh_A M (ar 0) (nI 1).toNatClampNeg = _ from LG.rd G (by decide) (by decide) (q1)) dL_law_495 ?_
              refine lv_if_le (tgt := 622) hx hb dL_law_496 (by decide) (fun c496 => ?_) (fun c496 => ?_)
              · have c496 : T.1.2 ≤ 0 := (nI_leI (a := T.1.2) (b := 0) (by omega) (by omega)).mp c496
                refine lv_iload hx hb dL_law_622 (lv_at hl 2 rfl) ?_
                refine lv_bipush (v := 14) hx hb dL_law_624 (by decide) ?_
                refine lv_icmp_ge (tgt := 698) hx hb dL_law_626 (by decide) (fun c626 => ?_) (fun c626 => ?_)
                · have c626 : 14 ≤ act := (nI_leI (a := 14) (b := act) (by omega) (by omega)).mp c626
                  exact k_law_698 K0 (by omega) (by omega) (fun H locs ls h => k_law_884 K0 ht (by omega) (by omega) (fun H locs ls h => KK H locs ls h) h) ⟨S, M, T, Ct, hP, hT, hF, G, hC, I, lv_sub hl [0, 3, 4, 5, 6, 7, 8, 9, 10, 11, 12, 13, 14] rfl⟩
                · have c626 : ¬ 14 ≤ act := fun h9 => c626 ((nI_leI (a := 14) (b := act) (by omega) (by omega)).mpr h9)
                  exact k_law_629 K0 (by omega) (by omega) (fun H locs ls h => k_law_884 K0 ht (by omega) (by omega) (fun H locs ls h => KK H locs ls h) h) ⟨S, M, T, Ct, hP, hT, hF, G, hC, I, lv_sub hl [0, 3, 4, 5, 6, 7, 8, 9, 10, 11, 12, 13, 14] rfl⟩
              · have c496 : ¬ T.1.2 ≤ 0 := fun h9 => c496 ((nI_leI (a := T.1.2) (b := 0) (by omega) (by omega)).mpr h9)
                exact k_law_499 K0 k (by omega) (by omega) (fun H locs ls h => k_law_884 K0 ht (by omega) (by omega) (fun H locs ls h => KK H locs ls h) h) ⟨S, M, T, Ct, ⟨hP, hK.elim (fun h => absurd h.1 (by omega)) id⟩, hT, hF, G, hC, I, lv_sub hl [1, 0, 3, 4, 5, 6, 7, 8, 9, 10, 11, 12, 13, 14] rfl⟩
          · have c421 : ¬ 10 ≤ act := fun h9 => c421 ((nI_leI (a := 10) (b := act) (by omega) (by omega)).mpr h9)
            exact k_law_424 K0 (by omega) (by omega) (fun H locs ls h => k_law_884 K0 ht (by omega) (by omega) (fun H locs ls h => KK H locs ls h) h) ⟨S, M, T, Ct, hP, hT, hF, G, hC, I, lv_sub hl [0, 3, 4, 5, 6, 7, 8, 9, 10, 11, 12, 13, 14] rfl⟩
        · have c196 : ¬ 30 ≤ T.1.2 := fun h9 => c196 ((nI_leI (a := 30) (b := T.1.2) (by omega) (by omega)).mpr h9)
          exact k_law_199 K0 (by omega) (by omega) (fun H locs ls h => k_law_884 K0 ht (by omega) (by omega) (fun H locs ls h => KK H locs ls h) h) ⟨S, M, T, Ct, ⟨hP, by omega⟩, hT, hF, G, hC, I, lv_sub hl [0, 3, 4, 5, 6, 7, 8, 9, 10, 11, 12, 13, 14] rfl⟩
    · have c114 : act = 0 := (nI_eq (a := act) (b := 0) (by omega) (by omega)).mp c114
      refine lv_aload_n hx hb dL_law_117 rfl (lv_at hl 7 rfl) ?_
      refine lv_iconst (v := 0) hx hb dL_law_118 (by decide) ?_
      refine zr_iald (v := nI T.1.1) C I.swap (LG.at G (i := 0) (by decide)) (show vp_in (nI 0) _ from LG.inn G (i := 0) (k := 0) (by decide) (by decide)) (show zh_A M (ar 0) (nI 0).toNatClampNeg = _ from LG.rd G (by decide) (by decide) (q0)) dL_law_119 ?_
      refine lv_bipush (v := 6) hx hb dL_law_120 (by decide) ?_
      refine lv_icmp_ge (tgt := 184) hx hb dL_law_122 (by decide) (fun c122 => ?_) (fun c122 => ?_)
      · have c122 : 6 ≤ T.1.1 := (nI_leI (a := 6) (b := T.1.1) (by omega) (by omega)).mp c122
        refine lv_iload hx hb dL_law_184 (lv_at hl 2 rfl) ?_
        refine lv_bipush (v := 8) hx hb dL_law_186 (by decide) ?_
        refine lv_icmp_ge (tgt := 417) hx hb dL_law_188 (by decide) (fun c188 => ?_) (fun c188 => ?_)
        · have c188 : 8 ≤ act := (nI_leI (a := 8) (b := act) (by omega) (by omega)).mp c188
          refine lv_iload hx hb dL_law_417 (lv_at hl 2 rfl) ?_
          refine lv_bipush (v := 10) hx hb dL_law_419 (by decide) ?_
          refine lv_icmp_ge (tgt := 486) hx hb dL_law_421 (by decide) (fun c421 => ?_) (fun c421 => ?_)
          · have c421 : 10 ≤ act := (nI_leI (a := 10) (b := act) (by omega) (by omega)).mp c421
            refine lv_iload hx hb dL_law_486 (lv_at hl 2 rfl) ?_
            refine lv_bipush (v := 12) hx hb dL_law_488 (by decide) ?_
            refine lv_icmp_ge (tgt := 622) hx hb dL_law_490 (by decide) (fun c490 => ?_) (fun c490 => ?_)
            · have c490 : 12 ≤ act := (nI_leI (a := 12) (b := act) (by omega) (by omega)).mp c490
              refine lv_iload hx hb dL_law_622 (lv_at hl 2 rfl) ?_
              refine lv_bipush (v := 14) hx hb dL_law_624 (by decide) ?_
              refine lv_icmp_ge (tgt := 698) hx hb dL_law_626 (by decide) (fun c626 => ?_) (fun c626 => ?_)
              · have c626 : 14 ≤ act := (nI_leI (a := 14) (b := act) (by omega) (by omega)).mp c626
                exact k_law_698 K0 (by omega) (by omega) (fun H locs ls h => k_law_884 K0 ht (by omega) (by omega) (fun H locs ls h => KK H locs ls h) h) ⟨S, M, T, Ct, hP, hT, hF, G, hC, I, lv_sub hl [0, 3, 4, 5, 6, 7, 8, 9, 10, 11, 12, 13, 14] rfl⟩
              · have c626 : ¬ 14 ≤ act := fun h9 => c626 ((nI_leI (a := 14) (b := act) (by omega) (by omega)).mpr h9)
                exact k_law_629 K0 (by omega) (by omega) (fun H locs ls h => k_law_884 K0 ht (by omega) (by omega) (fun H locs ls h => KK H locs ls h) h) ⟨S, M, T, Ct, hP, hT, hF, G, hC, I, lv_sub hl [0, 3, 4, 5, 6, 7, 8, 9, 10, 11, 12, 13, 14] rfl⟩
            · have c490 : ¬ 12 ≤ act := fun h9 => c490 ((nI_leI (a := 12) (b := act) (by omega) (by omega)).mpr h9)
              refine lv_aload_n hx hb dL_law_493 rfl (lv_at hl 7 rfl) ?_
              refine lv_iconst (v := 1) hx hb dL_law_494 (by decide) ?_
              refine zr_iald (v := nI T.1.2) C I.swap (LG.at G (i := 0) (by decide)) (show vp_in (nI 1) _ from LG.inn G (i := 0) (k := 1) (by decide) (by decide)) (show zh_A M (ar 0) (nI 1).toNatClampNeg = _ from LG.rd G (by decide) (by decide) (q1)) dL_law_495 ?_
              refine lv_if_le (tgt := 622) hx hb dL_law_496 (by decide) (fun c496 => ?_) (fun c496 => ?_)
              · have c496 : T.1.2 ≤ 0 := (nI_leI (a := T.1.2) (b := 0) (by omega) (by omega)).mp c496
                refine lv_iload hx hb dL_law_622 (lv_at hl 2 rfl) ?_
                refine lv_bipush (v := 14) hx hb dL_law_624 (by decide) ?_
                refine lv_icmp_ge (tgt := 698) hx hb dL_law_626 (by decide) (fun c626 => ?_) (fun c626 => ?_)
                · have c626 : 14 ≤ act := (nI_leI (a := 14) (b := act) (by omega) (by omega)).mp c626
                  exact k_law_698 K0 (by omega) (by omega) (fun H locs ls h => k_law_884 K0 ht (by omega) (by omega) (fun H locs ls h => KK H locs ls h) h) ⟨S, M, T, Ct, hP, hT, hF, G, hC, I, lv_sub hl [0, 3, 4, 5, 6, 7, 8, 9, 10, 11, 12, 13, 14] rfl⟩
                · have c626 : ¬ 14 ≤ act := fun h9 => c626 ((nI_leI (a := 14) (b := act) (by omega) (by omega)).mpr h9)
                  exact k_law_629 K0 (by omega) (by omega) (fun H locs ls h => k_law_884 K0 ht (by omega) (by omega) (fun H locs ls h => KK H locs ls h) h) ⟨S, M, T, Ct, hP, hT, hF, G, hC, I, lv_sub hl [0, 3, 4, 5, 6, 7, 8, 9, 10, 11, 12, 13, 14] rfl⟩
              · have c496 : ¬ T.1.2 ≤ 0 := fun h9 => c496 ((nI_leI (a := T.1.2) (b := 0) (by omega) (by omega)).mpr h9)
                exact k_law_499 K0 k (by omega) (by omega) (fun H locs ls h => k_law_884 K0 ht (by omega) (by omega) (fun H locs ls h => KK H locs ls h) h) ⟨S, M, T, Ct, ⟨hP, hK.elim (fun h => absurd h.1 (by omega)) id⟩, hT, hF, G, hC, I, lv_sub hl [1, 0, 3, 4, 5, 6, 7, 8, 9, 10, 11, 12, 13, 14] rfl⟩
          · have c421 : ¬ 10 ≤ act := fun h9 => c421 ((nI_leI (a := 10) (b := act) (by omega) (by omega)).mpr h9)
            exact k_law_424 K0 (by omega) (by omega) (fun H locs ls h => k_law_884 K0 ht (by omega) (by omega) (fun H locs ls h => KK H locs ls h) h) ⟨S, M, T, Ct, hP, hT, hF, G, hC, I, lv_sub hl [0, 3, 4, 5, 6, 7, 8, 9, 10, 11, 12, 13, 14] rfl⟩
        · have c188 : ¬ 8 ≤ act := fun h9 => c188 ((nI_leI (a := 8) (b := act) (by omega) (by omega)).mpr h9)
          refine lv_aload_n hx hb dL_law_191 rfl (lv_at hl 7 rfl) ?_
          refine lv_iconst (v := 1) hx hb dL_law_192 (by decide) ?_
          refine zr_iald (v := nI T.1.2) C I.swap (LG.at G (i := 0) (by decide)) (show vp_in (nI 1) _ from LG.inn G (i := 0) (k := 1) (by decide) (by decide)) (show zh_A M (ar 0) (nI 1).toNatClampNeg = _ from LG.rd G (by decide) (by decide) (q1)) dL_law_193 ?_
          refine lv_bipush (v := 30) hx hb dL_law_194 (by decide) ?_
          refine lv_icmp_ge (tgt := 417) hx hb dL_law_196 (by decide) (fun c196 => ?_) (fun c196 => ?_)
          · have c196 : 30 ≤ T.1.2 := (nI_leI (a := 30) (b := T.1.2) (by omega) (by omega)).mp c196
            refine lv_iload hx hb dL_law_417 (lv_at hl 2 rfl) ?_
            refine lv_bipush (v := 10) hx hb dL_law_419 (by decide) ?_
            refine lv_icmp_ge (tgt := 486) hx hb dL_law_421 (by decide) (fun c421 => ?_) (fun c421 => ?_)
            · have c421 : 10 ≤ act := (nI_leI (a := 10) (b := act) (by omega) (by omega)).mp c421
              refine lv_iload hx hb dL_law_486 (lv_at hl 2 rfl) ?_
              refine lv_bipush (v := 12) hx hb dL_law_488 (by decide) ?_
              refine lv_icmp_ge (tgt := 622) hx hb dL_law_490 (by decide) (fun c490 => ?_) (fun c490 => ?_)
              · have c490 : 12 ≤ act := (nI_leI (a := 12) (b := act) (by omega) (by omega)).mp c490
                refine lv_iload hx hb dL_law_622 (lv_at hl 2 rfl) ?_
                refine lv_bipush (v := 14) hx hb dL_law_624 (by decide) ?_
                refine lv_icmp_ge (tgt := 698) hx hb dL_law_626 (by decide) (fun c626 => ?_) (fun c626 => ?_)
                · have c626 : 14 ≤ act := (nI_leI (a := 14) (b := act) (by omega) (by omega)).mp c626
                  exact k_law_698 K0 (by omega) (by omega) (fun H locs ls h => k_law_884 K0 ht (by omega) (by omega) (fun H locs ls h => KK H locs ls h) h) ⟨S, M, T, Ct, hP, hT, hF, G, hC, I, lv_sub hl [0, 3, 4, 5, 6, 7, 8, 9, 10, 11, 12, 13, 14] rfl⟩
                · have c626 : ¬ 14 ≤ act := fun h9 => c626 ((nI_leI (a := 14) (b := act) (by omega) (by omega)).mpr h9)
                  exact k_law_629 K0 (by omega) (by omega) (fun H locs ls h => k_law_884 K0 ht (by omega) (by omega) (fun H locs ls h => KK H locs ls h) h) ⟨S, M, T, Ct, hP, hT, hF, G, hC, I, lv_sub hl [0, 3, 4, 5, 6, 7, 8, 9, 10, 11, 12, 13, 14] rfl⟩
              · have c490 : ¬ 12 ≤ act := fun h9 => c490 ((nI_leI (a := 12) (b := act) (by omega) (by omega)).mpr h9)
                refine lv_aload_n hx hb dL_law_493 rfl (lv_at hl 7 rfl) ?_
                refine lv_iconst (v := 1) hx hb dL_law_494 (by decide) ?_
                refine zr_iald (v := nI T.1.2) C I.swap (LG.at G (i := 0) (by decide)) (show vp_in (nI 1) _ from LG.inn G (i := 0) (k := 1) (by decide) (by decide)) (show zh_A M (ar 0) (nI 1).toNatClampNeg = _ from LG.rd G (by decide) (by decide) (q1)) dL_law_495 ?_
                refine lv_if_le (tgt := 622) hx hb dL_law_496 (by decide) (fun c496 => ?_) (fun c496 => ?_)
                · have c496 : T.1.2 ≤ 0 := (nI_leI (a := T.1.2) (b := 0) (by omega) (by omega)).mp c496
                  refine lv_iload hx hb dL_law_622 (lv_at hl 2 rfl) ?_
                  refine lv_bipush (v := 14) hx hb dL_law_624 (by decide) ?_
                  refine lv_icmp_ge (tgt := 698) hx hb dL_law_626 (by decide) (fun c626 => ?_) (fun c626 => ?_)
                  · have c626 : 14 ≤ act := (nI_leI (a := 14) (b := act) (by omega) (by omega)).mp c626
                    exact k_law_698 K0 (by omega) (by omega) (fun H locs ls h => k_law_884 K0 ht (by omega) (by omega) (fun H locs ls h => KK H locs ls h) h) ⟨S, M, T, Ct, hP, hT, hF, G, hC, I, lv_sub hl [0, 3, 4, 5, 6, 7, 8, 9, 10, 11, 12, 13, 14] rfl⟩
                  · have c626 : ¬ 14 ≤ act := fun h9 => c626 ((nI_leI (a := 14) (b := act) (by omega) (by omega)).mpr h9)
                    exact k_law_629 K0 (by omega) (by omega) (fun H locs ls h => k_law_884 K0 ht (by omega) (by omega) (fun H locs ls h => KK H locs ls h) h) ⟨S, M, T, Ct, hP, hT, hF, G, hC, I, lv_sub hl [0, 3, 4, 5, 6, 7, 8, 9, 10, 11, 12, 13, 14] rfl⟩
                · have c496 : ¬ T.1.2 ≤ 0 := fun h9 => c496 ((nI_leI (a := T.1.2) (b := 0) (by omega) (by omega)).mpr h9)
                  exact k_law_499 K0 k (by omega) (by omega) (fun H locs ls h => k_law_884 K0 ht (by omega) (by omega) (fun H locs ls h => KK H locs ls h) h) ⟨S, M, T, Ct, ⟨hP, hK.elim (fun h => absurd h.1 (by omega)) id⟩, hT, hF, G, hC, I, lv_sub hl [1, 0, 3, 4, 5, 6, 7, 8, 9, 10, 11, 12, 13, 14] rfl⟩
            · have c421 : ¬ 10 ≤ act := fun h9 => c421 ((nI_leI (a := 10) (b := act) (by omega) (by omega)).mpr h9)
              exact k_law_424 K0 (by omega) (by omega) (fun H locs ls h => k_law_884 K0 ht (by omega) (by omega) (fun H locs ls h => KK H locs ls h) h) ⟨S, M, T, Ct, hP, hT, hF, G, hC, I, lv_sub hl [0, 3, 4, 5, 6, 7, 8, 9, 10, 11, 12, 13, 14] rfl⟩
          · have c196 : ¬ 30 ≤ T.1.2 := fun h9 => c196 ((nI_leI (a := 30) (b := T.1.2) (by omega) (by omega)).mpr h9)
            exact k_law_199 K0 (by omega) (by omega) (fun H locs ls h => k_law_884 K0 ht (by omega) (by omega) (fun H locs ls h => KK H locs ls h) h) ⟨S, M, T, Ct, ⟨hP, by omega⟩, hT, hF, G, hC, I, lv_sub hl [0, 3, 4, 5, 6, 7, 8, 9, 10, 11, 12, 13, 14] rfl⟩
      · have c122 : ¬ 6 ≤ T.1.1 := fun h9 => c122 ((nI_leI (a := 6) (b := T.1.1) (by omega) (by omega)).mpr h9)
        exact k_law_125 K0 (by omega) (by omega) (fun H locs ls h => k_law_884 K0 ht (by omega) (by omega) (fun H locs ls h => KK H locs ls h) h) ⟨S, M, T, Ct, (by omega), hT, hF, G, hC, I, lv_sub hl [0, 3, 4, 5, 6, 7, 8, 9, 10, 11, 12, 13, 14] rfl⟩

end ZLAW
