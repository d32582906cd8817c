/-! the law's turns -/
def zLC (p : Program) (l : Launch) (s : State) (m : MethodId) (c : Code) (g : zG) (b L : Nat) (xs : Nat → Int32) : Prop := l.stackTraces = false ∧ CallFix p m c cL_law 19 s #[Value.ref b] zc_W RL ∧ va_X b L xs s s.heap ∧ b < g.1 ∧ L ≤ 260
def zLP (g : zG) (s : State) (x : Nat) (ar : Nat → Nat) (P : zT → Prop) (H : Heap) (locs : List Loc) (ls : Array Slot) (lv : List (Nat × Value)) : Prop := ∃ (S M : zS) (T : zT) (Ct : Nat → Nat → Int32), P T ∧ zt_ok T ∧ FE g S T x ∧ LG M ar Ct ∧ LC Ct T ∧ zh_V g (fun q => s.heap.size ≤ q) s (zh_w g M) S H locs ∧ lv_has ls 19 lv
section ZLAW
variable {p : Program} {l : Launch} {e : Env} {s : State} {m : MethodId} {below : List Frame} {meth : Method} {c : Code} {H : Heap} {locs : List Loc} {cells slots : Nat} {Q : State → Prop} {g : zG} {b L x t : Nat} {xs : Nat → Int32} {zv : Int32} {ar : Nat → Nat} {ls : Array Slot}
set_option maxRecDepth 100000 in
set_option maxHeartbeats 4000000 in
theorem k_law_884 (K0 : zLC p l s m c g b L xs) (ht : t < 80) (hcs : cells + 610 ≤ 794606) (hss : slots + 12310 ≤ 6717651) (KK : ∀ (H : Heap) (locs : List Loc) (ls : Array Slot), zLP g s x ar (fun T => True) H locs ls [(10, .int (nI (t + 1))), (0, .ref b), (1, .ref x), (2, .ref (ar 0)), (3, .ref (ar 1)), (4, .ref (ar 2)), (5, .ref (ar 3)), (6, .ref (ar 4)), (7, .ref (ar 5)), (8, .ref (ar 6)), (9, .ref (ar 7))] → W p l e room_1 s m #[Value.ref b] below meth c H locs (cells + 610) (slots + 12310) Q (F0 m 57 ls [])) (I0 : zLP g s x ar (fun T => 1 ≤ T.1.1) H locs ls [(14, .int 1), (11, .int zv), (10, .int (nI t)), (0, .ref b), (1, .ref x), (2, .ref (ar 0)), (3, .ref (ar 1)), (4, .ref (ar 2)), (5, .ref (ar 3)), (6, .ref (ar 4)), (7, .ref (ar 5)), (8, .ref (ar 6)), (9, .ref (ar 7))]) : W p l e room_1 s m #[Value.ref b] below meth c H locs cells slots Q (F0 m 884 ls []) := by
  obtain ⟨hst, C, hX, hbg, hL⟩ := id K0
  obtain ⟨S, M, T, Ct, hP, hT, hF, G, hC, I, hl⟩ := I0
  have hx := C.1
  have hb := C.2.1
  obtain ⟨pl, lo, pt, ty, pa, la, ap, ad, ae, hF9⟩ := id hF
  obtain ⟨⟨n1, n2⟩, ⟨q0, q1⟩, ⟨b2, b3, b4⟩, qp, dk, ek⟩ := id hC
  obtain ⟨t1, t2, t3, t4, t5, t6, t7⟩ := id hT
  have hl : lv_has ls 19 [(14, .int 1), (11, .int zv), (10, .int (nI t)), (0, .ref b), (1, .ref x), (2, .ref (ar 0)), (3, .ref (ar 1)), (4, .ref (ar 2)), (5, .ref (ar 3)), (6, .ref (ar 4)), (7, .ref (ar 5)), (8, .ref (ar 6)), (9, .ref (ar 7))] := hl
  refine lv_iload hx hb dL_law_884 (lv_at hl 0 rfl) ?_
  refine lv_if_eq (tgt := 950) hx hb dL_law_886 (by decide) (fun h9 => absurd h9 (fun h8 => absurd ((nI_eq (a := 1) (b := 0) (by omega) (by omega)).mp h8) (by decide))) (fun _ => ?_)
  refine lv_iload hx hb dL_law_889 (lv_at hl 2 rfl) ?_
  refine lv_iconst (v := 4) hx hb dL_law_891 (by decide) ?_
  refine lv_irem hx hb dL_law_892 (by decide) ?_
  refine zr_top (y := nI (t % 4)) (pk_rem (a := t) (d := 4) (by omega) (by omega) (by omega)) ?_
  refine lv_iconst (v := 3) hx hb dL_law_893 (by decide) ?_
  refine lv_icmp_ne (tgt := 922) hx hb dL_law_894 (by decide) (fun c894 => ?_) (fun c894 => ?_)
  · have c894 : ¬ (t % 4) = 3 := fun h9 => c894 ((nI_eq (a := t % 4) (b := 3) (by omega) (by omega)).mpr h9)
    refine lv_iload hx hb dL_law_922 (lv_at hl 2 rfl) ?_
    refine lv_bipush (v := 40) hx hb dL_law_924 (by decide) ?_
    refine lv_irem hx hb dL_law_926 (by decide) ?_
    refine zr_top (y := nI (t % 40)) (pk_rem (a := t) (d := 40) (by omega) (by omega) (by omega)) ?_
    refine lv_bipush (v := 39) hx hb dL_law_927 (by decide) ?_
    refine lv_icmp_ne (tgt := 952) hx hb dL_law_929 (by decide) (fun c929 => ?_) (fun c929 => ?_)
    · have c929 : ¬ (t % 40) = 39 := fun h9 => c929 ((nI_eq (a := t % 40) (b := 39) (by omega) (by omega)).mpr h9)
      refine lv_iinc (v := nI (t + 1)) (lv' := [(10, .int (nI (t + 1))), (14, .int 1), (11, .int zv), (0, .ref b), (1, .ref x), (2, .ref (ar 0)), (3, .ref (ar 1)), (4, .ref (ar 2)), (5, .ref (ar 3)), (6, .ref (ar 4)), (7, .ref (ar 5)), (8, .ref (ar 6)), (9, .ref (ar 7))]) hx hb dL_law_952 hl (k := 2) rfl (nI_add t 1) (by decide) rfl (fun ls hl => ?_)
      refine lv_goto (tgt := 57) hx hb dL_law_955 (by decide) ?_
      refine W.widen (k := cells + 610) (n := slots + 12310) (by show cells ≤ cells + 610; omega) (by show slots ≤ slots + 12310; omega) ?_
      exact KK _ _ ls ⟨S, M, T, Ct, trivial, hT, hF, G, hC, I, lv_sub hl [0, 3, 4, 5, 6, 7, 8, 9, 10, 11, 12] rfl⟩
    · have c929 : (t % 40) = 39 := (nI_eq (a := t % 40) (b := 39) (by omega) (by omega)).mp c929
      refine lv_aload_n hx hb dL_law_932 rfl (lv_at hl 4 rfl) ?_
      refine lv_iload hx hb dL_law_933 (lv_at hl 1 rfl) ?_
      refine lv_iconst (v := 2) hx hb dL_law_935 (by decide) ?_
      refine lv_ishr hx hb dL_law_936 ?_
      refine lv_aload_n hx hb dL_law_937 rfl (lv_at hl 5 rfl) ?_
      refine lv_iconst (v := 0) hx hb dL_law_938 (by decide) ?_
      refine zr_iald (v := nI T.1.1) C I.swap (LG.at G (i := 0) (by decide)) (show vp_in (nI 0) _ from LG.inn G (i := 0) (k := 0) (by decide) (by decide)) (show zh_A M (ar 0) (nI 0).toNatClampNeg = _ from LG.rd G (by decide) (by decide) (q0)) dL_law_939 ?_
      refine zc_S (n := 2) (rest := [.ref x]) C I (k_L_low l g S (zv >>> (2 &&& 31)) T.1.1 (hP) (by omega)) zm_267 zm_268 zm_15 zm_269 rfl hl.1 dL_law_940 (by decide +kernel) rfl ⟨Nat.le_of_ble_eq_true rfl, Nat.le_of_ble_eq_true rfl⟩ (Nat.le_of_ble_eq_true rfl) ⟨by show cells + 0 ≤ 794606; omega, by show slots + 0 ≤ 6717651; omega⟩ (fun v S' H locs hq I => ?_)
      obtain ⟨⟨j, hj, rfl⟩, eS⟩ := hq
      rw [eS] at I
      refine lv_aload_n hx hb dL_law_943 rfl (lv_at hl 6 rfl) ?_
      refine zc_S (n := 3) (rest := []) C (zh_V.join I) (k_L_seeds l g hst S M T x ar Ct hT hF G hC (zh_V.dis I) j hj) zm_466 zm_467 zm_15 zm_468 rfl hl.1 dL_law_944 (by decide +kernel) rfl ⟨Nat.le_of_ble_eq_true rfl, Nat.le_of_ble_eq_true rfl⟩ (Nat.le_of_ble_eq_true rfl) ⟨by show cells + 0 + 1 ≤ 794606; omega, by show slots + 0 + 6 ≤ 6717651; omega⟩ (fun v U' H locs hq I => ?_)
      obtain ⟨rfl, S1, M1, rfl, hd1, hF, C1, G, hC⟩ := hq
      have I := zh_V.part hd1 I
      refine lv_if_ne (tgt := 952) hx hb dL_law_947 (by decide) (fun _ => ?_) (fun h9 => absurd h9 (fun h8 => absurd ((nI_eq (a := 1) (b := 0) (by omega) (by omega)).mp h8) (by decide)))
      refine lv_iinc (v := nI (t + 1)) (lv' := [(10, .int (nI (t + 1))), (14, .int 1), (11, .int zv), (0, .ref b), (1, .ref x), (2, .ref (ar 0)), (3, .ref (ar 1)), (4, .ref (ar 2)), (5, .ref (ar 3)), (6, .ref (ar 4)), (7, .ref (ar 5)), (8, .ref (ar 6)), (9, .ref (ar 7))]) hx hb dL_law_952 hl (k := 2) rfl (nI_add t 1) (by decide) rfl (fun ls hl => ?_)
      refine lv_goto (tgt := 57) hx hb dL_law_955 (by decide) ?_
      refine W.widen (k := cells + 610) (n := slots + 12310) (by show cells + 0 + 1 ≤ cells + 610; omega) (by show slots + 0 + 6 ≤ slots + 12310; omega) ?_
      exact KK _ _ ls ⟨S1, M1, T, C1, trivial, hT, hF, G, hC, I, lv_sub hl [0, 3, 4, 5, 6, 7, 8, 9, 10, 11, 12] rfl⟩
  · have c894 : (t % 4) = 3 := (nI_eq (a := t % 4) (b := 3) (by omega) (by omega)).mp c894
    refine lv_aload_n hx hb dL_law_897 rfl (lv_at hl 4 rfl) ?_
    refine lv_iload hx hb dL_law_898 (lv_at hl 1 rfl) ?_
    refine lv_iconst (v := 3) hx hb dL_law_900 (by decide) ?_
    refine lv_ishr hx hb dL_law_901 ?_
    refine lv_aload hx hb dL_law_902 (lv_at hl 7 rfl) ?_
    refine lv_aload hx hb dL_law_904 (lv_at hl 8 rfl) ?_
    refine lv_aload hx hb dL_law_906 (lv_at hl 9 rfl) ?_
    refine lv_aload hx hb dL_law_908 (lv_at hl 10 rfl) ?_
    refine lv_aload hx hb dL_law_910 (lv_at hl 11 rfl) ?_
    refine lv_aload hx hb dL_law_912 (lv_at hl 12 rfl) ?_
    refine lv_aload_n hx hb dL_law_914 rfl (lv_at hl 6 rfl) ?_
    refine lv_aload_n hx hb dL_law_915 rfl (lv_at hl 5 rfl) ?_
    refine zc_S (n := 10) (rest := []) C (zh_V.join I) (k_L_isSo l g hst S M T x (zv >>> (3 &&& 31)) ar Ct hT hF G hC (zh_V.dis I)) zm_396 zm_397 zm_15 zm_398 rfl hl.1 dL_law_916 (by decide +kernel) rfl ⟨Nat.le_of_ble_eq_true rfl, Nat.le_of_ble_eq_true rfl⟩ (Nat.le_of_ble_eq_true rfl) ⟨by show cells + 600 ≤ 794606; omega, by show slots + 12000 ≤ 6717651; omega⟩ (fun v U' H locs hq I => ?_)
    obtain ⟨rfl, S1, M1, rfl, hd1, hF, C1, G, hC⟩ := hq
    have I := zh_V.part hd1 I
    obtain ⟨pl, lo, pt, ty, pa, la, ap, ad, ae, hF9⟩ := id hF
    obtain ⟨⟨n1, n2⟩, ⟨q0, q1⟩, ⟨b2, b3, b4⟩, qp, dk, ek⟩ := id hC
    obtain ⟨t1, t2, t3, t4, t5, t6, t7⟩ := id hT
    refine lv_if_eq (tgt := 950) hx hb dL_law_919 (by decide) (fun h9 => absurd h9 (fun h8 => absurd ((nI_eq (a := 1) (b := 0) (by omega) (by omega)).mp h8) (by decide))) (fun _ => ?_)
    refine lv_iload hx hb dL_law_922 (lv_at hl 2 rfl) ?_
    refine lv_bipush (v := 40) hx hb dL_law_924 (by decide) ?_
    refine lv_irem hx hb dL_law_926 (by decide) ?_
    refine zr_top (y := nI (t % 40)) (pk_rem (a := t) (d := 40) (by omega) (by omega) (by omega)) ?_
    refine lv_bipush (v := 39) hx hb dL_law_927 (by decide) ?_
    refine lv_icmp_ne (tgt := 952) hx hb dL_law_929 (by decide) (fun c929 => ?_) (fun c929 => ?_)
    · have c929 : ¬ (t % 40) = 39 := fun h9 => c929 ((nI_eq (a := t % 40) (b := 39) (by omega) (by omega)).mpr h9)
      refine lv_iinc (v := nI (t + 1)) (lv' := [(10, .int (nI (t + 1))), (14, .int 1), (11, .int zv), (0, .ref b), (1, .ref x), (2, .ref (ar 0)), (3, .ref (ar 1)), (4, .ref (ar 2)), (5, .ref (ar 3)), (6, .ref (ar 4)), (7, .ref (ar 5)), (8, .ref (ar 6)), (9, .ref (ar 7))]) hx hb dL_law_952 hl (k := 2) rfl (nI_add t 1) (by decide) rfl (fun ls hl => ?_)
      refine lv_goto (tgt := 57) hx hb dL_law_955 (by decide) ?_
      refine W.widen (k := cells + 610) (n := slots + 12310) (by show cells + 600 ≤ cells + 610; omega) (by show slots + 12000 ≤ slots + 12310; omega) ?_
      exact KK _ _ ls ⟨S1, M1, T, C1, trivial, hT, hF, G, hC, I, lv_sub hl [0, 3, 4, 5, 6, 7, 8, 9, 10, 11, 12] rfl⟩
    · have c929 : (t % 40) = 39 := (nI_eq (a := t % 40) (b := 39) (by omega) (by omega)).mp c929
      refine lv_aload_n hx hb dL_law_932 rfl (lv_at hl 4 rfl) ?_
      refine lv_iload hx hb dL_law_933 (lv_at hl 1 rfl) ?_
      refine lv_iconst (v := 2) hx hb dL_law_935 (by decide) ?_
      refine lv_ishr hx hb dL_law_936 ?_
      refine lv_aload_n hx hb dL_law_937 rfl (lv_at hl 5 rfl) ?_
      refine lv_iconst (v := 0) hx hb dL_law_938 (by decide) ?_
      refine zr_iald (v := nI T.1.1) C I.swap (LG.at G (i := 0) (by decide)) (show vp_in (nI 0) _ from LG.inn G (i := 0) (k := 0) (by decide) (by decide)) (show zh_A M1 (ar 0) (nI 0).toNatClampNeg = _ from LG.rd G (by decide) (by decide) (q0)) dL_law_939 ?_
      refine zc_S (n := 2) (rest := [.ref x]) C I (k_L_low l g S1 (zv >>> (2 &&& 31)) T.1.1 (hP) (by omega)) zm_267 zm_268 zm_15 zm_269 rfl hl.1 dL_law_940 (by decide +kernel) rfl ⟨Nat.le_of_ble_eq_true rfl, Nat.le_of_ble_eq_true rfl⟩ (Nat.le_of_ble_eq_true rfl) ⟨by show cells + 600 + 0 ≤ 794606; omega, by show slots + 12000 + 0 ≤ 6717651; omega⟩ (fun v S' H locs hq I => ?_)
      obtain ⟨⟨j, hj, rfl⟩, eS⟩ := hq
      rw [eS] at I
      refine lv_aload_n hx hb dL_law_943 rfl (lv_at hl 6 rfl) ?_
      refine zc_S (n := 3) (rest := []) C (zh_V.join I) (k_L_seeds l g hst S1 M1 T x ar C1 hT hF G hC (zh_V.dis I) j hj) zm_466 zm_467 zm_15 zm_468 rfl hl.1 dL_law_944 (by decide +kernel) rfl ⟨Nat.le_of_ble_eq_true rfl, Nat.le_of_ble_eq_true rfl⟩ (Nat.le_of_ble_eq_true rfl) ⟨by show cells + 600 + 0 + 1 ≤ 794606; omega, by show slots + 12000 + 0 + 6 ≤ 6717651; omega⟩ (fun v U' H locs hq I => ?_)
      obtain ⟨rfl, S1, M1, rfl, hd1, hF, C1, G, hC⟩ := hq
      have I := zh_V.part hd1 I
      refine lv_if_ne (tgt := 952) hx hb dL_law_947 (by decide) (fun _ => ?_) (fun h9 => absurd h9 (fun h8 => absurd ((nI_eq (a := 1) (b := 0) (by omega) (by omega)).mp h8) (by decide)))
      refine lv_iinc (v := nI (t + 1)) (lv' := [(10, .int (nI (t + 1))), (14, .int 1), (11, .int zv), (0, .ref b), (1, .ref x), (2, .ref (ar 0)), (3, .ref (ar 1)), (4, .ref (ar 2)), (5, .ref (ar 3)), (6, .ref (ar 4)), (7, .ref (ar 5)), (8, .ref (ar 6)), (9, .ref (ar 7))]) hx hb dL_law_952 hl (k := 2) rfl (nI_add t 1) (by decide) rfl (fun ls hl => ?_)
      refine lv_goto (tgt := 57) hx hb dL_law_955 (by decide) ?_
      refine W.widen (k := cells + 610) (n := slots + 12310) (by show cells + 600 + 0 + 1 ≤ cells + 610; omega) (by show slots + 12000 + 0 + 6 ≤ slots + 12310; omega) ?_
      exact KK _ _ ls ⟨S1, M1, T, C1, trivial, hT, hF, G, hC, I, lv_sub hl [0, 3, 4, 5, 6, 7, 8, 9, 10, 11, 12] rfl⟩

set_option maxRecDepth 100000 in
set_option maxHeartbeats 4000000 in
theorem k_law_125 (K0 : zLC p l s m c g b L xs)  (hcs : cells + 620 ≤ 794606) (hss : slots + 12610 ≤ 6717651) (KT : ∀ (H : Heap) (locs : List Loc) (ls : Array Slot), zLP g s x ar (fun T => 1 ≤ T.1.1) H locs ls [(14, .int 1), (11, .int zv), (10, .int (nI t)), (0, .ref b), (1, .ref x), (2, .ref (ar 0)), (3, .ref (ar 1)), (4, .ref (ar 2)), (5, .ref (ar 3)), (6, .ref (ar 4)), (7, .ref (ar 5)), (8, .ref (ar 6)), (9, .ref (ar 7))] → W p l e room_1 s m #[Value.ref b] below meth c H locs (cells + 10) (slots + 300) Q (F0 m 884 ls [])) (I0 : zLP g s x ar (fun T => T.1.1 < 6) H locs ls [(14, .int 1), (11, .int zv), (10, .int (nI t)), (0, .ref b), (1, .ref x), (2, .ref (ar 0)), (3, .ref (ar 1)), (4, .ref (ar 2)), (5, .ref (ar 3)), (6, .ref (ar 4)), (7, .ref (ar 5)), (8, .ref (ar 6)), (9, .ref (ar 7))]) : W p l e room_1 s m #[Value.ref b] below meth c H locs cells slots Q (F0 m 125 ls []) := by
  obtain ⟨hst, C, hX, hbg, hL⟩ := id K0
  obtain ⟨S, M, T, Ct, hP, hT, hF, G, hC, I, hl⟩ := I0
  have hx := C.1
  have hb := C.2.1
  obtain ⟨pl, lo, pt, ty, pa, la, ap, ad, ae, hF9⟩ := id hF
  obtain ⟨⟨n1, n2⟩, ⟨q0, q1⟩, ⟨b2, b3, b4⟩, qp, dk, ek⟩ := id hC
  obtain ⟨t1, t2, t3, t4, t5, t6, t7⟩ := id hT
  have hl : lv_has ls 19 [(14, .int 1), (11, .int zv), (10, .int (nI t)), (0, .ref b), (1, .ref x), (2, .ref (ar 0)), (3, .ref (ar 1)), (4, .ref (ar 2)), (5, .ref (ar 3)), (6, .ref (ar 4)), (7, .ref (ar 5)), (8, .ref (ar 6)), (9, .ref (ar 7))] := hl
  refine lv_iload hx hb dL_law_125 (lv_at hl 1 rfl) ?_
  refine lv_iconst (v := 4) hx hb dL_law_127 (by decide) ?_
  refine lv_ishr hx hb dL_law_128 ?_
  refine lv_ldc (v := 65536) hx hb C.2.2.2.1 (C.2.2.2.2 _ zm_385) dL_law_129 ?_
  refine zc_S (n := 2) (rest := []) C I (k_L_low l g S (zv >>> (4 &&& 31)) 65536 (by decide) (by decide)) zm_267 zm_268 zm_15 zm_269 rfl hl.1 dL_law_131 (by decide +kernel) rfl ⟨Nat.le_of_ble_eq_true rfl, Nat.le_of_ble_eq_true rfl⟩ (Nat.le_of_ble_eq_true rfl) ⟨by show cells + 0 ≤ 794606; omega, by show slots + 0 ≤ 6717651; omega⟩ (fun v S' H locs hq I => ?_)
  obtain ⟨⟨sd, hsd, rfl⟩, eS⟩ := hq
  rw [eS] at I
  have hp : zc_promise T (nI sd) = 0 := by unfold zc_promise; rw [if_neg (zi_no hsd (by decide)), if_neg (by omega)]
  refine lv_istore (lv' := [(15, .int (nI sd)), (14, .int 1), (11, .int zv), (10, .int (nI t)), (0, .ref b), (1, .ref x), (2, .ref (ar 0)), (3, .ref (ar 1)), (4, .ref (ar 2)), (5, .ref (ar 3)), (6, .ref (ar 4)), (7, .ref (ar 5)), (8, .ref (ar 6)), (9, .ref (ar 7))]) hx hb dL_law_134 hl (by decide) rfl (fun ls hl => ?_)
  refine lv_aload_n hx hb dL_law_136 rfl (lv_at hl 7 rfl) ?_
  refine lv_aload_n hx hb dL_law_137 rfl (lv_at hl 6 rfl) ?_
  refine lv_iconst (v := 0) hx hb dL_law_138 (by decide) ?_
  refine zr_iald (v := nI T.1.1) C I.swap (LG.at G (i := 0) (by decide)) (show vp_in (nI 0) _ from LG.inn G (i := 0) (k := 0) (by decide) (by decide)) (show zh_A M (ar 0) (nI 0).toNatClampNeg = _ from LG.rd G (by decide) (by decide) (q0)) dL_law_139 ?_
  refine lv_iload hx hb dL_law_140 (lv_at hl 0 rfl) ?_
  refine zr_iast C I.swap (LG.at G (i := 1) (by decide)) (show vp_in (nI T.1.1) _ from LG.inn G (i := 1) (k := T.1.1) (by decide) (show T.1.1 < 12 by omega)) dL_law_142 (fun H locs I => ?_)
  have G := LG.wr G (i := 1) (k := T.1.1) (nI sd) (by decide) (show T.1.1 < 12 by omega)
  have I : zh_V g _ s (zh_w g S) (zaw M ar 1 T.1.1 (nI sd)) H locs := I
  generalize zaw M ar 1 T.1.1 (nI sd) = M142 at I G
  have I := I.swap
  refine lv_aload_n hx hb dL_law_143 rfl (lv_at hl 7 rfl) ?_
  refine lv_bipush (v := 6) hx hb dL_law_144 (by decide) ?_
  refine lv_aload_n hx hb dL_law_146 rfl (lv_at hl 6 rfl) ?_
  refine lv_iconst (v := 0) hx hb dL_law_147 (by decide) ?_
  refine zr_iald (v := nI T.1.1) C I.swap (LG.at G (i := 0) (by decide)) (show vp_in (nI 0) _ from LG.inn G (i := 0) (k := 0) (by decide) (by decide)) (show zh_A M142 (ar 0) (nI 0).toNatClampNeg = _ from LG.rd G (by decide) (by decide) (by have h9 := q0; simp only [zu_dc]; grind)) dL_law_148 ?_
  refine lv_iadd hx hb dL_law_149 ?_
  refine zr_top (y := nI (6 + T.1.1)) (nI_add 6 T.1.1) ?_
  refine lv_iload hx hb dL_law_150 (lv_at hl 0 rfl) ?_
  refine zr_iast C I.swap (LG.at G (i := 1) (by decide)) (show vp_in (nI (6 + T.1.1)) _ from LG.inn G (i := 1) (k := 6 + T.1.1) (by decide) (show 6 + T.1.1 < 12 by omega)) dL_law_152 (fun H locs I => ?_)
  have G := LG.wr G (i := 1) (k := 6 + T.1.1) (nI sd) (by decide) (show 6 + T.1.1 < 12 by omega)
  have I : zh_V g _ s (zh_w g S) (zaw M142 ar 1 (6 + T.1.1) (nI sd)) H locs := I
  generalize zaw M142 ar 1 (6 + T.1.1) (nI sd) = M152 at I G
  have I := I.swap
  refine lv_aload_n hx hb dL_law_153 rfl (lv_at hl 6 rfl) ?_
  refine lv_iconst (v := 0) hx hb dL_law_154 (by decide) ?_
  refine lv_dup2_11 hx hb dL_law_155 rfl rfl ?_
  refine zr_iald (v := nI T.1.1) C I.swap (LG.at G (i := 0) (by decide)) (show vp_in (nI 0) _ from LG.inn G (i := 0) (k := 0) (by decide) (by decide)) (show zh_A M152 (ar 0) (nI 0).toNatClampNeg = _ from LG.rd G (by decide) (by decide) (by have h9 := q0; simp only [zu_dc]; grind)) dL_law_156 ?_
  refine lv_iconst (v := 1) hx hb dL_law_157 (by decide) ?_
  refine lv_iadd hx hb dL_law_158 ?_
  refine zr_top (y := nI (T.1.1 + 1)) (nI_add T.1.1 1) ?_
  refine zr_iast C I.swap (LG.at G (i := 0) (by decide)) (show vp_in (nI 0) _ from LG.inn G (i := 0) (k := 0) (by decide) (by decide)) dL_law_159 (fun H locs I => ?_)
  have G := LG.wr G (i := 0) (k := 0) (nI (T.1.1 + 1)) (by decide) (by decide)
  have I : zh_V g _ s (zh_w g S) (zaw M152 ar 0 0 (nI (T.1.1 + 1))) H locs := I
  generalize zaw M152 ar 0 0 (nI (T.1.1 + 1)) = M159 at I G
  have I := I.swap
  refine lv_aload_n hx hb dL_law_160 rfl (lv_at hl 5 rfl) ?_
  refine lv_iload hx hb dL_law_161 (lv_at hl 0 rfl) ?_
  refine zc_VX (n := 1) (rest := []) C I hF9.1.1 rfl rfl (k_X3_promise l g hst S T x pl lo pt ty pa la ap ad ae hT hF9 (nI sd)) zm_82 zm_83 zm_84 zm_16 zm_85 rfl hl.1 dL_law_163 (by decide +kernel) rfl ⟨Nat.le_of_ble_eq_true rfl, Nat.le_of_ble_eq_true rfl⟩ (Nat.le_of_ble_eq_true rfl) ⟨by show cells + 0 + 4 ≤ 794606; omega, by show slots + 0 + 220 ≤ 6717651; omega⟩ (fun E ce q9 S' H locs hq I h1 h2 h3 => (hq.1.elim (fun h => absurd (h.1.symm.trans hp) (by decide)) (fun h => absurd (h.1.symm.trans hp) (by decide)))) (fun v S' H locs hq I => ?_)
  obtain ⟨-, rfl, hF8, -⟩ := hq
  refine lv_aload_n hx hb dL_law_166 rfl (lv_at hl 6 rfl) ?_
  refine lv_iconst (v := 0) hx hb dL_law_167 (by decide) ?_
  refine zr_iald (v := nI (T.1.1 + 1)) C I.swap (LG.at G (i := 0) (by decide)) (show vp_in (nI 0) _ from LG.inn G (i := 0) (k := 0) (by decide) (by decide)) (show zh_A M159 (ar 0) (nI 0).toNatClampNeg = _ from LG.rd G (by decide) (by decide) (zh_u_s _ _ _ _)) dL_law_168 ?_
  refine lv_iconst (v := 1) hx hb dL_law_169 (by decide) ?_
  refine lv_isub hx hb dL_law_170 ?_
  refine zr_top (y := nI T.1.1) (pk_sub (a := T.1.1 + 1) (b := 1) (by omega)) ?_
  refine lv_icmp_ne (tgt := 178) hx hb dL_law_171 (by decide) (fun h9 => absurd (rfl) h9) (fun _ => ?_)
  refine lv_iconst (v := 1) hx hb dL_law_174 (by decide) ?_
  refine lv_goto (tgt := 179) hx hb dL_law_175 (by decide) ?_
  refine lv_istore (lv' := [(14, .int 1), (15, .int (nI sd)), (11, .int zv), (10, .int (nI t)), (0, .ref b), (1, .ref x), (2, .ref (ar 0)), (3, .ref (ar 1)), (4, .ref (ar 2)), (5, .ref (ar 3)), (6, .ref (ar 4)), (7, .ref (ar 5)), (8, .ref (ar 6)), (9, .ref (ar 7))]) hx hb dL_law_179 hl (by decide) rfl (fun ls hl => ?_)
  refine lv_goto (tgt := 884) hx hb dL_law_181 (by decide) ?_
  have eT : zs_promise T (nI sd) = ((T.1.1 + 1, T.1.2), zh_u (zh_u T.2 0 T.1.1 sd) 1 T.1.1 sd) := by unfold zs_promise; rw [if_pos hp, zx_nI (by omega)]
  have hT8 := zt_ok_promise hT (nI sd)
  rw [eT] at hT8 hF8
  refine W.widen (k := cells + 10) (n := slots + 300) (by show cells + 0 + 4 ≤ cells + 10; omega) (by show slots + 0 + 220 ≤ slots + 300; omega) ?_
  exact KT _ _ ls ⟨S', M159, ((T.1.1 + 1, T.1.2), zh_u (zh_u T.2 0 T.1.1 sd) 1 T.1.1 sd), (zh_u (zh_u (zh_u Ct 1 T.1.1 (nI sd)) 1 (6 + T.1.1) (nI sd)) 0 0 (nI (T.1.1 + 1))), (show 1 ≤ T.1.1 + 1 by omega), hT8, hF8, G, LC_promise hC sd hP, I, lv_sub hl [0, 2, 3, 4, 5, 6, 7, 8, 9, 10, 11, 12, 13] rfl⟩

set_option maxRecDepth 100000 in
set_option maxHeartbeats 4000000 in
theorem k_law_424 (K0 : zLC p l s m c g b L xs)  (hcs : cells + 620 ≤ 794606) (hss : slots + 12610 ≤ 6717651) (KT : ∀ (H : Heap) (locs : List Loc) (ls : Array Slot), zLP g s x ar (fun T => 1 ≤ T.1.1) H locs ls [(14, .int 1), (11, .int zv), (10, .int (nI t)), (0, .ref b), (1, .ref x), (2, .ref (ar 0)), (3, .ref (ar 1)), (4, .ref (ar 2)), (5, .ref (ar 3)), (6, .ref (ar 4)), (7, .ref (ar 5)), (8, .ref (ar 6)), (9, .ref (ar 7))] → W p l e room_1 s m #[Value.ref b] below meth c H locs (cells + 10) (slots + 300) Q (F0 m 884 ls [])) (I0 : zLP g s x ar (fun T => 1 ≤ T.1.1) H locs ls [(14, .int 1), (11, .int zv), (10, .int (nI t)), (0, .ref b), (1, .ref x), (2, .ref (ar 0)), (3, .ref (ar 1)), (4, .ref (ar 2)), (5, .ref (ar 3)), (6, .ref (ar 4)), (7, .ref (ar 5)), (8, .ref (ar 6)), (9, .ref (ar 7))]) : W p l e room_1 s m #[Value.ref b] below meth c H locs cells slots Q (F0 m 424 ls []) := by
  obtain ⟨hst, C, hX, hbg, hL⟩ := id K0
  obtain ⟨S, M, T, Ct, hP, hT, hF, G, hC, I, hl⟩ := I0
  have hx := C.1
  have hb := C.2.1
  obtain ⟨pl, lo, pt, ty, pa, la, ap, ad, ae, hF9⟩ := id hF
  obtain ⟨⟨n1, n2⟩, ⟨q0, q1⟩, ⟨b2, b3, b4⟩, qp, dk, ek⟩ := id hC
  obtain ⟨t1, t2, t3, t4, t5, t6, t7⟩ := id hT
  have hl : lv_has ls 19 [(14, .int 1), (11, .int zv), (10, .int (nI t)), (0, .ref b), (1, .ref x), (2, .ref (ar 0)), (3, .ref (ar 1)), (4, .ref (ar 2)), (5, .ref (ar 3)), (6, .ref (ar 4)), (7, .ref (ar 5)), (8, .ref (ar 6)), (9, .ref (ar 7))] := hl
  refine lv_iload hx hb dL_law_424 (lv_at hl 1 rfl) ?_
  refine lv_iconst (v := 4) hx hb dL_law_426 (by decide) ?_
  refine lv_ishr hx hb dL_law_427 ?_
  refine lv_iconst (v := 4) hx hb dL_law_428 (by decide) ?_
  refine zc_S (n := 2) (rest := []) C I (k_L_low l g S (zv >>> (4 &&& 31)) 4 (by decide) (by decide)) zm_267 zm_268 zm_15 zm_269 rfl hl.1 dL_law_429 (by decide +kernel) rfl ⟨Nat.le_of_ble_eq_true rfl, Nat.le_of_ble_eq_true rfl⟩ (Nat.le_of_ble_eq_true rfl) ⟨by show cells + 0 ≤ 794606; omega, by show slots + 0 ≤ 6717651; omega⟩ (fun v S' H locs hq I => ?_)
  obtain ⟨⟨tb, htb, rfl⟩, eS⟩ := hq
  rw [eS] at I
  refine lv_istore (lv' := [(15, .int (nI tb)), (14, .int 1), (11, .int zv), (10, .int (nI t)), (0, .ref b), (1, .ref x), (2, .ref (ar 0)), (3, .ref (ar 1)), (4, .ref (ar 2)), (5, .ref (ar 3)), (6, .ref (ar 4)), (7, .ref (ar 5)), (8, .ref (ar 6)), (9, .ref (ar 7))]) hx hb dL_law_432 hl (by decide) rfl (fun ls hl => ?_)
  refine lv_aload_n hx hb dL_law_434 rfl (lv_at hl 6 rfl) ?_
  refine lv_iconst (v := 5) hx hb dL_law_435 (by decide) ?_
  refine lv_iload hx hb dL_law_436 (lv_at hl 0 rfl) ?_
  refine lv_iadd hx hb dL_law_438 ?_
  refine zr_top (y := nI (5 + tb)) (nI_add 5 tb) ?_
  refine zr_iald (v := nI (T.2 4 tb)) C I.swap (LG.at G (i := 0) (by decide)) (show vp_in (nI (5 + tb)) _ from LG.inn G (i := 0) (k := 5 + tb) (by decide) (show 5 + tb < 11 by omega)) (show zh_A M (ar 0) (nI (5 + tb)).toNatClampNeg = _ from LG.rd G (by decide) (show 5 + tb < 11 by omega) (qp tb htb)) dL_law_439 ?_
  refine lv_istore (lv' := [(16, .int (nI (T.2 4 tb))), (15, .int (nI tb)), (14, .int 1), (11, .int zv), (10, .int (nI t)), (0, .ref b), (1, .ref x), (2, .ref (ar 0)), (3, .ref (ar 1)), (4, .ref (ar 2)), (5, .ref (ar 3)), (6, .ref (ar 4)), (7, .ref (ar 5)), (8, .ref (ar 6)), (9, .ref (ar 7))]) hx hb dL_law_440 hl (by decide) rfl (fun ls hl => ?_)
  refine lv_aload_n hx hb dL_law_442 rfl (lv_at hl 7 rfl) ?_
  refine lv_iconst (v := 5) hx hb dL_law_443 (by decide) ?_
  refine lv_iload hx hb dL_law_444 (lv_at hl 1 rfl) ?_
  refine lv_iadd hx hb dL_law_446 ?_
  refine zr_top (y := nI (5 + tb)) (nI_add 5 tb) ?_
  refine lv_iload hx hb dL_law_447 (lv_at hl 3 rfl) ?_
  refine lv_bipush (v := 6) hx hb dL_law_449 (by decide) ?_
  refine lv_ishr hx hb dL_law_451 ?_
  refine lv_sipush (v := 1000) hx hb dL_law_452 (by decide) ?_
  refine zc_S (n := 2) (rest := [.int (nI (5 + tb)), .ref (ar 0)]) C I (k_L_low l g S (zv >>> (6 &&& 31)) 1000 (by decide) (by decide)) zm_267 zm_268 zm_15 zm_269 rfl hl.1 dL_law_455 (by decide +kernel) rfl ⟨Nat.le_of_ble_eq_true rfl, Nat.le_of_ble_eq_true rfl⟩ (Nat.le_of_ble_eq_true rfl) ⟨by show cells + 0 + 0 ≤ 794606; omega, by show slots + 0 + 0 ≤ 6717651; omega⟩ (fun v S' H locs hq I => ?_)
  obtain ⟨⟨pv, hpv, rfl⟩, eS⟩ := hq
  rw [eS] at I
  have hp : zc_part (nI tb) (nI pv) = 0 := by unfold zc_part; rw [if_neg (zi_no htb (by decide)), if_neg (zi_no hpv (by decide))]
  refine zr_iast C I.swap (LG.at G (i := 0) (by decide)) (show vp_in (nI (5 + tb)) _ from LG.inn G (i := 0) (k := 5 + tb) (by decide) (show 5 + tb < 11 by omega)) dL_law_458 (fun H locs I => ?_)
  have G := LG.wr G (i := 0) (k := 5 + tb) (nI pv) (by decide) (show 5 + tb < 11 by omega)
  have I : zh_V g _ s (zh_w g S) (zaw M ar 0 (5 + tb) (nI pv)) H locs := I
  generalize zaw M ar 0 (5 + tb) (nI pv) = M458 at I G
  have I := I.swap
  refine lv_aload_n hx hb dL_law_459 rfl (lv_at hl 6 rfl) ?_
  refine lv_iload hx hb dL_law_460 (lv_at hl 1 rfl) ?_
  refine lv_aload_n hx hb dL_law_462 rfl (lv_at hl 7 rfl) ?_
  refine lv_iconst (v := 5) hx hb dL_law_463 (by decide) ?_
  refine lv_iload hx hb dL_law_464 (lv_at hl 1 rfl) ?_
  refine lv_iadd hx hb dL_law_466 ?_
  refine zr_top (y := nI (5 + tb)) (nI_add 5 tb) ?_
  refine zr_iald (v := nI pv) C I.swap (LG.at G (i := 0) (by decide)) (show vp_in (nI (5 + tb)) _ from LG.inn G (i := 0) (k := 5 + tb) (by decide) (show 5 + tb < 11 by omega)) (show zh_A M458 (ar 0) (nI (5 + tb)).toNatClampNeg = _ from LG.rd G (by decide) (show 5 + tb < 11 by omega) (zh_u_s _ _ _ _)) dL_law_467 ?_
  refine zc_VX (n := 2) (rest := []) C I hF9.1.1 rfl rfl (k_X3_setPart l g hst S T x pl lo pt ty pa la ap ad ae hT hF9 (nI tb) (nI pv)) zm_241 zm_242 zm_243 zm_16 zm_244 rfl hl.1 dL_law_468 (by decide +kernel) rfl ⟨Nat.le_of_ble_eq_true rfl, Nat.le_of_ble_eq_true rfl⟩ (Nat.le_of_ble_eq_true rfl) ⟨by show cells + 0 + 0 + 2 ≤ 794606; omega, by show slots + 0 + 0 + 12 ≤ 6717651; omega⟩ (fun E ce q9 S' H locs hq I h1 h2 h3 => (hq.1.elim (fun h => absurd (h.1.symm.trans hp) (by decide)) (fun h => absurd (h.1.symm.trans hp) (by decide)))) (fun v S' H locs hq I => ?_)
  obtain ⟨-, rfl, hF8, -⟩ := hq
  refine zr_top (y := nI (T.2 4 tb)) (by rw [zx_nI (by omega)]) ?_
  refine lv_iload hx hb dL_law_471 (lv_at hl 0 rfl) ?_
  refine lv_icmp_ne (tgt := 480) hx hb dL_law_473 (by decide) (fun h9 => absurd (rfl) h9) (fun _ => ?_)
  refine lv_iconst (v := 1) hx hb dL_law_476 (by decide) ?_
  refine lv_goto (tgt := 481) hx hb dL_law_477 (by decide) ?_
  refine lv_istore (lv' := [(14, .int 1), (16, .int (nI (T.2 4 tb))), (15, .int (nI tb)), (11, .int zv), (10, .int (nI t)), (0, .ref b), (1, .ref x), (2, .ref (ar 0)), (3, .ref (ar 1)), (4, .ref (ar 2)), (5, .ref (ar 3)), (6, .ref (ar 4)), (7, .ref (ar 5)), (8, .ref (ar 6)), (9, .ref (ar 7))]) hx hb dL_law_481 hl (by decide) rfl (fun ls hl => ?_)
  refine lv_goto (tgt := 884) hx hb dL_law_483 (by decide) ?_
  have eT : zs_part T (nI tb) (nI pv) = zt_s T 4 tb pv := by unfold zs_part; rw [if_pos hp, zx_nI (by omega), zx_nI (by omega)]
  have hT8 := zt_ok_part hT (nI tb) (nI pv)
  rw [eT] at hT8 hF8
  refine W.widen (k := cells + 10) (n := slots + 300) (by show cells + 0 + 0 + 2 ≤ cells + 10; omega) (by show slots + 0 + 0 + 12 ≤ slots + 300; omega) ?_
  exact KT _ _ ls ⟨S', M458, (zt_s T 4 tb pv), (zh_u Ct 0 (5 + tb) (nI pv)), hP, hT8, ⟨pl, lo, pt, ty, pa, la, ap, ad, ae, hF8⟩, G, LC_part hC htb, I, lv_sub hl [0, 3, 4, 5, 6, 7, 8, 9, 10, 11, 12, 13, 14] rfl⟩

set_option maxRecDepth 100000 in
set_option maxHeartbeats 4000000 in
theorem k_law_629 (K0 : zLC p l s m c g b L xs)  (hcs : cells + 620 ≤ 794606) (hss : slots + 12610 ≤ 6717651) (KT : ∀ (H : Heap) (locs : List Loc) (ls : Array Slot), zLP g s x ar (fun T => 1 ≤ T.1.1) H locs ls [(14, .int 1), (11, .int zv), (10, .int (nI t)), (0, .ref b), (1, .ref x), (2, .ref (ar 0)), (3, .ref (ar 1)), (4, .ref (ar 2)), (5, .ref (ar 3)), (6, .ref (ar 4)), (7, .ref (ar 5)), (8, .ref (ar 6)), (9, .ref (ar 7))] → W p l e room_1 s m #[Value.ref b] below meth c H locs (cells + 10) (slots + 300) Q (F0 m 884 ls [])) (I0 : zLP g s x ar (fun T => 1 ≤ T.1.1) H locs ls [(14, .int 1), (11, .int zv), (10, .int (nI t)), (0, .ref b), (1, .ref x), (2, .ref (ar 0)), (3, .ref (ar 1)), (4, .ref (ar 2)), (5, .ref (ar 3)), (6, .ref (ar 4)), (7, .ref (ar 5)), (8, .ref (ar 6)), (9, .ref (ar 7))]) : W p l e room_1 s m #[Value.ref b] below meth c H locs cells slots Q (F0 m 629 ls []) := by
  obtain ⟨hst, C, hX, hbg, hL⟩ := id K0
  obtain ⟨S, M, T, Ct, hP, hT, hF, G, hC, I, hl⟩ := I0
  have hx := C.1
  have hb := C.2.1
  obtain ⟨pl, lo, pt, ty, pa, la, ap, ad, ae, hF9⟩ := id hF
  obtain ⟨⟨n1, n2⟩, ⟨q0, q1⟩, ⟨b2, b3, b4⟩, qp, dk, ek⟩ := id hC
  obtain ⟨t1, t2, t3, t4, t5, t6, t7⟩ := id hT
  have hl : lv_has ls 19 [(14, .int 1), (11, .int zv), (10, .int (nI t)), (0, .ref b), (1, .ref x), (2, .ref (ar 0)), (3, .ref (ar 1)), (4, .ref (ar 2)), (5, .ref (ar 3)), (6, .ref (ar 4)), (7, .ref (ar 5)), (8, .ref (ar 6)), (9, .ref (ar 7))] := hl
  refine lv_iload hx hb dL_law_629 (lv_at hl 1 rfl) ?_
  refine lv_iconst (v := 4) hx hb dL_law_631 (by decide) ?_
  refine lv_ishr hx hb dL_law_632 ?_
  refine lv_aload_n hx hb dL_law_633 rfl (lv_at hl 5 rfl) ?_
  refine lv_iconst (v := 0) hx hb dL_law_634 (by decide) ?_
  refine zr_iald (v := nI T.1.1) C I.swap (LG.at G (i := 0) (by decide)) (show vp_in (nI 0) _ from LG.inn G (i := 0) (k := 0) (by decide) (by decide)) (show zh_A M (ar 0) (nI 0).toNatClampNeg = _ from LG.rd G (by decide) (by decide) (q0)) dL_law_635 ?_
  refine zc_S (n := 2) (rest := []) C I (k_L_low l g S (zv >>> (4 &&& 31)) T.1.1 (hP) (by omega)) zm_267 zm_268 zm_15 zm_269 rfl hl.1 dL_law_636 (by decide +kernel) rfl ⟨Nat.le_of_ble_eq_true rfl, Nat.le_of_ble_eq_true rfl⟩ (Nat.le_of_ble_eq_true rfl) ⟨by show cells + 0 ≤ 794606; omega, by show slots + 0 ≤ 6717651; omega⟩ (fun v S' H locs hq I => ?_)
  obtain ⟨⟨pr, hpr, rfl⟩, eS⟩ := hq
  rw [eS] at I
  have hkz : zx (nI pr) = pr := zx_nI (by omega)
  have hzp : ¬ zi T.1.1 (nI pr) := zi_no hpr (by omega)
  have po := (t3 pr).2.2.1
  rcases (show T.2 2 pr = 0 ∨ T.2 2 pr = 1 by omega) with ho | ho
  · refine lv_istore (lv' := [(15, .int (nI pr)), (14, .int 1), (11, .int zv), (10, .int (nI t)), (0, .ref b), (1, .ref x), (2, .ref (ar 0)), (3, .ref (ar 1)), (4, .ref (ar 2)), (5, .ref (ar 3)), (6, .ref (ar 4)), (7, .ref (ar 5)), (8, .ref (ar 6)), (9, .ref (ar 7))]) hx hb dL_law_639 hl (by decide) rfl (fun ls hl => ?_)
    refine lv_aload_n hx hb dL_law_641 rfl (lv_at hl 6 rfl) ?_
    refine lv_iconst (v := 2) hx hb dL_law_642 (by decide) ?_
    refine zr_iald (v := (Ct 0 2)) C I.swap (LG.at G (i := 0) (by decide)) (show vp_in (nI 2) _ from LG.inn G (i := 0) (k := 2) (by decide) (by decide)) (show zh_A M (ar 0) (nI 2).toNatClampNeg = _ from LG.rd G (by decide) (by decide) (rfl)) dL_law_643 ?_
    refine lv_iload hx hb dL_law_644 (lv_at hl 0 rfl) ?_
    refine lv_ishr hx hb dL_law_646 ?_
    refine lv_iconst (v := 1) hx hb dL_law_647 (by decide) ?_
    refine lv_iand hx hb dL_law_648 ?_
    refine zr_top (y := nI (T.2 2 pr)) (zbt_rd b2 (by omega)) ?_
    refine lv_iconst (v := 1) hx hb dL_law_649 (by decide) ?_
    refine lv_icmp_ne (tgt := 658) hx hb dL_law_650 (by decide) (fun _ => ?_) (fun h9 => absurd h9 (fun h8 => absurd ((nI_eq (a := T.2 2 pr) (b := 1) (by omega) (by omega)).mp h8) (by omega)))
    refine lv_aload_n hx hb dL_law_658 rfl (lv_at hl 7 rfl) ?_
    refine lv_iload hx hb dL_law_659 (lv_at hl 0 rfl) ?_
    refine zr_iald (v := nI (T.2 0 pr)) C I.swap (LG.at G (i := 1) (by decide)) (show vp_in (nI pr) _ from LG.inn G (i := 1) (k := pr) (by decide) (show pr < 12 by omega)) (show zh_A M (ar 1) (nI pr).toNatClampNeg = _ from LG.rd G (by decide) (show pr < 12 by omega) ((dk pr hpr).1)) dL_law_661 ?_
    refine lv_istore (lv' := [(16, .int (nI (T.2 0 pr))), (15, .int (nI pr)), (14, .int 1), (11, .int zv), (10, .int (nI t)), (0, .ref b), (1, .ref x), (2, .ref (ar 0)), (3, .ref (ar 1)), (4, .ref (ar 2)), (5, .ref (ar 3)), (6, .ref (ar 4)), (7, .ref (ar 5)), (8, .ref (ar 6)), (9, .ref (ar 7))]) hx hb dL_law_662 hl (by decide) rfl (fun ls hl => ?_)
    refine lv_aload_n hx hb dL_law_664 rfl (lv_at hl 7 rfl) ?_
    refine lv_iconst (v := 2) hx hb dL_law_665 (by decide) ?_
    refine lv_dup2_11 hx hb dL_law_666 rfl rfl ?_
    refine zr_iald (v := (Ct 0 2)) C I.swap (LG.at G (i := 0) (by decide)) (show vp_in (nI 2) _ from LG.inn G (i := 0) (k := 2) (by decide) (by decide)) (show zh_A M (ar 0) (nI 2).toNatClampNeg = _ from LG.rd G (by decide) (by decide) (rfl)) dL_law_667 ?_
    refine lv_iconst (v := 1) hx hb dL_law_668 (by decide) ?_
    refine lv_iload hx hb dL_law_669 (lv_at hl 1 rfl) ?_
    refine lv_ishl hx hb dL_law_671 ?_
    refine lv_ior hx hb dL_law_672 ?_
    refine zr_iast C I.swap (LG.at G (i := 0) (by decide)) (show vp_in (nI 2) _ from LG.inn G (i := 0) (k := 2) (by decide) (by decide)) dL_law_673 (fun H locs I => ?_)
    have G := LG.wr G (i := 0) (k := 2) ((Ct 0 2) ||| (1 <<< ((nI pr) &&& 31))) (by decide) (by decide)
    have I : zh_V g _ s (zh_w g S) (zaw M ar 0 2 ((Ct 0 2) ||| (1 <<< ((nI pr) &&& 31)))) H locs := I
    generalize zaw M ar 0 2 ((Ct 0 2) ||| (1 <<< ((nI pr) &&& 31))) = M673 at I G
    have I := I.swap
    refine lv_aload_n hx hb dL_law_674 rfl (lv_at hl 6 rfl) ?_
    refine lv_iconst (v := 0) hx hb dL_law_675 (by decide) ?_
    refine lv_iload hx hb dL_law_676 (lv_at hl 1 rfl) ?_
    refine lv_iconst (v := 0) hx hb dL_law_678 (by decide) ?_
    refine lv_iconst (v := 0) hx hb dL_law_679 (by decide) ?_
    have hco : zc_open T (nI pr) = 0 := by unfold zc_open; rw [if_neg hzp, hkz, if_neg (by omega)]
    refine zc_SH (n := 5) (rest := []) C I (k_L_calls_open l g hst S T x (nI pr) 0 0 hT hF (by rw [hco]; decide)) zm_271 zm_272 zm_15 zm_273 rfl hl.1 dL_law_680 (by decide +kernel) rfl ⟨Nat.le_of_ble_eq_true rfl, Nat.le_of_ble_eq_true rfl⟩ (Nat.le_of_ble_eq_true rfl) ⟨by show cells + 0 + 10 ≤ 794606; omega, by show slots + 0 + 300 ≤ 6717651; omega⟩ (fun v S' H locs hq I => ?_)
    obtain ⟨rfl, hF⟩ := hq
    refine zr_top (y := nI (T.2 0 pr)) (by rw [zca_0 hco, hkz]) ?_
    refine lv_iload hx hb dL_law_683 (lv_at hl 0 rfl) ?_
    refine lv_icmp_ne (tgt := 692) hx hb dL_law_685 (by decide) (fun h9 => absurd (rfl) h9) (fun _ => ?_)
    refine lv_iconst (v := 1) hx hb dL_law_688 (by decide) ?_
    refine lv_goto (tgt := 693) hx hb dL_law_689 (by decide) ?_
    refine lv_istore (lv' := [(14, .int 1), (16, .int (nI (T.2 0 pr))), (15, .int (nI pr)), (11, .int zv), (10, .int (nI t)), (0, .ref b), (1, .ref x), (2, .ref (ar 0)), (3, .ref (ar 1)), (4, .ref (ar 2)), (5, .ref (ar 3)), (6, .ref (ar 4)), (7, .ref (ar 5)), (8, .ref (ar 6)), (9, .ref (ar 7))]) hx hb dL_law_693 hl (by decide) rfl (fun ls hl => ?_)
    refine lv_goto (tgt := 884) hx hb dL_law_695 (by decide) ?_
    have hT8 := zt_ok_open hT (nI pr)
    have hC8 := LC_open hC (q := pr) (by omega)
    have eT : zs_open T (nI pr) = zt_s T 2 pr 1 := by unfold zs_open; rw [if_pos hco, hkz]
    rw [eT] at hT8 hF
    refine W.widen (k := cells + 10) (n := slots + 300) (by show cells + 0 + 10 ≤ cells + 10; omega) (by show slots + 0 + 300 ≤ slots + 300; omega) ?_
    exact KT _ _ ls ⟨S', M673, (zt_s T 2 pr 1), (zh_u Ct 0 2 ((Ct 0 2) ||| (1 <<< ((nI pr) &&& 31)))), hP, hT8, hF, G, hC8, I, lv_sub hl [0, 3, 4, 5, 6, 7, 8, 9, 10, 11, 12, 13, 14] rfl⟩
  · refine lv_istore (lv' := [(15, .int (nI pr)), (14, .int 1), (11, .int zv), (10, .int (nI t)), (0, .ref b), (1, .ref x), (2, .ref (ar 0)), (3, .ref (ar 1)), (4, .ref (ar 2)), (5, .ref (ar 3)), (6, .ref (ar 4)), (7, .ref (ar 5)), (8, .ref (ar 6)), (9, .ref (ar 7))]) hx hb dL_law_639 hl (by decide) rfl (fun ls hl => ?_)
    refine lv_aload_n hx hb dL_law_641 rfl (lv_at hl 6 rfl) ?_
    refine lv_iconst (v := 2) hx hb dL_law_642 (by decide) ?_
    refine zr_iald (v := (Ct 0 2)) C I.swap (LG.at G (i := 0) (by decide)) (show vp_in (nI 2) _ from LG.inn G (i := 0) (k := 2) (by decide) (by decide)) (show zh_A M (ar 0) (nI 2).toNatClampNeg = _ from LG.rd G (by decide) (by decide) (rfl)) dL_law_643 ?_
    refine lv_iload hx hb dL_law_644 (lv_at hl 0 rfl) ?_
    refine lv_ishr hx hb dL_law_646 ?_
    refine lv_iconst (v := 1) hx hb dL_law_647 (by decide) ?_
    refine lv_iand hx hb dL_law_648 ?_
    refine zr_top (y := nI (T.2 2 pr)) (zbt_rd b2 (by omega)) ?_
    refine lv_iconst (v := 1) hx hb dL_law_649 (by decide) ?_
    refine lv_icmp_ne (tgt := 658) hx hb dL_law_650 (by decide) (fun h9 => absurd ((nI_eq (a := T.2 2 pr) (b := 1) (by omega) (by omega)).mpr (ho)) h9) (fun _ => ?_)
    refine lv_bipush (v := (-3)) hx hb dL_law_653 (by decide) ?_
    refine lv_goto (tgt := 662) hx hb dL_law_655 (by decide) ?_
    refine lv_istore (lv' := [(16, .int (-3)), (15, .int (nI pr)), (14, .int 1), (11, .int zv), (10, .int (nI t)), (0, .ref b), (1, .ref x), (2, .ref (ar 0)), (3, .ref (ar 1)), (4, .ref (ar 2)), (5, .ref (ar 3)), (6, .ref (ar 4)), (7, .ref (ar 5)), (8, .ref (ar 6)), (9, .ref (ar 7))]) hx hb dL_law_662 hl (by decide) rfl (fun ls hl => ?_)
    refine lv_aload_n hx hb dL_law_664 rfl (lv_at hl 7 rfl) ?_
    refine lv_iconst (v := 2) hx hb dL_law_665 (by decide) ?_
    refine lv_dup2_11 hx hb dL_law_666 rfl rfl ?_
    refine zr_iald (v := (Ct 0 2)) C I.swap (LG.at G (i := 0) (by decide)) (show vp_in (nI 2) _ from LG.inn G (i := 0) (k := 2) (by decide) (by decide)) (show zh_A M (ar 0) (nI 2).toNatClampNeg = _ from LG.rd G (by decide) (by decide) (rfl)) dL_law_667 ?_
    refine lv_iconst (v := 1) hx hb dL_law_668 (by decide) ?_
    refine lv_iload hx hb dL_law_669 (lv_at hl 1 rfl) ?_
    refine lv_ishl hx hb dL_law_671 ?_
    refine lv_ior hx hb dL_law_672 ?_
    refine zr_iast C I.swap (LG.at G (i := 0) (by decide)) (show vp_in (nI 2) _ from LG.inn G (i := 0) (k := 2) (by decide) (by decide)) dL_law_673 (fun H locs I => ?_)
    have G := LG.wr G (i := 0) (k := 2) ((Ct 0 2) ||| (1 <<< ((nI pr) &&& 31))) (by decide) (by decide)
    have I : zh_V g _ s (zh_w g S) (zaw M ar 0 2 ((Ct 0 2) ||| (1 <<< ((nI pr) &&& 31)))) H locs := I
    generalize zaw M ar 0 2 ((Ct 0 2) ||| (1 <<< ((nI pr) &&& 31))) = M673 at I G
    have I := I.swap
    refine lv_aload_n hx hb dL_law_674 rfl (lv_at hl 6 rfl) ?_
    refine lv_iconst (v := 0) hx hb dL_law_675 (by decide) ?_
    refine lv_iload hx hb dL_law_676 (lv_at hl 1 rfl) ?_
    refine lv_iconst (v := 0) hx hb dL_law_678 (by decide) ?_
    refine lv_iconst (v := 0) hx hb dL_law_679 (by decide) ?_
    have hco : zc_open T (nI pr) = 2 := by unfold zc_open; rw [if_neg hzp, hkz, if_pos (by omega)]
    refine zc_SH (n := 5) (rest := []) C I (k_L_calls_open l g hst S T x (nI pr) 0 0 hT hF (by rw [hco]; decide)) zm_271 zm_272 zm_15 zm_273 rfl hl.1 dL_law_680 (by decide +kernel) rfl ⟨Nat.le_of_ble_eq_true rfl, Nat.le_of_ble_eq_true rfl⟩ (Nat.le_of_ble_eq_true rfl) ⟨by show cells + 0 + 10 ≤ 794606; omega, by show slots + 0 + 300 ≤ 6717651; omega⟩ (fun v S' H locs hq I => ?_)
    obtain ⟨rfl, hF⟩ := hq
    refine zr_top (y := (-3)) (zca_2 hco _ _ _) ?_
    refine lv_iload hx hb dL_law_683 (lv_at hl 0 rfl) ?_
    refine lv_icmp_ne (tgt := 692) hx hb dL_law_685 (by decide) (fun h9 => absurd (rfl) h9) (fun _ => ?_)
    refine lv_iconst (v := 1) hx hb dL_law_688 (by decide) ?_
    refine lv_goto (tgt := 693) hx hb dL_law_689 (by decide) ?_
    refine lv_istore (lv' := [(14, .int 1), (16, .int (-3)), (15, .int (nI pr)), (11, .int zv), (10, .int (nI t)), (0, .ref b), (1, .ref x), (2, .ref (ar 0)), (3, .ref (ar 1)), (4, .ref (ar 2)), (5, .ref (ar 3)), (6, .ref (ar 4)), (7, .ref (ar 5)), (8, .ref (ar 6)), (9, .ref (ar 7))]) hx hb dL_law_693 hl (by decide) rfl (fun ls hl => ?_)
    refine lv_goto (tgt := 884) hx hb dL_law_695 (by decide) ?_
    have hT8 := zt_ok_open hT (nI pr)
    have hC8 := LC_open hC (q := pr) (by omega)
    have eT : zs_open T (nI pr) = T := if_neg (by rw [hco]; decide)
    rw [zt_s_self T 2 pr 1 ho] at hC8
    rw [eT] at hT8 hF
    refine W.widen (k := cells + 10) (n := slots + 300) (by show cells + 0 + 10 ≤ cells + 10; omega) (by show slots + 0 + 300 ≤ slots + 300; omega) ?_
    exact KT _ _ ls ⟨S', M673, T, (zh_u Ct 0 2 ((Ct 0 2) ||| (1 <<< ((nI pr) &&& 31)))), hP, hT8, hF, G, hC8, I, lv_sub hl [0, 3, 4, 5, 6, 7, 8, 9, 10, 11, 12, 13, 14] rfl⟩

set_option maxRecDepth 100000 in
set_option maxHeartbeats 4000000 in
theorem k_law_536 (K0 : zLC p l s m c g b L xs) (k vv : Nat) (hcs : cells + 620 ≤ 794606) (hss : slots + 12610 ≤ 6717651) (KT : ∀ (H : Heap) (locs : List Loc) (ls : Array Slot), zLP g s x ar (fun T => 1 ≤ T.1.1) H locs ls [(14, .int 1), (11, .int zv), (10, .int (nI t)), (0, .ref b), (1, .ref x), (2, .ref (ar 0)), (3, .ref (ar 1)), (4, .ref (ar 2)), (5, .ref (ar 3)), (6, .ref (ar 4)), (7, .ref (ar 5)), (8, .ref (ar 6)), (9, .ref (ar 7))] → W p l e room_1 s m #[Value.ref b] below meth c H locs (cells + 10) (slots + 300) Q (F0 m 884 ls [])) (I0 : zLP g s x ar (fun T => 1 ≤ T.1.1 ∧ k < T.1.2 ∧ 1 ≤ vv ∧ vv ≤ T.2 8 k + 1) H locs ls [(13, .int (nI k)), (14, .int 1), (11, .int zv), (10, .int (nI t)), (0, .ref b), (1, .ref x), (2, .ref (ar 0)), (3, .ref (ar 1)), (4, .ref (ar 2)), (5, .ref (ar 3)), (6, .ref (ar 4)), (7, .ref (ar 5)), (8, .ref (ar 6)), (9, .ref (ar 7))]) : W p l e room_1 s m #[Value.ref b] below meth c H locs cells slots Q (F0 m 536 ls [.int (nI vv)]) := by
  obtain ⟨hst, C, hX, hbg, hL⟩ := id K0
  obtain ⟨S, M, T, Ct, ⟨hP, hk, hv1, hv2⟩, hT, hF, G, hC, I, hl⟩ := I0
  have hx := C.1
  have hb := C.2.1
  obtain ⟨pl, lo, pt, ty, pa, la, ap, ad, ae, hF9⟩ := id hF
  obtain ⟨⟨n1, n2⟩, ⟨q0, q1⟩, ⟨b2, b3, b4⟩, qp, dk, ek⟩ := id hC
  obtain ⟨t1, t2, t3, t4, t5, t6, t7⟩ := id hT
  have hl : lv_has ls 19 [(13, .int (nI k)), (14, .int 1), (11, .int zv), (10, .int (nI t)), (0, .ref b), (1, .ref x), (2, .ref (ar 0)), (3, .ref (ar 1)), (4, .ref (ar 2)), (5, .ref (ar 3)), (6, .ref (ar 4)), (7, .ref (ar 5)), (8, .ref (ar 6)), (9, .ref (ar 7))] := hl
  have hkz : zx (nI k) = k := zx_nI (by omega)
  have hzp : ¬ zi T.1.2 (nI k) := zi_no hk (by omega)
  obtain ⟨v5, v6, v7, v8, v9, v10, v11, v12, v13, v14⟩ := t5 k hk
  obtain ⟨w2, w3, w4, w5, w6, w7⟩ := ek k hk
  have hvz : zx (nI vv) = vv := zx_nI (by omega)
  have hv0 : ¬ nI vv < 1 := fun h => absurd ((nI_ltI (a := vv) (b := 1) (by omega) (by omega)).mp h) (by omega)
  refine lv_istore (lv' := [(15, .int (nI vv)), (13, .int (nI k)), (14, .int 1), (11, .int zv), (10, .int (nI t)), (0, .ref b), (1, .ref x), (2, .ref (ar 0)), (3, .ref (ar 1)), (4, .ref (ar 2)), (5, .ref (ar 3)), (6, .ref (ar 4)), (7, .ref (ar 5)), (8, .ref (ar 6)), (9, .ref (ar 7))]) hx hb dL_law_536 hl (by decide) rfl (fun ls hl => ?_)
  refine lv_iload hx hb dL_law_538 (lv_at hl 0 rfl) ?_
  refine lv_aload hx hb dL_law_540 (lv_at hl 11 rfl) ?_
  refine lv_iload hx hb dL_law_542 (lv_at hl 1 rfl) ?_
  refine zr_iald (v := nI (T.2 8 k)) C I.swap (LG.at G (i := 4) (by decide)) (show vp_in (nI k) _ from LG.inn G (i := 4) (k := k) (by decide) (show k < 30 by omega)) (show zh_A M (ar 4) (nI k).toNatClampNeg = _ from LG.rd G (by decide) (show k < 30 by omega) (w4)) dL_law_544 ?_
  refine lv_icmp_le (tgt := 553) hx hb dL_law_545 (by decide) (fun c545 => ?_) (fun c545 => ?_)
  · have c545 : vv ≤ (T.2 8 k) := (nI_leI (a := vv) (b := T.2 8 k) (by omega) (by omega)).mp c545
    have hvF : ¬ nI (T.2 8 k) < nI vv := fun h => absurd ((nI_ltI (a := T.2 8 k) (b := vv) (by omega) (by omega)).mp h) (by omega)
    rcases (show T.2 12 k = 0 ∨ T.2 12 k = 1 by omega) with hs | hs
    · refine lv_aload_n hx hb dL_law_553 rfl (lv_at hl 7 rfl) ?_
      refine lv_iconst (v := 4) hx hb dL_law_554 (by decide) ?_
      refine zr_iald (v := (Ct 0 4)) C I.swap (LG.at G (i := 0) (by decide)) (show vp_in (nI 4) _ from LG.inn G (i := 0) (k := 4) (by decide) (by decide)) (show zh_A M (ar 0) (nI 4).toNatClampNeg = _ from LG.rd G (by decide) (by decide) (rfl)) dL_law_555 ?_
      refine lv_iload hx hb dL_law_556 (lv_at hl 1 rfl) ?_
      refine lv_ishr hx hb dL_law_558 ?_
      refine lv_iconst (v := 1) hx hb dL_law_559 (by decide) ?_
      refine lv_iand hx hb dL_law_560 ?_
      refine zr_top (y := nI (T.2 12 k)) (zbt_rd b4 (by omega)) ?_
      refine lv_iconst (v := 1) hx hb dL_law_561 (by decide) ?_
      refine lv_icmp_ne (tgt := 570) hx hb dL_law_562 (by decide) (fun _ => ?_) (fun h9 => absurd h9 (fun h8 => absurd ((nI_eq (a := T.2 12 k) (b := 1) (by omega) (by omega)).mp h8) (by omega)))
      refine lv_aload hx hb dL_law_570 (lv_at hl 12 rfl) ?_
      refine lv_iload hx hb dL_law_572 (lv_at hl 1 rfl) ?_
      refine zr_iald (v := nI (T.2 9 k)) C I.swap (LG.at G (i := 5) (by decide)) (show vp_in (nI k) _ from LG.inn G (i := 5) (k := k) (by decide) (show k < 30 by omega)) (show zh_A M (ar 5) (nI k).toNatClampNeg = _ from LG.rd G (by decide) (show k < 30 by omega) (w5)) dL_law_574 ?_
      refine lv_istore (lv' := [(16, .int (nI (T.2 9 k))), (15, .int (nI vv)), (13, .int (nI k)), (14, .int 1), (11, .int zv), (10, .int (nI t)), (0, .ref b), (1, .ref x), (2, .ref (ar 0)), (3, .ref (ar 1)), (4, .ref (ar 2)), (5, .ref (ar 3)), (6, .ref (ar 4)), (7, .ref (ar 5)), (8, .ref (ar 6)), (9, .ref (ar 7))]) hx hb dL_law_575 hl (by decide) rfl (fun ls hl => ?_)
      refine lv_aload hx hb dL_law_577 (lv_at hl 13 rfl) ?_
      refine lv_iload hx hb dL_law_579 (lv_at hl 2 rfl) ?_
      refine lv_iload hx hb dL_law_581 (lv_at hl 0 rfl) ?_
      refine lv_if_le (tgt := 591) hx hb dL_law_583 (by decide) (fun h9 => absurd h9 (fun h8 => absurd ((nI_leI (a := T.2 9 k) (b := 0) (by omega) (by omega)).mp h8) (by omega))) (fun _ => ?_)
      refine lv_iload hx hb dL_law_586 (lv_at hl 1 rfl) ?_
      refine lv_goto (tgt := 596) hx hb dL_law_588 (by decide) ?_
      refine zr_iast C I.swap (LG.at G (i := 5) (by decide)) (show vp_in (nI k) _ from LG.inn G (i := 5) (k := k) (by decide) (show k < 30 by omega)) dL_law_596 (fun H locs I => ?_)
      have G := LG.wr G (i := 5) (k := k) (nI vv) (by decide) (show k < 30 by omega)
      have I : zh_V g _ s (zh_w g S) (zaw M ar 5 k (nI vv)) H locs := I
      generalize zaw M ar 5 k (nI vv) = M596 at I G
      have I := I.swap
      refine lv_aload_n hx hb dL_law_597 rfl (lv_at hl 7 rfl) ?_
      refine lv_iconst (v := 2) hx hb dL_law_598 (by decide) ?_
      refine lv_iload hx hb dL_law_599 (lv_at hl 2 rfl) ?_
      refine lv_iload hx hb dL_law_601 (lv_at hl 1 rfl) ?_
      refine lv_iconst (v := 0) hx hb dL_law_603 (by decide) ?_
      have hca : zc_alter T (nI k) (nI vv) = 0 := by unfold zc_alter; rw [if_neg hzp, hkz, if_neg (fun h => h.elim hv0 hvF), if_neg (by omega)]
      refine zc_SH (n := 5) (rest := []) C I (k_L_calls_alter l g hst S T x (nI k) (nI vv) 0 hT hF (by rw [hca]; decide)) zm_271 zm_272 zm_15 zm_273 rfl hl.1 dL_law_604 (by decide +kernel) rfl ⟨Nat.le_of_ble_eq_true rfl, Nat.le_of_ble_eq_true rfl⟩ (Nat.le_of_ble_eq_true rfl) ⟨by show cells + 10 ≤ 794606; omega, by show slots + 300 ≤ 6717651; omega⟩ (fun v S' H locs hq I => ?_)
      obtain ⟨rfl, hF⟩ := hq
      refine zr_top (y := nI (T.2 9 k)) (by rw [zca_0 hca, hkz]) ?_
      refine lv_iload hx hb dL_law_607 (lv_at hl 0 rfl) ?_
      refine lv_icmp_ne (tgt := 616) hx hb dL_law_609 (by decide) (fun h9 => absurd (rfl) h9) (fun _ => ?_)
      refine lv_iconst (v := 1) hx hb dL_law_612 (by decide) ?_
      refine lv_goto (tgt := 617) hx hb dL_law_613 (by decide) ?_
      refine lv_istore (lv' := [(14, .int 1), (16, .int (nI (T.2 9 k))), (15, .int (nI vv)), (13, .int (nI k)), (11, .int zv), (10, .int (nI t)), (0, .ref b), (1, .ref x), (2, .ref (ar 0)), (3, .ref (ar 1)), (4, .ref (ar 2)), (5, .ref (ar 3)), (6, .ref (ar 4)), (7, .ref (ar 5)), (8, .ref (ar 6)), (9, .ref (ar 7))]) hx hb dL_law_617 hl (by decide) rfl (fun ls hl => ?_)
      refine lv_goto (tgt := 884) hx hb dL_law_619 (by decide) ?_
      have hT8 := zt_ok_alter hT (nI k) (nI vv)
      have eT : zs_alter T (nI k) (nI vv) = zt_s T 9 k vv := by unfold zs_alter; rw [if_pos hca, hkz, hvz]
      have hC8 := LC_alter hC (k0 := k) vv
      rw [eT] at hT8 hF
      refine W.widen (k := cells + 10) (n := slots + 300) (by show cells + 10 ≤ cells + 10; omega) (by show slots + 300 ≤ slots + 300; omega) ?_
      exact KT _ _ ls ⟨S', M596, (zt_s T 9 k vv), (zh_u Ct 5 k (nI vv)), hP, hT8, hF, G, hC8, I, lv_sub hl [0, 4, 5, 6, 7, 8, 9, 10, 11, 12, 13, 14, 15] rfl⟩
    · refine lv_aload_n hx hb dL_law_553 rfl (lv_at hl 7 rfl) ?_
      refine lv_iconst (v := 4) hx hb dL_law_554 (by decide) ?_
      refine zr_iald (v := (Ct 0 4)) C I.swap (LG.at G (i := 0) (by decide)) (show vp_in (nI 4) _ from LG.inn G (i := 0) (k := 4) (by decide) (by decide)) (show zh_A M (ar 0) (nI 4).toNatClampNeg = _ from LG.rd G (by decide) (by decide) (rfl)) dL_law_555 ?_
      refine lv_iload hx hb dL_law_556 (lv_at hl 1 rfl) ?_
      refine lv_ishr hx hb dL_law_558 ?_
      refine lv_iconst (v := 1) hx hb dL_law_559 (by decide) ?_
      refine lv_iand hx hb dL_law_560 ?_
      refine zr_top (y := nI (T.2 12 k)) (zbt_rd b4 (by omega)) ?_
      refine lv_iconst (v := 1) hx hb dL_law_561 (by decide) ?_
      refine lv_icmp_ne (tgt := 570) hx hb dL_law_562 (by decide) (fun h9 => absurd ((nI_eq (a := T.2 12 k) (b := 1) (by omega) (by omega)).mpr (hs)) h9) (fun _ => ?_)
      refine lv_bipush (v := (-3)) hx hb dL_law_565 (by decide) ?_
      refine lv_goto (tgt := 575) hx hb dL_law_567 (by decide) ?_
      refine lv_istore (lv' := [(16, .int (-3)), (15, .int (nI vv)), (13, .int (nI k)), (14, .int 1), (11, .int zv), (10, .int (nI t)), (0, .ref b), (1, .ref x), (2, .ref (ar 0)), (3, .ref (ar 1)), (4, .ref (ar 2)), (5, .ref (ar 3)), (6, .ref (ar 4)), (7, .ref (ar 5)), (8, .ref (ar 6)), (9, .ref (ar 7))]) hx hb dL_law_575 hl (by decide) rfl (fun ls hl => ?_)
      refine lv_aload hx hb dL_law_577 (lv_at hl 13 rfl) ?_
      refine lv_iload hx hb dL_law_579 (lv_at hl 2 rfl) ?_
      refine lv_iload hx hb dL_law_581 (lv_at hl 0 rfl) ?_
      refine lv_if_le (tgt := 591) hx hb dL_law_583 (by decide) (fun _ => ?_) (fun h9 => absurd (by decide) h9)
      refine lv_aload hx hb dL_law_591 (lv_at hl 13 rfl) ?_
      refine lv_iload hx hb dL_law_593 (lv_at hl 2 rfl) ?_
      refine zr_iald (v := nI (T.2 9 k)) C I.swap (LG.at G (i := 5) (by decide)) (show vp_in (nI k) _ from LG.inn G (i := 5) (k := k) (by decide) (show k < 30 by omega)) (show zh_A M (ar 5) (nI k).toNatClampNeg = _ from LG.rd G (by decide) (show k < 30 by omega) (w5)) dL_law_595 ?_
      refine zr_iast C I.swap (LG.at G (i := 5) (by decide)) (show vp_in (nI k) _ from LG.inn G (i := 5) (k := k) (by decide) (show k < 30 by omega)) dL_law_596 (fun H locs I => ?_)
      have G := LG.wr G (i := 5) (k := k) (nI (T.2 9 k)) (by decide) (show k < 30 by omega)
      have I : zh_V g _ s (zh_w g S) (zaw M ar 5 k (nI (T.2 9 k))) H locs := I
      generalize zaw M ar 5 k (nI (T.2 9 k)) = M596 at I G
      have I := I.swap
      refine lv_aload_n hx hb dL_law_597 rfl (lv_at hl 7 rfl) ?_
      refine lv_iconst (v := 2) hx hb dL_law_598 (by decide) ?_
      refine lv_iload hx hb dL_law_599 (lv_at hl 2 rfl) ?_
      refine lv_iload hx hb dL_law_601 (lv_at hl 1 rfl) ?_
      refine lv_iconst (v := 0) hx hb dL_law_603 (by decide) ?_
      have hca : zc_alter T (nI k) (nI vv) = 3 := by unfold zc_alter; rw [if_neg hzp, hkz, if_neg (fun h => h.elim hv0 hvF), if_pos (by omega)]
      refine zc_SH (n := 5) (rest := []) C I (k_L_calls_alter l g hst S T x (nI k) (nI vv) 0 hT hF (by rw [hca]; decide)) zm_271 zm_272 zm_15 zm_273 rfl hl.1 dL_law_604 (by decide +kernel) rfl ⟨Nat.le_of_ble_eq_true rfl, Nat.le_of_ble_eq_true rfl⟩ (Nat.le_of_ble_eq_true rfl) ⟨by show cells + 10 ≤ 794606; omega, by show slots + 300 ≤ 6717651; omega⟩ (fun v S' H locs hq I => ?_)
      obtain ⟨rfl, hF⟩ := hq
      refine zr_top (y := (-3)) (zca_3 hca _ _ _) ?_
      refine lv_iload hx hb dL_law_607 (lv_at hl 0 rfl) ?_
      refine lv_icmp_ne (tgt := 616) hx hb dL_law_609 (by decide) (fun h9 => absurd (rfl) h9) (fun _ => ?_)
      refine lv_iconst (v := 1) hx hb dL_law_612 (by decide) ?_
      refine lv_goto (tgt := 617) hx hb dL_law_613 (by decide) ?_
      refine lv_istore (lv' := [(14, .int 1), (16, .int (-3)), (15, .int (nI vv)), (13, .int (nI k)), (11, .int zv), (10, .int (nI t)), (0, .ref b), (1, .ref x), (2, .ref (ar 0)), (3, .ref (ar 1)), (4, .ref (ar 2)), (5, .ref (ar 3)), (6, .ref (ar 4)), (7, .ref (ar 5)), (8, .ref (ar 6)), (9, .ref (ar 7))]) hx hb dL_law_617 hl (by decide) rfl (fun ls hl => ?_)
      refine lv_goto (tgt := 884) hx hb dL_law_619 (by decide) ?_
      have hT8 := zt_ok_alter hT (nI k) (nI vv)
      have eT : zs_alter T (nI k) (nI vv) = T := if_neg (by rw [hca]; decide)
      have hC8 := LC_alter hC (k0 := k) (T.2 9 k)
      rw [zt_s_self T 9 k _ rfl] at hC8
      rw [eT] at hT8 hF
      refine W.widen (k := cells + 10) (n := slots + 300) (by show cells + 10 ≤ cells + 10; omega) (by show slots + 300 ≤ slots + 300; omega) ?_
      exact KT _ _ ls ⟨S', M596, T, (zh_u Ct 5 k (nI (T.2 9 k))), hP, hT8, hF, G, hC8, I, lv_sub hl [0, 4, 5, 6, 7, 8, 9, 10, 11, 12, 13, 14, 15] rfl⟩
  · have c545 : ¬ vv ≤ (T.2 8 k) := fun h9 => c545 ((nI_leI (a := vv) (b := T.2 8 k) (by omega) (by omega)).mpr h9)
    have hvF : nI (T.2 8 k) < nI vv := (nI_ltI (a := T.2 8 k) (b := vv) (by omega) (by omega)).mpr (by omega)
    refine lv_bipush (v := (-2)) hx hb dL_law_548 (by decide) ?_
    refine lv_goto (tgt := 575) hx hb dL_law_550 (by decide) ?_
    refine lv_istore (lv' := [(16, .int (-2)), (15, .int (nI vv)), (13, .int (nI k)), (14, .int 1), (11, .int zv), (10, .int (nI t)), (0, .ref b), (1, .ref x), (2, .ref (ar 0)), (3, .ref (ar 1)), (4, .ref (ar 2)), (5, .ref (ar 3)), (6, .ref (ar 4)), (7, .ref (ar 5)), (8, .ref (ar 6)), (9, .ref (ar 7))]) hx hb dL_law_575 hl (by decide) rfl (fun ls hl => ?_)
    refine lv_aload hx hb dL_law_577 (lv_at hl 13 rfl) ?_
    refine lv_iload hx hb dL_law_579 (lv_at hl 2 rfl) ?_
    refine lv_iload hx hb dL_law_581 (lv_at hl 0 rfl) ?_
    refine lv_if_le (tgt := 591) hx hb dL_law_583 (by decide) (fun _ => ?_) (fun h9 => absurd (by decide) h9)
    refine lv_aload hx hb dL_law_591 (lv_at hl 13 rfl) ?_
    refine lv_iload hx hb dL_law_593 (lv_at hl 2 rfl) ?_
    refine zr_iald (v := nI (T.2 9 k)) C I.swap (LG.at G (i := 5) (by decide)) (show vp_in (nI k) _ from LG.inn G (i := 5) (k := k) (by decide) (show k < 30 by omega)) (show zh_A M (ar 5) (nI k).toNatClampNeg = _ from LG.rd G (by decide) (show k < 30 by omega) (w5)) dL_law_595 ?_
    refine zr_iast C I.swap (LG.at G (i := 5) (by decide)) (show vp_in (nI k) _ from LG.inn G (i := 5) (k := k) (by decide) (show k < 30 by omega)) dL_law_596 (fun H locs I => ?_)
    have G := LG.wr G (i := 5) (k := k) (nI (T.2 9 k)) (by decide) (show k < 30 by omega)
    have I : zh_V g _ s (zh_w g S) (zaw M ar 5 k (nI (T.2 9 k))) H locs := I
    generalize zaw M ar 5 k (nI (T.2 9 k)) = M596 at I G
    have I := I.swap
    refine lv_aload_n hx hb dL_law_597 rfl (lv_at hl 7 rfl) ?_
    refine lv_iconst (v := 2) hx hb dL_law_598 (by decide) ?_
    refine lv_iload hx hb dL_law_599 (lv_at hl 2 rfl) ?_
    refine lv_iload hx hb dL_law_601 (lv_at hl 1 rfl) ?_
    refine lv_iconst (v := 0) hx hb dL_law_603 (by decide) ?_
    have hca : zc_alter T (nI k) (nI vv) = 2 := by unfold zc_alter; rw [if_neg hzp, hkz, if_pos (Or.inr hvF)]
    refine zc_SH (n := 5) (rest := []) C I (k_L_calls_alter l g hst S T x (nI k) (nI vv) 0 hT hF (by rw [hca]; decide)) zm_271 zm_272 zm_15 zm_273 rfl hl.1 dL_law_604 (by decide +kernel) rfl ⟨Nat.le_of_ble_eq_true rfl, Nat.le_of_ble_eq_true rfl⟩ (Nat.le_of_ble_eq_true rfl) ⟨by show cells + 10 ≤ 794606; omega, by show slots + 300 ≤ 6717651; omega⟩ (fun v S' H locs hq I => ?_)
    obtain ⟨rfl, hF⟩ := hq
    refine zr_top (y := (-2)) (zca_2 hca _ _ _) ?_
    refine lv_iload hx hb dL_law_607 (lv_at hl 0 rfl) ?_
    refine lv_icmp_ne (tgt := 616) hx hb dL_law_609 (by decide) (fun h9 => absurd (rfl) h9) (fun _ => ?_)
    refine lv_iconst (v := 1) hx hb dL_law_612 (by decide) ?_
    refine lv_goto (tgt := 617) hx hb dL_law_613 (by decide) ?_
    refine lv_istore (lv' := [(14, .int 1), (16, .int (-2)), (15, .int (nI vv)), (13, .int (nI k)), (11, .int zv), (10, .int (nI t)), (0, .ref b), (1, .ref x), (2, .ref (ar 0)), (3, .ref (ar 1)), (4, .ref (ar 2)), (5, .ref (ar 3)), (6, .ref (ar 4)), (7, .ref (ar 5)), (8, .ref (ar 6)), (9, .ref (ar 7))]) hx hb dL_law_617 hl (by decide) rfl (fun ls hl => ?_)
    refine lv_goto (tgt := 884) hx hb dL_law_619 (by decide) ?_
    have hT8 := zt_ok_alter hT (nI k) (nI vv)
    have eT : zs_alter T (nI k) (nI vv) = T := if_neg (by rw [hca]; decide)
    have hC8 := LC_alter hC (k0 := k) (T.2 9 k)
    rw [zt_s_self T 9 k _ rfl] at hC8
    rw [eT] at hT8 hF
    refine W.widen (k := cells + 10) (n := slots + 300) (by show cells + 10 ≤ cells + 10; omega) (by show slots + 300 ≤ slots + 300; omega) ?_
    exact KT _ _ ls ⟨S', M596, T, (zh_u Ct 5 k (nI (T.2 9 k))), hP, hT8, hF, G, hC8, I, lv_sub hl [0, 4, 5, 6, 7, 8, 9, 10, 11, 12, 13, 14, 15] rfl⟩

set_option maxRecDepth 100000 in
set_option maxHeartbeats 4000000 in
theorem k_law_499 (K0 : zLC p l s m c g b L xs) (k : Nat) (hcs : cells + 620 ≤ 794606) (hss : slots + 12610 ≤ 6717651) (KT : ∀ (H : Heap) (locs : List Loc) (ls : Array Slot), zLP g s x ar (fun T => 1 ≤ T.1.1) H locs ls [(14, .int 1), (11, .int zv), (10, .int (nI t)), (0, .ref b), (1, .ref x), (2, .ref (ar 0)), (3, .ref (ar 1)), (4, .ref (ar 2)), (5, .ref (ar 3)), (6, .ref (ar 4)), (7, .ref (ar 5)), (8, .ref (ar 6)), (9, .ref (ar 7))] → W p l e room_1 s m #[Value.ref b] below meth c H locs (cells + 10) (slots + 300) Q (F0 m 884 ls [])) (I0 : zLP g s x ar (fun T => 1 ≤ T.1.1 ∧ k < T.1.2) H locs ls [(13, .int (nI k)), (14, .int 1), (11, .int zv), (10, .int (nI t)), (0, .ref b), (1, .ref x), (2, .ref (ar 0)), (3, .ref (ar 1)), (4, .ref (ar 2)), (5, .ref (ar 3)), (6, .ref (ar 4)), (7, .ref (ar 5)), (8, .ref (ar 6)), (9, .ref (ar 7))]) : W p l e room_1 s m #[Value.ref b] below meth c H locs cells slots Q (F0 m 499 ls []) := by
  obtain ⟨hst, C, hX, hbg, hL⟩ := id K0
  obtain ⟨S, M, T, Ct, ⟨hP, hk⟩, hT, hF, G, hC, I, hl⟩ := I0
  have hx := C.1
  have hb := C.2.1
  obtain ⟨pl, lo, pt, ty, pa, la, ap, ad, ae, hF9⟩ := id hF
  obtain ⟨⟨n1, n2⟩, ⟨q0, q1⟩, ⟨b2, b3, b4⟩, qp, dk, ek⟩ := id hC
  obtain ⟨t1, t2, t3, t4, t5, t6, t7⟩ := id hT
  have hl : lv_has ls 19 [(13, .int (nI k)), (14, .int 1), (11, .int zv), (10, .int (nI t)), (0, .ref b), (1, .ref x), (2, .ref (ar 0)), (3, .ref (ar 1)), (4, .ref (ar 2)), (5, .ref (ar 3)), (6, .ref (ar 4)), (7, .ref (ar 5)), (8, .ref (ar 6)), (9, .ref (ar 7))] := hl
  obtain ⟨v5, v6, v7, v8, v9, v10, v11, v12, v13, v14⟩ := t5 k hk
  obtain ⟨w2, w3, w4, w5, w6, w7⟩ := ek k hk
  refine lv_iconst (v := 1) hx hb dL_law_499 (by decide) ?_
  refine lv_iload hx hb dL_law_500 (lv_at hl 2 rfl) ?_
  refine lv_bipush (v := 10) hx hb dL_law_502 (by decide) ?_
  refine lv_ishr hx hb dL_law_504 ?_
  refine lv_iload hx hb dL_law_505 (lv_at hl 2 rfl) ?_
  refine lv_bipush (v := 14) hx hb dL_law_507 (by decide) ?_
  refine lv_ishr hx hb dL_law_509 ?_
  refine lv_iconst (v := 5) hx hb dL_law_510 (by decide) ?_
  refine zc_S (n := 2) (rest := [.int (zv >>> (10 &&& 31)), .int 1]) C I (k_L_low l g S (zv >>> (14 &&& 31)) 5 (by decide) (by decide)) zm_267 zm_268 zm_15 zm_269 rfl hl.1 dL_law_511 (by decide +kernel) rfl ⟨Nat.le_of_ble_eq_true rfl, Nat.le_of_ble_eq_true rfl⟩ (Nat.le_of_ble_eq_true rfl) ⟨by show cells + 0 ≤ 794606; omega, by show slots + 0 ≤ 6717651; omega⟩ (fun v S' H locs hq I => ?_)
  obtain ⟨⟨j5, hj5, rfl⟩, eS⟩ := hq
  rw [eS] at I
  refine lv_if_ne (tgt := 527) hx hb dL_law_514 (by decide) (fun c514 => ?_) (fun c514 => ?_)
  · have c514 : ¬ j5 = 0 := fun h9 => c514 ((nI_eq (a := j5) (b := 0) (by omega) (by omega)).mpr h9)
    refine lv_aload hx hb dL_law_527 (lv_at hl 10 rfl) ?_
    refine lv_iload hx hb dL_law_529 (lv_at hl 0 rfl) ?_
    refine zr_iald (v := nI (T.2 8 k)) C I.swap (LG.at G (i := 4) (by decide)) (show vp_in (nI k) _ from LG.inn G (i := 4) (k := k) (by decide) (show k < 30 by omega)) (show zh_A M (ar 4) (nI k).toNatClampNeg = _ from LG.rd G (by decide) (show k < 30 by omega) (w4)) dL_law_531 ?_
    refine zc_S (n := 2) (rest := [.int 1]) C I (k_L_low l g S (zv >>> (10 &&& 31)) (T.2 8 k) (by omega) (by omega)) zm_267 zm_268 zm_15 zm_269 rfl hl.1 dL_law_532 (by decide +kernel) rfl ⟨Nat.le_of_ble_eq_true rfl, Nat.le_of_ble_eq_true rfl⟩ (Nat.le_of_ble_eq_true rfl) ⟨by show cells + 0 + 0 ≤ 794606; omega, by show slots + 0 + 0 ≤ 6717651; omega⟩ (fun v S' H locs hq I => ?_)
    obtain ⟨⟨j, hj, rfl⟩, eS⟩ := hq
    rw [eS] at I
    refine lv_iadd hx hb dL_law_535 ?_
    refine zr_top (y := nI (1 + j)) (nI_add 1 j) ?_
    refine k_law_536 K0 k (1 + j) (by show cells + 0 + 0 + 620 ≤ 794606; omega) (by show slots + 0 + 0 + 12610 ≤ 6717651; omega) (fun H locs ls h => KT H locs ls h) ⟨S, M, T, Ct, ⟨hP, hk, by omega, by omega⟩, hT, hF, G, hC, I, lv_sub hl [0, 1, 2, 3, 4, 5, 6, 7, 8, 9, 10, 11, 12, 13] rfl⟩
  · have c514 : j5 = 0 := (nI_eq (a := j5) (b := 0) (by omega) (by omega)).mp c514
    refine lv_aload hx hb dL_law_517 (lv_at hl 10 rfl) ?_
    refine lv_iload hx hb dL_law_519 (lv_at hl 0 rfl) ?_
    refine zr_iald (v := nI (T.2 8 k)) C I.swap (LG.at G (i := 4) (by decide)) (show vp_in (nI k) _ from LG.inn G (i := 4) (k := k) (by decide) (show k < 30 by omega)) (show zh_A M (ar 4) (nI k).toNatClampNeg = _ from LG.rd G (by decide) (show k < 30 by omega) (w4)) dL_law_521 ?_
    refine lv_iconst (v := 1) hx hb dL_law_522 (by decide) ?_
    refine lv_iadd hx hb dL_law_523 ?_
    refine zr_top (y := nI ((T.2 8 k) + 1)) (nI_add (T.2 8 k) 1) ?_
    refine lv_goto (tgt := 532) hx hb dL_law_524 (by decide) ?_
    refine zc_S (n := 2) (rest := [.int 1]) C I (k_L_low l g S (zv >>> (10 &&& 31)) (T.2 8 k + 1) (by omega) (by omega)) zm_267 zm_268 zm_15 zm_269 rfl hl.1 dL_law_532 (by decide +kernel) rfl ⟨Nat.le_of_ble_eq_true rfl, Nat.le_of_ble_eq_true rfl⟩ (Nat.le_of_ble_eq_true rfl) ⟨by show cells + 0 + 0 ≤ 794606; omega, by show slots + 0 + 0 ≤ 6717651; omega⟩ (fun v S' H locs hq I => ?_)
    obtain ⟨⟨j, hj, rfl⟩, eS⟩ := hq
    rw [eS] at I
    refine lv_iadd hx hb dL_law_535 ?_
    refine zr_top (y := nI (1 + j)) (nI_add 1 j) ?_
    refine k_law_536 K0 k (1 + j) (by show cells + 0 + 0 + 620 ≤ 794606; omega) (by show slots + 0 + 0 + 12610 ≤ 6717651; omega) (fun H locs ls h => KT H locs ls h) ⟨S, M, T, Ct, ⟨hP, hk, by omega, by omega⟩, hT, hF, G, hC, I, lv_sub hl [0, 1, 2, 3, 4, 5, 6, 7, 8, 9, 10, 11, 12, 13] rfl⟩

end ZLAW
