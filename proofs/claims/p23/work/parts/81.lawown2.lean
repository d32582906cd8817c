/-! the law's own methods, 2: over the state -/
set_option maxRecDepth 100000 in
set_option maxHeartbeats 4000000 in
theorem k_L_again (l : Launch) (g : zG) (M : zS) (ar : Nat → Nat) (Ct : Nat → Nat → Int32) (G : LG M ar Ct) (T : zT) (hT : zt_ok T) (hC : LC Ct T) (k : Nat) (hk : k < T.1.2) : zM l yL_again cL_again 9 (some .int) (zrm 1 0 0) g [.int (nI k), .ref (ar 2), .ref (ar 3), .ref (ar 4), .ref (ar 1), .ref (ar 0)] M (fun w S' => w = some (.int (nI (zt_fd T (T.2 5 k) k))) ∧ ∃ C' : Nat → Nat → Int32, LG S' ar C' ∧ zQE Ct C') := by
  refine zM_of (nm := "again") (by decide +kernel) rfl (Nat.le_of_ble_eq_true rfl) ?_
  intro p e s m args below meth c A ls C hr hlk hin I hl
  have C : CallFix p m c cL_again 9 s args zc_W RL := C
  have hx := C.1
  have hb := C.2.1
  have hl : lv_has ls 9 [(0, .int (nI k)), (1, .ref (ar 2)), (2, .ref (ar 3)), (3, .ref (ar 4)), (4, .ref (ar 1)), (5, .ref (ar 0))] := hl
  obtain ⟨⟨n1, n2⟩, ⟨q0, q1⟩, ⟨b2, b3, b4⟩, qp, dk, ek⟩ := id hC
  obtain ⟨t1, t2, t3, t4, t5, t6, t7⟩ := id hT
  obtain ⟨u5, u6, -⟩ := t5 k hk
  have hpr := (dk (T.2 5 k) u5).1
  have loop : ∀ (n0 n : Nat) (v : Int32) (M1 : zS) (C1 : Nat → Nat → Int32) (ls : Array Slot) (H : Heap) (locs : List Loc), n + n0 = k + 1 → (n = k + 1 → v = nI (zt_fd T (T.2 5 k) k)) → LG M1 ar C1 → zQE Ct C1 → zh_V g A s [] M1 H locs → lv_has ls 9 [(8, .int (nI n)), (7, .int v), (6, .int (nI (zt_ag T (T.2 5 k) n))), (0, .int (nI k)), (1, .ref (ar 2)), (2, .ref (ar 3)), (3, .ref (ar 4)), (4, .ref (ar 1)), (5, .ref (ar 0))] → W p l e (zrm 1 0 0) s m args below meth c H locs 0 0 (MQ below (zh_Po g A (fun w S' => w = some (.int (nI (zt_fd T (T.2 5 k) k))) ∧ ∃ C' : Nat → Nat → Int32, LG S' ar C' ∧ zQE Ct C')) args s (zrm 1 0 0).cells (zrm 1 0 0).slots A) (F0 m 16 ls []) := by
    intro n0
    induction n0 with
    | zero =>
      intro n v M1 C1 ls H locs hn hv G hQ I hl
      refine lv_iload hx hb dL_again_16 (lv_at hl 0 rfl) ?_
      refine lv_iload_n hx hb dL_again_18 rfl (lv_at hl 3 rfl) ?_
      refine lv_icmp_gt (tgt := 66) hx hb dL_again_19 (by decide) (fun _ => ?_) (fun h9 => absurd ((nI_ltI (a := k) (b := n) (by omega) (by omega)).mpr (by omega)) h9)
      refine lv_iload hx hb dL_again_66 (lv_at hl 1 rfl) ?_
      exact zr_iret C I hr hlk (⟨by rw [hv (by omega)], C1, G, hQ⟩) (Nat.le_of_ble_eq_true rfl) (Nat.le_of_ble_eq_true rfl) dL_again_68
    | succ n0 ih =>
      intro n v M1 C1 ls H locs hn hv G hQ I hl
      obtain ⟨v5, v6, v7, v8, v9, -⟩ := t5 n (by omega)
      obtain ⟨w2, w3, w4, -⟩ := ek n (by omega)
      have hag := zt_ag_lt (T := T) (fun k => (t3 k).1) (T.2 5 k) n
      refine lv_iload hx hb dL_again_16 (lv_at hl 0 rfl) ?_
      refine lv_iload_n hx hb dL_again_18 rfl (lv_at hl 3 rfl) ?_
      refine lv_icmp_gt (tgt := 66) hx hb dL_again_19 (by decide) (fun h9 => absurd h9 (fun h8 => absurd ((nI_ltI (a := k) (b := n) (by omega) (by omega)).mp h8) (by omega))) (fun _ => ?_)
      refine lv_aload_n hx hb dL_again_22 rfl (lv_at hl 4 rfl) ?_
      refine lv_iload hx hb dL_again_23 (lv_at hl 0 rfl) ?_
      refine zr_iald (v := nI (4 * T.2 5 n + T.2 6 n)) C I (LG.at G (i := 2) (by decide)) (show vp_in (nI n) _ from LG.inn G (i := 2) (k := n) (by decide) (show n < 30 by omega)) (show zh_A M1 (ar 2) (nI n).toNatClampNeg = _ from LG.rd G (by decide) (show n < 30 by omega) ((hQ 2 n (by omega)).trans w2)) dL_again_25 ?_
      refine lv_iconst (v := 4) hx hb dL_again_26 (by decide) ?_
      refine lv_idiv hx hb dL_again_27 (by decide) ?_
      refine zr_top (y := nI (T.2 5 n)) ((pk_div (a := 4 * T.2 5 n + T.2 6 n) (d := 4) (by omega) (by decide) (by decide)).trans (congrArg nI (by omega))) ?_
      refine lv_aload_n hx hb dL_again_28 rfl (lv_at hl 4 rfl) ?_
      refine lv_iload_n hx hb dL_again_29 rfl (lv_at hl 3 rfl) ?_
      refine zr_iald (v := nI (4 * T.2 5 k + T.2 6 k)) C I (LG.at G (i := 2) (by decide)) (show vp_in (nI k) _ from LG.inn G (i := 2) (k := k) (by decide) (show k < 30 by omega)) (show zh_A M1 (ar 2) (nI k).toNatClampNeg = _ from LG.rd G (by decide) (show k < 30 by omega) ((hQ 2 k (by omega)).trans (ek k hk).1)) dL_again_30 ?_
      refine lv_iconst (v := 4) hx hb dL_again_31 (by decide) ?_
      refine lv_idiv hx hb dL_again_32 (by decide) ?_
      refine zr_top (y := nI (T.2 5 k)) ((pk_div (a := 4 * T.2 5 k + T.2 6 k) (d := 4) (by omega) (by decide) (by decide)).trans (congrArg nI (by omega))) ?_
      refine lv_icmp_ne (tgt := 60) hx hb dL_again_33 (by decide) (fun c33 => ?_) (fun c33 => ?_)
      · have c33 : ¬ (T.2 5 n) = (T.2 5 k) := fun h9 => c33 ((nI_eq (a := T.2 5 n) (b := T.2 5 k) (by omega) (by omega)).mpr h9)
        refine lv_iinc (v := nI (n + 1)) (lv' := [(8, .int (nI (n + 1))), (7, .int v), (6, .int (nI (zt_ag T (T.2 5 k) n))), (0, .int (nI k)), (1, .ref (ar 2)), (2, .ref (ar 3)), (3, .ref (ar 4)), (4, .ref (ar 1)), (5, .ref (ar 0))]) hx hb dL_again_60 hl (k := 0) rfl (nI_add n 1) (by decide) rfl (fun ls hl => ?_)
        refine lv_goto (tgt := 16) hx hb dL_again_63 (by decide) ?_
        have ea : zt_ag T (T.2 5 k) (n + 1) = zt_ag T (T.2 5 k) n := if_neg c33
        rw [← ea] at hl
        exact ih (n + 1) v M1 C1 ls H locs (by omega) (fun h => absurd (show T.2 5 n = T.2 5 k by rw [show n = k by omega]) c33) G hQ I (lv_sub hl [0, 1, 2, 3, 4, 5, 6, 7, 8] rfl)
      · have c33 : (T.2 5 n) = (T.2 5 k) := (nI_eq (a := T.2 5 n) (b := T.2 5 k) (by omega) (by omega)).mp c33
        refine lv_iload hx hb dL_again_36 (lv_at hl 2 rfl) ?_
        refine lv_aload_n hx hb dL_again_38 rfl (lv_at hl 5 rfl) ?_
        refine lv_iload hx hb dL_again_39 (lv_at hl 0 rfl) ?_
        refine zr_iald (v := nI (T.2 7 n)) C I (LG.at G (i := 3) (by decide)) (show vp_in (nI n) _ from LG.inn G (i := 3) (k := n) (by decide) (show n < 30 by omega)) (show zh_A M1 (ar 3) (nI n).toNatClampNeg = _ from LG.rd G (by decide) (show n < 30 by omega) ((hQ 3 n (by omega)).trans w3)) dL_again_41 ?_
        refine lv_aload_n hx hb dL_again_42 rfl (lv_at hl 6 rfl) ?_
        refine lv_iload hx hb dL_again_43 (lv_at hl 0 rfl) ?_
        refine zr_iald (v := nI (T.2 8 n)) C I (LG.at G (i := 4) (by decide)) (show vp_in (nI n) _ from LG.inn G (i := 4) (k := n) (by decide) (show n < 30 by omega)) (show zh_A M1 (ar 4) (nI n).toNatClampNeg = _ from LG.rd G (by decide) (show n < 30 by omega) ((hQ 4 n (by omega)).trans w4)) dL_again_45 ?_
        refine lv_aload hx hb dL_again_46 (lv_at hl 8 rfl) ?_
        refine zc_S (n := 4) (rest := []) C I (k_L_rolls l g M1 ar C1 G (zt_ag T (T.2 5 k) n) (T.2 7 n) (T.2 8 n) hag (by omega) (by omega) (by omega)) zm_382 zm_383 zm_15 zm_384 rfl hl.1 dL_again_48 (by decide +kernel) rfl ⟨Nat.le_of_ble_eq_true rfl, Nat.le_of_ble_eq_true rfl⟩ (Nat.le_of_ble_eq_true rfl) ⟨Nat.le_of_ble_eq_true rfl, Nat.le_of_ble_eq_true rfl⟩ (fun v M' H locs hq I => ?_)
        obtain ⟨rfl, C2, G, hQ2, h9, -⟩ := hq
        refine lv_istore (lv' := [(7, .int (nI (zd_val (zt_ag T (T.2 5 k) n) (T.2 7 n) (T.2 8 n)))), (8, .int (nI n)), (6, .int (nI (zt_ag T (T.2 5 k) n))), (0, .int (nI k)), (1, .ref (ar 2)), (2, .ref (ar 3)), (3, .ref (ar 4)), (4, .ref (ar 1)), (5, .ref (ar 0))]) hx hb dL_again_51 hl (by decide) rfl (fun ls hl => ?_)
        refine lv_aload hx hb dL_again_53 (lv_at hl 8 rfl) ?_
        refine lv_bipush (v := 9) hx hb dL_again_55 (by decide) ?_
        refine zr_iald (v := nI (zd_roll (zt_ag T (T.2 5 k) n) (T.2 7 n) (T.2 8 n)).1) C I (LG.at G (i := 0) (by decide)) (show vp_in (nI 9) _ from LG.inn G (i := 0) (k := 9) (by decide) (by decide)) (show zh_A M' (ar 0) (nI 9).toNatClampNeg = _ from LG.rd G (by decide) (by decide) (h9)) dL_again_57 ?_
        refine lv_istore (lv' := [(6, .int (nI (zd_roll (zt_ag T (T.2 5 k) n) (T.2 7 n) (T.2 8 n)).1)), (7, .int (nI (zd_val (zt_ag T (T.2 5 k) n) (T.2 7 n) (T.2 8 n)))), (8, .int (nI n)), (0, .int (nI k)), (1, .ref (ar 2)), (2, .ref (ar 3)), (3, .ref (ar 4)), (4, .ref (ar 1)), (5, .ref (ar 0))]) hx hb dL_again_58 hl (by decide) rfl (fun ls hl => ?_)
        refine lv_iinc (v := nI (n + 1)) (lv' := [(8, .int (nI (n + 1))), (6, .int (nI (zd_roll (zt_ag T (T.2 5 k) n) (T.2 7 n) (T.2 8 n)).1)), (7, .int (nI (zd_val (zt_ag T (T.2 5 k) n) (T.2 7 n) (T.2 8 n)))), (0, .int (nI k)), (1, .ref (ar 2)), (2, .ref (ar 3)), (3, .ref (ar 4)), (4, .ref (ar 1)), (5, .ref (ar 0))]) hx hb dL_again_60 hl (k := 2) rfl (nI_add n 1) (by decide) rfl (fun ls hl => ?_)
        refine lv_goto (tgt := 16) hx hb dL_again_63 (by decide) ?_
        have ea : zt_ag T (T.2 5 k) (n + 1) = (zd_roll (zt_ag T (T.2 5 k) n) (T.2 7 n) (T.2 8 n)).1 := if_pos c33
        rw [← ea] at hl
        exact ih (n + 1) _ M' C2 ls H locs (by omega) (fun h => by rw [show n = k by omega]; rfl) G (zQE_tr hQ hQ2) I (lv_sub hl [0, 2, 1, 3, 4, 5, 6, 7, 8] rfl)
  refine lv_aload hx hb dL_again_0 (lv_at hl 4 rfl) ?_
  refine lv_aload_n hx hb dL_again_2 rfl (lv_at hl 1 rfl) ?_
  refine lv_iload_n hx hb dL_again_3 rfl (lv_at hl 0 rfl) ?_
  refine zr_iald (v := nI (4 * T.2 5 k + T.2 6 k)) C I (LG.at G (i := 2) (by decide)) (show vp_in (nI k) _ from LG.inn G (i := 2) (k := k) (by decide) (show k < 30 by omega)) (show zh_A M (ar 2) (nI k).toNatClampNeg = _ from LG.rd G (by decide) (show k < 30 by omega) ((ek k hk).1)) dL_again_4 ?_
  refine lv_iconst (v := 4) hx hb dL_again_5 (by decide) ?_
  refine lv_idiv hx hb dL_again_6 (by decide) ?_
  refine zr_top (y := nI (T.2 5 k)) ((pk_div (a := 4 * T.2 5 k + T.2 6 k) (d := 4) (by omega) (by decide) (by decide)).trans (congrArg nI (by omega))) ?_
  refine zr_iald (v := nI (T.2 0 (T.2 5 k))) C I (LG.at G (i := 1) (by decide)) (show vp_in (nI (T.2 5 k)) _ from LG.inn G (i := 1) (k := T.2 5 k) (by decide) (show T.2 5 k < 12 by omega)) (show zh_A M (ar 1) (nI (T.2 5 k)).toNatClampNeg = _ from LG.rd G (by decide) (show T.2 5 k < 12 by omega) (hpr)) dL_again_7 ?_
  refine lv_istore (lv' := [(6, .int (nI (T.2 0 (T.2 5 k)))), (0, .int (nI k)), (1, .ref (ar 2)), (2, .ref (ar 3)), (3, .ref (ar 4)), (4, .ref (ar 1)), (5, .ref (ar 0))]) hx hb dL_again_8 hl (by decide) rfl (fun ls hl => ?_)
  refine lv_iconst (v := 0) hx hb dL_again_10 (by decide) ?_
  refine lv_istore (lv' := [(7, .int 0), (6, .int (nI (T.2 0 (T.2 5 k)))), (0, .int (nI k)), (1, .ref (ar 2)), (2, .ref (ar 3)), (3, .ref (ar 4)), (4, .ref (ar 1)), (5, .ref (ar 0))]) hx hb dL_again_11 hl (by decide) rfl (fun ls hl => ?_)
  refine lv_iconst (v := 0) hx hb dL_again_13 (by decide) ?_
  refine lv_istore (lv' := [(8, .int 0), (7, .int 0), (6, .int (nI (T.2 0 (T.2 5 k)))), (0, .int (nI k)), (1, .ref (ar 2)), (2, .ref (ar 3)), (3, .ref (ar 4)), (4, .ref (ar 1)), (5, .ref (ar 0))]) hx hb dL_again_14 hl (by decide) rfl (fun ls hl => ?_)
  exact loop (k + 1) 0 _ M Ct ls _ _ (Nat.zero_add _) (fun h => absurd h (by omega)) G (zQE_rf Ct) I (lv_sub hl [0, 1, 2, 3, 4, 5, 6, 7, 8] rfl)

set_option maxRecDepth 100000 in
set_option maxHeartbeats 4000000 in
theorem k_L_wrong (l : Launch) (g : zG) (M : zS) (ar : Nat → Nat) (Ct : Nat → Nat → Int32) (G : LG M ar Ct) (T : zT) (hT : zt_ok T) (hC : LC Ct T) (q : Nat) (hq9 : q < 16) : zM l yL_wrong cL_wrong 8 (some .int) (zrm 2 0 0) g [.int (nI q), .ref (ar 2), .ref (ar 3), .ref (ar 4), .ref (ar 5), .ref (ar 1), .ref (ar 0)] M (fun w S' => w = some (.int (zv_wrong T q)) ∧ ∃ C' : Nat → Nat → Int32, LG S' ar C' ∧ zQE Ct C') := by
  refine zM_of (nm := "wrong") (by decide +kernel) rfl (Nat.le_of_ble_eq_true rfl) ?_
  intro p e s m args below meth c A ls C hr hlk hin I hl
  have C : CallFix p m c cL_wrong 8 s args zc_W RL := C
  have hx := C.1
  have hb := C.2.1
  have hl : lv_has ls 8 [(0, .int (nI q)), (1, .ref (ar 2)), (2, .ref (ar 3)), (3, .ref (ar 4)), (4, .ref (ar 5)), (5, .ref (ar 1)), (6, .ref (ar 0))] := hl
  obtain ⟨⟨n1, n2⟩, ⟨q0, q1⟩, ⟨b2, b3, b4⟩, qp, dk, ek⟩ := id hC
  obtain ⟨t1, t2, t3, t4, t5, t6, t7⟩ := id hT
  have loop : ∀ (n k : Nat) (M1 : zS) (C1 : Nat → Nat → Int32) (ls : Array Slot) (H : Heap) (locs : List Loc), k + n = T.1.2 → zv_wrong T q = zt_wrong T q n k → LG M1 ar C1 → zQE Ct C1 → zh_V g A s [] M1 H locs → lv_has ls 8 [(7, .int (nI k)), (0, .int (nI q)), (1, .ref (ar 2)), (2, .ref (ar 3)), (3, .ref (ar 4)), (4, .ref (ar 5)), (5, .ref (ar 1)), (6, .ref (ar 0))] → W p l e (zrm 2 0 0) s m args below meth c H locs 0 0 (MQ below (zh_Po g A (fun w S' => w = some (.int (zv_wrong T q)) ∧ ∃ C' : Nat → Nat → Int32, LG S' ar C' ∧ zQE Ct C')) args s (zrm 2 0 0).cells (zrm 2 0 0).slots A) (F0 m 3 ls []) := by
    intro n
    induction n with
    | zero =>
      intro k M1 C1 ls H locs hn hv G hQ I hl
      refine lv_iload hx hb dL_wrong_3 (lv_at hl 0 rfl) ?_
      refine lv_aload hx hb dL_wrong_5 (lv_at hl 7 rfl) ?_
      refine lv_iconst (v := 1) hx hb dL_wrong_7 (by decide) ?_
      refine zr_iald (v := nI T.1.2) C I (LG.at G (i := 0) (by decide)) (show vp_in (nI 1) _ from LG.inn G (i := 0) (k := 1) (by decide) (by decide)) (show zh_A M1 (ar 0) (nI 1).toNatClampNeg = _ from LG.rd G (by decide) (by decide) ((hQ 0 1 (by omega)).trans q1)) dL_wrong_8 ?_
      refine lv_icmp_ge (tgt := 51) hx hb dL_wrong_9 (by decide) (fun _ => ?_) (fun h9 => absurd ((nI_leI (a := T.1.2) (b := k) (by omega) (by omega)).mpr (by omega)) h9)
      refine lv_iconst (v := (-1)) hx hb dL_wrong_51 (by decide) ?_
      exact zr_iret C I hr hlk (⟨by rw [hv]; rfl, C1, G, hQ⟩) (Nat.le_of_ble_eq_true rfl) (Nat.le_of_ble_eq_true rfl) dL_wrong_52
    | succ n ih =>
      intro k M1 C1 ls H locs hn hv G hQ I hl
      obtain ⟨v5, v6, v7, v8, v9, -, v10, -⟩ := t5 k (by omega)
      obtain ⟨w2, w3, w4, w5, -⟩ := ek k (by omega)
      have hw : zt_wrong T q (n + 1) k = if T.2 5 k = q ∧ T.2 9 k ≠ zt_fd T q k then nI k else zt_wrong T q n (k + 1) := rfl
      rw [hw] at hv
      refine lv_iload hx hb dL_wrong_3 (lv_at hl 0 rfl) ?_
      refine lv_aload hx hb dL_wrong_5 (lv_at hl 7 rfl) ?_
      refine lv_iconst (v := 1) hx hb dL_wrong_7 (by decide) ?_
      refine zr_iald (v := nI T.1.2) C I (LG.at G (i := 0) (by decide)) (show vp_in (nI 1) _ from LG.inn G (i := 0) (k := 1) (by decide) (by decide)) (show zh_A M1 (ar 0) (nI 1).toNatClampNeg = _ from LG.rd G (by decide) (by decide) ((hQ 0 1 (by omega)).trans q1)) dL_wrong_8 ?_
      refine lv_icmp_ge (tgt := 51) hx hb dL_wrong_9 (by decide) (fun h9 => absurd h9 (fun h8 => absurd ((nI_leI (a := T.1.2) (b := k) (by omega) (by omega)).mp h8) (by omega))) (fun _ => ?_)
      refine lv_aload_n hx hb dL_wrong_12 rfl (lv_at hl 2 rfl) ?_
      refine lv_iload hx hb dL_wrong_13 (lv_at hl 0 rfl) ?_
      refine zr_iald (v := nI (4 * T.2 5 k + T.2 6 k)) C I (LG.at G (i := 2) (by decide)) (show vp_in (nI k) _ from LG.inn G (i := 2) (k := k) (by decide) (show k < 30 by omega)) (show zh_A M1 (ar 2) (nI k).toNatClampNeg = _ from LG.rd G (by decide) (show k < 30 by omega) ((hQ 2 k (by omega)).trans w2)) dL_wrong_15 ?_
      refine lv_iconst (v := 4) hx hb dL_wrong_16 (by decide) ?_
      refine lv_idiv hx hb dL_wrong_17 (by decide) ?_
      refine zr_top (y := nI (T.2 5 k)) ((pk_div (a := 4 * T.2 5 k + T.2 6 k) (d := 4) (by omega) (by decide) (by decide)).trans (congrArg nI (by omega))) ?_
      refine lv_iload_n hx hb dL_wrong_18 rfl (lv_at hl 1 rfl) ?_
      refine lv_icmp_ne (tgt := 45) hx hb dL_wrong_19 (by decide) (fun c19 => ?_) (fun c19 => ?_)
      · have c19 : ¬ (T.2 5 k) = q := fun h9 => c19 ((nI_eq (a := T.2 5 k) (b := q) (by omega) (by omega)).mpr h9)
        refine lv_iinc (v := nI (k + 1)) (lv' := [(7, .int (nI (k + 1))), (0, .int (nI q)), (1, .ref (ar 2)), (2, .ref (ar 3)), (3, .ref (ar 4)), (4, .ref (ar 5)), (5, .ref (ar 1)), (6, .ref (ar 0))]) hx hb dL_wrong_45 hl (k := 0) rfl (nI_add k 1) (by decide) rfl (fun ls hl => ?_)
        refine lv_goto (tgt := 3) hx hb dL_wrong_48 (by decide) ?_
        exact ih (k + 1) M1 C1 ls _ _ (by omega) (by rw [hv, if_neg (fun h => c19 h.1)]) G hQ I (lv_sub hl [0, 1, 2, 3, 4, 5, 6, 7] rfl)
      · have c19 : (T.2 5 k) = q := (nI_eq (a := T.2 5 k) (b := q) (by omega) (by omega)).mp c19
        have hfl : zt_fd T q k ≤ T.2 8 k := zd_val_le (by omega)
        refine lv_iload hx hb dL_wrong_22 (lv_at hl 0 rfl) ?_
        refine lv_aload_n hx hb dL_wrong_24 rfl (lv_at hl 2 rfl) ?_
        refine lv_aload_n hx hb dL_wrong_25 rfl (lv_at hl 3 rfl) ?_
        refine lv_aload_n hx hb dL_wrong_26 rfl (lv_at hl 4 rfl) ?_
        refine lv_aload hx hb dL_wrong_27 (lv_at hl 6 rfl) ?_
        refine lv_aload hx hb dL_wrong_29 (lv_at hl 7 rfl) ?_
        refine zc_S (n := 6) (rest := []) C I (k_L_again l g M1 ar C1 G T hT (hC.q hQ) k (by omega)) zm_393 zm_394 zm_15 zm_395 rfl hl.1 dL_wrong_31 (by decide +kernel) rfl ⟨Nat.le_of_ble_eq_true rfl, Nat.le_of_ble_eq_true rfl⟩ (Nat.le_of_ble_eq_true rfl) ⟨Nat.le_of_ble_eq_true rfl, Nat.le_of_ble_eq_true rfl⟩ (fun v M' H locs hq I => ?_)
        obtain ⟨rfl, C2, G, hQ2⟩ := hq
        refine zr_top (y := nI (zt_fd T q k)) (by rw [c19]) ?_
        refine lv_aload hx hb dL_wrong_34 (lv_at hl 5 rfl) ?_
        refine lv_iload hx hb dL_wrong_36 (lv_at hl 0 rfl) ?_
        refine zr_iald (v := nI (T.2 9 k)) C I (LG.at G (i := 5) (by decide)) (show vp_in (nI k) _ from LG.inn G (i := 5) (k := k) (by decide) (show k < 30 by omega)) (show zh_A M' (ar 5) (nI k).toNatClampNeg = _ from LG.rd G (by decide) (show k < 30 by omega) (((hQ2 5 k (by omega)).trans (hQ 5 k (by omega))).trans w5)) dL_wrong_38 ?_
        refine lv_icmp_eq (tgt := 45) hx hb dL_wrong_39 (by decide) (fun c39 => ?_) (fun c39 => ?_)
        · have c39 : (zt_fd T q k) = (T.2 9 k) := (nI_eq (a := zt_fd T q k) (b := T.2 9 k) (by omega) (by omega)).mp c39
          refine lv_iinc (v := nI (k + 1)) (lv' := [(7, .int (nI (k + 1))), (0, .int (nI q)), (1, .ref (ar 2)), (2, .ref (ar 3)), (3, .ref (ar 4)), (4, .ref (ar 5)), (5, .ref (ar 1)), (6, .ref (ar 0))]) hx hb dL_wrong_45 hl (k := 0) rfl (nI_add k 1) (by decide) rfl (fun ls hl => ?_)
          refine lv_goto (tgt := 3) hx hb dL_wrong_48 (by decide) ?_
          exact ih (k + 1) M' C2 ls _ _ (by omega) (by rw [hv, if_neg (fun h => h.2 c39.symm)]) G (zQE_tr hQ hQ2) I (lv_sub hl [0, 1, 2, 3, 4, 5, 6, 7] rfl)
        · have c39 : ¬ (zt_fd T q k) = (T.2 9 k) := fun h9 => c39 ((nI_eq (a := zt_fd T q k) (b := T.2 9 k) (by omega) (by omega)).mpr h9)
          refine lv_iload hx hb dL_wrong_42 (lv_at hl 0 rfl) ?_
          exact zr_iret C I hr hlk (⟨by rw [hv, if_pos ⟨c19, fun h => c39 h.symm⟩], C2, G, zQE_tr hQ hQ2⟩) (Nat.le_of_ble_eq_true rfl) (Nat.le_of_ble_eq_true rfl) dL_wrong_44
  refine lv_iconst (v := 0) hx hb dL_wrong_0 (by decide) ?_
  refine lv_istore (lv' := [(7, .int 0), (0, .int (nI q)), (1, .ref (ar 2)), (2, .ref (ar 3)), (3, .ref (ar 4)), (4, .ref (ar 5)), (5, .ref (ar 1)), (6, .ref (ar 0))]) hx hb dL_wrong_1 hl (by decide) rfl (fun ls hl => ?_)
  exact loop T.1.2 0 M Ct ls _ _ (Nat.zero_add _) rfl G (zQE_rf Ct) I (lv_sub hl [0, 1, 2, 3, 4, 5, 6, 7] rfl)

set_option maxRecDepth 100000 in
set_option maxHeartbeats 4000000 in
theorem k_L_count (l : Launch) (g : zG) (M : zS) (ar : Nat → Nat) (Ct : Nat → Nat → Int32) (G : LG M ar Ct) (T : zT) (hT : zt_ok T) (hC : LC Ct T) (f x : Nat) (hf : f ≤ 1000) (hx1 : 1 ≤ x) (hx2 : x ≤ 1000) : zM l yL_count cL_count 7 (some .int) (zrm 0 0 0) g [.int (nI f), .int (nI x), .ref (ar 4), .ref (ar 5), .ref (ar 0)] M (fun w S' => w = some (.int (nI (zt_cnt T f x T.1.2))) ∧ S' = M) := by
  refine zM_of (nm := "count") (by decide +kernel) rfl (Nat.le_of_ble_eq_true rfl) ?_
  intro p e s m args below meth c A ls C hr hlk hin I hl
  have C : CallFix p m c cL_count 7 s args zc_W RL := C
  have hx := C.1
  have hb := C.2.1
  have hl : lv_has ls 7 [(0, .int (nI f)), (1, .int (nI x)), (2, .ref (ar 4)), (3, .ref (ar 5)), (4, .ref (ar 0))] := hl
  obtain ⟨⟨n1, n2⟩, ⟨q0, q1⟩, ⟨b2, b3, b4⟩, qp, dk, ek⟩ := id hC
  obtain ⟨t1, t2, t3, t4, t5, t6, t7⟩ := id hT
  have loop : ∀ (n k : Nat) (ls : Array Slot) (H : Heap) (locs : List Loc), k + n = T.1.2 → zh_V g A s [] M H locs → lv_has ls 7 [(6, .int (nI k)), (5, .int (nI (zt_cnt T f x k))), (0, .int (nI f)), (1, .int (nI x)), (2, .ref (ar 4)), (3, .ref (ar 5)), (4, .ref (ar 0))] → W p l e (zrm 0 0 0) s m args below meth c H locs 0 0 (MQ below (zh_Po g A (fun w S' => w = some (.int (nI (zt_cnt T f x T.1.2))) ∧ S' = M)) args s (zrm 0 0 0).cells (zrm 0 0 0).slots A) (F0 m 6 ls []) := by
    intro n
    induction n with
    | zero =>
      intro k ls H locs hn I hl
      refine lv_iload hx hb dL_count_6 (lv_at hl 0 rfl) ?_
      refine lv_aload hx hb dL_count_8 (lv_at hl 6 rfl) ?_
      refine lv_iconst (v := 1) hx hb dL_count_10 (by decide) ?_
      refine zr_iald (v := nI T.1.2) C I (LG.at G (i := 0) (by decide)) (show vp_in (nI 1) _ from LG.inn G (i := 0) (k := 1) (by decide) (by decide)) (show zh_A M (ar 0) (nI 1).toNatClampNeg = _ from LG.rd G (by decide) (by decide) (q1)) dL_count_11 ?_
      refine lv_icmp_ge (tgt := 59) hx hb dL_count_12 (by decide) (fun _ => ?_) (fun h9 => absurd ((nI_leI (a := T.1.2) (b := k) (by omega) (by omega)).mpr (by omega)) h9)
      refine lv_iload hx hb dL_count_59 (lv_at hl 1 rfl) ?_
      exact zr_iret C I hr hlk (⟨by rw [show T.1.2 = k by omega], rfl⟩) (Nat.le_of_ble_eq_true rfl) (Nat.le_of_ble_eq_true rfl) dL_count_61
    | succ n ih =>
      intro k ls H locs hn I hl
      obtain ⟨v5, v6, v7, v8, v9, v10, v11, v12, v13, v14⟩ := t5 k (by omega)
      obtain ⟨w2, w3, w4, w5, -⟩ := ek k (by omega)
      have hcl := zt_cnt_le T f x k
      have hcs := zt_cnt_s T f x k
      refine lv_iload hx hb dL_count_6 (lv_at hl 0 rfl) ?_
      refine lv_aload hx hb dL_count_8 (lv_at hl 6 rfl) ?_
      refine lv_iconst (v := 1) hx hb dL_count_10 (by decide) ?_
      refine zr_iald (v := nI T.1.2) C I (LG.at G (i := 0) (by decide)) (show vp_in (nI 1) _ from LG.inn G (i := 0) (k := 1) (by decide) (by decide)) (show zh_A M (ar 0) (nI 1).toNatClampNeg = _ from LG.rd G (by decide) (by decide) (q1)) dL_count_11 ?_
      refine lv_icmp_ge (tgt := 59) hx hb dL_count_12 (by decide) (fun h9 => absurd h9 (fun h8 => absurd ((nI_leI (a := T.1.2) (b := k) (by omega) (by omega)).mp h8) (by omega))) (fun _ => ?_)
      refine lv_iload hx hb dL_count_15 (lv_at hl 1 rfl) ?_
      refine lv_aload hx hb dL_count_17 (lv_at hl 6 rfl) ?_
      refine lv_iconst (v := 4) hx hb dL_count_19 (by decide) ?_
      refine zr_iald (v := (Ct 0 4)) C I (LG.at G (i := 0) (by decide)) (show vp_in (nI 4) _ from LG.inn G (i := 0) (k := 4) (by decide) (by decide)) (show zh_A M (ar 0) (nI 4).toNatClampNeg = _ from LG.rd G (by decide) (by decide) (rfl)) dL_count_20 ?_
      refine lv_iload hx hb dL_count_21 (lv_at hl 0 rfl) ?_
      refine lv_ishr hx hb dL_count_23 ?_
      refine lv_iconst (v := 1) hx hb dL_count_24 (by decide) ?_
      refine lv_iand hx hb dL_count_25 ?_
      refine zr_top (y := nI (T.2 12 k)) (zbt_rd b4 (by omega)) ?_
      refine lv_if_ne (tgt := 49) hx hb dL_count_26 (by decide) (fun c26 => ?_) (fun c26 => ?_)
      · have c26 : ¬ (T.2 12 k) = 0 := fun h9 => c26 ((nI_eq (a := T.2 12 k) (b := 0) (by omega) (by omega)).mpr h9)
        refine lv_iconst (v := 0) hx hb dL_count_49 (by decide) ?_
        refine lv_iadd hx hb dL_count_50 ?_
        refine zr_top (y := nI ((zt_cnt T f x k) + 0)) (nI_add (zt_cnt T f x k) 0) ?_
        refine lv_istore (lv' := [(5, .int (nI ((zt_cnt T f x k) + 0))), (6, .int (nI k)), (0, .int (nI f)), (1, .int (nI x)), (2, .ref (ar 4)), (3, .ref (ar 5)), (4, .ref (ar 0))]) hx hb dL_count_51 hl (by decide) rfl (fun ls hl => ?_)
        refine lv_iinc (v := nI (k + 1)) (lv' := [(6, .int (nI (k + 1))), (5, .int (nI ((zt_cnt T f x k) + 0))), (0, .int (nI f)), (1, .int (nI x)), (2, .ref (ar 4)), (3, .ref (ar 5)), (4, .ref (ar 0))]) hx hb dL_count_53 hl (k := 1) rfl (nI_add k 1) (by decide) rfl (fun ls hl => ?_)
        refine lv_goto (tgt := 6) hx hb dL_count_56 (by decide) ?_
        rw [if_neg (fun h => c26 h.1)] at hcs
        skip
        rw [← hcs] at hl
        exact ih (k + 1) ls _ _ (by omega) I (lv_sub hl [0, 1, 2, 3, 4, 5, 6] rfl)
      · have c26 : (T.2 12 k) = 0 := (nI_eq (a := T.2 12 k) (b := 0) (by omega) (by omega)).mp c26
        refine lv_aload_n hx hb dL_count_29 rfl (lv_at hl 4 rfl) ?_
        refine lv_iload hx hb dL_count_30 (lv_at hl 0 rfl) ?_
        refine zr_iald (v := nI (T.2 8 k)) C I (LG.at G (i := 4) (by decide)) (show vp_in (nI k) _ from LG.inn G (i := 4) (k := k) (by decide) (show k < 30 by omega)) (show zh_A M (ar 4) (nI k).toNatClampNeg = _ from LG.rd G (by decide) (show k < 30 by omega) (w4)) dL_count_32 ?_
        refine lv_iload_n hx hb dL_count_33 rfl (lv_at hl 2 rfl) ?_
        refine lv_icmp_ne (tgt := 49) hx hb dL_count_34 (by decide) (fun c34 => ?_) (fun c34 => ?_)
        · have c34 : ¬ (T.2 8 k) = f := fun h9 => c34 ((nI_eq (a := T.2 8 k) (b := f) (by omega) (by omega)).mpr h9)
          refine lv_iconst (v := 0) hx hb dL_count_49 (by decide) ?_
          refine lv_iadd hx hb dL_count_50 ?_
          refine zr_top (y := nI ((zt_cnt T f x k) + 0)) (nI_add (zt_cnt T f x k) 0) ?_
          refine lv_istore (lv' := [(5, .int (nI ((zt_cnt T f x k) + 0))), (6, .int (nI k)), (0, .int (nI f)), (1, .int (nI x)), (2, .ref (ar 4)), (3, .ref (ar 5)), (4, .ref (ar 0))]) hx hb dL_count_51 hl (by decide) rfl (fun ls hl => ?_)
          refine lv_iinc (v := nI (k + 1)) (lv' := [(6, .int (nI (k + 1))), (5, .int (nI ((zt_cnt T f x k) + 0))), (0, .int (nI f)), (1, .int (nI x)), (2, .ref (ar 4)), (3, .ref (ar 5)), (4, .ref (ar 0))]) hx hb dL_count_53 hl (k := 1) rfl (nI_add k 1) (by decide) rfl (fun ls hl => ?_)
          refine lv_goto (tgt := 6) hx hb dL_count_56 (by decide) ?_
          rw [if_neg (fun h => c34 h.2.1)] at hcs
          skip
          rw [← hcs] at hl
          exact ih (k + 1) ls _ _ (by omega) I (lv_sub hl [0, 1, 2, 3, 4, 5, 6] rfl)
        · have c34 : (T.2 8 k) = f := (nI_eq (a := T.2 8 k) (b := f) (by omega) (by omega)).mp c34
          refine lv_aload_n hx hb dL_count_37 rfl (lv_at hl 5 rfl) ?_
          refine lv_iload hx hb dL_count_38 (lv_at hl 0 rfl) ?_
          refine zr_iald (v := nI (T.2 9 k)) C I (LG.at G (i := 5) (by decide)) (show vp_in (nI k) _ from LG.inn G (i := 5) (k := k) (by decide) (show k < 30 by omega)) (show zh_A M (ar 5) (nI k).toNatClampNeg = _ from LG.rd G (by decide) (show k < 30 by omega) (w5)) dL_count_40 ?_
          refine lv_iload_n hx hb dL_count_41 rfl (lv_at hl 3 rfl) ?_
          refine lv_icmp_ne (tgt := 49) hx hb dL_count_42 (by decide) (fun c42 => ?_) (fun c42 => ?_)
          · have c42 : ¬ (T.2 9 k) = x := fun h9 => c42 ((nI_eq (a := T.2 9 k) (b := x) (by omega) (by omega)).mpr h9)
            refine lv_iconst (v := 0) hx hb dL_count_49 (by decide) ?_
            refine lv_iadd hx hb dL_count_50 ?_
            refine zr_top (y := nI ((zt_cnt T f x k) + 0)) (nI_add (zt_cnt T f x k) 0) ?_
            refine lv_istore (lv' := [(5, .int (nI ((zt_cnt T f x k) + 0))), (6, .int (nI k)), (0, .int (nI f)), (1, .int (nI x)), (2, .ref (ar 4)), (3, .ref (ar 5)), (4, .ref (ar 0))]) hx hb dL_count_51 hl (by decide) rfl (fun ls hl => ?_)
            refine lv_iinc (v := nI (k + 1)) (lv' := [(6, .int (nI (k + 1))), (5, .int (nI ((zt_cnt T f x k) + 0))), (0, .int (nI f)), (1, .int (nI x)), (2, .ref (ar 4)), (3, .ref (ar 5)), (4, .ref (ar 0))]) hx hb dL_count_53 hl (k := 1) rfl (nI_add k 1) (by decide) rfl (fun ls hl => ?_)
            refine lv_goto (tgt := 6) hx hb dL_count_56 (by decide) ?_
            rw [if_neg (fun h => h.2.2.elim c42 (fun h => by omega))] at hcs
            skip
            rw [← hcs] at hl
            exact ih (k + 1) ls _ _ (by omega) I (lv_sub hl [0, 1, 2, 3, 4, 5, 6] rfl)
          · have c42 : (T.2 9 k) = x := (nI_eq (a := T.2 9 k) (b := x) (by omega) (by omega)).mp c42
            refine lv_iconst (v := 1) hx hb dL_count_45 (by decide) ?_
            refine lv_goto (tgt := 50) hx hb dL_count_46 (by decide) ?_
            refine lv_iadd hx hb dL_count_50 ?_
            refine zr_top (y := nI ((zt_cnt T f x k) + 1)) (nI_add (zt_cnt T f x k) 1) ?_
            refine lv_istore (lv' := [(5, .int (nI ((zt_cnt T f x k) + 1))), (6, .int (nI k)), (0, .int (nI f)), (1, .int (nI x)), (2, .ref (ar 4)), (3, .ref (ar 5)), (4, .ref (ar 0))]) hx hb dL_count_51 hl (by decide) rfl (fun ls hl => ?_)
            refine lv_iinc (v := nI (k + 1)) (lv' := [(6, .int (nI (k + 1))), (5, .int (nI ((zt_cnt T f x k) + 1))), (0, .int (nI f)), (1, .int (nI x)), (2, .ref (ar 4)), (3, .ref (ar 5)), (4, .ref (ar 0))]) hx hb dL_count_53 hl (k := 1) rfl (nI_add k 1) (by decide) rfl (fun ls hl => ?_)
            refine lv_goto (tgt := 6) hx hb dL_count_56 (by decide) ?_
            rw [if_pos ⟨by omega, c34, Or.inl c42⟩] at hcs
            skip
            rw [← hcs] at hl
            exact ih (k + 1) ls _ _ (by omega) I (lv_sub hl [0, 1, 2, 3, 4, 5, 6] rfl)
  refine lv_iconst (v := 0) hx hb dL_count_0 (by decide) ?_
  refine lv_istore (lv' := [(5, .int 0), (0, .int (nI f)), (1, .int (nI x)), (2, .ref (ar 4)), (3, .ref (ar 5)), (4, .ref (ar 0))]) hx hb dL_count_1 hl (by decide) rfl (fun ls hl => ?_)
  refine lv_iconst (v := 0) hx hb dL_count_3 (by decide) ?_
  refine lv_istore (lv' := [(6, .int 0), (5, .int 0), (0, .int (nI f)), (1, .int (nI x)), (2, .ref (ar 4)), (3, .ref (ar 5)), (4, .ref (ar 0))]) hx hb dL_count_4 hl (by decide) rfl (fun ls hl => ?_)
  exact loop T.1.2 0 ls _ _ (Nat.zero_add _) I (lv_sub hl [0, 1, 2, 3, 4, 5, 6] rfl)

set_option maxRecDepth 100000 in
set_option maxHeartbeats 4000000 in
theorem k_L_uneven (l : Launch) (g : zG) (M : zS) (ar : Nat → Nat) (Ct : Nat → Nat → Int32) (G : LG M ar Ct) (T : zT) (hT : zt_ok T) (hC : LC Ct T) (f : Nat) (hf : f ≤ 1000) : zM l yL_uneven cL_uneven 10 (some .long) (zrm 0 0 0) g [.int (nI f), .ref (ar 4), .ref (ar 5), .ref (ar 0)] M (fun w S' => w = some (.long (zt_unev T f f)) ∧ S' = M) := by
  refine zM_of (nm := "uneven") (by decide +kernel) rfl (Nat.le_of_ble_eq_true rfl) ?_
  intro p e s m args below meth c A ls C hr hlk hin I hl
  have C : CallFix p m c cL_uneven 10 s args zc_W RL := C
  have hx := C.1
  have hb := C.2.1
  have hl : lv_has ls 10 [(0, .int (nI f)), (1, .ref (ar 4)), (2, .ref (ar 5)), (3, .ref (ar 0))] := hl
  obtain ⟨⟨n1, n2⟩, ⟨q0, q1⟩, ⟨b2, b3, b4⟩, qp, dk, ek⟩ := id hC
  obtain ⟨t1, t2, t3, t4, t5, t6, t7⟩ := id hT
  have loop : ∀ (n k : Nat) (ls : Array Slot) (H : Heap) (locs : List Loc), k + n = T.1.2 → zh_V g A s [] M H locs → lv_has ls 10 [(8, .int (nI k)), (6, .long (lN (zt_wt T f (fun x => zt_cnt T f x T.1.2) k))), (4, .long (lN (zt_cnt T f 0 k))), (0, .int (nI f)), (1, .ref (ar 4)), (2, .ref (ar 5)), (3, .ref (ar 0))] → W p l e (zrm 0 0 0) s m args below meth c H locs 0 0 (MQ below (zh_Po g A (fun w S' => w = some (.long (zt_unev T f f)) ∧ S' = M)) args s (zrm 0 0 0).cells (zrm 0 0 0).slots A) (F0 m 9 ls []) := by
    intro n
    induction n with
    | zero =>
      intro k ls H locs hn I hl
      have ek9 : k = T.1.2 := by omega
      subst ek9
      have hl : lv_has ls 10 [(8, .int (nI T.1.2)), (6, .long (lN (zt_sq T f))), (4, .long (lN (zt_cnt T f 0 T.1.2))), (0, .int (nI f)), (1, .ref (ar 4)), (2, .ref (ar 5)), (3, .ref (ar 0))] := hl
      refine lv_iload hx hb dL_uneven_9 (lv_at hl 0 rfl) ?_
      refine lv_aload_n hx hb dL_uneven_11 rfl (lv_at hl 6 rfl) ?_
      refine lv_iconst (v := 1) hx hb dL_uneven_12 (by decide) ?_
      refine zr_iald (v := nI T.1.2) C I (LG.at G (i := 0) (by decide)) (show vp_in (nI 1) _ from LG.inn G (i := 0) (k := 1) (by decide) (by decide)) (show zh_A M (ar 0) (nI 1).toNatClampNeg = _ from LG.rd G (by decide) (by decide) (q1)) dL_uneven_13 ?_
      refine lv_icmp_ge (tgt := 128) hx hb dL_uneven_14 (by decide) (fun _ => ?_) (fun h9 => absurd ((nI_leI (a := T.1.2) (b := T.1.2) (by omega) (by omega)).mpr (by omega)) h9)
      refine lv_iload_n hx hb dL_uneven_128 rfl (lv_at hl 3 rfl) ?_
      refine lv_i2l hx hb dL_uneven_129 rfl ?_
      refine zr_topl (y := lN f) (nI_l (n := f) (by omega)) ?_
      refine lv_iload_n hx hb dL_uneven_130 rfl (lv_at hl 3 rfl) ?_
      refine lv_i2l hx hb dL_uneven_131 rfl ?_
      refine zr_topl (y := lN f) (nI_l (n := f) (by omega)) ?_
      refine lv_lload hx hb dL_uneven_132 (lv_at hl 1 rfl) ?_
      refine lv_lmul hx hb dL_uneven_134 ?_
      refine lv_lload hx hb dL_uneven_135 (lv_at hl 2 rfl) ?_
      refine lv_lload hx hb dL_uneven_137 (lv_at hl 2 rfl) ?_
      refine lv_lmul hx hb dL_uneven_139 ?_
      refine lv_lsub hx hb dL_uneven_140 ?_
      refine lv_lmul hx hb dL_uneven_141 ?_
      refine zr_topl (y := zt_unev T f f) (zt_unev_sq T hT hf) ?_
      exact zr_lret C I hr hlk (⟨rfl, rfl⟩) (Nat.le_of_ble_eq_true rfl) (Nat.le_of_ble_eq_true rfl) dL_uneven_142
    | succ n ih =>
      intro k ls H locs hn I hl
      obtain ⟨v5, v6, v7, v8, v9, v10, v11, v12, v13, v14⟩ := t5 k (by omega)
      obtain ⟨w2, w3, w4, w5, -⟩ := ek k (by omega)
      have hcs := zt_cnt_s T f 0 k
      have hws := zt_wt_s T f (fun x => zt_cnt T f x T.1.2) k
      refine lv_iload hx hb dL_uneven_9 (lv_at hl 0 rfl) ?_
      refine lv_aload_n hx hb dL_uneven_11 rfl (lv_at hl 6 rfl) ?_
      refine lv_iconst (v := 1) hx hb dL_uneven_12 (by decide) ?_
      refine zr_iald (v := nI T.1.2) C I (LG.at G (i := 0) (by decide)) (show vp_in (nI 1) _ from LG.inn G (i := 0) (k := 1) (by decide) (by decide)) (show zh_A M (ar 0) (nI 1).toNatClampNeg = _ from LG.rd G (by decide) (by decide) (q1)) dL_uneven_13 ?_
      refine lv_icmp_ge (tgt := 128) hx hb dL_uneven_14 (by decide) (fun h9 => absurd h9 (fun h8 => absurd ((nI_leI (a := T.1.2) (b := k) (by omega) (by omega)).mp h8) (by omega))) (fun _ => ?_)
      refine lv_iconst (v := 0) hx hb dL_uneven_17 (by decide) ?_
      refine lv_istore (lv' := [(9, .int 0), (8, .int (nI k)), (6, .long (lN (zt_wt T f (fun x => zt_cnt T f x T.1.2) k))), (4, .long (lN (zt_cnt T f 0 k))), (0, .int (nI f)), (1, .ref (ar 4)), (2, .ref (ar 5)), (3, .ref (ar 0))]) hx hb dL_uneven_18 hl (by decide) rfl (fun ls hl => ?_)
      by_cases hs : T.2 12 k = 0
      · by_cases hf8 : T.2 8 k = f
        · have hun : zt_un T f k := ⟨hs, hf8⟩
          have inner : ∀ (m9 j : Nat) (ls : Array Slot) (H : Heap) (locs : List Loc), j + m9 = T.1.2 → zh_V g A s [] M H locs → lv_has ls 10 [(9, .int (nI j)), (6, .long (lN (zt_wt T f (fun x => zt_cnt T f x T.1.2) k + zt_cnt T f (T.2 9 k) j))), (8, .int (nI k)), (4, .long (lN (zt_cnt T f 0 k))), (0, .int (nI f)), (1, .ref (ar 4)), (2, .ref (ar 5)), (3, .ref (ar 0))] → W p l e (zrm 0 0 0) s m args below meth c H locs 0 0 (MQ below (zh_Po g A (fun w S' => w = some (.long (zt_unev T f f)) ∧ S' = M)) args s (zrm 0 0 0).cells (zrm 0 0 0).slots A) (F0 m 20 ls []) := by
            intro m9
            induction m9 with
            | zero =>
              intro j ls H locs hj I hl
              refine lv_iload hx hb dL_uneven_20 (lv_at hl 0 rfl) ?_
              refine lv_aload_n hx hb dL_uneven_22 rfl (lv_at hl 7 rfl) ?_
              refine lv_iconst (v := 1) hx hb dL_uneven_23 (by decide) ?_
              refine zr_iald (v := nI T.1.2) C I (LG.at G (i := 0) (by decide)) (show vp_in (nI 1) _ from LG.inn G (i := 0) (k := 1) (by decide) (by decide)) (show zh_A M (ar 0) (nI 1).toNatClampNeg = _ from LG.rd G (by decide) (by decide) (q1)) dL_uneven_24 ?_
              refine lv_icmp_ge (tgt := 93) hx hb dL_uneven_25 (by decide) (fun _ => ?_) (fun h9 => absurd ((nI_leI (a := T.1.2) (b := j) (by omega) (by omega)).mpr (by omega)) h9)
              have ej : j = T.1.2 := by omega
              rw [ej] at hl
              have hl := lv_sub hl [1, 2, 3, 4, 5, 6, 7] rfl
              have hl : lv_has ls 10 [(6, .long (lN (zt_wt T f (fun x => zt_cnt T f x T.1.2) k + zt_cnt T f (T.2 9 k) T.1.2))), (8, .int (nI k)), (4, .long (lN (zt_cnt T f 0 k))), (0, .int (nI f)), (1, .ref (ar 4)), (2, .ref (ar 5)), (3, .ref (ar 0))] := hl
              refine lv_lload hx hb dL_uneven_93 (lv_at hl 2 rfl) ?_
              refine lv_aload_n hx hb dL_uneven_95 rfl (lv_at hl 6 rfl) ?_
              refine lv_iconst (v := 4) hx hb dL_uneven_96 (by decide) ?_
              refine zr_iald (v := (Ct 0 4)) C I (LG.at G (i := 0) (by decide)) (show vp_in (nI 4) _ from LG.inn G (i := 0) (k := 4) (by decide) (by decide)) (show zh_A M (ar 0) (nI 4).toNatClampNeg = _ from LG.rd G (by decide) (by decide) (rfl)) dL_uneven_97 ?_
              refine lv_iload hx hb dL_uneven_98 (lv_at hl 1 rfl) ?_
              refine lv_ishr hx hb dL_uneven_100 ?_
              refine lv_iconst (v := 1) hx hb dL_uneven_101 (by decide) ?_
              refine lv_iand hx hb dL_uneven_102 ?_
              refine zr_top (y := nI (T.2 12 k)) (zbt_rd b4 (by omega)) ?_
              refine lv_if_ne (tgt := 118) hx hb dL_uneven_103 (by decide) (fun h9 => absurd ((nI_eq (a := T.2 12 k) (b := 0) (by omega) (by omega)).mpr (hs)) h9) (fun _ => ?_)
              refine lv_aload_n hx hb dL_uneven_106 rfl (lv_at hl 4 rfl) ?_
              refine lv_iload hx hb dL_uneven_107 (lv_at hl 1 rfl) ?_
              refine zr_iald (v := nI (T.2 8 k)) C I (LG.at G (i := 4) (by decide)) (show vp_in (nI k) _ from LG.inn G (i := 4) (k := k) (by decide) (show k < 30 by omega)) (show zh_A M (ar 4) (nI k).toNatClampNeg = _ from LG.rd G (by decide) (show k < 30 by omega) (w4)) dL_uneven_109 ?_
              refine lv_iload_n hx hb dL_uneven_110 rfl (lv_at hl 3 rfl) ?_
              refine lv_icmp_ne (tgt := 118) hx hb dL_uneven_111 (by decide) (fun h9 => absurd ((nI_eq (a := T.2 8 k) (b := f) (by omega) (by omega)).mpr (hf8)) h9) (fun _ => ?_)
              refine lv_lconst (v := 1) hx hb dL_uneven_114 (by decide) ?_
              refine lv_goto (tgt := 119) hx hb dL_uneven_115 (by decide) ?_
              refine lv_ladd hx hb dL_uneven_119 ?_
              refine zr_topl (y := lN (zt_cnt T f 0 k + 1)) (lN_add _ 1) ?_
              refine lv_lstore (lv' := [(4, .long (lN (zt_cnt T f 0 k + 1))), (6, .long (lN (zt_wt T f (fun x => zt_cnt T f x T.1.2) k + zt_cnt T f (T.2 9 k) T.1.2))), (8, .int (nI k)), (0, .int (nI f)), (1, .ref (ar 4)), (2, .ref (ar 5)), (3, .ref (ar 0))]) hx hb dL_uneven_120 hl (by decide) rfl (fun ls hl => ?_)
              refine lv_iinc (v := nI (k + 1)) (lv' := [(8, .int (nI (k + 1))), (4, .long (lN (zt_cnt T f 0 k + 1))), (6, .long (lN (zt_wt T f (fun x => zt_cnt T f x T.1.2) k + zt_cnt T f (T.2 9 k) T.1.2))), (0, .int (nI f)), (1, .ref (ar 4)), (2, .ref (ar 5)), (3, .ref (ar 0))]) hx hb dL_uneven_122 hl (k := 2) rfl (nI_add k 1) (by decide) rfl (fun ls hl => ?_)
              refine lv_goto (tgt := 9) hx hb dL_uneven_125 (by decide) ?_
              rw [if_pos ⟨hun.1, hun.2, Or.inr rfl⟩] at hcs
              rw [if_pos hun] at hws
              rw [← hcs, ← hws] at hl
              exact ih (k + 1) ls _ _ (by omega) I (lv_sub hl [0, 2, 1, 3, 4, 5, 6] rfl)
            | succ m9 ih2 =>
              intro j ls H locs hj I hl
              obtain ⟨x5, x6, x7, x8, x9, x10, x11, x12, x13, x14⟩ := t5 j (by omega)
              obtain ⟨y2, y3, y4, y5, -⟩ := ek j (by omega)
              have hcj := zt_cnt_s T f (T.2 9 k) j
              refine lv_iload hx hb dL_uneven_20 (lv_at hl 0 rfl) ?_
              refine lv_aload_n hx hb dL_uneven_22 rfl (lv_at hl 7 rfl) ?_
              refine lv_iconst (v := 1) hx hb dL_uneven_23 (by decide) ?_
              refine zr_iald (v := nI T.1.2) C I (LG.at G (i := 0) (by decide)) (show vp_in (nI 1) _ from LG.inn G (i := 0) (k := 1) (by decide) (by decide)) (show zh_A M (ar 0) (nI 1).toNatClampNeg = _ from LG.rd G (by decide) (by decide) (q1)) dL_uneven_24 ?_
              refine lv_icmp_ge (tgt := 93) hx hb dL_uneven_25 (by decide) (fun h9 => absurd h9 (fun h8 => absurd ((nI_leI (a := T.1.2) (b := j) (by omega) (by omega)).mp h8) (by omega))) (fun _ => ?_)
              refine lv_aload_n hx hb dL_uneven_28 rfl (lv_at hl 7 rfl) ?_
              refine lv_iconst (v := 4) hx hb dL_uneven_29 (by decide) ?_
              refine zr_iald (v := (Ct 0 4)) C I (LG.at G (i := 0) (by decide)) (show vp_in (nI 4) _ from LG.inn G (i := 0) (k := 4) (by decide) (by decide)) (show zh_A M (ar 0) (nI 4).toNatClampNeg = _ from LG.rd G (by decide) (by decide) (rfl)) dL_uneven_30 ?_
              refine lv_iload hx hb dL_uneven_31 (lv_at hl 2 rfl) ?_
              refine lv_ishr hx hb dL_uneven_33 ?_
              refine lv_iconst (v := 1) hx hb dL_uneven_34 (by decide) ?_
              refine lv_iand hx hb dL_uneven_35 ?_
              refine zr_top (y := nI (T.2 12 k)) (zbt_rd b4 (by omega)) ?_
              refine lv_if_ne (tgt := 93) hx hb dL_uneven_36 (by decide) (fun h9 => absurd ((nI_eq (a := T.2 12 k) (b := 0) (by omega) (by omega)).mpr (hs)) h9) (fun _ => ?_)
              refine lv_aload_n hx hb dL_uneven_39 rfl (lv_at hl 5 rfl) ?_
              refine lv_iload hx hb dL_uneven_40 (lv_at hl 2 rfl) ?_
              refine zr_iald (v := nI (T.2 8 k)) C I (LG.at G (i := 4) (by decide)) (show vp_in (nI k) _ from LG.inn G (i := 4) (k := k) (by decide) (show k < 30 by omega)) (show zh_A M (ar 4) (nI k).toNatClampNeg = _ from LG.rd G (by decide) (show k < 30 by omega) (w4)) dL_uneven_42 ?_
              refine lv_iload_n hx hb dL_uneven_43 rfl (lv_at hl 4 rfl) ?_
              refine lv_icmp_ne (tgt := 93) hx hb dL_uneven_44 (by decide) (fun h9 => absurd ((nI_eq (a := T.2 8 k) (b := f) (by omega) (by omega)).mpr (hf8)) h9) (fun _ => ?_)
              refine lv_lload hx hb dL_uneven_47 (lv_at hl 1 rfl) ?_
              refine lv_aload_n hx hb dL_uneven_49 rfl (lv_at hl 7 rfl) ?_
              refine lv_iconst (v := 4) hx hb dL_uneven_50 (by decide) ?_
              refine zr_iald (v := (Ct 0 4)) C I (LG.at G (i := 0) (by decide)) (show vp_in (nI 4) _ from LG.inn G (i := 0) (k := 4) (by decide) (by decide)) (show zh_A M (ar 0) (nI 4).toNatClampNeg = _ from LG.rd G (by decide) (by decide) (rfl)) dL_uneven_51 ?_
              refine lv_iload hx hb dL_uneven_52 (lv_at hl 0 rfl) ?_
              refine lv_ishr hx hb dL_uneven_54 ?_
              refine lv_iconst (v := 1) hx hb dL_uneven_55 (by decide) ?_
              refine lv_iand hx hb dL_uneven_56 ?_
              refine zr_top (y := nI (T.2 12 j)) (zbt_rd b4 (by omega)) ?_
              refine lv_if_ne (tgt := 83) hx hb dL_uneven_57 (by decide) (fun c57 => ?_) (fun c57 => ?_)
              · have c57 : ¬ (T.2 12 j) = 0 := fun h9 => c57 ((nI_eq (a := T.2 12 j) (b := 0) (by omega) (by omega)).mpr h9)
                refine lv_lconst (v := 0) hx hb dL_uneven_83 (by decide) ?_
                refine lv_ladd hx hb dL_uneven_84 ?_
                refine zr_topl (y := lN (zt_wt T f (fun x => zt_cnt T f x T.1.2) k + (zt_cnt T f (T.2 9 k) j + 0))) ((lN_add _ 0).trans (congrArg lN (Nat.add_assoc _ _ _))) ?_
                refine lv_lstore (lv' := [(6, .long (lN (zt_wt T f (fun x => zt_cnt T f x T.1.2) k + (zt_cnt T f (T.2 9 k) j + 0)))), (9, .int (nI j)), (8, .int (nI k)), (4, .long (lN (zt_cnt T f 0 k))), (0, .int (nI f)), (1, .ref (ar 4)), (2, .ref (ar 5)), (3, .ref (ar 0))]) hx hb dL_uneven_85 hl (by decide) rfl (fun ls hl => ?_)
                refine lv_iinc (v := nI (j + 1)) (lv' := [(9, .int (nI (j + 1))), (6, .long (lN (zt_wt T f (fun x => zt_cnt T f x T.1.2) k + (zt_cnt T f (T.2 9 k) j + 0)))), (8, .int (nI k)), (4, .long (lN (zt_cnt T f 0 k))), (0, .int (nI f)), (1, .ref (ar 4)), (2, .ref (ar 5)), (3, .ref (ar 0))]) hx hb dL_uneven_87 hl (k := 1) rfl (nI_add j 1) (by decide) rfl (fun ls hl => ?_)
                refine lv_goto (tgt := 20) hx hb dL_uneven_90 (by decide) ?_
                rw [if_neg (fun h => c57 h.1)] at hcj
                rw [← hcj] at hl
                exact ih2 (j + 1) ls _ _ (by omega) I (lv_sub hl [0, 1, 2, 3, 4, 5, 6, 7] rfl)
              · have c57 : (T.2 12 j) = 0 := (nI_eq (a := T.2 12 j) (b := 0) (by omega) (by omega)).mp c57
                refine lv_aload_n hx hb dL_uneven_60 rfl (lv_at hl 5 rfl) ?_
                refine lv_iload hx hb dL_uneven_61 (lv_at hl 0 rfl) ?_
                refine zr_iald (v := nI (T.2 8 j)) C I (LG.at G (i := 4) (by decide)) (show vp_in (nI j) _ from LG.inn G (i := 4) (k := j) (by decide) (show j < 30 by omega)) (show zh_A M (ar 4) (nI j).toNatClampNeg = _ from LG.rd G (by decide) (show j < 30 by omega) (y4)) dL_uneven_63 ?_
                refine lv_iload_n hx hb dL_uneven_64 rfl (lv_at hl 4 rfl) ?_
                refine lv_icmp_ne (tgt := 83) hx hb dL_uneven_65 (by decide) (fun c65 => ?_) (fun c65 => ?_)
                · have c65 : ¬ (T.2 8 j) = f := fun h9 => c65 ((nI_eq (a := T.2 8 j) (b := f) (by omega) (by omega)).mpr h9)
                  refine lv_lconst (v := 0) hx hb dL_uneven_83 (by decide) ?_
                  refine lv_ladd hx hb dL_uneven_84 ?_
                  refine zr_topl (y := lN (zt_wt T f (fun x => zt_cnt T f x T.1.2) k + (zt_cnt T f (T.2 9 k) j + 0))) ((lN_add _ 0).trans (congrArg lN (Nat.add_assoc _ _ _))) ?_
                  refine lv_lstore (lv' := [(6, .long (lN (zt_wt T f (fun x => zt_cnt T f x T.1.2) k + (zt_cnt T f (T.2 9 k) j + 0)))), (9, .int (nI j)), (8, .int (nI k)), (4, .long (lN (zt_cnt T f 0 k))), (0, .int (nI f)), (1, .ref (ar 4)), (2, .ref (ar 5)), (3, .ref (ar 0))]) hx hb dL_uneven_85 hl (by decide) rfl (fun ls hl => ?_)
                  refine lv_iinc (v := nI (j + 1)) (lv' := [(9, .int (nI (j + 1))), (6, .long (lN (zt_wt T f (fun x => zt_cnt T f x T.1.2) k + (zt_cnt T f (T.2 9 k) j + 0)))), (8, .int (nI k)), (4, .long (lN (zt_cnt T f 0 k))), (0, .int (nI f)), (1, .ref (ar 4)), (2, .ref (ar 5)), (3, .ref (ar 0))]) hx hb dL_uneven_87 hl (k := 1) rfl (nI_add j 1) (by decide) rfl (fun ls hl => ?_)
                  refine lv_goto (tgt := 20) hx hb dL_uneven_90 (by decide) ?_
                  rw [if_neg (fun h => c65 h.2.1)] at hcj
                  rw [← hcj] at hl
                  exact ih2 (j + 1) ls _ _ (by omega) I (lv_sub hl [0, 1, 2, 3, 4, 5, 6, 7] rfl)
                · have c65 : (T.2 8 j) = f := (nI_eq (a := T.2 8 j) (b := f) (by omega) (by omega)).mp c65
                  refine lv_aload_n hx hb dL_uneven_68 rfl (lv_at hl 6 rfl) ?_
                  refine lv_iload hx hb dL_uneven_69 (lv_at hl 0 rfl) ?_
                  refine zr_iald (v := nI (T.2 9 j)) C I (LG.at G (i := 5) (by decide)) (show vp_in (nI j) _ from LG.inn G (i := 5) (k := j) (by decide) (show j < 30 by omega)) (show zh_A M (ar 5) (nI j).toNatClampNeg = _ from LG.rd G (by decide) (show j < 30 by omega) (y5)) dL_uneven_71 ?_
                  refine lv_aload_n hx hb dL_uneven_72 rfl (lv_at hl 6 rfl) ?_
                  refine lv_iload hx hb dL_uneven_73 (lv_at hl 2 rfl) ?_
                  refine zr_iald (v := nI (T.2 9 k)) C I (LG.at G (i := 5) (by decide)) (show vp_in (nI k) _ from LG.inn G (i := 5) (k := k) (by decide) (show k < 30 by omega)) (show zh_A M (ar 5) (nI k).toNatClampNeg = _ from LG.rd G (by decide) (show k < 30 by omega) (w5)) dL_uneven_75 ?_
                  refine lv_icmp_ne (tgt := 83) hx hb dL_uneven_76 (by decide) (fun c76 => ?_) (fun c76 => ?_)
                  · have c76 : ¬ (T.2 9 j) = (T.2 9 k) := fun h9 => c76 ((nI_eq (a := T.2 9 j) (b := T.2 9 k) (by omega) (by omega)).mpr h9)
                    refine lv_lconst (v := 0) hx hb dL_uneven_83 (by decide) ?_
                    refine lv_ladd hx hb dL_uneven_84 ?_
                    refine zr_topl (y := lN (zt_wt T f (fun x => zt_cnt T f x T.1.2) k + (zt_cnt T f (T.2 9 k) j + 0))) ((lN_add _ 0).trans (congrArg lN (Nat.add_assoc _ _ _))) ?_
                    refine lv_lstore (lv' := [(6, .long (lN (zt_wt T f (fun x => zt_cnt T f x T.1.2) k + (zt_cnt T f (T.2 9 k) j + 0)))), (9, .int (nI j)), (8, .int (nI k)), (4, .long (lN (zt_cnt T f 0 k))), (0, .int (nI f)), (1, .ref (ar 4)), (2, .ref (ar 5)), (3, .ref (ar 0))]) hx hb dL_uneven_85 hl (by decide) rfl (fun ls hl => ?_)
                    refine lv_iinc (v := nI (j + 1)) (lv' := [(9, .int (nI (j + 1))), (6, .long (lN (zt_wt T f (fun x => zt_cnt T f x T.1.2) k + (zt_cnt T f (T.2 9 k) j + 0)))), (8, .int (nI k)), (4, .long (lN (zt_cnt T f 0 k))), (0, .int (nI f)), (1, .ref (ar 4)), (2, .ref (ar 5)), (3, .ref (ar 0))]) hx hb dL_uneven_87 hl (k := 1) rfl (nI_add j 1) (by decide) rfl (fun ls hl => ?_)
                    refine lv_goto (tgt := 20) hx hb dL_uneven_90 (by decide) ?_
                    rw [if_neg (fun h => h.2.2.elim c76 (fun h => by omega))] at hcj
                    rw [← hcj] at hl
                    exact ih2 (j + 1) ls _ _ (by omega) I (lv_sub hl [0, 1, 2, 3, 4, 5, 6, 7] rfl)
                  · have c76 : (T.2 9 j) = (T.2 9 k) := (nI_eq (a := T.2 9 j) (b := T.2 9 k) (by omega) (by omega)).mp c76
                    refine lv_lconst (v := 1) hx hb dL_uneven_79 (by decide) ?_
                    refine lv_goto (tgt := 84) hx hb dL_uneven_80 (by decide) ?_
                    refine lv_ladd hx hb dL_uneven_84 ?_
                    refine zr_topl (y := lN (zt_wt T f (fun x => zt_cnt T f x T.1.2) k + (zt_cnt T f (T.2 9 k) j + 1))) ((lN_add _ 1).trans (congrArg lN (Nat.add_assoc _ _ _))) ?_
                    refine lv_lstore (lv' := [(6, .long (lN (zt_wt T f (fun x => zt_cnt T f x T.1.2) k + (zt_cnt T f (T.2 9 k) j + 1)))), (9, .int (nI j)), (8, .int (nI k)), (4, .long (lN (zt_cnt T f 0 k))), (0, .int (nI f)), (1, .ref (ar 4)), (2, .ref (ar 5)), (3, .ref (ar 0))]) hx hb dL_uneven_85 hl (by decide) rfl (fun ls hl => ?_)
                    refine lv_iinc (v := nI (j + 1)) (lv' := [(9, .int (nI (j + 1))), (6, .long (lN (zt_wt T f (fun x => zt_cnt T f x T.1.2) k + (zt_cnt T f (T.2 9 k) j + 1)))), (8, .int (nI k)), (4, .long (lN (zt_cnt T f 0 k))), (0, .int (nI f)), (1, .ref (ar 4)), (2, .ref (ar 5)), (3, .ref (ar 0))]) hx hb dL_uneven_87 hl (k := 1) rfl (nI_add j 1) (by decide) rfl (fun ls hl => ?_)
                    refine lv_goto (tgt := 20) hx hb dL_uneven_90 (by decide) ?_
                    rw [if_pos ⟨by omega, c65, Or.inl c76⟩] at hcj
                    rw [← hcj] at hl
                    exact ih2 (j + 1) ls _ _ (by omega) I (lv_sub hl [0, 1, 2, 3, 4, 5, 6, 7] rfl)
          have hl : lv_has ls 10 [(9, .int 0), (8, .int (nI k)), (6, .long (lN (zt_wt T f (fun x => zt_cnt T f x T.1.2) k + 0))), (4, .long (lN (zt_cnt T f 0 k))), (0, .int (nI f)), (1, .ref (ar 4)), (2, .ref (ar 5)), (3, .ref (ar 0))] := hl
          exact inner T.1.2 0 ls _ _ (Nat.zero_add _) I (lv_sub hl [0, 2, 1, 3, 4, 5, 6, 7] rfl)
        · have hl : lv_has ls 10 [(9, .int 0), (8, .int (nI k)), (6, .long (lN (zt_wt T f (fun x => zt_cnt T f x T.1.2) k + 0))), (4, .long (lN (zt_cnt T f 0 k))), (0, .int (nI f)), (1, .ref (ar 4)), (2, .ref (ar 5)), (3, .ref (ar 0))] := hl
          refine lv_iload hx hb dL_uneven_20 (lv_at hl 0 rfl) ?_
          refine lv_aload_n hx hb dL_uneven_22 rfl (lv_at hl 7 rfl) ?_
          refine lv_iconst (v := 1) hx hb dL_uneven_23 (by decide) ?_
          refine zr_iald (v := nI T.1.2) C I (LG.at G (i := 0) (by decide)) (show vp_in (nI 1) _ from LG.inn G (i := 0) (k := 1) (by decide) (by decide)) (show zh_A M (ar 0) (nI 1).toNatClampNeg = _ from LG.rd G (by decide) (by decide) (q1)) dL_uneven_24 ?_
          refine lv_icmp_ge (tgt := 93) hx hb dL_uneven_25 (by decide) (fun h9 => absurd h9 (fun h8 => absurd ((nI_leI (a := T.1.2) (b := 0) (by omega) (by omega)).mp h8) (by omega))) (fun _ => ?_)
          refine lv_aload_n hx hb dL_uneven_28 rfl (lv_at hl 7 rfl) ?_
          refine lv_iconst (v := 4) hx hb dL_uneven_29 (by decide) ?_
          refine zr_iald (v := (Ct 0 4)) C I (LG.at G (i := 0) (by decide)) (show vp_in (nI 4) _ from LG.inn G (i := 0) (k := 4) (by decide) (by decide)) (show zh_A M (ar 0) (nI 4).toNatClampNeg = _ from LG.rd G (by decide) (by decide) (rfl)) dL_uneven_30 ?_
          refine lv_iload hx hb dL_uneven_31 (lv_at hl 1 rfl) ?_
          refine lv_ishr hx hb dL_uneven_33 ?_
          refine lv_iconst (v := 1) hx hb dL_uneven_34 (by decide) ?_
          refine lv_iand hx hb dL_uneven_35 ?_
          refine zr_top (y := nI (T.2 12 k)) (zbt_rd b4 (by omega)) ?_
          refine lv_if_ne (tgt := 93) hx hb dL_uneven_36 (by decide) (fun h9 => absurd ((nI_eq (a := T.2 12 k) (b := 0) (by omega) (by omega)).mpr (hs)) h9) (fun _ => ?_)
          refine lv_aload_n hx hb dL_uneven_39 rfl (lv_at hl 5 rfl) ?_
          refine lv_iload hx hb dL_uneven_40 (lv_at hl 1 rfl) ?_
          refine zr_iald (v := nI (T.2 8 k)) C I (LG.at G (i := 4) (by decide)) (show vp_in (nI k) _ from LG.inn G (i := 4) (k := k) (by decide) (show k < 30 by omega)) (show zh_A M (ar 4) (nI k).toNatClampNeg = _ from LG.rd G (by decide) (show k < 30 by omega) (w4)) dL_uneven_42 ?_
          refine lv_iload_n hx hb dL_uneven_43 rfl (lv_at hl 4 rfl) ?_
          refine lv_icmp_ne (tgt := 93) hx hb dL_uneven_44 (by decide) (fun _ => ?_) (fun h9 => absurd h9 (fun h8 => absurd ((nI_eq (a := T.2 8 k) (b := f) (by omega) (by omega)).mp h8) (hf8)))
          refine lv_lload hx hb dL_uneven_93 (lv_at hl 3 rfl) ?_
          refine lv_aload_n hx hb dL_uneven_95 rfl (lv_at hl 7 rfl) ?_
          refine lv_iconst (v := 4) hx hb dL_uneven_96 (by decide) ?_
          refine zr_iald (v := (Ct 0 4)) C I (LG.at G (i := 0) (by decide)) (show vp_in (nI 4) _ from LG.inn G (i := 0) (k := 4) (by decide) (by decide)) (show zh_A M (ar 0) (nI 4).toNatClampNeg = _ from LG.rd G (by decide) (by decide) (rfl)) dL_uneven_97 ?_
          refine lv_iload hx hb dL_uneven_98 (lv_at hl 1 rfl) ?_
          refine lv_ishr hx hb dL_uneven_100 ?_
          refine lv_iconst (v := 1) hx hb dL_uneven_101 (by decide) ?_
          refine lv_iand hx hb dL_uneven_102 ?_
          refine zr_top (y := nI (T.2 12 k)) (zbt_rd b4 (by omega)) ?_
          refine lv_if_ne (tgt := 118) hx hb dL_uneven_103 (by decide) (fun h9 => absurd ((nI_eq (a := T.2 12 k) (b := 0) (by omega) (by omega)).mpr (hs)) h9) (fun _ => ?_)
          refine lv_aload_n hx hb dL_uneven_106 rfl (lv_at hl 5 rfl) ?_
          refine lv_iload hx hb dL_uneven_107 (lv_at hl 1 rfl) ?_
          refine zr_iald (v := nI (T.2 8 k)) C I (LG.at G (i := 4) (by decide)) (show vp_in (nI k) _ from LG.inn G (i := 4) (k := k) (by decide) (show k < 30 by omega)) (show zh_A M (ar 4) (nI k).toNatClampNeg = _ from LG.rd G (by decide) (show k < 30 by omega) (w4)) dL_uneven_109 ?_
          refine lv_iload_n hx hb dL_uneven_110 rfl (lv_at hl 4 rfl) ?_
          refine lv_icmp_ne (tgt := 118) hx hb dL_uneven_111 (by decide) (fun _ => ?_) (fun h9 => absurd h9 (fun h8 => absurd ((nI_eq (a := T.2 8 k) (b := f) (by omega) (by omega)).mp h8) (hf8)))
          refine lv_lconst (v := 0) hx hb dL_uneven_118 (by decide) ?_
          refine lv_ladd hx hb dL_uneven_119 ?_
          refine zr_topl (y := lN (zt_cnt T f 0 k + 0)) (lN_add _ 0) ?_
          refine lv_lstore (lv' := [(4, .long (lN (zt_cnt T f 0 k + 0))), (9, .int 0), (8, .int (nI k)), (6, .long (lN (zt_wt T f (fun x => zt_cnt T f x T.1.2) k + 0))), (0, .int (nI f)), (1, .ref (ar 4)), (2, .ref (ar 5)), (3, .ref (ar 0))]) hx hb dL_uneven_120 hl (by decide) rfl (fun ls hl => ?_)
          refine lv_iinc (v := nI (k + 1)) (lv' := [(8, .int (nI (k + 1))), (4, .long (lN (zt_cnt T f 0 k + 0))), (9, .int 0), (6, .long (lN (zt_wt T f (fun x => zt_cnt T f x T.1.2) k + 0))), (0, .int (nI f)), (1, .ref (ar 4)), (2, .ref (ar 5)), (3, .ref (ar 0))]) hx hb dL_uneven_122 hl (k := 2) rfl (nI_add k 1) (by decide) rfl (fun ls hl => ?_)
          refine lv_goto (tgt := 9) hx hb dL_uneven_125 (by decide) ?_
          rw [if_neg (fun h => hf8 h.2.1)] at hcs
          rw [if_neg (fun h => hf8 h.2)] at hws
          rw [← hcs, ← hws] at hl
          exact ih (k + 1) ls _ _ (by omega) I (lv_sub hl [0, 3, 1, 4, 5, 6, 7] rfl)
      · have hl : lv_has ls 10 [(9, .int 0), (8, .int (nI k)), (6, .long (lN (zt_wt T f (fun x => zt_cnt T f x T.1.2) k + 0))), (4, .long (lN (zt_cnt T f 0 k))), (0, .int (nI f)), (1, .ref (ar 4)), (2, .ref (ar 5)), (3, .ref (ar 0))] := hl
        refine lv_iload hx hb dL_uneven_20 (lv_at hl 0 rfl) ?_
        refine lv_aload_n hx hb dL_uneven_22 rfl (lv_at hl 7 rfl) ?_
        refine lv_iconst (v := 1) hx hb dL_uneven_23 (by decide) ?_
        refine zr_iald (v := nI T.1.2) C I (LG.at G (i := 0) (by decide)) (show vp_in (nI 1) _ from LG.inn G (i := 0) (k := 1) (by decide) (by decide)) (show zh_A M (ar 0) (nI 1).toNatClampNeg = _ from LG.rd G (by decide) (by decide) (q1)) dL_uneven_24 ?_
        refine lv_icmp_ge (tgt := 93) hx hb dL_uneven_25 (by decide) (fun h9 => absurd h9 (fun h8 => absurd ((nI_leI (a := T.1.2) (b := 0) (by omega) (by omega)).mp h8) (by omega))) (fun _ => ?_)
        refine lv_aload_n hx hb dL_uneven_28 rfl (lv_at hl 7 rfl) ?_
        refine lv_iconst (v := 4) hx hb dL_uneven_29 (by decide) ?_
        refine zr_iald (v := (Ct 0 4)) C I (LG.at G (i := 0) (by decide)) (show vp_in (nI 4) _ from LG.inn G (i := 0) (k := 4) (by decide) (by decide)) (show zh_A M (ar 0) (nI 4).toNatClampNeg = _ from LG.rd G (by decide) (by decide) (rfl)) dL_uneven_30 ?_
        refine lv_iload hx hb dL_uneven_31 (lv_at hl 1 rfl) ?_
        refine lv_ishr hx hb dL_uneven_33 ?_
        refine lv_iconst (v := 1) hx hb dL_uneven_34 (by decide) ?_
        refine lv_iand hx hb dL_uneven_35 ?_
        refine zr_top (y := nI (T.2 12 k)) (zbt_rd b4 (by omega)) ?_
        refine lv_if_ne (tgt := 93) hx hb dL_uneven_36 (by decide) (fun _ => ?_) (fun h9 => absurd h9 (fun h8 => absurd ((nI_eq (a := T.2 12 k) (b := 0) (by omega) (by omega)).mp h8) (hs)))
        refine lv_lload hx hb dL_uneven_93 (lv_at hl 3 rfl) ?_
        refine lv_aload_n hx hb dL_uneven_95 rfl (lv_at hl 7 rfl) ?_
        refine lv_iconst (v := 4) hx hb dL_uneven_96 (by decide) ?_
        refine zr_iald (v := (Ct 0 4)) C I (LG.at G (i := 0) (by decide)) (show vp_in (nI 4) _ from LG.inn G (i := 0) (k := 4) (by decide) (by decide)) (show zh_A M (ar 0) (nI 4).toNatClampNeg = _ from LG.rd G (by decide) (by decide) (rfl)) dL_uneven_97 ?_
        refine lv_iload hx hb dL_uneven_98 (lv_at hl 1 rfl) ?_
        refine lv_ishr hx hb dL_uneven_100 ?_
        refine lv_iconst (v := 1) hx hb dL_uneven_101 (by decide) ?_
        refine lv_iand hx hb dL_uneven_102 ?_
        refine zr_top (y := nI (T.2 12 k)) (zbt_rd b4 (by omega)) ?_
        refine lv_if_ne (tgt := 118) hx hb dL_uneven_103 (by decide) (fun _ => ?_) (fun h9 => absurd h9 (fun h8 => absurd ((nI_eq (a := T.2 12 k) (b := 0) (by omega) (by omega)).mp h8) (hs)))
        refine lv_lconst (v := 0) hx hb dL_uneven_118 (by decide) ?_
        refine lv_ladd hx hb dL_uneven_119 ?_
        refine zr_topl (y := lN (zt_cnt T f 0 k + 0)) (lN_add _ 0) ?_
        refine lv_lstore (lv' := [(4, .long (lN (zt_cnt T f 0 k + 0))), (9, .int 0), (8, .int (nI k)), (6, .long (lN (zt_wt T f (fun x => zt_cnt T f x T.1.2) k + 0))), (0, .int (nI f)), (1, .ref (ar 4)), (2, .ref (ar 5)), (3, .ref (ar 0))]) hx hb dL_uneven_120 hl (by decide) rfl (fun ls hl => ?_)
        refine lv_iinc (v := nI (k + 1)) (lv' := [(8, .int (nI (k + 1))), (4, .long (lN (zt_cnt T f 0 k + 0))), (9, .int 0), (6, .long (lN (zt_wt T f (fun x => zt_cnt T f x T.1.2) k + 0))), (0, .int (nI f)), (1, .ref (ar 4)), (2, .ref (ar 5)), (3, .ref (ar 0))]) hx hb dL_uneven_122 hl (k := 2) rfl (nI_add k 1) (by decide) rfl (fun ls hl => ?_)
        refine lv_goto (tgt := 9) hx hb dL_uneven_125 (by decide) ?_
        rw [if_neg (fun h => hs h.1)] at hcs
        rw [if_neg (fun h => hs h.1)] at hws
        rw [← hcs, ← hws] at hl
        exact ih (k + 1) ls _ _ (by omega) I (lv_sub hl [0, 3, 1, 4, 5, 6, 7] rfl)
  refine lv_lconst (v := 0) hx hb dL_uneven_0 (by decide) ?_
  refine lv_lstore (lv' := [(4, .long 0), (0, .int (nI f)), (1, .ref (ar 4)), (2, .ref (ar 5)), (3, .ref (ar 0))]) hx hb dL_uneven_1 hl (by decide) rfl (fun ls hl => ?_)
  refine lv_lconst (v := 0) hx hb dL_uneven_3 (by decide) ?_
  refine lv_lstore (lv' := [(6, .long 0), (4, .long 0), (0, .int (nI f)), (1, .ref (ar 4)), (2, .ref (ar 5)), (3, .ref (ar 0))]) hx hb dL_uneven_4 hl (by decide) rfl (fun ls hl => ?_)
  refine lv_iconst (v := 0) hx hb dL_uneven_6 (by decide) ?_
  refine lv_istore (lv' := [(8, .int 0), (6, .long 0), (4, .long 0), (0, .int (nI f)), (1, .ref (ar 4)), (2, .ref (ar 5)), (3, .ref (ar 0))]) hx hb dL_uneven_7 hl (by decide) rfl (fun ls hl => ?_)
  exact loop T.1.2 0 ls _ _ (Nat.zero_add _) I (lv_sub hl [0, 1, 2, 3, 4, 5, 6] rfl)

