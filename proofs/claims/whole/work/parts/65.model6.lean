/-! the model: audits, counts -/
theorem zi_dec (x : Int32) : x + (-1) = x - 1 := (Int32.sub_eq_add_neg x 1).symm
theorem zi_p1 (k : Nat) : nI (k + 1) - 1 = nI k := pk_sub (a := k + 1) (b := 1) (by omega)
theorem zi_m0 : (nI 0 - 1 : Int32) < 0 := by decide
theorem zt_broken_s (T : zT) (n k : Nat) : zt_broken T (n + 1) k = if T.2 11 k ≠ zt_sum T k then nI k else zt_broken T n (k + 1) := rfl
theorem zt_wrong_s (T : zT) (q n k : Nat) : zt_wrong T q (n + 1) k = if T.2 5 k = q ∧ T.2 9 k ≠ zt_fd T q k then nI k else zt_wrong T q n (k + 1) := rfl

set_option maxRecDepth 100000 in
set_option maxHeartbeats 4000000 in
theorem k_X4_broken (l : Launch) (g : zG) (S : zS) (T : zT) (mo : Nat) (ar : Nat → Nat) (hT : zt_ok T) (hM : MR S T mo ar) : zM l yX4_broken cX4_broken 3 (some .int) (zrm 3 0 0) g [.ref mo] S (fun w S' => zmQ S S' T mo ar 0 (zt_broken T T.1.2 0) w) := by
  refine zM_of (nm := "broken") (by decide) rfl (Nat.le_of_ble_eq_true rfl) ?_
  intro p e s m args below meth c A ls C hr hlk hin I hl
  have C : CallFix p m c cX4_broken 3 s args zc_W RX4 := C
  have hx := C.1
  have hb := C.2.1
  have hl : lv_has ls 3 [(0, .ref mo)] := hl
  obtain ⟨m1, m2, m3, m4, m5⟩ := id hM
  obtain ⟨t1, t2, t3, t4, t5, t6, t7⟩ := id hT
  refine lv_aload_n hx hb dX4_broken_0 rfl (lv_at hl 0 rfl) ?_
  refine lv_iconst (v := 0) hx hb dX4_broken_1 (by decide) ?_
  refine zp_Model_thrown C I m1 zm_507 dX4_broken_2 (fun H locs I => ?_)
  have M1 : MR (zh_sI S 20 mo 0) T mo ar := MR_I hM 20 _ (by decide) (by decide)
  have hk : zk_ S (zh_sI S 20 mo 0) := zk_rf S
  have g20 : zh_I (zh_sI S 20 mo 0) 20 mo = 0 := zI_s _ _ _ _
  obtain ⟨Z1, hZ1⟩ : ∃ z, z = (zh_sI S 20 mo 0) := ⟨_, rfl⟩
  rw [← hZ1] at I M1 hk g20
  clear hZ1
  obtain ⟨m1, m2, m3, m4, m5⟩ := id M1
  have loop : ∀ (k n : Nat) (ls : Array Slot) (H : Heap) (locs : List Loc), k + n = T.1.2 → zh_V g A s [] Z1 H locs → lv_has ls 3 [(2, .int (nI k - 1)), (1, .int (zt_broken T n k)), (0, .ref mo)] → W p l e (zrm 3 0 0) s m args below meth c H locs 0 0 (MQ below (zh_Po g A (fun w S' => zmQ S S' T mo ar 0 (zt_broken T T.1.2 0) w)) args s (zrm 3 0 0).cells (zrm 3 0 0).slots A) (F0 m 14 ls []) := by
    intro k
    induction k with
    | zero =>
      intro n ls H locs hn I hl
      refine lv_iload_n hx hb dX4_broken_14 rfl (lv_at hl 0 rfl) ?_
      refine lv_if_lt (tgt := 44) hx hb dX4_broken_15 (by decide) (fun _ => ?_) (fun h9 => absurd (zi_m0) h9)
      refine lv_iload_n hx hb dX4_broken_44 rfl (lv_at hl 1 rfl) ?_
      have en : n = T.1.2 := by omega
      exact zr_iret C I hr hlk (⟨g20, M1, hk, _, rfl, fun _ => by rw [en]⟩) (Nat.le_of_ble_eq_true rfl) (Nat.le_of_ble_eq_true rfl) dX4_broken_45
    | succ k ih =>
      intro n ls H locs hn I hl
      rw [zi_p1] at hl
      have hk9 : k < T.1.2 := by omega
      have t5k := t5 k hk9
      refine lv_iload_n hx hb dX4_broken_14 rfl (lv_at hl 0 rfl) ?_
      refine lv_if_lt (tgt := 44) hx hb dX4_broken_15 (by decide) (fun h9 => absurd h9 (fun h8 => absurd ((nI_ltI (a := k) (b := 0) (by omega) (by omega)).mp h8) (by omega))) (fun _ => ?_)
      refine lv_aload_n hx hb dX4_broken_18 rfl (lv_at hl 2 rfl) ?_
      refine zg_Model_sum (v := ar 11) C I m1 zm_521 ((m4 11 (by decide)).1) dX4_broken_19 ?_
      refine lv_iload_n hx hb dX4_broken_22 rfl (lv_at hl 0 rfl) ?_
      refine zr_iald (v := nI (T.2 11 k)) C I (m4 11 (by decide)).2.1 (by rw [show zh_N Z1 (ar 11) = 100 from (m4 11 (by decide)).2.2.1]; exact vp_in_nI (by omega) (by omega)) (by rw [nI_clamp (by omega)]; exact (m4 11 (by decide)).2.2.2 k (show k < 100 by omega)) dX4_broken_23 ?_
      refine lv_aload_n hx hb dX4_broken_24 rfl (lv_at hl 2 rfl) ?_
      refine lv_iload_n hx hb dX4_broken_25 rfl (lv_at hl 0 rfl) ?_
      refine zc_V (n := 1) (rest := [.int (nI (T.2 11 k))]) C I m1 rfl rfl (k_X4_sumOf l g Z1 T mo ar M1 k (by omega) (by omega) (by omega) (by omega) (by omega) (by omega) (fun h => (t5 (k - 1) (by omega)).2.2.2.2.2.2.2.2.1)) zm_621 zm_622 zm_18 zm_28 zm_623 rfl hl.1 dX4_broken_26 (by decide +kernel) rfl ⟨Nat.le_of_ble_eq_true rfl, Nat.le_of_ble_eq_true rfl⟩ (Nat.le_of_ble_eq_true rfl) ⟨Nat.le_of_ble_eq_true rfl, Nat.le_of_ble_eq_true rfl⟩ (fun v S' H locs hq I => ?_)
      obtain ⟨rfl, eS⟩ := hq
      rw [eS] at I
      have hsl : zt_sum T k < 1000003 := zd_sum_lt _ _ _ _ _ _
      refine lv_icmp_eq (tgt := 36) hx hb dX4_broken_29 (by decide) (fun c29 => ?_) (fun c29 => ?_)
      · have c29 : (T.2 11 k) = (zt_sum T k) := (nI_eq (a := T.2 11 k) (b := zt_sum T k) (by omega) (by omega)).mp c29
        refine lv_iload_n hx hb dX4_broken_36 rfl (lv_at hl 1 rfl) ?_
        refine lv_istore_n (lv' := [(1, .int (zt_broken T n (k + 1))), (2, .int (nI k)), (0, .ref mo)]) hx hb dX4_broken_37 rfl hl (by decide) rfl (fun ls hl => ?_)
        refine lv_iinc (v := nI k - 1) (lv' := [(2, .int (nI k - 1)), (1, .int (zt_broken T n (k + 1))), (0, .ref mo)]) hx hb dX4_broken_38 hl (k := 1) rfl (zi_dec (nI k)) (by decide) rfl (fun ls hl => ?_)
        refine lv_goto (tgt := 14) hx hb dX4_broken_41 (by decide) ?_
        have hl := lv_sub (l' := [(2, .int (nI k - 1)), (1, .int (zt_broken T n (k + 1))), (0, .ref mo)]) hl [0, 1, 2] rfl
        have e9 := zt_broken_s T n k
        rw [if_neg (fun h => h c29)] at e9
        have hl : lv_has ls 3 [(2, .int (nI k - 1)), (1, .int (zt_broken T (n + 1) k)), (0, .ref mo)] := by rw [e9]; exact hl
        exact ih (n + 1) ls _ _ (by omega) I hl
      · have c29 : ¬ (T.2 11 k) = (zt_sum T k) := fun h9 => c29 ((nI_eq (a := T.2 11 k) (b := zt_sum T k) (by omega) (by omega)).mpr h9)
        refine lv_iload_n hx hb dX4_broken_32 rfl (lv_at hl 0 rfl) ?_
        refine lv_goto (tgt := 37) hx hb dX4_broken_33 (by decide) ?_
        refine lv_istore_n (lv' := [(1, .int (nI k)), (2, .int (nI k)), (0, .ref mo)]) hx hb dX4_broken_37 rfl hl (by decide) rfl (fun ls hl => ?_)
        refine lv_iinc (v := nI k - 1) (lv' := [(2, .int (nI k - 1)), (1, .int (nI k)), (0, .ref mo)]) hx hb dX4_broken_38 hl (k := 1) rfl (zi_dec (nI k)) (by decide) rfl (fun ls hl => ?_)
        refine lv_goto (tgt := 14) hx hb dX4_broken_41 (by decide) ?_
        have hl := lv_sub (l' := [(2, .int (nI k - 1)), (1, .int (nI k)), (0, .ref mo)]) hl [0, 1, 2] rfl
        have e9 := zt_broken_s T n k
        rw [if_pos c29] at e9
        have hl : lv_has ls 3 [(2, .int (nI k - 1)), (1, .int (zt_broken T (n + 1) k)), (0, .ref mo)] := by rw [e9]; exact hl
        exact ih (n + 1) ls _ _ (by omega) I hl
  refine lv_iconst (v := (-1)) hx hb dX4_broken_5 (by decide) ?_
  refine lv_istore_n (lv' := [(1, .int (-1)), (0, .ref mo)]) hx hb dX4_broken_6 rfl hl (by decide) rfl (fun ls hl => ?_)
  refine lv_aload_n hx hb dX4_broken_7 rfl (lv_at hl 1 rfl) ?_
  refine zg_Model_entries (v := nI T.1.2) C I m1 zm_514 (m3) dX4_broken_8 ?_
  refine lv_iconst (v := 1) hx hb dX4_broken_11 (by decide) ?_
  refine lv_isub hx hb dX4_broken_12 ?_
  refine lv_istore_n (lv' := [(2, .int ((nI T.1.2) - 1)), (1, .int (-1)), (0, .ref mo)]) hx hb dX4_broken_13 rfl hl (by decide) rfl (fun ls hl => ?_)
  have hl := lv_sub (l' := [(2, .int ((nI T.1.2) - 1)), (1, .int (-1)), (0, .ref mo)]) hl [0, 1, 2] rfl
  exact loop T.1.2 0 ls _ _ (by omega) I hl

set_option maxRecDepth 100000 in
set_option maxHeartbeats 4000000 in
theorem k_X4_firstWrong (l : Launch) (g : zG) (S : zS) (T : zT) (mo : Nat) (ar : Nat → Nat) (hT : zt_ok T) (hM : MR S T mo ar) (q : Nat) (hq9 : q < 16) : zM l yX4_firstWrong cX4_firstWrong 4 (some .int) (zrm 2 0 0) g [.ref mo, .int (nI q)] S (fun w S' => w = some (.int (zv_wrong T q)) ∧ zwB S S' mo) := by
  refine zM_of (nm := "firstWrong") (by decide) rfl (Nat.le_of_ble_eq_true rfl) ?_
  intro p e s m args below meth c A ls C hr hlk hin I hl
  have C : CallFix p m c cX4_firstWrong 4 s args zc_W RX4 := C
  have hx := C.1
  have hb := C.2.1
  have hl : lv_has ls 4 [(0, .ref mo), (1, .int (nI q))] := hl
  obtain ⟨m1, m2, m3, m4, m5⟩ := id hM
  obtain ⟨t1, t2, t3, t4, t5, t6, t7⟩ := id hT
  have loop : ∀ (k n : Nat) (S1 : zS) (ls : Array Slot) (H : Heap) (locs : List Loc), k + n = T.1.2 → zwB S S1 mo → zh_V g A s [] S1 H locs → lv_has ls 4 [(3, .int (nI k - 1)), (2, .int (zt_wrong T q n k)), (0, .ref mo), (1, .int (nI q))] → W p l e (zrm 2 0 0) s m args below meth c H locs 0 0 (MQ below (zh_Po g A (fun w S' => w = some (.int (zv_wrong T q)) ∧ zwB S S' mo)) args s (zrm 2 0 0).cells (zrm 2 0 0).slots A) (F0 m 9 ls []) := by
    intro k
    induction k with
    | zero =>
      intro n S1 ls H locs hn hw I hl
      have M1 : MR S1 T mo ar := MR_w hM hw
      obtain ⟨m1, m2, m3, m4, m5⟩ := id M1
      refine lv_iload_n hx hb dX4_firstWrong_9 rfl (lv_at hl 0 rfl) ?_
      refine lv_if_lt (tgt := 49) hx hb dX4_firstWrong_10 (by decide) (fun _ => ?_) (fun h9 => absurd (zi_m0) h9)
      refine lv_iload_n hx hb dX4_firstWrong_49 rfl (lv_at hl 1 rfl) ?_
      have en : n = T.1.2 := by omega
      exact zr_iret C I hr hlk (⟨by rw [en]; rfl, hw⟩) (Nat.le_of_ble_eq_true rfl) (Nat.le_of_ble_eq_true rfl) dX4_firstWrong_50
    | succ k ih =>
      intro n S1 ls H locs hn hw I hl
      have M1 : MR S1 T mo ar := MR_w hM hw
      obtain ⟨m1, m2, m3, m4, m5⟩ := id M1
      rw [zi_p1] at hl
      have hk9 : k < T.1.2 := by omega
      have t5k := t5 k hk9
      refine lv_iload_n hx hb dX4_firstWrong_9 rfl (lv_at hl 0 rfl) ?_
      refine lv_if_lt (tgt := 49) hx hb dX4_firstWrong_10 (by decide) (fun h9 => absurd h9 (fun h8 => absurd ((nI_ltI (a := k) (b := 0) (by omega) (by omega)).mp h8) (by omega))) (fun _ => ?_)
      refine lv_aload_n hx hb dX4_firstWrong_13 rfl (lv_at hl 2 rfl) ?_
      refine zg_Model_of (v := ar 5) C I m1 zm_515 ((m4 5 (by decide)).1) dX4_firstWrong_14 ?_
      refine lv_iload_n hx hb dX4_firstWrong_17 rfl (lv_at hl 0 rfl) ?_
      refine zr_iald (v := nI (T.2 5 k)) C I (m4 5 (by decide)).2.1 (by rw [show zh_N S1 (ar 5) = 100 from (m4 5 (by decide)).2.2.1]; exact vp_in_nI (by omega) (by omega)) (by rw [nI_clamp (by omega)]; exact (m4 5 (by decide)).2.2.2 k (show k < 100 by omega)) dX4_firstWrong_18 ?_
      refine lv_iload_n hx hb dX4_firstWrong_19 rfl (lv_at hl 3 rfl) ?_
      refine lv_icmp_ne (tgt := 41) hx hb dX4_firstWrong_20 (by decide) (fun c20 => ?_) (fun c20 => ?_)
      · have c20 : ¬ (T.2 5 k) = q := fun h9 => c20 ((nI_eq (a := T.2 5 k) (b := q) (by omega) (by omega)).mpr h9)
        refine lv_iload_n hx hb dX4_firstWrong_41 rfl (lv_at hl 1 rfl) ?_
        refine lv_istore_n (lv' := [(2, .int (zt_wrong T q n (k + 1))), (3, .int (nI k)), (0, .ref mo), (1, .int (nI q))]) hx hb dX4_firstWrong_42 rfl hl (by decide) rfl (fun ls hl => ?_)
        refine lv_iinc (v := nI k - 1) (lv' := [(3, .int (nI k - 1)), (2, .int (zt_wrong T q n (k + 1))), (0, .ref mo), (1, .int (nI q))]) hx hb dX4_firstWrong_43 hl (k := 1) rfl (zi_dec (nI k)) (by decide) rfl (fun ls hl => ?_)
        refine lv_goto (tgt := 9) hx hb dX4_firstWrong_46 (by decide) ?_
        have hl := lv_sub (l' := [(3, .int (nI k - 1)), (2, .int (zt_wrong T q n (k + 1))), (0, .ref mo), (1, .int (nI q))]) hl [0, 1, 2, 3] rfl
        have e9 := zt_wrong_s T q n k
        rw [if_neg (fun h => c20 h.1)] at e9
        have hl : lv_has ls 4 [(3, .int (nI k - 1)), (2, .int (zt_wrong T q (n + 1) k)), (0, .ref mo), (1, .int (nI q))] := by rw [e9]; exact hl
        exact ih (n + 1) S1 ls _ _ (by omega) (hw) I hl
      · have c20 : (T.2 5 k) = q := (nI_eq (a := T.2 5 k) (b := q) (by omega) (by omega)).mp c20
        refine lv_aload_n hx hb dX4_firstWrong_23 rfl (lv_at hl 2 rfl) ?_
        refine lv_iload_n hx hb dX4_firstWrong_24 rfl (lv_at hl 0 rfl) ?_
        refine zc_V (n := 1) (rest := []) C I m1 rfl rfl (k_X4_again l g S1 T mo ar hT M1 k hk9) zm_656 zm_657 zm_20 zm_28 zm_658 rfl hl.1 dX4_firstWrong_25 (by decide +kernel) rfl ⟨Nat.le_of_ble_eq_true rfl, Nat.le_of_ble_eq_true rfl⟩ (Nat.le_of_ble_eq_true rfl) ⟨Nat.le_of_ble_eq_true rfl, Nat.le_of_ble_eq_true rfl⟩ (fun v S' H locs hq I => ?_)
        obtain ⟨rfl, hw2⟩ := hq
        rw [c20]
        have M2 : MR S' T mo ar := MR_w M1 hw2
        obtain ⟨m1, m2, m3, m4, m5⟩ := id M2
        have hvl : zt_fd T q k ≤ 1000 := Nat.le_trans (zd_val_le t5k.2.2.2.1) t5k.2.2.2.2.1
        refine lv_aload_n hx hb dX4_firstWrong_28 rfl (lv_at hl 2 rfl) ?_
        refine zg_Model_value (v := ar 9) C I m1 zm_519 ((m4 9 (by decide)).1) dX4_firstWrong_29 ?_
        refine lv_iload_n hx hb dX4_firstWrong_32 rfl (lv_at hl 0 rfl) ?_
        refine zr_iald (v := nI (T.2 9 k)) C I (m4 9 (by decide)).2.1 (by rw [show zh_N S' (ar 9) = 100 from (m4 9 (by decide)).2.2.1]; exact vp_in_nI (by omega) (by omega)) (by rw [nI_clamp (by omega)]; exact (m4 9 (by decide)).2.2.2 k (show k < 100 by omega)) dX4_firstWrong_33 ?_
        refine lv_icmp_eq (tgt := 41) hx hb dX4_firstWrong_34 (by decide) (fun c34 => ?_) (fun c34 => ?_)
        · have c34 : (zt_fd T q k) = (T.2 9 k) := (nI_eq (a := zt_fd T q k) (b := T.2 9 k) (by omega) (by omega)).mp c34
          refine lv_iload_n hx hb dX4_firstWrong_41 rfl (lv_at hl 1 rfl) ?_
          refine lv_istore_n (lv' := [(2, .int (zt_wrong T q n (k + 1))), (3, .int (nI k)), (0, .ref mo), (1, .int (nI q))]) hx hb dX4_firstWrong_42 rfl hl (by decide) rfl (fun ls hl => ?_)
          refine lv_iinc (v := nI k - 1) (lv' := [(3, .int (nI k - 1)), (2, .int (zt_wrong T q n (k + 1))), (0, .ref mo), (1, .int (nI q))]) hx hb dX4_firstWrong_43 hl (k := 1) rfl (zi_dec (nI k)) (by decide) rfl (fun ls hl => ?_)
          refine lv_goto (tgt := 9) hx hb dX4_firstWrong_46 (by decide) ?_
          have hl := lv_sub (l' := [(3, .int (nI k - 1)), (2, .int (zt_wrong T q n (k + 1))), (0, .ref mo), (1, .int (nI q))]) hl [0, 1, 2, 3] rfl
          have e9 := zt_wrong_s T q n k
          rw [if_neg (fun h => h.2 c34.symm)] at e9
          have hl : lv_has ls 4 [(3, .int (nI k - 1)), (2, .int (zt_wrong T q (n + 1) k)), (0, .ref mo), (1, .int (nI q))] := by rw [e9]; exact hl
          exact ih (n + 1) S' ls _ _ (by omega) (zwB_tr hw hw2) I hl
        · have c34 : ¬ (zt_fd T q k) = (T.2 9 k) := fun h9 => c34 ((nI_eq (a := zt_fd T q k) (b := T.2 9 k) (by omega) (by omega)).mpr h9)
          refine lv_iload_n hx hb dX4_firstWrong_37 rfl (lv_at hl 0 rfl) ?_
          refine lv_goto (tgt := 42) hx hb dX4_firstWrong_38 (by decide) ?_
          refine lv_istore_n (lv' := [(2, .int (nI k)), (3, .int (nI k)), (0, .ref mo), (1, .int (nI q))]) hx hb dX4_firstWrong_42 rfl hl (by decide) rfl (fun ls hl => ?_)
          refine lv_iinc (v := nI k - 1) (lv' := [(3, .int (nI k - 1)), (2, .int (nI k)), (0, .ref mo), (1, .int (nI q))]) hx hb dX4_firstWrong_43 hl (k := 1) rfl (zi_dec (nI k)) (by decide) rfl (fun ls hl => ?_)
          refine lv_goto (tgt := 9) hx hb dX4_firstWrong_46 (by decide) ?_
          have hl := lv_sub (l' := [(3, .int (nI k - 1)), (2, .int (nI k)), (0, .ref mo), (1, .int (nI q))]) hl [0, 1, 2, 3] rfl
          have e9 := zt_wrong_s T q n k
          rw [if_pos (⟨c20, fun h => c34 h.symm⟩)] at e9
          have hl : lv_has ls 4 [(3, .int (nI k - 1)), (2, .int (zt_wrong T q (n + 1) k)), (0, .ref mo), (1, .int (nI q))] := by rw [e9]; exact hl
          exact ih (n + 1) S' ls _ _ (by omega) (zwB_tr hw hw2) I hl
  refine lv_iconst (v := (-1)) hx hb dX4_firstWrong_0 (by decide) ?_
  refine lv_istore_n (lv' := [(2, .int (-1)), (0, .ref mo), (1, .int (nI q))]) hx hb dX4_firstWrong_1 rfl hl (by decide) rfl (fun ls hl => ?_)
  refine lv_aload_n hx hb dX4_firstWrong_2 rfl (lv_at hl 1 rfl) ?_
  refine zg_Model_entries (v := nI T.1.2) C I m1 zm_514 (m3) dX4_firstWrong_3 ?_
  refine lv_iconst (v := 1) hx hb dX4_firstWrong_6 (by decide) ?_
  refine lv_isub hx hb dX4_firstWrong_7 ?_
  refine lv_istore_n (lv' := [(3, .int ((nI T.1.2) - 1)), (2, .int (-1)), (0, .ref mo), (1, .int (nI q))]) hx hb dX4_firstWrong_8 rfl hl (by decide) rfl (fun ls hl => ?_)
  have hl := lv_sub (l' := [(3, .int ((nI T.1.2) - 1)), (2, .int (-1)), (0, .ref mo), (1, .int (nI q))]) hl [0, 1, 2, 3] rfl
  exact loop T.1.2 0 S ls _ _ (by omega) (zwB_rf S mo) I hl

set_option maxRecDepth 100000 in
set_option maxHeartbeats 4000000 in
theorem k_X4_wrong (l : Launch) (g : zG) (S : zS) (T : zT) (mo : Nat) (ar : Nat → Nat) (hT : zt_ok T) (hM : MR S T mo ar) (i : Int32) : zM l yX4_wrong cX4_wrong 2 (some .int) (zrm 3 0 0) g [.ref mo, .int i] S (fun w S' => zmQ S S' T mo ar (zc_wrong T i) (zv_wrong T (zx i)) w) := by
  refine zM_of (nm := "wrong") (by decide) rfl (Nat.le_of_ble_eq_true rfl) ?_
  intro p e s m args below meth c A ls C hr hlk hin I hl
  have C : CallFix p m c cX4_wrong 2 s args zc_W RX4 := C
  have hx := C.1
  have hb := C.2.1
  have hl : lv_has ls 2 [(0, .ref mo), (1, .int i)] := hl
  obtain ⟨m1, m2, m3, m4, m5⟩ := id hM
  obtain ⟨t1, t2, t3, t4, t5, t6, t7⟩ := id hT
  refine lv_aload_n hx hb dX4_wrong_0 rfl (lv_at hl 0 rfl) ?_
  refine lv_iconst (v := 0) hx hb dX4_wrong_1 (by decide) ?_
  refine zp_Model_thrown C I m1 zm_507 dX4_wrong_2 (fun H locs I => ?_)
  have M1 : MR (zh_sI S 20 mo 0) T mo ar := MR_I hM 20 _ (by decide) (by decide)
  have hk : zk_ S (zh_sI S 20 mo 0) := zk_rf S
  have g20 : zh_I (zh_sI S 20 mo 0) 20 mo = 0 := zI_s _ _ _ _
  obtain ⟨Z2, hZ2⟩ : ∃ z, z = (zh_sI S 20 mo 0) := ⟨_, rfl⟩
  rw [← hZ2] at I M1 hk g20
  clear hZ2
  obtain ⟨m1, m2, m3, m4, m5⟩ := id M1
  rcases zi_cases i (n := T.1.1) (by omega) with hb0 | ⟨hb0, hj0, hi0⟩
  · refine lv_aload_n hx hb dX4_wrong_5 rfl (lv_at hl 0 rfl) ?_
    refine lv_iload_n hx hb dX4_wrong_6 rfl (lv_at hl 1 rfl) ?_
    refine zc_V (n := 1) (rest := []) C I m1 rfl rfl (k_X4_isPromise l g Z2 mo T.1.1 i m1 m2 (by omega)) zm_582 zm_583 zm_16 zm_28 zm_584 rfl hl.1 dX4_wrong_7 (by decide +kernel) rfl ⟨Nat.le_of_ble_eq_true rfl, Nat.le_of_ble_eq_true rfl⟩ (Nat.le_of_ble_eq_true rfl) ⟨Nat.le_of_ble_eq_true rfl, Nat.le_of_ble_eq_true rfl⟩ (fun v S' H locs hq I => ?_)
    obtain ⟨rfl, eS⟩ := hq
    rw [eS] at I
    refine zr_top (y := 0) (if_pos hb0) ?_
    refine lv_if_ne (tgt := 19) hx hb dX4_wrong_10 (by decide) (fun h9 => absurd ((nI_eq (a := 0) (b := 0) (by omega) (by omega)).mpr (by omega)) h9) (fun _ => ?_)
    refine lv_aload_n hx hb dX4_wrong_13 rfl (lv_at hl 0 rfl) ?_
    refine lv_iconst (v := 1) hx hb dX4_wrong_14 (by decide) ?_
    refine zc_V (n := 1) (rest := []) C I m1 rfl rfl (k_X4_fails l g Z2 mo 1 m1) zm_575 zm_576 zm_15 zm_28 zm_577 rfl hl.1 dX4_wrong_15 (by decide +kernel) rfl ⟨Nat.le_of_ble_eq_true rfl, Nat.le_of_ble_eq_true rfl⟩ (Nat.le_of_ble_eq_true rfl) ⟨Nat.le_of_ble_eq_true rfl, Nat.le_of_ble_eq_true rfl⟩ (fun v S' H locs hq I => ?_)
    obtain ⟨rfl, eS⟩ := hq
    rw [eS] at I
    have hcF : zc_wrong T i = 1 := if_pos hb0
    exact zr_iret C I hr hlk (⟨(zI_s _ _ _ _).trans (by rw [hcF]; rfl), MR_I M1 20 _ (by decide) (by decide), fun a ha => hk a ha, 0, rfl, fun h => absurd (hcF.symm.trans h) (by decide)⟩) (Nat.le_of_ble_eq_true rfl) (Nat.le_of_ble_eq_true rfl) dX4_wrong_18
  · obtain ⟨q, hb0n, rfl⟩ : ∃ q : Nat, q < T.1.1 ∧ i = nI q := ⟨_, hj0, hi0⟩
    clear hj0 hi0
    have hb0z : zx (nI q) = q := zx_nI (by omega)
    refine lv_aload_n hx hb dX4_wrong_5 rfl (lv_at hl 0 rfl) ?_
    refine lv_iload_n hx hb dX4_wrong_6 rfl (lv_at hl 1 rfl) ?_
    refine zc_V (n := 1) (rest := []) C I m1 rfl rfl (k_X4_isPromise l g Z2 mo T.1.1 (nI q) m1 m2 (by omega)) zm_582 zm_583 zm_16 zm_28 zm_584 rfl hl.1 dX4_wrong_7 (by decide +kernel) rfl ⟨Nat.le_of_ble_eq_true rfl, Nat.le_of_ble_eq_true rfl⟩ (Nat.le_of_ble_eq_true rfl) ⟨Nat.le_of_ble_eq_true rfl, Nat.le_of_ble_eq_true rfl⟩ (fun v S' H locs hq I => ?_)
    obtain ⟨rfl, eS⟩ := hq
    rw [eS] at I
    refine zr_top (y := 1) (if_neg hb0) ?_
    have t3q := t3 q
    refine lv_if_ne (tgt := 19) hx hb dX4_wrong_10 (by decide) (fun _ => ?_) (fun h9 => absurd h9 (fun h8 => absurd ((nI_eq (a := 1) (b := 0) (by omega) (by omega)).mp h8) (by omega)))
    refine lv_aload_n hx hb dX4_wrong_19 rfl (lv_at hl 0 rfl) ?_
    refine zg_Model_opened (v := ar 2) C I m1 zm_511 ((m4 2 (by decide)).1) dX4_wrong_20 ?_
    refine lv_iload_n hx hb dX4_wrong_23 rfl (lv_at hl 1 rfl) ?_
    refine zr_zald (v := nI (T.2 2 q)) C I (m4 2 (by decide)).2.1 (by rw [show zh_N Z2 (ar 2) = 16 from (m4 2 (by decide)).2.2.1]; exact vp_in_nI (by omega) (by omega)) (by rw [nI_clamp (by omega)]; exact (m4 2 (by decide)).2.2.2 q (show q < 16 by omega)) dX4_wrong_24 ?_
    refine lv_if_eq (tgt := 36) hx hb dX4_wrong_25 (by decide) (fun c25 => ?_) (fun c25 => ?_)
    · have c25 : (T.2 2 q) = 0 := (nI_eq (a := T.2 2 q) (b := 0) (by omega) (by omega)).mp c25
      refine lv_aload_n hx hb dX4_wrong_36 rfl (lv_at hl 0 rfl) ?_
      refine lv_iconst (v := 2) hx hb dX4_wrong_37 (by decide) ?_
      refine zc_V (n := 1) (rest := []) C I m1 rfl rfl (k_X4_fails l g Z2 mo 2 m1) zm_575 zm_576 zm_15 zm_28 zm_577 rfl hl.1 dX4_wrong_38 (by decide +kernel) rfl ⟨Nat.le_of_ble_eq_true rfl, Nat.le_of_ble_eq_true rfl⟩ (Nat.le_of_ble_eq_true rfl) ⟨Nat.le_of_ble_eq_true rfl, Nat.le_of_ble_eq_true rfl⟩ (fun v S' H locs hq I => ?_)
      obtain ⟨rfl, eS⟩ := hq
      rw [eS] at I
      have hcF : zc_wrong T (nI q) = 2 := (by unfold zc_wrong; rw [if_neg hb0, hb0z, if_pos c25])
      exact zr_iret C I hr hlk (⟨(zI_s _ _ _ _).trans (by rw [hcF]; rfl), MR_I M1 20 _ (by decide) (by decide), fun a ha => hk a ha, 0, rfl, fun h => absurd (hcF.symm.trans h) (by decide)⟩) (Nat.le_of_ble_eq_true rfl) (Nat.le_of_ble_eq_true rfl) dX4_wrong_41
    · have c25 : ¬ (T.2 2 q) = 0 := fun h9 => c25 ((nI_eq (a := T.2 2 q) (b := 0) (by omega) (by omega)).mpr h9)
      refine lv_aload_n hx hb dX4_wrong_28 rfl (lv_at hl 0 rfl) ?_
      refine lv_iload_n hx hb dX4_wrong_29 rfl (lv_at hl 1 rfl) ?_
      refine zc_V (n := 1) (rest := []) C I m1 rfl rfl (k_X4_firstWrong l g Z2 T mo ar hT M1 q (by omega)) zm_663 zm_664 zm_21 zm_28 zm_665 rfl hl.1 dX4_wrong_30 (by decide +kernel) rfl ⟨Nat.le_of_ble_eq_true rfl, Nat.le_of_ble_eq_true rfl⟩ (Nat.le_of_ble_eq_true rfl) ⟨Nat.le_of_ble_eq_true rfl, Nat.le_of_ble_eq_true rfl⟩ (fun v S' H locs hq I => ?_)
      obtain ⟨rfl, hw⟩ := hq
      refine lv_goto (tgt := 41) hx hb dX4_wrong_33 (by decide) ?_
      have hc : zc_wrong T (nI q) = 0 := by unfold zc_wrong; rw [if_neg hb0, hb0z, if_neg c25]
      exact zr_iret C I hr hlk (⟨((zI_w hw mo (by decide) (by decide)).trans g20).trans (by rw [hc]; rfl), MR_w M1 hw, zk_tr hk (zk_w hw), _, rfl, fun _ => by rw [hb0z]⟩) (Nat.le_of_ble_eq_true rfl) (Nat.le_of_ble_eq_true rfl) dX4_wrong_41

set_option maxRecDepth 100000 in
set_option maxHeartbeats 4000000 in
theorem k_X4_counts (l : Launch) (g : zG) (S : zS) (T : zT) (mo : Nat) (ar : Nat → Nat) (hT : zt_ok T) (hM : MR S T mo ar) (f v : Nat) (hf3 : f ≤ 1000) (hv3 : v ≤ 1000) : zM l yX4_counts cX4_counts 5 (some .int) (zrm 0 0 0) g [.ref mo, .int (nI f), .int (nI v)] S (fun w S' => w = some (.int (nI (zt_cnt T f v T.1.2))) ∧ S' = S) := by
  refine zM_of (nm := "counts") (by decide) rfl (Nat.le_of_ble_eq_true rfl) ?_
  intro p e s m args below meth c A ls C hr hlk hin I hl
  have C : CallFix p m c cX4_counts 5 s args zc_W RX4 := C
  have hx := C.1
  have hb := C.2.1
  have hl : lv_has ls 5 [(0, .ref mo), (1, .int (nI f)), (2, .int (nI v))] := hl
  obtain ⟨m1, m2, m3, m4, m5⟩ := id hM
  obtain ⟨t1, t2, t3, t4, t5, t6, t7⟩ := id hT
  have loop : ∀ (n k : Nat) (ls : Array Slot) (H : Heap) (locs : List Loc), k + n = T.1.2 → zh_V g A s [] S H locs → lv_has ls 5 [(4, .int (nI k)), (3, .int (nI (zt_cnt T f v k))), (0, .ref mo), (1, .int (nI f)), (2, .int (nI v))] → W p l e (zrm 0 0 0) s m args below meth c H locs 0 0 (MQ below (zh_Po g A (fun w S' => w = some (.int (nI (zt_cnt T f v T.1.2))) ∧ S' = S)) args s (zrm 0 0 0).cells (zrm 0 0 0).slots A) (F0 m 5 ls []) := by
    intro n
    induction n with
    | zero =>
      intro k ls H locs hn I hl
      have hcl := zt_cnt_le T f v k
      refine lv_iload hx hb dX4_counts_5 (lv_at hl 0 rfl) ?_
      refine lv_aload_n hx hb dX4_counts_7 rfl (lv_at hl 2 rfl) ?_
      refine zg_Model_entries (v := nI T.1.2) C I m1 zm_514 (m3) dX4_counts_8 ?_
      refine lv_icmp_ge (tgt := 64) hx hb dX4_counts_11 (by decide) (fun _ => ?_) (fun h9 => absurd ((nI_leI (a := T.1.2) (b := k) (by omega) (by omega)).mpr (by omega)) h9)
      refine lv_iload_n hx hb dX4_counts_64 rfl (lv_at hl 1 rfl) ?_
      have ek : k = T.1.2 := by omega
      exact zr_iret C I hr hlk (⟨by rw [ek], rfl⟩) (Nat.le_of_ble_eq_true rfl) (Nat.le_of_ble_eq_true rfl) dX4_counts_65
    | succ n ih =>
      intro k ls H locs hn I hl
      have hcl := zt_cnt_le T f v k
      have t5k := t5 k (by omega)
      refine lv_iload hx hb dX4_counts_5 (lv_at hl 0 rfl) ?_
      refine lv_aload_n hx hb dX4_counts_7 rfl (lv_at hl 2 rfl) ?_
      refine zg_Model_entries (v := nI T.1.2) C I m1 zm_514 (m3) dX4_counts_8 ?_
      refine lv_icmp_ge (tgt := 64) hx hb dX4_counts_11 (by decide) (fun h9 => absurd h9 (fun h8 => absurd ((nI_leI (a := T.1.2) (b := k) (by omega) (by omega)).mp h8) (by omega))) (fun _ => ?_)
      refine lv_iload_n hx hb dX4_counts_14 rfl (lv_at hl 1 rfl) ?_
      refine lv_aload_n hx hb dX4_counts_15 rfl (lv_at hl 2 rfl) ?_
      refine zg_Model_struck (v := ar 12) C I m1 zm_522 ((m4 12 (by decide)).1) dX4_counts_16 ?_
      refine lv_iload hx hb dX4_counts_19 (lv_at hl 0 rfl) ?_
      refine zr_zald (v := nI (T.2 12 k)) C I (m4 12 (by decide)).2.1 (by rw [show zh_N S (ar 12) = 100 from (m4 12 (by decide)).2.2.1]; exact vp_in_nI (by omega) (by omega)) (by rw [nI_clamp (by omega)]; exact (m4 12 (by decide)).2.2.2 k (show k < 100 by omega)) dX4_counts_21 ?_
      refine lv_if_ne (tgt := 55) hx hb dX4_counts_22 (by decide) (fun c22 => ?_) (fun c22 => ?_)
      · have c22 : ¬ (T.2 12 k) = 0 := fun h9 => c22 ((nI_eq (a := T.2 12 k) (b := 0) (by omega) (by omega)).mpr h9)
        refine lv_iconst (v := 0) hx hb dX4_counts_55 (by decide) ?_
        refine lv_iadd hx hb dX4_counts_56 ?_
        refine zr_top (y := nI ((zt_cnt T f v k) + 0)) (nI_add (zt_cnt T f v k) 0) ?_
        refine lv_istore_n (lv' := [(3, .int (nI ((zt_cnt T f v k) + 0))), (4, .int (nI k)), (0, .ref mo), (1, .int (nI f)), (2, .int (nI v))]) hx hb dX4_counts_57 rfl hl (by decide) rfl (fun ls hl => ?_)
        refine lv_iinc (v := nI (k + 1)) (lv' := [(4, .int (nI (k + 1))), (3, .int (nI ((zt_cnt T f v k) + 0))), (0, .ref mo), (1, .int (nI f)), (2, .int (nI v))]) hx hb dX4_counts_58 hl (k := 1) rfl (nI_add k 1) (by decide) rfl (fun ls hl => ?_)
        refine lv_goto (tgt := 5) hx hb dX4_counts_61 (by decide) ?_
        have hl := lv_sub (l' := [(4, .int (nI (k + 1))), (3, .int (nI ((zt_cnt T f v k) + 0))), (0, .ref mo), (1, .int (nI f)), (2, .int (nI v))]) hl [0, 1, 2, 3, 4] rfl
        have e9 := zt_cnt_n T (f := f) (v := v) (k := k) (by omega)
        rw [← e9] at hl
        exact ih (k + 1) ls _ _ (by omega) I hl
      · have c22 : (T.2 12 k) = 0 := (nI_eq (a := T.2 12 k) (b := 0) (by omega) (by omega)).mp c22
        refine lv_aload_n hx hb dX4_counts_25 rfl (lv_at hl 2 rfl) ?_
        refine zg_Model_sides (v := ar 8) C I m1 zm_518 ((m4 8 (by decide)).1) dX4_counts_26 ?_
        refine lv_iload hx hb dX4_counts_29 (lv_at hl 0 rfl) ?_
        refine zr_iald (v := nI (T.2 8 k)) C I (m4 8 (by decide)).2.1 (by rw [show zh_N S (ar 8) = 100 from (m4 8 (by decide)).2.2.1]; exact vp_in_nI (by omega) (by omega)) (by rw [nI_clamp (by omega)]; exact (m4 8 (by decide)).2.2.2 k (show k < 100 by omega)) dX4_counts_31 ?_
        refine lv_iload_n hx hb dX4_counts_32 rfl (lv_at hl 3 rfl) ?_
        refine lv_icmp_ne (tgt := 55) hx hb dX4_counts_33 (by decide) (fun c33 => ?_) (fun c33 => ?_)
        · have c33 : ¬ (T.2 8 k) = f := fun h9 => c33 ((nI_eq (a := T.2 8 k) (b := f) (by omega) (by omega)).mpr h9)
          refine lv_iconst (v := 0) hx hb dX4_counts_55 (by decide) ?_
          refine lv_iadd hx hb dX4_counts_56 ?_
          refine zr_top (y := nI ((zt_cnt T f v k) + 0)) (nI_add (zt_cnt T f v k) 0) ?_
          refine lv_istore_n (lv' := [(3, .int (nI ((zt_cnt T f v k) + 0))), (4, .int (nI k)), (0, .ref mo), (1, .int (nI f)), (2, .int (nI v))]) hx hb dX4_counts_57 rfl hl (by decide) rfl (fun ls hl => ?_)
          refine lv_iinc (v := nI (k + 1)) (lv' := [(4, .int (nI (k + 1))), (3, .int (nI ((zt_cnt T f v k) + 0))), (0, .ref mo), (1, .int (nI f)), (2, .int (nI v))]) hx hb dX4_counts_58 hl (k := 1) rfl (nI_add k 1) (by decide) rfl (fun ls hl => ?_)
          refine lv_goto (tgt := 5) hx hb dX4_counts_61 (by decide) ?_
          have hl := lv_sub (l' := [(4, .int (nI (k + 1))), (3, .int (nI ((zt_cnt T f v k) + 0))), (0, .ref mo), (1, .int (nI f)), (2, .int (nI v))]) hl [0, 1, 2, 3, 4] rfl
          have e9 := zt_cnt_n T (f := f) (v := v) (k := k) (by omega)
          rw [← e9] at hl
          exact ih (k + 1) ls _ _ (by omega) I hl
        · have c33 : (T.2 8 k) = f := (nI_eq (a := T.2 8 k) (b := f) (by omega) (by omega)).mp c33
          refine lv_aload_n hx hb dX4_counts_36 rfl (lv_at hl 2 rfl) ?_
          refine zg_Model_value (v := ar 9) C I m1 zm_519 ((m4 9 (by decide)).1) dX4_counts_37 ?_
          refine lv_iload hx hb dX4_counts_40 (lv_at hl 0 rfl) ?_
          refine zr_iald (v := nI (T.2 9 k)) C I (m4 9 (by decide)).2.1 (by rw [show zh_N S (ar 9) = 100 from (m4 9 (by decide)).2.2.1]; exact vp_in_nI (by omega) (by omega)) (by rw [nI_clamp (by omega)]; exact (m4 9 (by decide)).2.2.2 k (show k < 100 by omega)) dX4_counts_42 ?_
          refine lv_iload_n hx hb dX4_counts_43 rfl (lv_at hl 4 rfl) ?_
          refine lv_icmp_eq (tgt := 51) hx hb dX4_counts_44 (by decide) (fun c44 => ?_) (fun c44 => ?_)
          · have c44 : (T.2 9 k) = v := (nI_eq (a := T.2 9 k) (b := v) (by omega) (by omega)).mp c44
            refine lv_iconst (v := 1) hx hb dX4_counts_51 (by decide) ?_
            refine lv_goto (tgt := 56) hx hb dX4_counts_52 (by decide) ?_
            refine lv_iadd hx hb dX4_counts_56 ?_
            refine zr_top (y := nI ((zt_cnt T f v k) + 1)) (nI_add (zt_cnt T f v k) 1) ?_
            refine lv_istore_n (lv' := [(3, .int (nI ((zt_cnt T f v k) + 1))), (4, .int (nI k)), (0, .ref mo), (1, .int (nI f)), (2, .int (nI v))]) hx hb dX4_counts_57 rfl hl (by decide) rfl (fun ls hl => ?_)
            refine lv_iinc (v := nI (k + 1)) (lv' := [(4, .int (nI (k + 1))), (3, .int (nI ((zt_cnt T f v k) + 1))), (0, .ref mo), (1, .int (nI f)), (2, .int (nI v))]) hx hb dX4_counts_58 hl (k := 1) rfl (nI_add k 1) (by decide) rfl (fun ls hl => ?_)
            refine lv_goto (tgt := 5) hx hb dX4_counts_61 (by decide) ?_
            have hl := lv_sub (l' := [(4, .int (nI (k + 1))), (3, .int (nI ((zt_cnt T f v k) + 1))), (0, .ref mo), (1, .int (nI f)), (2, .int (nI v))]) hl [0, 1, 2, 3, 4] rfl
            have e9 := zt_cnt_y T (f := f) (v := v) (k := k) (by omega)
            rw [← e9] at hl
            exact ih (k + 1) ls _ _ (by omega) I hl
          · have c44 : ¬ (T.2 9 k) = v := fun h9 => c44 ((nI_eq (a := T.2 9 k) (b := v) (by omega) (by omega)).mpr h9)
            refine lv_iload_n hx hb dX4_counts_47 rfl (lv_at hl 4 rfl) ?_
            refine lv_if_ne (tgt := 55) hx hb dX4_counts_48 (by decide) (fun c48 => ?_) (fun c48 => ?_)
            · have c48 : ¬ v = 0 := fun h9 => c48 ((nI_eq (a := v) (b := 0) (by omega) (by omega)).mpr h9)
              refine lv_iconst (v := 0) hx hb dX4_counts_55 (by decide) ?_
              refine lv_iadd hx hb dX4_counts_56 ?_
              refine zr_top (y := nI ((zt_cnt T f v k) + 0)) (nI_add (zt_cnt T f v k) 0) ?_
              refine lv_istore_n (lv' := [(3, .int (nI ((zt_cnt T f v k) + 0))), (4, .int (nI k)), (0, .ref mo), (1, .int (nI f)), (2, .int (nI v))]) hx hb dX4_counts_57 rfl hl (by decide) rfl (fun ls hl => ?_)
              refine lv_iinc (v := nI (k + 1)) (lv' := [(4, .int (nI (k + 1))), (3, .int (nI ((zt_cnt T f v k) + 0))), (0, .ref mo), (1, .int (nI f)), (2, .int (nI v))]) hx hb dX4_counts_58 hl (k := 1) rfl (nI_add k 1) (by decide) rfl (fun ls hl => ?_)
              refine lv_goto (tgt := 5) hx hb dX4_counts_61 (by decide) ?_
              have hl := lv_sub (l' := [(4, .int (nI (k + 1))), (3, .int (nI ((zt_cnt T f v k) + 0))), (0, .ref mo), (1, .int (nI f)), (2, .int (nI v))]) hl [0, 1, 2, 3, 4] rfl
              have e9 := zt_cnt_n T (f := f) (v := v) (k := k) (by omega)
              rw [← e9] at hl
              exact ih (k + 1) ls _ _ (by omega) I hl
            · have c48 : v = 0 := (nI_eq (a := v) (b := 0) (by omega) (by omega)).mp c48
              refine lv_iconst (v := 1) hx hb dX4_counts_51 (by decide) ?_
              refine lv_goto (tgt := 56) hx hb dX4_counts_52 (by decide) ?_
              refine lv_iadd hx hb dX4_counts_56 ?_
              refine zr_top (y := nI ((zt_cnt T f v k) + 1)) (nI_add (zt_cnt T f v k) 1) ?_
              refine lv_istore_n (lv' := [(3, .int (nI ((zt_cnt T f v k) + 1))), (4, .int (nI k)), (0, .ref mo), (1, .int (nI f)), (2, .int (nI v))]) hx hb dX4_counts_57 rfl hl (by decide) rfl (fun ls hl => ?_)
              refine lv_iinc (v := nI (k + 1)) (lv' := [(4, .int (nI (k + 1))), (3, .int (nI ((zt_cnt T f v k) + 1))), (0, .ref mo), (1, .int (nI f)), (2, .int (nI v))]) hx hb dX4_counts_58 hl (k := 1) rfl (nI_add k 1) (by decide) rfl (fun ls hl => ?_)
              refine lv_goto (tgt := 5) hx hb dX4_counts_61 (by decide) ?_
              have hl := lv_sub (l' := [(4, .int (nI (k + 1))), (3, .int (nI ((zt_cnt T f v k) + 1))), (0, .ref mo), (1, .int (nI f)), (2, .int (nI v))]) hl [0, 1, 2, 3, 4] rfl
              have e9 := zt_cnt_y T (f := f) (v := v) (k := k) (by omega)
              rw [← e9] at hl
              exact ih (k + 1) ls _ _ (by omega) I hl
  refine lv_iconst (v := 0) hx hb dX4_counts_0 (by decide) ?_
  refine lv_istore_n (lv' := [(3, .int 0), (0, .ref mo), (1, .int (nI f)), (2, .int (nI v))]) hx hb dX4_counts_1 rfl hl (by decide) rfl (fun ls hl => ?_)
  refine lv_iconst (v := 0) hx hb dX4_counts_2 (by decide) ?_
  refine lv_istore (lv' := [(4, .int 0), (3, .int 0), (0, .ref mo), (1, .int (nI f)), (2, .int (nI v))]) hx hb dX4_counts_3 hl (by decide) rfl (fun ls hl => ?_)
  have hl := lv_sub (l' := [(4, .int 0), (3, .int 0), (0, .ref mo), (1, .int (nI f)), (2, .int (nI v))]) hl [0, 1, 2, 3, 4] rfl
  exact loop T.1.2 0 ls _ _ (by omega) I hl

set_option maxRecDepth 100000 in
set_option maxHeartbeats 4000000 in
theorem k_X4_count (l : Launch) (g : zG) (S : zS) (T : zT) (mo : Nat) (ar : Nat → Nat) (hT : zt_ok T) (hM : MR S T mo ar) (i y : Int32) : zM l yX4_count cX4_count 3 (some .int) (zrm 3 0 0) g [.ref mo, .int i, .int y] S (fun w S' => zmQ S S' T mo ar (zc_count i y) (nI (zt_cnt T (zx i) (zx y) T.1.2)) w) := by
  refine zM_of (nm := "count") (by decide) rfl (Nat.le_of_ble_eq_true rfl) ?_
  intro p e s m args below meth c A ls C hr hlk hin I hl
  have C : CallFix p m c cX4_count 3 s args zc_W RX4 := C
  have hx := C.1
  have hb := C.2.1
  have hl : lv_has ls 3 [(0, .ref mo), (1, .int i), (2, .int y)] := hl
  obtain ⟨m1, m2, m3, m4, m5⟩ := id hM
  obtain ⟨t1, t2, t3, t4, t5, t6, t7⟩ := id hT
  refine lv_aload_n hx hb dX4_count_0 rfl (lv_at hl 0 rfl) ?_
  refine lv_iconst (v := 0) hx hb dX4_count_1 (by decide) ?_
  refine zp_Model_thrown C I m1 zm_507 dX4_count_2 (fun H locs I => ?_)
  have M1 : MR (zh_sI S 20 mo 0) T mo ar := MR_I hM 20 _ (by decide) (by decide)
  have hk : zk_ S (zh_sI S 20 mo 0) := zk_rf S
  have g20 : zh_I (zh_sI S 20 mo 0) 20 mo = 0 := zI_s _ _ _ _
  obtain ⟨Z3, hZ3⟩ : ∃ z, z = (zh_sI S 20 mo 0) := ⟨_, rfl⟩
  rw [← hZ3] at I M1 hk g20
  clear hZ3
  obtain ⟨m1, m2, m3, m4, m5⟩ := id M1
  by_cases hfx : i < 2 ∨ 1000 < i
  · refine lv_iload_n hx hb dX4_count_5 rfl (lv_at hl 1 rfl) ?_
    refine zc_S (n := 1) (rest := []) C I (k_X4_isDie l g Z3 i) zm_615 zm_616 zm_28 zm_617 rfl hl.1 dX4_count_6 (by decide +kernel) rfl ⟨Nat.le_of_ble_eq_true rfl, Nat.le_of_ble_eq_true rfl⟩ (Nat.le_of_ble_eq_true rfl) ⟨Nat.le_of_ble_eq_true rfl, Nat.le_of_ble_eq_true rfl⟩ (fun v S' H locs hq I => ?_)
    obtain ⟨rfl, eS⟩ := hq
    rw [eS] at I
    refine zr_top (y := 0) (if_pos hfx) ?_
    refine lv_if_eq (tgt := 30) hx hb dX4_count_9 (by decide) (fun _ => ?_) (fun h9 => absurd ((nI_eq (a := 0) (b := 0) (by omega) (by omega)).mpr (by omega)) h9)
    refine lv_aload_n hx hb dX4_count_30 rfl (lv_at hl 0 rfl) ?_
    refine lv_iconst (v := 1) hx hb dX4_count_31 (by decide) ?_
    refine zc_V (n := 1) (rest := []) C I m1 rfl rfl (k_X4_fails l g Z3 mo 1 m1) zm_575 zm_576 zm_15 zm_28 zm_577 rfl hl.1 dX4_count_32 (by decide +kernel) rfl ⟨Nat.le_of_ble_eq_true rfl, Nat.le_of_ble_eq_true rfl⟩ (Nat.le_of_ble_eq_true rfl) ⟨Nat.le_of_ble_eq_true rfl, Nat.le_of_ble_eq_true rfl⟩ (fun v S' H locs hq I => ?_)
    obtain ⟨rfl, eS⟩ := hq
    rw [eS] at I
    have hcF : zc_count i y = 1 := if_pos (Or.inl hfx)
    exact zr_iret C I hr hlk (⟨(zI_s _ _ _ _).trans (by rw [hcF]; rfl), MR_I M1 20 _ (by decide) (by decide), fun a ha => hk a ha, 0, rfl, fun h => absurd (hcF.symm.trans h) (by decide)⟩) (Nat.le_of_ble_eq_true rfl) (Nat.le_of_ble_eq_true rfl) dX4_count_35
  · obtain ⟨f, hf2, hf3, rfl⟩ := zi_faces hfx
    have hfz : zx (nI f) = f := zx_nI (by omega)
    refine lv_iload_n hx hb dX4_count_5 rfl (lv_at hl 1 rfl) ?_
    refine zc_S (n := 1) (rest := []) C I (k_X4_isDie l g Z3 (nI f)) zm_615 zm_616 zm_28 zm_617 rfl hl.1 dX4_count_6 (by decide +kernel) rfl ⟨Nat.le_of_ble_eq_true rfl, Nat.le_of_ble_eq_true rfl⟩ (Nat.le_of_ble_eq_true rfl) ⟨Nat.le_of_ble_eq_true rfl, Nat.le_of_ble_eq_true rfl⟩ (fun v S' H locs hq I => ?_)
    obtain ⟨rfl, eS⟩ := hq
    rw [eS] at I
    refine zr_top (y := 1) (if_neg hfx) ?_
    refine lv_if_eq (tgt := 30) hx hb dX4_count_9 (by decide) (fun h9 => absurd h9 (fun h8 => absurd ((nI_eq (a := 1) (b := 0) (by omega) (by omega)).mp h8) (by omega))) (fun _ => ?_)
    refine lv_iload_n hx hb dX4_count_12 rfl (lv_at hl 2 rfl) ?_
    refine lv_iconst (v := 1) hx hb dX4_count_13 (by decide) ?_
    refine lv_iload_n hx hb dX4_count_14 rfl (lv_at hl 1 rfl) ?_
    refine zc_S (n := 3) (rest := []) C I (k_X4_in l g Z3 y 1 (nI f)) zm_572 zm_573 zm_28 zm_574 rfl hl.1 dX4_count_15 (by decide +kernel) rfl ⟨Nat.le_of_ble_eq_true rfl, Nat.le_of_ble_eq_true rfl⟩ (Nat.le_of_ble_eq_true rfl) ⟨Nat.le_of_ble_eq_true rfl, Nat.le_of_ble_eq_true rfl⟩ (fun v S' H locs hq I => ?_)
    obtain ⟨rfl, eS⟩ := hq
    rw [eS] at I
    by_cases hy : y < 1 ∨ nI f < y
    · refine zr_top (y := 0) (if_pos hy) ?_
      refine lv_if_eq (tgt := 30) hx hb dX4_count_18 (by decide) (fun _ => ?_) (fun h9 => absurd ((nI_eq (a := 0) (b := 0) (by omega) (by omega)).mpr (by omega)) h9)
      refine lv_aload_n hx hb dX4_count_30 rfl (lv_at hl 0 rfl) ?_
      refine lv_iconst (v := 1) hx hb dX4_count_31 (by decide) ?_
      refine zc_V (n := 1) (rest := []) C I m1 rfl rfl (k_X4_fails l g Z3 mo 1 m1) zm_575 zm_576 zm_15 zm_28 zm_577 rfl hl.1 dX4_count_32 (by decide +kernel) rfl ⟨Nat.le_of_ble_eq_true rfl, Nat.le_of_ble_eq_true rfl⟩ (Nat.le_of_ble_eq_true rfl) ⟨Nat.le_of_ble_eq_true rfl, Nat.le_of_ble_eq_true rfl⟩ (fun v S' H locs hq I => ?_)
      obtain ⟨rfl, eS⟩ := hq
      rw [eS] at I
      have hcF : zc_count (nI f) y = 1 := if_pos (Or.inr hy)
      exact zr_iret C I hr hlk (⟨(zI_s _ _ _ _).trans (by rw [hcF]; rfl), MR_I M1 20 _ (by decide) (by decide), fun a ha => hk a ha, 0, rfl, fun h => absurd (hcF.symm.trans h) (by decide)⟩) (Nat.le_of_ble_eq_true rfl) (Nat.le_of_ble_eq_true rfl) dX4_count_35
    · have hc : zc_count (nI f) y = 0 := if_neg (fun h => h.elim hfx hy)
      refine zr_top (y := 1) (if_neg hy) ?_
      obtain ⟨v, hv1, hv2, rfl⟩ := zi_valE (by omega) hy
      have hvz : zx (nI v) = v := zx_nI (by omega)
      refine lv_if_eq (tgt := 30) hx hb dX4_count_18 (by decide) (fun h9 => absurd h9 (fun h8 => absurd ((nI_eq (a := 1) (b := 0) (by omega) (by omega)).mp h8) (by omega))) (fun _ => ?_)
      refine lv_aload_n hx hb dX4_count_21 rfl (lv_at hl 0 rfl) ?_
      refine lv_iload_n hx hb dX4_count_22 rfl (lv_at hl 1 rfl) ?_
      refine lv_iload_n hx hb dX4_count_23 rfl (lv_at hl 2 rfl) ?_
      refine zc_V (n := 2) (rest := []) C I m1 rfl rfl (k_X4_counts l g Z3 T mo ar hT M1 f v (by omega) (by omega)) zm_678 zm_679 zm_22 zm_28 zm_680 rfl hl.1 dX4_count_24 (by decide +kernel) rfl ⟨Nat.le_of_ble_eq_true rfl, Nat.le_of_ble_eq_true rfl⟩ (Nat.le_of_ble_eq_true rfl) ⟨Nat.le_of_ble_eq_true rfl, Nat.le_of_ble_eq_true rfl⟩ (fun v S' H locs hq I => ?_)
      obtain ⟨rfl, eS⟩ := hq
      rw [eS] at I
      refine lv_goto (tgt := 35) hx hb dX4_count_27 (by decide) ?_
      exact zr_iret C I hr hlk (⟨g20.trans (by rw [hc]; rfl), M1, hk, _, rfl, fun _ => by rw [hfz, hvz]⟩) (Nat.le_of_ble_eq_true rfl) (Nat.le_of_ble_eq_true rfl) dX4_count_35

set_option maxRecDepth 100000 in
set_option maxHeartbeats 4000000 in
theorem k_X4_total (l : Launch) (g : zG) (S : zS) (T : zT) (mo : Nat) (ar : Nat → Nat) (hT : zt_ok T) (hM : MR S T mo ar) (i : Int32) : zM l yX4_total cX4_total 4 (some .int) (zrm 3 0 0) g [.ref mo, .int i] S (fun w S' => zmQ S S' T mo ar (zc_tab i) (nI (zt_total T (zx i) T.1.2)) w) := by
  refine zM_of (nm := "total") (by decide) rfl (Nat.le_of_ble_eq_true rfl) ?_
  intro p e s m args below meth c A ls C hr hlk hin I hl
  have C : CallFix p m c cX4_total 4 s args zc_W RX4 := C
  have hx := C.1
  have hb := C.2.1
  have hl : lv_has ls 4 [(0, .ref mo), (1, .int i)] := hl
  obtain ⟨m1, m2, m3, m4, m5⟩ := id hM
  obtain ⟨t1, t2, t3, t4, t5, t6, t7⟩ := id hT
  refine lv_aload_n hx hb dX4_total_0 rfl (lv_at hl 0 rfl) ?_
  refine lv_iconst (v := 0) hx hb dX4_total_1 (by decide) ?_
  refine zp_Model_thrown C I m1 zm_507 dX4_total_2 (fun H locs I => ?_)
  have M1 : MR (zh_sI S 20 mo 0) T mo ar := MR_I hM 20 _ (by decide) (by decide)
  have hk : zk_ S (zh_sI S 20 mo 0) := zk_rf S
  have g20 : zh_I (zh_sI S 20 mo 0) 20 mo = 0 := zI_s _ _ _ _
  obtain ⟨Z4, hZ4⟩ : ∃ z, z = (zh_sI S 20 mo 0) := ⟨_, rfl⟩
  rw [← hZ4] at I M1 hk g20
  clear hZ4
  obtain ⟨m1, m2, m3, m4, m5⟩ := id M1
  have hvals : ∀ k : Nat, k < T.1.2 → T.2 9 k ≤ 1000 := fun k hk => Nat.le_trans (t5 k hk).2.2.2.2.2.2.1 (t5 k hk).2.2.2.2.1
  rcases zi_cases i (n := 4) (by decide) with hb0 | ⟨hb0, hj0, hi0⟩
  · refine lv_iload_n hx hb dX4_total_5 rfl (lv_at hl 1 rfl) ?_
    refine zc_S (n := 1) (rest := []) C I (k_X4_isTable l g Z4 i) zm_608 zm_609 zm_28 zm_610 rfl hl.1 dX4_total_6 (by decide +kernel) rfl ⟨Nat.le_of_ble_eq_true rfl, Nat.le_of_ble_eq_true rfl⟩ (Nat.le_of_ble_eq_true rfl) ⟨Nat.le_of_ble_eq_true rfl, Nat.le_of_ble_eq_true rfl⟩ (fun v S' H locs hq I => ?_)
    obtain ⟨rfl, eS⟩ := hq
    rw [eS] at I
    refine zr_top (y := 0) (if_pos hb0) ?_
    refine lv_if_ne (tgt := 18) hx hb dX4_total_9 (by decide) (fun h9 => absurd ((nI_eq (a := 0) (b := 0) (by omega) (by omega)).mpr (by omega)) h9) (fun _ => ?_)
    refine lv_aload_n hx hb dX4_total_12 rfl (lv_at hl 0 rfl) ?_
    refine lv_iconst (v := 1) hx hb dX4_total_13 (by decide) ?_
    refine zc_V (n := 1) (rest := []) C I m1 rfl rfl (k_X4_fails l g Z4 mo 1 m1) zm_575 zm_576 zm_15 zm_28 zm_577 rfl hl.1 dX4_total_14 (by decide +kernel) rfl ⟨Nat.le_of_ble_eq_true rfl, Nat.le_of_ble_eq_true rfl⟩ (Nat.le_of_ble_eq_true rfl) ⟨Nat.le_of_ble_eq_true rfl, Nat.le_of_ble_eq_true rfl⟩ (fun v S' H locs hq I => ?_)
    obtain ⟨rfl, eS⟩ := hq
    rw [eS] at I
    have hcF : zc_tab i = 1 := if_pos hb0
    exact zr_iret C I hr hlk (⟨(zI_s _ _ _ _).trans (by rw [hcF]; rfl), MR_I M1 20 _ (by decide) (by decide), fun a ha => hk a ha, 0, rfl, fun h => absurd (hcF.symm.trans h) (by decide)⟩) (Nat.le_of_ble_eq_true rfl) (Nat.le_of_ble_eq_true rfl) dX4_total_17
  · obtain ⟨q, hb0n, rfl⟩ : ∃ q : Nat, q < 4 ∧ i = nI q := ⟨_, hj0, hi0⟩
    clear hj0 hi0
    have hb0z : zx (nI q) = q := zx_nI (by omega)
    refine lv_iload_n hx hb dX4_total_5 rfl (lv_at hl 1 rfl) ?_
    refine zc_S (n := 1) (rest := []) C I (k_X4_isTable l g Z4 (nI q)) zm_608 zm_609 zm_28 zm_610 rfl hl.1 dX4_total_6 (by decide +kernel) rfl ⟨Nat.le_of_ble_eq_true rfl, Nat.le_of_ble_eq_true rfl⟩ (Nat.le_of_ble_eq_true rfl) ⟨Nat.le_of_ble_eq_true rfl, Nat.le_of_ble_eq_true rfl⟩ (fun v S' H locs hq I => ?_)
    obtain ⟨rfl, eS⟩ := hq
    rw [eS] at I
    refine zr_top (y := 1) (if_neg hb0) ?_
    have hc : zc_tab (nI q) = 0 := if_neg hb0
    rw [hb0z]
    have loop : ∀ (n k : Nat) (ls : Array Slot) (H : Heap) (locs : List Loc), k + n = T.1.2 → zh_V g A s [] Z4 H locs → lv_has ls 4 [(3, .int (nI k)), (2, .int (nI (zt_total T q k))), (0, .ref mo), (1, .int (nI q))] → W p l e (zrm 3 0 0) s m args below meth c H locs (0 + (zrm 1 0 0).cells) (0 + (zrm 1 0 0).slots) (MQ below (zh_Po g A (fun w S' => zmQ S S' T mo ar (zc_tab (nI q)) (nI (zt_total T q T.1.2)) w)) args s (zrm 3 0 0).cells (zrm 3 0 0).slots A) (F0 m 22 ls []) := by
      intro n
      induction n with
      | zero =>
        intro k ls H locs hn I hl
        have hcl := zt_total_le T q k (fun z hz => hvals z (by omega))
        refine lv_iload_n hx hb dX4_total_22 rfl (lv_at hl 0 rfl) ?_
        refine lv_aload_n hx hb dX4_total_23 rfl (lv_at hl 2 rfl) ?_
        refine zg_Model_entries (v := nI T.1.2) C I m1 zm_514 (m3) dX4_total_24 ?_
        refine lv_icmp_ge (tgt := 68) hx hb dX4_total_27 (by decide) (fun _ => ?_) (fun h9 => absurd ((nI_leI (a := T.1.2) (b := k) (by omega) (by omega)).mpr (by omega)) h9)
        refine lv_iload_n hx hb dX4_total_68 rfl (lv_at hl 1 rfl) ?_
        have ek : k = T.1.2 := by omega
        exact zr_iret C I hr hlk (⟨g20.trans (by rw [hc]; rfl), M1, hk, _, rfl, fun _ => by rw [ek]⟩) (Nat.le_of_ble_eq_true rfl) (Nat.le_of_ble_eq_true rfl) dX4_total_69
      | succ n ih =>
        intro k ls H locs hn I hl
        have hcl := zt_total_le T q k (fun z hz => hvals z (by omega))
        have t5k := t5 k (by omega)
        refine lv_iload_n hx hb dX4_total_22 rfl (lv_at hl 0 rfl) ?_
        refine lv_aload_n hx hb dX4_total_23 rfl (lv_at hl 2 rfl) ?_
        refine zg_Model_entries (v := nI T.1.2) C I m1 zm_514 (m3) dX4_total_24 ?_
        refine lv_icmp_ge (tgt := 68) hx hb dX4_total_27 (by decide) (fun h9 => absurd h9 (fun h8 => absurd ((nI_leI (a := T.1.2) (b := k) (by omega) (by omega)).mp h8) (by omega))) (fun _ => ?_)
        refine lv_iload_n hx hb dX4_total_30 rfl (lv_at hl 1 rfl) ?_
        refine lv_aload_n hx hb dX4_total_31 rfl (lv_at hl 2 rfl) ?_
        refine zg_Model_at (v := ar 6) C I m1 zm_516 ((m4 6 (by decide)).1) dX4_total_32 ?_
        refine lv_iload_n hx hb dX4_total_35 rfl (lv_at hl 0 rfl) ?_
        refine zr_iald (v := nI (T.2 6 k)) C I (m4 6 (by decide)).2.1 (by rw [show zh_N Z4 (ar 6) = 100 from (m4 6 (by decide)).2.2.1]; exact vp_in_nI (by omega) (by omega)) (by rw [nI_clamp (by omega)]; exact (m4 6 (by decide)).2.2.2 k (show k < 100 by omega)) dX4_total_36 ?_
        refine lv_iload_n hx hb dX4_total_37 rfl (lv_at hl 3 rfl) ?_
        refine lv_icmp_ne (tgt := 59) hx hb dX4_total_38 (by decide) (fun c38 => ?_) (fun c38 => ?_)
        · have c38 : ¬ (T.2 6 k) = q := fun h9 => c38 ((nI_eq (a := T.2 6 k) (b := q) (by omega) (by omega)).mpr h9)
          refine lv_iconst (v := 0) hx hb dX4_total_59 (by decide) ?_
          refine lv_iadd hx hb dX4_total_60 ?_
          refine zr_top (y := nI ((zt_total T q k) + 0)) (nI_add (zt_total T q k) 0) ?_
          refine lv_istore_n (lv' := [(2, .int (nI ((zt_total T q k) + 0))), (3, .int (nI k)), (0, .ref mo), (1, .int (nI q))]) hx hb dX4_total_61 rfl hl (by decide) rfl (fun ls hl => ?_)
          refine lv_iinc (v := nI (k + 1)) (lv' := [(3, .int (nI (k + 1))), (2, .int (nI ((zt_total T q k) + 0))), (0, .ref mo), (1, .int (nI q))]) hx hb dX4_total_62 hl (k := 1) rfl (nI_add k 1) (by decide) rfl (fun ls hl => ?_)
          refine lv_goto (tgt := 22) hx hb dX4_total_65 (by decide) ?_
          have hl := lv_sub (l' := [(3, .int (nI (k + 1))), (2, .int (nI ((zt_total T q k) + 0))), (0, .ref mo), (1, .int (nI q))]) hl [0, 1, 2, 3] rfl
          have e9 : zt_total T q (k + 1) = zt_total T q k + 0 := by show _ + (if _ then _ else 0) = _; rw [if_neg (by omega)]
          rw [← e9] at hl
          exact ih (k + 1) ls _ _ (by omega) I hl
        · have c38 : (T.2 6 k) = q := (nI_eq (a := T.2 6 k) (b := q) (by omega) (by omega)).mp c38
          refine lv_aload_n hx hb dX4_total_41 rfl (lv_at hl 2 rfl) ?_
          refine zg_Model_struck (v := ar 12) C I m1 zm_522 ((m4 12 (by decide)).1) dX4_total_42 ?_
          refine lv_iload_n hx hb dX4_total_45 rfl (lv_at hl 0 rfl) ?_
          refine zr_zald (v := nI (T.2 12 k)) C I (m4 12 (by decide)).2.1 (by rw [show zh_N Z4 (ar 12) = 100 from (m4 12 (by decide)).2.2.1]; exact vp_in_nI (by omega) (by omega)) (by rw [nI_clamp (by omega)]; exact (m4 12 (by decide)).2.2.2 k (show k < 100 by omega)) dX4_total_46 ?_
          refine lv_if_ne (tgt := 59) hx hb dX4_total_47 (by decide) (fun c47 => ?_) (fun c47 => ?_)
          · have c47 : ¬ (T.2 12 k) = 0 := fun h9 => c47 ((nI_eq (a := T.2 12 k) (b := 0) (by omega) (by omega)).mpr h9)
            refine lv_iconst (v := 0) hx hb dX4_total_59 (by decide) ?_
            refine lv_iadd hx hb dX4_total_60 ?_
            refine zr_top (y := nI ((zt_total T q k) + 0)) (nI_add (zt_total T q k) 0) ?_
            refine lv_istore_n (lv' := [(2, .int (nI ((zt_total T q k) + 0))), (3, .int (nI k)), (0, .ref mo), (1, .int (nI q))]) hx hb dX4_total_61 rfl hl (by decide) rfl (fun ls hl => ?_)
            refine lv_iinc (v := nI (k + 1)) (lv' := [(3, .int (nI (k + 1))), (2, .int (nI ((zt_total T q k) + 0))), (0, .ref mo), (1, .int (nI q))]) hx hb dX4_total_62 hl (k := 1) rfl (nI_add k 1) (by decide) rfl (fun ls hl => ?_)
            refine lv_goto (tgt := 22) hx hb dX4_total_65 (by decide) ?_
            have hl := lv_sub (l' := [(3, .int (nI (k + 1))), (2, .int (nI ((zt_total T q k) + 0))), (0, .ref mo), (1, .int (nI q))]) hl [0, 1, 2, 3] rfl
            have e9 : zt_total T q (k + 1) = zt_total T q k + 0 := by show _ + (if _ then _ else 0) = _; rw [if_neg (by omega)]
            rw [← e9] at hl
            exact ih (k + 1) ls _ _ (by omega) I hl
          · have c47 : (T.2 12 k) = 0 := (nI_eq (a := T.2 12 k) (b := 0) (by omega) (by omega)).mp c47
            refine lv_aload_n hx hb dX4_total_50 rfl (lv_at hl 2 rfl) ?_
            refine zg_Model_value (v := ar 9) C I m1 zm_519 ((m4 9 (by decide)).1) dX4_total_51 ?_
            refine lv_iload_n hx hb dX4_total_54 rfl (lv_at hl 0 rfl) ?_
            refine zr_iald (v := nI (T.2 9 k)) C I (m4 9 (by decide)).2.1 (by rw [show zh_N Z4 (ar 9) = 100 from (m4 9 (by decide)).2.2.1]; exact vp_in_nI (by omega) (by omega)) (by rw [nI_clamp (by omega)]; exact (m4 9 (by decide)).2.2.2 k (show k < 100 by omega)) dX4_total_55 ?_
            refine lv_goto (tgt := 60) hx hb dX4_total_56 (by decide) ?_
            refine lv_iadd hx hb dX4_total_60 ?_
            refine zr_top (y := nI ((zt_total T q k) + (T.2 9 k))) (nI_add (zt_total T q k) (T.2 9 k)) ?_
            refine lv_istore_n (lv' := [(2, .int (nI ((zt_total T q k) + (T.2 9 k)))), (3, .int (nI k)), (0, .ref mo), (1, .int (nI q))]) hx hb dX4_total_61 rfl hl (by decide) rfl (fun ls hl => ?_)
            refine lv_iinc (v := nI (k + 1)) (lv' := [(3, .int (nI (k + 1))), (2, .int (nI ((zt_total T q k) + (T.2 9 k)))), (0, .ref mo), (1, .int (nI q))]) hx hb dX4_total_62 hl (k := 1) rfl (nI_add k 1) (by decide) rfl (fun ls hl => ?_)
            refine lv_goto (tgt := 22) hx hb dX4_total_65 (by decide) ?_
            have hl := lv_sub (l' := [(3, .int (nI (k + 1))), (2, .int (nI ((zt_total T q k) + (T.2 9 k)))), (0, .ref mo), (1, .int (nI q))]) hl [0, 1, 2, 3] rfl
            have e9 : zt_total T q (k + 1) = zt_total T q k + T.2 9 k := by show _ + (if _ then _ else 0) = _; rw [if_pos (by omega)]
            rw [← e9] at hl
            exact ih (k + 1) ls _ _ (by omega) I hl
    refine lv_if_ne (tgt := 18) hx hb dX4_total_9 (by decide) (fun _ => ?_) (fun h9 => absurd h9 (fun h8 => absurd ((nI_eq (a := 1) (b := 0) (by omega) (by omega)).mp h8) (by omega)))
    refine lv_iconst (v := 0) hx hb dX4_total_18 (by decide) ?_
    refine lv_istore_n (lv' := [(2, .int 0), (0, .ref mo), (1, .int (nI q))]) hx hb dX4_total_19 rfl hl (by decide) rfl (fun ls hl => ?_)
    refine lv_iconst (v := 0) hx hb dX4_total_20 (by decide) ?_
    refine lv_istore_n (lv' := [(3, .int 0), (2, .int 0), (0, .ref mo), (1, .int (nI q))]) hx hb dX4_total_21 rfl hl (by decide) rfl (fun ls hl => ?_)
    have hl := lv_sub (l' := [(3, .int 0), (2, .int 0), (0, .ref mo), (1, .int (nI q))]) hl [0, 1, 2, 3] rfl
    exact loop T.1.2 0 ls _ _ (by omega) I hl

set_option maxRecDepth 100000 in
set_option maxHeartbeats 4000000 in
theorem k_X4_seedsOf (l : Launch) (g : zG) (S : zS) (T : zT) (mo : Nat) (ar : Nat → Nat) (hT : zt_ok T) (hM : MR S T mo ar) (i : Int32) : zM l yX4_seedsOf cX4_seedsOf 5 (some .int) (zrm 3 0 0) g [.ref mo, .int i] S (fun w S' => zmQ S S' T mo ar (zc_prom T i) (nI (zd_seeds (T.2 0 (zx i)))) w) := by
  refine zM_of (nm := "seedsOf") (by decide) rfl (Nat.le_of_ble_eq_true rfl) ?_
  intro p e s m args below meth c A ls C hr hlk hin I hl
  have C : CallFix p m c cX4_seedsOf 5 s args zc_W RX4 := C
  have hx := C.1
  have hb := C.2.1
  have hl : lv_has ls 5 [(0, .ref mo), (1, .int i)] := hl
  obtain ⟨m1, m2, m3, m4, m5⟩ := id hM
  obtain ⟨t1, t2, t3, t4, t5, t6, t7⟩ := id hT
  refine lv_aload_n hx hb dX4_seedsOf_0 rfl (lv_at hl 0 rfl) ?_
  refine lv_iconst (v := 0) hx hb dX4_seedsOf_1 (by decide) ?_
  refine zp_Model_thrown C I m1 zm_507 dX4_seedsOf_2 (fun H locs I => ?_)
  have M1 : MR (zh_sI S 20 mo 0) T mo ar := MR_I hM 20 _ (by decide) (by decide)
  have hk : zk_ S (zh_sI S 20 mo 0) := zk_rf S
  have g20 : zh_I (zh_sI S 20 mo 0) 20 mo = 0 := zI_s _ _ _ _
  obtain ⟨Z5, hZ5⟩ : ∃ z, z = (zh_sI S 20 mo 0) := ⟨_, rfl⟩
  rw [← hZ5] at I M1 hk g20
  clear hZ5
  obtain ⟨m1, m2, m3, m4, m5⟩ := id M1
  rcases zi_cases i (n := T.1.1) (by omega) with hb0 | ⟨hb0, hj0, hi0⟩
  · refine lv_aload_n hx hb dX4_seedsOf_5 rfl (lv_at hl 0 rfl) ?_
    refine lv_iload_n hx hb dX4_seedsOf_6 rfl (lv_at hl 1 rfl) ?_
    refine zc_V (n := 1) (rest := []) C I m1 rfl rfl (k_X4_isPromise l g Z5 mo T.1.1 i m1 m2 (by omega)) zm_582 zm_583 zm_16 zm_28 zm_584 rfl hl.1 dX4_seedsOf_7 (by decide +kernel) rfl ⟨Nat.le_of_ble_eq_true rfl, Nat.le_of_ble_eq_true rfl⟩ (Nat.le_of_ble_eq_true rfl) ⟨Nat.le_of_ble_eq_true rfl, Nat.le_of_ble_eq_true rfl⟩ (fun v S' H locs hq I => ?_)
    obtain ⟨rfl, eS⟩ := hq
    rw [eS] at I
    refine zr_top (y := 0) (if_pos hb0) ?_
    refine lv_if_ne (tgt := 19) hx hb dX4_seedsOf_10 (by decide) (fun h9 => absurd ((nI_eq (a := 0) (b := 0) (by omega) (by omega)).mpr (by omega)) h9) (fun _ => ?_)
    refine lv_aload_n hx hb dX4_seedsOf_13 rfl (lv_at hl 0 rfl) ?_
    refine lv_iconst (v := 1) hx hb dX4_seedsOf_14 (by decide) ?_
    refine zc_V (n := 1) (rest := []) C I m1 rfl rfl (k_X4_fails l g Z5 mo 1 m1) zm_575 zm_576 zm_15 zm_28 zm_577 rfl hl.1 dX4_seedsOf_15 (by decide +kernel) rfl ⟨Nat.le_of_ble_eq_true rfl, Nat.le_of_ble_eq_true rfl⟩ (Nat.le_of_ble_eq_true rfl) ⟨Nat.le_of_ble_eq_true rfl, Nat.le_of_ble_eq_true rfl⟩ (fun v S' H locs hq I => ?_)
    obtain ⟨rfl, eS⟩ := hq
    rw [eS] at I
    have hcF : zc_prom T i = 1 := if_pos hb0
    exact zr_iret C I hr hlk (⟨(zI_s _ _ _ _).trans (by rw [hcF]; rfl), MR_I M1 20 _ (by decide) (by decide), fun a ha => hk a ha, 0, rfl, fun h => absurd (hcF.symm.trans h) (by decide)⟩) (Nat.le_of_ble_eq_true rfl) (Nat.le_of_ble_eq_true rfl) dX4_seedsOf_18
  · obtain ⟨q, hb0n, rfl⟩ : ∃ q : Nat, q < T.1.1 ∧ i = nI q := ⟨_, hj0, hi0⟩
    clear hj0 hi0
    have hb0z : zx (nI q) = q := zx_nI (by omega)
    refine lv_aload_n hx hb dX4_seedsOf_5 rfl (lv_at hl 0 rfl) ?_
    refine lv_iload_n hx hb dX4_seedsOf_6 rfl (lv_at hl 1 rfl) ?_
    refine zc_V (n := 1) (rest := []) C I m1 rfl rfl (k_X4_isPromise l g Z5 mo T.1.1 (nI q) m1 m2 (by omega)) zm_582 zm_583 zm_16 zm_28 zm_584 rfl hl.1 dX4_seedsOf_7 (by decide +kernel) rfl ⟨Nat.le_of_ble_eq_true rfl, Nat.le_of_ble_eq_true rfl⟩ (Nat.le_of_ble_eq_true rfl) ⟨Nat.le_of_ble_eq_true rfl, Nat.le_of_ble_eq_true rfl⟩ (fun v S' H locs hq I => ?_)
    obtain ⟨rfl, eS⟩ := hq
    rw [eS] at I
    refine zr_top (y := 1) (if_neg hb0) ?_
    have hc : zc_prom T (nI q) = 0 := if_neg hb0
    rw [hb0z]
    have hs := (t3 q).1
    refine lv_if_ne (tgt := 19) hx hb dX4_seedsOf_10 (by decide) (fun _ => ?_) (fun h9 => absurd h9 (fun h8 => absurd ((nI_eq (a := 1) (b := 0) (by omega) (by omega)).mp h8) (by omega)))
    refine lv_aload_n hx hb dX4_seedsOf_19 rfl (lv_at hl 0 rfl) ?_
    refine zg_Model_seed (v := ar 0) C I m1 zm_509 ((m4 0 (by decide)).1) dX4_seedsOf_20 ?_
    refine lv_iload_n hx hb dX4_seedsOf_23 rfl (lv_at hl 1 rfl) ?_
    refine zr_iald (v := nI (T.2 0 q)) C I (m4 0 (by decide)).2.1 (by rw [show zh_N Z5 (ar 0) = 16 from (m4 0 (by decide)).2.2.1]; exact vp_in_nI (by omega) (by omega)) (by rw [nI_clamp (by omega)]; exact (m4 0 (by decide)).2.2.2 q (show q < 16 by omega)) dX4_seedsOf_24 ?_
    refine zc_S (n := 1) (rest := []) C I (k_X4_signOf l g Z5 (T.2 0 q) hs) zm_585 zm_586 zm_28 zm_587 rfl hl.1 dX4_seedsOf_25 (by decide +kernel) rfl ⟨Nat.le_of_ble_eq_true rfl, Nat.le_of_ble_eq_true rfl⟩ (Nat.le_of_ble_eq_true rfl) ⟨Nat.le_of_ble_eq_true rfl, Nat.le_of_ble_eq_true rfl⟩ (fun v S' H locs hq I => ?_)
    obtain ⟨rfl, eS⟩ := hq
    rw [eS] at I
    obtain ⟨sg, hsg⟩ : ∃ sg, sg = zd_sign (T.2 0 q) := ⟨_, rfl⟩
    rw [← hsg]
    have hsgl : sg < 10007 := by rw [hsg]; exact Nat.mod_lt _ (by decide)
    have hcle : ∀ n : Nat, zd_cnt sg n ≤ n := fun n => by
      induction n with
      | zero => exact Nat.le_refl _
      | succ n ih => show zd_cnt sg n + (if _ then 1 else 0) ≤ n + 1; split <;> omega
    have loop : ∀ (n k : Nat) (ls : Array Slot) (H : Heap) (locs : List Loc), k + n = 65536 → zh_V g A s [] Z5 H locs → lv_has ls 5 [(4, .int (nI k)), (3, .int (nI (zd_cnt sg k))), (2, .int (nI sg)), (0, .ref mo), (1, .int (nI q))] → W p l e (zrm 3 0 0) s m args below meth c H locs (0 + (zrm 1 0 0).cells + (zrm 0 0 0).cells) (0 + (zrm 1 0 0).slots + (zrm 0 0 0).slots) (MQ below (zh_Po g A (fun w S' => zmQ S S' T mo ar (zc_prom T (nI q)) (nI (zd_seeds (T.2 0 q))) w)) args s (zrm 3 0 0).cells (zrm 3 0 0).slots A) (F0 m 34 ls []) := by
      intro n
      induction n with
      | zero =>
        intro k ls H locs hn I hl
        have hcl := hcle k
        refine lv_iload hx hb dX4_seedsOf_34 (lv_at hl 0 rfl) ?_
        refine lv_ldc (v := 65536) hx hb C.2.2.2.1 (C.2.2.2.2 _ zm_595) dX4_seedsOf_36 ?_
        refine lv_icmp_ge (tgt := 64) hx hb dX4_seedsOf_38 (by decide) (fun _ => ?_) (fun h9 => absurd ((nI_leI (a := 65536) (b := k) (by omega) (by omega)).mpr (by omega)) h9)
        refine lv_iload_n hx hb dX4_seedsOf_64 rfl (lv_at hl 1 rfl) ?_
        have ek : k = 65536 := by omega
        exact zr_iret C I hr hlk (⟨g20.trans (by rw [hc]; rfl), M1, hk, _, rfl, fun _ => by unfold zd_seeds; rw [ek, hsg]⟩) (Nat.le_of_ble_eq_true rfl) (Nat.le_of_ble_eq_true rfl) dX4_seedsOf_65
      | succ n ih =>
        intro k ls H locs hn I hl
        have hcl := hcle k
        refine lv_iload hx hb dX4_seedsOf_34 (lv_at hl 0 rfl) ?_
        refine lv_ldc (v := 65536) hx hb C.2.2.2.1 (C.2.2.2.2 _ zm_595) dX4_seedsOf_36 ?_
        refine lv_icmp_ge (tgt := 64) hx hb dX4_seedsOf_38 (by decide) (fun h9 => absurd h9 (fun h8 => absurd ((nI_leI (a := 65536) (b := k) (by omega) (by omega)).mp h8) (by omega))) (fun _ => ?_)
        refine lv_iload_n hx hb dX4_seedsOf_41 rfl (lv_at hl 1 rfl) ?_
        refine lv_iload hx hb dX4_seedsOf_42 (lv_at hl 0 rfl) ?_
        refine zc_S (n := 1) (rest := [.int (nI (zd_cnt sg k))]) C I (k_X4_signOf l g Z5 k (by omega)) zm_585 zm_586 zm_28 zm_587 rfl hl.1 dX4_seedsOf_44 (by decide +kernel) rfl ⟨Nat.le_of_ble_eq_true rfl, Nat.le_of_ble_eq_true rfl⟩ (Nat.le_of_ble_eq_true rfl) ⟨Nat.le_of_ble_eq_true rfl, Nat.le_of_ble_eq_true rfl⟩ (fun v S' H locs hq I => ?_)
        obtain ⟨rfl, eS⟩ := hq
        rw [eS] at I
        have hkl : zd_sign k < 10007 := Nat.mod_lt _ (by decide)
        refine lv_iload_n hx hb dX4_seedsOf_47 rfl (lv_at hl 2 rfl) ?_
        refine lv_icmp_ne (tgt := 55) hx hb dX4_seedsOf_48 (by decide) (fun c48 => ?_) (fun c48 => ?_)
        · have c48 : ¬ (zd_sign k) = sg := fun h9 => c48 ((nI_eq (a := zd_sign k) (b := sg) (by omega) (by omega)).mpr h9)
          refine lv_iconst (v := 0) hx hb dX4_seedsOf_55 (by decide) ?_
          refine lv_iadd hx hb dX4_seedsOf_56 ?_
          refine zr_top (y := nI ((zd_cnt sg k) + 0)) (nI_add (zd_cnt sg k) 0) ?_
          refine lv_istore_n (lv' := [(3, .int (nI ((zd_cnt sg k) + 0))), (4, .int (nI k)), (2, .int (nI sg)), (0, .ref mo), (1, .int (nI q))]) hx hb dX4_seedsOf_57 rfl hl (by decide) rfl (fun ls hl => ?_)
          refine lv_iinc (v := nI (k + 1)) (lv' := [(4, .int (nI (k + 1))), (3, .int (nI ((zd_cnt sg k) + 0))), (2, .int (nI sg)), (0, .ref mo), (1, .int (nI q))]) hx hb dX4_seedsOf_58 hl (k := 1) rfl (nI_add k 1) (by decide) rfl (fun ls hl => ?_)
          refine lv_goto (tgt := 34) hx hb dX4_seedsOf_61 (by decide) ?_
          have hl := lv_sub (l' := [(4, .int (nI (k + 1))), (3, .int (nI ((zd_cnt sg k) + 0))), (2, .int (nI sg)), (0, .ref mo), (1, .int (nI q))]) hl [0, 1, 2, 3, 4] rfl
          have e9 : zd_cnt sg (k + 1) = zd_cnt sg k + 0 := by show _ + (if _ then 1 else 0) = _; rw [if_neg c48]
          rw [← e9] at hl
          exact ih (k + 1) ls _ _ (by omega) I hl
        · have c48 : (zd_sign k) = sg := (nI_eq (a := zd_sign k) (b := sg) (by omega) (by omega)).mp c48
          refine lv_iconst (v := 1) hx hb dX4_seedsOf_51 (by decide) ?_
          refine lv_goto (tgt := 56) hx hb dX4_seedsOf_52 (by decide) ?_
          refine lv_iadd hx hb dX4_seedsOf_56 ?_
          refine zr_top (y := nI ((zd_cnt sg k) + 1)) (nI_add (zd_cnt sg k) 1) ?_
          refine lv_istore_n (lv' := [(3, .int (nI ((zd_cnt sg k) + 1))), (4, .int (nI k)), (2, .int (nI sg)), (0, .ref mo), (1, .int (nI q))]) hx hb dX4_seedsOf_57 rfl hl (by decide) rfl (fun ls hl => ?_)
          refine lv_iinc (v := nI (k + 1)) (lv' := [(4, .int (nI (k + 1))), (3, .int (nI ((zd_cnt sg k) + 1))), (2, .int (nI sg)), (0, .ref mo), (1, .int (nI q))]) hx hb dX4_seedsOf_58 hl (k := 1) rfl (nI_add k 1) (by decide) rfl (fun ls hl => ?_)
          refine lv_goto (tgt := 34) hx hb dX4_seedsOf_61 (by decide) ?_
          have hl := lv_sub (l' := [(4, .int (nI (k + 1))), (3, .int (nI ((zd_cnt sg k) + 1))), (2, .int (nI sg)), (0, .ref mo), (1, .int (nI q))]) hl [0, 1, 2, 3, 4] rfl
          have e9 : zd_cnt sg (k + 1) = zd_cnt sg k + 1 := by show _ + (if _ then 1 else 0) = _; rw [if_pos c48]
          rw [← e9] at hl
          exact ih (k + 1) ls _ _ (by omega) I hl
    refine lv_istore_n (lv' := [(2, .int (nI sg)), (0, .ref mo), (1, .int (nI q))]) hx hb dX4_seedsOf_28 rfl hl (by decide) rfl (fun ls hl => ?_)
    refine lv_iconst (v := 0) hx hb dX4_seedsOf_29 (by decide) ?_
    refine lv_istore_n (lv' := [(3, .int 0), (2, .int (nI sg)), (0, .ref mo), (1, .int (nI q))]) hx hb dX4_seedsOf_30 rfl hl (by decide) rfl (fun ls hl => ?_)
    refine lv_iconst (v := 0) hx hb dX4_seedsOf_31 (by decide) ?_
    refine lv_istore (lv' := [(4, .int 0), (3, .int 0), (2, .int (nI sg)), (0, .ref mo), (1, .int (nI q))]) hx hb dX4_seedsOf_32 hl (by decide) rfl (fun ls hl => ?_)
    have hl := lv_sub (l' := [(4, .int 0), (3, .int 0), (2, .int (nI sg)), (0, .ref mo), (1, .int (nI q))]) hl [0, 1, 2, 3, 4] rfl
    exact loop 65536 0 ls _ _ (Nat.zero_add _) I hl

