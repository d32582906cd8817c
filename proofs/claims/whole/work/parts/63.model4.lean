/-! the model: rolls, sumOf, roll -/
def zB (S : zS) (mo a r : Nat) : zS := zh_sI (zh_sI S 23 mo (nI a)) 24 mo (nI r)
theorem zB_23 (S : zS) (mo a r b : Nat) : zh_sI (zB S mo a r) 23 mo (nI b) = zB S mo b r := by
  unfold zB
  rw [zs_Ic (zh_sI S 23 mo (nI a)) mo mo (nI r) (nI b) (by decide), zs_II]
theorem zB_24 (S : zS) (mo a r b : Nat) : zh_sI (zB S mo a r) 24 mo (nI b) = zB S mo a b := by
  unfold zB
  rw [zs_II]
theorem zB_zB (S : zS) (mo a r b q : Nat) : zB (zB S mo a r) mo b q = zB S mo b q := by
  show zh_sI (zh_sI (zB S mo a r) 23 mo (nI b)) 24 mo (nI q) = _
  rw [zB_23, zB_24]
theorem zB_i (S : zS) (mo a r : Nat) : zh_I (zB S mo a r) 23 mo = nI a ∧ zh_I (zB S mo a r) 24 mo = nI r ∧ ∀ j b : Nat, j ≠ 23 → j ≠ 24 → zh_I (zB S mo a r) j b = zh_I S j b := ⟨(zI_j _ _ _ _ (by decide)).trans (zI_s _ _ _ _), zI_s _ _ _ _, fun j b h h2 => (zI_j _ _ _ _ h2).trans (zI_j _ _ _ _ h)⟩
theorem MR_B {S : zS} {T : zT} {mo : Nat} {ar : Nat → Nat} (h : MR S T mo ar) (a r : Nat) : MR (zB S mo a r) T mo ar := MR_I (MR_I h 23 _ (by decide) (by decide)) 24 _ (by decide) (by decide)

set_option maxRecDepth 100000 in
set_option maxHeartbeats 4000000 in
theorem k_X4_rolls (l : Launch) (g : zG) (S : zS) (mo st pt f : Nat) (ha : zh_at S 4 mo) (bst : st < 65536) (bpt : pt ≤ 999) (bf : 2 ≤ f) (bf2 : f ≤ 1000) : zM l yX4_rolls cX4_rolls 5 (some .int) (zrm 0 0 0) g [.ref mo, .int (nI st), .int (nI pt), .int (nI f)] S (fun w S' => w = some (.int (nI (zd_val st pt f))) ∧ S' = zB S mo (zd_roll st pt f).1 (zd_roll st pt f).2) := by
  refine zM_of (nm := "rolls") (by decide) rfl (Nat.le_of_ble_eq_true rfl) ?_
  intro p e s m args below meth c A ls C hr hlk hin I hl
  have C : CallFix p m c cX4_rolls 5 s args zc_W RX4 := C
  have hx := C.1
  have hb := C.2.1
  have hl : lv_has ls 5 [(0, .ref mo), (1, .int (nI st)), (2, .int (nI pt)), (3, .int (nI f))] := hl
  have bm : zd_m f ≤ 65536 := Nat.sub_le _ _
  have loop : ∀ (n a r : Nat) (ls : Array Slot) (H : Heap) (locs : List Loc), r + n = 65536 → a < 65536 → zh_V g A s [] (zB S mo a r) H locs → lv_has ls 5 [(4, .int (nI (zd_m f))), (0, .ref mo), (1, .int (nI st)), (2, .int (nI pt)), (3, .int (nI f))] → (zd_go n a pt (zd_m f)).1 = (zd_roll st pt f).1 → (zd_go n a pt (zd_m f)).2 + r = (zd_roll st pt f).2 → W p l e (zrm 0 0 0) s m args below meth c H locs 0 0 (MQ below (zh_Po g A (fun w S' => w = some (.int (nI (zd_val st pt f))) ∧ S' = zB S mo (zd_roll st pt f).1 (zd_roll st pt f).2)) args s (zrm 0 0 0).cells (zrm 0 0 0).slots A) (F0 m 33 ls []) := by
    intro n
    induction n with
    | zero =>
      intro a r ls H locs hn ba I hl e1 e2
      have c39 : a < zd_m f := by rw [show a = (zd_roll st pt f).1 from e1]; exact zd_roll_fin bf bf2
      refine lv_aload_n hx hb dX4_rolls_33 rfl (lv_at hl 1 rfl) ?_
      refine zg_Model_behind (v := nI a) C I ha zm_523 ((zB_i S mo a r).1) dX4_rolls_34 ?_
      refine lv_iload hx hb dX4_rolls_37 (lv_at hl 0 rfl) ?_
      refine lv_icmp_lt (tgt := 78) hx hb dX4_rolls_39 (by decide) (fun _ => ?_) (fun h9 => absurd ((nI_ltI (a := a) (b := zd_m f) (by omega) (by omega)).mpr (c39)) h9)
      rw [zd_go_e _ _ _ _ (Nat.not_le.mpr c39)] at e1 e2
      have er : r = (zd_roll st pt f).2 := by simpa using e2
      have ea : a = (zd_roll st pt f).1 := e1
      refine lv_aload_n hx hb dX4_rolls_78 rfl (lv_at hl 1 rfl) ?_
      refine zg_Model_behind (v := nI a) C I ha zm_523 ((zB_i S mo a r).1) dX4_rolls_79 ?_
      refine lv_iload_n hx hb dX4_rolls_82 rfl (lv_at hl 4 rfl) ?_
      refine lv_irem hx hb dX4_rolls_83 (nI_ne0 (n := f) (by omega) (by omega)) ?_
      refine zr_top (y := nI (a % f)) (pk_rem (a := a) (d := f) (by omega) (by omega) (by omega)) ?_
      refine lv_iconst (v := 1) hx hb dX4_rolls_84 (by decide) ?_
      refine lv_iadd hx hb dX4_rolls_85 ?_
      refine zr_top (y := nI ((a % f) + 1)) (nI_add (a % f) 1) ?_
      exact zr_iret C I hr hlk (⟨by unfold zd_val; rw [← ea], by rw [← ea, ← er]⟩) (Nat.le_of_ble_eq_true rfl) (Nat.le_of_ble_eq_true rfl) dX4_rolls_86
    | succ n ih =>
      intro a r ls H locs hn ba I hl e1 e2
      refine lv_aload_n hx hb dX4_rolls_33 rfl (lv_at hl 1 rfl) ?_
      refine zg_Model_behind (v := nI a) C I ha zm_523 ((zB_i S mo a r).1) dX4_rolls_34 ?_
      refine lv_iload hx hb dX4_rolls_37 (lv_at hl 0 rfl) ?_
      refine lv_icmp_lt (tgt := 78) hx hb dX4_rolls_39 (by decide) (fun c39 => ?_) (fun c39 => ?_)
      · have c39 : a < (zd_m f) := (nI_ltI (a := a) (b := zd_m f) (by omega) (by omega)).mp c39
        rw [zd_go_e _ _ _ _ (Nat.not_le.mpr c39)] at e1 e2
        have er : r = (zd_roll st pt f).2 := by simpa using e2
        have ea : a = (zd_roll st pt f).1 := e1
        refine lv_aload_n hx hb dX4_rolls_78 rfl (lv_at hl 1 rfl) ?_
        refine zg_Model_behind (v := nI a) C I ha zm_523 ((zB_i S mo a r).1) dX4_rolls_79 ?_
        refine lv_iload_n hx hb dX4_rolls_82 rfl (lv_at hl 4 rfl) ?_
        refine lv_irem hx hb dX4_rolls_83 (nI_ne0 (n := f) (by omega) (by omega)) ?_
        refine zr_top (y := nI (a % f)) (pk_rem (a := a) (d := f) (by omega) (by omega) (by omega)) ?_
        refine lv_iconst (v := 1) hx hb dX4_rolls_84 (by decide) ?_
        refine lv_iadd hx hb dX4_rolls_85 ?_
        refine zr_top (y := nI ((a % f) + 1)) (nI_add (a % f) 1) ?_
        exact zr_iret C I hr hlk (⟨by unfold zd_val; rw [← ea], by rw [← ea, ← er]⟩) (Nat.le_of_ble_eq_true rfl) (Nat.le_of_ble_eq_true rfl) dX4_rolls_86
      · have c39 : ¬ a < (zd_m f) := fun h9 => c39 ((nI_ltI (a := a) (b := zd_m f) (by omega) (by omega)).mpr h9)
        refine lv_aload_n hx hb dX4_rolls_42 rfl (lv_at hl 1 rfl) ?_
        refine lv_sipush (v := 1105) hx hb dX4_rolls_43 (by decide) ?_
        refine lv_aload_n hx hb dX4_rolls_46 rfl (lv_at hl 1 rfl) ?_
        refine zg_Model_behind (v := nI a) C I ha zm_523 ((zB_i S mo a r).1) dX4_rolls_47 ?_
        refine lv_imul hx hb dX4_rolls_50 ?_
        refine zr_top (y := nI (1105 * a)) (pk_mul 1105 a) ?_
        refine lv_sipush (v := 12345) hx hb dX4_rolls_51 (by decide) ?_
        refine lv_iadd hx hb dX4_rolls_54 ?_
        refine zr_top (y := nI ((1105 * a) + 12345)) (nI_add (1105 * a) 12345) ?_
        refine lv_iconst (v := 2) hx hb dX4_rolls_55 (by decide) ?_
        refine lv_iload_n hx hb dX4_rolls_56 rfl (lv_at hl 3 rfl) ?_
        refine lv_imul hx hb dX4_rolls_57 ?_
        refine zr_top (y := nI (2 * pt)) (pk_mul 2 pt) ?_
        refine lv_iadd hx hb dX4_rolls_58 ?_
        refine zr_top (y := nI (((1105 * a) + 12345) + (2 * pt))) (nI_add ((1105 * a) + 12345) (2 * pt)) ?_
        refine lv_ldc (v := 65536) hx hb C.2.2.2.1 (C.2.2.2.2 _ zm_595) dX4_rolls_59 ?_
        refine lv_irem hx hb dX4_rolls_61 (by decide) ?_
        refine zr_top (y := nI ((((1105 * a) + 12345) + (2 * pt)) % 65536)) (pk_rem (a := ((1105 * a) + 12345) + (2 * pt)) (d := 65536) (by omega) (by omega) (by omega)) ?_
        refine zr_top (y := nI (zd_d a pt)) (rfl) ?_
        refine zp_Model_behind C I ha zm_523 dX4_rolls_62 (fun H locs I => ?_)
        rw [zB_23] at I
        refine lv_aload_n hx hb dX4_rolls_65 rfl (lv_at hl 1 rfl) ?_
        refine lv_dup hx hb dX4_rolls_66 rfl ?_
        refine zg_Model_draws (v := nI r) C I ha zm_524 ((zB_i S mo (zd_d a pt) r).2.1) dX4_rolls_67 ?_
        refine lv_iconst (v := 1) hx hb dX4_rolls_70 (by decide) ?_
        refine lv_iadd hx hb dX4_rolls_71 ?_
        refine zr_top (y := nI (r + 1)) (nI_add r 1) ?_
        refine zp_Model_draws C I ha zm_524 dX4_rolls_72 (fun H locs I => ?_)
        rw [zB_24] at I
        rw [zd_go_s _ _ _ _ (Nat.not_lt.mp c39)] at e1 e2
        refine lv_goto (tgt := 33) hx hb dX4_rolls_75 (by decide) ?_
        exact ih (zd_d a pt) (r + 1) ls H locs (by omega) (zd_d_lt a pt) I hl e1 (by simp only [] at e2; omega)
  have hdv : 65536 / f * f ≤ 65536 := Nat.div_mul_le_self 65536 f
  refine lv_ldc (v := 65536) hx hb C.2.2.2.1 (C.2.2.2.2 _ zm_595) dX4_rolls_0 ?_
  refine lv_iload_n hx hb dX4_rolls_2 rfl (lv_at hl 3 rfl) ?_
  refine lv_idiv hx hb dX4_rolls_3 (nI_ne0 (n := f) (by omega) (by omega)) ?_
  refine zr_top (y := nI (65536 / f)) (pk_div (a := 65536) (d := f) (by omega) (by omega) (by omega)) ?_
  refine lv_iload_n hx hb dX4_rolls_4 rfl (lv_at hl 3 rfl) ?_
  refine lv_imul hx hb dX4_rolls_5 ?_
  refine zr_top (y := nI (zd_m f)) (by rw [zd_m_div (by omega)]; exact pk_mul _ _) ?_
  refine lv_istore (lv' := [(4, .int (nI (zd_m f))), (0, .ref mo), (1, .int (nI st)), (2, .int (nI pt)), (3, .int (nI f))]) hx hb dX4_rolls_6 hl (by decide) rfl (fun ls hl => ?_)
  refine lv_aload_n hx hb dX4_rolls_8 rfl (lv_at hl 1 rfl) ?_
  refine lv_sipush (v := 1105) hx hb dX4_rolls_9 (by decide) ?_
  refine lv_iload_n hx hb dX4_rolls_12 rfl (lv_at hl 2 rfl) ?_
  refine lv_imul hx hb dX4_rolls_13 ?_
  refine zr_top (y := nI (1105 * st)) (pk_mul 1105 st) ?_
  refine lv_sipush (v := 12345) hx hb dX4_rolls_14 (by decide) ?_
  refine lv_iadd hx hb dX4_rolls_17 ?_
  refine zr_top (y := nI ((1105 * st) + 12345)) (nI_add (1105 * st) 12345) ?_
  refine lv_iconst (v := 2) hx hb dX4_rolls_18 (by decide) ?_
  refine lv_iload_n hx hb dX4_rolls_19 rfl (lv_at hl 3 rfl) ?_
  refine lv_imul hx hb dX4_rolls_20 ?_
  refine zr_top (y := nI (2 * pt)) (pk_mul 2 pt) ?_
  refine lv_iadd hx hb dX4_rolls_21 ?_
  refine zr_top (y := nI (((1105 * st) + 12345) + (2 * pt))) (nI_add ((1105 * st) + 12345) (2 * pt)) ?_
  refine lv_ldc (v := 65536) hx hb C.2.2.2.1 (C.2.2.2.2 _ zm_595) dX4_rolls_22 ?_
  refine lv_irem hx hb dX4_rolls_24 (by decide) ?_
  refine zr_top (y := nI ((((1105 * st) + 12345) + (2 * pt)) % 65536)) (pk_rem (a := ((1105 * st) + 12345) + (2 * pt)) (d := 65536) (by omega) (by omega) (by omega)) ?_
  refine zr_top (y := nI (zd_d st pt)) (rfl) ?_
  refine zp_Model_behind C I ha zm_523 dX4_rolls_25 (fun H locs I => ?_)
  refine lv_aload_n hx hb dX4_rolls_28 rfl (lv_at hl 1 rfl) ?_
  refine lv_iconst (v := 0) hx hb dX4_rolls_29 (by decide) ?_
  refine zp_Model_draws C I ha zm_524 dX4_rolls_30 (fun H locs I => ?_)
  have I : zh_V g A s [] (zB S mo (zd_d st pt) 0) H locs := I
  exact loop 65536 (zd_d st pt) 0 ls H locs rfl (zd_d_lt st pt) I hl rfl rfl

set_option maxRecDepth 100000 in
set_option maxHeartbeats 4000000 in
theorem k_X4_sumOf (l : Launch) (g : zG) (S : zS) (T : zT) (mo : Nat) (ar : Nat → Nat) (hM : MR S T mo ar) (k : Nat) (hk : k < 100) (b5 : T.2 5 k < 16) (b6 : T.2 6 k < 4) (b8 : T.2 8 k ≤ 1000) (b9 : T.2 9 k ≤ 1000) (b10 : T.2 10 k ≤ 65536) (b11 : k ≠ 0 → T.2 11 (k - 1) < 1000003) : zM l yX4_sumOf cX4_sumOf 3 (some .int) (zrm 0 0 0) g [.ref mo, .int (nI k)] S (fun w S' => w = some (.int (nI (zt_sum T k))) ∧ S' = S) := by
  refine zM_of (nm := "sumOf") (by decide) rfl (Nat.le_of_ble_eq_true rfl) ?_
  intro p e s m args below meth c A ls C hr hlk hin I hl
  have C : CallFix p m c cX4_sumOf 3 s args zc_W RX4 := C
  have hx := C.1
  have hb := C.2.1
  have hl : lv_has ls 3 [(0, .ref mo), (1, .int (nI k))] := hl
  obtain ⟨m1, m2, m3, m4, m5⟩ := id hM
  by_cases hk0 : k = 0
  · refine lv_iload_n hx hb dX4_sumOf_0 rfl (lv_at hl 1 rfl) ?_
    refine lv_if_ne (tgt := 9) hx hb dX4_sumOf_1 (by decide) (fun h9 => absurd ((nI_eq (a := k) (b := 0) (by omega) (by omega)).mpr (hk0)) h9) (fun _ => ?_)
    refine lv_bipush (v := 17) hx hb dX4_sumOf_4 (by decide) ?_
    refine lv_goto (tgt := 17) hx hb dX4_sumOf_6 (by decide) ?_
    refine lv_istore_n (lv' := [(2, .int 17), (0, .ref mo), (1, .int (nI k))]) hx hb dX4_sumOf_17 rfl hl (by decide) rfl (fun ls hl => ?_)
    refine lv_bipush (v := 31) hx hb dX4_sumOf_18 (by decide) ?_
    refine lv_iload_n hx hb dX4_sumOf_20 rfl (lv_at hl 0 rfl) ?_
    refine lv_imul hx hb dX4_sumOf_21 ?_
    refine zr_top (y := nI (31 * 17)) (pk_mul 31 17) ?_
    refine lv_bipush (v := 7) hx hb dX4_sumOf_22 (by decide) ?_
    refine lv_aload_n hx hb dX4_sumOf_24 rfl (lv_at hl 1 rfl) ?_
    refine zg_Model_of (v := ar 5) C I m1 zm_515 ((m4 5 (by decide)).1) dX4_sumOf_25 ?_
    refine lv_iload_n hx hb dX4_sumOf_28 rfl (lv_at hl 2 rfl) ?_
    refine zr_iald (v := nI (T.2 5 k)) C I (m4 5 (by decide)).2.1 (by rw [show zh_N S (ar 5) = 100 from (m4 5 (by decide)).2.2.1]; exact vp_in_nI (by omega) (by omega)) (by rw [nI_clamp (by omega)]; exact (m4 5 (by decide)).2.2.2 k (show k < 100 by omega)) dX4_sumOf_29 ?_
    refine lv_imul hx hb dX4_sumOf_30 ?_
    refine zr_top (y := nI (7 * (T.2 5 k))) (pk_mul 7 (T.2 5 k)) ?_
    refine lv_iadd hx hb dX4_sumOf_31 ?_
    refine zr_top (y := nI ((31 * 17) + (7 * (T.2 5 k)))) (nI_add (31 * 17) (7 * (T.2 5 k))) ?_
    refine lv_iconst (v := 5) hx hb dX4_sumOf_32 (by decide) ?_
    refine lv_aload_n hx hb dX4_sumOf_33 rfl (lv_at hl 1 rfl) ?_
    refine zg_Model_at (v := ar 6) C I m1 zm_516 ((m4 6 (by decide)).1) dX4_sumOf_34 ?_
    refine lv_iload_n hx hb dX4_sumOf_37 rfl (lv_at hl 2 rfl) ?_
    refine zr_iald (v := nI (T.2 6 k)) C I (m4 6 (by decide)).2.1 (by rw [show zh_N S (ar 6) = 100 from (m4 6 (by decide)).2.2.1]; exact vp_in_nI (by omega) (by omega)) (by rw [nI_clamp (by omega)]; exact (m4 6 (by decide)).2.2.2 k (show k < 100 by omega)) dX4_sumOf_38 ?_
    refine lv_imul hx hb dX4_sumOf_39 ?_
    refine zr_top (y := nI (5 * (T.2 6 k))) (pk_mul 5 (T.2 6 k)) ?_
    refine lv_iadd hx hb dX4_sumOf_40 ?_
    refine zr_top (y := nI (((31 * 17) + (7 * (T.2 5 k))) + (5 * (T.2 6 k)))) (nI_add ((31 * 17) + (7 * (T.2 5 k))) (5 * (T.2 6 k))) ?_
    refine lv_iconst (v := 3) hx hb dX4_sumOf_41 (by decide) ?_
    refine lv_aload_n hx hb dX4_sumOf_42 rfl (lv_at hl 1 rfl) ?_
    refine zg_Model_sides (v := ar 8) C I m1 zm_518 ((m4 8 (by decide)).1) dX4_sumOf_43 ?_
    refine lv_iload_n hx hb dX4_sumOf_46 rfl (lv_at hl 2 rfl) ?_
    refine zr_iald (v := nI (T.2 8 k)) C I (m4 8 (by decide)).2.1 (by rw [show zh_N S (ar 8) = 100 from (m4 8 (by decide)).2.2.1]; exact vp_in_nI (by omega) (by omega)) (by rw [nI_clamp (by omega)]; exact (m4 8 (by decide)).2.2.2 k (show k < 100 by omega)) dX4_sumOf_47 ?_
    refine lv_imul hx hb dX4_sumOf_48 ?_
    refine zr_top (y := nI (3 * (T.2 8 k))) (pk_mul 3 (T.2 8 k)) ?_
    refine lv_iadd hx hb dX4_sumOf_49 ?_
    refine zr_top (y := nI ((((31 * 17) + (7 * (T.2 5 k))) + (5 * (T.2 6 k))) + (3 * (T.2 8 k)))) (nI_add (((31 * 17) + (7 * (T.2 5 k))) + (5 * (T.2 6 k))) (3 * (T.2 8 k))) ?_
    refine lv_bipush (v := 11) hx hb dX4_sumOf_50 (by decide) ?_
    refine lv_aload_n hx hb dX4_sumOf_52 rfl (lv_at hl 1 rfl) ?_
    refine zg_Model_value (v := ar 9) C I m1 zm_519 ((m4 9 (by decide)).1) dX4_sumOf_53 ?_
    refine lv_iload_n hx hb dX4_sumOf_56 rfl (lv_at hl 2 rfl) ?_
    refine zr_iald (v := nI (T.2 9 k)) C I (m4 9 (by decide)).2.1 (by rw [show zh_N S (ar 9) = 100 from (m4 9 (by decide)).2.2.1]; exact vp_in_nI (by omega) (by omega)) (by rw [nI_clamp (by omega)]; exact (m4 9 (by decide)).2.2.2 k (show k < 100 by omega)) dX4_sumOf_57 ?_
    refine lv_imul hx hb dX4_sumOf_58 ?_
    refine zr_top (y := nI (11 * (T.2 9 k))) (pk_mul 11 (T.2 9 k)) ?_
    refine lv_iadd hx hb dX4_sumOf_59 ?_
    refine zr_top (y := nI (((((31 * 17) + (7 * (T.2 5 k))) + (5 * (T.2 6 k))) + (3 * (T.2 8 k))) + (11 * (T.2 9 k)))) (nI_add ((((31 * 17) + (7 * (T.2 5 k))) + (5 * (T.2 6 k))) + (3 * (T.2 8 k))) (11 * (T.2 9 k))) ?_
    refine lv_aload_n hx hb dX4_sumOf_60 rfl (lv_at hl 1 rfl) ?_
    refine zg_Model_rejected (v := ar 10) C I m1 zm_520 ((m4 10 (by decide)).1) dX4_sumOf_61 ?_
    refine lv_iload_n hx hb dX4_sumOf_64 rfl (lv_at hl 2 rfl) ?_
    refine zr_iald (v := nI (T.2 10 k)) C I (m4 10 (by decide)).2.1 (by rw [show zh_N S (ar 10) = 100 from (m4 10 (by decide)).2.2.1]; exact vp_in_nI (by omega) (by omega)) (by rw [nI_clamp (by omega)]; exact (m4 10 (by decide)).2.2.2 k (show k < 100 by omega)) dX4_sumOf_65 ?_
    refine lv_iadd hx hb dX4_sumOf_66 ?_
    refine zr_top (y := nI ((((((31 * 17) + (7 * (T.2 5 k))) + (5 * (T.2 6 k))) + (3 * (T.2 8 k))) + (11 * (T.2 9 k))) + (T.2 10 k))) (nI_add (((((31 * 17) + (7 * (T.2 5 k))) + (5 * (T.2 6 k))) + (3 * (T.2 8 k))) + (11 * (T.2 9 k))) (T.2 10 k)) ?_
    refine lv_ldc (v := 1000003) hx hb C.2.2.2.1 (C.2.2.2.2 _ zm_624) dX4_sumOf_67 ?_
    refine lv_irem hx hb dX4_sumOf_69 (by decide) ?_
    refine zr_top (y := nI (((((((31 * 17) + (7 * (T.2 5 k))) + (5 * (T.2 6 k))) + (3 * (T.2 8 k))) + (11 * (T.2 9 k))) + (T.2 10 k)) % 1000003)) (pk_rem (a := (((((31 * 17) + (7 * (T.2 5 k))) + (5 * (T.2 6 k))) + (3 * (T.2 8 k))) + (11 * (T.2 9 k))) + (T.2 10 k)) (d := 1000003) (by omega) (by omega) (by omega)) ?_
    refine zr_top (y := nI (zt_sum T k)) (by unfold zt_sum zd_sum; rw [if_pos hk0]; congr 2; omega) ?_
    exact zr_iret C I hr hlk (⟨rfl, rfl⟩) (Nat.le_of_ble_eq_true rfl) (Nat.le_of_ble_eq_true rfl) dX4_sumOf_70
  · have b11k := b11 hk0
    refine lv_iload_n hx hb dX4_sumOf_0 rfl (lv_at hl 1 rfl) ?_
    refine lv_if_ne (tgt := 9) hx hb dX4_sumOf_1 (by decide) (fun _ => ?_) (fun h9 => absurd h9 (fun h8 => absurd ((nI_eq (a := k) (b := 0) (by omega) (by omega)).mp h8) (hk0)))
    refine lv_aload_n hx hb dX4_sumOf_9 rfl (lv_at hl 0 rfl) ?_
    refine zg_Model_sum (v := ar 11) C I m1 zm_521 ((m4 11 (by decide)).1) dX4_sumOf_10 ?_
    refine lv_iload_n hx hb dX4_sumOf_13 rfl (lv_at hl 1 rfl) ?_
    refine lv_iconst (v := 1) hx hb dX4_sumOf_14 (by decide) ?_
    refine lv_isub hx hb dX4_sumOf_15 ?_
    refine zr_top (y := nI (k - 1)) (pk_sub (a := k) (b := 1) (by omega)) ?_
    refine zr_iald (v := nI (T.2 11 (k - 1))) C I (m4 11 (by decide)).2.1 (by rw [show zh_N S (ar 11) = 100 from (m4 11 (by decide)).2.2.1]; exact vp_in_nI (by omega) (by omega)) (by rw [nI_clamp (by omega)]; exact (m4 11 (by decide)).2.2.2 (k - 1) (show k - 1 < 100 by omega)) dX4_sumOf_16 ?_
    refine lv_istore_n (lv' := [(2, .int (nI (T.2 11 (k - 1)))), (0, .ref mo), (1, .int (nI k))]) hx hb dX4_sumOf_17 rfl hl (by decide) rfl (fun ls hl => ?_)
    refine lv_bipush (v := 31) hx hb dX4_sumOf_18 (by decide) ?_
    refine lv_iload_n hx hb dX4_sumOf_20 rfl (lv_at hl 0 rfl) ?_
    refine lv_imul hx hb dX4_sumOf_21 ?_
    refine zr_top (y := nI (31 * (T.2 11 (k - 1)))) (pk_mul 31 (T.2 11 (k - 1))) ?_
    refine lv_bipush (v := 7) hx hb dX4_sumOf_22 (by decide) ?_
    refine lv_aload_n hx hb dX4_sumOf_24 rfl (lv_at hl 1 rfl) ?_
    refine zg_Model_of (v := ar 5) C I m1 zm_515 ((m4 5 (by decide)).1) dX4_sumOf_25 ?_
    refine lv_iload_n hx hb dX4_sumOf_28 rfl (lv_at hl 2 rfl) ?_
    refine zr_iald (v := nI (T.2 5 k)) C I (m4 5 (by decide)).2.1 (by rw [show zh_N S (ar 5) = 100 from (m4 5 (by decide)).2.2.1]; exact vp_in_nI (by omega) (by omega)) (by rw [nI_clamp (by omega)]; exact (m4 5 (by decide)).2.2.2 k (show k < 100 by omega)) dX4_sumOf_29 ?_
    refine lv_imul hx hb dX4_sumOf_30 ?_
    refine zr_top (y := nI (7 * (T.2 5 k))) (pk_mul 7 (T.2 5 k)) ?_
    refine lv_iadd hx hb dX4_sumOf_31 ?_
    refine zr_top (y := nI ((31 * (T.2 11 (k - 1))) + (7 * (T.2 5 k)))) (nI_add (31 * (T.2 11 (k - 1))) (7 * (T.2 5 k))) ?_
    refine lv_iconst (v := 5) hx hb dX4_sumOf_32 (by decide) ?_
    refine lv_aload_n hx hb dX4_sumOf_33 rfl (lv_at hl 1 rfl) ?_
    refine zg_Model_at (v := ar 6) C I m1 zm_516 ((m4 6 (by decide)).1) dX4_sumOf_34 ?_
    refine lv_iload_n hx hb dX4_sumOf_37 rfl (lv_at hl 2 rfl) ?_
    refine zr_iald (v := nI (T.2 6 k)) C I (m4 6 (by decide)).2.1 (by rw [show zh_N S (ar 6) = 100 from (m4 6 (by decide)).2.2.1]; exact vp_in_nI (by omega) (by omega)) (by rw [nI_clamp (by omega)]; exact (m4 6 (by decide)).2.2.2 k (show k < 100 by omega)) dX4_sumOf_38 ?_
    refine lv_imul hx hb dX4_sumOf_39 ?_
    refine zr_top (y := nI (5 * (T.2 6 k))) (pk_mul 5 (T.2 6 k)) ?_
    refine lv_iadd hx hb dX4_sumOf_40 ?_
    refine zr_top (y := nI (((31 * (T.2 11 (k - 1))) + (7 * (T.2 5 k))) + (5 * (T.2 6 k)))) (nI_add ((31 * (T.2 11 (k - 1))) + (7 * (T.2 5 k))) (5 * (T.2 6 k))) ?_
    refine lv_iconst (v := 3) hx hb dX4_sumOf_41 (by decide) ?_
    refine lv_aload_n hx hb dX4_sumOf_42 rfl (lv_at hl 1 rfl) ?_
    refine zg_Model_sides (v := ar 8) C I m1 zm_518 ((m4 8 (by decide)).1) dX4_sumOf_43 ?_
    refine lv_iload_n hx hb dX4_sumOf_46 rfl (lv_at hl 2 rfl) ?_
    refine zr_iald (v := nI (T.2 8 k)) C I (m4 8 (by decide)).2.1 (by rw [show zh_N S (ar 8) = 100 from (m4 8 (by decide)).2.2.1]; exact vp_in_nI (by omega) (by omega)) (by rw [nI_clamp (by omega)]; exact (m4 8 (by decide)).2.2.2 k (show k < 100 by omega)) dX4_sumOf_47 ?_
    refine lv_imul hx hb dX4_sumOf_48 ?_
    refine zr_top (y := nI (3 * (T.2 8 k))) (pk_mul 3 (T.2 8 k)) ?_
    refine lv_iadd hx hb dX4_sumOf_49 ?_
    refine zr_top (y := nI ((((31 * (T.2 11 (k - 1))) + (7 * (T.2 5 k))) + (5 * (T.2 6 k))) + (3 * (T.2 8 k)))) (nI_add (((31 * (T.2 11 (k - 1))) + (7 * (T.2 5 k))) + (5 * (T.2 6 k))) (3 * (T.2 8 k))) ?_
    refine lv_bipush (v := 11) hx hb dX4_sumOf_50 (by decide) ?_
    refine lv_aload_n hx hb dX4_sumOf_52 rfl (lv_at hl 1 rfl) ?_
    refine zg_Model_value (v := ar 9) C I m1 zm_519 ((m4 9 (by decide)).1) dX4_sumOf_53 ?_
    refine lv_iload_n hx hb dX4_sumOf_56 rfl (lv_at hl 2 rfl) ?_
    refine zr_iald (v := nI (T.2 9 k)) C I (m4 9 (by decide)).2.1 (by rw [show zh_N S (ar 9) = 100 from (m4 9 (by decide)).2.2.1]; exact vp_in_nI (by omega) (by omega)) (by rw [nI_clamp (by omega)]; exact (m4 9 (by decide)).2.2.2 k (show k < 100 by omega)) dX4_sumOf_57 ?_
    refine lv_imul hx hb dX4_sumOf_58 ?_
    refine zr_top (y := nI (11 * (T.2 9 k))) (pk_mul 11 (T.2 9 k)) ?_
    refine lv_iadd hx hb dX4_sumOf_59 ?_
    refine zr_top (y := nI (((((31 * (T.2 11 (k - 1))) + (7 * (T.2 5 k))) + (5 * (T.2 6 k))) + (3 * (T.2 8 k))) + (11 * (T.2 9 k)))) (nI_add ((((31 * (T.2 11 (k - 1))) + (7 * (T.2 5 k))) + (5 * (T.2 6 k))) + (3 * (T.2 8 k))) (11 * (T.2 9 k))) ?_
    refine lv_aload_n hx hb dX4_sumOf_60 rfl (lv_at hl 1 rfl) ?_
    refine zg_Model_rejected (v := ar 10) C I m1 zm_520 ((m4 10 (by decide)).1) dX4_sumOf_61 ?_
    refine lv_iload_n hx hb dX4_sumOf_64 rfl (lv_at hl 2 rfl) ?_
    refine zr_iald (v := nI (T.2 10 k)) C I (m4 10 (by decide)).2.1 (by rw [show zh_N S (ar 10) = 100 from (m4 10 (by decide)).2.2.1]; exact vp_in_nI (by omega) (by omega)) (by rw [nI_clamp (by omega)]; exact (m4 10 (by decide)).2.2.2 k (show k < 100 by omega)) dX4_sumOf_65 ?_
    refine lv_iadd hx hb dX4_sumOf_66 ?_
    refine zr_top (y := nI ((((((31 * (T.2 11 (k - 1))) + (7 * (T.2 5 k))) + (5 * (T.2 6 k))) + (3 * (T.2 8 k))) + (11 * (T.2 9 k))) + (T.2 10 k))) (nI_add (((((31 * (T.2 11 (k - 1))) + (7 * (T.2 5 k))) + (5 * (T.2 6 k))) + (3 * (T.2 8 k))) + (11 * (T.2 9 k))) (T.2 10 k)) ?_
    refine lv_ldc (v := 1000003) hx hb C.2.2.2.1 (C.2.2.2.2 _ zm_624) dX4_sumOf_67 ?_
    refine lv_irem hx hb dX4_sumOf_69 (by decide) ?_
    refine zr_top (y := nI (((((((31 * (T.2 11 (k - 1))) + (7 * (T.2 5 k))) + (5 * (T.2 6 k))) + (3 * (T.2 8 k))) + (11 * (T.2 9 k))) + (T.2 10 k)) % 1000003)) (pk_rem (a := (((((31 * (T.2 11 (k - 1))) + (7 * (T.2 5 k))) + (5 * (T.2 6 k))) + (3 * (T.2 8 k))) + (11 * (T.2 9 k))) + (T.2 10 k)) (d := 1000003) (by omega) (by omega) (by omega)) ?_
    refine zr_top (y := nI (zt_sum T k)) (by unfold zt_sum zd_sum; rw [if_neg hk0]; congr 2; omega) ?_
    exact zr_iret C I hr hlk (⟨rfl, rfl⟩) (Nat.le_of_ble_eq_true rfl) (Nat.le_of_ble_eq_true rfl) dX4_sumOf_70

theorem zt_sum_new (T : zT) (q u f : Nat) (n : Nat) : zt_sum (zt_s (zt_s (zt_s (zt_s (zt_s (zt_s (zt_s T 1 q n) 5 T.1.2 q) 6 T.1.2 u) 7 T.1.2 (T.2 4 u)) 8 T.1.2 f) 9 T.1.2 (zd_val (T.2 1 q) (T.2 4 u) f)) 10 T.1.2 (zd_roll (T.2 1 q) (T.2 4 u) f).2) T.1.2 = zd_sum (zb_roll T) q u f (zd_val (T.2 1 q) (T.2 4 u) f) (zd_roll (T.2 1 q) (T.2 4 u) f).2 := by
  simp [zt_sum, zt_s, zh_u, zb_roll]

