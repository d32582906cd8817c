/-! the model: uneven, dispute, its making -/
def zmL (S S' : zS) (T' : zT) (mo : Nat) (ar : Nat → Nat) (code : Nat) (val : Int64) (w : Option Value) : Prop := zh_I S' 20 mo = nI code ∧ MR S' T' mo ar ∧ zk_ S S' ∧ ∃ v : Int64, w = some (.long v) ∧ (code = 0 → v = val)
theorem zt_s_self (T : zT) (j k x : Nat) (h : T.2 j k = x) : zt_s T j k x = T := by
  show (T.1, zh_u T.2 j k x) = T
  rw [zu_self _ _ _ _ h]

theorem zs_strike_z (T : zT) (q a : Nat) : zs_strike T q a 0 = T := by
  show (T.1, _) = T
  congr 1
  funext j i
  exact if_neg (by omega)

set_option maxRecDepth 100000 in
set_option maxHeartbeats 4000000 in
theorem k_X4_uneven (l : Launch) (g : zG) (S : zS) (T : zT) (mo : Nat) (ar : Nat → Nat) (hT : zt_ok T) (hM : MR S T mo ar) (i : Int32) : zM l yX4_uneven cX4_uneven 9 (some .long) (zrm 3 0 0) g [.ref mo, .int i] S (fun w S' => zmL S S' T mo ar (zc_unev i) (zt_unev T (zx i) (zx i)) w) := by
  refine zM_of (nm := "uneven") (by decide) rfl (Nat.le_of_ble_eq_true rfl) ?_
  intro p e s m args below meth c A ls C hr hlk hin I hl
  have C : CallFix p m c cX4_uneven 9 s args zc_W RX4 := C
  have hx := C.1
  have hb := C.2.1
  have hl : lv_has ls 9 [(0, .ref mo), (1, .int i)] := hl
  obtain ⟨m1, m2, m3, m4, m5⟩ := id hM
  obtain ⟨t1, t2, t3, t4, t5, t6, t7⟩ := id hT
  refine lv_aload_n hx hb dX4_uneven_0 rfl (lv_at hl 0 rfl) ?_
  refine lv_iconst (v := 0) hx hb dX4_uneven_1 (by decide) ?_
  refine zp_Model_thrown C I m1 zm_507 dX4_uneven_2 (fun H locs I => ?_)
  have M1 : MR (zh_sI S 20 mo 0) T mo ar := MR_I hM 20 _ (by decide) (by decide)
  have hk : zk_ S (zh_sI S 20 mo 0) := zk_rf S
  have g20 : zh_I (zh_sI S 20 mo 0) 20 mo = 0 := zI_s _ _ _ _
  obtain ⟨Z1, hZ1⟩ : ∃ z, z = (zh_sI S 20 mo 0) := ⟨_, rfl⟩
  rw [← hZ1] at I M1 hk g20
  clear hZ1
  obtain ⟨m1, m2, m3, m4, m5⟩ := id M1
  by_cases hfx : i < 2 ∨ 1000 < i
  · refine lv_iload_n hx hb dX4_uneven_5 rfl (lv_at hl 1 rfl) ?_
    refine zc_S (n := 1) (rest := []) C I (k_X4_isDie l g Z1 i) zm_615 zm_616 zm_28 zm_617 rfl hl.1 dX4_uneven_6 (by decide +kernel) rfl ⟨Nat.le_of_ble_eq_true rfl, Nat.le_of_ble_eq_true rfl⟩ (Nat.le_of_ble_eq_true rfl) ⟨Nat.le_of_ble_eq_true rfl, Nat.le_of_ble_eq_true rfl⟩ (fun v S' H locs hq I => ?_)
    obtain ⟨rfl, eS⟩ := hq
    rw [eS] at I
    refine zr_top (y := 0) (if_pos hfx) ?_
    have hcF : zc_unev i = 1 := if_pos hfx
    refine lv_if_ne (tgt := 19) hx hb dX4_uneven_9 (by decide) (fun h9 => absurd ((nI_eq (a := 0) (b := 0) (by omega) (by omega)).mpr (by omega)) h9) (fun _ => ?_)
    refine lv_aload_n hx hb dX4_uneven_12 rfl (lv_at hl 0 rfl) ?_
    refine lv_iconst (v := 1) hx hb dX4_uneven_13 (by decide) ?_
    refine zc_V (n := 1) (rest := []) C I m1 rfl rfl (k_X4_fails l g Z1 mo 1 m1) zm_575 zm_576 zm_15 zm_28 zm_577 rfl hl.1 dX4_uneven_14 (by decide +kernel) rfl ⟨Nat.le_of_ble_eq_true rfl, Nat.le_of_ble_eq_true rfl⟩ (Nat.le_of_ble_eq_true rfl) ⟨Nat.le_of_ble_eq_true rfl, Nat.le_of_ble_eq_true rfl⟩ (fun v S' H locs hq I => ?_)
    obtain ⟨rfl, eS⟩ := hq
    rw [eS] at I
    refine lv_i2l hx hb dX4_uneven_17 rfl ?_
    exact zr_lret C I hr hlk (⟨(zI_s _ _ _ _).trans (by rw [hcF]; rfl), MR_I M1 20 _ (by decide) (by decide), fun a ha => hk a ha, _, rfl, fun h => absurd (hcF.symm.trans h) (by decide)⟩) (Nat.le_of_ble_eq_true rfl) (Nat.le_of_ble_eq_true rfl) dX4_uneven_18
  · obtain ⟨f, hf2, hf3, rfl⟩ := zi_faces hfx
    have hfz : zx (nI f) = f := zx_nI (by omega)
    rw [hfz]
    have hc : zc_unev (nI f) = 0 := if_neg hfx
    refine lv_iload_n hx hb dX4_uneven_5 rfl (lv_at hl 1 rfl) ?_
    refine zc_S (n := 1) (rest := []) C I (k_X4_isDie l g Z1 (nI f)) zm_615 zm_616 zm_28 zm_617 rfl hl.1 dX4_uneven_6 (by decide +kernel) rfl ⟨Nat.le_of_ble_eq_true rfl, Nat.le_of_ble_eq_true rfl⟩ (Nat.le_of_ble_eq_true rfl) ⟨Nat.le_of_ble_eq_true rfl, Nat.le_of_ble_eq_true rfl⟩ (fun v S' H locs hq I => ?_)
    obtain ⟨rfl, eS⟩ := hq
    rw [eS] at I
    refine zr_top (y := 1) (if_neg hfx) ?_
    refine lv_if_ne (tgt := 19) hx hb dX4_uneven_9 (by decide) (fun _ => ?_) (fun h9 => absurd h9 (fun h8 => absurd ((nI_eq (a := 1) (b := 0) (by omega) (by omega)).mp h8) (by omega)))
    refine lv_aload_n hx hb dX4_uneven_19 rfl (lv_at hl 0 rfl) ?_
    refine lv_iload_n hx hb dX4_uneven_20 rfl (lv_at hl 1 rfl) ?_
    refine lv_iconst (v := 0) hx hb dX4_uneven_21 (by decide) ?_
    refine zc_V (n := 2) (rest := []) C I m1 rfl rfl (k_X4_counts l g Z1 T mo ar hT M1 f 0 (by omega) (by omega)) zm_678 zm_679 zm_22 zm_28 zm_680 rfl hl.1 dX4_uneven_22 (by decide +kernel) rfl ⟨Nat.le_of_ble_eq_true rfl, Nat.le_of_ble_eq_true rfl⟩ (Nat.le_of_ble_eq_true rfl) ⟨Nat.le_of_ble_eq_true rfl, Nat.le_of_ble_eq_true rfl⟩ (fun v S' H locs hq I => ?_)
    obtain ⟨rfl, eS⟩ := hq
    rw [eS] at I
    have loop : ∀ (n k : Nat) (ls : Array Slot) (H : Heap) (locs : List Loc), k + n = f → zh_V g A s [] Z1 H locs → lv_has ls 9 [(6, .int (nI (k + 1))), (4, .long (zt_unev T f k)), (2, .long ((nI (zt_cnt T f 0 T.1.2)).toInt64)), (0, .ref mo), (1, .int (nI f))] → W p l e (zrm 3 0 0) s m args below meth c H locs (0 + (zrm 1 0 0).cells + (zrm 0 0 0).cells) (0 + (zrm 1 0 0).slots + (zrm 0 0 0).slots) (MQ below (zh_Po g A (fun w S' => zmL S S' T mo ar (zc_unev (nI f)) (zt_unev T f f) w)) args s (zrm 3 0 0).cells (zrm 3 0 0).slots A) (F0 m 33 ls []) := by
      intro n
      induction n with
      | zero =>
        intro k ls H locs hn I hl
        refine lv_iload hx hb dX4_uneven_33 (lv_at hl 0 rfl) ?_
        refine lv_iload_n hx hb dX4_uneven_35 rfl (lv_at hl 4 rfl) ?_
        refine lv_icmp_gt (tgt := 70) hx hb dX4_uneven_36 (by decide) (fun _ => ?_) (fun h9 => absurd ((nI_ltI (a := f) (b := k + 1) (by omega) (by omega)).mpr (by omega)) h9)
        refine lv_lload hx hb dX4_uneven_70 (lv_at hl 1 rfl) ?_
        have ek : k = f := by omega
        exact zr_lret C I hr hlk (⟨g20.trans (by rw [hc]; rfl), M1, hk, _, rfl, fun _ => by rw [ek]⟩) (Nat.le_of_ble_eq_true rfl) (Nat.le_of_ble_eq_true rfl) dX4_uneven_72
      | succ n ih =>
        intro k ls H locs hn I hl
        refine lv_iload hx hb dX4_uneven_33 (lv_at hl 0 rfl) ?_
        refine lv_iload_n hx hb dX4_uneven_35 rfl (lv_at hl 4 rfl) ?_
        refine lv_icmp_gt (tgt := 70) hx hb dX4_uneven_36 (by decide) (fun h9 => absurd h9 (fun h8 => absurd ((nI_ltI (a := f) (b := k + 1) (by omega) (by omega)).mp h8) (by omega))) (fun _ => ?_)
        refine lv_iload_n hx hb dX4_uneven_39 rfl (lv_at hl 4 rfl) ?_
        refine lv_i2l hx hb dX4_uneven_40 rfl ?_
        refine lv_aload_n hx hb dX4_uneven_41 rfl (lv_at hl 3 rfl) ?_
        refine lv_iload_n hx hb dX4_uneven_42 rfl (lv_at hl 4 rfl) ?_
        refine lv_iload hx hb dX4_uneven_43 (lv_at hl 0 rfl) ?_
        refine zc_V (n := 2) (rest := [.long ((nI f).toInt64)]) C I m1 rfl rfl (k_X4_counts l g Z1 T mo ar hT M1 f (k + 1) (by omega) (by omega)) zm_678 zm_679 zm_22 zm_28 zm_680 rfl hl.1 dX4_uneven_45 (by decide +kernel) rfl ⟨Nat.le_of_ble_eq_true rfl, Nat.le_of_ble_eq_true rfl⟩ (Nat.le_of_ble_eq_true rfl) ⟨Nat.le_of_ble_eq_true rfl, Nat.le_of_ble_eq_true rfl⟩ (fun v S' H locs hq I => ?_)
        obtain ⟨rfl, eS⟩ := hq
        rw [eS] at I
        refine lv_i2l hx hb dX4_uneven_48 rfl ?_
        refine lv_lmul hx hb dX4_uneven_49 ?_
        refine lv_lload_n hx hb dX4_uneven_50 rfl (lv_at hl 2 rfl) ?_
        refine lv_lsub hx hb dX4_uneven_51 ?_
        refine lv_lstore (lv' := [(7, .long ((((nI f).toInt64) * ((nI (zt_cnt T f (k + 1) T.1.2)).toInt64)) - ((nI (zt_cnt T f 0 T.1.2)).toInt64))), (6, .int (nI (k + 1))), (4, .long (zt_unev T f k)), (2, .long ((nI (zt_cnt T f 0 T.1.2)).toInt64)), (0, .ref mo), (1, .int (nI f))]) hx hb dX4_uneven_52 hl (by decide) rfl (fun ls hl => ?_)
        refine lv_lload hx hb dX4_uneven_54 (lv_at hl 2 rfl) ?_
        refine lv_lload hx hb dX4_uneven_56 (lv_at hl 0 rfl) ?_
        refine lv_lload hx hb dX4_uneven_58 (lv_at hl 0 rfl) ?_
        refine lv_lmul hx hb dX4_uneven_60 ?_
        refine lv_ladd hx hb dX4_uneven_61 ?_
        refine lv_lstore (lv' := [(4, .long ((zt_unev T f k) + (((((nI f).toInt64) * ((nI (zt_cnt T f (k + 1) T.1.2)).toInt64)) - ((nI (zt_cnt T f 0 T.1.2)).toInt64)) * ((((nI f).toInt64) * ((nI (zt_cnt T f (k + 1) T.1.2)).toInt64)) - ((nI (zt_cnt T f 0 T.1.2)).toInt64))))), (7, .long ((((nI f).toInt64) * ((nI (zt_cnt T f (k + 1) T.1.2)).toInt64)) - ((nI (zt_cnt T f 0 T.1.2)).toInt64))), (6, .int (nI (k + 1))), (2, .long ((nI (zt_cnt T f 0 T.1.2)).toInt64)), (0, .ref mo), (1, .int (nI f))]) hx hb dX4_uneven_62 hl (by decide) rfl (fun ls hl => ?_)
        refine lv_iinc (v := nI ((k + 1) + 1)) (lv' := [(6, .int (nI ((k + 1) + 1))), (4, .long ((zt_unev T f k) + (((((nI f).toInt64) * ((nI (zt_cnt T f (k + 1) T.1.2)).toInt64)) - ((nI (zt_cnt T f 0 T.1.2)).toInt64)) * ((((nI f).toInt64) * ((nI (zt_cnt T f (k + 1) T.1.2)).toInt64)) - ((nI (zt_cnt T f 0 T.1.2)).toInt64))))), (7, .long ((((nI f).toInt64) * ((nI (zt_cnt T f (k + 1) T.1.2)).toInt64)) - ((nI (zt_cnt T f 0 T.1.2)).toInt64))), (2, .long ((nI (zt_cnt T f 0 T.1.2)).toInt64)), (0, .ref mo), (1, .int (nI f))]) hx hb dX4_uneven_64 hl (k := 2) rfl (nI_add (k + 1) 1) (by decide) rfl (fun ls hl => ?_)
        refine lv_goto (tgt := 33) hx hb dX4_uneven_67 (by decide) ?_
        have hl := lv_sub (l' := [(6, .int (nI ((k + 1) + 1))), (4, .long ((zt_unev T f k) + (((((nI f).toInt64) * ((nI (zt_cnt T f (k + 1) T.1.2)).toInt64)) - ((nI (zt_cnt T f 0 T.1.2)).toInt64)) * ((((nI f).toInt64) * ((nI (zt_cnt T f (k + 1) T.1.2)).toInt64)) - ((nI (zt_cnt T f 0 T.1.2)).toInt64))))), (2, .long ((nI (zt_cnt T f 0 T.1.2)).toInt64)), (0, .ref mo), (1, .int (nI f))]) hl [0, 1, 3, 4, 5] rfl
        exact ih (k + 1) ls _ _ (by omega) I hl
    refine lv_i2l hx hb dX4_uneven_25 rfl ?_
    refine lv_lstore_n (lv' := [(2, .long ((nI (zt_cnt T f 0 T.1.2)).toInt64)), (0, .ref mo), (1, .int (nI f))]) hx hb dX4_uneven_26 rfl hl (by decide) rfl (fun ls hl => ?_)
    refine lv_lconst (v := 0) hx hb dX4_uneven_27 (by decide) ?_
    refine lv_lstore (lv' := [(4, .long 0), (2, .long ((nI (zt_cnt T f 0 T.1.2)).toInt64)), (0, .ref mo), (1, .int (nI f))]) hx hb dX4_uneven_28 hl (by decide) rfl (fun ls hl => ?_)
    refine lv_iconst (v := 1) hx hb dX4_uneven_30 (by decide) ?_
    refine lv_istore (lv' := [(6, .int 1), (4, .long 0), (2, .long ((nI (zt_cnt T f 0 T.1.2)).toInt64)), (0, .ref mo), (1, .int (nI f))]) hx hb dX4_uneven_31 hl (by decide) rfl (fun ls hl => ?_)
    have hl := lv_sub (l' := [(6, .int 1), (4, .long 0), (2, .long ((nI (zt_cnt T f 0 T.1.2)).toInt64)), (0, .ref mo), (1, .int (nI f))]) hl [0, 1, 2, 3, 4] rfl
    exact loop f 0 ls _ _ (Nat.zero_add _) I hl

set_option maxRecDepth 100000 in
set_option maxHeartbeats 4000000 in
theorem k_X4_dispute (l : Launch) (g : zG) (S : zS) (T : zT) (mo : Nat) (ar : Nat → Nat) (hT : zt_ok T) (hM : MR S T mo ar) (i : Int32) : zM l yX4_dispute cX4_dispute 6 (some .int) (zrm 4 0 0) g [.ref mo, .int i] S (fun w S' => zmQ S S' (zs_disp T i) mo ar (zc_disp T i) (nI (zv_disp T (zx i))) w) := by
  refine zM_of (nm := "dispute") (by decide) rfl (Nat.le_of_ble_eq_true rfl) ?_
  intro p e s m args below meth c A ls C hr hlk hin I hl
  have C : CallFix p m c cX4_dispute 6 s args zc_W RX4 := C
  have hx := C.1
  have hb := C.2.1
  have hl : lv_has ls 6 [(0, .ref mo), (1, .int i)] := hl
  obtain ⟨m1, m2, m3, m4, m5⟩ := id hM
  obtain ⟨t1, t2, t3, t4, t5, t6, t7⟩ := id hT
  refine lv_aload_n hx hb dX4_dispute_0 rfl (lv_at hl 0 rfl) ?_
  refine lv_iconst (v := 0) hx hb dX4_dispute_1 (by decide) ?_
  refine zp_Model_thrown C I m1 zm_507 dX4_dispute_2 (fun H locs I => ?_)
  have M1 : MR (zh_sI S 20 mo 0) T mo ar := MR_I hM 20 _ (by decide) (by decide)
  have hk : zk_ S (zh_sI S 20 mo 0) := zk_rf S
  have g20 : zh_I (zh_sI S 20 mo 0) 20 mo = 0 := zI_s _ _ _ _
  obtain ⟨Z2, hZ2⟩ : ∃ z, z = (zh_sI S 20 mo 0) := ⟨_, rfl⟩
  rw [← hZ2] at I M1 hk g20
  clear hZ2
  obtain ⟨m1, m2, m3, m4, m5⟩ := id M1
  rcases zi_cases i (n := T.1.1) (by omega) with hb0 | ⟨hb0, hj0, hi0⟩
  · refine lv_aload_n hx hb dX4_dispute_5 rfl (lv_at hl 0 rfl) ?_
    refine lv_iload_n hx hb dX4_dispute_6 rfl (lv_at hl 1 rfl) ?_
    refine zc_V (n := 1) (rest := []) C I m1 rfl rfl (k_X4_isPromise l g Z2 mo T.1.1 i m1 m2 (by omega)) zm_582 zm_583 zm_16 zm_28 zm_584 rfl hl.1 dX4_dispute_7 (by decide +kernel) rfl ⟨Nat.le_of_ble_eq_true rfl, Nat.le_of_ble_eq_true rfl⟩ (Nat.le_of_ble_eq_true rfl) ⟨Nat.le_of_ble_eq_true rfl, Nat.le_of_ble_eq_true rfl⟩ (fun v S' H locs hq I => ?_)
    obtain ⟨rfl, eS⟩ := hq
    rw [eS] at I
    refine zr_top (y := 0) (if_pos hb0) ?_
    refine lv_if_ne (tgt := 19) hx hb dX4_dispute_10 (by decide) (fun h9 => absurd ((nI_eq (a := 0) (b := 0) (by omega) (by omega)).mpr (by omega)) h9) (fun _ => ?_)
    refine lv_aload_n hx hb dX4_dispute_13 rfl (lv_at hl 0 rfl) ?_
    refine lv_iconst (v := 1) hx hb dX4_dispute_14 (by decide) ?_
    refine zc_V (n := 1) (rest := []) C I m1 rfl rfl (k_X4_fails l g Z2 mo 1 m1) zm_575 zm_576 zm_15 zm_28 zm_577 rfl hl.1 dX4_dispute_15 (by decide +kernel) rfl ⟨Nat.le_of_ble_eq_true rfl, Nat.le_of_ble_eq_true rfl⟩ (Nat.le_of_ble_eq_true rfl) ⟨Nat.le_of_ble_eq_true rfl, Nat.le_of_ble_eq_true rfl⟩ (fun v S' H locs hq I => ?_)
    obtain ⟨rfl, eS⟩ := hq
    rw [eS] at I
    have hcF : zc_disp T i = 1 := if_pos hb0
    exact zr_iret C I hr hlk (by rw [show zs_disp T i = T from if_neg (by rw [hcF]; decide)]; exact ⟨(zI_s _ _ _ _).trans (by rw [hcF]; rfl), MR_I M1 20 _ (by decide) (by decide), fun a ha => hk a ha, 0, rfl, fun h => absurd (hcF.symm.trans h) (by decide)⟩) (Nat.le_of_ble_eq_true rfl) (Nat.le_of_ble_eq_true rfl) dX4_dispute_18
  · obtain ⟨q, hb0n, rfl⟩ : ∃ q : Nat, q < T.1.1 ∧ i = nI q := ⟨_, hj0, hi0⟩
    clear hj0 hi0
    have hb0z : zx (nI q) = q := zx_nI (by omega)
    refine lv_aload_n hx hb dX4_dispute_5 rfl (lv_at hl 0 rfl) ?_
    refine lv_iload_n hx hb dX4_dispute_6 rfl (lv_at hl 1 rfl) ?_
    refine zc_V (n := 1) (rest := []) C I m1 rfl rfl (k_X4_isPromise l g Z2 mo T.1.1 (nI q) m1 m2 (by omega)) zm_582 zm_583 zm_16 zm_28 zm_584 rfl hl.1 dX4_dispute_7 (by decide +kernel) rfl ⟨Nat.le_of_ble_eq_true rfl, Nat.le_of_ble_eq_true rfl⟩ (Nat.le_of_ble_eq_true rfl) ⟨Nat.le_of_ble_eq_true rfl, Nat.le_of_ble_eq_true rfl⟩ (fun v S' H locs hq I => ?_)
    obtain ⟨rfl, eS⟩ := hq
    rw [eS] at I
    refine zr_top (y := 1) (if_neg hb0) ?_
    have t3q := t3 q
    have hc2 : (T.2 2 q = 0 ∨ T.2 3 q ≠ 0) → zc_disp T (nI q) = 2 := fun h => by unfold zc_disp; rw [if_neg hb0, hb0z, if_pos h]
    have hc0 : ¬ (T.2 2 q = 0 ∨ T.2 3 q ≠ 0) → zc_disp T (nI q) = 0 := fun h => by unfold zc_disp; rw [if_neg hb0, hb0z, if_neg h]
    refine lv_if_ne (tgt := 19) hx hb dX4_dispute_10 (by decide) (fun _ => ?_) (fun h9 => absurd h9 (fun h8 => absurd ((nI_eq (a := 1) (b := 0) (by omega) (by omega)).mp h8) (by omega)))
    refine lv_aload_n hx hb dX4_dispute_19 rfl (lv_at hl 0 rfl) ?_
    refine zg_Model_opened (v := ar 2) C I m1 zm_511 ((m4 2 (by decide)).1) dX4_dispute_20 ?_
    refine lv_iload_n hx hb dX4_dispute_23 rfl (lv_at hl 1 rfl) ?_
    refine zr_zald (v := nI (T.2 2 q)) C I (m4 2 (by decide)).2.1 (by rw [show zh_N Z2 (ar 2) = 16 from (m4 2 (by decide)).2.2.1]; exact vp_in_nI (by omega) (by omega)) (by rw [nI_clamp (by omega)]; exact (m4 2 (by decide)).2.2.2 q (show q < 16 by omega)) dX4_dispute_24 ?_
    refine lv_if_eq (tgt := 37) hx hb dX4_dispute_25 (by decide) (fun c25 => ?_) (fun c25 => ?_)
    · have c25 : (T.2 2 q) = 0 := (nI_eq (a := T.2 2 q) (b := 0) (by omega) (by omega)).mp c25
      refine lv_aload_n hx hb dX4_dispute_37 rfl (lv_at hl 0 rfl) ?_
      refine lv_iconst (v := 2) hx hb dX4_dispute_38 (by decide) ?_
      refine zc_V (n := 1) (rest := []) C I m1 rfl rfl (k_X4_fails l g Z2 mo 2 m1) zm_575 zm_576 zm_15 zm_28 zm_577 rfl hl.1 dX4_dispute_39 (by decide +kernel) rfl ⟨Nat.le_of_ble_eq_true rfl, Nat.le_of_ble_eq_true rfl⟩ (Nat.le_of_ble_eq_true rfl) ⟨Nat.le_of_ble_eq_true rfl, Nat.le_of_ble_eq_true rfl⟩ (fun v S' H locs hq I => ?_)
      obtain ⟨rfl, eS⟩ := hq
      rw [eS] at I
      have hcF : zc_disp T (nI q) = 2 := hc2 (Or.inl c25)
      exact zr_iret C I hr hlk (by rw [show zs_disp T (nI q) = T from if_neg (by rw [hcF]; decide)]; exact ⟨(zI_s _ _ _ _).trans (by rw [hcF]; rfl), MR_I M1 20 _ (by decide) (by decide), fun a ha => hk a ha, 0, rfl, fun h => absurd (hcF.symm.trans h) (by decide)⟩) (Nat.le_of_ble_eq_true rfl) (Nat.le_of_ble_eq_true rfl) dX4_dispute_42
    · have c25 : ¬ (T.2 2 q) = 0 := fun h9 => c25 ((nI_eq (a := T.2 2 q) (b := 0) (by omega) (by omega)).mpr h9)
      refine lv_aload_n hx hb dX4_dispute_28 rfl (lv_at hl 0 rfl) ?_
      refine zg_Model_disputed (v := ar 3) C I m1 zm_512 ((m4 3 (by decide)).1) dX4_dispute_29 ?_
      refine lv_iload_n hx hb dX4_dispute_32 rfl (lv_at hl 1 rfl) ?_
      refine zr_zald (v := nI (T.2 3 q)) C I (m4 3 (by decide)).2.1 (by rw [show zh_N Z2 (ar 3) = 16 from (m4 3 (by decide)).2.2.1]; exact vp_in_nI (by omega) (by omega)) (by rw [nI_clamp (by omega)]; exact (m4 3 (by decide)).2.2.2 q (show q < 16 by omega)) dX4_dispute_33 ?_
      refine lv_if_eq (tgt := 43) hx hb dX4_dispute_34 (by decide) (fun c34 => ?_) (fun c34 => ?_)
      · have c34 : (T.2 3 q) = 0 := (nI_eq (a := T.2 3 q) (b := 0) (by omega) (by omega)).mp c34
        have hc := hc0 (fun h => h.elim c25 (fun h => h c34))
        refine lv_aload_n hx hb dX4_dispute_43 rfl (lv_at hl 0 rfl) ?_
        refine zg_Model_disputed (v := ar 3) C I m1 zm_512 ((m4 3 (by decide)).1) dX4_dispute_44 ?_
        refine lv_iload_n hx hb dX4_dispute_47 rfl (lv_at hl 1 rfl) ?_
        refine lv_iconst (v := 1) hx hb dX4_dispute_48 (by decide) ?_
        refine zr_zast C I (m4 3 (by decide)).2.1 (by rw [show zh_N Z2 (ar 3) = 16 from (m4 3 (by decide)).2.2.1]; exact vp_in_nI (by omega) (by omega)) (by decide) dX4_dispute_49 (fun H locs I => ?_)
        rw [nI_clamp (by omega)] at I
        have M1 : MR (zh_sA Z2 (ar 3) (upd (zh_A Z2 (ar 3)) q 1)) (zt_s T 3 q 1) mo ar := MR_A M1 1 (by decide) (show q < 16 by omega)
        have hk : zk_ S (zh_sA Z2 (ar 3) (upd (zh_A Z2 (ar 3)) q 1)) := fun a ha => hk a ha
        have g20 : zh_I (zh_sA Z2 (ar 3) (upd (zh_A Z2 (ar 3)) q 1)) 20 mo = 0 := g20
        obtain ⟨Z3, hZ3⟩ : ∃ z, z = (zh_sA Z2 (ar 3) (upd (zh_A Z2 (ar 3)) q 1)) := ⟨_, rfl⟩
        rw [← hZ3] at I M1 hk g20
        clear hZ3
        obtain ⟨m1, m2, m3, m4, m5⟩ := id M1
        have hT1 : zt_ok (zt_s T 3 q 1) := zt_ok3 hT hb0n
        refine lv_aload_n hx hb dX4_dispute_50 rfl (lv_at hl 0 rfl) ?_
        refine lv_iload_n hx hb dX4_dispute_51 rfl (lv_at hl 1 rfl) ?_
        refine zc_V (n := 1) (rest := []) C I m1 rfl rfl (k_X4_firstWrong l g Z3 (zt_s T 3 q 1) mo ar hT1 M1 q (by omega)) zm_663 zm_664 zm_21 zm_28 zm_665 rfl hl.1 dX4_dispute_52 (by decide +kernel) rfl ⟨Nat.le_of_ble_eq_true rfl, Nat.le_of_ble_eq_true rfl⟩ (Nat.le_of_ble_eq_true rfl) ⟨Nat.le_of_ble_eq_true rfl, Nat.le_of_ble_eq_true rfl⟩ (fun v S' H locs hq I => ?_)
        obtain ⟨rfl, hw⟩ := hq
        have hwv : zv_wrong (zt_s T 3 q 1) q = zv_wrong T q := zt_wrong_3 T q q 1 T.1.2 0
        refine zr_top (y := (zv_wrong T q)) (hwv) ?_
        have M1 : MR S' (zt_s T 3 q 1) mo ar := MR_w M1 hw
        have hk : zk_ S S' := zk_tr hk (zk_w hw)
        have g20 : zh_I S' 20 mo = 0 := (zI_w hw mo (by decide) (by decide)).trans g20
        obtain ⟨m1, m2, m3, m4, m5⟩ := id M1
        rcases zt_wrong_in T q T.1.2 0 with h1w | ⟨a, ha1, ha2, ha3⟩
        · have h1v : zv_wrong T q = -1 := h1w
          refine zr_top (y := (-1)) (h1v) ?_
          refine lv_istore_n (lv' := [(2, .int (-1)), (0, .ref mo), (1, .int (nI q))]) hx hb dX4_dispute_55 rfl hl (by decide) rfl (fun ls hl => ?_)
          refine lv_iconst (v := 0) hx hb dX4_dispute_56 (by decide) ?_
          refine lv_istore_n (lv' := [(3, .int 0), (2, .int (-1)), (0, .ref mo), (1, .int (nI q))]) hx hb dX4_dispute_57 rfl hl (by decide) rfl (fun ls hl => ?_)
          refine lv_iconst (v := 0) hx hb dX4_dispute_58 (by decide) ?_
          refine lv_istore (lv' := [(4, .int 0), (3, .int 0), (2, .int (-1)), (0, .ref mo), (1, .int (nI q))]) hx hb dX4_dispute_59 hl (by decide) rfl (fun ls hl => ?_)
          by_cases hz0 : 0 < T.1.2
          · refine lv_iload hx hb dX4_dispute_61 (lv_at hl 0 rfl) ?_
            refine lv_aload_n hx hb dX4_dispute_63 rfl (lv_at hl 3 rfl) ?_
            refine zg_Model_entries (v := nI T.1.2) C I m1 zm_514 (m3) dX4_dispute_64 ?_
            refine lv_icmp_ge (tgt := 145) hx hb dX4_dispute_67 (by decide) (fun h9 => absurd h9 (fun h8 => absurd ((nI_leI (a := T.1.2) (b := 0) (by omega) (by omega)).mp h8) (by omega))) (fun _ => ?_)
            refine lv_iload_n hx hb dX4_dispute_70 rfl (lv_at hl 2 rfl) ?_
            refine lv_iconst (v := (-1)) hx hb dX4_dispute_71 (by decide) ?_
            refine lv_icmp_eq (tgt := 145) hx hb dX4_dispute_72 (by decide) (fun _ => ?_) (fun h9 => absurd (rfl) h9)
            refine lv_iload_n hx hb dX4_dispute_145 rfl (lv_at hl 1 rfl) ?_
            exact zr_iret C I hr hlk (⟨g20.trans (by rw [hc]; rfl), by unfold zs_disp; rw [if_pos hc, hb0z, if_pos h1v]; exact M1, hk, _, rfl, fun _ => by rw [hb0z]; unfold zv_disp; rw [if_pos h1v]; rfl⟩) (Nat.le_of_ble_eq_true rfl) (Nat.le_of_ble_eq_true rfl) dX4_dispute_146
          · refine lv_iload hx hb dX4_dispute_61 (lv_at hl 0 rfl) ?_
            refine lv_aload_n hx hb dX4_dispute_63 rfl (lv_at hl 3 rfl) ?_
            refine zg_Model_entries (v := nI T.1.2) C I m1 zm_514 (m3) dX4_dispute_64 ?_
            refine lv_icmp_ge (tgt := 145) hx hb dX4_dispute_67 (by decide) (fun _ => ?_) (fun h9 => absurd ((nI_leI (a := T.1.2) (b := 0) (by omega) (by omega)).mpr (by omega)) h9)
            refine lv_iload_n hx hb dX4_dispute_145 rfl (lv_at hl 1 rfl) ?_
            exact zr_iret C I hr hlk (⟨g20.trans (by rw [hc]; rfl), by unfold zs_disp; rw [if_pos hc, hb0z, if_pos h1v]; exact M1, hk, _, rfl, fun _ => by rw [hb0z]; unfold zv_disp; rw [if_pos h1v]; rfl⟩) (Nat.le_of_ble_eq_true rfl) (Nat.le_of_ble_eq_true rfl) dX4_dispute_146
        · have h1v : zv_wrong T q = nI a := ha3
          have ha : a < T.1.2 := by omega
          refine zr_top (y := (nI a)) (h1v) ?_
          have hne : ¬ zv_wrong T q = -1 := by rw [h1v]; exact zi_m1 (by omega)
          have loop : ∀ (n k : Nat) (S1 : zS) (ls : Array Slot) (H : Heap) (locs : List Loc), k + n = T.1.2 → MR S1 (zs_strike (zt_s T 3 q 1) q a k) mo ar → zk_ S S1 → zh_I S1 20 mo = 0 → zh_V g A s [] S1 H locs → lv_has ls 6 [(4, .int (nI k)), (3, .int (nI (zt_own T q a k))), (2, .int (nI a)), (0, .ref mo), (1, .int (nI q))] → W p l e (zrm 4 0 0) s m args below meth c H locs (0 + (zrm 1 0 0).cells + (zrm 2 0 0).cells) (0 + (zrm 1 0 0).slots + (zrm 2 0 0).slots) (MQ below (zh_Po g A (fun w S' => zmQ S S' (zs_disp T (nI q)) mo ar (zc_disp T (nI q)) (nI (zv_disp T (zx (nI q)))) w)) args s (zrm 4 0 0).cells (zrm 4 0 0).slots A) (F0 m 61 ls []) := by
            intro n
            induction n with
            | zero =>
              intro k S1 ls H locs hn M1 hk g20 I hl
              obtain ⟨m1, m2, m3, m4, m5⟩ := id M1
              refine lv_iload hx hb dX4_dispute_61 (lv_at hl 0 rfl) ?_
              refine lv_aload_n hx hb dX4_dispute_63 rfl (lv_at hl 3 rfl) ?_
              refine zg_Model_entries (v := nI T.1.2) C I m1 zm_514 (m3) dX4_dispute_64 ?_
              refine lv_icmp_ge (tgt := 145) hx hb dX4_dispute_67 (by decide) (fun _ => ?_) (fun h9 => absurd ((nI_leI (a := T.1.2) (b := k) (by omega) (by omega)).mpr (by omega)) h9)
              refine lv_iload_n hx hb dX4_dispute_145 rfl (lv_at hl 1 rfl) ?_
              have ek : k = T.1.2 := by omega
              exact zr_iret C I hr hlk (⟨g20.trans (by rw [hc]; rfl), by unfold zs_disp; rw [if_pos hc, hb0z, if_neg hne, h1v, zx_nI (by omega), ← ek]; exact M1, hk, _, rfl, fun _ => by rw [hb0z]; unfold zv_disp; rw [if_neg hne, h1v, zx_nI (by omega), ek]⟩) (Nat.le_of_ble_eq_true rfl) (Nat.le_of_ble_eq_true rfl) dX4_dispute_146
            | succ n ih =>
              intro k S1 ls H locs hn M1 hk g20 I hl
              obtain ⟨m1, m2, m3, m4, m5⟩ := id M1
              have hk9 : k < T.1.2 := by omega
              have t5k := t5 k hk9
              have hol := zt_own_le T q a k
              have e5 : (zs_strike (zt_s T 3 q 1) q a k).2 5 k = T.2 5 k := zs_strike_j _ _ _ _ _ (by decide)
              have e12 : (zs_strike (zt_s T 3 q 1) q a k).2 12 k = T.2 12 k := if_neg (by omega)
              refine lv_iload hx hb dX4_dispute_61 (lv_at hl 0 rfl) ?_
              refine lv_aload_n hx hb dX4_dispute_63 rfl (lv_at hl 3 rfl) ?_
              refine zg_Model_entries (v := nI T.1.2) C I m1 zm_514 (m3) dX4_dispute_64 ?_
              refine lv_icmp_ge (tgt := 145) hx hb dX4_dispute_67 (by decide) (fun h9 => absurd h9 (fun h8 => absurd ((nI_leI (a := T.1.2) (b := k) (by omega) (by omega)).mp h8) (by omega))) (fun _ => ?_)
              refine lv_iload_n hx hb dX4_dispute_70 rfl (lv_at hl 2 rfl) ?_
              refine lv_iconst (v := (-1)) hx hb dX4_dispute_71 (by decide) ?_
              refine lv_icmp_eq (tgt := 145) hx hb dX4_dispute_72 (by decide) (fun h9 => absurd h9 (zi_m1 (by omega))) (fun _ => ?_)
              refine lv_aload_n hx hb dX4_dispute_75 rfl (lv_at hl 3 rfl) ?_
              refine zg_Model_of (v := ar 5) C I m1 zm_515 ((m4 5 (by decide)).1) dX4_dispute_76 ?_
              refine lv_iload hx hb dX4_dispute_79 (lv_at hl 0 rfl) ?_
              refine zr_iald (v := nI (T.2 5 k)) C I (m4 5 (by decide)).2.1 (by rw [show zh_N S1 (ar 5) = 100 from (m4 5 (by decide)).2.2.1]; exact vp_in_nI (by omega) (by omega)) (by rw [nI_clamp (by omega), (m4 5 (by decide)).2.2.2 k (show k < 100 by omega), e5]) dX4_dispute_81 ?_
              refine lv_iload_n hx hb dX4_dispute_82 rfl (lv_at hl 4 rfl) ?_
              refine lv_icmp_ne (tgt := 96) hx hb dX4_dispute_83 (by decide) (fun c83 => ?_) (fun c83 => ?_)
              · have c83 : ¬ (T.2 5 k) = q := fun h9 => c83 ((nI_eq (a := T.2 5 k) (b := q) (by omega) (by omega)).mpr h9)
                refine lv_iconst (v := 0) hx hb dX4_dispute_96 (by decide) ?_
                refine lv_istore (lv' := [(5, .int 0), (4, .int (nI k)), (3, .int (nI (zt_own T q a k))), (2, .int (nI a)), (0, .ref mo), (1, .int (nI q))]) hx hb dX4_dispute_97 hl (by decide) rfl (fun ls hl => ?_)
                have hits : ¬ (T.2 5 k = q ∧ a ≤ k) := fun h => c83 h.1
                refine lv_aload_n hx hb dX4_dispute_99 rfl (lv_at hl 4 rfl) ?_
                refine zg_Model_struck (v := ar 12) C I m1 zm_522 ((m4 12 (by decide)).1) dX4_dispute_100 ?_
                refine lv_iload hx hb dX4_dispute_103 (lv_at hl 1 rfl) ?_
                refine lv_aload_n hx hb dX4_dispute_105 rfl (lv_at hl 4 rfl) ?_
                refine zg_Model_struck (v := ar 12) C I m1 zm_522 ((m4 12 (by decide)).1) dX4_dispute_106 ?_
                refine lv_iload hx hb dX4_dispute_109 (lv_at hl 1 rfl) ?_
                refine zr_zald (v := nI (T.2 12 k)) C I (m4 12 (by decide)).2.1 (by rw [show zh_N S1 (ar 12) = 100 from (m4 12 (by decide)).2.2.1]; exact vp_in_nI (by omega) (by omega)) (by rw [nI_clamp (by omega), (m4 12 (by decide)).2.2.2 k (show k < 100 by omega), e12]) dX4_dispute_111 ?_
                refine lv_if_ne (tgt := 120) hx hb dX4_dispute_112 (by decide) (fun c112 => ?_) (fun c112 => ?_)
                · have c112 : ¬ (T.2 12 k) = 0 := fun h9 => c112 ((nI_eq (a := T.2 12 k) (b := 0) (by omega) (by omega)).mpr h9)
                  refine lv_iconst (v := 1) hx hb dX4_dispute_120 (by decide) ?_
                  refine lv_goto (tgt := 125) hx hb dX4_dispute_121 (by decide) ?_
                  refine zr_zast C I (m4 12 (by decide)).2.1 (by rw [show zh_N S1 (ar 12) = 100 from (m4 12 (by decide)).2.2.1]; exact vp_in_nI (by omega) (by omega)) (by decide) dX4_dispute_125 (fun H locs I => ?_)
                  have eT : zt_s (zs_strike (zt_s T 3 q 1) q a k) 12 k 1 = (zs_strike (zt_s T 3 q 1) q a (k + 1)) := (zt_s_self _ _ _ _ (by rw [e12]; omega)).trans (zs_strike_n (zt_s T 3 q 1) (fun h => hits ⟨h.1, h.2⟩))
                  rw [nI_clamp (by omega)] at I
                  have M1 : MR (zh_sA S1 (ar 12) (upd (zh_A S1 (ar 12)) k 1)) (zt_s (zs_strike (zt_s T 3 q 1) q a k) 12 k 1) mo ar := MR_A M1 1 (by decide) (show k < 100 by omega)
                  have hk : zk_ S (zh_sA S1 (ar 12) (upd (zh_A S1 (ar 12)) k 1)) := fun a ha => hk a ha
                  have g20 : zh_I (zh_sA S1 (ar 12) (upd (zh_A S1 (ar 12)) k 1)) 20 mo = 0 := g20
                  obtain ⟨Z4, hZ4⟩ : ∃ z, z = (zh_sA S1 (ar 12) (upd (zh_A S1 (ar 12)) k 1)) := ⟨_, rfl⟩
                  rw [← hZ4] at I M1 hk g20
                  clear hZ4
                  obtain ⟨m1, m2, m3, m4, m5⟩ := id M1
                  rw [eT] at M1
                  refine lv_iload_n hx hb dX4_dispute_126 rfl (lv_at hl 2 rfl) ?_
                  refine lv_iload hx hb dX4_dispute_127 (lv_at hl 0 rfl) ?_
                  refine lv_if_eq (tgt := 136) hx hb dX4_dispute_129 (by decide) (fun _ => ?_) (fun h9 => absurd ((nI_eq (a := 0) (b := 0) (by omega) (by omega)).mpr (by omega)) h9)
                  refine lv_iconst (v := 0) hx hb dX4_dispute_136 (by decide) ?_
                  refine lv_iadd hx hb dX4_dispute_137 ?_
                  refine zr_top (y := nI ((zt_own T q a k) + 0)) (nI_add (zt_own T q a k) 0) ?_
                  refine lv_istore_n (lv' := [(3, .int (nI ((zt_own T q a k) + 0))), (5, .int 0), (4, .int (nI k)), (2, .int (nI a)), (0, .ref mo), (1, .int (nI q))]) hx hb dX4_dispute_138 rfl hl (by decide) rfl (fun ls hl => ?_)
                  refine lv_iinc (v := nI (k + 1)) (lv' := [(4, .int (nI (k + 1))), (3, .int (nI ((zt_own T q a k) + 0))), (5, .int 0), (2, .int (nI a)), (0, .ref mo), (1, .int (nI q))]) hx hb dX4_dispute_139 hl (k := 2) rfl (nI_add k 1) (by decide) rfl (fun ls hl => ?_)
                  refine lv_goto (tgt := 61) hx hb dX4_dispute_142 (by decide) ?_
                  have hl := lv_sub (l' := [(4, .int (nI (k + 1))), (3, .int (nI ((zt_own T q a k) + 0))), (2, .int (nI a)), (0, .ref mo), (1, .int (nI q))]) hl [0, 1, 3, 4, 5] rfl
                  have e9 : zt_own T q a (k + 1) = zt_own T q a k + 0 := by show _ + (if _ then 1 else 0) = _; rw [if_neg hits]
                  rw [← e9] at hl
                  exact ih (k + 1) Z4 ls _ _ (by omega) M1 hk g20 I hl
                · have c112 : (T.2 12 k) = 0 := (nI_eq (a := T.2 12 k) (b := 0) (by omega) (by omega)).mp c112
                  refine lv_iload hx hb dX4_dispute_115 (lv_at hl 0 rfl) ?_
                  refine lv_if_eq (tgt := 124) hx hb dX4_dispute_117 (by decide) (fun _ => ?_) (fun h9 => absurd ((nI_eq (a := 0) (b := 0) (by omega) (by omega)).mpr (by omega)) h9)
                  refine lv_iconst (v := 0) hx hb dX4_dispute_124 (by decide) ?_
                  refine zr_zast C I (m4 12 (by decide)).2.1 (by rw [show zh_N S1 (ar 12) = 100 from (m4 12 (by decide)).2.2.1]; exact vp_in_nI (by omega) (by omega)) (by decide) dX4_dispute_125 (fun H locs I => ?_)
                  have eT : zt_s (zs_strike (zt_s T 3 q 1) q a k) 12 k 0 = (zs_strike (zt_s T 3 q 1) q a (k + 1)) := (zt_s_self _ _ _ _ (by rw [e12]; omega)).trans (zs_strike_n (zt_s T 3 q 1) (fun h => hits ⟨h.1, h.2⟩))
                  rw [nI_clamp (by omega)] at I
                  have M1 : MR (zh_sA S1 (ar 12) (upd (zh_A S1 (ar 12)) k 0)) (zt_s (zs_strike (zt_s T 3 q 1) q a k) 12 k 0) mo ar := MR_A M1 0 (by decide) (show k < 100 by omega)
                  have hk : zk_ S (zh_sA S1 (ar 12) (upd (zh_A S1 (ar 12)) k 0)) := fun a ha => hk a ha
                  have g20 : zh_I (zh_sA S1 (ar 12) (upd (zh_A S1 (ar 12)) k 0)) 20 mo = 0 := g20
                  obtain ⟨Z5, hZ5⟩ : ∃ z, z = (zh_sA S1 (ar 12) (upd (zh_A S1 (ar 12)) k 0)) := ⟨_, rfl⟩
                  rw [← hZ5] at I M1 hk g20
                  clear hZ5
                  obtain ⟨m1, m2, m3, m4, m5⟩ := id M1
                  rw [eT] at M1
                  refine lv_iload_n hx hb dX4_dispute_126 rfl (lv_at hl 2 rfl) ?_
                  refine lv_iload hx hb dX4_dispute_127 (lv_at hl 0 rfl) ?_
                  refine lv_if_eq (tgt := 136) hx hb dX4_dispute_129 (by decide) (fun _ => ?_) (fun h9 => absurd ((nI_eq (a := 0) (b := 0) (by omega) (by omega)).mpr (by omega)) h9)
                  refine lv_iconst (v := 0) hx hb dX4_dispute_136 (by decide) ?_
                  refine lv_iadd hx hb dX4_dispute_137 ?_
                  refine zr_top (y := nI ((zt_own T q a k) + 0)) (nI_add (zt_own T q a k) 0) ?_
                  refine lv_istore_n (lv' := [(3, .int (nI ((zt_own T q a k) + 0))), (5, .int 0), (4, .int (nI k)), (2, .int (nI a)), (0, .ref mo), (1, .int (nI q))]) hx hb dX4_dispute_138 rfl hl (by decide) rfl (fun ls hl => ?_)
                  refine lv_iinc (v := nI (k + 1)) (lv' := [(4, .int (nI (k + 1))), (3, .int (nI ((zt_own T q a k) + 0))), (5, .int 0), (2, .int (nI a)), (0, .ref mo), (1, .int (nI q))]) hx hb dX4_dispute_139 hl (k := 2) rfl (nI_add k 1) (by decide) rfl (fun ls hl => ?_)
                  refine lv_goto (tgt := 61) hx hb dX4_dispute_142 (by decide) ?_
                  have hl := lv_sub (l' := [(4, .int (nI (k + 1))), (3, .int (nI ((zt_own T q a k) + 0))), (2, .int (nI a)), (0, .ref mo), (1, .int (nI q))]) hl [0, 1, 3, 4, 5] rfl
                  have e9 : zt_own T q a (k + 1) = zt_own T q a k + 0 := by show _ + (if _ then 1 else 0) = _; rw [if_neg hits]
                  rw [← e9] at hl
                  exact ih (k + 1) Z5 ls _ _ (by omega) M1 hk g20 I hl
              · have c83 : (T.2 5 k) = q := (nI_eq (a := T.2 5 k) (b := q) (by omega) (by omega)).mp c83
                refine lv_iload hx hb dX4_dispute_86 (lv_at hl 0 rfl) ?_
                refine lv_iload_n hx hb dX4_dispute_88 rfl (lv_at hl 2 rfl) ?_
                refine lv_icmp_lt (tgt := 96) hx hb dX4_dispute_89 (by decide) (fun c89 => ?_) (fun c89 => ?_)
                · have c89 : k < a := (nI_ltI (a := k) (b := a) (by omega) (by omega)).mp c89
                  refine lv_iconst (v := 0) hx hb dX4_dispute_96 (by decide) ?_
                  refine lv_istore (lv' := [(5, .int 0), (4, .int (nI k)), (3, .int (nI (zt_own T q a k))), (2, .int (nI a)), (0, .ref mo), (1, .int (nI q))]) hx hb dX4_dispute_97 hl (by decide) rfl (fun ls hl => ?_)
                  have hits : ¬ (T.2 5 k = q ∧ a ≤ k) := fun h => absurd c89 (by omega)
                  refine lv_aload_n hx hb dX4_dispute_99 rfl (lv_at hl 4 rfl) ?_
                  refine zg_Model_struck (v := ar 12) C I m1 zm_522 ((m4 12 (by decide)).1) dX4_dispute_100 ?_
                  refine lv_iload hx hb dX4_dispute_103 (lv_at hl 1 rfl) ?_
                  refine lv_aload_n hx hb dX4_dispute_105 rfl (lv_at hl 4 rfl) ?_
                  refine zg_Model_struck (v := ar 12) C I m1 zm_522 ((m4 12 (by decide)).1) dX4_dispute_106 ?_
                  refine lv_iload hx hb dX4_dispute_109 (lv_at hl 1 rfl) ?_
                  refine zr_zald (v := nI (T.2 12 k)) C I (m4 12 (by decide)).2.1 (by rw [show zh_N S1 (ar 12) = 100 from (m4 12 (by decide)).2.2.1]; exact vp_in_nI (by omega) (by omega)) (by rw [nI_clamp (by omega), (m4 12 (by decide)).2.2.2 k (show k < 100 by omega), e12]) dX4_dispute_111 ?_
                  refine lv_if_ne (tgt := 120) hx hb dX4_dispute_112 (by decide) (fun c112 => ?_) (fun c112 => ?_)
                  · have c112 : ¬ (T.2 12 k) = 0 := fun h9 => c112 ((nI_eq (a := T.2 12 k) (b := 0) (by omega) (by omega)).mpr h9)
                    refine lv_iconst (v := 1) hx hb dX4_dispute_120 (by decide) ?_
                    refine lv_goto (tgt := 125) hx hb dX4_dispute_121 (by decide) ?_
                    refine zr_zast C I (m4 12 (by decide)).2.1 (by rw [show zh_N S1 (ar 12) = 100 from (m4 12 (by decide)).2.2.1]; exact vp_in_nI (by omega) (by omega)) (by decide) dX4_dispute_125 (fun H locs I => ?_)
                    have eT : zt_s (zs_strike (zt_s T 3 q 1) q a k) 12 k 1 = (zs_strike (zt_s T 3 q 1) q a (k + 1)) := (zt_s_self _ _ _ _ (by rw [e12]; omega)).trans (zs_strike_n (zt_s T 3 q 1) (fun h => hits ⟨h.1, h.2⟩))
                    rw [nI_clamp (by omega)] at I
                    have M1 : MR (zh_sA S1 (ar 12) (upd (zh_A S1 (ar 12)) k 1)) (zt_s (zs_strike (zt_s T 3 q 1) q a k) 12 k 1) mo ar := MR_A M1 1 (by decide) (show k < 100 by omega)
                    have hk : zk_ S (zh_sA S1 (ar 12) (upd (zh_A S1 (ar 12)) k 1)) := fun a ha => hk a ha
                    have g20 : zh_I (zh_sA S1 (ar 12) (upd (zh_A S1 (ar 12)) k 1)) 20 mo = 0 := g20
                    obtain ⟨Z6, hZ6⟩ : ∃ z, z = (zh_sA S1 (ar 12) (upd (zh_A S1 (ar 12)) k 1)) := ⟨_, rfl⟩
                    rw [← hZ6] at I M1 hk g20
                    clear hZ6
                    obtain ⟨m1, m2, m3, m4, m5⟩ := id M1
                    rw [eT] at M1
                    refine lv_iload_n hx hb dX4_dispute_126 rfl (lv_at hl 2 rfl) ?_
                    refine lv_iload hx hb dX4_dispute_127 (lv_at hl 0 rfl) ?_
                    refine lv_if_eq (tgt := 136) hx hb dX4_dispute_129 (by decide) (fun _ => ?_) (fun h9 => absurd ((nI_eq (a := 0) (b := 0) (by omega) (by omega)).mpr (by omega)) h9)
                    refine lv_iconst (v := 0) hx hb dX4_dispute_136 (by decide) ?_
                    refine lv_iadd hx hb dX4_dispute_137 ?_
                    refine zr_top (y := nI ((zt_own T q a k) + 0)) (nI_add (zt_own T q a k) 0) ?_
                    refine lv_istore_n (lv' := [(3, .int (nI ((zt_own T q a k) + 0))), (5, .int 0), (4, .int (nI k)), (2, .int (nI a)), (0, .ref mo), (1, .int (nI q))]) hx hb dX4_dispute_138 rfl hl (by decide) rfl (fun ls hl => ?_)
                    refine lv_iinc (v := nI (k + 1)) (lv' := [(4, .int (nI (k + 1))), (3, .int (nI ((zt_own T q a k) + 0))), (5, .int 0), (2, .int (nI a)), (0, .ref mo), (1, .int (nI q))]) hx hb dX4_dispute_139 hl (k := 2) rfl (nI_add k 1) (by decide) rfl (fun ls hl => ?_)
                    refine lv_goto (tgt := 61) hx hb dX4_dispute_142 (by decide) ?_
                    have hl := lv_sub (l' := [(4, .int (nI (k + 1))), (3, .int (nI ((zt_own T q a k) + 0))), (2, .int (nI a)), (0, .ref mo), (1, .int (nI q))]) hl [0, 1, 3, 4, 5] rfl
                    have e9 : zt_own T q a (k + 1) = zt_own T q a k + 0 := by show _ + (if _ then 1 else 0) = _; rw [if_neg hits]
                    rw [← e9] at hl
                    exact ih (k + 1) Z6 ls _ _ (by omega) M1 hk g20 I hl
                  · have c112 : (T.2 12 k) = 0 := (nI_eq (a := T.2 12 k) (b := 0) (by omega) (by omega)).mp c112
                    refine lv_iload hx hb dX4_dispute_115 (lv_at hl 0 rfl) ?_
                    refine lv_if_eq (tgt := 124) hx hb dX4_dispute_117 (by decide) (fun _ => ?_) (fun h9 => absurd ((nI_eq (a := 0) (b := 0) (by omega) (by omega)).mpr (by omega)) h9)
                    refine lv_iconst (v := 0) hx hb dX4_dispute_124 (by decide) ?_
                    refine zr_zast C I (m4 12 (by decide)).2.1 (by rw [show zh_N S1 (ar 12) = 100 from (m4 12 (by decide)).2.2.1]; exact vp_in_nI (by omega) (by omega)) (by decide) dX4_dispute_125 (fun H locs I => ?_)
                    have eT : zt_s (zs_strike (zt_s T 3 q 1) q a k) 12 k 0 = (zs_strike (zt_s T 3 q 1) q a (k + 1)) := (zt_s_self _ _ _ _ (by rw [e12]; omega)).trans (zs_strike_n (zt_s T 3 q 1) (fun h => hits ⟨h.1, h.2⟩))
                    rw [nI_clamp (by omega)] at I
                    have M1 : MR (zh_sA S1 (ar 12) (upd (zh_A S1 (ar 12)) k 0)) (zt_s (zs_strike (zt_s T 3 q 1) q a k) 12 k 0) mo ar := MR_A M1 0 (by decide) (show k < 100 by omega)
                    have hk : zk_ S (zh_sA S1 (ar 12) (upd (zh_A S1 (ar 12)) k 0)) := fun a ha => hk a ha
                    have g20 : zh_I (zh_sA S1 (ar 12) (upd (zh_A S1 (ar 12)) k 0)) 20 mo = 0 := g20
                    obtain ⟨Z7, hZ7⟩ : ∃ z, z = (zh_sA S1 (ar 12) (upd (zh_A S1 (ar 12)) k 0)) := ⟨_, rfl⟩
                    rw [← hZ7] at I M1 hk g20
                    clear hZ7
                    obtain ⟨m1, m2, m3, m4, m5⟩ := id M1
                    rw [eT] at M1
                    refine lv_iload_n hx hb dX4_dispute_126 rfl (lv_at hl 2 rfl) ?_
                    refine lv_iload hx hb dX4_dispute_127 (lv_at hl 0 rfl) ?_
                    refine lv_if_eq (tgt := 136) hx hb dX4_dispute_129 (by decide) (fun _ => ?_) (fun h9 => absurd ((nI_eq (a := 0) (b := 0) (by omega) (by omega)).mpr (by omega)) h9)
                    refine lv_iconst (v := 0) hx hb dX4_dispute_136 (by decide) ?_
                    refine lv_iadd hx hb dX4_dispute_137 ?_
                    refine zr_top (y := nI ((zt_own T q a k) + 0)) (nI_add (zt_own T q a k) 0) ?_
                    refine lv_istore_n (lv' := [(3, .int (nI ((zt_own T q a k) + 0))), (5, .int 0), (4, .int (nI k)), (2, .int (nI a)), (0, .ref mo), (1, .int (nI q))]) hx hb dX4_dispute_138 rfl hl (by decide) rfl (fun ls hl => ?_)
                    refine lv_iinc (v := nI (k + 1)) (lv' := [(4, .int (nI (k + 1))), (3, .int (nI ((zt_own T q a k) + 0))), (5, .int 0), (2, .int (nI a)), (0, .ref mo), (1, .int (nI q))]) hx hb dX4_dispute_139 hl (k := 2) rfl (nI_add k 1) (by decide) rfl (fun ls hl => ?_)
                    refine lv_goto (tgt := 61) hx hb dX4_dispute_142 (by decide) ?_
                    have hl := lv_sub (l' := [(4, .int (nI (k + 1))), (3, .int (nI ((zt_own T q a k) + 0))), (2, .int (nI a)), (0, .ref mo), (1, .int (nI q))]) hl [0, 1, 3, 4, 5] rfl
                    have e9 : zt_own T q a (k + 1) = zt_own T q a k + 0 := by show _ + (if _ then 1 else 0) = _; rw [if_neg hits]
                    rw [← e9] at hl
                    exact ih (k + 1) Z7 ls _ _ (by omega) M1 hk g20 I hl
                · have c89 : ¬ k < a := fun h9 => c89 ((nI_ltI (a := k) (b := a) (by omega) (by omega)).mpr h9)
                  refine lv_iconst (v := 1) hx hb dX4_dispute_92 (by decide) ?_
                  refine lv_goto (tgt := 97) hx hb dX4_dispute_93 (by decide) ?_
                  refine lv_istore (lv' := [(5, .int 1), (4, .int (nI k)), (3, .int (nI (zt_own T q a k))), (2, .int (nI a)), (0, .ref mo), (1, .int (nI q))]) hx hb dX4_dispute_97 hl (by decide) rfl (fun ls hl => ?_)
                  have hits : (T.2 5 k = q ∧ a ≤ k) := ⟨c83, by omega⟩
                  refine lv_aload_n hx hb dX4_dispute_99 rfl (lv_at hl 4 rfl) ?_
                  refine zg_Model_struck (v := ar 12) C I m1 zm_522 ((m4 12 (by decide)).1) dX4_dispute_100 ?_
                  refine lv_iload hx hb dX4_dispute_103 (lv_at hl 1 rfl) ?_
                  refine lv_aload_n hx hb dX4_dispute_105 rfl (lv_at hl 4 rfl) ?_
                  refine zg_Model_struck (v := ar 12) C I m1 zm_522 ((m4 12 (by decide)).1) dX4_dispute_106 ?_
                  refine lv_iload hx hb dX4_dispute_109 (lv_at hl 1 rfl) ?_
                  refine zr_zald (v := nI (T.2 12 k)) C I (m4 12 (by decide)).2.1 (by rw [show zh_N S1 (ar 12) = 100 from (m4 12 (by decide)).2.2.1]; exact vp_in_nI (by omega) (by omega)) (by rw [nI_clamp (by omega), (m4 12 (by decide)).2.2.2 k (show k < 100 by omega), e12]) dX4_dispute_111 ?_
                  refine lv_if_ne (tgt := 120) hx hb dX4_dispute_112 (by decide) (fun c112 => ?_) (fun c112 => ?_)
                  · have c112 : ¬ (T.2 12 k) = 0 := fun h9 => c112 ((nI_eq (a := T.2 12 k) (b := 0) (by omega) (by omega)).mpr h9)
                    refine lv_iconst (v := 1) hx hb dX4_dispute_120 (by decide) ?_
                    refine lv_goto (tgt := 125) hx hb dX4_dispute_121 (by decide) ?_
                    refine zr_zast C I (m4 12 (by decide)).2.1 (by rw [show zh_N S1 (ar 12) = 100 from (m4 12 (by decide)).2.2.1]; exact vp_in_nI (by omega) (by omega)) (by decide) dX4_dispute_125 (fun H locs I => ?_)
                    have eT : zt_s (zs_strike (zt_s T 3 q 1) q a k) 12 k 1 = (zs_strike (zt_s T 3 q 1) q a (k + 1)) := zs_strike_s (zt_s T 3 q 1) (show (zt_s T 3 q 1).2 5 k = q from hits.1) hits.2
                    rw [nI_clamp (by omega)] at I
                    have M1 : MR (zh_sA S1 (ar 12) (upd (zh_A S1 (ar 12)) k 1)) (zt_s (zs_strike (zt_s T 3 q 1) q a k) 12 k 1) mo ar := MR_A M1 1 (by decide) (show k < 100 by omega)
                    have hk : zk_ S (zh_sA S1 (ar 12) (upd (zh_A S1 (ar 12)) k 1)) := fun a ha => hk a ha
                    have g20 : zh_I (zh_sA S1 (ar 12) (upd (zh_A S1 (ar 12)) k 1)) 20 mo = 0 := g20
                    obtain ⟨Z8, hZ8⟩ : ∃ z, z = (zh_sA S1 (ar 12) (upd (zh_A S1 (ar 12)) k 1)) := ⟨_, rfl⟩
                    rw [← hZ8] at I M1 hk g20
                    clear hZ8
                    obtain ⟨m1, m2, m3, m4, m5⟩ := id M1
                    rw [eT] at M1
                    refine lv_iload_n hx hb dX4_dispute_126 rfl (lv_at hl 2 rfl) ?_
                    refine lv_iload hx hb dX4_dispute_127 (lv_at hl 0 rfl) ?_
                    refine lv_if_eq (tgt := 136) hx hb dX4_dispute_129 (by decide) (fun h9 => absurd h9 (fun h8 => absurd ((nI_eq (a := 1) (b := 0) (by omega) (by omega)).mp h8) (by omega))) (fun _ => ?_)
                    refine lv_iconst (v := 1) hx hb dX4_dispute_132 (by decide) ?_
                    refine lv_goto (tgt := 137) hx hb dX4_dispute_133 (by decide) ?_
                    refine lv_iadd hx hb dX4_dispute_137 ?_
                    refine zr_top (y := nI ((zt_own T q a k) + 1)) (nI_add (zt_own T q a k) 1) ?_
                    refine lv_istore_n (lv' := [(3, .int (nI ((zt_own T q a k) + 1))), (5, .int 1), (4, .int (nI k)), (2, .int (nI a)), (0, .ref mo), (1, .int (nI q))]) hx hb dX4_dispute_138 rfl hl (by decide) rfl (fun ls hl => ?_)
                    refine lv_iinc (v := nI (k + 1)) (lv' := [(4, .int (nI (k + 1))), (3, .int (nI ((zt_own T q a k) + 1))), (5, .int 1), (2, .int (nI a)), (0, .ref mo), (1, .int (nI q))]) hx hb dX4_dispute_139 hl (k := 2) rfl (nI_add k 1) (by decide) rfl (fun ls hl => ?_)
                    refine lv_goto (tgt := 61) hx hb dX4_dispute_142 (by decide) ?_
                    have hl := lv_sub (l' := [(4, .int (nI (k + 1))), (3, .int (nI ((zt_own T q a k) + 1))), (2, .int (nI a)), (0, .ref mo), (1, .int (nI q))]) hl [0, 1, 3, 4, 5] rfl
                    have e9 : zt_own T q a (k + 1) = zt_own T q a k + 1 := by show _ + (if _ then 1 else 0) = _; rw [if_pos hits]
                    rw [← e9] at hl
                    exact ih (k + 1) Z8 ls _ _ (by omega) M1 hk g20 I hl
                  · have c112 : (T.2 12 k) = 0 := (nI_eq (a := T.2 12 k) (b := 0) (by omega) (by omega)).mp c112
                    refine lv_iload hx hb dX4_dispute_115 (lv_at hl 0 rfl) ?_
                    refine lv_if_eq (tgt := 124) hx hb dX4_dispute_117 (by decide) (fun h9 => absurd h9 (fun h8 => absurd ((nI_eq (a := 1) (b := 0) (by omega) (by omega)).mp h8) (by omega))) (fun _ => ?_)
                    refine lv_iconst (v := 1) hx hb dX4_dispute_120 (by decide) ?_
                    refine lv_goto (tgt := 125) hx hb dX4_dispute_121 (by decide) ?_
                    refine zr_zast C I (m4 12 (by decide)).2.1 (by rw [show zh_N S1 (ar 12) = 100 from (m4 12 (by decide)).2.2.1]; exact vp_in_nI (by omega) (by omega)) (by decide) dX4_dispute_125 (fun H locs I => ?_)
                    have eT : zt_s (zs_strike (zt_s T 3 q 1) q a k) 12 k 1 = (zs_strike (zt_s T 3 q 1) q a (k + 1)) := zs_strike_s (zt_s T 3 q 1) (show (zt_s T 3 q 1).2 5 k = q from hits.1) hits.2
                    rw [nI_clamp (by omega)] at I
                    have M1 : MR (zh_sA S1 (ar 12) (upd (zh_A S1 (ar 12)) k 1)) (zt_s (zs_strike (zt_s T 3 q 1) q a k) 12 k 1) mo ar := MR_A M1 1 (by decide) (show k < 100 by omega)
                    have hk : zk_ S (zh_sA S1 (ar 12) (upd (zh_A S1 (ar 12)) k 1)) := fun a ha => hk a ha
                    have g20 : zh_I (zh_sA S1 (ar 12) (upd (zh_A S1 (ar 12)) k 1)) 20 mo = 0 := g20
                    obtain ⟨Z9, hZ9⟩ : ∃ z, z = (zh_sA S1 (ar 12) (upd (zh_A S1 (ar 12)) k 1)) := ⟨_, rfl⟩
                    rw [← hZ9] at I M1 hk g20
                    clear hZ9
                    obtain ⟨m1, m2, m3, m4, m5⟩ := id M1
                    rw [eT] at M1
                    refine lv_iload_n hx hb dX4_dispute_126 rfl (lv_at hl 2 rfl) ?_
                    refine lv_iload hx hb dX4_dispute_127 (lv_at hl 0 rfl) ?_
                    refine lv_if_eq (tgt := 136) hx hb dX4_dispute_129 (by decide) (fun h9 => absurd h9 (fun h8 => absurd ((nI_eq (a := 1) (b := 0) (by omega) (by omega)).mp h8) (by omega))) (fun _ => ?_)
                    refine lv_iconst (v := 1) hx hb dX4_dispute_132 (by decide) ?_
                    refine lv_goto (tgt := 137) hx hb dX4_dispute_133 (by decide) ?_
                    refine lv_iadd hx hb dX4_dispute_137 ?_
                    refine zr_top (y := nI ((zt_own T q a k) + 1)) (nI_add (zt_own T q a k) 1) ?_
                    refine lv_istore_n (lv' := [(3, .int (nI ((zt_own T q a k) + 1))), (5, .int 1), (4, .int (nI k)), (2, .int (nI a)), (0, .ref mo), (1, .int (nI q))]) hx hb dX4_dispute_138 rfl hl (by decide) rfl (fun ls hl => ?_)
                    refine lv_iinc (v := nI (k + 1)) (lv' := [(4, .int (nI (k + 1))), (3, .int (nI ((zt_own T q a k) + 1))), (5, .int 1), (2, .int (nI a)), (0, .ref mo), (1, .int (nI q))]) hx hb dX4_dispute_139 hl (k := 2) rfl (nI_add k 1) (by decide) rfl (fun ls hl => ?_)
                    refine lv_goto (tgt := 61) hx hb dX4_dispute_142 (by decide) ?_
                    have hl := lv_sub (l' := [(4, .int (nI (k + 1))), (3, .int (nI ((zt_own T q a k) + 1))), (2, .int (nI a)), (0, .ref mo), (1, .int (nI q))]) hl [0, 1, 3, 4, 5] rfl
                    have e9 : zt_own T q a (k + 1) = zt_own T q a k + 1 := by show _ + (if _ then 1 else 0) = _; rw [if_pos hits]
                    rw [← e9] at hl
                    exact ih (k + 1) Z9 ls _ _ (by omega) M1 hk g20 I hl
          refine lv_istore_n (lv' := [(2, .int (nI a)), (0, .ref mo), (1, .int (nI q))]) hx hb dX4_dispute_55 rfl hl (by decide) rfl (fun ls hl => ?_)
          refine lv_iconst (v := 0) hx hb dX4_dispute_56 (by decide) ?_
          refine lv_istore_n (lv' := [(3, .int 0), (2, .int (nI a)), (0, .ref mo), (1, .int (nI q))]) hx hb dX4_dispute_57 rfl hl (by decide) rfl (fun ls hl => ?_)
          refine lv_iconst (v := 0) hx hb dX4_dispute_58 (by decide) ?_
          refine lv_istore (lv' := [(4, .int 0), (3, .int 0), (2, .int (nI a)), (0, .ref mo), (1, .int (nI q))]) hx hb dX4_dispute_59 hl (by decide) rfl (fun ls hl => ?_)
          have hl := lv_sub (l' := [(4, .int 0), (3, .int 0), (2, .int (nI a)), (0, .ref mo), (1, .int (nI q))]) hl [0, 1, 2, 3, 4] rfl
          exact loop T.1.2 0 S' ls _ _ (Nat.zero_add _) (by rw [← zs_strike_z (zt_s T 3 q 1) q a] at M1; exact M1) hk g20 I hl
      · have c34 : ¬ (T.2 3 q) = 0 := fun h9 => c34 ((nI_eq (a := T.2 3 q) (b := 0) (by omega) (by omega)).mpr h9)
        refine lv_aload_n hx hb dX4_dispute_37 rfl (lv_at hl 0 rfl) ?_
        refine lv_iconst (v := 2) hx hb dX4_dispute_38 (by decide) ?_
        refine zc_V (n := 1) (rest := []) C I m1 rfl rfl (k_X4_fails l g Z2 mo 2 m1) zm_575 zm_576 zm_15 zm_28 zm_577 rfl hl.1 dX4_dispute_39 (by decide +kernel) rfl ⟨Nat.le_of_ble_eq_true rfl, Nat.le_of_ble_eq_true rfl⟩ (Nat.le_of_ble_eq_true rfl) ⟨Nat.le_of_ble_eq_true rfl, Nat.le_of_ble_eq_true rfl⟩ (fun v S' H locs hq I => ?_)
        obtain ⟨rfl, eS⟩ := hq
        rw [eS] at I
        have hcF : zc_disp T (nI q) = 2 := hc2 (Or.inr c34)
        exact zr_iret C I hr hlk (by rw [show zs_disp T (nI q) = T from if_neg (by rw [hcF]; decide)]; exact ⟨(zI_s _ _ _ _).trans (by rw [hcF]; rfl), MR_I M1 20 _ (by decide) (by decide), fun a ha => hk a ha, 0, rfl, fun h => absurd (hcF.symm.trans h) (by decide)⟩) (Nat.le_of_ble_eq_true rfl) (Nat.le_of_ble_eq_true rfl) dX4_dispute_42

