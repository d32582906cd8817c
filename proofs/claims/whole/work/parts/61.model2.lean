/-! the model: calls that write -/

set_option maxRecDepth 100000 in
set_option maxHeartbeats 4000000 in
theorem k_X4_open (l : Launch) (g : zG) (S : zS) (T : zT) (mo : Nat) (ar : Nat → Nat) (hT : zt_ok T) (hM : MR S T mo ar) (i : Int32) : zM l yX4_open cX4_open 2 (some .int) (zrm 3 0 0) g [.ref mo, .int i] S (fun w S' => zmQ S S' (zs_open T i) mo ar (zc_open T i) (nI (T.2 0 (zx i))) w) := by
  refine zM_of (nm := "open") (by decide) rfl (Nat.le_of_ble_eq_true rfl) ?_
  intro p e s m args below meth c A ls C hr hlk hin I hl
  have C : CallFix p m c cX4_open 2 s args zc_W RX4 := C
  have hx := C.1
  have hb := C.2.1
  have hl : lv_has ls 2 [(0, .ref mo), (1, .int i)] := hl
  obtain ⟨m1, m2, m3, m4, m5⟩ := id hM
  obtain ⟨t1, t2, t3, t4, t5, t6, t7⟩ := id hT
  refine lv_aload_n hx hb dX4_open_0 rfl (lv_at hl 0 rfl) ?_
  refine lv_iconst (v := 0) hx hb dX4_open_1 (by decide) ?_
  refine zp_Model_thrown C I m1 zm_507 dX4_open_2 (fun H locs I => ?_)
  have M1 : MR (zh_sI S 20 mo 0) T mo ar := MR_I hM 20 _ (by decide) (by decide)
  obtain ⟨m1, m2, m3, m4, m5⟩ := id M1
  rcases zi_cases i (n := T.1.1) (by omega) with hb0 | ⟨hb0, hj0, hi0⟩
  · refine lv_aload_n hx hb dX4_open_5 rfl (lv_at hl 0 rfl) ?_
    refine lv_iload_n hx hb dX4_open_6 rfl (lv_at hl 1 rfl) ?_
    refine zc_V (n := 1) (rest := []) C I m1 rfl rfl (k_X4_isPromise l g (zh_sI S 20 mo 0) mo T.1.1 i m1 m2 (by omega)) zm_582 zm_583 zm_16 zm_28 zm_584 rfl hl.1 dX4_open_7 (by decide +kernel) rfl ⟨Nat.le_of_ble_eq_true rfl, Nat.le_of_ble_eq_true rfl⟩ (Nat.le_of_ble_eq_true rfl) ⟨Nat.le_of_ble_eq_true rfl, Nat.le_of_ble_eq_true rfl⟩ (fun v S' H locs hq I => ?_)
    obtain ⟨rfl, eS⟩ := hq
    rw [eS] at I
    refine zr_top (y := 0) (if_pos hb0) ?_
    refine lv_if_ne (tgt := 19) hx hb dX4_open_10 (by decide) (fun h9 => absurd ((nI_eq (a := 0) (b := 0) (by omega) (by omega)).mpr (by omega)) h9) (fun _ => ?_)
    refine lv_aload_n hx hb dX4_open_13 rfl (lv_at hl 0 rfl) ?_
    refine lv_iconst (v := 1) hx hb dX4_open_14 (by decide) ?_
    refine zc_V (n := 1) (rest := []) C I m1 rfl rfl (k_X4_fails l g (zh_sI S 20 mo 0) mo 1 m1) zm_575 zm_576 zm_15 zm_28 zm_577 rfl hl.1 dX4_open_15 (by decide +kernel) rfl ⟨Nat.le_of_ble_eq_true rfl, Nat.le_of_ble_eq_true rfl⟩ (Nat.le_of_ble_eq_true rfl) ⟨Nat.le_of_ble_eq_true rfl, Nat.le_of_ble_eq_true rfl⟩ (fun v S' H locs hq I => ?_)
    obtain ⟨rfl, eS⟩ := hq
    rw [eS] at I
    have hcF : zc_open T i = 1 := if_pos hb0
    exact zr_iret C I hr hlk (by rw [show zs_open T i = T from if_neg (by rw [hcF]; decide)]; exact zm_fail hM 1 hcF (by decide)) (Nat.le_of_ble_eq_true rfl) (Nat.le_of_ble_eq_true rfl) dX4_open_18
  · obtain ⟨q, hb0n, rfl⟩ : ∃ q : Nat, q < T.1.1 ∧ i = nI q := ⟨_, hj0, hi0⟩
    clear hj0 hi0
    have hb0z : zx (nI q) = q := zx_nI (by omega)
    refine lv_aload_n hx hb dX4_open_5 rfl (lv_at hl 0 rfl) ?_
    refine lv_iload_n hx hb dX4_open_6 rfl (lv_at hl 1 rfl) ?_
    refine zc_V (n := 1) (rest := []) C I m1 rfl rfl (k_X4_isPromise l g (zh_sI S 20 mo 0) mo T.1.1 (nI q) m1 m2 (by omega)) zm_582 zm_583 zm_16 zm_28 zm_584 rfl hl.1 dX4_open_7 (by decide +kernel) rfl ⟨Nat.le_of_ble_eq_true rfl, Nat.le_of_ble_eq_true rfl⟩ (Nat.le_of_ble_eq_true rfl) ⟨Nat.le_of_ble_eq_true rfl, Nat.le_of_ble_eq_true rfl⟩ (fun v S' H locs hq I => ?_)
    obtain ⟨rfl, eS⟩ := hq
    rw [eS] at I
    refine zr_top (y := 1) (if_neg hb0) ?_
    have t3q := t3 q
    refine lv_if_ne (tgt := 19) hx hb dX4_open_10 (by decide) (fun _ => ?_) (fun h9 => absurd h9 (fun h8 => absurd ((nI_eq (a := 1) (b := 0) (by omega) (by omega)).mp h8) (by omega)))
    refine lv_aload_n hx hb dX4_open_19 rfl (lv_at hl 0 rfl) ?_
    refine zg_Model_opened (v := ar 2) C I m1 zm_511 ((m4 2 (by decide)).1) dX4_open_20 ?_
    refine lv_iload_n hx hb dX4_open_23 rfl (lv_at hl 1 rfl) ?_
    refine zr_zald (v := nI (T.2 2 q)) C I (m4 2 (by decide)).2.1 (by rw [show zh_N (zh_sI S 20 mo 0) (ar 2) = 16 from (m4 2 (by decide)).2.2.1]; exact vp_in_nI (by omega) (by omega)) (by rw [nI_clamp (by omega)]; exact (m4 2 (by decide)).2.2.2 q (show q < 16 by omega)) dX4_open_24 ?_
    refine lv_if_eq (tgt := 34) hx hb dX4_open_25 (by decide) (fun c25 => ?_) (fun c25 => ?_)
    · have c25 : (T.2 2 q) = 0 := (nI_eq (a := T.2 2 q) (b := 0) (by omega) (by omega)).mp c25
      refine lv_aload_n hx hb dX4_open_34 rfl (lv_at hl 0 rfl) ?_
      refine zg_Model_opened (v := ar 2) C I m1 zm_511 ((m4 2 (by decide)).1) dX4_open_35 ?_
      refine lv_iload_n hx hb dX4_open_38 rfl (lv_at hl 1 rfl) ?_
      refine lv_iconst (v := 1) hx hb dX4_open_39 (by decide) ?_
      refine zr_zast C I (m4 2 (by decide)).2.1 (by rw [show zh_N (zh_sI S 20 mo 0) (ar 2) = 16 from (m4 2 (by decide)).2.2.1]; exact vp_in_nI (by omega) (by omega)) (by decide) dX4_open_40 (fun H locs I => ?_)
      rw [nI_clamp (by omega)] at I
      have M2 : MR (zh_sA (zh_sI S 20 mo 0) (ar 2) (upd (zh_A (zh_sI S 20 mo 0) (ar 2)) q 1)) (zt_s T 2 q 1) mo ar := MR_A M1 1 (by decide) (show q < 16 by omega)
      obtain ⟨m1, m2, m3, m4, m5⟩ := id M2
      refine lv_aload_n hx hb dX4_open_41 rfl (lv_at hl 0 rfl) ?_
      refine zg_Model_seed (v := ar 0) C I m1 zm_509 ((m4 0 (by decide)).1) dX4_open_42 ?_
      refine lv_iload_n hx hb dX4_open_45 rfl (lv_at hl 1 rfl) ?_
      refine zr_iald (v := nI (T.2 0 q)) C I (m4 0 (by decide)).2.1 (by rw [show zh_N (zh_sA (zh_sI S 20 mo 0) (ar 2) (upd (zh_A (zh_sI S 20 mo 0) (ar 2)) q 1)) (ar 0) = 16 from (m4 0 (by decide)).2.2.1]; exact vp_in_nI (by omega) (by omega)) (by rw [nI_clamp (by omega), (m4 0 (by decide)).2.2.2 q (show q < 16 by omega), zt_s_j _ _ _ _ (by decide)]) dX4_open_46 ?_
      have hc : zc_open T (nI q) = 0 := by unfold zc_open; rw [if_neg hb0, hb0z, if_neg (fun h => h c25)]
      exact zr_iret C I hr hlk (⟨(zI_s _ _ _ _).trans (by rw [hc]; rfl), by unfold zs_open; rw [if_pos hc, hb0z]; exact M2, zk_rf S, _, rfl, fun _ => by rw [hb0z]⟩) (Nat.le_of_ble_eq_true rfl) (Nat.le_of_ble_eq_true rfl) dX4_open_47
    · have c25 : ¬ (T.2 2 q) = 0 := fun h9 => c25 ((nI_eq (a := T.2 2 q) (b := 0) (by omega) (by omega)).mpr h9)
      refine lv_aload_n hx hb dX4_open_28 rfl (lv_at hl 0 rfl) ?_
      refine lv_iconst (v := 2) hx hb dX4_open_29 (by decide) ?_
      refine zc_V (n := 1) (rest := []) C I m1 rfl rfl (k_X4_fails l g (zh_sI S 20 mo 0) mo 2 m1) zm_575 zm_576 zm_15 zm_28 zm_577 rfl hl.1 dX4_open_30 (by decide +kernel) rfl ⟨Nat.le_of_ble_eq_true rfl, Nat.le_of_ble_eq_true rfl⟩ (Nat.le_of_ble_eq_true rfl) ⟨Nat.le_of_ble_eq_true rfl, Nat.le_of_ble_eq_true rfl⟩ (fun v S' H locs hq I => ?_)
      obtain ⟨rfl, eS⟩ := hq
      rw [eS] at I
      have hcF : zc_open T (nI q) = 2 := (show zc_open T (nI q) = 2 by unfold zc_open; rw [if_neg hb0, hb0z, if_pos c25])
      exact zr_iret C I hr hlk (by rw [show zs_open T (nI q) = T from if_neg (by rw [hcF]; decide)]; exact zm_fail hM 2 hcF (by decide)) (Nat.le_of_ble_eq_true rfl) (Nat.le_of_ble_eq_true rfl) dX4_open_33

set_option maxRecDepth 100000 in
set_option maxHeartbeats 4000000 in
theorem k_X4_isOpened (l : Launch) (g : zG) (S : zS) (T : zT) (mo : Nat) (ar : Nat → Nat) (hT : zt_ok T) (hM : MR S T mo ar) (i : Int32) : zM l yX4_isOpened cX4_isOpened 2 (some .boolean) (zrm 3 0 0) g [.ref mo, .int i] S (fun w S' => zmQ S S' T mo ar (zc_prom T i) (nI (T.2 2 (zx i))) w) := by
  refine zM_of (nm := "isOpened") (by decide) rfl (Nat.le_of_ble_eq_true rfl) ?_
  intro p e s m args below meth c A ls C hr hlk hin I hl
  have C : CallFix p m c cX4_isOpened 2 s args zc_W RX4 := C
  have hx := C.1
  have hb := C.2.1
  have hl : lv_has ls 2 [(0, .ref mo), (1, .int i)] := hl
  obtain ⟨m1, m2, m3, m4, m5⟩ := id hM
  obtain ⟨t1, t2, t3, t4, t5, t6, t7⟩ := id hT
  rcases zi_cases i (n := T.1.1) (by omega) with hb0 | ⟨hb0, hj0, hi0⟩
  · refine lv_aload_n hx hb dX4_isOpened_0 rfl (lv_at hl 0 rfl) ?_
    refine lv_aload_n hx hb dX4_isOpened_1 rfl (lv_at hl 0 rfl) ?_
    refine lv_iload_n hx hb dX4_isOpened_2 rfl (lv_at hl 1 rfl) ?_
    refine zc_V (n := 1) (rest := [.ref mo]) C I m1 rfl rfl (k_X4_isPromise l g S mo T.1.1 i m1 m2 (by omega)) zm_582 zm_583 zm_16 zm_28 zm_584 rfl hl.1 dX4_isOpened_3 (by decide +kernel) rfl ⟨Nat.le_of_ble_eq_true rfl, Nat.le_of_ble_eq_true rfl⟩ (Nat.le_of_ble_eq_true rfl) ⟨Nat.le_of_ble_eq_true rfl, Nat.le_of_ble_eq_true rfl⟩ (fun v S' H locs hq I => ?_)
    obtain ⟨rfl, eS⟩ := hq
    rw [eS] at I
    refine zr_top (y := 0) (if_pos hb0) ?_
    refine lv_if_eq (tgt := 13) hx hb dX4_isOpened_6 (by decide) (fun _ => ?_) (fun h9 => absurd ((nI_eq (a := 0) (b := 0) (by omega) (by omega)).mpr (by omega)) h9)
    refine lv_iconst (v := 1) hx hb dX4_isOpened_13 (by decide) ?_
    refine zp_Model_thrown C I m1 zm_507 dX4_isOpened_14 (fun H locs I => ?_)
    refine lv_aload_n hx hb dX4_isOpened_17 rfl (lv_at hl 0 rfl) ?_
    refine zg_Model_thrown (v := 1) C I m1 zm_507 (zI_s _ _ _ _) dX4_isOpened_18 ?_
    refine lv_if_ne (tgt := 37) hx hb dX4_isOpened_21 (by decide) (fun _ => ?_) (fun h9 => absurd h9 (fun h8 => absurd ((nI_eq (a := 1) (b := 0) (by omega) (by omega)).mp h8) (by omega)))
    refine lv_iconst (v := 0) hx hb dX4_isOpened_37 (by decide) ?_
    have hc : zc_prom T i = 1 := if_pos hb0
    exact zr_zret C I hr (zf_b (by decide)).1 hlk (⟨(zI_s _ _ _ _).trans (by rw [hc]; rfl), MR_I hM 20 _ (by decide) (by decide), zk_rf S, _, rfl, fun h => absurd (hc.symm.trans h) (by decide)⟩) (Nat.le_of_ble_eq_true rfl) (Nat.le_of_ble_eq_true rfl) dX4_isOpened_38
  · obtain ⟨q, hb0n, rfl⟩ : ∃ q : Nat, q < T.1.1 ∧ i = nI q := ⟨_, hj0, hi0⟩
    clear hj0 hi0
    have hb0z : zx (nI q) = q := zx_nI (by omega)
    refine lv_aload_n hx hb dX4_isOpened_0 rfl (lv_at hl 0 rfl) ?_
    refine lv_aload_n hx hb dX4_isOpened_1 rfl (lv_at hl 0 rfl) ?_
    refine lv_iload_n hx hb dX4_isOpened_2 rfl (lv_at hl 1 rfl) ?_
    refine zc_V (n := 1) (rest := [.ref mo]) C I m1 rfl rfl (k_X4_isPromise l g S mo T.1.1 (nI q) m1 m2 (by omega)) zm_582 zm_583 zm_16 zm_28 zm_584 rfl hl.1 dX4_isOpened_3 (by decide +kernel) rfl ⟨Nat.le_of_ble_eq_true rfl, Nat.le_of_ble_eq_true rfl⟩ (Nat.le_of_ble_eq_true rfl) ⟨Nat.le_of_ble_eq_true rfl, Nat.le_of_ble_eq_true rfl⟩ (fun v S' H locs hq I => ?_)
    obtain ⟨rfl, eS⟩ := hq
    rw [eS] at I
    refine zr_top (y := 1) (if_neg hb0) ?_
    refine lv_if_eq (tgt := 13) hx hb dX4_isOpened_6 (by decide) (fun h9 => absurd h9 (fun h8 => absurd ((nI_eq (a := 1) (b := 0) (by omega) (by omega)).mp h8) (by omega))) (fun _ => ?_)
    refine lv_iconst (v := 0) hx hb dX4_isOpened_9 (by decide) ?_
    refine lv_goto (tgt := 14) hx hb dX4_isOpened_10 (by decide) ?_
    refine zp_Model_thrown C I m1 zm_507 dX4_isOpened_14 (fun H locs I => ?_)
    have M1 : MR (zh_sI S 20 mo 0) T mo ar := MR_I hM 20 _ (by decide) (by decide)
    obtain ⟨m1, m2, m3, m4, m5⟩ := id M1
    have hle := (t3 q).2.2.1
    have hc : zc_prom T (nI q) = 0 := if_neg hb0
    refine lv_aload_n hx hb dX4_isOpened_17 rfl (lv_at hl 0 rfl) ?_
    refine zg_Model_thrown (v := 0) C I m1 zm_507 (zI_s _ _ _ _) dX4_isOpened_18 ?_
    refine lv_if_ne (tgt := 37) hx hb dX4_isOpened_21 (by decide) (fun h9 => absurd ((nI_eq (a := 0) (b := 0) (by omega) (by omega)).mpr (by omega)) h9) (fun _ => ?_)
    refine lv_aload_n hx hb dX4_isOpened_24 rfl (lv_at hl 0 rfl) ?_
    refine zg_Model_opened (v := ar 2) C I m1 zm_511 ((m4 2 (by decide)).1) dX4_isOpened_25 ?_
    refine lv_iload_n hx hb dX4_isOpened_28 rfl (lv_at hl 1 rfl) ?_
    refine zr_zald (v := nI (T.2 2 q)) C I (m4 2 (by decide)).2.1 (by rw [show zh_N (zh_sI S 20 mo 0) (ar 2) = 16 from (m4 2 (by decide)).2.2.1]; exact vp_in_nI (by omega) (by omega)) (by rw [nI_clamp (by omega)]; exact (m4 2 (by decide)).2.2.2 q (show q < 16 by omega)) dX4_isOpened_29 ?_
    refine lv_if_eq (tgt := 37) hx hb dX4_isOpened_30 (by decide) (fun c30 => ?_) (fun c30 => ?_)
    · have c30 : (T.2 2 q) = 0 := (nI_eq (a := T.2 2 q) (b := 0) (by omega) (by omega)).mp c30
      refine lv_iconst (v := 0) hx hb dX4_isOpened_37 (by decide) ?_
      exact zr_zret C I hr (zf_b (by decide)).1 hlk (⟨(zI_s _ _ _ _).trans (by rw [hc]; rfl), M1, zk_rf S, _, rfl, fun _ => by rw [hb0z, c30]; rfl⟩) (Nat.le_of_ble_eq_true rfl) (Nat.le_of_ble_eq_true rfl) dX4_isOpened_38
    · have c30 : ¬ (T.2 2 q) = 0 := fun h9 => c30 ((nI_eq (a := T.2 2 q) (b := 0) (by omega) (by omega)).mpr h9)
      refine lv_iconst (v := 1) hx hb dX4_isOpened_33 (by decide) ?_
      refine lv_goto (tgt := 38) hx hb dX4_isOpened_34 (by decide) ?_
      exact zr_zret C I hr (zf_b (by decide)).1 hlk (⟨(zI_s _ _ _ _).trans (by rw [hc]; rfl), M1, zk_rf S, _, rfl, fun _ => by rw [hb0z, show T.2 2 q = 1 by omega]; rfl⟩) (Nat.le_of_ble_eq_true rfl) (Nat.le_of_ble_eq_true rfl) dX4_isOpened_38

set_option maxRecDepth 100000 in
set_option maxHeartbeats 4000000 in
theorem k_X4_isStruck (l : Launch) (g : zG) (S : zS) (T : zT) (mo : Nat) (ar : Nat → Nat) (hT : zt_ok T) (hM : MR S T mo ar) (i : Int32) : zM l yX4_isStruck cX4_isStruck 2 (some .boolean) (zrm 3 0 0) g [.ref mo, .int i] S (fun w S' => zmQ S S' T mo ar (zc_entry T i) (nI (T.2 12 (zx i))) w) := by
  refine zM_of (nm := "isStruck") (by decide) rfl (Nat.le_of_ble_eq_true rfl) ?_
  intro p e s m args below meth c A ls C hr hlk hin I hl
  have C : CallFix p m c cX4_isStruck 2 s args zc_W RX4 := C
  have hx := C.1
  have hb := C.2.1
  have hl : lv_has ls 2 [(0, .ref mo), (1, .int i)] := hl
  obtain ⟨m1, m2, m3, m4, m5⟩ := id hM
  obtain ⟨t1, t2, t3, t4, t5, t6, t7⟩ := id hT
  rcases zi_cases i (n := T.1.2) (by omega) with hb0 | ⟨hb0, hj0, hi0⟩
  · refine lv_aload_n hx hb dX4_isStruck_0 rfl (lv_at hl 0 rfl) ?_
    refine lv_aload_n hx hb dX4_isStruck_1 rfl (lv_at hl 0 rfl) ?_
    refine lv_iload_n hx hb dX4_isStruck_2 rfl (lv_at hl 1 rfl) ?_
    refine zc_V (n := 1) (rest := [.ref mo]) C I m1 rfl rfl (k_X4_isEntry l g S mo T.1.2 i m1 m3 (by omega)) zm_633 zm_634 zm_19 zm_28 zm_635 rfl hl.1 dX4_isStruck_3 (by decide +kernel) rfl ⟨Nat.le_of_ble_eq_true rfl, Nat.le_of_ble_eq_true rfl⟩ (Nat.le_of_ble_eq_true rfl) ⟨Nat.le_of_ble_eq_true rfl, Nat.le_of_ble_eq_true rfl⟩ (fun v S' H locs hq I => ?_)
    obtain ⟨rfl, eS⟩ := hq
    rw [eS] at I
    refine zr_top (y := 0) (if_pos hb0) ?_
    refine lv_if_eq (tgt := 13) hx hb dX4_isStruck_6 (by decide) (fun _ => ?_) (fun h9 => absurd ((nI_eq (a := 0) (b := 0) (by omega) (by omega)).mpr (by omega)) h9)
    refine lv_iconst (v := 1) hx hb dX4_isStruck_13 (by decide) ?_
    refine zp_Model_thrown C I m1 zm_507 dX4_isStruck_14 (fun H locs I => ?_)
    refine lv_aload_n hx hb dX4_isStruck_17 rfl (lv_at hl 0 rfl) ?_
    refine zg_Model_thrown (v := 1) C I m1 zm_507 (zI_s _ _ _ _) dX4_isStruck_18 ?_
    refine lv_if_ne (tgt := 37) hx hb dX4_isStruck_21 (by decide) (fun _ => ?_) (fun h9 => absurd h9 (fun h8 => absurd ((nI_eq (a := 1) (b := 0) (by omega) (by omega)).mp h8) (by omega)))
    refine lv_iconst (v := 0) hx hb dX4_isStruck_37 (by decide) ?_
    have hc : zc_entry T i = 1 := if_pos hb0
    exact zr_zret C I hr (zf_b (by decide)).1 hlk (⟨(zI_s _ _ _ _).trans (by rw [hc]; rfl), MR_I hM 20 _ (by decide) (by decide), zk_rf S, _, rfl, fun h => absurd (hc.symm.trans h) (by decide)⟩) (Nat.le_of_ble_eq_true rfl) (Nat.le_of_ble_eq_true rfl) dX4_isStruck_38
  · obtain ⟨q, hb0n, rfl⟩ : ∃ q : Nat, q < T.1.2 ∧ i = nI q := ⟨_, hj0, hi0⟩
    clear hj0 hi0
    have hb0z : zx (nI q) = q := zx_nI (by omega)
    refine lv_aload_n hx hb dX4_isStruck_0 rfl (lv_at hl 0 rfl) ?_
    refine lv_aload_n hx hb dX4_isStruck_1 rfl (lv_at hl 0 rfl) ?_
    refine lv_iload_n hx hb dX4_isStruck_2 rfl (lv_at hl 1 rfl) ?_
    refine zc_V (n := 1) (rest := [.ref mo]) C I m1 rfl rfl (k_X4_isEntry l g S mo T.1.2 (nI q) m1 m3 (by omega)) zm_633 zm_634 zm_19 zm_28 zm_635 rfl hl.1 dX4_isStruck_3 (by decide +kernel) rfl ⟨Nat.le_of_ble_eq_true rfl, Nat.le_of_ble_eq_true rfl⟩ (Nat.le_of_ble_eq_true rfl) ⟨Nat.le_of_ble_eq_true rfl, Nat.le_of_ble_eq_true rfl⟩ (fun v S' H locs hq I => ?_)
    obtain ⟨rfl, eS⟩ := hq
    rw [eS] at I
    refine zr_top (y := 1) (if_neg hb0) ?_
    refine lv_if_eq (tgt := 13) hx hb dX4_isStruck_6 (by decide) (fun h9 => absurd h9 (fun h8 => absurd ((nI_eq (a := 1) (b := 0) (by omega) (by omega)).mp h8) (by omega))) (fun _ => ?_)
    refine lv_iconst (v := 0) hx hb dX4_isStruck_9 (by decide) ?_
    refine lv_goto (tgt := 14) hx hb dX4_isStruck_10 (by decide) ?_
    refine zp_Model_thrown C I m1 zm_507 dX4_isStruck_14 (fun H locs I => ?_)
    have M1 : MR (zh_sI S 20 mo 0) T mo ar := MR_I hM 20 _ (by decide) (by decide)
    obtain ⟨m1, m2, m3, m4, m5⟩ := id M1
    have hle := (t5 q hb0n).2.2.2.2.2.2.2.2.2
    have hc : zc_entry T (nI q) = 0 := if_neg hb0
    refine lv_aload_n hx hb dX4_isStruck_17 rfl (lv_at hl 0 rfl) ?_
    refine zg_Model_thrown (v := 0) C I m1 zm_507 (zI_s _ _ _ _) dX4_isStruck_18 ?_
    refine lv_if_ne (tgt := 37) hx hb dX4_isStruck_21 (by decide) (fun h9 => absurd ((nI_eq (a := 0) (b := 0) (by omega) (by omega)).mpr (by omega)) h9) (fun _ => ?_)
    refine lv_aload_n hx hb dX4_isStruck_24 rfl (lv_at hl 0 rfl) ?_
    refine zg_Model_struck (v := ar 12) C I m1 zm_522 ((m4 12 (by decide)).1) dX4_isStruck_25 ?_
    refine lv_iload_n hx hb dX4_isStruck_28 rfl (lv_at hl 1 rfl) ?_
    refine zr_zald (v := nI (T.2 12 q)) C I (m4 12 (by decide)).2.1 (by rw [show zh_N (zh_sI S 20 mo 0) (ar 12) = 100 from (m4 12 (by decide)).2.2.1]; exact vp_in_nI (by omega) (by omega)) (by rw [nI_clamp (by omega)]; exact (m4 12 (by decide)).2.2.2 q (show q < 100 by omega)) dX4_isStruck_29 ?_
    refine lv_if_eq (tgt := 37) hx hb dX4_isStruck_30 (by decide) (fun c30 => ?_) (fun c30 => ?_)
    · have c30 : (T.2 12 q) = 0 := (nI_eq (a := T.2 12 q) (b := 0) (by omega) (by omega)).mp c30
      refine lv_iconst (v := 0) hx hb dX4_isStruck_37 (by decide) ?_
      exact zr_zret C I hr (zf_b (by decide)).1 hlk (⟨(zI_s _ _ _ _).trans (by rw [hc]; rfl), M1, zk_rf S, _, rfl, fun _ => by rw [hb0z, c30]; rfl⟩) (Nat.le_of_ble_eq_true rfl) (Nat.le_of_ble_eq_true rfl) dX4_isStruck_38
    · have c30 : ¬ (T.2 12 q) = 0 := fun h9 => c30 ((nI_eq (a := T.2 12 q) (b := 0) (by omega) (by omega)).mpr h9)
      refine lv_iconst (v := 1) hx hb dX4_isStruck_33 (by decide) ?_
      refine lv_goto (tgt := 38) hx hb dX4_isStruck_34 (by decide) ?_
      exact zr_zret C I hr (zf_b (by decide)).1 hlk (⟨(zI_s _ _ _ _).trans (by rw [hc]; rfl), M1, zk_rf S, _, rfl, fun _ => by rw [hb0z, show T.2 12 q = 1 by omega]; rfl⟩) (Nat.le_of_ble_eq_true rfl) (Nat.le_of_ble_eq_true rfl) dX4_isStruck_38

set_option maxRecDepth 100000 in
set_option maxHeartbeats 4000000 in
theorem k_X4_setPart (l : Launch) (g : zG) (S : zS) (T : zT) (mo : Nat) (ar : Nat → Nat) (hT : zt_ok T) (hM : MR S T mo ar) (i y : Int32) : zM l yX4_setPart cX4_setPart 4 (some .int) (zrm 3 0 0) g [.ref mo, .int i, .int y] S (fun w S' => zmQ S S' (zs_part T i y) mo ar (zc_part i y) (nI (T.2 4 (zx i))) w) := by
  refine zM_of (nm := "setPart") (by decide) rfl (Nat.le_of_ble_eq_true rfl) ?_
  intro p e s m args below meth c A ls C hr hlk hin I hl
  have C : CallFix p m c cX4_setPart 4 s args zc_W RX4 := C
  have hx := C.1
  have hb := C.2.1
  have hl : lv_has ls 4 [(0, .ref mo), (1, .int i), (2, .int y)] := hl
  obtain ⟨m1, m2, m3, m4, m5⟩ := id hM
  obtain ⟨t1, t2, t3, t4, t5, t6, t7⟩ := id hT
  refine lv_aload_n hx hb dX4_setPart_0 rfl (lv_at hl 0 rfl) ?_
  refine lv_iconst (v := 0) hx hb dX4_setPart_1 (by decide) ?_
  refine zp_Model_thrown C I m1 zm_507 dX4_setPart_2 (fun H locs I => ?_)
  have M1 : MR (zh_sI S 20 mo 0) T mo ar := MR_I hM 20 _ (by decide) (by decide)
  obtain ⟨m1, m2, m3, m4, m5⟩ := id M1
  rcases zi_cases i (n := 4) (by decide) with hb0 | ⟨hb0, hj0, hi0⟩
  · refine lv_iload_n hx hb dX4_setPart_5 rfl (lv_at hl 1 rfl) ?_
    refine zc_S (n := 1) (rest := []) C I (k_X4_isTable l g (zh_sI S 20 mo 0) i) zm_608 zm_609 zm_28 zm_610 rfl hl.1 dX4_setPart_6 (by decide +kernel) rfl ⟨Nat.le_of_ble_eq_true rfl, Nat.le_of_ble_eq_true rfl⟩ (Nat.le_of_ble_eq_true rfl) ⟨Nat.le_of_ble_eq_true rfl, Nat.le_of_ble_eq_true rfl⟩ (fun v S' H locs hq I => ?_)
    obtain ⟨rfl, eS⟩ := hq
    rw [eS] at I
    refine zr_top (y := 0) (if_pos hb0) ?_
    refine lv_if_ne (tgt := 18) hx hb dX4_setPart_9 (by decide) (fun h9 => absurd ((nI_eq (a := 0) (b := 0) (by omega) (by omega)).mpr (by omega)) h9) (fun _ => ?_)
    refine lv_aload_n hx hb dX4_setPart_12 rfl (lv_at hl 0 rfl) ?_
    refine lv_iconst (v := 1) hx hb dX4_setPart_13 (by decide) ?_
    refine zc_V (n := 1) (rest := []) C I m1 rfl rfl (k_X4_fails l g (zh_sI S 20 mo 0) mo 1 m1) zm_575 zm_576 zm_15 zm_28 zm_577 rfl hl.1 dX4_setPart_14 (by decide +kernel) rfl ⟨Nat.le_of_ble_eq_true rfl, Nat.le_of_ble_eq_true rfl⟩ (Nat.le_of_ble_eq_true rfl) ⟨Nat.le_of_ble_eq_true rfl, Nat.le_of_ble_eq_true rfl⟩ (fun v S' H locs hq I => ?_)
    obtain ⟨rfl, eS⟩ := hq
    rw [eS] at I
    have hcF : zc_part i y = 1 := if_pos hb0
    exact zr_iret C I hr hlk (by rw [show zs_part T i y = T from if_neg (by rw [hcF]; decide)]; exact zm_fail hM 1 hcF (by decide)) (Nat.le_of_ble_eq_true rfl) (Nat.le_of_ble_eq_true rfl) dX4_setPart_17
  · obtain ⟨q, hb0n, rfl⟩ : ∃ q : Nat, q < 4 ∧ i = nI q := ⟨_, hj0, hi0⟩
    clear hj0 hi0
    have hb0z : zx (nI q) = q := zx_nI (by omega)
    refine lv_iload_n hx hb dX4_setPart_5 rfl (lv_at hl 1 rfl) ?_
    refine zc_S (n := 1) (rest := []) C I (k_X4_isTable l g (zh_sI S 20 mo 0) (nI q)) zm_608 zm_609 zm_28 zm_610 rfl hl.1 dX4_setPart_6 (by decide +kernel) rfl ⟨Nat.le_of_ble_eq_true rfl, Nat.le_of_ble_eq_true rfl⟩ (Nat.le_of_ble_eq_true rfl) ⟨Nat.le_of_ble_eq_true rfl, Nat.le_of_ble_eq_true rfl⟩ (fun v S' H locs hq I => ?_)
    obtain ⟨rfl, eS⟩ := hq
    rw [eS] at I
    refine zr_top (y := 1) (if_neg hb0) ?_
    have e9 := zi_in (n := 1000) (by decide) y
    rw [show nI 1000 - 1 = (999 : Int32) by decide] at e9
    rcases zi_cases y (n := 1000) (by decide) with hb1 | ⟨hb1, hj0, hi0⟩
    · refine lv_if_ne (tgt := 18) hx hb dX4_setPart_9 (by decide) (fun _ => ?_) (fun h9 => absurd h9 (fun h8 => absurd ((nI_eq (a := 1) (b := 0) (by omega) (by omega)).mp h8) (by omega)))
      refine lv_iload_n hx hb dX4_setPart_18 rfl (lv_at hl 2 rfl) ?_
      refine lv_iconst (v := 0) hx hb dX4_setPart_19 (by decide) ?_
      refine lv_sipush (v := 999) hx hb dX4_setPart_20 (by decide) ?_
      refine zc_S (n := 3) (rest := []) C I (k_X4_in l g (zh_sI S 20 mo 0) y 0 999) zm_572 zm_573 zm_28 zm_574 rfl hl.1 dX4_setPart_23 (by decide +kernel) rfl ⟨Nat.le_of_ble_eq_true rfl, Nat.le_of_ble_eq_true rfl⟩ (Nat.le_of_ble_eq_true rfl) ⟨Nat.le_of_ble_eq_true rfl, Nat.le_of_ble_eq_true rfl⟩ (fun v S' H locs hq I => ?_)
      obtain ⟨rfl, eS⟩ := hq
      rw [eS] at I
      refine zr_top (y := 0) (if_pos (e9.mpr hb1)) ?_
      refine lv_if_ne (tgt := 35) hx hb dX4_setPart_26 (by decide) (fun h9 => absurd ((nI_eq (a := 0) (b := 0) (by omega) (by omega)).mpr (by omega)) h9) (fun _ => ?_)
      refine lv_aload_n hx hb dX4_setPart_29 rfl (lv_at hl 0 rfl) ?_
      refine lv_iconst (v := 2) hx hb dX4_setPart_30 (by decide) ?_
      refine zc_V (n := 1) (rest := []) C I m1 rfl rfl (k_X4_fails l g (zh_sI S 20 mo 0) mo 2 m1) zm_575 zm_576 zm_15 zm_28 zm_577 rfl hl.1 dX4_setPart_31 (by decide +kernel) rfl ⟨Nat.le_of_ble_eq_true rfl, Nat.le_of_ble_eq_true rfl⟩ (Nat.le_of_ble_eq_true rfl) ⟨Nat.le_of_ble_eq_true rfl, Nat.le_of_ble_eq_true rfl⟩ (fun v S' H locs hq I => ?_)
      obtain ⟨rfl, eS⟩ := hq
      rw [eS] at I
      have hcF : zc_part (nI q) y = 2 := (show zc_part (nI q) y = 2 by unfold zc_part; rw [if_neg hb0, if_pos hb1])
      exact zr_iret C I hr hlk (by rw [show zs_part T (nI q) y = T from if_neg (by rw [hcF]; decide)]; exact zm_fail hM 2 hcF (by decide)) (Nat.le_of_ble_eq_true rfl) (Nat.le_of_ble_eq_true rfl) dX4_setPart_34
    · obtain ⟨u, hb1n, rfl⟩ : ∃ u : Nat, u < 1000 ∧ y = nI u := ⟨_, hj0, hi0⟩
      clear hj0 hi0
      have hb1z : zx (nI u) = u := zx_nI (by omega)
      refine lv_if_ne (tgt := 18) hx hb dX4_setPart_9 (by decide) (fun _ => ?_) (fun h9 => absurd h9 (fun h8 => absurd ((nI_eq (a := 1) (b := 0) (by omega) (by omega)).mp h8) (by omega)))
      refine lv_iload_n hx hb dX4_setPart_18 rfl (lv_at hl 2 rfl) ?_
      refine lv_iconst (v := 0) hx hb dX4_setPart_19 (by decide) ?_
      refine lv_sipush (v := 999) hx hb dX4_setPart_20 (by decide) ?_
      refine zc_S (n := 3) (rest := []) C I (k_X4_in l g (zh_sI S 20 mo 0) (nI u) 0 999) zm_572 zm_573 zm_28 zm_574 rfl hl.1 dX4_setPart_23 (by decide +kernel) rfl ⟨Nat.le_of_ble_eq_true rfl, Nat.le_of_ble_eq_true rfl⟩ (Nat.le_of_ble_eq_true rfl) ⟨Nat.le_of_ble_eq_true rfl, Nat.le_of_ble_eq_true rfl⟩ (fun v S' H locs hq I => ?_)
      obtain ⟨rfl, eS⟩ := hq
      rw [eS] at I
      refine zr_top (y := 1) (if_neg (fun h => hb1 (e9.mp h))) ?_
      refine lv_if_ne (tgt := 35) hx hb dX4_setPart_26 (by decide) (fun _ => ?_) (fun h9 => absurd h9 (fun h8 => absurd ((nI_eq (a := 1) (b := 0) (by omega) (by omega)).mp h8) (by omega)))
      refine lv_aload_n hx hb dX4_setPart_35 rfl (lv_at hl 0 rfl) ?_
      refine zg_Model_parts (v := ar 4) C I m1 zm_513 ((m4 4 (by decide)).1) dX4_setPart_36 ?_
      refine lv_iload_n hx hb dX4_setPart_39 rfl (lv_at hl 1 rfl) ?_
      refine zr_iald (v := nI (T.2 4 q)) C I (m4 4 (by decide)).2.1 (by rw [show zh_N (zh_sI S 20 mo 0) (ar 4) = 4 from (m4 4 (by decide)).2.2.1]; exact vp_in_nI (by omega) (by omega)) (by rw [nI_clamp (by omega)]; exact (m4 4 (by decide)).2.2.2 q (show q < 4 by omega)) dX4_setPart_40 ?_
      refine lv_istore_n (lv' := [(3, .int (nI (T.2 4 q))), (0, .ref mo), (1, .int (nI q)), (2, .int (nI u))]) hx hb dX4_setPart_41 rfl hl (by decide) rfl (fun ls hl => ?_)
      refine lv_aload_n hx hb dX4_setPart_42 rfl (lv_at hl 1 rfl) ?_
      refine zg_Model_parts (v := ar 4) C I m1 zm_513 ((m4 4 (by decide)).1) dX4_setPart_43 ?_
      refine lv_iload_n hx hb dX4_setPart_46 rfl (lv_at hl 2 rfl) ?_
      refine lv_iload_n hx hb dX4_setPart_47 rfl (lv_at hl 3 rfl) ?_
      refine zr_iast C I (m4 4 (by decide)).2.1 (by rw [show zh_N (zh_sI S 20 mo 0) (ar 4) = 4 from (m4 4 (by decide)).2.2.1]; exact vp_in_nI (by omega) (by omega)) dX4_setPart_48 (fun H locs I => ?_)
      rw [nI_clamp (by omega)] at I
      have M2 : MR (zh_sA (zh_sI S 20 mo 0) (ar 4) (upd (zh_A (zh_sI S 20 mo 0) (ar 4)) q (nI u))) (zt_s T 4 q u) mo ar := MR_A M1 u (by decide) (show q < 4 by omega)
      obtain ⟨m1, m2, m3, m4, m5⟩ := id M2
      refine lv_iload_n hx hb dX4_setPart_49 rfl (lv_at hl 0 rfl) ?_
      have hc : zc_part (nI q) (nI u) = 0 := by unfold zc_part; rw [if_neg hb0, if_neg hb1]
      exact zr_iret C I hr hlk (⟨(zI_s _ _ _ _).trans (by rw [hc]; rfl), by unfold zs_part; rw [if_pos hc, hb0z, hb1z]; exact M2, zk_rf S, _, rfl, fun _ => by rw [hb0z]⟩) (Nat.le_of_ble_eq_true rfl) (Nat.le_of_ble_eq_true rfl) dX4_setPart_50

set_option maxRecDepth 100000 in
set_option maxHeartbeats 4000000 in
theorem k_X4_alter (l : Launch) (g : zG) (S : zS) (T : zT) (mo : Nat) (ar : Nat → Nat) (hT : zt_ok T) (hM : MR S T mo ar) (i y : Int32) : zM l yX4_alter cX4_alter 4 (some .int) (zrm 3 0 0) g [.ref mo, .int i, .int y] S (fun w S' => zmQ S S' (zs_alter T i y) mo ar (zc_alter T i y) (nI (T.2 9 (zx i))) w) := by
  refine zM_of (nm := "alter") (by decide) rfl (Nat.le_of_ble_eq_true rfl) ?_
  intro p e s m args below meth c A ls C hr hlk hin I hl
  have C : CallFix p m c cX4_alter 4 s args zc_W RX4 := C
  have hx := C.1
  have hb := C.2.1
  have hl : lv_has ls 4 [(0, .ref mo), (1, .int i), (2, .int y)] := hl
  obtain ⟨m1, m2, m3, m4, m5⟩ := id hM
  obtain ⟨t1, t2, t3, t4, t5, t6, t7⟩ := id hT
  refine lv_aload_n hx hb dX4_alter_0 rfl (lv_at hl 0 rfl) ?_
  refine lv_iconst (v := 0) hx hb dX4_alter_1 (by decide) ?_
  refine zp_Model_thrown C I m1 zm_507 dX4_alter_2 (fun H locs I => ?_)
  have M1 : MR (zh_sI S 20 mo 0) T mo ar := MR_I hM 20 _ (by decide) (by decide)
  obtain ⟨m1, m2, m3, m4, m5⟩ := id M1
  rcases zi_cases i (n := T.1.2) (by omega) with hb0 | ⟨hb0, hj0, hi0⟩
  · refine lv_aload_n hx hb dX4_alter_5 rfl (lv_at hl 0 rfl) ?_
    refine lv_iload_n hx hb dX4_alter_6 rfl (lv_at hl 1 rfl) ?_
    refine zc_V (n := 1) (rest := []) C I m1 rfl rfl (k_X4_isEntry l g (zh_sI S 20 mo 0) mo T.1.2 i m1 m3 (by omega)) zm_633 zm_634 zm_19 zm_28 zm_635 rfl hl.1 dX4_alter_7 (by decide +kernel) rfl ⟨Nat.le_of_ble_eq_true rfl, Nat.le_of_ble_eq_true rfl⟩ (Nat.le_of_ble_eq_true rfl) ⟨Nat.le_of_ble_eq_true rfl, Nat.le_of_ble_eq_true rfl⟩ (fun v S' H locs hq I => ?_)
    obtain ⟨rfl, eS⟩ := hq
    rw [eS] at I
    refine zr_top (y := 0) (if_pos hb0) ?_
    refine lv_if_ne (tgt := 19) hx hb dX4_alter_10 (by decide) (fun h9 => absurd ((nI_eq (a := 0) (b := 0) (by omega) (by omega)).mpr (by omega)) h9) (fun _ => ?_)
    refine lv_aload_n hx hb dX4_alter_13 rfl (lv_at hl 0 rfl) ?_
    refine lv_iconst (v := 1) hx hb dX4_alter_14 (by decide) ?_
    refine zc_V (n := 1) (rest := []) C I m1 rfl rfl (k_X4_fails l g (zh_sI S 20 mo 0) mo 1 m1) zm_575 zm_576 zm_15 zm_28 zm_577 rfl hl.1 dX4_alter_15 (by decide +kernel) rfl ⟨Nat.le_of_ble_eq_true rfl, Nat.le_of_ble_eq_true rfl⟩ (Nat.le_of_ble_eq_true rfl) ⟨Nat.le_of_ble_eq_true rfl, Nat.le_of_ble_eq_true rfl⟩ (fun v S' H locs hq I => ?_)
    obtain ⟨rfl, eS⟩ := hq
    rw [eS] at I
    have hcF : zc_alter T i y = 1 := if_pos hb0
    exact zr_iret C I hr hlk (by rw [show zs_alter T i y = T from if_neg (by rw [hcF]; decide)]; exact zm_fail hM 1 hcF (by decide)) (Nat.le_of_ble_eq_true rfl) (Nat.le_of_ble_eq_true rfl) dX4_alter_18
  · obtain ⟨q, hb0n, rfl⟩ : ∃ q : Nat, q < T.1.2 ∧ i = nI q := ⟨_, hj0, hi0⟩
    clear hj0 hi0
    have hb0z : zx (nI q) = q := zx_nI (by omega)
    refine lv_aload_n hx hb dX4_alter_5 rfl (lv_at hl 0 rfl) ?_
    refine lv_iload_n hx hb dX4_alter_6 rfl (lv_at hl 1 rfl) ?_
    refine zc_V (n := 1) (rest := []) C I m1 rfl rfl (k_X4_isEntry l g (zh_sI S 20 mo 0) mo T.1.2 (nI q) m1 m3 (by omega)) zm_633 zm_634 zm_19 zm_28 zm_635 rfl hl.1 dX4_alter_7 (by decide +kernel) rfl ⟨Nat.le_of_ble_eq_true rfl, Nat.le_of_ble_eq_true rfl⟩ (Nat.le_of_ble_eq_true rfl) ⟨Nat.le_of_ble_eq_true rfl, Nat.le_of_ble_eq_true rfl⟩ (fun v S' H locs hq I => ?_)
    obtain ⟨rfl, eS⟩ := hq
    rw [eS] at I
    refine zr_top (y := 1) (if_neg hb0) ?_
    have t5q := t5 q hb0n
    refine lv_if_ne (tgt := 19) hx hb dX4_alter_10 (by decide) (fun _ => ?_) (fun h9 => absurd h9 (fun h8 => absurd ((nI_eq (a := 1) (b := 0) (by omega) (by omega)).mp h8) (by omega)))
    refine lv_iload_n hx hb dX4_alter_19 rfl (lv_at hl 2 rfl) ?_
    refine lv_iconst (v := 1) hx hb dX4_alter_20 (by decide) ?_
    refine lv_aload_n hx hb dX4_alter_21 rfl (lv_at hl 0 rfl) ?_
    refine zg_Model_sides (v := ar 8) C I m1 zm_518 ((m4 8 (by decide)).1) dX4_alter_22 ?_
    refine lv_iload_n hx hb dX4_alter_25 rfl (lv_at hl 1 rfl) ?_
    refine zr_iald (v := nI (T.2 8 q)) C I (m4 8 (by decide)).2.1 (by rw [show zh_N (zh_sI S 20 mo 0) (ar 8) = 100 from (m4 8 (by decide)).2.2.1]; exact vp_in_nI (by omega) (by omega)) (by rw [nI_clamp (by omega)]; exact (m4 8 (by decide)).2.2.2 q (show q < 100 by omega)) dX4_alter_26 ?_
    refine zc_S (n := 3) (rest := []) C I (k_X4_in l g (zh_sI S 20 mo 0) y 1 (nI (T.2 8 q))) zm_572 zm_573 zm_28 zm_574 rfl hl.1 dX4_alter_27 (by decide +kernel) rfl ⟨Nat.le_of_ble_eq_true rfl, Nat.le_of_ble_eq_true rfl⟩ (Nat.le_of_ble_eq_true rfl) ⟨Nat.le_of_ble_eq_true rfl, Nat.le_of_ble_eq_true rfl⟩ (fun v S' H locs hq I => ?_)
    obtain ⟨rfl, eS⟩ := hq
    rw [eS] at I
    by_cases hy : y < 1 ∨ nI (T.2 8 q) < y
    · refine zr_top (y := 0) (if_pos hy) ?_
      refine lv_if_ne (tgt := 39) hx hb dX4_alter_30 (by decide) (fun h9 => absurd ((nI_eq (a := 0) (b := 0) (by omega) (by omega)).mpr (by omega)) h9) (fun _ => ?_)
      refine lv_aload_n hx hb dX4_alter_33 rfl (lv_at hl 0 rfl) ?_
      refine lv_iconst (v := 2) hx hb dX4_alter_34 (by decide) ?_
      refine zc_V (n := 1) (rest := []) C I m1 rfl rfl (k_X4_fails l g (zh_sI S 20 mo 0) mo 2 m1) zm_575 zm_576 zm_15 zm_28 zm_577 rfl hl.1 dX4_alter_35 (by decide +kernel) rfl ⟨Nat.le_of_ble_eq_true rfl, Nat.le_of_ble_eq_true rfl⟩ (Nat.le_of_ble_eq_true rfl) ⟨Nat.le_of_ble_eq_true rfl, Nat.le_of_ble_eq_true rfl⟩ (fun v S' H locs hq I => ?_)
      obtain ⟨rfl, eS⟩ := hq
      rw [eS] at I
      have hcF : zc_alter T (nI q) y = 2 := (show zc_alter T (nI q) y = 2 by unfold zc_alter; rw [if_neg hb0, hb0z, if_pos hy])
      exact zr_iret C I hr hlk (by rw [show zs_alter T (nI q) y = T from if_neg (by rw [hcF]; decide)]; exact zm_fail hM 2 hcF (by decide)) (Nat.le_of_ble_eq_true rfl) (Nat.le_of_ble_eq_true rfl) dX4_alter_38
    · refine zr_top (y := 1) (if_neg hy) ?_
      refine lv_if_ne (tgt := 39) hx hb dX4_alter_30 (by decide) (fun _ => ?_) (fun h9 => absurd h9 (fun h8 => absurd ((nI_eq (a := 1) (b := 0) (by omega) (by omega)).mp h8) (by omega)))
      refine lv_aload_n hx hb dX4_alter_39 rfl (lv_at hl 0 rfl) ?_
      refine zg_Model_struck (v := ar 12) C I m1 zm_522 ((m4 12 (by decide)).1) dX4_alter_40 ?_
      refine lv_iload_n hx hb dX4_alter_43 rfl (lv_at hl 1 rfl) ?_
      refine zr_zald (v := nI (T.2 12 q)) C I (m4 12 (by decide)).2.1 (by rw [show zh_N (zh_sI S 20 mo 0) (ar 12) = 100 from (m4 12 (by decide)).2.2.1]; exact vp_in_nI (by omega) (by omega)) (by rw [nI_clamp (by omega)]; exact (m4 12 (by decide)).2.2.2 q (show q < 100 by omega)) dX4_alter_44 ?_
      refine lv_if_eq (tgt := 54) hx hb dX4_alter_45 (by decide) (fun c45 => ?_) (fun c45 => ?_)
      · have c45 : (T.2 12 q) = 0 := (nI_eq (a := T.2 12 q) (b := 0) (by omega) (by omega)).mp c45
        have hc : zc_alter T (nI q) y = 0 := by unfold zc_alter; rw [if_neg hb0, hb0z, if_neg hy, if_neg (fun h => h c45)]
        obtain ⟨v, hv1, hv2, rfl⟩ := zi_valE (by omega) hy
        have hvz : zx (nI v) = v := zx_nI (by omega)
        refine lv_aload_n hx hb dX4_alter_54 rfl (lv_at hl 0 rfl) ?_
        refine zg_Model_value (v := ar 9) C I m1 zm_519 ((m4 9 (by decide)).1) dX4_alter_55 ?_
        refine lv_iload_n hx hb dX4_alter_58 rfl (lv_at hl 1 rfl) ?_
        refine zr_iald (v := nI (T.2 9 q)) C I (m4 9 (by decide)).2.1 (by rw [show zh_N (zh_sI S 20 mo 0) (ar 9) = 100 from (m4 9 (by decide)).2.2.1]; exact vp_in_nI (by omega) (by omega)) (by rw [nI_clamp (by omega)]; exact (m4 9 (by decide)).2.2.2 q (show q < 100 by omega)) dX4_alter_59 ?_
        refine lv_istore_n (lv' := [(3, .int (nI (T.2 9 q))), (0, .ref mo), (1, .int (nI q)), (2, .int (nI v))]) hx hb dX4_alter_60 rfl hl (by decide) rfl (fun ls hl => ?_)
        refine lv_aload_n hx hb dX4_alter_61 rfl (lv_at hl 1 rfl) ?_
        refine zg_Model_value (v := ar 9) C I m1 zm_519 ((m4 9 (by decide)).1) dX4_alter_62 ?_
        refine lv_iload_n hx hb dX4_alter_65 rfl (lv_at hl 2 rfl) ?_
        refine lv_iload_n hx hb dX4_alter_66 rfl (lv_at hl 3 rfl) ?_
        refine zr_iast C I (m4 9 (by decide)).2.1 (by rw [show zh_N (zh_sI S 20 mo 0) (ar 9) = 100 from (m4 9 (by decide)).2.2.1]; exact vp_in_nI (by omega) (by omega)) dX4_alter_67 (fun H locs I => ?_)
        rw [nI_clamp (by omega)] at I
        have M2 : MR (zh_sA (zh_sI S 20 mo 0) (ar 9) (upd (zh_A (zh_sI S 20 mo 0) (ar 9)) q (nI v))) (zt_s T 9 q v) mo ar := MR_A M1 v (by decide) (show q < 100 by omega)
        obtain ⟨m1, m2, m3, m4, m5⟩ := id M2
        refine lv_iload_n hx hb dX4_alter_68 rfl (lv_at hl 0 rfl) ?_
        exact zr_iret C I hr hlk (⟨(zI_s _ _ _ _).trans (by rw [hc]; rfl), by unfold zs_alter; rw [if_pos hc, hb0z, hvz]; exact M2, zk_rf S, _, rfl, fun _ => by rw [hb0z]⟩) (Nat.le_of_ble_eq_true rfl) (Nat.le_of_ble_eq_true rfl) dX4_alter_69
      · have c45 : ¬ (T.2 12 q) = 0 := fun h9 => c45 ((nI_eq (a := T.2 12 q) (b := 0) (by omega) (by omega)).mpr h9)
        refine lv_aload_n hx hb dX4_alter_48 rfl (lv_at hl 0 rfl) ?_
        refine lv_iconst (v := 3) hx hb dX4_alter_49 (by decide) ?_
        refine zc_V (n := 1) (rest := []) C I m1 rfl rfl (k_X4_fails l g (zh_sI S 20 mo 0) mo 3 m1) zm_575 zm_576 zm_15 zm_28 zm_577 rfl hl.1 dX4_alter_50 (by decide +kernel) rfl ⟨Nat.le_of_ble_eq_true rfl, Nat.le_of_ble_eq_true rfl⟩ (Nat.le_of_ble_eq_true rfl) ⟨Nat.le_of_ble_eq_true rfl, Nat.le_of_ble_eq_true rfl⟩ (fun v S' H locs hq I => ?_)
        obtain ⟨rfl, eS⟩ := hq
        rw [eS] at I
        have hcF : zc_alter T (nI q) y = 3 := (show zc_alter T (nI q) y = 3 by unfold zc_alter; rw [if_neg hb0, hb0z, if_neg hy, if_pos c45])
        exact zr_iret C I hr hlk (by rw [show zs_alter T (nI q) y = T from if_neg (by rw [hcF]; decide)]; exact zm_fail hM 3 hcF (by decide)) (Nat.le_of_ble_eq_true rfl) (Nat.le_of_ble_eq_true rfl) dX4_alter_53

