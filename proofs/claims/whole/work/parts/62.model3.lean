/-! the model: promise, rolls, roll -/

set_option maxRecDepth 100000 in
set_option maxHeartbeats 4000000 in
theorem k_X4_promise (l : Launch) (g : zG) (S : zS) (T : zT) (mo : Nat) (ar : Nat → Nat) (hT : zt_ok T) (hM : MR S T mo ar) (i : Int32) : zM l yX4_promise cX4_promise 2 (some .int) (zrm 3 0 0) g [.ref mo, .int i] S (fun w S' => zmQ S S' (zs_promise T i) mo ar (zc_promise T i) (nI T.1.1) w) := by
  refine zM_of (nm := "promise") (by decide) rfl (Nat.le_of_ble_eq_true rfl) ?_
  intro p e s m args below meth c A ls C hr hlk hin I hl
  have C : CallFix p m c cX4_promise 2 s args zc_W RX4 := C
  have hx := C.1
  have hb := C.2.1
  have hl : lv_has ls 2 [(0, .ref mo), (1, .int i)] := hl
  obtain ⟨m1, m2, m3, m4, m5⟩ := id hM
  obtain ⟨t1, t2, t3, t4, t5, t6, t7⟩ := id hT
  refine lv_aload_n hx hb dX4_promise_0 rfl (lv_at hl 0 rfl) ?_
  refine lv_iconst (v := 0) hx hb dX4_promise_1 (by decide) ?_
  refine zp_Model_thrown C I m1 zm_507 dX4_promise_2 (fun H locs I => ?_)
  have M1 : MR (zh_sI S 20 mo 0) T mo ar := MR_I hM 20 _ (by decide) (by decide)
  have hk : zk_ S (zh_sI S 20 mo 0) := zk_rf S
  have g20 : zh_I (zh_sI S 20 mo 0) 20 mo = 0 := zI_s _ _ _ _
  obtain ⟨Z1, hZ1⟩ : ∃ z, z = (zh_sI S 20 mo 0) := ⟨_, rfl⟩
  rw [← hZ1] at I M1 hk g20
  clear hZ1
  obtain ⟨m1, m2, m3, m4, m5⟩ := id M1
  have e9 := zi_in (n := 65536) (by omega) i
  rw [show nI 65536 - 1 = (65535 : Int32) from pk_sub (a := 65536) (b := 1) (by omega)] at e9
  rcases zi_cases i (n := 65536) (by omega) with hb0 | ⟨hb0, hj0, hi0⟩
  · refine lv_iload_n hx hb dX4_promise_5 rfl (lv_at hl 1 rfl) ?_
    refine lv_iconst (v := 0) hx hb dX4_promise_6 (by decide) ?_
    refine lv_ldc (v := 65535) hx hb C.2.2.2.1 (C.2.2.2.2 _ zm_571) dX4_promise_7 ?_
    refine zc_S (n := 3) (rest := []) C I (k_X4_in l g Z1 i 0 65535) zm_572 zm_573 zm_28 zm_574 rfl hl.1 dX4_promise_9 (by decide +kernel) rfl ⟨Nat.le_of_ble_eq_true rfl, Nat.le_of_ble_eq_true rfl⟩ (Nat.le_of_ble_eq_true rfl) ⟨Nat.le_of_ble_eq_true rfl, Nat.le_of_ble_eq_true rfl⟩ (fun v S' H locs hq I => ?_)
    obtain ⟨rfl, eS⟩ := hq
    rw [eS] at I
    refine zr_top (y := 0) (if_pos (e9.mpr hb0)) ?_
    refine lv_if_ne (tgt := 21) hx hb dX4_promise_12 (by decide) (fun h9 => absurd ((nI_eq (a := 0) (b := 0) (by omega) (by omega)).mpr (by omega)) h9) (fun _ => ?_)
    refine lv_aload_n hx hb dX4_promise_15 rfl (lv_at hl 0 rfl) ?_
    refine lv_iconst (v := 1) hx hb dX4_promise_16 (by decide) ?_
    refine zc_V (n := 1) (rest := []) C I m1 rfl rfl (k_X4_fails l g Z1 mo 1 m1) zm_575 zm_576 zm_15 zm_28 zm_577 rfl hl.1 dX4_promise_17 (by decide +kernel) rfl ⟨Nat.le_of_ble_eq_true rfl, Nat.le_of_ble_eq_true rfl⟩ (Nat.le_of_ble_eq_true rfl) ⟨Nat.le_of_ble_eq_true rfl, Nat.le_of_ble_eq_true rfl⟩ (fun v S' H locs hq I => ?_)
    obtain ⟨rfl, eS⟩ := hq
    rw [eS] at I
    have hcF : zc_promise T i = 1 := if_pos hb0
    exact zr_iret C I hr hlk (by rw [show zs_promise T i = T from if_neg (by rw [hcF]; decide)]; exact ⟨(zI_s _ _ _ _).trans (by rw [hcF]; rfl), MR_I M1 20 _ (by decide) (by decide), fun a ha => hk a ha, 0, rfl, fun h => absurd (hcF.symm.trans h) (by decide)⟩) (Nat.le_of_ble_eq_true rfl) (Nat.le_of_ble_eq_true rfl) dX4_promise_20
  · obtain ⟨q, hb0n, rfl⟩ : ∃ q : Nat, q < 65536 ∧ i = nI q := ⟨_, hj0, hi0⟩
    clear hj0 hi0
    have hb0z : zx (nI q) = q := zx_nI (by omega)
    refine lv_iload_n hx hb dX4_promise_5 rfl (lv_at hl 1 rfl) ?_
    refine lv_iconst (v := 0) hx hb dX4_promise_6 (by decide) ?_
    refine lv_ldc (v := 65535) hx hb C.2.2.2.1 (C.2.2.2.2 _ zm_571) dX4_promise_7 ?_
    refine zc_S (n := 3) (rest := []) C I (k_X4_in l g Z1 (nI q) 0 65535) zm_572 zm_573 zm_28 zm_574 rfl hl.1 dX4_promise_9 (by decide +kernel) rfl ⟨Nat.le_of_ble_eq_true rfl, Nat.le_of_ble_eq_true rfl⟩ (Nat.le_of_ble_eq_true rfl) ⟨Nat.le_of_ble_eq_true rfl, Nat.le_of_ble_eq_true rfl⟩ (fun v S' H locs hq I => ?_)
    obtain ⟨rfl, eS⟩ := hq
    rw [eS] at I
    refine zr_top (y := 1) (if_neg (fun h => hb0 (e9.mp h))) ?_
    refine lv_if_ne (tgt := 21) hx hb dX4_promise_12 (by decide) (fun _ => ?_) (fun h9 => absurd h9 (fun h8 => absurd ((nI_eq (a := 1) (b := 0) (by omega) (by omega)).mp h8) (by omega)))
    refine lv_aload_n hx hb dX4_promise_21 rfl (lv_at hl 0 rfl) ?_
    refine zg_Model_promises (v := nI T.1.1) C I m1 zm_508 (m2) dX4_promise_22 ?_
    refine lv_bipush (v := 16) hx hb dX4_promise_25 (by decide) ?_
    refine lv_icmp_ne (tgt := 36) hx hb dX4_promise_27 (by decide) (fun c27 => ?_) (fun c27 => ?_)
    · have c27 : ¬ T.1.1 = 16 := fun h9 => c27 ((nI_eq (a := T.1.1) (b := 16) (by omega) (by omega)).mpr h9)
      refine lv_aload_n hx hb dX4_promise_36 rfl (lv_at hl 0 rfl) ?_
      refine zg_Model_seed (v := ar 0) C I m1 zm_509 ((m4 0 (by decide)).1) dX4_promise_37 ?_
      refine lv_aload_n hx hb dX4_promise_40 rfl (lv_at hl 0 rfl) ?_
      refine zg_Model_promises (v := nI T.1.1) C I m1 zm_508 (m2) dX4_promise_41 ?_
      refine lv_iload_n hx hb dX4_promise_44 rfl (lv_at hl 1 rfl) ?_
      refine zr_iast C I (m4 0 (by decide)).2.1 (by rw [show zh_N Z1 (ar 0) = 16 from (m4 0 (by decide)).2.2.1]; exact vp_in_nI (by omega) (by omega)) dX4_promise_45 (fun H locs I => ?_)
      rw [nI_clamp (by omega)] at I
      have M1 : MR (zh_sA Z1 (ar 0) (upd (zh_A Z1 (ar 0)) T.1.1 (nI q))) (zt_s T 0 T.1.1 q) mo ar := MR_A M1 q (by decide) (show T.1.1 < 16 by omega)
      have hk : zk_ S (zh_sA Z1 (ar 0) (upd (zh_A Z1 (ar 0)) T.1.1 (nI q))) := fun a ha => hk a ha
      have g20 : zh_I (zh_sA Z1 (ar 0) (upd (zh_A Z1 (ar 0)) T.1.1 (nI q))) 20 mo = 0 := g20
      obtain ⟨Z2, hZ2⟩ : ∃ z, z = (zh_sA Z1 (ar 0) (upd (zh_A Z1 (ar 0)) T.1.1 (nI q))) := ⟨_, rfl⟩
      rw [← hZ2] at I M1 hk g20
      clear hZ2
      obtain ⟨m1, m2, m3, m4, m5⟩ := id M1
      refine lv_aload_n hx hb dX4_promise_46 rfl (lv_at hl 0 rfl) ?_
      refine zg_Model_state (v := ar 1) C I m1 zm_510 ((m4 1 (by decide)).1) dX4_promise_47 ?_
      refine lv_aload_n hx hb dX4_promise_50 rfl (lv_at hl 0 rfl) ?_
      refine zg_Model_promises (v := nI T.1.1) C I m1 zm_508 (m2) dX4_promise_51 ?_
      refine lv_iload_n hx hb dX4_promise_54 rfl (lv_at hl 1 rfl) ?_
      refine zr_iast C I (m4 1 (by decide)).2.1 (by rw [show zh_N Z2 (ar 1) = 16 from (m4 1 (by decide)).2.2.1]; exact vp_in_nI (by omega) (by omega)) dX4_promise_55 (fun H locs I => ?_)
      rw [nI_clamp (by omega)] at I
      have M1 : MR (zh_sA Z2 (ar 1) (upd (zh_A Z2 (ar 1)) T.1.1 (nI q))) (zt_s (zt_s T 0 T.1.1 q) 1 T.1.1 q) mo ar := MR_A M1 q (by decide) (show T.1.1 < 16 by omega)
      have hk : zk_ S (zh_sA Z2 (ar 1) (upd (zh_A Z2 (ar 1)) T.1.1 (nI q))) := fun a ha => hk a ha
      have g20 : zh_I (zh_sA Z2 (ar 1) (upd (zh_A Z2 (ar 1)) T.1.1 (nI q))) 20 mo = 0 := g20
      obtain ⟨Z3, hZ3⟩ : ∃ z, z = (zh_sA Z2 (ar 1) (upd (zh_A Z2 (ar 1)) T.1.1 (nI q))) := ⟨_, rfl⟩
      rw [← hZ3] at I M1 hk g20
      clear hZ3
      obtain ⟨m1, m2, m3, m4, m5⟩ := id M1
      refine lv_aload_n hx hb dX4_promise_56 rfl (lv_at hl 0 rfl) ?_
      refine lv_dup hx hb dX4_promise_57 rfl ?_
      refine zg_Model_promises (v := nI T.1.1) C I m1 zm_508 (m2) dX4_promise_58 ?_
      refine lv_iconst (v := 1) hx hb dX4_promise_61 (by decide) ?_
      refine lv_iadd hx hb dX4_promise_62 ?_
      refine zr_top (y := nI (T.1.1 + 1)) (nI_add T.1.1 1) ?_
      refine zp_Model_promises C I m1 zm_508 dX4_promise_63 (fun H locs I => ?_)
      have M1 : MR (zh_sI Z3 21 mo (nI (T.1.1 + 1))) (zs_promised T q) mo ar := MR_P M1 (T.1.1 + 1)
      have hk : zk_ S (zh_sI Z3 21 mo (nI (T.1.1 + 1))) := fun a ha => hk a ha
      have g20 : zh_I (zh_sI Z3 21 mo (nI (T.1.1 + 1))) 20 mo = 0 := (zI_j _ _ _ _ (by decide)).trans g20
      obtain ⟨Z4, hZ4⟩ : ∃ z, z = (zh_sI Z3 21 mo (nI (T.1.1 + 1))) := ⟨_, rfl⟩
      rw [← hZ4] at I M1 hk g20
      clear hZ4
      obtain ⟨m1, m2, m3, m4, m5⟩ := id M1
      refine lv_aload_n hx hb dX4_promise_66 rfl (lv_at hl 0 rfl) ?_
      refine zg_Model_promises (v := nI (T.1.1 + 1)) C I m1 zm_508 (m2) dX4_promise_67 ?_
      refine lv_iconst (v := 1) hx hb dX4_promise_70 (by decide) ?_
      refine lv_isub hx hb dX4_promise_71 ?_
      refine zr_top (y := nI T.1.1) (pk_sub (a := T.1.1 + 1) (b := 1) (by omega)) ?_
      have hc : zc_promise T (nI q) = 0 := by unfold zc_promise; rw [if_neg hb0, if_neg (by omega)]
      exact zr_iret C I hr hlk (⟨g20.trans (by rw [hc]; rfl), by unfold zs_promise; rw [if_pos hc, hb0z]; exact M1, hk, _, rfl, fun _ => rfl⟩) (Nat.le_of_ble_eq_true rfl) (Nat.le_of_ble_eq_true rfl) dX4_promise_72
    · have c27 : T.1.1 = 16 := (nI_eq (a := T.1.1) (b := 16) (by omega) (by omega)).mp c27
      refine lv_aload_n hx hb dX4_promise_30 rfl (lv_at hl 0 rfl) ?_
      refine lv_iconst (v := 2) hx hb dX4_promise_31 (by decide) ?_
      refine zc_V (n := 1) (rest := []) C I m1 rfl rfl (k_X4_fails l g Z1 mo 2 m1) zm_575 zm_576 zm_15 zm_28 zm_577 rfl hl.1 dX4_promise_32 (by decide +kernel) rfl ⟨Nat.le_of_ble_eq_true rfl, Nat.le_of_ble_eq_true rfl⟩ (Nat.le_of_ble_eq_true rfl) ⟨Nat.le_of_ble_eq_true rfl, Nat.le_of_ble_eq_true rfl⟩ (fun v S' H locs hq I => ?_)
      obtain ⟨rfl, eS⟩ := hq
      rw [eS] at I
      have hcF : zc_promise T (nI q) = 2 := (show zc_promise T (nI q) = 2 by unfold zc_promise; rw [if_neg hb0, if_pos (by omega)])
      exact zr_iret C I hr hlk (by rw [show zs_promise T (nI q) = T from if_neg (by rw [hcF]; decide)]; exact ⟨(zI_s _ _ _ _).trans (by rw [hcF]; rfl), MR_I M1 20 _ (by decide) (by decide), fun a ha => hk a ha, 0, rfl, fun h => absurd (hcF.symm.trans h) (by decide)⟩) (Nat.le_of_ble_eq_true rfl) (Nat.le_of_ble_eq_true rfl) dX4_promise_35

