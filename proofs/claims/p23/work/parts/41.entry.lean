/-! Entry, Promise -/

set_option maxRecDepth 100000 in
set_option maxHeartbeats 4000000 in
theorem k_X1_init (l : Launch) (g : zG) (S : zS) (a : Nat) (x1 x2 x3 x4 : Int32) (ha : zh_at S 1 a) : zM l yX1_init cX1_init 5 none (zrm 1 0 0) g [.ref a, .int x1, .int x2, .int x3, .int x4] S (fun v S' => v = none ∧ S' = zh_sI (zh_sI (zh_sI (zh_sI S 2 a x1) 3 a x2) 4 a x3) 5 a x4) := by
  refine zM_of (nm := "<init>") (by decide) rfl (Nat.le_of_ble_eq_true rfl) ?_
  intro p e s m args below meth c A ls C hr hlk hin I hl
  have C : CallFix p m c cX1_init 5 s args zc_W RX1 := C
  have hx := C.1
  have hb := C.2.1
  have hl : lv_has ls 5 [(0, .ref a), (1, .int x1), (2, .int x2), (3, .int x3), (4, .int x4)] := hl
  refine lv_aload_n hx hb dX1_init_0 rfl (lv_at hl 0 rfl) ?_
  refine zr_obj (rest := []) C zm_308 zm_41 zm_42 hl.1 dX1_init_1 (Nat.le_of_ble_eq_true rfl) (Nat.le_of_ble_eq_true rfl) (Nat.le_of_ble_eq_true rfl) ?_
  refine lv_aload_n hx hb dX1_init_4 rfl (lv_at hl 0 rfl) ?_
  refine lv_iload_n hx hb dX1_init_5 rfl (lv_at hl 1 rfl) ?_
  refine zf_Entry_promise C I ha zm_309 hin rfl dX1_init_6 (fun H locs I => ?_)
  refine lv_aload_n hx hb dX1_init_9 rfl (lv_at hl 0 rfl) ?_
  refine lv_iload_n hx hb dX1_init_10 rfl (lv_at hl 2 rfl) ?_
  refine zf_Entry_table C I ha zm_310 hin rfl dX1_init_11 (fun H locs I => ?_)
  refine lv_aload_n hx hb dX1_init_14 rfl (lv_at hl 0 rfl) ?_
  refine lv_iload_n hx hb dX1_init_15 rfl (lv_at hl 3 rfl) ?_
  refine zf_Entry_part C I ha zm_311 hin rfl dX1_init_16 (fun H locs I => ?_)
  refine lv_aload_n hx hb dX1_init_19 rfl (lv_at hl 0 rfl) ?_
  refine lv_iload hx hb dX1_init_20 (lv_at hl 4 rfl) ?_
  refine zf_Entry_faces C I ha zm_312 hin rfl dX1_init_22 (fun H locs I => ?_)
  exact zr_vret C I hr hlk (⟨rfl, rfl⟩) (Nat.le_of_ble_eq_true rfl) (Nat.le_of_ble_eq_true rfl) dX1_init_25

set_option maxRecDepth 100000 in
set_option maxHeartbeats 4000000 in
theorem k_X1_sumAfter (l : Launch) (g : zG) (S : zS) (a b pm t f v r : Nat) (ha : zh_at S 1 a) (h2 : zh_I S 2 a = nI pm) (h3 : zh_I S 3 a = nI t) (h5 : zh_I S 5 a = nI f) (h6 : zh_I S 6 a = nI v) (h7 : zh_I S 7 a = nI r) (b0 : b < 1000003) (b1 : pm < 16) (b2 : t < 4) (b3 : f ≤ 1000) (b4 : v ≤ 1000) (b5 : r ≤ 65536) : zM l yX1_sumAfter cX1_sumAfter 3 (some .int) (zrm 0 0 0) g [.ref a, .int (nI b)] S (fun w S' => w = some (.int (nI (zd_sum b pm t f v r))) ∧ S' = S) := by
  refine zM_of (nm := "sumAfter") (by decide) rfl (Nat.le_of_ble_eq_true rfl) ?_
  intro p e s m args below meth c A ls C hr hlk hin I hl
  have C : CallFix p m c cX1_sumAfter 3 s args zc_W RX1 := C
  have hx := C.1
  have hb := C.2.1
  have hl : lv_has ls 3 [(0, .ref a), (1, .int (nI b))] := hl
  refine lv_bipush (v := 7) hx hb dX1_sumAfter_0 (by decide) ?_
  refine lv_aload_n hx hb dX1_sumAfter_2 rfl (lv_at hl 0 rfl) ?_
  refine zg_Entry_promise (v := nI pm) C I ha zm_309 (h2) dX1_sumAfter_3 ?_
  refine lv_imul hx hb dX1_sumAfter_6 ?_
  refine zr_top (y := nI (7 * pm)) (pk_mul 7 pm) ?_
  refine lv_iconst (v := 5) hx hb dX1_sumAfter_7 (by decide) ?_
  refine lv_aload_n hx hb dX1_sumAfter_8 rfl (lv_at hl 0 rfl) ?_
  refine zg_Entry_table (v := nI t) C I ha zm_310 (h3) dX1_sumAfter_9 ?_
  refine lv_imul hx hb dX1_sumAfter_12 ?_
  refine zr_top (y := nI (5 * t)) (pk_mul 5 t) ?_
  refine lv_iadd hx hb dX1_sumAfter_13 ?_
  refine zr_top (y := nI ((7 * pm) + (5 * t))) (nI_add (7 * pm) (5 * t)) ?_
  refine lv_iconst (v := 3) hx hb dX1_sumAfter_14 (by decide) ?_
  refine lv_aload_n hx hb dX1_sumAfter_15 rfl (lv_at hl 0 rfl) ?_
  refine zg_Entry_faces (v := nI f) C I ha zm_312 (h5) dX1_sumAfter_16 ?_
  refine lv_imul hx hb dX1_sumAfter_19 ?_
  refine zr_top (y := nI (3 * f)) (pk_mul 3 f) ?_
  refine lv_iadd hx hb dX1_sumAfter_20 ?_
  refine zr_top (y := nI (((7 * pm) + (5 * t)) + (3 * f))) (nI_add ((7 * pm) + (5 * t)) (3 * f)) ?_
  refine lv_bipush (v := 11) hx hb dX1_sumAfter_21 (by decide) ?_
  refine lv_aload_n hx hb dX1_sumAfter_23 rfl (lv_at hl 0 rfl) ?_
  refine zg_Entry_value (v := nI v) C I ha zm_313 (h6) dX1_sumAfter_24 ?_
  refine lv_imul hx hb dX1_sumAfter_27 ?_
  refine zr_top (y := nI (11 * v)) (pk_mul 11 v) ?_
  refine lv_iadd hx hb dX1_sumAfter_28 ?_
  refine zr_top (y := nI ((((7 * pm) + (5 * t)) + (3 * f)) + (11 * v))) (nI_add (((7 * pm) + (5 * t)) + (3 * f)) (11 * v)) ?_
  refine lv_aload_n hx hb dX1_sumAfter_29 rfl (lv_at hl 0 rfl) ?_
  refine zg_Entry_rejected (v := nI r) C I ha zm_314 (h7) dX1_sumAfter_30 ?_
  refine lv_iadd hx hb dX1_sumAfter_33 ?_
  refine zr_top (y := nI (((((7 * pm) + (5 * t)) + (3 * f)) + (11 * v)) + r)) (nI_add ((((7 * pm) + (5 * t)) + (3 * f)) + (11 * v)) r) ?_
  refine lv_istore_n (lv' := [(2, .int (nI (((((7 * pm) + (5 * t)) + (3 * f)) + (11 * v)) + r))), (0, .ref a), (1, .int (nI b))]) hx hb dX1_sumAfter_34 rfl hl (by decide) rfl (fun ls hl => ?_)
  refine lv_bipush (v := 31) hx hb dX1_sumAfter_35 (by decide) ?_
  refine lv_iload_n hx hb dX1_sumAfter_37 rfl (lv_at hl 2 rfl) ?_
  refine lv_imul hx hb dX1_sumAfter_38 ?_
  refine zr_top (y := nI (31 * b)) (pk_mul 31 b) ?_
  refine lv_iload_n hx hb dX1_sumAfter_39 rfl (lv_at hl 0 rfl) ?_
  refine lv_iadd hx hb dX1_sumAfter_40 ?_
  refine zr_top (y := nI ((31 * b) + (((((7 * pm) + (5 * t)) + (3 * f)) + (11 * v)) + r))) (nI_add (31 * b) (((((7 * pm) + (5 * t)) + (3 * f)) + (11 * v)) + r)) ?_
  refine lv_ldc (v := 1000003) hx hb C.2.2.2.1 (C.2.2.2.2 _ zm_348) dX1_sumAfter_41 ?_
  refine lv_irem hx hb dX1_sumAfter_43 (by decide) ?_
  refine zr_top (y := nI (((31 * b) + (((((7 * pm) + (5 * t)) + (3 * f)) + (11 * v)) + r)) % 1000003)) (pk_rem (a := (31 * b) + (((((7 * pm) + (5 * t)) + (3 * f)) + (11 * v)) + r)) (d := 1000003) (by omega) (by omega) (by omega)) ?_
  exact zr_iret C I hr hlk (⟨rfl, rfl⟩) (Nat.le_of_ble_eq_true rfl) (Nat.le_of_ble_eq_true rfl) dX1_sumAfter_44

set_option maxRecDepth 100000 in
set_option maxHeartbeats 4000000 in
theorem k_X1_countsFor (l : Launch) (g : zG) (S : zS) (a f k F : Nat) (ha : zh_at S 1 a) (h5 : zh_I S 5 a = nI f) (h9 : zh_I S 9 a = nI k) (b1 : f ≤ 1000) (b2 : k ≤ 1) (b3 : F ≤ 1000) : zM l yX1_countsFor cX1_countsFor 2 (some .boolean) (zrm 0 0 0) g [.ref a, .int (nI F)] S (fun w S' => w = some (.int (if f = F ∧ k = 0 then 1 else 0)) ∧ S' = S) := by
  refine zM_of (nm := "countsFor") (by decide) rfl (Nat.le_of_ble_eq_true rfl) ?_
  intro p e s m args below meth c A ls C hr hlk hin I hl
  have C : CallFix p m c cX1_countsFor 2 s args zc_W RX1 := C
  have hx := C.1
  have hb := C.2.1
  have hl : lv_has ls 2 [(0, .ref a), (1, .int (nI F))] := hl
  refine lv_aload_n hx hb dX1_countsFor_0 rfl (lv_at hl 0 rfl) ?_
  refine zg_Entry_faces (v := nI f) C I ha zm_312 (h5) dX1_countsFor_1 ?_
  refine lv_iload_n hx hb dX1_countsFor_4 rfl (lv_at hl 1 rfl) ?_
  refine lv_icmp_ne (tgt := 19) hx hb dX1_countsFor_5 (by decide) (fun c5 => ?_) (fun c5 => ?_)
  · have c5 : ¬ f = F := fun h9 => c5 ((nI_eq (a := f) (b := F) (by omega) (by omega)).mpr h9)
    refine lv_iconst (v := 0) hx hb dX1_countsFor_19 (by decide) ?_
    exact zr_zret C I hr (zf_b (by decide)).1 hlk (⟨by rw [if_neg (by omega)], rfl⟩) (Nat.le_of_ble_eq_true rfl) (Nat.le_of_ble_eq_true rfl) dX1_countsFor_20
  · have c5 : f = F := (nI_eq (a := f) (b := F) (by omega) (by omega)).mp c5
    refine lv_aload_n hx hb dX1_countsFor_8 rfl (lv_at hl 0 rfl) ?_
    refine zg_Entry_struck (v := nI k) C I ha zm_315 (h9) dX1_countsFor_9 ?_
    refine lv_if_ne (tgt := 19) hx hb dX1_countsFor_12 (by decide) (fun c12 => ?_) (fun c12 => ?_)
    · have c12 : ¬ k = 0 := fun h9 => c12 ((nI_eq (a := k) (b := 0) (by omega) (by omega)).mpr h9)
      refine lv_iconst (v := 0) hx hb dX1_countsFor_19 (by decide) ?_
      exact zr_zret C I hr (zf_b (by decide)).1 hlk (⟨by rw [if_neg (by omega)], rfl⟩) (Nat.le_of_ble_eq_true rfl) (Nat.le_of_ble_eq_true rfl) dX1_countsFor_20
    · have c12 : k = 0 := (nI_eq (a := k) (b := 0) (by omega) (by omega)).mp c12
      refine lv_iconst (v := 1) hx hb dX1_countsFor_15 (by decide) ?_
      refine lv_goto (tgt := 20) hx hb dX1_countsFor_16 (by decide) ?_
      exact zr_zret C I hr (zf_b (by decide)).1 hlk (⟨by rw [if_pos (by omega)], rfl⟩) (Nat.le_of_ble_eq_true rfl) (Nat.le_of_ble_eq_true rfl) dX1_countsFor_20

set_option maxRecDepth 100000 in
set_option maxHeartbeats 4000000 in
theorem k_X2_init (l : Launch) (g : zG) (S : zS) (a : Nat) (sd : Int32) (ha : zh_at S 2 a) : zM l yX2_init cX2_init 2 none (zrm 2 1 2) g [.ref a, .int sd] S (fun v S' => v = none ∧ ∃ d, d ∉ zh_L S ∧ S' = zh_sR (zh_sI (zh_nO (zh_sI S 10 a sd) d 0) 0 d sd) 0 a (some d)) := by
  refine zM_of (nm := "<init>") (by decide) rfl (Nat.le_of_ble_eq_true rfl) ?_
  intro p e s m args below meth c A ls C hr hlk hin I hl
  have C : CallFix p m c cX2_init 2 s args zc_W RX2 := C
  have hx := C.1
  have hb := C.2.1
  have hl : lv_has ls 2 [(0, .ref a), (1, .int sd)] := hl
  refine lv_aload_n hx hb dX2_init_0 rfl (lv_at hl 0 rfl) ?_
  refine zr_obj (rest := []) C zm_166 zm_41 zm_42 hl.1 dX2_init_1 (Nat.le_of_ble_eq_true rfl) (Nat.le_of_ble_eq_true rfl) (Nat.le_of_ble_eq_true rfl) ?_
  refine lv_aload_n hx hb dX2_init_4 rfl (lv_at hl 0 rfl) ?_
  refine lv_iload_n hx hb dX2_init_5 rfl (lv_at hl 1 rfl) ?_
  refine zf_Promise_seed C I ha zm_179 hin rfl dX2_init_6 (fun H locs I => ?_)
  refine lv_aload_n hx hb dX2_init_9 rfl (lv_at hl 0 rfl) ?_
  refine zw_Draws C I zm_167 zm_168 zm_26 (Nat.le_of_ble_eq_true rfl) (Nat.le_of_ble_eq_true rfl) dX2_init_10 (fun q10 H hq10 I => ?_)
  refine lv_dup hx hb dX2_init_13 rfl ?_
  refine lv_iload_n hx hb dX2_init_14 rfl (lv_at hl 1 rfl) ?_
  refine zc_IN (host := "DiceForge") (n := 1) (rest := [.ref q10, .ref a]) C I (k_X0_init l g (zh_nO (zh_sI S 10 a sd) q10 0) q10 sd zh_at_new) (by decide +kernel) zm_169 zm_26 zm_170 rfl rfl hl.1 dX2_init_15 (by decide +kernel) rfl ⟨Nat.le_of_ble_eq_true rfl, Nat.le_of_ble_eq_true rfl⟩ (Nat.le_of_ble_eq_true rfl) ⟨Nat.le_of_ble_eq_true rfl, Nat.le_of_ble_eq_true rfl⟩ (fun v S' H locs hq I => ?_)
  obtain ⟨rfl, eS⟩ := hq
  rw [eS] at I
  refine zf_Promise_draws C I (zh_at_nO ha hq10) zm_180 hin rfl dX2_init_18 (fun H locs I => ?_)
  exact zr_vret C I hr hlk (⟨rfl, q10, hq10, rfl⟩) (Nat.le_of_ble_eq_true rfl) (Nat.le_of_ble_eq_true rfl) dX2_init_21

