/-! ArrayList and what it calls -/

set_option maxRecDepth 100000 in
set_option maxHeartbeats 4000000 in
theorem k_J3_checkIndex_8e157 (l : Launch) (g : zG) (S : zS) (i n : Nat) (hi : i < n) (hn : n < 2 ^ 31) : zM l yJ3_checkIndex_8e157 cJ3_checkIndex_8e157 3 (some .int) (zrm 0 0 0) g [.int (nI i), .int (nI n), .null] S (fun w S' => w = some (.int (nI i)) ∧ S' = S) := by
  refine zM_of (nm := "checkIndex") (by decide) rfl (Nat.le_of_ble_eq_true rfl) ?_
  intro p e s m args below meth c A ls C hr hlk hin I hl
  have C : CallFix p m c cJ3_checkIndex_8e157 3 s args zc_W RJ3 := C
  have hx := C.1
  have hb := C.2.1
  have hl : lv_has ls 3 [(0, .int (nI i)), (1, .int (nI n)), (2, .null)] := hl
  refine lv_iload_n hx hb dJ3_checkIndex_8e157_0 rfl (lv_at hl 0 rfl) ?_
  refine lv_if_lt (tgt := 9) hx hb dJ3_checkIndex_8e157_1 (by decide) (fun h9 => absurd h9 (fun h8 => absurd ((nI_ltI (a := i) (b := 0) (by omega) (by omega)).mp h8) (by omega))) (fun _ => ?_)
  refine lv_iload_n hx hb dJ3_checkIndex_8e157_4 rfl (lv_at hl 0 rfl) ?_
  refine lv_iload_n hx hb dJ3_checkIndex_8e157_5 rfl (lv_at hl 1 rfl) ?_
  refine lv_icmp_lt (tgt := 16) hx hb dJ3_checkIndex_8e157_6 (by decide) (fun _ => ?_) (fun h9 => absurd ((nI_ltI (a := i) (b := n) (by omega) (by omega)).mpr (by omega)) h9)
  refine lv_iload_n hx hb dJ3_checkIndex_8e157_16 rfl (lv_at hl 0 rfl) ?_
  exact zr_iret C I hr hlk (⟨rfl, rfl⟩) (Nat.le_of_ble_eq_true rfl) (Nat.le_of_ble_eq_true rfl) dJ3_checkIndex_8e157_17

set_option maxRecDepth 100000 in
set_option maxHeartbeats 4000000 in
theorem k_J15_checkIndex_7cf53 (l : Launch) (g : zG) (S : zS) (i n : Nat) (hi : i < n) (hn : n < 2 ^ 31) : zM l yJ15_checkIndex_7cf53 cJ15_checkIndex_7cf53 2 (some .int) (zrm 1 0 0) g [.int (nI i), .int (nI n)] S (fun w S' => w = some (.int (nI i)) ∧ S' = S) := by
  refine zM_of (nm := "checkIndex") (by decide) rfl (Nat.le_of_ble_eq_true rfl) ?_
  intro p e s m args below meth c A ls C hr hlk hin I hl
  have C : CallFix p m c cJ15_checkIndex_7cf53 2 s args zc_W RJ15 := C
  have hx := C.1
  have hb := C.2.1
  have hl : lv_has ls 2 [(0, .int (nI i)), (1, .int (nI n))] := hl
  refine lv_iload_n hx hb dJ15_checkIndex_7cf53_0 rfl (lv_at hl 0 rfl) ?_
  refine lv_iload_n hx hb dJ15_checkIndex_7cf53_1 rfl (lv_at hl 1 rfl) ?_
  refine lv_null hx hb dJ15_checkIndex_7cf53_2 ?_
  refine zc_S (n := 3) (rest := []) C I (k_J3_checkIndex_8e157 l g S i n hi hn) zm_290 zm_291 zm_33 zm_292 rfl hl.1 dJ15_checkIndex_7cf53_3 (by decide +kernel) rfl ⟨Nat.le_of_ble_eq_true rfl, Nat.le_of_ble_eq_true rfl⟩ (Nat.le_of_ble_eq_true rfl) ⟨Nat.le_of_ble_eq_true rfl, Nat.le_of_ble_eq_true rfl⟩ (fun v S' H locs hq I => ?_)
  obtain ⟨rfl, eS⟩ := hq
  rw [eS] at I
  exact zr_iret C I hr hlk (⟨rfl, rfl⟩) (Nat.le_of_ble_eq_true rfl) (Nat.le_of_ble_eq_true rfl) dJ15_checkIndex_7cf53_6

set_option maxRecDepth 100000 in
set_option maxHeartbeats 4000000 in
theorem k_Jx4a65c_size_8abf5 (l : Launch) (g : zG) (S : zS) (pl n : Nat) (ha : zh_at S 5 pl) (h1 : zh_I S 31 pl = nI n) : zM l yJx4a65c_size_8abf5 cJx4a65c_size_8abf5 1 (some .int) (zrm 0 0 0) g [.ref pl] S (fun w S' => w = some (.int (nI n)) ∧ S' = S) := by
  refine zM_of (nm := "size") (by decide) rfl (Nat.le_of_ble_eq_true rfl) ?_
  intro p e s m args below meth c A ls C hr hlk hin I hl
  have C : CallFix p m c cJx4a65c_size_8abf5 1 s args zc_W RJx4a65c := C
  have hx := C.1
  have hb := C.2.1
  have hl : lv_has ls 1 [(0, .ref pl)] := hl
  refine lv_aload_n hx hb dJx4a65c_size_8abf5_0 rfl (lv_at hl 0 rfl) ?_
  refine zg_List_size (v := nI n) C I ha zm_57 (h1) dJx4a65c_size_8abf5_1 ?_
  exact zr_iret C I hr hlk (⟨rfl, rfl⟩) (Nat.le_of_ble_eq_true rfl) (Nat.le_of_ble_eq_true rfl) dJx4a65c_size_8abf5_4

set_option maxRecDepth 100000 in
set_option maxHeartbeats 4000000 in
theorem k_Jx4a65c_isEmpty_aae02 (l : Launch) (g : zG) (S : zS) (pl n : Nat) (ha : zh_at S 5 pl) (h1 : zh_I S 31 pl = nI n) (hn : n < 2 ^ 31) : zM l yJx4a65c_isEmpty_aae02 cJx4a65c_isEmpty_aae02 1 (some .boolean) (zrm 0 0 0) g [.ref pl] S (fun w S' => w = some (.int (if n = 0 then 1 else 0)) ∧ S' = S) := by
  refine zM_of (nm := "isEmpty") (by decide) rfl (Nat.le_of_ble_eq_true rfl) ?_
  intro p e s m args below meth c A ls C hr hlk hin I hl
  have C : CallFix p m c cJx4a65c_isEmpty_aae02 1 s args zc_W RJx4a65c := C
  have hx := C.1
  have hb := C.2.1
  have hl : lv_has ls 1 [(0, .ref pl)] := hl
  refine lv_aload_n hx hb dJx4a65c_isEmpty_aae02_0 rfl (lv_at hl 0 rfl) ?_
  refine zg_List_size (v := nI n) C I ha zm_57 (h1) dJx4a65c_isEmpty_aae02_1 ?_
  refine lv_if_ne (tgt := 11) hx hb dJx4a65c_isEmpty_aae02_4 (by decide) (fun c4 => ?_) (fun c4 => ?_)
  · have c4 : ¬ n = 0 := fun h9 => c4 ((nI_eq (a := n) (b := 0) (by omega) (by omega)).mpr h9)
    refine lv_iconst (v := 0) hx hb dJx4a65c_isEmpty_aae02_11 (by decide) ?_
    exact zr_zret C I hr (zf_b (by decide)).1 hlk (⟨by rw [if_neg (by omega)], rfl⟩) (Nat.le_of_ble_eq_true rfl) (Nat.le_of_ble_eq_true rfl) dJx4a65c_isEmpty_aae02_12
  · have c4 : n = 0 := (nI_eq (a := n) (b := 0) (by omega) (by omega)).mp c4
    refine lv_iconst (v := 1) hx hb dJx4a65c_isEmpty_aae02_7 (by decide) ?_
    refine lv_goto (tgt := 12) hx hb dJx4a65c_isEmpty_aae02_8 (by decide) ?_
    exact zr_zret C I hr (zf_b (by decide)).1 hlk (⟨by rw [if_pos (by omega)], rfl⟩) (Nat.le_of_ble_eq_true rfl) (Nat.le_of_ble_eq_true rfl) dJx4a65c_isEmpty_aae02_12

set_option maxRecDepth 100000 in
set_option maxHeartbeats 4000000 in
theorem k_Jx4a65c_elementData_915e3 (l : Launch) (g : zG) (S : zS) (pl n ar i q : Nat) (ha : zh_at S 5 pl) (h1 : zh_I S 31 pl = nI n) (h2 : zh_R S 30 pl = some ar) (h3 : zh_at S 8 ar) (h4 : n ≤ zh_N S ar) (h5 : n < 1000000) (hi : i < n) (hq : zh_Q S ar i = some q) : zM l yJx4a65c_elementData_915e3 cJx4a65c_elementData_915e3 2 (some (.object "java/lang/Object")) (zrm 0 0 0) g [.ref pl, .int (nI i)] S (fun w S' => w = some (.ref q) ∧ S' = S) := by
  refine zM_of (nm := "elementData") (by decide) rfl (Nat.le_of_ble_eq_true rfl) ?_
  intro p e s m args below meth c A ls C hr hlk hin I hl
  have C : CallFix p m c cJx4a65c_elementData_915e3 2 s args zc_W RJx4a65c := C
  have hx := C.1
  have hb := C.2.1
  have hl : lv_has ls 2 [(0, .ref pl), (1, .int (nI i))] := hl
  refine lv_aload_n hx hb dJx4a65c_elementData_915e3_0 rfl (lv_at hl 0 rfl) ?_
  refine zg_List_elementData (v := ar) C I ha zm_56 (h2) dJx4a65c_elementData_915e3_1 ?_
  refine lv_iload_n hx hb dJx4a65c_elementData_915e3_4 rfl (lv_at hl 1 rfl) ?_
  refine zr_qald (v := q) C I h3 (vp_in_iff.mpr (by rw [nI_toInt (by omega)]; omega)) (by rw [nI_clamp (by omega)]; exact hq) dJx4a65c_elementData_915e3_5 ?_
  exact zr_aret C I hr (Or.inl ⟨_, rfl⟩) (Or.inr ⟨_, rfl⟩) hlk (⟨rfl, rfl⟩) (Nat.le_of_ble_eq_true rfl) (Nat.le_of_ble_eq_true rfl) dJx4a65c_elementData_915e3_6

set_option maxRecDepth 100000 in
set_option maxHeartbeats 4000000 in
theorem k_Jx4a65c_get_915e3 (l : Launch) (g : zG) (S : zS) (pl n ar i q : Nat) (ha : zh_at S 5 pl) (h1 : zh_I S 31 pl = nI n) (h2 : zh_R S 30 pl = some ar) (h3 : zh_at S 8 ar) (h4 : n ≤ zh_N S ar) (h5 : n < 1000000) (hi : i < n) (hq : zh_Q S ar i = some q) : zM l yJx4a65c_get_915e3 cJx4a65c_get_915e3 2 (some (.object "java/lang/Object")) (zrm 2 0 0) g [.ref pl, .int (nI i)] S (fun w S' => w = some (.ref q) ∧ S' = S) := by
  refine zM_of (nm := "get") (by decide) rfl (Nat.le_of_ble_eq_true rfl) ?_
  intro p e s m args below meth c A ls C hr hlk hin I hl
  have C : CallFix p m c cJx4a65c_get_915e3 2 s args zc_W RJx4a65c := C
  have hx := C.1
  have hb := C.2.1
  have hl : lv_has ls 2 [(0, .ref pl), (1, .int (nI i))] := hl
  refine lv_iload_n hx hb dJx4a65c_get_915e3_0 rfl (lv_at hl 1 rfl) ?_
  refine lv_aload_n hx hb dJx4a65c_get_915e3_1 rfl (lv_at hl 0 rfl) ?_
  refine zg_List_size (v := nI n) C I ha zm_57 (h1) dJx4a65c_get_915e3_2 ?_
  refine zc_S (n := 2) (rest := []) C I (k_J15_checkIndex_7cf53 l g S i n hi (by omega)) zm_287 zm_288 zm_32 zm_289 rfl hl.1 dJx4a65c_get_915e3_5 (by decide +kernel) rfl ⟨Nat.le_of_ble_eq_true rfl, Nat.le_of_ble_eq_true rfl⟩ (Nat.le_of_ble_eq_true rfl) ⟨Nat.le_of_ble_eq_true rfl, Nat.le_of_ble_eq_true rfl⟩ (fun v S' H locs hq I => ?_)
  obtain ⟨rfl, eS⟩ := hq
  rw [eS] at I
  refine lv_pop hx hb dJx4a65c_get_915e3_8 rfl ?_
  refine lv_aload_n hx hb dJx4a65c_get_915e3_9 rfl (lv_at hl 0 rfl) ?_
  refine lv_iload_n hx hb dJx4a65c_get_915e3_10 rfl (lv_at hl 1 rfl) ?_
  refine zc_V (n := 1) (rest := []) C I ha rfl rfl (k_Jx4a65c_elementData_915e3 l g S pl n ar i q ha h1 h2 h3 h4 h5 hi hq) zm_293 zm_294 zm_295 zm_19 zm_296 rfl hl.1 dJx4a65c_get_915e3_11 (by decide +kernel) rfl ⟨Nat.le_of_ble_eq_true rfl, Nat.le_of_ble_eq_true rfl⟩ (Nat.le_of_ble_eq_true rfl) ⟨Nat.le_of_ble_eq_true rfl, Nat.le_of_ble_eq_true rfl⟩ (fun v S' H locs hq I => ?_)
  obtain ⟨rfl, eS⟩ := hq
  rw [eS] at I
  exact zr_aret C I hr (Or.inl ⟨_, rfl⟩) (Or.inr ⟨_, rfl⟩) hlk (⟨rfl, rfl⟩) (Nat.le_of_ble_eq_true rfl) (Nat.le_of_ble_eq_true rfl) dJx4a65c_get_915e3_14

set_option maxRecDepth 100000 in
set_option maxHeartbeats 4000000 in
theorem k_Jxa1e45_init_da8c8 (l : Launch) (g : zG) (S : zS) (a : Nat) (ha : zh_at S 5 a) : zM l yJxa1e45_init_da8c8 cJxa1e45_init_da8c8 1 none (zrm 1 0 0) g [.ref a] S (fun v S' => v = none ∧ S' = S) := by
  refine zM_of (nm := "<init>") (by decide) rfl (Nat.le_of_ble_eq_true rfl) ?_
  intro p e s m args below meth c A ls C hr hlk hin I hl
  have C : CallFix p m c cJxa1e45_init_da8c8 1 s args zc_W RJxa1e45 := C
  have hx := C.1
  have hb := C.2.1
  have hl : lv_has ls 1 [(0, .ref a)] := hl
  refine lv_aload_n hx hb dJxa1e45_init_da8c8_0 rfl (lv_at hl 0 rfl) ?_
  refine zr_obj (rest := []) C zm_54 zm_41 zm_42 hl.1 dJxa1e45_init_da8c8_1 (Nat.le_of_ble_eq_true rfl) (Nat.le_of_ble_eq_true rfl) (Nat.le_of_ble_eq_true rfl) ?_
  exact zr_vret C I hr hlk (⟨rfl, rfl⟩) (Nat.le_of_ble_eq_true rfl) (Nat.le_of_ble_eq_true rfl) dJxa1e45_init_da8c8_4

set_option maxRecDepth 100000 in
set_option maxHeartbeats 4000000 in
theorem k_Jxc12de_init_da8c8 (l : Launch) (g : zG) (S : zS) (a : Nat) (ha : zh_at S 5 a) : zM l yJxc12de_init_da8c8 cJxc12de_init_da8c8 1 none (zrm 2 0 0) g [.ref a] S (fun v S' => v = none ∧ S' = zh_sI S 30 a 0) := by
  refine zM_of (nm := "<init>") (by decide) rfl (Nat.le_of_ble_eq_true rfl) ?_
  intro p e s m args below meth c A ls C hr hlk hin I hl
  have C : CallFix p m c cJxc12de_init_da8c8 1 s args zc_W RJxc12de := C
  have hx := C.1
  have hb := C.2.1
  have hl : lv_has ls 1 [(0, .ref a)] := hl
  refine lv_aload_n hx hb dJxc12de_init_da8c8_0 rfl (lv_at hl 0 rfl) ?_
  refine zc_I (n := 0) (rest := []) C I (k_Jxa1e45_init_da8c8 l g S a ha) zm_51 zm_52 zm_17 zm_53 rfl rfl hl.1 dJxc12de_init_da8c8_1 (by decide +kernel) rfl ⟨Nat.le_of_ble_eq_true rfl, Nat.le_of_ble_eq_true rfl⟩ (Nat.le_of_ble_eq_true rfl) ⟨Nat.le_of_ble_eq_true rfl, Nat.le_of_ble_eq_true rfl⟩ (fun v S' H locs hq I => ?_)
  obtain ⟨rfl, eS⟩ := hq
  rw [eS] at I
  refine lv_aload_n hx hb dJxc12de_init_da8c8_4 rfl (lv_at hl 0 rfl) ?_
  refine lv_iconst (v := 0) hx hb dJxc12de_init_da8c8_5 (by decide) ?_
  refine zp_List_modCountA C I ha zm_58 dJxc12de_init_da8c8_6 (fun H locs I => ?_)
  exact zr_vret C I hr hlk (⟨rfl, rfl⟩) (Nat.le_of_ble_eq_true rfl) (Nat.le_of_ble_eq_true rfl) dJxc12de_init_da8c8_9

set_option maxRecDepth 100000 in
set_option maxHeartbeats 4000000 in
theorem k_Jx4a65c_init_da8c8 (l : Launch) (g : zG) (S : zS) (a : Nat) (ha : zh_at S 5 a) : zM l yJx4a65c_init_da8c8 cJx4a65c_init_da8c8 1 none (zrm 3 0 0) g [.ref a] S (fun v S' => v = none ∧ S' = zh_sR (zh_sI S 30 a 0) 30 a (some g.2.1)) := by
  refine zM_of (nm := "<init>") (by decide) rfl (Nat.le_of_ble_eq_true rfl) ?_
  intro p e s m args below meth c A ls C hr hlk hin I hl
  have C : CallFix p m c cJx4a65c_init_da8c8 1 s args zc_W RJx4a65c := C
  have hx := C.1
  have hb := C.2.1
  have hl : lv_has ls 1 [(0, .ref a)] := hl
  refine lv_aload_n hx hb dJx4a65c_init_da8c8_0 rfl (lv_at hl 0 rfl) ?_
  refine zc_I (n := 0) (rest := []) C I (k_Jxc12de_init_da8c8 l g S a ha) zm_48 zm_49 zm_18 zm_50 rfl rfl hl.1 dJx4a65c_init_da8c8_1 (by decide +kernel) rfl ⟨Nat.le_of_ble_eq_true rfl, Nat.le_of_ble_eq_true rfl⟩ (Nat.le_of_ble_eq_true rfl) ⟨Nat.le_of_ble_eq_true rfl, Nat.le_of_ble_eq_true rfl⟩ (fun v S' H locs hq I => ?_)
  obtain ⟨rfl, eS⟩ := hq
  rw [eS] at I
  refine lv_aload_n hx hb dJx4a65c_init_da8c8_4 rfl (lv_at hl 0 rfl) ?_
  refine zr_gets C I zm_55 dJx4a65c_init_da8c8_5 ?_
  refine zp_List_elementData C I ha zm_56 dJx4a65c_init_da8c8_8 (fun H locs I => ?_)
  exact zr_vret C I hr hlk (⟨rfl, rfl⟩) (Nat.le_of_ble_eq_true rfl) (Nat.le_of_ble_eq_true rfl) dJx4a65c_init_da8c8_11

set_option maxRecDepth 100000 in
set_option maxHeartbeats 4000000 in
theorem k_J8_newLength_cabcc (l : Launch) (g : zG) (S : zS) (n : Nat) (h1 : 10 ≤ n) (h2 : n ≤ 100000) : zM l yJ8_newLength_cabcc cJ8_newLength_cabcc 4 (some .int) (zrm 1 0 0) g [.int (nI n), .int 1, .int (nI (n / 2))] S (fun w S' => w = some (.int (nI (n + n / 2))) ∧ S' = S) := by
  refine zM_of (nm := "newLength") (by decide) rfl (Nat.le_of_ble_eq_true rfl) ?_
  intro p e s m args below meth c A ls C hr hlk hin I hl
  have C : CallFix p m c cJ8_newLength_cabcc 4 s args zc_W RJ8 := C
  have hx := C.1
  have hb := C.2.1
  have hl : lv_has ls 4 [(0, .int (nI n)), (1, .int 1), (2, .int (nI (n / 2)))] := hl
  refine lv_iload_n hx hb dJ8_newLength_cabcc_0 rfl (lv_at hl 0 rfl) ?_
  refine lv_iload_n hx hb dJ8_newLength_cabcc_1 rfl (lv_at hl 1 rfl) ?_
  refine lv_iload_n hx hb dJ8_newLength_cabcc_2 rfl (lv_at hl 2 rfl) ?_
  refine zr_max C zm_206 zm_207 zm_28 zm_208 hl.1 (Nat.le_of_ble_eq_true rfl) (Nat.le_of_ble_eq_true rfl) (Nat.le_of_ble_eq_true rfl) (Nat.le_of_ble_eq_true rfl) dJ8_newLength_cabcc_3 ?_
  refine zr_top (y := nI (n / 2)) (if_pos ((nI_ltI (a := 1) (b := n / 2) (by omega) (by omega)).mpr (by omega))) ?_
  refine lv_iadd hx hb dJ8_newLength_cabcc_6 ?_
  refine zr_top (y := nI (n + (n / 2))) (nI_add n (n / 2)) ?_
  refine lv_istore_n (lv' := [(3, .int (nI (n + (n / 2)))), (0, .int (nI n)), (1, .int 1), (2, .int (nI (n / 2)))]) hx hb dJ8_newLength_cabcc_7 rfl hl (by decide) rfl (fun ls hl => ?_)
  refine lv_iconst (v := 0) hx hb dJ8_newLength_cabcc_8 (by decide) ?_
  refine lv_iload_n hx hb dJ8_newLength_cabcc_9 rfl (lv_at hl 0 rfl) ?_
  refine lv_icmp_ge (tgt := 21) hx hb dJ8_newLength_cabcc_10 (by decide) (fun h9 => absurd h9 (fun h8 => absurd ((nI_leI (a := n + (n / 2)) (b := 0) (by omega) (by omega)).mp h8) (by omega))) (fun _ => ?_)
  refine lv_iload_n hx hb dJ8_newLength_cabcc_13 rfl (lv_at hl 0 rfl) ?_
  refine lv_ldc (v := 2147483639) hx hb C.2.2.2.1 (C.2.2.2.2 _ zm_209) dJ8_newLength_cabcc_14 ?_
  refine lv_icmp_gt (tgt := 21) hx hb dJ8_newLength_cabcc_16 (by decide) (fun h9 => absurd h9 (fun h8 => absurd ((nI_ltI (a := 2147483639) (b := n + (n / 2)) (by omega) (by omega)).mp h8) (by omega))) (fun _ => ?_)
  refine lv_iload_n hx hb dJ8_newLength_cabcc_19 rfl (lv_at hl 0 rfl) ?_
  exact zr_iret C I hr hlk (⟨rfl, rfl⟩) (Nat.le_of_ble_eq_true rfl) (Nat.le_of_ble_eq_true rfl) dJ8_newLength_cabcc_20

set_option maxRecDepth 100000 in
set_option maxHeartbeats 4000000 in
theorem k_J7_copyOf_6403c (l : Launch) (g : zG) (S : zS) (ar n k : Nat) (h3 : zh_at S 8 ar) (h4 : zh_N S ar = n) (h5 : n ≤ k) (h6 : k ≤ 200) (hel : ∀ i : Nat, i < n → ∀ y : Nat, zh_Q S ar i = some y → zh_at S 1 y ∨ zh_at S 2 y) : zM l yJ7_copyOf_6403c cJ7_copyOf_6403c 4 (some (.array (.object "java/lang/Object"))) (zrm 1 1 200) g [.ref ar, .int (nI k), .ref (g.2.2.1.2 99 0)] S (fun w S' => ∃ q, q ∉ zh_L S ∧ w = some (.ref q) ∧ S' = zh_sQ (zh_nA S q 8 k) q (va_cpy (zh_Q S ar) (fun _ => none) 0 0 n)) := by
  refine zM_of (nm := "copyOf") (by decide) rfl (Nat.le_of_ble_eq_true rfl) ?_
  intro p e s m args below meth c A ls C hr hlk hin I hl
  have C : CallFix p m c cJ7_copyOf_6403c 4 s args zc_W RJ7 := C
  have hx := C.1
  have hb := C.2.1
  have hl : lv_has ls 4 [(0, .ref ar), (1, .int (nI k)), (2, .ref (g.2.2.1.2 99 0))] := hl
  refine lv_aload_n hx hb dJ7_copyOf_6403c_0 rfl (lv_at hl 2 rfl) ?_
  refine zr_ldcC C I zm_231 dJ7_copyOf_6403c_1 ?_
  refine lv_acmp_ne (rx := some (g.2.2.1.2 99 0)) (ry := some (g.2.2.1.2 99 0)) (tgt := 13) hx hb dJ7_copyOf_6403c_3 (by decide) (fun h9 => absurd rfl h9) (fun _ => ?_)
  refine lv_iload_n hx hb dJ7_copyOf_6403c_6 rfl (lv_at hl 1 rfl) ?_
  have h6b : 0 + k ≤ (zrm 1 1 200).slots := by show 0 + k ≤ 200; omega
  refine zr_newQ (N := k) C I zm_232 rfl (by omega) (Nat.le_of_ble_eq_true rfl) h6b dJ7_copyOf_6403c_7 (fun q H hq I => ?_)
  refine W.widen (k := 1) (n := 200) (Nat.le_refl _) h6b ?_
  have eA : zh_N (zh_nA S q 8 k) ar = n := (va_up_ne _ _ (fun e9 : ar = q => hq (e9 ▸ h3.1))).trans h4
  have eQ : zh_Q (zh_nA S q 8 k) ar = zh_Q S ar := va_up_ne _ _ (fun e9 : ar = q => hq (e9 ▸ h3.1))
  have eq1 : zh_N (zh_nA S q 8 k) q = k := va_up_self _ _ _
  have eq2 : zh_Q (zh_nA S q 8 k) q = (fun _ => none) := va_up_self _ _ _
  refine lv_goto (tgt := 24) hx hb dJ7_copyOf_6403c_10 (by decide) ?_
  refine lv_astore_n (lv' := [(3, .ref q), (0, .ref ar), (1, .int (nI k)), (2, .ref (g.2.2.1.2 99 0))]) hx hb dJ7_copyOf_6403c_24 rfl hl (by decide) rfl (fun ls hl => ?_)
  refine lv_aload_n hx hb dJ7_copyOf_6403c_25 rfl (lv_at hl 1 rfl) ?_
  refine lv_iconst (v := 0) hx hb dJ7_copyOf_6403c_26 (by decide) ?_
  refine lv_aload_n hx hb dJ7_copyOf_6403c_27 rfl (lv_at hl 0 rfl) ?_
  refine lv_iconst (v := 0) hx hb dJ7_copyOf_6403c_28 (by decide) ?_
  refine lv_aload_n hx hb dJ7_copyOf_6403c_29 rfl (lv_at hl 1 rfl) ?_
  refine zr_len (kd := 8) (t := 2) (N := n) C I (zh_at_nA h3 hq) rfl rfl (eA) dJ7_copyOf_6403c_30 ?_
  refine lv_iload_n hx hb dJ7_copyOf_6403c_31 rfl (lv_at hl 2 rfl) ?_
  refine zr_min C zm_233 zm_234 zm_28 zm_235 hl.1 (Nat.le_of_ble_eq_true rfl) (Nat.le_of_ble_eq_true rfl) (Nat.le_of_ble_eq_true rfl) (Nat.le_of_ble_eq_true rfl) dJ7_copyOf_6403c_32 ?_
  refine zr_top (y := nI n) (show (if nI k < nI n then nI k else nI n) = nI n from if_neg (fun h9 => absurd ((nI_ltI (a := k) (b := n) (by omega) (by omega)).mp h9) (by omega))) ?_
  have hel2 : ∀ i : Nat, i < n → ∀ y : Nat, zh_Q (zh_nA S q 8 k) ar i = some y → zh_at (zh_nA S q 8 k) 1 y ∨ zh_at (zh_nA S q 8 k) 2 y := fun i hi y hy => by
    rw [eQ] at hy
    exact (hel i hi y hy).imp (fun h => zh_at_nA h hq) (fun h => zh_at_nA h hq)
  refine zr_copy (n := n) C I (zh_at_nA h3 hq) zh_at_newA (by omega) (by rw [eA]; exact Nat.le_refl _) (by rw [eq1]; exact h5) hel2 zm_236 zm_238 zm_237 zm_30 hl.1 (Nat.le_of_ble_eq_true rfl) (Nat.le_of_ble_eq_true rfl) dJ7_copyOf_6403c_35 (fun H locs I => ?_)
  rw [eQ, eq2] at I
  refine lv_aload_n hx hb dJ7_copyOf_6403c_38 rfl (lv_at hl 0 rfl) ?_
  exact zr_aret C I hr (Or.inr ⟨_, rfl⟩) (Or.inr ⟨_, rfl⟩) hlk (⟨q, hq, rfl, rfl⟩) (Nat.le_of_ble_eq_true rfl) (Nat.le_of_ble_eq_true rfl) dJ7_copyOf_6403c_39

set_option maxRecDepth 100000 in
set_option maxHeartbeats 4000000 in
theorem k_J7_copyOf_1904c (l : Launch) (g : zG) (S : zS) (ar n k : Nat) (h3 : zh_at S 8 ar) (h4 : zh_N S ar = n) (h5 : n ≤ k) (h6 : k ≤ 200) (hel : ∀ i : Nat, i < n → ∀ y : Nat, zh_Q S ar i = some y → zh_at S 1 y ∨ zh_at S 2 y) : zM l yJ7_copyOf_1904c cJ7_copyOf_1904c 2 (some (.array (.object "java/lang/Object"))) (zrm 2 1 200) g [.ref ar, .int (nI k)] S (fun w S' => ∃ q, q ∉ zh_L S ∧ w = some (.ref q) ∧ S' = zh_sQ (zh_nA S q 8 k) q (va_cpy (zh_Q S ar) (fun _ => none) 0 0 n)) := by
  refine zM_of (nm := "copyOf") (by decide) rfl (Nat.le_of_ble_eq_true rfl) ?_
  intro p e s m args below meth c A ls C hr hlk hin I hl
  have C : CallFix p m c cJ7_copyOf_1904c 2 s args zc_W RJ7 := C
  have hx := C.1
  have hb := C.2.1
  have hl : lv_has ls 2 [(0, .ref ar), (1, .int (nI k))] := hl
  refine lv_aload_n hx hb dJ7_copyOf_1904c_0 rfl (lv_at hl 0 rfl) ?_
  refine lv_iload_n hx hb dJ7_copyOf_1904c_1 rfl (lv_at hl 1 rfl) ?_
  refine lv_aload_n hx hb dJ7_copyOf_1904c_2 rfl (lv_at hl 0 rfl) ?_
  refine zr_getC C I h3 zm_216 zm_482 zm_217 zm_227 hl.1 (Nat.le_of_ble_eq_true rfl) (Nat.le_of_ble_eq_true rfl) dJ7_copyOf_1904c_3 ?_
  refine zc_S (n := 3) (rest := []) C I (k_J7_copyOf_6403c l g S ar n k h3 h4 h5 h6 hel) zm_228 zm_229 zm_29 zm_230 rfl hl.1 dJ7_copyOf_1904c_6 (by decide +kernel) rfl ⟨Nat.le_of_ble_eq_true rfl, Nat.le_of_ble_eq_true rfl⟩ (Nat.le_of_ble_eq_true rfl) ⟨Nat.le_of_ble_eq_true rfl, Nat.le_of_ble_eq_true rfl⟩ (fun v S' H locs hq I => ?_)
  obtain ⟨q, hq, rfl, eS⟩ := hq
  rw [eS] at I
  exact zr_aret C I hr (Or.inr ⟨_, rfl⟩) (Or.inr ⟨_, rfl⟩) hlk (⟨q, hq, rfl, rfl⟩) (Nat.le_of_ble_eq_true rfl) (Nat.le_of_ble_eq_true rfl) dJ7_copyOf_1904c_9

set_option maxRecDepth 100000 in
set_option maxHeartbeats 4000000 in
theorem k_grow0 (l : Launch) (g : zG) (S : zS) (pl : Nat) (ha : zh_at S 5 pl) (h2 : zh_R S 30 pl = some g.2.1) : zM l yJx4a65c_grow_92f84 cJx4a65c_grow_92f84 4 (some (.array (.object "java/lang/Object"))) (zrm 3 1 200) g [.ref pl, .int (nI 1)] S (fun w S' => ∃ q, q ∉ zh_L S ∧ w = some (.ref q) ∧ S' = zh_sR (zh_nA S q 8 10) 30 pl (some q)) := by
  refine zM_of (nm := "grow") (by decide) rfl (Nat.le_of_ble_eq_true rfl) ?_
  intro p e s m args below meth c A ls C hr hlk hin I hl
  have C : CallFix p m c cJx4a65c_grow_92f84 4 s args zc_W RJx4a65c := C
  have hx := C.1
  have hb := C.2.1
  have hl : lv_has ls 4 [(0, .ref pl), (1, .int (nI 1))] := hl
  refine lv_aload_n hx hb dJx4a65c_grow_92f84_0 rfl (lv_at hl 0 rfl) ?_
  refine zg_List_elementData (v := g.2.1) C I ha zm_56 (h2) dJx4a65c_grow_92f84_1 ?_
  refine zr_lenz C I dJx4a65c_grow_92f84_4 ?_
  refine lv_istore_n (lv' := [(2, .int (nI 0)), (0, .ref pl), (1, .int (nI 1))]) hx hb dJx4a65c_grow_92f84_5 rfl hl (by decide) rfl (fun ls hl => ?_)
  refine lv_iload_n hx hb dJx4a65c_grow_92f84_6 rfl (lv_at hl 0 rfl) ?_
  refine lv_if_gt (tgt := 20) hx hb dJx4a65c_grow_92f84_7 (by decide) (fun h9 => absurd h9 (fun h8 => absurd ((nI_ltI (a := 0) (b := 0) (by omega) (by omega)).mp h8) (by omega))) (fun _ => ?_)
  refine lv_aload_n hx hb dJx4a65c_grow_92f84_10 rfl (lv_at hl 1 rfl) ?_
  refine zg_List_elementData (v := g.2.1) C I ha zm_56 (h2) dJx4a65c_grow_92f84_11 ?_
  refine zr_gets C I zm_55 dJx4a65c_grow_92f84_14 ?_
  refine lv_acmp_eq (rx := some g.2.1) (ry := some g.2.1) (tgt := 45) hx hb dJx4a65c_grow_92f84_17 (by decide) (fun _ => ?_) (fun h9 => absurd rfl h9)
  refine lv_aload_n hx hb dJx4a65c_grow_92f84_45 rfl (lv_at hl 1 rfl) ?_
  refine lv_bipush (v := 10) hx hb dJx4a65c_grow_92f84_46 (by decide) ?_
  refine lv_iload_n hx hb dJx4a65c_grow_92f84_48 rfl (lv_at hl 2 rfl) ?_
  refine zr_max C zm_239 zm_207 zm_28 zm_208 hl.1 (Nat.le_of_ble_eq_true rfl) (Nat.le_of_ble_eq_true rfl) (Nat.le_of_ble_eq_true rfl) (Nat.le_of_ble_eq_true rfl) dJx4a65c_grow_92f84_49 ?_
  refine zr_top (y := nI 10) (if_neg (by decide)) ?_
  refine zr_newQ (N := 10) C I zm_240 rfl (by omega) (Nat.le_of_ble_eq_true rfl) (Nat.le_of_ble_eq_true rfl) dJx4a65c_grow_92f84_52 (fun q H hq I => ?_)
  refine lv_dup_x1 hx hb dJx4a65c_grow_92f84_55 rfl rfl ?_
  refine zp_List_elementData C I (zh_at_nA ha hq) zm_56 dJx4a65c_grow_92f84_56 (fun H locs I => ?_)
  exact zr_aret C I hr (Or.inr ⟨_, rfl⟩) (Or.inr ⟨_, rfl⟩) hlk (⟨q, hq, rfl, rfl⟩) (Nat.le_of_ble_eq_true rfl) (Nat.le_of_ble_eq_true rfl) dJx4a65c_grow_92f84_59

set_option maxRecDepth 100000 in
set_option maxHeartbeats 4000000 in
theorem k_growN (l : Launch) (g : zG) (S : zS) (pl ar n : Nat) (ha : zh_at S 5 pl) (h2 : zh_R S 30 pl = some ar) (h3 : zh_at S 8 ar) (h4 : zh_N S ar = n) (h5 : 10 ≤ n) (h6 : n ≤ 100) (hel : ∀ i : Nat, i < n → ∀ y : Nat, zh_Q S ar i = some y → zh_at S 1 y ∨ zh_at S 2 y) : zM l yJx4a65c_grow_92f84 cJx4a65c_grow_92f84 4 (some (.array (.object "java/lang/Object"))) (zrm 3 1 200) g [.ref pl, .int (nI (n + 1))] S (fun w S' => ∃ q, q ∉ zh_L S ∧ w = some (.ref q) ∧ S' = zh_sR (zh_sQ (zh_nA S q 8 (n + n / 2)) q (va_cpy (zh_Q S ar) (fun _ => none) 0 0 n)) 30 pl (some q)) := by
  refine zM_of (nm := "grow") (by decide) rfl (Nat.le_of_ble_eq_true rfl) ?_
  intro p e s m args below meth c A ls C hr hlk hin I hl
  have C : CallFix p m c cJx4a65c_grow_92f84 4 s args zc_W RJx4a65c := C
  have hx := C.1
  have hb := C.2.1
  have hl : lv_has ls 4 [(0, .ref pl), (1, .int (nI (n + 1)))] := hl
  refine lv_aload_n hx hb dJx4a65c_grow_92f84_0 rfl (lv_at hl 0 rfl) ?_
  refine zg_List_elementData (v := ar) C I ha zm_56 (h2) dJx4a65c_grow_92f84_1 ?_
  refine zr_len (kd := 8) (t := 2) (N := n) C I h3 rfl rfl (h4) dJx4a65c_grow_92f84_4 ?_
  refine lv_istore_n (lv' := [(2, .int (nI n)), (0, .ref pl), (1, .int (nI (n + 1)))]) hx hb dJx4a65c_grow_92f84_5 rfl hl (by decide) rfl (fun ls hl => ?_)
  refine lv_iload_n hx hb dJx4a65c_grow_92f84_6 rfl (lv_at hl 0 rfl) ?_
  refine lv_if_gt (tgt := 20) hx hb dJx4a65c_grow_92f84_7 (by decide) (fun _ => ?_) (fun h9 => absurd ((nI_ltI (a := 0) (b := n) (by omega) (by omega)).mpr (by omega)) h9)
  refine lv_iload_n hx hb dJx4a65c_grow_92f84_20 rfl (lv_at hl 0 rfl) ?_
  refine lv_iload_n hx hb dJx4a65c_grow_92f84_21 rfl (lv_at hl 2 rfl) ?_
  refine lv_iload_n hx hb dJx4a65c_grow_92f84_22 rfl (lv_at hl 0 rfl) ?_
  refine lv_isub hx hb dJx4a65c_grow_92f84_23 ?_
  refine zr_top (y := 1) (by rw [pk_sub (a := n + 1) (b := n) (by omega), Nat.add_sub_cancel_left]; rfl) ?_
  refine lv_iload_n hx hb dJx4a65c_grow_92f84_24 rfl (lv_at hl 0 rfl) ?_
  refine lv_iconst (v := 1) hx hb dJx4a65c_grow_92f84_25 (by decide) ?_
  refine lv_ishr hx hb dJx4a65c_grow_92f84_26 ?_
  refine zr_top (y := nI (n / 2)) (by have k := pk_shrN (n := n) (by omega) ((1 : Int32) &&& 31) 1 (by decide); rw [Nat.pow_one] at k; exact k) ?_
  refine zc_S (n := 3) (rest := []) C I (k_J8_newLength_cabcc l g S n h5 (by omega)) zm_203 zm_204 zm_27 zm_205 rfl hl.1 dJx4a65c_grow_92f84_27 (by decide +kernel) rfl ⟨Nat.le_of_ble_eq_true rfl, Nat.le_of_ble_eq_true rfl⟩ (Nat.le_of_ble_eq_true rfl) ⟨Nat.le_of_ble_eq_true rfl, Nat.le_of_ble_eq_true rfl⟩ (fun v S' H locs hq I => ?_)
  obtain ⟨rfl, eS⟩ := hq
  rw [eS] at I
  refine lv_istore_n (lv' := [(3, .int (nI (n + n / 2))), (2, .int (nI n)), (0, .ref pl), (1, .int (nI (n + 1)))]) hx hb dJx4a65c_grow_92f84_30 rfl hl (by decide) rfl (fun ls hl => ?_)
  refine lv_aload_n hx hb dJx4a65c_grow_92f84_31 rfl (lv_at hl 2 rfl) ?_
  refine lv_aload_n hx hb dJx4a65c_grow_92f84_32 rfl (lv_at hl 2 rfl) ?_
  refine zg_List_elementData (v := ar) C I ha zm_56 (h2) dJx4a65c_grow_92f84_33 ?_
  refine lv_iload_n hx hb dJx4a65c_grow_92f84_36 rfl (lv_at hl 0 rfl) ?_
  refine zc_S (n := 2) (rest := [.ref pl]) C I (k_J7_copyOf_1904c l g S ar n (n + n / 2) h3 h4 (by omega) (by omega) hel) zm_213 zm_214 zm_29 zm_215 rfl hl.1 dJx4a65c_grow_92f84_37 (by decide +kernel) rfl ⟨Nat.le_of_ble_eq_true rfl, Nat.le_of_ble_eq_true rfl⟩ (Nat.le_of_ble_eq_true rfl) ⟨Nat.le_of_ble_eq_true rfl, Nat.le_of_ble_eq_true rfl⟩ (fun v S' H locs hq I => ?_)
  obtain ⟨q, hq, rfl, eS⟩ := hq
  rw [eS] at I
  refine lv_dup_x1 hx hb dJx4a65c_grow_92f84_40 rfl rfl ?_
  refine zp_List_elementData C I (zh_at_nA (n := n + n / 2) ha hq) zm_56 dJx4a65c_grow_92f84_41 (fun H locs I => ?_)
  exact zr_aret C I hr (Or.inr ⟨_, rfl⟩) (Or.inr ⟨_, rfl⟩) hlk (⟨q, hq, rfl, rfl⟩) (Nat.le_of_ble_eq_true rfl) (Nat.le_of_ble_eq_true rfl) dJx4a65c_grow_92f84_44

set_option maxRecDepth 100000 in
set_option maxHeartbeats 4000000 in
theorem k_growA (l : Launch) (g : zG) (S : zS) (pl : Nat) (ha : zh_at S 5 pl) (h1 : zh_I S 31 pl = nI 0) (h2 : zh_R S 30 pl = some g.2.1) : zM l yJx4a65c_grow_d5877 cJx4a65c_grow_d5877 1 (some (.array (.object "java/lang/Object"))) (zrm 4 1 200) g [.ref pl] S (fun w S' => ∃ q, q ∉ zh_L S ∧ w = some (.ref q) ∧ S' = zh_sR (zh_nA S q 8 10) 30 pl (some q)) := by
  refine zM_of (nm := "grow") (by decide) rfl (Nat.le_of_ble_eq_true rfl) ?_
  intro p e s m args below meth c A ls C hr hlk hin I hl
  have C : CallFix p m c cJx4a65c_grow_d5877 1 s args zc_W RJx4a65c := C
  have hx := C.1
  have hb := C.2.1
  have hl : lv_has ls 1 [(0, .ref pl)] := hl
  refine lv_aload_n hx hb dJx4a65c_grow_d5877_0 rfl (lv_at hl 0 rfl) ?_
  refine lv_aload_n hx hb dJx4a65c_grow_d5877_1 rfl (lv_at hl 0 rfl) ?_
  refine zg_List_size (v := nI 0) C I ha zm_57 (h1) dJx4a65c_grow_d5877_2 ?_
  refine lv_iconst (v := 1) hx hb dJx4a65c_grow_d5877_5 (by decide) ?_
  refine lv_iadd hx hb dJx4a65c_grow_d5877_6 ?_
  refine zr_top (y := nI 1) (rfl) ?_
  refine zc_V (n := 1) (rest := []) C I ha rfl rfl (k_grow0 l g S pl ha h2) zm_200 zm_201 zm_3 zm_19 zm_202 rfl hl.1 dJx4a65c_grow_d5877_7 (by decide +kernel) rfl ⟨Nat.le_of_ble_eq_true rfl, Nat.le_of_ble_eq_true rfl⟩ (Nat.le_of_ble_eq_true rfl) ⟨Nat.le_of_ble_eq_true rfl, Nat.le_of_ble_eq_true rfl⟩ (fun v S' H locs hq I => ?_)
  obtain ⟨q, hq, rfl, eS⟩ := hq
  rw [eS] at I
  exact zr_aret C I hr (Or.inr ⟨_, rfl⟩) (Or.inr ⟨_, rfl⟩) hlk (⟨q, hq, rfl, rfl⟩) (Nat.le_of_ble_eq_true rfl) (Nat.le_of_ble_eq_true rfl) dJx4a65c_grow_d5877_10

set_option maxRecDepth 100000 in
set_option maxHeartbeats 4000000 in
theorem k_growB (l : Launch) (g : zG) (S : zS) (pl ar n : Nat) (ha : zh_at S 5 pl) (h2 : zh_R S 30 pl = some ar) (h3 : zh_at S 8 ar) (h4 : zh_N S ar = n) (h5 : 10 ≤ n) (h6 : n ≤ 100) (hel : ∀ i : Nat, i < n → ∀ y : Nat, zh_Q S ar i = some y → zh_at S 1 y ∨ zh_at S 2 y) (h1 : zh_I S 31 pl = nI n) : zM l yJx4a65c_grow_d5877 cJx4a65c_grow_d5877 1 (some (.array (.object "java/lang/Object"))) (zrm 4 1 200) g [.ref pl] S (fun w S' => ∃ q, q ∉ zh_L S ∧ w = some (.ref q) ∧ S' = zh_sR (zh_sQ (zh_nA S q 8 (n + n / 2)) q (va_cpy (zh_Q S ar) (fun _ => none) 0 0 n)) 30 pl (some q)) := by
  refine zM_of (nm := "grow") (by decide) rfl (Nat.le_of_ble_eq_true rfl) ?_
  intro p e s m args below meth c A ls C hr hlk hin I hl
  have C : CallFix p m c cJx4a65c_grow_d5877 1 s args zc_W RJx4a65c := C
  have hx := C.1
  have hb := C.2.1
  have hl : lv_has ls 1 [(0, .ref pl)] := hl
  refine lv_aload_n hx hb dJx4a65c_grow_d5877_0 rfl (lv_at hl 0 rfl) ?_
  refine lv_aload_n hx hb dJx4a65c_grow_d5877_1 rfl (lv_at hl 0 rfl) ?_
  refine zg_List_size (v := nI n) C I ha zm_57 (h1) dJx4a65c_grow_d5877_2 ?_
  refine lv_iconst (v := 1) hx hb dJx4a65c_grow_d5877_5 (by decide) ?_
  refine lv_iadd hx hb dJx4a65c_grow_d5877_6 ?_
  refine zr_top (y := nI (n + 1)) (nI_add n 1) ?_
  refine zc_V (n := 1) (rest := []) C I ha rfl rfl (k_growN l g S pl ar n ha h2 h3 h4 h5 h6 hel) zm_200 zm_201 zm_3 zm_19 zm_202 rfl hl.1 dJx4a65c_grow_d5877_7 (by decide +kernel) rfl ⟨Nat.le_of_ble_eq_true rfl, Nat.le_of_ble_eq_true rfl⟩ (Nat.le_of_ble_eq_true rfl) ⟨Nat.le_of_ble_eq_true rfl, Nat.le_of_ble_eq_true rfl⟩ (fun v S' H locs hq I => ?_)
  obtain ⟨q, hq, rfl, eS⟩ := hq
  rw [eS] at I
  exact zr_aret C I hr (Or.inr ⟨_, rfl⟩) (Or.inr ⟨_, rfl⟩) hlk (⟨q, hq, rfl, rfl⟩) (Nat.le_of_ble_eq_true rfl) (Nat.le_of_ble_eq_true rfl) dJx4a65c_grow_d5877_10

