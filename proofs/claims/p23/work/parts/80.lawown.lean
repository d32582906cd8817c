/-! the law's own methods over its arrays -/
set_option maxRecDepth 100000 in
set_option maxHeartbeats 4000000 in
theorem k_L_low (l : Launch) (g : zG) (M : zS) (v : Int32) (n : Nat) (h0 : 0 < n) (hn : n < 2 ^ 31) : zM l yL_low cL_low 2 (some .int) (zrm 0 0 0) g [.int v, .int (nI n)] M (fun w S' => (∃ j : Nat, j < n ∧ w = some (.int (nI j))) ∧ S' = M) := by
  refine zM_of (nm := "low") (by decide +kernel) rfl (Nat.le_of_ble_eq_true rfl) ?_
  intro p e s m args below meth c A ls C hr hlk hin I hl
  have C : CallFix p m c cL_low 2 s args zc_W RL := C
  have hx := C.1
  have hb := C.2.1
  have hl : lv_has ls 2 [(0, .int v), (1, .int (nI n))] := hl
  obtain ⟨j, hj, ej⟩ := pk_andE v (m := 2147483647) 31 (by decide)
  refine lv_iload_n hx hb dL_low_0 rfl (lv_at hl 0 rfl) ?_
  refine lv_ldc (v := 2147483647) hx hb C.2.2.2.1 (C.2.2.2.2 _ zm_270) dL_low_1 ?_
  refine lv_iand hx hb dL_low_3 ?_
  refine zr_top (y := nI j) (ej) ?_
  refine lv_iload_n hx hb dL_low_4 rfl (lv_at hl 1 rfl) ?_
  refine lv_irem hx hb dL_low_5 (nI_ne0 (n := n) (by omega) (by omega)) ?_
  refine zr_top (y := nI (j % n)) (pk_rem (a := j) (d := n) (by omega) (by omega) (by omega)) ?_
  exact zr_iret C I hr hlk (⟨⟨j % n, Nat.mod_lt _ h0, rfl⟩, rfl⟩) (Nat.le_of_ble_eq_true rfl) (Nat.le_of_ble_eq_true rfl) dL_low_6

set_option maxRecDepth 100000 in
set_option maxHeartbeats 4000000 in
theorem k_L_sign (l : Launch) (g : zG) (M : zS) (n : Nat) (hn : n < 65536) : zM l yL_sign cL_sign 2 (some .int) (zrm 0 0 0) g [.int (nI n)] M (fun w S' => w = some (.int (nI (zd_sign n))) ∧ S' = M) := by
  refine zM_of (nm := "sign") (by decide +kernel) rfl (Nat.le_of_ble_eq_true rfl) ?_
  intro p e s m args below meth c A ls C hr hlk hin I hl
  have C : CallFix p m c cL_sign 2 s args zc_W RL := C
  have hx := C.1
  have hb := C.2.1
  have hl : lv_has ls 2 [(0, .int (nI n))] := hl
  have hr0 : n % 10007 < 10007 := Nat.mod_lt _ (by decide)
  have hrr : (n % 10007) * (n % 10007 + 31) ≤ 10007 * 10038 := Nat.mul_le_mul (by omega) (by omega)
  refine lv_iload_n hx hb dL_sign_0 rfl (lv_at hl 0 rfl) ?_
  refine lv_sipush (v := 10007) hx hb dL_sign_1 (by decide) ?_
  refine lv_irem hx hb dL_sign_4 (by decide) ?_
  refine zr_top (y := nI (n % 10007)) (pk_rem (a := n) (d := 10007) (by omega) (by omega) (by omega)) ?_
  refine lv_istore_n (lv' := [(1, .int (nI (n % 10007))), (0, .int (nI n))]) hx hb dL_sign_5 rfl hl (by decide) rfl (fun ls hl => ?_)
  refine lv_iload_n hx hb dL_sign_6 rfl (lv_at hl 0 rfl) ?_
  refine lv_i2l hx hb dL_sign_7 rfl ?_
  refine zr_topl (y := lN (n % 10007)) (nI_l (n := n % 10007) (by omega)) ?_
  refine lv_iload_n hx hb dL_sign_8 rfl (lv_at hl 0 rfl) ?_
  refine lv_i2l hx hb dL_sign_9 rfl ?_
  refine zr_topl (y := lN (n % 10007)) (nI_l (n := n % 10007) (by omega)) ?_
  refine lv_ldc2 (v := 31) hx hb C.2.2.2.1 (C.2.2.2.2 _ zm_429) dL_sign_10 ?_
  refine lv_ladd hx hb dL_sign_13 ?_
  refine zr_topl (y := lN ((n % 10007) + 31)) (lN_add (n % 10007) 31) ?_
  refine lv_lmul hx hb dL_sign_14 ?_
  refine zr_topl (y := lN ((n % 10007) * ((n % 10007) + 31))) (lN_mul (n % 10007) ((n % 10007) + 31)) ?_
  refine lv_ldc2 (v := 7) hx hb C.2.2.2.1 (C.2.2.2.2 _ zm_430) dL_sign_15 ?_
  refine lv_ladd hx hb dL_sign_18 ?_
  refine zr_topl (y := lN (((n % 10007) * ((n % 10007) + 31)) + 7)) (lN_add ((n % 10007) * ((n % 10007) + 31)) 7) ?_
  refine lv_ldc2 (v := 10007) hx hb C.2.2.2.1 (C.2.2.2.2 _ zm_431) dL_sign_19 ?_
  refine lv_lrem hx hb dL_sign_22 (by decide) ?_
  refine zr_topl (y := lN ((((n % 10007) * ((n % 10007) + 31)) + 7) % 10007)) (pk_lRem (a := ((n % 10007) * ((n % 10007) + 31)) + 7) (b := 10007) (by omega) (by omega) (by omega)) ?_
  refine lv_l2i hx hb dL_sign_23 rfl ?_
  refine zr_top (y := nI ((((n % 10007) * ((n % 10007) + 31)) + 7) % 10007)) (lN_i ((((n % 10007) * ((n % 10007) + 31)) + 7) % 10007)) ?_
  refine zr_top (y := nI (zd_sign n)) (by rw [← zd_sign_r]) ?_
  exact zr_iret C I hr hlk (⟨rfl, rfl⟩) (Nat.le_of_ble_eq_true rfl) (Nat.le_of_ble_eq_true rfl) dL_sign_24

set_option maxRecDepth 100000 in
set_option maxHeartbeats 4000000 in
theorem k_L_rolls (l : Launch) (g : zG) (M : zS) (ar : Nat → Nat) (Ct : Nat → Nat → Int32) (G : LG M ar Ct) (st pt f : Nat) (bst : st < 65536) (bpt : pt ≤ 999) (bf : 2 ≤ f) (bf2 : f ≤ 1000) : zM l yL_rolls cL_rolls 5 (some .int) (zrm 0 0 0) g [.int (nI st), .int (nI pt), .int (nI f), .ref (ar 0)] M (fun w S' => w = some (.int (nI (zd_val st pt f))) ∧ ∃ C' : Nat → Nat → Int32, LG S' ar C' ∧ zQE Ct C' ∧ C' 0 9 = nI (zd_roll st pt f).1 ∧ C' 0 10 = nI (zd_roll st pt f).2) := by
  refine zM_of (nm := "rolls") (by decide +kernel) rfl (Nat.le_of_ble_eq_true rfl) ?_
  intro p e s m args below meth c A ls C hr hlk hin I hl
  have C : CallFix p m c cL_rolls 5 s args zc_W RL := C
  have hx := C.1
  have hb := C.2.1
  have hl : lv_has ls 5 [(0, .int (nI st)), (1, .int (nI pt)), (2, .int (nI f)), (3, .ref (ar 0))] := hl
  have loop : ∀ (n a r : Nat) (M1 : zS) (C1 : Nat → Nat → Int32) (ls : Array Slot) (H : Heap) (locs : List Loc), r + n = 65536 → a < 65536 → LG M1 ar C1 → zQE Ct C1 → C1 0 10 = nI r → zh_V g A s [] M1 H locs → lv_has ls 5 [(4, .int (nI a)), (0, .int (nI st)), (1, .int (nI pt)), (2, .int (nI f)), (3, .ref (ar 0))] → (zd_go n a pt (zd_m f)).1 = (zd_roll st pt f).1 → (zd_go n a pt (zd_m f)).2 + r = (zd_roll st pt f).2 → W p l e (zrm 0 0 0) s m args below meth c H locs 0 0 (MQ below (zh_Po g A (fun w S' => w = some (.int (nI (zd_val st pt f))) ∧ ∃ C' : Nat → Nat → Int32, LG S' ar C' ∧ zQE Ct C' ∧ C' 0 9 = nI (zd_roll st pt f).1 ∧ C' 0 10 = nI (zd_roll st pt f).2)) args s (zrm 0 0 0).cells (zrm 0 0 0).slots A) (F0 m 35 ls []) := by
    intro n
    induction n with
    | zero =>
      intro a r M1 C1 ls H locs hn ba G hQ h10 I hl e1 e2
      have hm : zd_m f = 65536 - 65536 % f := rfl
      have hmf : 65536 % f ≤ 65536 := Nat.mod_le _ _
      have bm : zd_m f ≤ 65536 := by omega
      have c44 : a < zd_m f := by rw [show a = (zd_roll st pt f).1 from e1]; exact zd_roll_fin bf bf2
      refine lv_iload hx hb dL_rolls_35 (lv_at hl 0 rfl) ?_
      refine lv_ldc (v := 65536) hx hb C.2.2.2.1 (C.2.2.2.2 _ zm_385) dL_rolls_37 ?_
      refine lv_ldc (v := 65536) hx hb C.2.2.2.1 (C.2.2.2.2 _ zm_385) dL_rolls_39 ?_
      refine lv_iload_n hx hb dL_rolls_41 rfl (lv_at hl 3 rfl) ?_
      refine lv_irem hx hb dL_rolls_42 (nI_ne0 (n := f) (by omega) (by omega)) ?_
      refine zr_top (y := nI (65536 % f)) (pk_rem (a := 65536) (d := f) (by omega) (by omega) (by omega)) ?_
      refine lv_isub hx hb dL_rolls_43 ?_
      refine zr_top (y := nI (zd_m f)) (pk_sub (a := 65536) (b := 65536 % f) hmf) ?_
      refine lv_icmp_ge (tgt := 8) hx hb dL_rolls_44 (by decide) (fun h9 => absurd h9 (fun h8 => absurd ((nI_leI (a := zd_m f) (b := a) (by omega) (by omega)).mp h8) (by omega))) (fun _ => ?_)
      rw [zd_go_e _ _ _ _ (Nat.not_le.mpr c44)] at e1 e2
      have er : r = (zd_roll st pt f).2 := by simpa using e2
      have ea : a = (zd_roll st pt f).1 := e1
      refine lv_aload_n hx hb dL_rolls_47 rfl (lv_at hl 4 rfl) ?_
      refine lv_bipush (v := 9) hx hb dL_rolls_48 (by decide) ?_
      refine lv_iload hx hb dL_rolls_50 (lv_at hl 0 rfl) ?_
      refine zr_iast C I (LG.at G (i := 0) (by decide)) (show vp_in (nI 9) _ from LG.inn G (i := 0) (k := 9) (by decide) (by decide)) dL_rolls_52 (fun H locs I => ?_)
      have G := LG.wr G (i := 0) (k := 9) (nI a) (by decide) (by decide)
      have I : zh_V g A s [] (zaw M1 ar 0 9 (nI a)) H locs := I
      generalize zaw M1 ar 0 9 (nI a) = M52 at I G
      refine lv_iconst (v := 1) hx hb dL_rolls_53 (by decide) ?_
      refine lv_iload hx hb dL_rolls_54 (lv_at hl 0 rfl) ?_
      refine lv_iload_n hx hb dL_rolls_56 rfl (lv_at hl 3 rfl) ?_
      refine lv_irem hx hb dL_rolls_57 (nI_ne0 (n := f) (by omega) (by omega)) ?_
      refine zr_top (y := nI (a % f)) (pk_rem (a := a) (d := f) (by omega) (by omega) (by omega)) ?_
      refine lv_iadd hx hb dL_rolls_58 ?_
      refine zr_top (y := nI (1 + (a % f))) (nI_add 1 (a % f)) ?_
      refine zr_top (y := nI (zd_val st pt f)) (by unfold zd_val; rw [← ea, Nat.add_comm]) ?_
      exact zr_iret C I hr hlk (⟨rfl, (zh_u C1 0 9 (nI a)), G, zQE_w hQ _ (Or.inl rfl), by rw [zh_u_s, ea], by rw [zh_u_a _ _ _ _ (by decide), h10, er]⟩) (Nat.le_of_ble_eq_true rfl) (Nat.le_of_ble_eq_true rfl) dL_rolls_59
    | succ n ih =>
      intro a r M1 C1 ls H locs hn ba G hQ h10 I hl e1 e2
      have hm : zd_m f = 65536 - 65536 % f := rfl
      have hmf : 65536 % f ≤ 65536 := Nat.mod_le _ _
      have bm : zd_m f ≤ 65536 := by omega
      refine lv_iload hx hb dL_rolls_35 (lv_at hl 0 rfl) ?_
      refine lv_ldc (v := 65536) hx hb C.2.2.2.1 (C.2.2.2.2 _ zm_385) dL_rolls_37 ?_
      refine lv_ldc (v := 65536) hx hb C.2.2.2.1 (C.2.2.2.2 _ zm_385) dL_rolls_39 ?_
      refine lv_iload_n hx hb dL_rolls_41 rfl (lv_at hl 3 rfl) ?_
      refine lv_irem hx hb dL_rolls_42 (nI_ne0 (n := f) (by omega) (by omega)) ?_
      refine zr_top (y := nI (65536 % f)) (pk_rem (a := 65536) (d := f) (by omega) (by omega) (by omega)) ?_
      refine lv_isub hx hb dL_rolls_43 ?_
      refine zr_top (y := nI (zd_m f)) (pk_sub (a := 65536) (b := 65536 % f) hmf) ?_
      refine lv_icmp_ge (tgt := 8) hx hb dL_rolls_44 (by decide) (fun c44 => ?_) (fun c44 => ?_)
      · have c44 : (zd_m f) ≤ a := (nI_leI (a := zd_m f) (b := a) (by omega) (by omega)).mp c44
        refine lv_iload hx hb dL_rolls_8 (lv_at hl 0 rfl) ?_
        refine lv_sipush (v := 1105) hx hb dL_rolls_10 (by decide) ?_
        refine lv_imul hx hb dL_rolls_13 ?_
        refine zr_top (y := nI (a * 1105)) (pk_mul a 1105) ?_
        refine lv_sipush (v := 12345) hx hb dL_rolls_14 (by decide) ?_
        refine lv_iadd hx hb dL_rolls_17 ?_
        refine zr_top (y := nI ((a * 1105) + 12345)) (nI_add (a * 1105) 12345) ?_
        refine lv_iload_n hx hb dL_rolls_18 rfl (lv_at hl 2 rfl) ?_
        refine lv_iadd hx hb dL_rolls_19 ?_
        refine zr_top (y := nI (((a * 1105) + 12345) + pt)) (nI_add ((a * 1105) + 12345) pt) ?_
        refine lv_iload_n hx hb dL_rolls_20 rfl (lv_at hl 2 rfl) ?_
        refine lv_iadd hx hb dL_rolls_21 ?_
        refine zr_top (y := nI ((((a * 1105) + 12345) + pt) + pt)) (nI_add (((a * 1105) + 12345) + pt) pt) ?_
        refine lv_ldc (v := 65536) hx hb C.2.2.2.1 (C.2.2.2.2 _ zm_385) dL_rolls_22 ?_
        refine lv_irem hx hb dL_rolls_24 (by decide) ?_
        refine zr_top (y := nI (zd_d a pt)) ((pk_rem (a := a * 1105 + 12345 + pt + pt) (d := 65536) (by omega) (by omega) (by omega)).trans (congrArg nI (by show (a * 1105 + 12345 + pt + pt) % 65536 = (1105 * a + 12345 + 2 * pt) % 65536; congr 1; omega))) ?_
        refine lv_istore (lv' := [(4, .int (nI (zd_d a pt))), (0, .int (nI st)), (1, .int (nI pt)), (2, .int (nI f)), (3, .ref (ar 0))]) hx hb dL_rolls_25 hl (by decide) rfl (fun ls hl => ?_)
        refine lv_aload_n hx hb dL_rolls_27 rfl (lv_at hl 4 rfl) ?_
        refine lv_bipush (v := 10) hx hb dL_rolls_28 (by decide) ?_
        refine lv_dup2_11 hx hb dL_rolls_30 rfl rfl ?_
        refine zr_iald (v := nI r) C I (LG.at G (i := 0) (by decide)) (show vp_in (nI 10) _ from LG.inn G (i := 0) (k := 10) (by decide) (by decide)) (show zh_A M1 (ar 0) (nI 10).toNatClampNeg = _ from LG.rd G (by decide) (by decide) (h10)) dL_rolls_31 ?_
        refine lv_iconst (v := 1) hx hb dL_rolls_32 (by decide) ?_
        refine lv_iadd hx hb dL_rolls_33 ?_
        refine zr_top (y := nI (r + 1)) (nI_add r 1) ?_
        refine zr_iast C I (LG.at G (i := 0) (by decide)) (show vp_in (nI 10) _ from LG.inn G (i := 0) (k := 10) (by decide) (by decide)) dL_rolls_34 (fun H locs I => ?_)
        have G := LG.wr G (i := 0) (k := 10) (nI (r + 1)) (by decide) (by decide)
        have I : zh_V g A s [] (zaw M1 ar 0 10 (nI (r + 1))) H locs := I
        generalize zaw M1 ar 0 10 (nI (r + 1)) = M34 at I G
        rw [zd_go_s _ _ _ _ c44] at e1 e2
        exact ih (zd_d a pt) (r + 1) M34 (zh_u C1 0 10 (nI (r + 1))) ls H locs (by omega) (zd_d_lt a pt) G (zQE_w hQ _ (Or.inr rfl)) (zh_u_s _ _ _ _) I hl e1 (by simp only [] at e2; omega)
      · have c44 : ¬ (zd_m f) ≤ a := fun h9 => c44 ((nI_leI (a := zd_m f) (b := a) (by omega) (by omega)).mpr h9)
        have c44 : a < zd_m f := by omega
        rw [zd_go_e _ _ _ _ (Nat.not_le.mpr c44)] at e1 e2
        have er : r = (zd_roll st pt f).2 := by simpa using e2
        have ea : a = (zd_roll st pt f).1 := e1
        refine lv_aload_n hx hb dL_rolls_47 rfl (lv_at hl 4 rfl) ?_
        refine lv_bipush (v := 9) hx hb dL_rolls_48 (by decide) ?_
        refine lv_iload hx hb dL_rolls_50 (lv_at hl 0 rfl) ?_
        refine zr_iast C I (LG.at G (i := 0) (by decide)) (show vp_in (nI 9) _ from LG.inn G (i := 0) (k := 9) (by decide) (by decide)) dL_rolls_52 (fun H locs I => ?_)
        have G := LG.wr G (i := 0) (k := 9) (nI a) (by decide) (by decide)
        have I : zh_V g A s [] (zaw M1 ar 0 9 (nI a)) H locs := I
        generalize zaw M1 ar 0 9 (nI a) = M52 at I G
        refine lv_iconst (v := 1) hx hb dL_rolls_53 (by decide) ?_
        refine lv_iload hx hb dL_rolls_54 (lv_at hl 0 rfl) ?_
        refine lv_iload_n hx hb dL_rolls_56 rfl (lv_at hl 3 rfl) ?_
        refine lv_irem hx hb dL_rolls_57 (nI_ne0 (n := f) (by omega) (by omega)) ?_
        refine zr_top (y := nI (a % f)) (pk_rem (a := a) (d := f) (by omega) (by omega) (by omega)) ?_
        refine lv_iadd hx hb dL_rolls_58 ?_
        refine zr_top (y := nI (1 + (a % f))) (nI_add 1 (a % f)) ?_
        refine zr_top (y := nI (zd_val st pt f)) (by unfold zd_val; rw [← ea, Nat.add_comm]) ?_
        exact zr_iret C I hr hlk (⟨rfl, (zh_u C1 0 9 (nI a)), G, zQE_w hQ _ (Or.inl rfl), by rw [zh_u_s, ea], by rw [zh_u_a _ _ _ _ (by decide), h10, er]⟩) (Nat.le_of_ble_eq_true rfl) (Nat.le_of_ble_eq_true rfl) dL_rolls_59
  refine lv_iload_n hx hb dL_rolls_0 rfl (lv_at hl 0 rfl) ?_
  refine lv_istore (lv' := [(4, .int (nI st)), (0, .int (nI st)), (1, .int (nI pt)), (2, .int (nI f)), (3, .ref (ar 0))]) hx hb dL_rolls_1 hl (by decide) rfl (fun ls hl => ?_)
  refine lv_aload_n hx hb dL_rolls_3 rfl (lv_at hl 4 rfl) ?_
  refine lv_bipush (v := 10) hx hb dL_rolls_4 (by decide) ?_
  refine lv_iconst (v := (-1)) hx hb dL_rolls_6 (by decide) ?_
  refine zr_iast C I (LG.at G (i := 0) (by decide)) (show vp_in (nI 10) _ from LG.inn G (i := 0) (k := 10) (by decide) (by decide)) dL_rolls_7 (fun H locs I => ?_)
  have G := LG.wr G (i := 0) (k := 10) (-1) (by decide) (by decide)
  have I : zh_V g A s [] (zaw M ar 0 10 (-1)) H locs := I
  generalize zaw M ar 0 10 (-1) = M7 at I G
  refine lv_iload hx hb dL_rolls_8 (lv_at hl 0 rfl) ?_
  refine lv_sipush (v := 1105) hx hb dL_rolls_10 (by decide) ?_
  refine lv_imul hx hb dL_rolls_13 ?_
  refine zr_top (y := nI (st * 1105)) (pk_mul st 1105) ?_
  refine lv_sipush (v := 12345) hx hb dL_rolls_14 (by decide) ?_
  refine lv_iadd hx hb dL_rolls_17 ?_
  refine zr_top (y := nI ((st * 1105) + 12345)) (nI_add (st * 1105) 12345) ?_
  refine lv_iload_n hx hb dL_rolls_18 rfl (lv_at hl 2 rfl) ?_
  refine lv_iadd hx hb dL_rolls_19 ?_
  refine zr_top (y := nI (((st * 1105) + 12345) + pt)) (nI_add ((st * 1105) + 12345) pt) ?_
  refine lv_iload_n hx hb dL_rolls_20 rfl (lv_at hl 2 rfl) ?_
  refine lv_iadd hx hb dL_rolls_21 ?_
  refine zr_top (y := nI ((((st * 1105) + 12345) + pt) + pt)) (nI_add (((st * 1105) + 12345) + pt) pt) ?_
  refine lv_ldc (v := 65536) hx hb C.2.2.2.1 (C.2.2.2.2 _ zm_385) dL_rolls_22 ?_
  refine lv_irem hx hb dL_rolls_24 (by decide) ?_
  refine zr_top (y := nI (zd_d st pt)) ((pk_rem (a := st * 1105 + 12345 + pt + pt) (d := 65536) (by omega) (by omega) (by omega)).trans (congrArg nI (by show (st * 1105 + 12345 + pt + pt) % 65536 = (1105 * st + 12345 + 2 * pt) % 65536; congr 1; omega))) ?_
  refine lv_istore (lv' := [(4, .int (nI (zd_d st pt))), (0, .int (nI st)), (1, .int (nI pt)), (2, .int (nI f)), (3, .ref (ar 0))]) hx hb dL_rolls_25 hl (by decide) rfl (fun ls hl => ?_)
  refine lv_aload_n hx hb dL_rolls_27 rfl (lv_at hl 4 rfl) ?_
  refine lv_bipush (v := 10) hx hb dL_rolls_28 (by decide) ?_
  refine lv_dup2_11 hx hb dL_rolls_30 rfl rfl ?_
  refine zr_iald (v := (-1)) C I (LG.at G (i := 0) (by decide)) (show vp_in (nI 10) _ from LG.inn G (i := 0) (k := 10) (by decide) (by decide)) (show zh_A M7 (ar 0) (nI 10).toNatClampNeg = _ from LG.rd G (by decide) (by decide) (zh_u_s _ _ _ _)) dL_rolls_31 ?_
  refine lv_iconst (v := 1) hx hb dL_rolls_32 (by decide) ?_
  refine lv_iadd hx hb dL_rolls_33 ?_
  refine zr_top (y := nI 0) (by decide) ?_
  refine zr_iast C I (LG.at G (i := 0) (by decide)) (show vp_in (nI 10) _ from LG.inn G (i := 0) (k := 10) (by decide) (by decide)) dL_rolls_34 (fun H locs I => ?_)
  have G := LG.wr G (i := 0) (k := 10) (nI 0) (by decide) (by decide)
  have I : zh_V g A s [] (zaw M7 ar 0 10 (nI 0)) H locs := I
  generalize zaw M7 ar 0 10 (nI 0) = M34 at I G
  rw [show nI (zd_d st pt) = nI (zd_d st pt) from rfl] at hl
  exact loop 65536 (zd_d st pt) 0 M34 (zh_u (zh_u Ct 0 10 (-1)) 0 10 (nI 0)) ls H locs rfl (zd_d_lt st pt) G (zQE_w (zQE_w (zQE_rf Ct) _ (Or.inr rfl)) _ (Or.inr rfl)) (zh_u_s _ _ _ _) I (lv_sub hl [0, 1, 2, 3, 4] rfl) rfl rfl

set_option maxRecDepth 100000 in
set_option maxHeartbeats 4000000 in
theorem k_L_sum (l : Launch) (g : zG) (M : zS) (ar : Nat → Nat) (Ct : Nat → Nat → Int32) (G : LG M ar Ct) (k bf pr tb fc vv rr : Nat) (hk : k < 30) (e2 : Ct 2 k = nI (4 * pr + tb)) (e4 : Ct 4 k = nI fc) (e5 : Ct 5 k = nI vv) (e6 : Ct 6 k = nI rr) (e7 : k ≠ 0 → Ct 7 (k - 1) = nI bf) (hbf : k = 0 → bf = 17) (bbf : bf < 1000003) (bpr : pr < 16) (btb : tb < 4) (bfc : fc ≤ 1000) (bvv : vv ≤ 1001) (brr : rr ≤ 65536) : zM l yL_sum cL_sum 7 (some .int) (zrm 0 0 0) g [.int (nI k), .ref (ar 2), .ref (ar 4), .ref (ar 5), .ref (ar 6), .ref (ar 7)] M (fun w S' => w = some (.int (nI (zd_sum bf pr tb fc vv rr))) ∧ S' = M) := by
  refine zM_of (nm := "sum") (by decide +kernel) rfl (Nat.le_of_ble_eq_true rfl) ?_
  intro p e s m args below meth c A ls C hr hlk hin I hl
  have C : CallFix p m c cL_sum 7 s args zc_W RL := C
  have hx := C.1
  have hb := C.2.1
  have hl : lv_has ls 7 [(0, .int (nI k)), (1, .ref (ar 2)), (2, .ref (ar 4)), (3, .ref (ar 5)), (4, .ref (ar 6)), (5, .ref (ar 7))] := hl
  by_cases hk0 : k = 0
  · refine lv_iload_n hx hb dL_sum_0 rfl (lv_at hl 0 rfl) ?_
    refine lv_if_le (tgt := 13) hx hb dL_sum_1 (by decide) (fun _ => ?_) (fun h9 => absurd ((nI_leI (a := k) (b := 0) (by omega) (by omega)).mpr (by omega)) h9)
    refine lv_bipush (v := 17) hx hb dL_sum_13 (by decide) ?_
    refine zr_top (y := nI bf) (by rw [hbf hk0]; rfl) ?_
    refine lv_istore (lv' := [(6, .int (nI bf)), (0, .int (nI k)), (1, .ref (ar 2)), (2, .ref (ar 4)), (3, .ref (ar 5)), (4, .ref (ar 6)), (5, .ref (ar 7))]) hx hb dL_sum_15 hl (by decide) rfl (fun ls hl => ?_)
    refine lv_iload hx hb dL_sum_17 (lv_at hl 0 rfl) ?_
    refine lv_bipush (v := 31) hx hb dL_sum_19 (by decide) ?_
    refine lv_imul hx hb dL_sum_21 ?_
    refine zr_top (y := nI (bf * 31)) (pk_mul bf 31) ?_
    refine lv_aload_n hx hb dL_sum_22 rfl (lv_at hl 2 rfl) ?_
    refine lv_iload_n hx hb dL_sum_23 rfl (lv_at hl 1 rfl) ?_
    refine zr_iald (v := nI (4 * pr + tb)) C I (LG.at G (i := 2) (by decide)) (show vp_in (nI k) _ from LG.inn G (i := 2) (k := k) (by decide) (show k < 30 by omega)) (show zh_A M (ar 2) (nI k).toNatClampNeg = _ from LG.rd G (by decide) (show k < 30 by omega) (e2)) dL_sum_24 ?_
    refine lv_iconst (v := 4) hx hb dL_sum_25 (by decide) ?_
    refine lv_idiv hx hb dL_sum_26 (by decide) ?_
    refine zr_top (y := nI pr) ((pk_div (a := 4 * pr + tb) (d := 4) (by omega) (by decide) (by decide)).trans (congrArg nI (by omega))) ?_
    refine lv_bipush (v := 7) hx hb dL_sum_27 (by decide) ?_
    refine lv_imul hx hb dL_sum_29 ?_
    refine zr_top (y := nI (pr * 7)) (pk_mul pr 7) ?_
    refine lv_iadd hx hb dL_sum_30 ?_
    refine zr_top (y := nI ((bf * 31) + (pr * 7))) (nI_add (bf * 31) (pr * 7)) ?_
    refine lv_aload_n hx hb dL_sum_31 rfl (lv_at hl 2 rfl) ?_
    refine lv_iload_n hx hb dL_sum_32 rfl (lv_at hl 1 rfl) ?_
    refine zr_iald (v := nI (4 * pr + tb)) C I (LG.at G (i := 2) (by decide)) (show vp_in (nI k) _ from LG.inn G (i := 2) (k := k) (by decide) (show k < 30 by omega)) (show zh_A M (ar 2) (nI k).toNatClampNeg = _ from LG.rd G (by decide) (show k < 30 by omega) (e2)) dL_sum_33 ?_
    refine lv_iconst (v := 4) hx hb dL_sum_34 (by decide) ?_
    refine lv_irem hx hb dL_sum_35 (by decide) ?_
    refine zr_top (y := nI tb) ((pk_rem (a := 4 * pr + tb) (d := 4) (by omega) (by decide) (by decide)).trans (congrArg nI (by omega))) ?_
    refine lv_iconst (v := 5) hx hb dL_sum_36 (by decide) ?_
    refine lv_imul hx hb dL_sum_37 ?_
    refine zr_top (y := nI (tb * 5)) (pk_mul tb 5) ?_
    refine lv_iadd hx hb dL_sum_38 ?_
    refine zr_top (y := nI (((bf * 31) + (pr * 7)) + (tb * 5))) (nI_add ((bf * 31) + (pr * 7)) (tb * 5)) ?_
    refine lv_aload_n hx hb dL_sum_39 rfl (lv_at hl 3 rfl) ?_
    refine lv_iload_n hx hb dL_sum_40 rfl (lv_at hl 1 rfl) ?_
    refine zr_iald (v := nI fc) C I (LG.at G (i := 4) (by decide)) (show vp_in (nI k) _ from LG.inn G (i := 4) (k := k) (by decide) (show k < 30 by omega)) (show zh_A M (ar 4) (nI k).toNatClampNeg = _ from LG.rd G (by decide) (show k < 30 by omega) (e4)) dL_sum_41 ?_
    refine lv_iconst (v := 3) hx hb dL_sum_42 (by decide) ?_
    refine lv_imul hx hb dL_sum_43 ?_
    refine zr_top (y := nI (fc * 3)) (pk_mul fc 3) ?_
    refine lv_iadd hx hb dL_sum_44 ?_
    refine zr_top (y := nI ((((bf * 31) + (pr * 7)) + (tb * 5)) + (fc * 3))) (nI_add (((bf * 31) + (pr * 7)) + (tb * 5)) (fc * 3)) ?_
    refine lv_aload_n hx hb dL_sum_45 rfl (lv_at hl 4 rfl) ?_
    refine lv_iload_n hx hb dL_sum_46 rfl (lv_at hl 1 rfl) ?_
    refine zr_iald (v := nI vv) C I (LG.at G (i := 5) (by decide)) (show vp_in (nI k) _ from LG.inn G (i := 5) (k := k) (by decide) (show k < 30 by omega)) (show zh_A M (ar 5) (nI k).toNatClampNeg = _ from LG.rd G (by decide) (show k < 30 by omega) (e5)) dL_sum_47 ?_
    refine lv_bipush (v := 11) hx hb dL_sum_48 (by decide) ?_
    refine lv_imul hx hb dL_sum_50 ?_
    refine zr_top (y := nI (vv * 11)) (pk_mul vv 11) ?_
    refine lv_iadd hx hb dL_sum_51 ?_
    refine zr_top (y := nI (((((bf * 31) + (pr * 7)) + (tb * 5)) + (fc * 3)) + (vv * 11))) (nI_add ((((bf * 31) + (pr * 7)) + (tb * 5)) + (fc * 3)) (vv * 11)) ?_
    refine lv_aload hx hb dL_sum_52 (lv_at hl 5 rfl) ?_
    refine lv_iload_n hx hb dL_sum_54 rfl (lv_at hl 1 rfl) ?_
    refine zr_iald (v := nI rr) C I (LG.at G (i := 6) (by decide)) (show vp_in (nI k) _ from LG.inn G (i := 6) (k := k) (by decide) (show k < 30 by omega)) (show zh_A M (ar 6) (nI k).toNatClampNeg = _ from LG.rd G (by decide) (show k < 30 by omega) (e6)) dL_sum_55 ?_
    refine lv_iadd hx hb dL_sum_56 ?_
    refine zr_top (y := nI ((((((bf * 31) + (pr * 7)) + (tb * 5)) + (fc * 3)) + (vv * 11)) + rr)) (nI_add (((((bf * 31) + (pr * 7)) + (tb * 5)) + (fc * 3)) + (vv * 11)) rr) ?_
    refine lv_ldc (v := 1000003) hx hb C.2.2.2.1 (C.2.2.2.2 _ zm_389) dL_sum_57 ?_
    refine lv_irem hx hb dL_sum_59 (by decide) ?_
    refine zr_top (y := nI (((((((bf * 31) + (pr * 7)) + (tb * 5)) + (fc * 3)) + (vv * 11)) + rr) % 1000003)) (pk_rem (a := (((((bf * 31) + (pr * 7)) + (tb * 5)) + (fc * 3)) + (vv * 11)) + rr) (d := 1000003) (by omega) (by omega) (by omega)) ?_
    refine zr_top (y := nI (zd_sum bf pr tb fc vv rr)) (by unfold zd_sum; congr 2; omega) ?_
    exact zr_iret C I hr hlk (⟨rfl, rfl⟩) (Nat.le_of_ble_eq_true rfl) (Nat.le_of_ble_eq_true rfl) dL_sum_60
  · refine lv_iload_n hx hb dL_sum_0 rfl (lv_at hl 0 rfl) ?_
    refine lv_if_le (tgt := 13) hx hb dL_sum_1 (by decide) (fun h9 => absurd h9 (fun h8 => absurd ((nI_leI (a := k) (b := 0) (by omega) (by omega)).mp h8) (by omega))) (fun _ => ?_)
    refine lv_aload hx hb dL_sum_4 (lv_at hl 5 rfl) ?_
    refine lv_iload_n hx hb dL_sum_6 rfl (lv_at hl 0 rfl) ?_
    refine lv_iconst (v := 1) hx hb dL_sum_7 (by decide) ?_
    refine lv_isub hx hb dL_sum_8 ?_
    refine zr_top (y := nI (k - 1)) (pk_sub (a := k) (b := 1) (by omega)) ?_
    refine zr_iald (v := nI bf) C I (LG.at G (i := 7) (by decide)) (show vp_in (nI (k - 1)) _ from LG.inn G (i := 7) (k := k - 1) (by decide) (show k - 1 < 30 by omega)) (show zh_A M (ar 7) (nI (k - 1)).toNatClampNeg = _ from LG.rd G (by decide) (show k - 1 < 30 by omega) (e7 hk0)) dL_sum_9 ?_
    refine lv_goto (tgt := 15) hx hb dL_sum_10 (by decide) ?_
    refine lv_istore (lv' := [(6, .int (nI bf)), (0, .int (nI k)), (1, .ref (ar 2)), (2, .ref (ar 4)), (3, .ref (ar 5)), (4, .ref (ar 6)), (5, .ref (ar 7))]) hx hb dL_sum_15 hl (by decide) rfl (fun ls hl => ?_)
    refine lv_iload hx hb dL_sum_17 (lv_at hl 0 rfl) ?_
    refine lv_bipush (v := 31) hx hb dL_sum_19 (by decide) ?_
    refine lv_imul hx hb dL_sum_21 ?_
    refine zr_top (y := nI (bf * 31)) (pk_mul bf 31) ?_
    refine lv_aload_n hx hb dL_sum_22 rfl (lv_at hl 2 rfl) ?_
    refine lv_iload_n hx hb dL_sum_23 rfl (lv_at hl 1 rfl) ?_
    refine zr_iald (v := nI (4 * pr + tb)) C I (LG.at G (i := 2) (by decide)) (show vp_in (nI k) _ from LG.inn G (i := 2) (k := k) (by decide) (show k < 30 by omega)) (show zh_A M (ar 2) (nI k).toNatClampNeg = _ from LG.rd G (by decide) (show k < 30 by omega) (e2)) dL_sum_24 ?_
    refine lv_iconst (v := 4) hx hb dL_sum_25 (by decide) ?_
    refine lv_idiv hx hb dL_sum_26 (by decide) ?_
    refine zr_top (y := nI pr) ((pk_div (a := 4 * pr + tb) (d := 4) (by omega) (by decide) (by decide)).trans (congrArg nI (by omega))) ?_
    refine lv_bipush (v := 7) hx hb dL_sum_27 (by decide) ?_
    refine lv_imul hx hb dL_sum_29 ?_
    refine zr_top (y := nI (pr * 7)) (pk_mul pr 7) ?_
    refine lv_iadd hx hb dL_sum_30 ?_
    refine zr_top (y := nI ((bf * 31) + (pr * 7))) (nI_add (bf * 31) (pr * 7)) ?_
    refine lv_aload_n hx hb dL_sum_31 rfl (lv_at hl 2 rfl) ?_
    refine lv_iload_n hx hb dL_sum_32 rfl (lv_at hl 1 rfl) ?_
    refine zr_iald (v := nI (4 * pr + tb)) C I (LG.at G (i := 2) (by decide)) (show vp_in (nI k) _ from LG.inn G (i := 2) (k := k) (by decide) (show k < 30 by omega)) (show zh_A M (ar 2) (nI k).toNatClampNeg = _ from LG.rd G (by decide) (show k < 30 by omega) (e2)) dL_sum_33 ?_
    refine lv_iconst (v := 4) hx hb dL_sum_34 (by decide) ?_
    refine lv_irem hx hb dL_sum_35 (by decide) ?_
    refine zr_top (y := nI tb) ((pk_rem (a := 4 * pr + tb) (d := 4) (by omega) (by decide) (by decide)).trans (congrArg nI (by omega))) ?_
    refine lv_iconst (v := 5) hx hb dL_sum_36 (by decide) ?_
    refine lv_imul hx hb dL_sum_37 ?_
    refine zr_top (y := nI (tb * 5)) (pk_mul tb 5) ?_
    refine lv_iadd hx hb dL_sum_38 ?_
    refine zr_top (y := nI (((bf * 31) + (pr * 7)) + (tb * 5))) (nI_add ((bf * 31) + (pr * 7)) (tb * 5)) ?_
    refine lv_aload_n hx hb dL_sum_39 rfl (lv_at hl 3 rfl) ?_
    refine lv_iload_n hx hb dL_sum_40 rfl (lv_at hl 1 rfl) ?_
    refine zr_iald (v := nI fc) C I (LG.at G (i := 4) (by decide)) (show vp_in (nI k) _ from LG.inn G (i := 4) (k := k) (by decide) (show k < 30 by omega)) (show zh_A M (ar 4) (nI k).toNatClampNeg = _ from LG.rd G (by decide) (show k < 30 by omega) (e4)) dL_sum_41 ?_
    refine lv_iconst (v := 3) hx hb dL_sum_42 (by decide) ?_
    refine lv_imul hx hb dL_sum_43 ?_
    refine zr_top (y := nI (fc * 3)) (pk_mul fc 3) ?_
    refine lv_iadd hx hb dL_sum_44 ?_
    refine zr_top (y := nI ((((bf * 31) + (pr * 7)) + (tb * 5)) + (fc * 3))) (nI_add (((bf * 31) + (pr * 7)) + (tb * 5)) (fc * 3)) ?_
    refine lv_aload_n hx hb dL_sum_45 rfl (lv_at hl 4 rfl) ?_
    refine lv_iload_n hx hb dL_sum_46 rfl (lv_at hl 1 rfl) ?_
    refine zr_iald (v := nI vv) C I (LG.at G (i := 5) (by decide)) (show vp_in (nI k) _ from LG.inn G (i := 5) (k := k) (by decide) (show k < 30 by omega)) (show zh_A M (ar 5) (nI k).toNatClampNeg = _ from LG.rd G (by decide) (show k < 30 by omega) (e5)) dL_sum_47 ?_
    refine lv_bipush (v := 11) hx hb dL_sum_48 (by decide) ?_
    refine lv_imul hx hb dL_sum_50 ?_
    refine zr_top (y := nI (vv * 11)) (pk_mul vv 11) ?_
    refine lv_iadd hx hb dL_sum_51 ?_
    refine zr_top (y := nI (((((bf * 31) + (pr * 7)) + (tb * 5)) + (fc * 3)) + (vv * 11))) (nI_add ((((bf * 31) + (pr * 7)) + (tb * 5)) + (fc * 3)) (vv * 11)) ?_
    refine lv_aload hx hb dL_sum_52 (lv_at hl 5 rfl) ?_
    refine lv_iload_n hx hb dL_sum_54 rfl (lv_at hl 1 rfl) ?_
    refine zr_iald (v := nI rr) C I (LG.at G (i := 6) (by decide)) (show vp_in (nI k) _ from LG.inn G (i := 6) (k := k) (by decide) (show k < 30 by omega)) (show zh_A M (ar 6) (nI k).toNatClampNeg = _ from LG.rd G (by decide) (show k < 30 by omega) (e6)) dL_sum_55 ?_
    refine lv_iadd hx hb dL_sum_56 ?_
    refine zr_top (y := nI ((((((bf * 31) + (pr * 7)) + (tb * 5)) + (fc * 3)) + (vv * 11)) + rr)) (nI_add (((((bf * 31) + (pr * 7)) + (tb * 5)) + (fc * 3)) + (vv * 11)) rr) ?_
    refine lv_ldc (v := 1000003) hx hb C.2.2.2.1 (C.2.2.2.2 _ zm_389) dL_sum_57 ?_
    refine lv_irem hx hb dL_sum_59 (by decide) ?_
    refine zr_top (y := nI (((((((bf * 31) + (pr * 7)) + (tb * 5)) + (fc * 3)) + (vv * 11)) + rr) % 1000003)) (pk_rem (a := (((((bf * 31) + (pr * 7)) + (tb * 5)) + (fc * 3)) + (vv * 11)) + rr) (d := 1000003) (by omega) (by omega) (by omega)) ?_
    refine zr_top (y := nI (zd_sum bf pr tb fc vv rr)) (by unfold zd_sum; congr 2; omega) ?_
    exact zr_iret C I hr hlk (⟨rfl, rfl⟩) (Nat.le_of_ble_eq_true rfl) (Nat.le_of_ble_eq_true rfl) dL_sum_60

