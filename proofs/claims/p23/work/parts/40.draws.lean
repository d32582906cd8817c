/-! Draws -/
def zD (S : zS) (d a r : Nat) : zS := zh_sI (zh_sI S 0 d (nI a)) 1 d (nI r)
theorem zD_0 (S : zS) (d a r : Nat) : zh_I (zD S d a r) 0 d = nI a := by simp [zD, zh_I_sI, zh_u]
theorem zD_1 (S : zS) (d a r : Nat) : zh_I (zD S d a r) 1 d = nI r := by simp [zD, zh_I_sI, zh_u]
theorem zD_s0 (S : zS) (d a b r : Nat) : zh_sI (zD S d a r) 0 d (nI b) = zD S d b r := by
  unfold zD
  rw [zs_Ic (zh_sI S 0 d (nI a)) d d (nI r) (nI b) (by decide), zs_II]
theorem zD_s1 (S : zS) (d a b r : Nat) : zh_sI (zD S d a r) 1 d (nI b) = zD S d a b := by
  unfold zD
  rw [zs_II]

set_option maxRecDepth 100000 in
set_option maxHeartbeats 4000000 in
theorem k_X0_init (l : Launch) (g : zG) (S : zS) (d : Nat) (sd : Int32) (hd : zh_at S 0 d) : zM l yX0_init cX0_init 2 none (zrm 1 0 0) g [.ref d, .int sd] S (fun v S' => v = none ∧ S' = zh_sI S 0 d sd) := by
  refine zM_of (nm := "<init>") (by decide) rfl (Nat.le_of_ble_eq_true rfl) ?_
  intro p e s m args below meth c A ls C hr hlk hin I hl
  have C : CallFix p m c cX0_init 2 s args zc_W RX0 := C
  have hx := C.1
  have hb := C.2.1
  have hl : lv_has ls 2 [(0, .ref d), (1, .int sd)] := hl
  refine lv_aload_n hx hb dX0_init_0 rfl (lv_at hl 0 rfl) ?_
  refine zr_obj (rest := []) C zm_171 zm_41 zm_42 hl.1 dX0_init_1 (Nat.le_of_ble_eq_true rfl) (Nat.le_of_ble_eq_true rfl) (Nat.le_of_ble_eq_true rfl) ?_
  refine lv_aload_n hx hb dX0_init_4 rfl (lv_at hl 0 rfl) ?_
  refine lv_iload_n hx hb dX0_init_5 rfl (lv_at hl 1 rfl) ?_
  refine zp_Draws_state C I hd zm_172 dX0_init_6 (fun H locs I => ?_)
  exact zr_vret C I hr hlk (⟨rfl, rfl⟩) (Nat.le_of_ble_eq_true rfl) (Nat.le_of_ble_eq_true rfl) dX0_init_9

set_option maxRecDepth 100000 in
set_option maxHeartbeats 4000000 in
theorem k_X0_draw (l : Launch) (g : zG) (S : zS) (d st pt : Nat) (hd : zh_at S 0 d) (hst : zh_I S 0 d = nI st) (bst : st < 65536) (bpt : pt ≤ 999) : zM l yX0_draw cX0_draw 2 none (zrm 0 0 0) g [.ref d, .int (nI pt)] S (fun v S' => v = none ∧ S' = zh_sI S 0 d (nI (zd_d st pt))) := by
  refine zM_of (nm := "draw") (by decide) rfl (Nat.le_of_ble_eq_true rfl) ?_
  intro p e s m args below meth c A ls C hr hlk hin I hl
  have C : CallFix p m c cX0_draw 2 s args zc_W RX0 := C
  have hx := C.1
  have hb := C.2.1
  have hl : lv_has ls 2 [(0, .ref d), (1, .int (nI pt))] := hl
  refine lv_aload_n hx hb dX0_draw_0 rfl (lv_at hl 0 rfl) ?_
  refine lv_sipush (v := 1105) hx hb dX0_draw_1 (by decide) ?_
  refine lv_aload_n hx hb dX0_draw_4 rfl (lv_at hl 0 rfl) ?_
  refine zg_Draws_state (v := nI st) C I hd zm_172 (hst) dX0_draw_5 ?_
  refine lv_imul hx hb dX0_draw_8 ?_
  refine zr_top (y := nI (1105 * st)) (pk_mul 1105 st) ?_
  refine lv_sipush (v := 12345) hx hb dX0_draw_9 (by decide) ?_
  refine lv_iadd hx hb dX0_draw_12 ?_
  refine zr_top (y := nI ((1105 * st) + 12345)) (nI_add (1105 * st) 12345) ?_
  refine lv_iconst (v := 2) hx hb dX0_draw_13 (by decide) ?_
  refine lv_iload_n hx hb dX0_draw_14 rfl (lv_at hl 1 rfl) ?_
  refine lv_imul hx hb dX0_draw_15 ?_
  refine zr_top (y := nI (2 * pt)) (pk_mul 2 pt) ?_
  refine lv_iadd hx hb dX0_draw_16 ?_
  refine zr_top (y := nI (((1105 * st) + 12345) + (2 * pt))) (nI_add ((1105 * st) + 12345) (2 * pt)) ?_
  refine lv_ldc (v := 65536) hx hb C.2.2.2.1 (C.2.2.2.2 _ zm_335) dX0_draw_17 ?_
  refine lv_irem hx hb dX0_draw_19 (by decide) ?_
  refine zr_top (y := nI ((((1105 * st) + 12345) + (2 * pt)) % 65536)) (pk_rem (a := ((1105 * st) + 12345) + (2 * pt)) (d := 65536) (by omega) (by omega) (by omega)) ?_
  refine zp_Draws_state C I hd zm_172 dX0_draw_20 (fun H locs I => ?_)
  exact zr_vret C I hr hlk (⟨rfl, rfl⟩) (Nat.le_of_ble_eq_true rfl) (Nat.le_of_ble_eq_true rfl) dX0_draw_23

set_option maxRecDepth 100000 in
set_option maxHeartbeats 4000000 in
theorem k_X0_nextValue (l : Launch) (g : zG) (S : zS) (d st pt f : Nat) (hd : zh_at S 0 d) (hst : zh_I S 0 d = nI st) (bst : st < 65536) (bpt : pt ≤ 999) (bf : 2 ≤ f) (bf2 : f ≤ 1000) : zM l yX0_nextValue cX0_nextValue 4 (some .int) (zrm 1 0 0) g [.ref d, .int (nI pt), .int (nI f)] S (fun v S' => v = some (.int (nI (zd_val st pt f))) ∧ S' = zD S d (zd_roll st pt f).1 (zd_roll st pt f).2) := by
  refine zM_of (nm := "nextValue") (by decide) rfl (Nat.le_of_ble_eq_true rfl) ?_
  intro p e s m args below meth c A ls C hr hlk hin I hl
  have C : CallFix p m c cX0_nextValue 4 s args zc_W RX0 := C
  have hx := C.1
  have hb := C.2.1
  have hl : lv_has ls 4 [(0, .ref d), (1, .int (nI pt)), (2, .int (nI f))] := hl
  have kexit : ∀ (a r : Nat) (ls : Array Slot) (H : Heap) (locs : List Loc), a < 65536 → zh_V g A s [] (zD S d a r) H locs → lv_has ls 4 [(3, .int (nI (zd_m f))), (0, .ref d), (1, .int (nI pt)), (2, .int (nI f))] → a = (zd_roll st pt f).1 → r = (zd_roll st pt f).2 → W p l e (zrm 1 0 0) s m args below meth c H locs 0 0 (MQ below (zh_Po g A (fun v S' => v = some (.int (nI (zd_val st pt f))) ∧ S' = zD S d (zd_roll st pt f).1 (zd_roll st pt f).2)) args s (zrm 1 0 0).cells (zrm 1 0 0).slots A) (F0 m 60 ls []) := by
    intro a r ls H locs ba I hl ea er
    refine lv_aload_n hx hb dX0_nextValue_60 rfl (lv_at hl 1 rfl) ?_
    refine zg_Draws_state (v := nI a) C I hd zm_172 (zD_0 S d a r) dX0_nextValue_61 ?_
    refine lv_iload_n hx hb dX0_nextValue_64 rfl (lv_at hl 3 rfl) ?_
    refine lv_irem hx hb dX0_nextValue_65 (nI_ne0 (n := f) (by omega) (by omega)) ?_
    refine zr_top (y := nI (a % f)) (pk_rem (a := a) (d := f) (by omega) (by omega) (by omega)) ?_
    refine lv_iconst (v := 1) hx hb dX0_nextValue_66 (by decide) ?_
    refine lv_iadd hx hb dX0_nextValue_67 ?_
    refine zr_top (y := nI ((a % f) + 1)) (nI_add (a % f) 1) ?_
    exact zr_iret C I hr hlk (by subst ea er; exact ⟨rfl, rfl⟩) (Nat.le_of_ble_eq_true rfl) (Nat.le_of_ble_eq_true rfl) dX0_nextValue_68
  have loop : ∀ (n a r : Nat) (ls : Array Slot) (H : Heap) (locs : List Loc), r + n = 65536 → a < 65536 → zh_V g A s [] (zD S d a r) H locs → lv_has ls 4 [(3, .int (nI (zd_m f))), (0, .ref d), (1, .int (nI pt)), (2, .int (nI f))] → (zd_go n a pt (zd_m f)).1 = (zd_roll st pt f).1 → (zd_go n a pt (zd_m f)).2 + r = (zd_roll st pt f).2 → W p l e (zrm 1 0 0) s m args below meth c H locs 0 0 (MQ below (zh_Po g A (fun v S' => v = some (.int (nI (zd_val st pt f))) ∧ S' = zD S d (zd_roll st pt f).1 (zd_roll st pt f).2)) args s (zrm 1 0 0).cells (zrm 1 0 0).slots A) (F0 m 25 ls []) := by
    intro n
    induction n with
    | zero =>
      intro a r ls H locs hn ba I hl e1 e2
      have bm : zd_m f ≤ 65536 := Nat.sub_le _ _
      refine lv_aload_n hx hb dX0_nextValue_25 rfl (lv_at hl 1 rfl) ?_
      refine zg_Draws_state (v := nI a) C I hd zm_172 (zD_0 S d a r) dX0_nextValue_26 ?_
      refine lv_iload_n hx hb dX0_nextValue_29 rfl (lv_at hl 0 rfl) ?_
      refine lv_icmp_lt (tgt := 60) hx hb dX0_nextValue_30 (by decide) (fun c30 => ?_) (fun c30 => ?_)
      · have c30 : a < (zd_m f) := (nI_ltI (a := a) (b := zd_m f) (by omega) (by omega)).mp c30
        rw [zd_go_e _ _ _ _ (Nat.not_le.mpr c30)] at e1 e2
        exact kexit a r ls H locs ba I hl e1 (by simpa using e2)
      · have c30 : ¬ a < (zd_m f) := fun h9 => c30 ((nI_ltI (a := a) (b := zd_m f) (by omega) (by omega)).mpr h9)
        refine lv_aload_n hx hb dX0_nextValue_33 rfl (lv_at hl 1 rfl) ?_
        refine zg_Draws_rejected (v := nI r) C I hd zm_173 (zD_1 S d a r) dX0_nextValue_34 ?_
        refine lv_ldc (v := 65536) hx hb C.2.2.2.1 (C.2.2.2.2 _ zm_335) dX0_nextValue_37 ?_
        refine lv_icmp_ge (tgt := 60) hx hb dX0_nextValue_39 (by decide) (fun _ => ?_) (fun h9 => absurd ((nI_leI (a := 65536) (b := r) (by omega) (by omega)).mpr (by omega)) h9)
        rw [zd_go_0] at e1 e2
        exact kexit a r ls H locs ba I hl e1 (by simpa using e2)
    | succ n ih =>
      intro a r ls H locs hn ba I hl e1 e2
      have bm : zd_m f ≤ 65536 := Nat.sub_le _ _
      refine lv_aload_n hx hb dX0_nextValue_25 rfl (lv_at hl 1 rfl) ?_
      refine zg_Draws_state (v := nI a) C I hd zm_172 (zD_0 S d a r) dX0_nextValue_26 ?_
      refine lv_iload_n hx hb dX0_nextValue_29 rfl (lv_at hl 0 rfl) ?_
      refine lv_icmp_lt (tgt := 60) hx hb dX0_nextValue_30 (by decide) (fun c30 => ?_) (fun c30 => ?_)
      · have c30 : a < (zd_m f) := (nI_ltI (a := a) (b := zd_m f) (by omega) (by omega)).mp c30
        rw [zd_go_e _ _ _ _ (Nat.not_le.mpr c30)] at e1 e2
        exact kexit a r ls H locs ba I hl e1 (by simpa using e2)
      · have c30 : ¬ a < (zd_m f) := fun h9 => c30 ((nI_ltI (a := a) (b := zd_m f) (by omega) (by omega)).mpr h9)
        refine lv_aload_n hx hb dX0_nextValue_33 rfl (lv_at hl 1 rfl) ?_
        refine zg_Draws_rejected (v := nI r) C I hd zm_173 (zD_1 S d a r) dX0_nextValue_34 ?_
        refine lv_ldc (v := 65536) hx hb C.2.2.2.1 (C.2.2.2.2 _ zm_335) dX0_nextValue_37 ?_
        refine lv_icmp_ge (tgt := 60) hx hb dX0_nextValue_39 (by decide) (fun h9 => absurd h9 (fun h8 => absurd ((nI_leI (a := 65536) (b := r) (by omega) (by omega)).mp h8) (by omega))) (fun _ => ?_)
        refine lv_aload_n hx hb dX0_nextValue_42 rfl (lv_at hl 1 rfl) ?_
        refine lv_dup hx hb dX0_nextValue_43 rfl ?_
        refine zg_Draws_rejected (v := nI r) C I hd zm_173 (zD_1 S d a r) dX0_nextValue_44 ?_
        refine lv_iconst (v := 1) hx hb dX0_nextValue_47 (by decide) ?_
        refine lv_iadd hx hb dX0_nextValue_48 ?_
        refine zr_top (y := nI (r + 1)) (nI_add r 1) ?_
        refine zp_Draws_rejected C I hd zm_173 dX0_nextValue_49 (fun H locs I => ?_)
        refine lv_aload_n hx hb dX0_nextValue_52 rfl (lv_at hl 1 rfl) ?_
        refine lv_iload_n hx hb dX0_nextValue_53 rfl (lv_at hl 2 rfl) ?_
        rw [zD_s1] at I
        refine zc_V (n := 1) (rest := []) C I hd rfl rfl (k_X0_draw l g (zD S d a (r + 1)) d a pt hd (zD_0 S d a (r + 1)) ba bpt) zm_336 zm_337 zm_6 zm_26 zm_338 rfl hl.1 dX0_nextValue_54 (by decide +kernel) rfl ⟨Nat.le_of_ble_eq_true rfl, Nat.le_of_ble_eq_true rfl⟩ (Nat.le_of_ble_eq_true rfl) ⟨Nat.le_of_ble_eq_true rfl, Nat.le_of_ble_eq_true rfl⟩ (fun v S' H locs hq I => ?_)
        obtain ⟨rfl, eS⟩ := hq
        rw [eS] at I
        rw [zD_s0] at I
        rw [zd_go_s _ _ _ _ (Nat.not_lt.mp c30)] at e1 e2
        refine lv_goto (tgt := 25) hx hb dX0_nextValue_57 (by decide) ?_
        exact ih (zd_d a pt) (r + 1) ls H locs (by omega) (zd_d_lt a pt) I hl e1 (by simp only [] at e2; omega)
  refine lv_aload_n hx hb dX0_nextValue_0 rfl (lv_at hl 0 rfl) ?_
  refine lv_iconst (v := 0) hx hb dX0_nextValue_1 (by decide) ?_
  refine zp_Draws_rejected C I hd zm_173 dX0_nextValue_2 (fun H locs I => ?_)
  refine lv_iload_n hx hb dX0_nextValue_5 rfl (lv_at hl 2 rfl) ?_
  refine lv_iconst (v := 2) hx hb dX0_nextValue_6 (by decide) ?_
  refine lv_icmp_ge (tgt := 12) hx hb dX0_nextValue_7 (by decide) (fun _ => ?_) (fun h9 => absurd ((nI_leI (a := 2) (b := f) (by omega) (by omega)).mpr (bf)) h9)
  refine lv_ldc (v := 65536) hx hb C.2.2.2.1 (C.2.2.2.2 _ zm_335) dX0_nextValue_12 ?_
  refine lv_ldc (v := 65536) hx hb C.2.2.2.1 (C.2.2.2.2 _ zm_335) dX0_nextValue_14 ?_
  refine lv_iload_n hx hb dX0_nextValue_16 rfl (lv_at hl 2 rfl) ?_
  refine lv_irem hx hb dX0_nextValue_17 (nI_ne0 (n := f) (by omega) (by omega)) ?_
  refine zr_top (y := nI (65536 % f)) (pk_rem (a := 65536) (d := f) (by omega) (by omega) (by omega)) ?_
  refine lv_isub hx hb dX0_nextValue_18 ?_
  refine zr_top (y := nI (zd_m f)) (pk_sub (a := 65536) (b := 65536 % f) (Nat.mod_le 65536 f)) ?_
  refine lv_istore_n (lv' := [(3, .int (nI (zd_m f))), (0, .ref d), (1, .int (nI pt)), (2, .int (nI f))]) hx hb dX0_nextValue_19 rfl hl (by decide) rfl (fun ls hl => ?_)
  refine lv_aload_n hx hb dX0_nextValue_20 rfl (lv_at hl 1 rfl) ?_
  refine lv_iload_n hx hb dX0_nextValue_21 rfl (lv_at hl 2 rfl) ?_
  refine zc_V (n := 1) (rest := []) C I hd rfl rfl (k_X0_draw l g (zh_sI S 1 d 0) d st pt hd (by simp [zh_I_sI, zh_u, hst]) bst bpt) zm_336 zm_337 zm_6 zm_26 zm_338 rfl hl.1 dX0_nextValue_22 (by decide +kernel) rfl ⟨Nat.le_of_ble_eq_true rfl, Nat.le_of_ble_eq_true rfl⟩ (Nat.le_of_ble_eq_true rfl) ⟨Nat.le_of_ble_eq_true rfl, Nat.le_of_ble_eq_true rfl⟩ (fun v S' H locs hq I => ?_)
  obtain ⟨rfl, eS⟩ := hq
  rw [eS] at I
  have I : zh_V g A s [] (zD S d (zd_d st pt) 0) H locs := by
    have e9 := zs_Ic S (j := 1) (k := 0) d d 0 (nI (zd_d st pt)) (by decide)
    rw [e9] at I; exact I
  exact loop 65536 (zd_d st pt) 0 ls H locs rfl (zd_d_lt st pt) I hl rfl rfl

