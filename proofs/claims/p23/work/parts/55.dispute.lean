/-! found, dispute -/

set_option maxRecDepth 100000 in
set_option maxHeartbeats 4000000 in
theorem k_X3_found (l : Launch) (g : zG) (hst : l.stackTraces = false) (S : zS) (T : zT) (x pl lo pt ty pa la : Nat) (ap ad ae : Nat → Nat) (hT : zt_ok T) (hF : FR g S T x pl lo pt ty pa la ap ad ae) (i : Int32) : zX l yX3_found cX3_found 7 (some .int) (zrm 8 4 20) g [.ref x, .int i] S (fun w S' => zc_found T i = 0 ∧ w = some (.int (nI (zt_fd T (T.2 5 (zx i)) (zx i)))) ∧ FR g S' T x pl lo pt ty pa la ap ad ae ∧ zk_ S S') (fun E S' => ((zc_found T i = 1 ∧ E = zn_IO) ∨ (zc_found T i = 2 ∧ E = zn_IS)) ∧ FR g S' T x pl lo pt ty pa la ap ad ae ∧ zk_ S S') := by
  refine zX_of (nm := "found") (by decide) rfl (Nat.le_of_ble_eq_true rfl) ?_
  intro p e s m args below meth c A ls C hr hlk hxt I hl
  have C : CallFix p m c cX3_found 7 s args zc_W RX3 := C
  have hx := C.1
  have hb := C.2.1
  have hl : lv_has ls 7 [(0, .ref x), (1, .int i)] := hl
  have hF0 := hF
  obtain ⟨⟨f1, f2, f3, f4, f5⟩, ⟨f6, f7, f8, f9, f10⟩, f11, f12, f13, f14, f15, f16, f17, f18, f19⟩ := hF
  obtain ⟨t1, t2, t3, t4, t5, t6, t7⟩ := hT
  have t3a := t3
  rcases zi_cases i (n := T.1.2) (by omega) with hbd | ⟨hbd, hj0, hi0⟩
  · refine lv_aload_n hx hb dX3_found_0 rfl (lv_at hl 0 rfl) ?_
    refine lv_iload_n hx hb dX3_found_1 rfl (lv_at hl 1 rfl) ?_
    refine zc_VX (n := 1) (rest := []) C I f1 rfl rfl (k_X3_entryAt l g hst S x lo T.1.2 la ae i f1 f3 f12 t2) zm_353 zm_354 zm_9 zm_16 zm_355 rfl hl.1 dX3_found_2 (by decide +kernel) rfl ⟨Nat.le_of_ble_eq_true rfl, Nat.le_of_ble_eq_true rfl⟩ (Nat.le_of_ble_eq_true rfl) ⟨Nat.le_of_ble_eq_true rfl, Nat.le_of_ble_eq_true rfl⟩ (fun E ce q9 S' H locs hq I h1 h2 h3 => ?_) (fun v S' H locs hq I => ?_)
    · obtain ⟨hE, hz, eS⟩ := hq
      rw [eS] at I
      exact zr_out I hxt hlk (⟨Or.inl ⟨if_pos hz, hE⟩, hF0, zk_rf S⟩) h1 h2 h3 (Nat.le_of_ble_eq_true rfl) (Nat.le_of_ble_eq_true rfl)
    · exact absurd hbd hq.1
  · obtain ⟨j, hj, rfl⟩ : ∃ j : Nat, j < T.1.2 ∧ i = nI j := ⟨_, hj0, hi0⟩
    clear hj0 hi0
    have hjz : zx (nI j) = j := zx_nI (by omega)
    rw [hjz]
    refine lv_aload_n hx hb dX3_found_0 rfl (lv_at hl 0 rfl) ?_
    refine lv_iload_n hx hb dX3_found_1 rfl (lv_at hl 1 rfl) ?_
    refine zc_VX (n := 1) (rest := []) C I f1 rfl rfl (k_X3_entryAt l g hst S x lo T.1.2 la ae (nI j) f1 f3 f12 t2) zm_353 zm_354 zm_9 zm_16 zm_355 rfl hl.1 dX3_found_2 (by decide +kernel) rfl ⟨Nat.le_of_ble_eq_true rfl, Nat.le_of_ble_eq_true rfl⟩ (Nat.le_of_ble_eq_true rfl) ⟨Nat.le_of_ble_eq_true rfl, Nat.le_of_ble_eq_true rfl⟩ (fun E ce q9 S' H locs hq I h1 h2 h3 => ?_) (fun v S' H locs hq I => ?_)
    · exact absurd hq.2.1 hbd
    · obtain ⟨hz, rfl, eS⟩ := hq
      rw [eS] at I
      rw [hjz]
      have h5j := t5 _ hj
      obtain ⟨q, hq5⟩ : ∃ q, q = T.2 5 j := ⟨_, rfl⟩
      have hqn : q < T.1.1 := by omega
      rw [← hq5]
      refine zn_Entry_promise (v := nI q) (host := "DiceForge") C I (f12.2.2.2.2 _ hj).2 (by decide +kernel) ((f16 _ hj 0 (by decide)).trans (by rw [hq5])) dX3_found_5 ?_
      refine lv_istore_n (lv' := [(2, .int (nI q)), (0, .ref x), (1, .int (nI j))]) hx hb dX3_found_8 rfl hl (by decide) rfl (fun ls hl => ?_)
      refine zw_Draws C I zm_363 zm_168 zm_26 (Nat.le_of_ble_eq_true rfl) (Nat.le_of_ble_eq_true rfl) dX3_found_9 (fun q9 H hq9 I => ?_)
      refine lv_dup hx hb dX3_found_12 rfl ?_
      refine lv_aload_n hx hb dX3_found_13 rfl (lv_at hl 1 rfl) ?_
      refine lv_iload_n hx hb dX3_found_14 rfl (lv_at hl 0 rfl) ?_
      have hF1 := FR_nO hF0 hq9 (k0 := 0) (by decide)
      obtain ⟨⟨f1, f2, f3, f4, f5⟩, ⟨f6, f7, f8, f9, f10⟩, f11, f12, f13, f14, f15, f16, f17, f18, f19⟩ := id hF1
      have hqz : zx (nI q) = q := zx_nI (by omega)
      refine zc_VX (n := 1) (rest := [.ref q9, .ref q9]) C I f1 rfl rfl (k_X3_openedAt l g hst (zh_nO S q9 0) x pl T.1.1 pa ap (T.2 2) (nI q) f1 f2 f11 (by omega) (fun k hk => (f15 k hk).2.2.2.2.1) (fun k => (t3 k).2.2.1)) zm_364 zm_365 zm_10 zm_16 zm_366 rfl hl.1 dX3_found_15 (by decide +kernel) rfl ⟨Nat.le_of_ble_eq_true rfl, Nat.le_of_ble_eq_true rfl⟩ (Nat.le_of_ble_eq_true rfl) ⟨Nat.le_of_ble_eq_true rfl, Nat.le_of_ble_eq_true rfl⟩ (fun E ce q9 S' H locs hq I h1 h2 h3 => ?_) (fun v S' H locs hq I => ?_)
      · obtain ⟨hE, eS⟩ := hq
        rw [eS] at I
        exact zr_out I hxt hlk (⟨hE.imp (fun h => absurd h.2 (zi_no hqn (by omega))) (fun h => ⟨by have h9 := h.2.2; rw [hqz] at h9; unfold zc_found; rw [if_neg hbd, hjz, ← hq5, if_pos h9], h.1⟩), hF1, zk_nO hq9⟩) h1 h2 h3 (Nat.le_of_ble_eq_true rfl) (Nat.le_of_ble_eq_true rfl)
      · obtain ⟨⟨hz1, ho⟩, rfl, eS⟩ := hq
        rw [eS] at I
        rw [hqz]
        rw [hqz] at ho
        refine zn_Promise_seed (v := nI (T.2 0 q)) (host := "DiceForge") C I (f11.2.2.2.2 _ hqn).2 (by decide +kernel) ((f15 _ hqn).2.2.1) dX3_found_18 ?_
        refine zc_IN (host := "DiceForge") (n := 1) (rest := [.ref q9]) C I (k_X0_init l g (zh_nO S q9 0) q9 (nI (T.2 0 q)) zh_at_new) (by decide +kernel) zm_169 zm_26 zm_170 rfl rfl hl.1 dX3_found_21 (by decide +kernel) rfl ⟨Nat.le_of_ble_eq_true rfl, Nat.le_of_ble_eq_true rfl⟩ (Nat.le_of_ble_eq_true rfl) ⟨Nat.le_of_ble_eq_true rfl, Nat.le_of_ble_eq_true rfl⟩ (fun v S' H locs hq I => ?_)
        obtain ⟨rfl, eS⟩ := hq
        rw [eS, zD_init] at I
        have loop : ∀ (n k r : Nat) (vv : Int32) (ls : Array Slot) (H : Heap) (locs : List Loc), k + n = j + 1 → (k = j + 1 → vv = nI (zt_fd T q j)) → zh_V g A s [] (zD (zh_nO S q9 0) q9 (zt_ag T q k) r) H locs → lv_has ls 7 [(5, .int (nI k)), (4, .int vv), (3, .ref q9), (2, .int (nI q)), (0, .ref x), (1, .int (nI j))] → W p l e (zrm 8 4 20) s m args below meth c H locs (0 + (zrm 6 1 6).cells + 1 + (zrm 7 2 12).cells + (zrm 1 0 0).cells) (0 + (zrm 6 1 6).slots + 2 + (zrm 7 2 12).slots + (zrm 1 0 0).slots) (vx_MQ below (zh_Po g A (fun w S' => zc_found T (nI j) = 0 ∧ w = some (.int (nI (zt_fd T q j))) ∧ FR g S' T x pl lo pt ty pa la ap ad ae ∧ zk_ S S')) (zh_Px g A (fun E S' => ((zc_found T (nI j) = 1 ∧ E = zn_IO) ∨ (zc_found T (nI j) = 2 ∧ E = zn_IS)) ∧ FR g S' T x pl lo pt ty pa la ap ad ae ∧ zk_ S S')) args s (zrm 8 4 20).cells (zrm 8 4 20).slots A) (F0 m 31 ls []) := by
          intro n
          induction n with
          | zero =>
            intro k r vv ls H locs hn hvv I hl
            have hFk := FR_new hF0 hq9 (zt_ag T q k) r
            obtain ⟨⟨f1, f2, f3, f4, f5⟩, ⟨f6, f7, f8, f9, f10⟩, f11, f12, f13, f14, f15, f16, f17, f18, f19⟩ := id hFk
            refine lv_iload hx hb dX3_found_31 (lv_at hl 0 rfl) ?_
            refine lv_iload_n hx hb dX3_found_33 rfl (lv_at hl 5 rfl) ?_
            refine lv_icmp_gt (tgt := 94) hx hb dX3_found_34 (by decide) (fun _ => ?_) (fun h9 => absurd ((nI_ltI (a := j) (b := k) (by omega) (by omega)).mpr (by omega)) h9)
            refine lv_iload hx hb dX3_found_94 (lv_at hl 1 rfl) ?_
            exact vx_ret (zr_iret C I hr hlk (⟨by unfold zc_found; rw [if_neg hbd, hjz, ← hq5, if_neg ho], by rw [hvv (by omega)], hFk, zk_new hq9⟩) (Nat.le_of_ble_eq_true rfl) (Nat.le_of_ble_eq_true rfl) dX3_found_96)
          | succ n ih =>
            intro k r vv ls H locs hn hvv I hl
            have hFk := FR_new hF0 hq9 (zt_ag T q k) r
            obtain ⟨⟨f1, f2, f3, f4, f5⟩, ⟨f6, f7, f8, f9, f10⟩, f11, f12, f13, f14, f15, f16, f17, f18, f19⟩ := id hFk
            have hk : k < T.1.2 := by omega
            refine lv_iload hx hb dX3_found_31 (lv_at hl 0 rfl) ?_
            refine lv_iload_n hx hb dX3_found_33 rfl (lv_at hl 5 rfl) ?_
            refine lv_icmp_gt (tgt := 94) hx hb dX3_found_34 (by decide) (fun h9 => absurd h9 (fun h8 => absurd ((nI_ltI (a := j) (b := k) (by omega) (by omega)).mp h8) (by omega))) (fun _ => ?_)
            refine lv_iload hx hb dX3_found_37 (lv_at hl 0 rfl) ?_
            refine lv_aload_n hx hb dX3_found_39 rfl (lv_at hl 4 rfl) ?_
            refine zg_Forge_log (v := lo) C I f1 zm_69 (f3) dX3_found_40 ?_
            refine zc_V (n := 0) (rest := [.int (nI k)]) C I f12.1 rfl rfl (k_Jx4a65c_size_8abf5 l g (zD (zh_nO S q9 0) q9 (zt_ag T q k) r) lo T.1.2 f12.1 f12.2.1) zm_144 zm_145 zm_146 zm_19 zm_147 rfl hl.1 dX3_found_43 (by decide +kernel) rfl ⟨Nat.le_of_ble_eq_true rfl, Nat.le_of_ble_eq_true rfl⟩ (Nat.le_of_ble_eq_true rfl) ⟨Nat.le_of_ble_eq_true rfl, Nat.le_of_ble_eq_true rfl⟩ (fun v S' H locs hq I => ?_)
            obtain ⟨rfl, eS⟩ := hq
            rw [eS] at I
            obtain ⟨h3, h4, h5, h6⟩ : zh_at (zD (zh_nO S q9 0) q9 (zt_ag T q k) r) 8 la ∧ T.1.2 ≤ zh_N (zD (zh_nO S q9 0) q9 (zt_ag T q k) r) la ∧ 10 ≤ zh_N (zD (zh_nO S q9 0) q9 (zt_ag T q k) r) la ∧ zh_N (zD (zh_nO S q9 0) q9 (zt_ag T q k) r) la ≤ 150 := f12.2.2.2.1.elim (fun h => absurd h.1 (show ¬ T.1.2 = 0 by omega)) id
            refine lv_icmp_ge (tgt := 94) hx hb dX3_found_46 (by decide) (fun h9 => absurd h9 (fun h8 => absurd ((nI_leI (a := T.1.2) (b := k) (by omega) (by omega)).mp h8) (by omega))) (fun _ => ?_)
            refine lv_aload_n hx hb dX3_found_49 rfl (lv_at hl 4 rfl) ?_
            refine zg_Forge_log (v := lo) C I f1 zm_69 (f3) dX3_found_50 ?_
            refine lv_iload hx hb dX3_found_53 (lv_at hl 0 rfl) ?_
            refine zc_V (n := 1) (rest := []) C I f12.1 rfl rfl (k_Jx4a65c_get_915e3 l g (zD (zh_nO S q9 0) q9 (zt_ag T q k) r) lo T.1.2 la k (ae k) f12.1 f12.2.1 f12.2.2.1 h3 h4 (by omega) hk (f12.2.2.2.2 _ hk).1) zm_283 zm_284 zm_285 zm_19 zm_286 rfl hl.1 dX3_found_55 (by decide +kernel) rfl ⟨Nat.le_of_ble_eq_true rfl, Nat.le_of_ble_eq_true rfl⟩ (Nat.le_of_ble_eq_true rfl) ⟨Nat.le_of_ble_eq_true rfl, Nat.le_of_ble_eq_true rfl⟩ (fun v S' H locs hq I => ?_)
            obtain ⟨rfl, eS⟩ := hq
            rw [eS] at I
            have h5k := t5 _ hk
            refine zr_cast C I (f12.2.2.2.2 _ hk).2 rfl rfl zm_304 dX3_found_58 ?_
            refine lv_astore (lv' := [(6, .ref (ae k)), (5, .int (nI k)), (4, .int vv), (3, .ref q9), (2, .int (nI q)), (0, .ref x), (1, .int (nI j))]) hx hb dX3_found_61 hl (by decide) rfl (fun ls hl => ?_)
            refine lv_aload hx hb dX3_found_63 (lv_at hl 0 rfl) ?_
            refine zn_Entry_promise (v := nI (T.2 5 k)) (host := "DiceForge") C I (f12.2.2.2.2 _ hk).2 (by decide +kernel) (f16 _ hk 0 (by decide)) dX3_found_65 ?_
            refine lv_iload_n hx hb dX3_found_68 rfl (lv_at hl 4 rfl) ?_
            refine lv_icmp_ne (tgt := 88) hx hb dX3_found_69 (by decide) (fun c69 => ?_) (fun c69 => ?_)
            · have c69 : ¬ (T.2 5 k) = q := fun h9 => c69 ((nI_eq (a := T.2 5 k) (b := q) (by omega) (by omega)).mpr h9)
              refine lv_iinc (v := nI (k + 1)) (lv' := [(5, .int (nI (k + 1))), (6, .ref (ae k)), (4, .int vv), (3, .ref q9), (2, .int (nI q)), (0, .ref x), (1, .int (nI j))]) hx hb dX3_found_88 hl (k := 1) rfl (nI_add k 1) (by decide) rfl (fun ls hl => ?_)
              refine lv_goto (tgt := 31) hx hb dX3_found_91 (by decide) ?_
              have hl := lv_sub (l' := [(5, .int (nI (k + 1))), (4, .int vv), (3, .ref q9), (2, .int (nI q)), (0, .ref x), (1, .int (nI j))]) hl [0, 2, 3, 4, 5, 6] rfl
              have e9 : zt_ag T q (k + 1) = zt_ag T q k := if_neg c69
              rw [← e9] at I
              exact ih (k + 1) r vv ls H locs (by omega) (fun h => absurd (show T.2 5 k = q by rw [show k = j by omega]; exact hq5.symm) c69) I hl
            · have c69 : (T.2 5 k) = q := (nI_eq (a := T.2 5 k) (b := q) (by omega) (by omega)).mp c69
              refine lv_aload_n hx hb dX3_found_72 rfl (lv_at hl 3 rfl) ?_
              refine lv_aload hx hb dX3_found_73 (lv_at hl 0 rfl) ?_
              refine zn_Entry_part (v := nI (T.2 7 k)) (host := "DiceForge") C I (f12.2.2.2.2 _ hk).2 (by decide +kernel) (f16 _ hk 2 (by decide)) dX3_found_75 ?_
              refine lv_aload hx hb dX3_found_78 (lv_at hl 0 rfl) ?_
              refine zn_Entry_faces (v := nI (T.2 8 k)) (host := "DiceForge") C I (f12.2.2.2.2 _ hk).2 (by decide +kernel) (f16 _ hk 3 (by decide)) dX3_found_80 ?_
              have hag := zt_ag_lt (T := T) (fun k => (t3a k).1) q k
              refine zc_VN (host := "DiceForge") (n := 2) (rest := []) C I (show zh_at (zD (zh_nO S q9 0) q9 (zt_ag T q k) r) 0 q9 from zh_at_new) rfl rfl (k_X0_nextValue l g (zD (zh_nO S q9 0) q9 (zt_ag T q k) r) q9 (zt_ag T q k) (T.2 7 k) (T.2 8 k) zh_at_new (zD_0 _ _ _ _) hag (by omega) (by omega) (by omega)) (by decide +kernel) zm_333 zm_5 zm_26 zm_334 rfl hl.1 dX3_found_83 (by decide +kernel) rfl ⟨Nat.le_of_ble_eq_true rfl, Nat.le_of_ble_eq_true rfl⟩ (Nat.le_of_ble_eq_true rfl) ⟨Nat.le_of_ble_eq_true rfl, Nat.le_of_ble_eq_true rfl⟩ (fun v S' H locs hq I => ?_)
              obtain ⟨rfl, eS⟩ := hq
              rw [eS] at I
              rw [zD_zD] at I
              refine lv_istore (lv' := [(4, .int (nI (zt_fd T q k))), (6, .ref (ae k)), (5, .int (nI k)), (3, .ref q9), (2, .int (nI q)), (0, .ref x), (1, .int (nI j))]) hx hb dX3_found_86 hl (by decide) rfl (fun ls hl => ?_)
              refine lv_iinc (v := nI (k + 1)) (lv' := [(5, .int (nI (k + 1))), (4, .int (nI (zt_fd T q k))), (6, .ref (ae k)), (3, .ref q9), (2, .int (nI q)), (0, .ref x), (1, .int (nI j))]) hx hb dX3_found_88 hl (k := 2) rfl (nI_add k 1) (by decide) rfl (fun ls hl => ?_)
              refine lv_goto (tgt := 31) hx hb dX3_found_91 (by decide) ?_
              have hl := lv_sub (l' := [(5, .int (nI (k + 1))), (4, .int (nI (zt_fd T q k))), (3, .ref q9), (2, .int (nI q)), (0, .ref x), (1, .int (nI j))]) hl [0, 1, 3, 4, 5, 6] rfl
              have e9 : zt_ag T q (k + 1) = (zd_roll (zt_ag T q k) (T.2 7 k) (T.2 8 k)).1 := if_pos c69
              rw [← e9] at I
              exact ih (k + 1) ((zd_roll (zt_ag T q k) (T.2 7 k) (T.2 8 k)).2) (nI (zt_fd T q k)) ls H locs (by omega) (fun h => by rw [show k = j by omega]) I hl
        refine lv_astore_n (lv' := [(3, .ref q9), (2, .int (nI q)), (0, .ref x), (1, .int (nI j))]) hx hb dX3_found_24 rfl hl (by decide) rfl (fun ls hl => ?_)
        refine lv_iconst (v := (-1)) hx hb dX3_found_25 (by decide) ?_
        refine lv_istore (lv' := [(4, .int (-1)), (3, .ref q9), (2, .int (nI q)), (0, .ref x), (1, .int (nI j))]) hx hb dX3_found_26 hl (by decide) rfl (fun ls hl => ?_)
        refine lv_iconst (v := 0) hx hb dX3_found_28 (by decide) ?_
        refine lv_istore (lv' := [(5, .int 0), (4, .int (-1)), (3, .ref q9), (2, .int (nI q)), (0, .ref x), (1, .int (nI j))]) hx hb dX3_found_29 hl (by decide) rfl (fun ls hl => ?_)
        exact loop (j + 1) 0 0 (-1) ls _ _ (by omega) (fun h => absurd h (by omega)) I (lv_sub hl [0, 1, 2, 3, 4, 5] rfl)

set_option maxRecDepth 100000 in
set_option maxHeartbeats 4000000 in
theorem k_X3_dispute (l : Launch) (g : zG) (hst : l.stackTraces = false) (S : zS) (T : zT) (x pl lo pt ty pa la : Nat) (ap ad ae : Nat → Nat) (hT : zt_ok T) (hF : FR g S T x pl lo pt ty pa la ap ad ae) (i : Int32) : zX l yX3_dispute cX3_dispute 4 (some .int) (zrm 8 4 20) g [.ref x, .int i] S (fun w S' => zc_disp T i = 0 ∧ w = some (.int (nI (zv_disp T (zx i)))) ∧ FR g S' (zs_disp T i) x pl lo pt ty pa la ap ad ae ∧ zk_ S S') (fun E S' => ((zc_disp T i = 1 ∧ E = zn_IO) ∨ (zc_disp T i = 2 ∧ E = zn_IS)) ∧ S' = S) := by
  refine zX_of (nm := "dispute") (by decide) rfl (Nat.le_of_ble_eq_true rfl) ?_
  intro p e s m args below meth c A ls C hr hlk hxt I hl
  have C : CallFix p m c cX3_dispute 4 s args zc_W RX3 := C
  have hx := C.1
  have hb := C.2.1
  have hl : lv_has ls 4 [(0, .ref x), (1, .int i)] := hl
  have hF0 := hF
  obtain ⟨⟨f1, f2, f3, f4, f5⟩, ⟨f6, f7, f8, f9, f10⟩, f11, f12, f13, f14, f15, f16, f17, f18, f19⟩ := hF
  obtain ⟨t1, t2, t3, t4, t5, t6, t7⟩ := hT
  have hT0 : zt_ok T := ⟨t1, t2, t3, t4, t5, t6, t7⟩
  refine lv_aload_n hx hb dX3_dispute_0 rfl (lv_at hl 0 rfl) ?_
  refine lv_iload_n hx hb dX3_dispute_1 rfl (lv_at hl 1 rfl) ?_
  refine zc_VX (n := 1) (rest := []) C I f1 rfl rfl (k_X3_openedAt l g hst S x pl T.1.1 pa ap (T.2 2) i f1 f2 f11 (by omega) (fun k hk => (f15 k hk).2.2.2.2.1) (fun k => (t3 k).2.2.1)) zm_364 zm_365 zm_10 zm_16 zm_366 rfl hl.1 dX3_dispute_2 (by decide +kernel) rfl ⟨Nat.le_of_ble_eq_true rfl, Nat.le_of_ble_eq_true rfl⟩ (Nat.le_of_ble_eq_true rfl) ⟨Nat.le_of_ble_eq_true rfl, Nat.le_of_ble_eq_true rfl⟩ (fun E ce q9 S' H locs hq I h1 h2 h3 => ?_) (fun v S' H locs hq I => ?_)
  · obtain ⟨hE, eS⟩ := hq
    rw [eS] at I
    exact zr_out I hxt hlk (⟨hE.imp (fun h => ⟨if_pos h.2, h.1⟩) (fun h => ⟨by unfold zc_disp; rw [if_neg h.2.1, if_pos (Or.inl h.2.2)], h.1⟩), rfl⟩) h1 h2 h3 (Nat.le_of_ble_eq_true rfl) (Nat.le_of_ble_eq_true rfl)
  · obtain ⟨⟨hz1, ho⟩, rfl, eS⟩ := hq
    rw [eS] at I
    obtain ⟨hz9, hj, hi⟩ := (zi_cases i (n := T.1.1) (by omega)).elim (fun h => absurd h hz1) id
    have h3j := t3 (zx i)
    have hiq : Value.int i = .int (nI (zx i)) := by rw [← hi]
    refine lv_astore_n (lv' := [(2, .ref (ap (zx i))), (0, .ref x), (1, .int i)]) hx hb dX3_dispute_5 rfl hl (by decide) rfl (fun ls hl => ?_)
    refine lv_aload_n hx hb dX3_dispute_6 rfl (lv_at hl 0 rfl) ?_
    refine zn_Promise_disputed (v := nI (T.2 3 (zx i))) (host := "DiceForge") C I (f11.2.2.2.2 _ hj).2 (by decide +kernel) ((f15 _ hj).2.2.2.2.2) dX3_dispute_7 ?_
    refine lv_if_eq (tgt := 23) hx hb dX3_dispute_10 (by decide) (fun c10 => ?_) (fun c10 => ?_)
    · have c10 : (T.2 3 (zx i)) = 0 := (nI_eq (a := T.2 3 (zx i)) (b := 0) (by omega) (by omega)).mp c10
      refine lv_aload_n hx hb dX3_dispute_23 rfl (lv_at hl 0 rfl) ?_
      refine lv_iconst (v := 1) hx hb dX3_dispute_24 (by decide) ?_
      refine zq_Promise_disputed (host := "DiceForge") C I (f11.2.2.2.2 _ hj).2 (by decide +kernel) (Or.inr rfl) dX3_dispute_25 (fun H locs I => ?_)
      refine lv_aload_n hx hb dX3_dispute_28 rfl (lv_at hl 1 rfl) ?_
      refine lv_iload_n hx hb dX3_dispute_29 rfl (lv_at hl 2 rfl) ?_
      refine lv_aload_n hx hb dX3_dispute_30 rfl (lv_at hl 0 rfl) ?_
      refine zn_Promise_seed (v := nI ((zt_s T 3 (zx i) 1).2 0 (zx i))) (host := "DiceForge") C I (f11.2.2.2.2 _ hj).2 (by decide +kernel) ((zI_j _ _ _ _ (by decide)).trans ((f15 _ hj).2.2.1.trans (by rw [zt_s_j _ _ _ _ (by decide)]))) dX3_dispute_31 ?_
      have hF1 : FR g (zh_sI S 12 (ap (zx i)) 1) (zt_s T 3 (zx i) 1) x pl lo pt ty pa la ap ad ae := FR_flag hF0 (y := 1) hj (Or.inr ⟨rfl, rfl⟩)
      rw [hiq]
      refine zc_V (n := 2) (rest := []) C I f1 rfl rfl (k_X3_firstWrong l g hst (zh_sI S 12 (ap (zx i)) 1) (zt_s T 3 (zx i) 1) x pl lo pt ty pa la ap ad ae (zt_ok3 hT0 hj) hF1 (zx i) hj) zm_371 zm_372 zm_11 zm_16 zm_373 rfl hl.1 dX3_dispute_34 (by decide +kernel) rfl ⟨Nat.le_of_ble_eq_true rfl, Nat.le_of_ble_eq_true rfl⟩ (Nat.le_of_ble_eq_true rfl) ⟨Nat.le_of_ble_eq_true rfl, Nat.le_of_ble_eq_true rfl⟩ (fun v S' H locs hq I => ?_)
      obtain ⟨rfl, hF2, hk2⟩ := hq
      have hw : zv_wrong (zt_s T 3 (zx i) 1) (zx i) = zv_wrong T (zx i) := zt_wrong_3 T (zx i) (zx i) 1 T.1.2 0
      rcases zt_wrong_in T (zx i) T.1.2 0 with h1w | ⟨a, ha1, ha2, ha3⟩
      · have h1v : zv_wrong T (zx i) = -1 := h1w
        refine zr_top (y := (-1)) (hw.trans h1v) ?_
        refine lv_istore_n (lv' := [(3, .int (-1)), (2, .ref (ap (zx i))), (0, .ref x), (1, .int i)]) hx hb dX3_dispute_37 rfl hl (by decide) rfl (fun ls hl => ?_)
        refine lv_iload_n hx hb dX3_dispute_38 rfl (lv_at hl 0 rfl) ?_
        refine lv_iconst (v := (-1)) hx hb dX3_dispute_39 (by decide) ?_
        refine lv_icmp_ne (tgt := 47) hx hb dX3_dispute_40 (by decide) (fun h9 => absurd (rfl) h9) (fun _ => ?_)
        refine lv_iconst (v := 0) hx hb dX3_dispute_43 (by decide) ?_
        refine lv_goto (tgt := 53) hx hb dX3_dispute_44 (by decide) ?_
        have hc : zc_disp T i = 0 := by unfold zc_disp; rw [if_neg hz1, if_neg (fun h => h.elim ho (fun h9 => h9 c10))]
        exact vx_ret (zr_iret C I hr hlk (⟨hc, by unfold zv_disp; rw [if_pos h1v]; rfl, by unfold zs_disp; rw [if_pos hc, if_pos h1v]; exact hF2, hk2⟩) (Nat.le_of_ble_eq_true rfl) (Nat.le_of_ble_eq_true rfl) dX3_dispute_53)
      · have h1v : zv_wrong T (zx i) = nI a := ha3
        refine zr_top (y := nI a) (hw.trans h1v) ?_
        refine lv_istore_n (lv' := [(3, .int (nI a)), (2, .ref (ap (zx i))), (0, .ref x), (1, .int i)]) hx hb dX3_dispute_37 rfl hl (by decide) rfl (fun ls hl => ?_)
        refine lv_iload_n hx hb dX3_dispute_38 rfl (lv_at hl 0 rfl) ?_
        refine lv_iconst (v := (-1)) hx hb dX3_dispute_39 (by decide) ?_
        refine lv_icmp_ne (tgt := 47) hx hb dX3_dispute_40 (by decide) (fun _ => ?_) (fun h9 => absurd h9 (zi_m1 (by omega)))
        refine lv_aload_n hx hb dX3_dispute_47 rfl (lv_at hl 2 rfl) ?_
        refine lv_iload_n hx hb dX3_dispute_48 rfl (lv_at hl 0 rfl) ?_
        refine lv_iload_n hx hb dX3_dispute_49 rfl (lv_at hl 3 rfl) ?_
        rw [hiq]
        refine zc_V (n := 2) (rest := []) C I hF2.1.1 rfl rfl (k_X3_strikeFrom l g hst S' (zt_s T 3 (zx i) 1) x pl lo pt ty pa la ap ad ae (zt_ok3 hT0 hj) hF2 (zx i) a (by omega) (show a < T.1.2 by omega)) zm_378 zm_379 zm_12 zm_16 zm_380 rfl hl.1 dX3_dispute_50 (by decide +kernel) rfl ⟨Nat.le_of_ble_eq_true rfl, Nat.le_of_ble_eq_true rfl⟩ (Nat.le_of_ble_eq_true rfl) ⟨Nat.le_of_ble_eq_true rfl, Nat.le_of_ble_eq_true rfl⟩ (fun v S'' H locs hq3 I => ?_)
        obtain ⟨rfl, hF3, hk3⟩ := hq3
        have hc : zc_disp T i = 0 := by unfold zc_disp; rw [if_neg hz1, if_neg (fun h => h.elim ho (fun h9 => h9 c10))]
        have hne : ¬ zv_wrong T (zx i) = -1 := by rw [h1v]; exact zi_m1 (by omega)
        have e2 : zt_own (zt_s T 3 (zx i) 1) (zx i) a (zt_s T 3 (zx i) 1).1.2 = zv_disp T (zx i) := by
          unfold zv_disp
          rw [if_neg hne, h1v, zx_nI (by omega)]
          exact zt_own_3 T (zx i) a (zx i) 1 T.1.2
        exact vx_ret (zr_iret C I hr hlk (⟨hc, by rw [e2], by unfold zs_disp; rw [if_pos hc, if_neg hne, h1v, zx_nI (by omega)]; exact hF3, zk_tr hk2 hk3⟩) (Nat.le_of_ble_eq_true rfl) (Nat.le_of_ble_eq_true rfl) dX3_dispute_53)
    · have c10 : ¬ (T.2 3 (zx i)) = 0 := fun h9 => c10 ((nI_eq (a := T.2 3 (zx i)) (b := 0) (by omega) (by omega)).mpr h9)
      exact zr_throw (cls := "java/lang/IllegalStateException") (text := "the promise was disputed") (ik := 38) (is := 158) (ic := 42) C I hst hxt hlk rfl zt_fitIS zt_fitn zm_148 zm_24 (by decide +kernel) zt_aIS zt_bIS zt_cIS hl.1 dX3_dispute_13 dX3_dispute_16 dX3_dispute_17 dX3_dispute_19 dX3_dispute_22 (Nat.le_of_ble_eq_true rfl) (Nat.le_of_ble_eq_true rfl) (Nat.le_of_ble_eq_true rfl) (Nat.le_of_ble_eq_true rfl) (⟨Or.inr ⟨by unfold zc_disp; rw [if_neg hz1, if_pos (Or.inr c10)], rfl⟩, rfl⟩) (Nat.le_of_ble_eq_true rfl) (Nat.le_of_ble_eq_true rfl)

