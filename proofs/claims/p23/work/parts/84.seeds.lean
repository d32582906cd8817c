/-! the law's seeds: the forge and the arrays, as one world -/
set_option maxRecDepth 100000 in
set_option maxHeartbeats 4000000 in
theorem k_L_seeds (l : Launch) (g : zG) (hst : l.stackTraces = false) (S M : zS) (T : zT) (x : Nat) (ar : Nat → Nat) (Ct : Nat → Nat → Int32) (hT : zt_ok T) (hF : FE g S T x) (G : LG M ar Ct) (hC : LC Ct T) (hd : zdis S M) (k : Nat) (hk : k < T.1.1) : zM l yL_seeds cL_seeds 5 (some .boolean) (zrm 8 1 6) g [.ref x, .int (nI k), .ref (ar 1)] (zh_U S M) ((fun w U' => w = some (.int 1) ∧ ∃ (S' M' : zS), U' = zh_U S' M' ∧ zdis S' M' ∧ FE g S' T x ∧ LR M' ar T)) := by
  refine zM_of (nm := "seeds") (by decide +kernel) rfl (Nat.le_of_ble_eq_true rfl) ?_
  intro p e s m args below meth c A ls C hr hlk hin I hl
  have C : CallFix p m c cL_seeds 5 s args zc_W RL := C
  have hx := C.1
  have hb := C.2.1
  have hl : lv_has ls 5 [(0, .ref x), (1, .int (nI k)), (2, .ref (ar 1))] := hl
  have I := zh_V.part hd I
  obtain ⟨pl, lo, pt, ty, pa, la, ap, ad, ae, hF9⟩ := id hF
  obtain ⟨⟨n1, n2⟩, ⟨q0, q1⟩, ⟨b2, b3, b4⟩, qp, dk, ek⟩ := id hC
  obtain ⟨t1, t2, t3, t4, t5, t6, t7⟩ := id hT
  have hsd := (t3 k).1
  have hsg := zd_sign_lt (T.2 0 k)
  have hp0 : zc_prom T (nI k) = 0 := if_neg (zi_no hk (by omega))
  have loop : ∀ (n9 n : Nat) (ls : Array Slot) (H : Heap) (locs : List Loc), n + n9 = 10007 → zh_V g A s (zh_w g M) S H locs → lv_has ls 5 [(4, .int (nI n)), (3, .int (nI (zd_sv (zd_sign (T.2 0 k)) n))), (0, .ref x), (1, .int (nI k)), (2, .ref (ar 1))] → W p l e (zrm 8 1 6) s m args below meth c H locs 0 0 (MQ below (zh_Po g A ((fun w U' => w = some (.int 1) ∧ ∃ (S' M' : zS), U' = zh_U S' M' ∧ zdis S' M' ∧ FE g S' T x ∧ LR M' ar T))) args s (zrm 8 1 6).cells (zrm 8 1 6).slots A) (F0 m 5 ls []) := by
    intro n9
    induction n9 with
    | zero =>
      intro n ls H locs hn I hl
      have hsv := zd_sv_le (zd_sign (T.2 0 k)) n
      refine lv_iload hx hb dL_seeds_5 (lv_at hl 0 rfl) ?_
      refine lv_sipush (v := 10007) hx hb dL_seeds_7 (by decide) ?_
      refine lv_icmp_ge (tgt := 55) hx hb dL_seeds_10 (by decide) (fun _ => ?_) (fun h9 => absurd ((nI_leI (a := 10007) (b := n) (by omega) (by omega)).mpr (by omega)) h9)
      refine lv_aload_n hx hb dL_seeds_55 rfl (lv_at hl 2 rfl) ?_
      refine lv_iload_n hx hb dL_seeds_56 rfl (lv_at hl 3 rfl) ?_
      refine zc_VX (n := 1) (rest := []) C I hF9.1.1 rfl rfl (k_X3_seedsOf l g hst S T x pl lo pt ty pa la ap ad ae hT hF9 (nI k)) zm_469 zm_470 zm_471 zm_16 zm_472 rfl hl.1 dL_seeds_57 (by decide +kernel) rfl ⟨Nat.le_of_ble_eq_true rfl, Nat.le_of_ble_eq_true rfl⟩ (Nat.le_of_ble_eq_true rfl) ⟨by show 0 + 1 ≤ 1; omega, by show 0 + 6 ≤ 6; omega⟩ (fun E ce q9 S' H locs hq I h1 h2 h3 => absurd (hq.1.symm.trans hp0) (by decide)) (fun v S' H locs hq I => ?_)
      obtain ⟨-, rfl, eS⟩ := hq
      rw [eS] at I
      refine zr_top (y := nI (zd_seeds (T.2 0 k))) (by rw [zx_nI (by omega)]) ?_
      refine lv_iload_n hx hb dL_seeds_60 rfl (lv_at hl 1 rfl) ?_
      refine zr_top (y := nI (zd_seeds (T.2 0 k))) (congrArg nI (zd_seeds_sv (M := n) (by omega) _)) ?_
      have hsb : zd_seeds (T.2 0 k) < 2 ^ 31 := by rw [← zd_seeds_sv (M := n) (by omega)]; omega
      refine lv_icmp_ne (tgt := 68) hx hb dL_seeds_61 (by decide) (fun h9 => absurd ((nI_eq (a := zd_seeds (T.2 0 k)) (b := zd_seeds (T.2 0 k)) (by omega) (by omega)).mpr (rfl)) h9) (fun _ => ?_)
      refine lv_iconst (v := 1) hx hb dL_seeds_64 (by decide) ?_
      refine lv_goto (tgt := 69) hx hb dL_seeds_65 (by decide) ?_
      have I := zh_V.join I
      exact zr_zret C I hr (zf_b (by decide)).1 hlk (⟨rfl, S, M, rfl, hd, hF, Ct, G, hC⟩) (Nat.le_of_ble_eq_true rfl) (Nat.le_of_ble_eq_true rfl) dL_seeds_69
    | succ n9 ih =>
      intro n ls H locs hn I hl
      have hsv := zd_sv_le (zd_sign (T.2 0 k)) n
      have hsn := zd_sign_lt n
      have hss := zd_sv_s (zd_sign (T.2 0 k)) n
      refine lv_iload hx hb dL_seeds_5 (lv_at hl 0 rfl) ?_
      refine lv_sipush (v := 10007) hx hb dL_seeds_7 (by decide) ?_
      refine lv_icmp_ge (tgt := 55) hx hb dL_seeds_10 (by decide) (fun h9 => absurd h9 (fun h8 => absurd ((nI_leI (a := 10007) (b := n) (by omega) (by omega)).mp h8) (by omega))) (fun _ => ?_)
      refine lv_iload_n hx hb dL_seeds_13 rfl (lv_at hl 1 rfl) ?_
      refine lv_iload hx hb dL_seeds_14 (lv_at hl 0 rfl) ?_
      refine zc_S (n := 1) (rest := [.int (nI (zd_sv (zd_sign (T.2 0 k)) n))]) C I (k_L_sign l g S n (by omega)) zm_426 zm_427 zm_15 zm_428 rfl hl.1 dL_seeds_16 (by decide +kernel) rfl ⟨Nat.le_of_ble_eq_true rfl, Nat.le_of_ble_eq_true rfl⟩ (Nat.le_of_ble_eq_true rfl) ⟨by show 0 + 0 ≤ 1; omega, by show 0 + 0 ≤ 6; omega⟩ (fun v S' H locs hq I => ?_)
      obtain ⟨rfl, eS⟩ := hq
      rw [eS] at I
      refine lv_aload_n hx hb dL_seeds_19 rfl (lv_at hl 4 rfl) ?_
      refine lv_iload_n hx hb dL_seeds_20 rfl (lv_at hl 3 rfl) ?_
      refine zr_iald (v := nI (T.2 0 k)) C I.swap (LG.at G (i := 1) (by decide)) (show vp_in (nI k) _ from LG.inn G (i := 1) (k := k) (by decide) (show k < 12 by omega)) (show zh_A M (ar 1) (nI k).toNatClampNeg = _ from LG.rd G (by decide) (show k < 12 by omega) ((dk k hk).1)) dL_seeds_21 ?_
      refine zc_S (n := 1) (rest := [.int (nI (zd_sign n)), .int (nI (zd_sv (zd_sign (T.2 0 k)) n))]) C I (k_L_sign l g S (T.2 0 k) (by omega)) zm_426 zm_427 zm_15 zm_428 rfl hl.1 dL_seeds_22 (by decide +kernel) rfl ⟨Nat.le_of_ble_eq_true rfl, Nat.le_of_ble_eq_true rfl⟩ (Nat.le_of_ble_eq_true rfl) ⟨by show 0 + 0 + 0 ≤ 1; omega, by show 0 + 0 + 0 ≤ 6; omega⟩ (fun v S' H locs hq I => ?_)
      obtain ⟨rfl, eS⟩ := hq
      rw [eS] at I
      refine lv_icmp_ne (tgt := 46) hx hb dL_seeds_25 (by decide) (fun c25 => ?_) (fun c25 => ?_)
      · have c25 : ¬ (zd_sign n) = (zd_sign (T.2 0 k)) := fun h9 => c25 ((nI_eq (a := zd_sign n) (b := zd_sign (T.2 0 k)) (by omega) (by omega)).mpr h9)
        refine lv_iconst (v := 0) hx hb dL_seeds_46 (by decide) ?_
        refine lv_iadd hx hb dL_seeds_47 ?_
        refine zr_top (y := nI ((zd_sv (zd_sign (T.2 0 k)) n) + 0)) (nI_add (zd_sv (zd_sign (T.2 0 k)) n) 0) ?_
        refine lv_istore_n (lv' := [(3, .int (nI ((zd_sv (zd_sign (T.2 0 k)) n) + 0))), (4, .int (nI n)), (0, .ref x), (1, .int (nI k)), (2, .ref (ar 1))]) hx hb dL_seeds_48 rfl hl (by decide) rfl (fun ls hl => ?_)
        refine lv_iinc (v := nI (n + 1)) (lv' := [(4, .int (nI (n + 1))), (3, .int (nI ((zd_sv (zd_sign (T.2 0 k)) n) + 0))), (0, .ref x), (1, .int (nI k)), (2, .ref (ar 1))]) hx hb dL_seeds_49 hl (k := 1) rfl (nI_add n 1) (by decide) rfl (fun ls hl => ?_)
        refine lv_goto (tgt := 5) hx hb dL_seeds_52 (by decide) ?_
        rw [if_neg c25] at hss
        rw [← hss] at hl
        exact ih (n + 1) ls _ _ (by omega) I (lv_sub hl [0, 1, 2, 3, 4] rfl)
      · have c25 : (zd_sign n) = (zd_sign (T.2 0 k)) := (nI_eq (a := zd_sign n) (b := zd_sign (T.2 0 k)) (by omega) (by omega)).mp c25
        refine lv_iload hx hb dL_seeds_28 (lv_at hl 0 rfl) ?_
        refine lv_sipush (v := 5494) hx hb dL_seeds_30 (by decide) ?_
        refine lv_icmp_ge (tgt := 41) hx hb dL_seeds_33 (by decide) (fun c33 => ?_) (fun c33 => ?_)
        · have c33 : 5494 ≤ n := (nI_leI (a := 5494) (b := n) (by omega) (by omega)).mp c33
          refine lv_bipush (v := 6) hx hb dL_seeds_41 (by decide) ?_
          refine lv_goto (tgt := 47) hx hb dL_seeds_43 (by decide) ?_
          refine lv_iadd hx hb dL_seeds_47 ?_
          refine zr_top (y := nI ((zd_sv (zd_sign (T.2 0 k)) n) + 6)) (nI_add (zd_sv (zd_sign (T.2 0 k)) n) 6) ?_
          refine lv_istore_n (lv' := [(3, .int (nI ((zd_sv (zd_sign (T.2 0 k)) n) + 6))), (4, .int (nI n)), (0, .ref x), (1, .int (nI k)), (2, .ref (ar 1))]) hx hb dL_seeds_48 rfl hl (by decide) rfl (fun ls hl => ?_)
          refine lv_iinc (v := nI (n + 1)) (lv' := [(4, .int (nI (n + 1))), (3, .int (nI ((zd_sv (zd_sign (T.2 0 k)) n) + 6))), (0, .ref x), (1, .int (nI k)), (2, .ref (ar 1))]) hx hb dL_seeds_49 hl (k := 1) rfl (nI_add n 1) (by decide) rfl (fun ls hl => ?_)
          refine lv_goto (tgt := 5) hx hb dL_seeds_52 (by decide) ?_
          rw [if_pos c25, if_neg (show ¬ n < 5494 by omega)] at hss
          rw [← hss] at hl
          exact ih (n + 1) ls _ _ (by omega) I (lv_sub hl [0, 1, 2, 3, 4] rfl)
        · have c33 : ¬ 5494 ≤ n := fun h9 => c33 ((nI_leI (a := 5494) (b := n) (by omega) (by omega)).mpr h9)
          refine lv_bipush (v := 7) hx hb dL_seeds_36 (by decide) ?_
          refine lv_goto (tgt := 47) hx hb dL_seeds_38 (by decide) ?_
          refine lv_iadd hx hb dL_seeds_47 ?_
          refine zr_top (y := nI ((zd_sv (zd_sign (T.2 0 k)) n) + 7)) (nI_add (zd_sv (zd_sign (T.2 0 k)) n) 7) ?_
          refine lv_istore_n (lv' := [(3, .int (nI ((zd_sv (zd_sign (T.2 0 k)) n) + 7))), (4, .int (nI n)), (0, .ref x), (1, .int (nI k)), (2, .ref (ar 1))]) hx hb dL_seeds_48 rfl hl (by decide) rfl (fun ls hl => ?_)
          refine lv_iinc (v := nI (n + 1)) (lv' := [(4, .int (nI (n + 1))), (3, .int (nI ((zd_sv (zd_sign (T.2 0 k)) n) + 7))), (0, .ref x), (1, .int (nI k)), (2, .ref (ar 1))]) hx hb dL_seeds_49 hl (k := 1) rfl (nI_add n 1) (by decide) rfl (fun ls hl => ?_)
          refine lv_goto (tgt := 5) hx hb dL_seeds_52 (by decide) ?_
          rw [if_pos c25, if_pos (show n < 5494 by omega)] at hss
          rw [← hss] at hl
          exact ih (n + 1) ls _ _ (by omega) I (lv_sub hl [0, 1, 2, 3, 4] rfl)
  refine lv_iconst (v := 0) hx hb dL_seeds_0 (by decide) ?_
  refine lv_istore_n (lv' := [(3, .int 0), (0, .ref x), (1, .int (nI k)), (2, .ref (ar 1))]) hx hb dL_seeds_1 rfl hl (by decide) rfl (fun ls hl => ?_)
  refine lv_iconst (v := 0) hx hb dL_seeds_2 (by decide) ?_
  refine lv_istore (lv' := [(4, .int 0), (3, .int 0), (0, .ref x), (1, .int (nI k)), (2, .ref (ar 1))]) hx hb dL_seeds_3 hl (by decide) rfl (fun ls hl => ?_)
  exact loop 10007 0 ls _ _ (Nat.zero_add _) I (lv_sub hl [0, 1, 2, 3, 4] rfl)

