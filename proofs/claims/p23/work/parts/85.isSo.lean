/-! the law's isSo: the forge and the arrays -/
theorem lg_self (v : Int64) : lg_cmp v v = 0 := by
  have h : ¬ v > v := Int64.lt_irrefl
  simp [lg_cmp, h]
theorem zq_total_s (T : zT) (t n : Nat) : zt_total T t (n + 1) = zt_total T t n + (if T.2 6 n = t ∧ T.2 12 n = 0 then T.2 9 n else 0) := rfl
theorem zq_broken_s (T : zT) (n k : Nat) : zt_broken T (n + 1) k = if T.2 11 k ≠ zt_sum T k then nI k else zt_broken T n (k + 1) := rfl
/-- b is the first broken entry among the first k, or -1 -/
def zbk (T : zT) (n k : Nat) (b : Int32) : Prop := (b = -1 ∧ zt_broken T T.1.2 0 = zt_broken T n k) ∨ (∃ j : Nat, j < k ∧ b = nI j ∧ zt_broken T T.1.2 0 = nI j)
def zSC (p : Program) (l : Launch) (s : State) (m : MethodId) (args : Array Value) (meth : Method) (c : Code) (T : zT) : Prop := l.stackTraces = false ∧ CallFix p m c cL_isSo 15 s args zc_W RL ∧ meth.sig.returnType = some .boolean ∧ meth.locks = false ∧ zt_ok T
def zSP (g : zG) (A : Nat → Prop) (s : State) (x : Nat) (ar : Nat → Nat) (T : zT) (H : Heap) (locs : List Loc) (ls : Array Slot) (lv : List (Nat × Value)) : Prop := ∃ (S M : zS) (Ct : Nat → Nat → Int32), FE g S T x ∧ LG M ar Ct ∧ LC Ct T ∧ zh_V g A s (zh_w g M) S H locs ∧ lv_has ls 15 lv
section ZSO
variable {p : Program} {l : Launch} {e : Env} {s : State} {m : MethodId} {args : Array Value} {below : List Frame} {meth : Method} {c : Code} {H : Heap} {locs : List Loc} {cells slots : Nat} {g : zG} {A : Nat → Prop} {x : Nat} {z : Int32} {T : zT} {ar : Nat → Nat} {ls : Array Slot}
set_option maxRecDepth 100000 in
set_option maxHeartbeats 4000000 in
theorem k_isSo_515 (K0 : zSC p l s m args meth c T) (fc vv : Nat) (hf2 : 2 ≤ fc) (hf3 : fc ≤ 1000) (hv1 : 1 ≤ vv) (hv2 : vv ≤ fc) (hcs : cells ≤ 590) (hss : slots ≤ 11900) (I0 : zSP g A s x ar T H locs ls [(12, .int (nI fc)), (10, .int (zt_broken T T.1.2 0)), (11, .int 1), (0, .ref x), (1, .int z), (2, .ref (ar 2)), (3, .ref (ar 3)), (4, .ref (ar 4)), (5, .ref (ar 5)), (6, .ref (ar 6)), (7, .ref (ar 7)), (8, .ref (ar 1)), (9, .ref (ar 0))]) : W p l e (zrm 10 600 12000) s m args below meth c H locs cells slots (MQ below (zh_Po g A (fun w U' => w = some (.int 1) ∧ ∃ (S' M' : zS), U' = zh_U S' M' ∧ zdis S' M' ∧ FE g S' T x ∧ LR M' ar T)) args s (zrm 10 600 12000).cells (zrm 10 600 12000).slots A) (F0 m 515 ls [.int (nI vv)]) := by
  obtain ⟨hst, C, hr, hlk, hT⟩ := id K0
  obtain ⟨S, M, Ct, hF, G, hC, I, hl⟩ := I0
  have hx := C.1
  have hb := C.2.1
  obtain ⟨pl, lo, pt, ty, pa, la, ap, ad, ae, hF9⟩ := id hF
  obtain ⟨⟨n1, n2⟩, ⟨q0, q1⟩, ⟨b2, b3, b4⟩, qp, dk, ek⟩ := id hC
  obtain ⟨t1, t2, t3, t4, t5, t6, t7⟩ := id hT
  have hl : lv_has ls 15 [(12, .int (nI fc)), (10, .int (zt_broken T T.1.2 0)), (11, .int 1), (0, .ref x), (1, .int z), (2, .ref (ar 2)), (3, .ref (ar 3)), (4, .ref (ar 4)), (5, .ref (ar 5)), (6, .ref (ar 6)), (7, .ref (ar 7)), (8, .ref (ar 1)), (9, .ref (ar 0))] := hl
  have hcu : zc_unev (nI fc) = 0 := if_neg (fun h => h.elim (fun h => absurd ((nI_ltI (a := fc) (b := 2) (by omega) (by omega)).mp h) (by omega)) (fun h => absurd ((nI_ltI (a := 1000) (b := fc) (by omega) (by omega)).mp h) (by omega)))
  have hcc : zc_count (nI fc) (nI vv) = 0 := if_neg (fun h => h.elim (fun h => h.elim (fun h => absurd ((nI_ltI (a := fc) (b := 2) (by omega) (by omega)).mp h) (by omega)) (fun h => absurd ((nI_ltI (a := 1000) (b := fc) (by omega) (by omega)).mp h) (by omega))) (fun h => h.elim (fun h => absurd ((nI_ltI (a := vv) (b := 1) (by omega) (by omega)).mp h) (by omega)) (fun h => absurd ((nI_ltI (a := fc) (b := vv) (by omega) (by omega)).mp h) (by omega))))
  refine lv_istore (lv' := [(13, .int (nI vv)), (12, .int (nI fc)), (10, .int (zt_broken T T.1.2 0)), (11, .int 1), (0, .ref x), (1, .int z), (2, .ref (ar 2)), (3, .ref (ar 3)), (4, .ref (ar 4)), (5, .ref (ar 5)), (6, .ref (ar 6)), (7, .ref (ar 7)), (8, .ref (ar 1)), (9, .ref (ar 0))]) hx hb dL_isSo_515 hl (by decide) rfl (fun ls hl => ?_)
  refine lv_iload hx hb dL_isSo_517 (lv_at hl 3 rfl) ?_
  refine lv_if_eq (tgt := 580) hx hb dL_isSo_519 (by decide) (fun h9 => absurd h9 (fun h8 => absurd ((nI_eq (a := 1) (b := 0) (by omega) (by omega)).mp h8) (by decide))) (fun _ => ?_)
  refine lv_aload_n hx hb dL_isSo_522 rfl (lv_at hl 4 rfl) ?_
  refine zc_V (n := 0) (rest := []) C I hF9.1.1 rfl rfl (k_X3_broken l g hst S T x pl lo pt ty pa la ap ad ae hT hF9) zm_440 zm_441 zm_442 zm_16 zm_443 rfl hl.1 dL_isSo_523 (by decide +kernel) rfl ⟨Nat.le_of_ble_eq_true rfl, Nat.le_of_ble_eq_true rfl⟩ (Nat.le_of_ble_eq_true rfl) ⟨by show cells + 0 ≤ 600; omega, by show slots + 0 ≤ 12000; omega⟩ (fun v S' H locs hq I => ?_)
  obtain ⟨rfl, eS⟩ := hq
  rw [eS] at I
  refine lv_iload hx hb dL_isSo_526 (lv_at hl 2 rfl) ?_
  refine lv_icmp_ne (tgt := 580) hx hb dL_isSo_528 (by decide) (fun h9 => absurd (rfl) h9) (fun _ => ?_)
  refine lv_aload_n hx hb dL_isSo_531 rfl (lv_at hl 4 rfl) ?_
  refine lv_iload hx hb dL_isSo_532 (lv_at hl 1 rfl) ?_
  refine zc_VX (n := 1) (rest := []) C I hF9.1.1 rfl rfl (k_X3_uneven l g hst S T x pl lo pt ty pa la ap ad ae hT hF9 (nI fc)) zm_444 zm_445 zm_446 zm_16 zm_447 rfl hl.1 dL_isSo_534 (by decide +kernel) rfl ⟨Nat.le_of_ble_eq_true rfl, Nat.le_of_ble_eq_true rfl⟩ (Nat.le_of_ble_eq_true rfl) ⟨by show cells + 0 + 1 ≤ 600; omega, by show slots + 0 + 6 ≤ 12000; omega⟩ (fun E ce q9 S' H locs hq I h1 h2 h3 => absurd (hq.1.symm.trans hcu) (by decide)) (fun v S' H locs hq I => ?_)
  obtain ⟨-, rfl, hF9, -⟩ := hq
  refine zr_topl (y := zt_unev T fc fc) (by rw [zx_nI (by omega)]) ?_
  refine lv_iload hx hb dL_isSo_537 (lv_at hl 1 rfl) ?_
  refine lv_aload hx hb dL_isSo_539 (lv_at hl 8 rfl) ?_
  refine lv_aload hx hb dL_isSo_541 (lv_at hl 9 rfl) ?_
  refine lv_aload hx hb dL_isSo_543 (lv_at hl 13 rfl) ?_
  refine zc_S (n := 4) (rest := [.long (zt_unev T fc fc)]) C I.swap (k_L_uneven l g M ar Ct G T hT hC fc hf3) zm_456 zm_457 zm_15 zm_458 rfl hl.1 dL_isSo_545 (by decide +kernel) rfl ⟨Nat.le_of_ble_eq_true rfl, Nat.le_of_ble_eq_true rfl⟩ (Nat.le_of_ble_eq_true rfl) ⟨by show cells + 0 + 1 + 0 ≤ 600; omega, by show slots + 0 + 6 + 0 ≤ 12000; omega⟩ (fun v M' H locs hq I => ?_)
  obtain ⟨rfl, eM⟩ := hq
  rw [eM] at I
  have I := I.swap
  refine W.lcmp hx hb dL_isSo_548 ?_
  refine zr_top (y := 0) (lg_self _) ?_
  refine lv_if_ne (tgt := 580) hx hb dL_isSo_549 (by decide) (fun h9 => absurd ((nI_eq (a := 0) (b := 0) (by omega) (by omega)).mpr (rfl)) h9) (fun _ => ?_)
  refine lv_aload_n hx hb dL_isSo_552 rfl (lv_at hl 4 rfl) ?_
  refine lv_iload hx hb dL_isSo_553 (lv_at hl 1 rfl) ?_
  refine lv_iload hx hb dL_isSo_555 (lv_at hl 0 rfl) ?_
  refine zc_VX (n := 2) (rest := []) C I hF9.1.1 rfl rfl (k_X3_count l g hst S' T x pl lo pt ty pa la ap ad ae hT hF9 (nI fc) (nI vv)) zm_459 zm_460 zm_461 zm_16 zm_462 rfl hl.1 dL_isSo_557 (by decide +kernel) rfl ⟨Nat.le_of_ble_eq_true rfl, Nat.le_of_ble_eq_true rfl⟩ (Nat.le_of_ble_eq_true rfl) ⟨by show cells + 0 + 1 + 0 + 2 ≤ 600; omega, by show slots + 0 + 6 + 0 + 12 ≤ 12000; omega⟩ (fun E ce q9 S' H locs hq I h1 h2 h3 => absurd (hq.1.symm.trans hcc) (by decide)) (fun v S' H locs hq I => ?_)
  obtain ⟨-, rfl, eS⟩ := hq
  rw [eS] at I
  refine zr_top (y := nI (zt_cnt T fc vv T.1.2)) (by rw [zx_nI (by omega), zx_nI (by omega)]) ?_
  refine lv_iload hx hb dL_isSo_560 (lv_at hl 1 rfl) ?_
  refine lv_iload hx hb dL_isSo_562 (lv_at hl 0 rfl) ?_
  refine lv_aload hx hb dL_isSo_564 (lv_at hl 8 rfl) ?_
  refine lv_aload hx hb dL_isSo_566 (lv_at hl 9 rfl) ?_
  refine lv_aload hx hb dL_isSo_568 (lv_at hl 13 rfl) ?_
  refine zc_S (n := 5) (rest := [.int (nI (zt_cnt T fc vv T.1.2))]) C I.swap (k_L_count l g M ar Ct G T hT hC fc vv hf3 hv1 (by omega)) zm_463 zm_464 zm_15 zm_465 rfl hl.1 dL_isSo_570 (by decide +kernel) rfl ⟨Nat.le_of_ble_eq_true rfl, Nat.le_of_ble_eq_true rfl⟩ (Nat.le_of_ble_eq_true rfl) ⟨by show cells + 0 + 1 + 0 + 2 + 0 ≤ 600; omega, by show slots + 0 + 6 + 0 + 12 + 0 ≤ 12000; omega⟩ (fun v M' H locs hq I => ?_)
  obtain ⟨rfl, eM⟩ := hq
  rw [eM] at I
  have I := I.swap
  refine lv_icmp_ne (tgt := 580) hx hb dL_isSo_573 (by decide) (fun h9 => absurd (rfl) h9) (fun _ => ?_)
  refine lv_iconst (v := 1) hx hb dL_isSo_576 (by decide) ?_
  refine lv_goto (tgt := 581) hx hb dL_isSo_577 (by decide) ?_
  have hdz := zh_V.dis I
  have I := zh_V.join I
  exact zr_zret C I hr (zf_b (by decide)).1 hlk (⟨rfl, _, _, rfl, hdz, ⟨pl, lo, pt, ty, pa, la, ap, ad, ae, hF9⟩, Ct, G, hC⟩) (by show cells + 0 + 1 + 0 + 2 + 0 ≤ 600; omega) (by show slots + 0 + 6 + 0 + 12 + 0 ≤ 12000; omega) dL_isSo_581

set_option maxRecDepth 100000 in
set_option maxHeartbeats 4000000 in
theorem k_isSo_499 (K0 : zSC p l s m args meth c T) (fc vv : Nat) (hf2 : 2 ≤ fc) (hf3 : fc ≤ 1000) (hv1 : 1 ≤ vv) (hv2 : vv ≤ 1000) (hcs : cells ≤ 590) (hss : slots ≤ 11900) (I0 : zSP g A s x ar T H locs ls [(12, .int (nI fc)), (10, .int (zt_broken T T.1.2 0)), (11, .int 1), (0, .ref x), (1, .int z), (2, .ref (ar 2)), (3, .ref (ar 3)), (4, .ref (ar 4)), (5, .ref (ar 5)), (6, .ref (ar 6)), (7, .ref (ar 7)), (8, .ref (ar 1)), (9, .ref (ar 0))]) : W p l e (zrm 10 600 12000) s m args below meth c H locs cells slots (MQ below (zh_Po g A (fun w U' => w = some (.int 1) ∧ ∃ (S' M' : zS), U' = zh_U S' M' ∧ zdis S' M' ∧ FE g S' T x ∧ LR M' ar T)) args s (zrm 10 600 12000).cells (zrm 10 600 12000).slots A) (F0 m 499 ls [.int (nI vv)]) := by
  obtain ⟨hst, C, hr, hlk, hT⟩ := id K0
  obtain ⟨S, M, Ct, hF, G, hC, I, hl⟩ := I0
  have hx := C.1
  have hb := C.2.1
  obtain ⟨pl, lo, pt, ty, pa, la, ap, ad, ae, hF9⟩ := id hF
  obtain ⟨⟨n1, n2⟩, ⟨q0, q1⟩, ⟨b2, b3, b4⟩, qp, dk, ek⟩ := id hC
  obtain ⟨t1, t2, t3, t4, t5, t6, t7⟩ := id hT
  have hl : lv_has ls 15 [(12, .int (nI fc)), (10, .int (zt_broken T T.1.2 0)), (11, .int 1), (0, .ref x), (1, .int z), (2, .ref (ar 2)), (3, .ref (ar 3)), (4, .ref (ar 4)), (5, .ref (ar 5)), (6, .ref (ar 6)), (7, .ref (ar 7)), (8, .ref (ar 1)), (9, .ref (ar 0))] := hl
  refine lv_istore (lv' := [(13, .int (nI vv)), (12, .int (nI fc)), (10, .int (zt_broken T T.1.2 0)), (11, .int 1), (0, .ref x), (1, .int z), (2, .ref (ar 2)), (3, .ref (ar 3)), (4, .ref (ar 4)), (5, .ref (ar 5)), (6, .ref (ar 6)), (7, .ref (ar 7)), (8, .ref (ar 1)), (9, .ref (ar 0))]) hx hb dL_isSo_499 hl (by decide) rfl (fun ls hl => ?_)
  refine lv_iload hx hb dL_isSo_501 (lv_at hl 0 rfl) ?_
  refine lv_iload hx hb dL_isSo_503 (lv_at hl 1 rfl) ?_
  refine lv_icmp_le (tgt := 513) hx hb dL_isSo_505 (by decide) (fun c505 => ?_) (fun c505 => ?_)
  · have c505 : vv ≤ fc := (nI_leI (a := vv) (b := fc) (by omega) (by omega)).mp c505
    refine lv_iload hx hb dL_isSo_513 (lv_at hl 0 rfl) ?_
    exact k_isSo_515 K0 fc vv hf2 hf3 hv1 (by omega) (by show cells ≤ 590; omega) (by show slots ≤ 11900; omega) ⟨S, M, Ct, hF, G, hC, I, lv_sub hl [1, 2, 3, 4, 5, 6, 7, 8, 9, 10, 11, 12, 13] rfl⟩
  · have c505 : ¬ vv ≤ fc := fun h9 => c505 ((nI_leI (a := vv) (b := fc) (by omega) (by omega)).mpr h9)
    refine lv_iload hx hb dL_isSo_508 (lv_at hl 1 rfl) ?_
    refine lv_goto (tgt := 515) hx hb dL_isSo_510 (by decide) ?_
    exact k_isSo_515 K0 fc fc hf2 hf3 (by omega) (Nat.le_refl _) (by show cells ≤ 590; omega) (by show slots ≤ 11900; omega) ⟨S, M, Ct, hF, G, hC, I, lv_sub hl [1, 2, 3, 4, 5, 6, 7, 8, 9, 10, 11, 12, 13] rfl⟩

set_option maxRecDepth 100000 in
set_option maxHeartbeats 4000000 in
theorem k_isSo_456 (K0 : zSC p l s m args meth c T) (fc : Nat) (hf2 : 2 ≤ fc) (hf3 : fc ≤ 1000) (hcs : cells ≤ 590) (hss : slots ≤ 11900) (I0 : zSP g A s x ar T H locs ls [(10, .int (zt_broken T T.1.2 0)), (11, .int 1), (0, .ref x), (1, .int z), (2, .ref (ar 2)), (3, .ref (ar 3)), (4, .ref (ar 4)), (5, .ref (ar 5)), (6, .ref (ar 6)), (7, .ref (ar 7)), (8, .ref (ar 1)), (9, .ref (ar 0))]) : W p l e (zrm 10 600 12000) s m args below meth c H locs cells slots (MQ below (zh_Po g A (fun w U' => w = some (.int 1) ∧ ∃ (S' M' : zS), U' = zh_U S' M' ∧ zdis S' M' ∧ FE g S' T x ∧ LR M' ar T)) args s (zrm 10 600 12000).cells (zrm 10 600 12000).slots A) (F0 m 456 ls [.int (nI fc)]) := by
  obtain ⟨hst, C, hr, hlk, hT⟩ := id K0
  obtain ⟨S, M, Ct, hF, G, hC, I, hl⟩ := I0
  have hx := C.1
  have hb := C.2.1
  obtain ⟨pl, lo, pt, ty, pa, la, ap, ad, ae, hF9⟩ := id hF
  obtain ⟨⟨n1, n2⟩, ⟨q0, q1⟩, ⟨b2, b3, b4⟩, qp, dk, ek⟩ := id hC
  obtain ⟨t1, t2, t3, t4, t5, t6, t7⟩ := id hT
  have hl : lv_has ls 15 [(10, .int (zt_broken T T.1.2 0)), (11, .int 1), (0, .ref x), (1, .int z), (2, .ref (ar 2)), (3, .ref (ar 3)), (4, .ref (ar 4)), (5, .ref (ar 5)), (6, .ref (ar 6)), (7, .ref (ar 7)), (8, .ref (ar 1)), (9, .ref (ar 0))] := hl
  refine lv_istore (lv' := [(12, .int (nI fc)), (10, .int (zt_broken T T.1.2 0)), (11, .int 1), (0, .ref x), (1, .int z), (2, .ref (ar 2)), (3, .ref (ar 3)), (4, .ref (ar 4)), (5, .ref (ar 5)), (6, .ref (ar 6)), (7, .ref (ar 7)), (8, .ref (ar 1)), (9, .ref (ar 0))]) hx hb dL_isSo_456 hl (by decide) rfl (fun ls hl => ?_)
  refine lv_aload hx hb dL_isSo_458 (lv_at hl 12 rfl) ?_
  refine lv_iconst (v := 1) hx hb dL_isSo_460 (by decide) ?_
  refine zr_iald (v := nI T.1.2) C I.swap (LG.at G (i := 0) (by decide)) (show vp_in (nI 1) _ from LG.inn G (i := 0) (k := 1) (by decide) (by decide)) (show zh_A M (ar 0) (nI 1).toNatClampNeg = _ from LG.rd G (by decide) (by decide) (q1)) dL_isSo_461 ?_
  refine lv_if_eq (tgt := 473) hx hb dL_isSo_462 (by decide) (fun c462 => ?_) (fun c462 => ?_)
  · have c462 : T.1.2 = 0 := (nI_eq (a := T.1.2) (b := 0) (by omega) (by omega)).mp c462
    refine lv_iconst (v := 1) hx hb dL_isSo_473 (by decide) ?_
    refine lv_iload_n hx hb dL_isSo_474 rfl (lv_at hl 4 rfl) ?_
    refine lv_iconst (v := 4) hx hb dL_isSo_475 (by decide) ?_
    refine lv_ishr hx hb dL_isSo_476 ?_
    refine lv_iload hx hb dL_isSo_477 (lv_at hl 0 rfl) ?_
    refine zc_S (n := 2) (rest := [.int 1]) C I (k_L_low l g S (z >>> (4 &&& 31)) fc (by omega) (by omega)) zm_267 zm_268 zm_15 zm_269 rfl hl.1 dL_isSo_479 (by decide +kernel) rfl ⟨Nat.le_of_ble_eq_true rfl, Nat.le_of_ble_eq_true rfl⟩ (Nat.le_of_ble_eq_true rfl) ⟨by show cells + 0 ≤ 600; omega, by show slots + 0 ≤ 12000; omega⟩ (fun v S' H locs hq I => ?_)
    obtain ⟨⟨j, hj, rfl⟩, eS⟩ := hq
    rw [eS] at I
    refine lv_iadd hx hb dL_isSo_482 ?_
    refine zr_top (y := nI (1 + j)) (nI_add 1 j) ?_
    refine lv_goto (tgt := 499) hx hb dL_isSo_483 (by decide) ?_
    exact k_isSo_499 K0 fc (1 + j) hf2 hf3 (by omega) (by omega) (by show cells + 0 ≤ 590; omega) (by show slots + 0 ≤ 11900; omega) ⟨S, M, Ct, hF, G, hC, I, lv_sub hl [0, 1, 2, 3, 4, 5, 6, 7, 8, 9, 10, 11, 12] rfl⟩
  · have c462 : ¬ T.1.2 = 0 := fun h9 => c462 ((nI_eq (a := T.1.2) (b := 0) (by omega) (by omega)).mpr h9)
    refine lv_iload_n hx hb dL_isSo_465 rfl (lv_at hl 4 rfl) ?_
    refine lv_iconst (v := 3) hx hb dL_isSo_466 (by decide) ?_
    refine zc_S (n := 2) (rest := []) C I (k_L_low l g S z 3 (by decide) (by decide)) zm_267 zm_268 zm_15 zm_269 rfl hl.1 dL_isSo_467 (by decide +kernel) rfl ⟨Nat.le_of_ble_eq_true rfl, Nat.le_of_ble_eq_true rfl⟩ (Nat.le_of_ble_eq_true rfl) ⟨by show cells + 0 ≤ 600; omega, by show slots + 0 ≤ 12000; omega⟩ (fun v S' H locs hq I => ?_)
    obtain ⟨⟨j0, hj0, rfl⟩, eS⟩ := hq
    rw [eS] at I
    refine lv_if_ne (tgt := 486) hx hb dL_isSo_470 (by decide) (fun c470 => ?_) (fun c470 => ?_)
    · have c470 : ¬ j0 = 0 := fun h9 => c470 ((nI_eq (a := j0) (b := 0) (by omega) (by omega)).mpr h9)
      refine lv_aload hx hb dL_isSo_486 (lv_at hl 8 rfl) ?_
      refine lv_iload_n hx hb dL_isSo_488 rfl (lv_at hl 4 rfl) ?_
      refine lv_iconst (v := 3) hx hb dL_isSo_489 (by decide) ?_
      refine lv_ishr hx hb dL_isSo_490 ?_
      refine lv_aload hx hb dL_isSo_491 (lv_at hl 12 rfl) ?_
      refine lv_iconst (v := 1) hx hb dL_isSo_493 (by decide) ?_
      refine zr_iald (v := nI T.1.2) C I.swap (LG.at G (i := 0) (by decide)) (show vp_in (nI 1) _ from LG.inn G (i := 0) (k := 1) (by decide) (by decide)) (show zh_A M (ar 0) (nI 1).toNatClampNeg = _ from LG.rd G (by decide) (by decide) (q1)) dL_isSo_494 ?_
      refine zc_S (n := 2) (rest := [.ref (ar 5)]) C I (k_L_low l g S (z >>> (3 &&& 31)) T.1.2 (by omega) (by omega)) zm_267 zm_268 zm_15 zm_269 rfl hl.1 dL_isSo_495 (by decide +kernel) rfl ⟨Nat.le_of_ble_eq_true rfl, Nat.le_of_ble_eq_true rfl⟩ (Nat.le_of_ble_eq_true rfl) ⟨by show cells + 0 + 0 ≤ 600; omega, by show slots + 0 + 0 ≤ 12000; omega⟩ (fun v S' H locs hq I => ?_)
      obtain ⟨⟨j1, hj1, rfl⟩, eS⟩ := hq
      rw [eS] at I
      obtain ⟨v5, v6, v7, v8, v9, v10, v11, v12, v13, v14⟩ := t5 j1 hj1
      refine zr_iald (v := nI (T.2 9 j1)) C I.swap (LG.at G (i := 5) (by decide)) (show vp_in (nI j1) _ from LG.inn G (i := 5) (k := j1) (by decide) (show j1 < 30 by omega)) (show zh_A M (ar 5) (nI j1).toNatClampNeg = _ from LG.rd G (by decide) (show j1 < 30 by omega) ((ek j1 hj1).2.2.2.1)) dL_isSo_498 ?_
      exact k_isSo_499 K0 fc (T.2 9 j1) hf2 hf3 v10 (by omega) (by show cells + 0 + 0 ≤ 590; omega) (by show slots + 0 + 0 ≤ 11900; omega) ⟨S, M, Ct, hF, G, hC, I, lv_sub hl [0, 1, 2, 3, 4, 5, 6, 7, 8, 9, 10, 11, 12] rfl⟩
    · have c470 : j0 = 0 := (nI_eq (a := j0) (b := 0) (by omega) (by omega)).mp c470
      refine lv_iconst (v := 1) hx hb dL_isSo_473 (by decide) ?_
      refine lv_iload_n hx hb dL_isSo_474 rfl (lv_at hl 4 rfl) ?_
      refine lv_iconst (v := 4) hx hb dL_isSo_475 (by decide) ?_
      refine lv_ishr hx hb dL_isSo_476 ?_
      refine lv_iload hx hb dL_isSo_477 (lv_at hl 0 rfl) ?_
      refine zc_S (n := 2) (rest := [.int 1]) C I (k_L_low l g S (z >>> (4 &&& 31)) fc (by omega) (by omega)) zm_267 zm_268 zm_15 zm_269 rfl hl.1 dL_isSo_479 (by decide +kernel) rfl ⟨Nat.le_of_ble_eq_true rfl, Nat.le_of_ble_eq_true rfl⟩ (Nat.le_of_ble_eq_true rfl) ⟨by show cells + 0 + 0 ≤ 600; omega, by show slots + 0 + 0 ≤ 12000; omega⟩ (fun v S' H locs hq I => ?_)
      obtain ⟨⟨j, hj, rfl⟩, eS⟩ := hq
      rw [eS] at I
      refine lv_iadd hx hb dL_isSo_482 ?_
      refine zr_top (y := nI (1 + j)) (nI_add 1 j) ?_
      refine lv_goto (tgt := 499) hx hb dL_isSo_483 (by decide) ?_
      exact k_isSo_499 K0 fc (1 + j) hf2 hf3 (by omega) (by omega) (by show cells + 0 + 0 ≤ 590; omega) (by show slots + 0 + 0 ≤ 11900; omega) ⟨S, M, Ct, hF, G, hC, I, lv_sub hl [0, 1, 2, 3, 4, 5, 6, 7, 8, 9, 10, 11, 12] rfl⟩

set_option maxRecDepth 100000 in
set_option maxHeartbeats 4000000 in
theorem k_isSo_414 (K0 : zSC p l s m args meth c T)  (hcs : cells ≤ 590) (hss : slots ≤ 11900) (I0 : zSP g A s x ar T H locs ls [(10, .int (zt_broken T T.1.2 0)), (11, .int 1), (0, .ref x), (1, .int z), (2, .ref (ar 2)), (3, .ref (ar 3)), (4, .ref (ar 4)), (5, .ref (ar 5)), (6, .ref (ar 6)), (7, .ref (ar 7)), (8, .ref (ar 1)), (9, .ref (ar 0))]) : W p l e (zrm 10 600 12000) s m args below meth c H locs cells slots (MQ below (zh_Po g A (fun w U' => w = some (.int 1) ∧ ∃ (S' M' : zS), U' = zh_U S' M' ∧ zdis S' M' ∧ FE g S' T x ∧ LR M' ar T)) args s (zrm 10 600 12000).cells (zrm 10 600 12000).slots A) (F0 m 414 ls []) := by
  obtain ⟨hst, C, hr, hlk, hT⟩ := id K0
  obtain ⟨S, M, Ct, hF, G, hC, I, hl⟩ := I0
  have hx := C.1
  have hb := C.2.1
  obtain ⟨pl, lo, pt, ty, pa, la, ap, ad, ae, hF9⟩ := id hF
  obtain ⟨⟨n1, n2⟩, ⟨q0, q1⟩, ⟨b2, b3, b4⟩, qp, dk, ek⟩ := id hC
  obtain ⟨t1, t2, t3, t4, t5, t6, t7⟩ := id hT
  have hl : lv_has ls 15 [(10, .int (zt_broken T T.1.2 0)), (11, .int 1), (0, .ref x), (1, .int z), (2, .ref (ar 2)), (3, .ref (ar 3)), (4, .ref (ar 4)), (5, .ref (ar 5)), (6, .ref (ar 6)), (7, .ref (ar 7)), (8, .ref (ar 1)), (9, .ref (ar 0))] := hl
  refine lv_aload hx hb dL_isSo_414 (lv_at hl 11 rfl) ?_
  refine lv_iconst (v := 1) hx hb dL_isSo_416 (by decide) ?_
  refine zr_iald (v := nI T.1.2) C I.swap (LG.at G (i := 0) (by decide)) (show vp_in (nI 1) _ from LG.inn G (i := 0) (k := 1) (by decide) (by decide)) (show zh_A M (ar 0) (nI 1).toNatClampNeg = _ from LG.rd G (by decide) (by decide) (q1)) dL_isSo_417 ?_
  refine lv_if_eq (tgt := 429) hx hb dL_isSo_418 (by decide) (fun c418 => ?_) (fun c418 => ?_)
  · have c418 : T.1.2 = 0 := (nI_eq (a := T.1.2) (b := 0) (by omega) (by omega)).mp c418
    refine lv_iconst (v := 2) hx hb dL_isSo_429 (by decide) ?_
    refine lv_iload_n hx hb dL_isSo_430 rfl (lv_at hl 3 rfl) ?_
    refine lv_iconst (v := 2) hx hb dL_isSo_431 (by decide) ?_
    refine lv_ishr hx hb dL_isSo_432 ?_
    refine lv_sipush (v := 999) hx hb dL_isSo_433 (by decide) ?_
    refine zc_S (n := 2) (rest := [.int 2]) C I (k_L_low l g S (z >>> (2 &&& 31)) 999 (by decide) (by decide)) zm_267 zm_268 zm_15 zm_269 rfl hl.1 dL_isSo_436 (by decide +kernel) rfl ⟨Nat.le_of_ble_eq_true rfl, Nat.le_of_ble_eq_true rfl⟩ (Nat.le_of_ble_eq_true rfl) ⟨by show cells + 0 ≤ 600; omega, by show slots + 0 ≤ 12000; omega⟩ (fun v S' H locs hq I => ?_)
    obtain ⟨⟨j, hj, rfl⟩, eS⟩ := hq
    rw [eS] at I
    refine lv_iadd hx hb dL_isSo_439 ?_
    refine zr_top (y := nI (2 + j)) (nI_add 2 j) ?_
    refine lv_goto (tgt := 456) hx hb dL_isSo_440 (by decide) ?_
    exact k_isSo_456 K0 (2 + j) (by omega) (by omega) (by show cells + 0 ≤ 590; omega) (by show slots + 0 ≤ 11900; omega) ⟨S, M, Ct, hF, G, hC, I, lv_sub hl [0, 1, 2, 3, 4, 5, 6, 7, 8, 9, 10, 11] rfl⟩
  · have c418 : ¬ T.1.2 = 0 := fun h9 => c418 ((nI_eq (a := T.1.2) (b := 0) (by omega) (by omega)).mpr h9)
    refine lv_iload_n hx hb dL_isSo_421 rfl (lv_at hl 3 rfl) ?_
    refine lv_iconst (v := 4) hx hb dL_isSo_422 (by decide) ?_
    refine zc_S (n := 2) (rest := []) C I (k_L_low l g S z 4 (by decide) (by decide)) zm_267 zm_268 zm_15 zm_269 rfl hl.1 dL_isSo_423 (by decide +kernel) rfl ⟨Nat.le_of_ble_eq_true rfl, Nat.le_of_ble_eq_true rfl⟩ (Nat.le_of_ble_eq_true rfl) ⟨by show cells + 0 ≤ 600; omega, by show slots + 0 ≤ 12000; omega⟩ (fun v S' H locs hq I => ?_)
    obtain ⟨⟨j0, hj0, rfl⟩, eS⟩ := hq
    rw [eS] at I
    refine lv_if_ne (tgt := 443) hx hb dL_isSo_426 (by decide) (fun c426 => ?_) (fun c426 => ?_)
    · have c426 : ¬ j0 = 0 := fun h9 => c426 ((nI_eq (a := j0) (b := 0) (by omega) (by omega)).mpr h9)
      refine lv_aload hx hb dL_isSo_443 (lv_at hl 6 rfl) ?_
      refine lv_iload_n hx hb dL_isSo_445 rfl (lv_at hl 3 rfl) ?_
      refine lv_iconst (v := 3) hx hb dL_isSo_446 (by decide) ?_
      refine lv_ishr hx hb dL_isSo_447 ?_
      refine lv_aload hx hb dL_isSo_448 (lv_at hl 11 rfl) ?_
      refine lv_iconst (v := 1) hx hb dL_isSo_450 (by decide) ?_
      refine zr_iald (v := nI T.1.2) C I.swap (LG.at G (i := 0) (by decide)) (show vp_in (nI 1) _ from LG.inn G (i := 0) (k := 1) (by decide) (by decide)) (show zh_A M (ar 0) (nI 1).toNatClampNeg = _ from LG.rd G (by decide) (by decide) (q1)) dL_isSo_451 ?_
      refine zc_S (n := 2) (rest := [.ref (ar 4)]) C I (k_L_low l g S (z >>> (3 &&& 31)) T.1.2 (by omega) (by omega)) zm_267 zm_268 zm_15 zm_269 rfl hl.1 dL_isSo_452 (by decide +kernel) rfl ⟨Nat.le_of_ble_eq_true rfl, Nat.le_of_ble_eq_true rfl⟩ (Nat.le_of_ble_eq_true rfl) ⟨by show cells + 0 + 0 ≤ 600; omega, by show slots + 0 + 0 ≤ 12000; omega⟩ (fun v S' H locs hq I => ?_)
      obtain ⟨⟨j1, hj1, rfl⟩, eS⟩ := hq
      rw [eS] at I
      obtain ⟨v5, v6, v7, v8, v9, v10, v11, v12, v13, v14⟩ := t5 j1 hj1
      refine zr_iald (v := nI (T.2 8 j1)) C I.swap (LG.at G (i := 4) (by decide)) (show vp_in (nI j1) _ from LG.inn G (i := 4) (k := j1) (by decide) (show j1 < 30 by omega)) (show zh_A M (ar 4) (nI j1).toNatClampNeg = _ from LG.rd G (by decide) (show j1 < 30 by omega) ((ek j1 hj1).2.2.1)) dL_isSo_455 ?_
      exact k_isSo_456 K0 (T.2 8 j1) v8 v9 (by show cells + 0 + 0 ≤ 590; omega) (by show slots + 0 + 0 ≤ 11900; omega) ⟨S, M, Ct, hF, G, hC, I, lv_sub hl [0, 1, 2, 3, 4, 5, 6, 7, 8, 9, 10, 11] rfl⟩
    · have c426 : j0 = 0 := (nI_eq (a := j0) (b := 0) (by omega) (by omega)).mp c426
      refine lv_iconst (v := 2) hx hb dL_isSo_429 (by decide) ?_
      refine lv_iload_n hx hb dL_isSo_430 rfl (lv_at hl 3 rfl) ?_
      refine lv_iconst (v := 2) hx hb dL_isSo_431 (by decide) ?_
      refine lv_ishr hx hb dL_isSo_432 ?_
      refine lv_sipush (v := 999) hx hb dL_isSo_433 (by decide) ?_
      refine zc_S (n := 2) (rest := [.int 2]) C I (k_L_low l g S (z >>> (2 &&& 31)) 999 (by decide) (by decide)) zm_267 zm_268 zm_15 zm_269 rfl hl.1 dL_isSo_436 (by decide +kernel) rfl ⟨Nat.le_of_ble_eq_true rfl, Nat.le_of_ble_eq_true rfl⟩ (Nat.le_of_ble_eq_true rfl) ⟨by show cells + 0 + 0 ≤ 600; omega, by show slots + 0 + 0 ≤ 12000; omega⟩ (fun v S' H locs hq I => ?_)
      obtain ⟨⟨j, hj, rfl⟩, eS⟩ := hq
      rw [eS] at I
      refine lv_iadd hx hb dL_isSo_439 ?_
      refine zr_top (y := nI (2 + j)) (nI_add 2 j) ?_
      refine lv_goto (tgt := 456) hx hb dL_isSo_440 (by decide) ?_
      exact k_isSo_456 K0 (2 + j) (by omega) (by omega) (by show cells + 0 + 0 ≤ 590; omega) (by show slots + 0 + 0 ≤ 11900; omega) ⟨S, M, Ct, hF, G, hC, I, lv_sub hl [0, 1, 2, 3, 4, 5, 6, 7, 8, 9, 10, 11] rfl⟩

set_option maxRecDepth 100000 in
set_option maxHeartbeats 4000000 in
theorem k_isSo_321 (K0 : zSC p l s m args meth c T) : ∀ (n9 t cells slots : Nat) (H : Heap) (locs : List Loc) (ls : Array Slot), t + n9 = 4 → cells + n9 ≤ 590 → slots + 6 * n9 ≤ 11900 → zSP g A s x ar T H locs ls [(12, .int (nI t)), (10, .int (zt_broken T T.1.2 0)), (11, .int 1), (0, .ref x), (1, .int z), (2, .ref (ar 2)), (3, .ref (ar 3)), (4, .ref (ar 4)), (5, .ref (ar 5)), (6, .ref (ar 6)), (7, .ref (ar 7)), (8, .ref (ar 1)), (9, .ref (ar 0))] → W p l e (zrm 10 600 12000) s m args below meth c H locs cells slots (MQ below (zh_Po g A (fun w U' => w = some (.int 1) ∧ ∃ (S' M' : zS), U' = zh_U S' M' ∧ zdis S' M' ∧ FE g S' T x ∧ LR M' ar T)) args s (zrm 10 600 12000).cells (zrm 10 600 12000).slots A) (F0 m 321 ls []) := by
  obtain ⟨hst, C, hr, hlk, hT⟩ := id K0
  intro n9
  induction n9 with
  | zero =>
    intro t cells slots H locs ls hn hcs hss I0
    obtain ⟨S, M, Ct, hF, G, hC, I, hl⟩ := I0
    have hx := C.1
    have hb := C.2.1
    obtain ⟨pl, lo, pt, ty, pa, la, ap, ad, ae, hF9⟩ := id hF
    obtain ⟨⟨n1, n2⟩, ⟨q0, q1⟩, ⟨b2, b3, b4⟩, qp, dk, ek⟩ := id hC
    obtain ⟨t1, t2, t3, t4, t5, t6, t7⟩ := id hT
    have hl : lv_has ls 15 [(12, .int (nI t)), (10, .int (zt_broken T T.1.2 0)), (11, .int 1), (0, .ref x), (1, .int z), (2, .ref (ar 2)), (3, .ref (ar 3)), (4, .ref (ar 4)), (5, .ref (ar 5)), (6, .ref (ar 6)), (7, .ref (ar 7)), (8, .ref (ar 1)), (9, .ref (ar 0))] := hl
    refine lv_iload hx hb dL_isSo_321 (lv_at hl 0 rfl) ?_
    refine lv_iconst (v := 4) hx hb dL_isSo_323 (by decide) ?_
    refine lv_icmp_ge (tgt := 414) hx hb dL_isSo_324 (by decide) (fun _ => ?_) (fun h9 => absurd ((nI_leI (a := 4) (b := t) (by omega) (by omega)).mpr (by omega)) h9)
    exact k_isSo_414 K0 (by show cells ≤ 590; omega) (by show slots ≤ 11900; omega) ⟨S, M, Ct, hF, G, hC, I, lv_sub hl [1, 2, 3, 4, 5, 6, 7, 8, 9, 10, 11, 12] rfl⟩
  | succ n9 ih =>
    intro t cells slots H locs ls hn hcs hss I0
    obtain ⟨S, M, Ct, hF, G, hC, I, hl⟩ := I0
    have hx := C.1
    have hb := C.2.1
    obtain ⟨pl, lo, pt, ty, pa, la, ap, ad, ae, hF9⟩ := id hF
    obtain ⟨⟨n1, n2⟩, ⟨q0, q1⟩, ⟨b2, b3, b4⟩, qp, dk, ek⟩ := id hC
    obtain ⟨t1, t2, t3, t4, t5, t6, t7⟩ := id hT
    have hl : lv_has ls 15 [(12, .int (nI t)), (10, .int (zt_broken T T.1.2 0)), (11, .int 1), (0, .ref x), (1, .int z), (2, .ref (ar 2)), (3, .ref (ar 3)), (4, .ref (ar 4)), (5, .ref (ar 5)), (6, .ref (ar 6)), (7, .ref (ar 7)), (8, .ref (ar 1)), (9, .ref (ar 0))] := hl
    refine lv_iload hx hb dL_isSo_321 (lv_at hl 0 rfl) ?_
    refine lv_iconst (v := 4) hx hb dL_isSo_323 (by decide) ?_
    refine lv_icmp_ge (tgt := 414) hx hb dL_isSo_324 (by decide) (fun h9 => absurd h9 (fun h8 => absurd ((nI_leI (a := 4) (b := t) (by omega) (by omega)).mp h8) (by omega))) (fun _ => ?_)
    refine lv_iload hx hb dL_isSo_327 (lv_at hl 2 rfl) ?_
    refine lv_if_eq (tgt := 414) hx hb dL_isSo_329 (by decide) (fun h9 => absurd h9 (fun h8 => absurd ((nI_eq (a := 1) (b := 0) (by omega) (by omega)).mp h8) (by decide))) (fun _ => ?_)
    refine lv_iconst (v := 0) hx hb dL_isSo_332 (by decide) ?_
    refine lv_istore (lv' := [(13, .int 0), (12, .int (nI t)), (10, .int (zt_broken T T.1.2 0)), (11, .int 1), (0, .ref x), (1, .int z), (2, .ref (ar 2)), (3, .ref (ar 3)), (4, .ref (ar 4)), (5, .ref (ar 5)), (6, .ref (ar 6)), (7, .ref (ar 7)), (8, .ref (ar 1)), (9, .ref (ar 0))]) hx hb dL_isSo_333 hl (by decide) rfl (fun ls hl => ?_)
    refine lv_iconst (v := 0) hx hb dL_isSo_335 (by decide) ?_
    refine lv_istore (lv' := [(14, .int 0), (13, .int 0), (12, .int (nI t)), (10, .int (zt_broken T T.1.2 0)), (11, .int 1), (0, .ref x), (1, .int z), (2, .ref (ar 2)), (3, .ref (ar 3)), (4, .ref (ar 4)), (5, .ref (ar 5)), (6, .ref (ar 6)), (7, .ref (ar 7)), (8, .ref (ar 1)), (9, .ref (ar 0))]) hx hb dL_isSo_336 hl (by decide) rfl (fun ls hl => ?_)
    have hct : zc_tab (nI t) = 0 := if_neg (zi_no (by omega) (by decide))
    have inner : ∀ (m9 j : Nat) (ls : Array Slot) (H : Heap) (locs : List Loc), j + m9 = T.1.2 → zh_V g A s (zh_w g M) S H locs → lv_has ls 15 [(14, .int (nI j)), (13, .int (nI (zt_total T t j))), (12, .int (nI t)), (10, .int (zt_broken T T.1.2 0)), (11, .int 1), (0, .ref x), (1, .int z), (2, .ref (ar 2)), (3, .ref (ar 3)), (4, .ref (ar 4)), (5, .ref (ar 5)), (6, .ref (ar 6)), (7, .ref (ar 7)), (8, .ref (ar 1)), (9, .ref (ar 0))] → W p l e (zrm 10 600 12000) s m args below meth c H locs cells slots (MQ below (zh_Po g A (fun w U' => w = some (.int 1) ∧ ∃ (S' M' : zS), U' = zh_U S' M' ∧ zdis S' M' ∧ FE g S' T x ∧ LR M' ar T)) args s (zrm 10 600 12000).cells (zrm 10 600 12000).slots A) (F0 m 338 ls []) := by
      intro m9
      induction m9 with
      | zero =>
        intro j ls H locs hj I hl
        refine lv_iload hx hb dL_isSo_338 (lv_at hl 0 rfl) ?_
        refine lv_aload hx hb dL_isSo_340 (lv_at hl 14 rfl) ?_
        refine lv_iconst (v := 1) hx hb dL_isSo_342 (by decide) ?_
        refine zr_iald (v := nI T.1.2) C I.swap (LG.at G (i := 0) (by decide)) (show vp_in (nI 1) _ from LG.inn G (i := 0) (k := 1) (by decide) (by decide)) (show zh_A M (ar 0) (nI 1).toNatClampNeg = _ from LG.rd G (by decide) (by decide) (q1)) dL_isSo_343 ?_
        refine lv_icmp_ge (tgt := 390) hx hb dL_isSo_344 (by decide) (fun _ => ?_) (fun h9 => absurd ((nI_leI (a := T.1.2) (b := j) (by omega) (by omega)).mpr (by omega)) h9)
        refine lv_aload_n hx hb dL_isSo_390 rfl (lv_at hl 5 rfl) ?_
        refine lv_iload hx hb dL_isSo_391 (lv_at hl 2 rfl) ?_
        refine zc_VX (n := 1) (rest := []) C I hF9.1.1 rfl rfl (k_X3_total l g hst S T x pl lo pt ty pa la ap ad ae hT hF9 (nI t)) zm_436 zm_437 zm_438 zm_16 zm_439 rfl hl.1 dL_isSo_393 (by decide +kernel) rfl ⟨Nat.le_of_ble_eq_true rfl, Nat.le_of_ble_eq_true rfl⟩ (Nat.le_of_ble_eq_true rfl) ⟨by show cells + 1 ≤ 600; omega, by show slots + 6 ≤ 12000; omega⟩ (fun E ce q9 S' H locs hq I h1 h2 h3 => absurd (hq.1.symm.trans hct) (by decide)) (fun v S' H locs hq I => ?_)
        obtain ⟨-, rfl, eS⟩ := hq
        rw [eS] at I
        refine zr_top (y := nI (zt_total T t j)) (by rw [zx_nI (by omega), show T.1.2 = j by omega]) ?_
        refine lv_iload hx hb dL_isSo_396 (lv_at hl 1 rfl) ?_
        refine lv_icmp_ne (tgt := 405) hx hb dL_isSo_398 (by decide) (fun h9 => absurd (rfl) h9) (fun _ => ?_)
        refine lv_iconst (v := 1) hx hb dL_isSo_401 (by decide) ?_
        refine lv_goto (tgt := 406) hx hb dL_isSo_402 (by decide) ?_
        refine lv_istore (lv' := [(11, .int 1), (14, .int (nI j)), (13, .int (nI (zt_total T t j))), (12, .int (nI t)), (10, .int (zt_broken T T.1.2 0)), (0, .ref x), (1, .int z), (2, .ref (ar 2)), (3, .ref (ar 3)), (4, .ref (ar 4)), (5, .ref (ar 5)), (6, .ref (ar 6)), (7, .ref (ar 7)), (8, .ref (ar 1)), (9, .ref (ar 0))]) hx hb dL_isSo_406 hl (by decide) rfl (fun ls hl => ?_)
        refine lv_iinc (v := nI (t + 1)) (lv' := [(12, .int (nI (t + 1))), (11, .int 1), (14, .int (nI j)), (13, .int (nI (zt_total T t j))), (10, .int (zt_broken T T.1.2 0)), (0, .ref x), (1, .int z), (2, .ref (ar 2)), (3, .ref (ar 3)), (4, .ref (ar 4)), (5, .ref (ar 5)), (6, .ref (ar 6)), (7, .ref (ar 7)), (8, .ref (ar 1)), (9, .ref (ar 0))]) hx hb dL_isSo_408 hl (k := 3) rfl (nI_add t 1) (by decide) rfl (fun ls hl => ?_)
        refine lv_goto (tgt := 321) hx hb dL_isSo_411 (by decide) ?_
        exact ih (t + 1) _ _ _ _ ls (by omega) (by show cells + 1 + n9 ≤ 590; omega) (by show slots + 6 + 6 * n9 ≤ 11900; omega) ⟨S, M, Ct, hF, G, hC, I, lv_sub hl [0, 4, 1, 5, 6, 7, 8, 9, 10, 11, 12, 13, 14] rfl⟩
      | succ m9 ih2 =>
        intro j ls H locs hj I hl
        obtain ⟨v5, v6, v7, v8, v9, v10, v11, v12, v13, v14⟩ := t5 j (by omega)
        obtain ⟨w2, w3, w4, w5, -⟩ := ek j (by omega)
        have hts := zq_total_s T t j
        refine lv_iload hx hb dL_isSo_338 (lv_at hl 0 rfl) ?_
        refine lv_aload hx hb dL_isSo_340 (lv_at hl 14 rfl) ?_
        refine lv_iconst (v := 1) hx hb dL_isSo_342 (by decide) ?_
        refine zr_iald (v := nI T.1.2) C I.swap (LG.at G (i := 0) (by decide)) (show vp_in (nI 1) _ from LG.inn G (i := 0) (k := 1) (by decide) (by decide)) (show zh_A M (ar 0) (nI 1).toNatClampNeg = _ from LG.rd G (by decide) (by decide) (q1)) dL_isSo_343 ?_
        refine lv_icmp_ge (tgt := 390) hx hb dL_isSo_344 (by decide) (fun h9 => absurd h9 (fun h8 => absurd ((nI_leI (a := T.1.2) (b := j) (by omega) (by omega)).mp h8) (by omega))) (fun _ => ?_)
        refine lv_iload hx hb dL_isSo_347 (lv_at hl 1 rfl) ?_
        refine lv_aload_n hx hb dL_isSo_349 rfl (lv_at hl 7 rfl) ?_
        refine lv_iload hx hb dL_isSo_350 (lv_at hl 0 rfl) ?_
        refine zr_iald (v := nI (4 * T.2 5 j + T.2 6 j)) C I.swap (LG.at G (i := 2) (by decide)) (show vp_in (nI j) _ from LG.inn G (i := 2) (k := j) (by decide) (show j < 30 by omega)) (show zh_A M (ar 2) (nI j).toNatClampNeg = _ from LG.rd G (by decide) (show j < 30 by omega) (w2)) dL_isSo_352 ?_
        refine lv_iconst (v := 4) hx hb dL_isSo_353 (by decide) ?_
        refine lv_irem hx hb dL_isSo_354 (by decide) ?_
        refine zr_top (y := nI (T.2 6 j)) ((pk_rem (a := 4 * T.2 5 j + T.2 6 j) (d := 4) (by omega) (by decide) (by decide)).trans (congrArg nI (by omega))) ?_
        refine lv_iload hx hb dL_isSo_355 (lv_at hl 2 rfl) ?_
        refine lv_icmp_ne (tgt := 380) hx hb dL_isSo_357 (by decide) (fun c357 => ?_) (fun c357 => ?_)
        · have c357 : ¬ (T.2 6 j) = t := fun h9 => c357 ((nI_eq (a := T.2 6 j) (b := t) (by omega) (by omega)).mpr h9)
          refine lv_iconst (v := 0) hx hb dL_isSo_380 (by decide) ?_
          refine lv_iadd hx hb dL_isSo_381 ?_
          refine zr_top (y := nI ((zt_total T t j) + 0)) (nI_add (zt_total T t j) 0) ?_
          refine lv_istore (lv' := [(13, .int (nI ((zt_total T t j) + 0))), (14, .int (nI j)), (12, .int (nI t)), (10, .int (zt_broken T T.1.2 0)), (11, .int 1), (0, .ref x), (1, .int z), (2, .ref (ar 2)), (3, .ref (ar 3)), (4, .ref (ar 4)), (5, .ref (ar 5)), (6, .ref (ar 6)), (7, .ref (ar 7)), (8, .ref (ar 1)), (9, .ref (ar 0))]) hx hb dL_isSo_382 hl (by decide) rfl (fun ls hl => ?_)
          refine lv_iinc (v := nI (j + 1)) (lv' := [(14, .int (nI (j + 1))), (13, .int (nI ((zt_total T t j) + 0))), (12, .int (nI t)), (10, .int (zt_broken T T.1.2 0)), (11, .int 1), (0, .ref x), (1, .int z), (2, .ref (ar 2)), (3, .ref (ar 3)), (4, .ref (ar 4)), (5, .ref (ar 5)), (6, .ref (ar 6)), (7, .ref (ar 7)), (8, .ref (ar 1)), (9, .ref (ar 0))]) hx hb dL_isSo_384 hl (k := 1) rfl (nI_add j 1) (by decide) rfl (fun ls hl => ?_)
          refine lv_goto (tgt := 338) hx hb dL_isSo_387 (by decide) ?_
          rw [if_neg (fun h => c357 h.1)] at hts
          rw [← hts] at hl
          exact ih2 (j + 1) ls _ _ (by omega) I (lv_sub hl [0, 1, 2, 3, 4, 5, 6, 7, 8, 9, 10, 11, 12, 13, 14] rfl)
        · have c357 : (T.2 6 j) = t := (nI_eq (a := T.2 6 j) (b := t) (by omega) (by omega)).mp c357
          refine lv_aload hx hb dL_isSo_360 (lv_at hl 14 rfl) ?_
          refine lv_iconst (v := 4) hx hb dL_isSo_362 (by decide) ?_
          refine zr_iald (v := (Ct 0 4)) C I.swap (LG.at G (i := 0) (by decide)) (show vp_in (nI 4) _ from LG.inn G (i := 0) (k := 4) (by decide) (by decide)) (show zh_A M (ar 0) (nI 4).toNatClampNeg = _ from LG.rd G (by decide) (by decide) (rfl)) dL_isSo_363 ?_
          refine lv_iload hx hb dL_isSo_364 (lv_at hl 0 rfl) ?_
          refine lv_ishr hx hb dL_isSo_366 ?_
          refine lv_iconst (v := 1) hx hb dL_isSo_367 (by decide) ?_
          refine lv_iand hx hb dL_isSo_368 ?_
          refine zr_top (y := nI (T.2 12 j)) (zbt_rd b4 (by omega)) ?_
          refine lv_if_ne (tgt := 380) hx hb dL_isSo_369 (by decide) (fun c369 => ?_) (fun c369 => ?_)
          · have c369 : ¬ (T.2 12 j) = 0 := fun h9 => c369 ((nI_eq (a := T.2 12 j) (b := 0) (by omega) (by omega)).mpr h9)
            refine lv_iconst (v := 0) hx hb dL_isSo_380 (by decide) ?_
            refine lv_iadd hx hb dL_isSo_381 ?_
            refine zr_top (y := nI ((zt_total T t j) + 0)) (nI_add (zt_total T t j) 0) ?_
            refine lv_istore (lv' := [(13, .int (nI ((zt_total T t j) + 0))), (14, .int (nI j)), (12, .int (nI t)), (10, .int (zt_broken T T.1.2 0)), (11, .int 1), (0, .ref x), (1, .int z), (2, .ref (ar 2)), (3, .ref (ar 3)), (4, .ref (ar 4)), (5, .ref (ar 5)), (6, .ref (ar 6)), (7, .ref (ar 7)), (8, .ref (ar 1)), (9, .ref (ar 0))]) hx hb dL_isSo_382 hl (by decide) rfl (fun ls hl => ?_)
            refine lv_iinc (v := nI (j + 1)) (lv' := [(14, .int (nI (j + 1))), (13, .int (nI ((zt_total T t j) + 0))), (12, .int (nI t)), (10, .int (zt_broken T T.1.2 0)), (11, .int 1), (0, .ref x), (1, .int z), (2, .ref (ar 2)), (3, .ref (ar 3)), (4, .ref (ar 4)), (5, .ref (ar 5)), (6, .ref (ar 6)), (7, .ref (ar 7)), (8, .ref (ar 1)), (9, .ref (ar 0))]) hx hb dL_isSo_384 hl (k := 1) rfl (nI_add j 1) (by decide) rfl (fun ls hl => ?_)
            refine lv_goto (tgt := 338) hx hb dL_isSo_387 (by decide) ?_
            rw [if_neg (fun h => c369 h.2)] at hts
            rw [← hts] at hl
            exact ih2 (j + 1) ls _ _ (by omega) I (lv_sub hl [0, 1, 2, 3, 4, 5, 6, 7, 8, 9, 10, 11, 12, 13, 14] rfl)
          · have c369 : (T.2 12 j) = 0 := (nI_eq (a := T.2 12 j) (b := 0) (by omega) (by omega)).mp c369
            refine lv_aload hx hb dL_isSo_372 (lv_at hl 10 rfl) ?_
            refine lv_iload hx hb dL_isSo_374 (lv_at hl 0 rfl) ?_
            refine zr_iald (v := nI (T.2 9 j)) C I.swap (LG.at G (i := 5) (by decide)) (show vp_in (nI j) _ from LG.inn G (i := 5) (k := j) (by decide) (show j < 30 by omega)) (show zh_A M (ar 5) (nI j).toNatClampNeg = _ from LG.rd G (by decide) (show j < 30 by omega) (w5)) dL_isSo_376 ?_
            refine lv_goto (tgt := 381) hx hb dL_isSo_377 (by decide) ?_
            refine lv_iadd hx hb dL_isSo_381 ?_
            refine zr_top (y := nI ((zt_total T t j) + (T.2 9 j))) (nI_add (zt_total T t j) (T.2 9 j)) ?_
            refine lv_istore (lv' := [(13, .int (nI ((zt_total T t j) + (T.2 9 j)))), (14, .int (nI j)), (12, .int (nI t)), (10, .int (zt_broken T T.1.2 0)), (11, .int 1), (0, .ref x), (1, .int z), (2, .ref (ar 2)), (3, .ref (ar 3)), (4, .ref (ar 4)), (5, .ref (ar 5)), (6, .ref (ar 6)), (7, .ref (ar 7)), (8, .ref (ar 1)), (9, .ref (ar 0))]) hx hb dL_isSo_382 hl (by decide) rfl (fun ls hl => ?_)
            refine lv_iinc (v := nI (j + 1)) (lv' := [(14, .int (nI (j + 1))), (13, .int (nI ((zt_total T t j) + (T.2 9 j)))), (12, .int (nI t)), (10, .int (zt_broken T T.1.2 0)), (11, .int 1), (0, .ref x), (1, .int z), (2, .ref (ar 2)), (3, .ref (ar 3)), (4, .ref (ar 4)), (5, .ref (ar 5)), (6, .ref (ar 6)), (7, .ref (ar 7)), (8, .ref (ar 1)), (9, .ref (ar 0))]) hx hb dL_isSo_384 hl (k := 1) rfl (nI_add j 1) (by decide) rfl (fun ls hl => ?_)
            refine lv_goto (tgt := 338) hx hb dL_isSo_387 (by decide) ?_
            rw [if_pos ⟨c357, by omega⟩] at hts
            rw [← hts] at hl
            exact ih2 (j + 1) ls _ _ (by omega) I (lv_sub hl [0, 1, 2, 3, 4, 5, 6, 7, 8, 9, 10, 11, 12, 13, 14] rfl)
    exact inner T.1.2 0 ls _ _ (Nat.zero_add _) I (lv_sub hl [0, 1, 2, 3, 4, 5, 6, 7, 8, 9, 10, 11, 12, 13, 14] rfl)

set_option maxRecDepth 100000 in
set_option maxHeartbeats 4000000 in
theorem k_isSo_206 (K0 : zSC p l s m args meth c T) : ∀ (n9 k cells slots : Nat) (H : Heap) (locs : List Loc) (ls : Array Slot), k + n9 = T.1.1 → cells + 12 * n9 ≤ 580 → slots + 312 * n9 ≤ 11800 → zSP g A s x ar T H locs ls [(12, .int (nI k)), (10, .int (zt_broken T T.1.2 0)), (11, .int 1), (0, .ref x), (1, .int z), (2, .ref (ar 2)), (3, .ref (ar 3)), (4, .ref (ar 4)), (5, .ref (ar 5)), (6, .ref (ar 6)), (7, .ref (ar 7)), (8, .ref (ar 1)), (9, .ref (ar 0))] → W p l e (zrm 10 600 12000) s m args below meth c H locs cells slots (MQ below (zh_Po g A (fun w U' => w = some (.int 1) ∧ ∃ (S' M' : zS), U' = zh_U S' M' ∧ zdis S' M' ∧ FE g S' T x ∧ LR M' ar T)) args s (zrm 10 600 12000).cells (zrm 10 600 12000).slots A) (F0 m 206 ls []) := by
  obtain ⟨hst, C, hr, hlk, hT⟩ := id K0
  intro n9
  induction n9 with
  | zero =>
    intro k cells slots H locs ls hn hcs hss I0
    obtain ⟨S, M, Ct, hF, G, hC, I, hl⟩ := I0
    have hx := C.1
    have hb := C.2.1
    obtain ⟨pl, lo, pt, ty, pa, la, ap, ad, ae, hF9⟩ := id hF
    obtain ⟨⟨n1, n2⟩, ⟨q0, q1⟩, ⟨b2, b3, b4⟩, qp, dk, ek⟩ := id hC
    obtain ⟨t1, t2, t3, t4, t5, t6, t7⟩ := id hT
    have hl : lv_has ls 15 [(12, .int (nI k)), (10, .int (zt_broken T T.1.2 0)), (11, .int 1), (0, .ref x), (1, .int z), (2, .ref (ar 2)), (3, .ref (ar 3)), (4, .ref (ar 4)), (5, .ref (ar 5)), (6, .ref (ar 6)), (7, .ref (ar 7)), (8, .ref (ar 1)), (9, .ref (ar 0))] := hl
    refine lv_iload hx hb dL_isSo_206 (lv_at hl 0 rfl) ?_
    refine lv_aload hx hb dL_isSo_208 (lv_at hl 12 rfl) ?_
    refine lv_iconst (v := 0) hx hb dL_isSo_210 (by decide) ?_
    refine zr_iald (v := nI T.1.1) C I.swap (LG.at G (i := 0) (by decide)) (show vp_in (nI 0) _ from LG.inn G (i := 0) (k := 0) (by decide) (by decide)) (show zh_A M (ar 0) (nI 0).toNatClampNeg = _ from LG.rd G (by decide) (by decide) (q0)) dL_isSo_211 ?_
    refine lv_icmp_ge (tgt := 318) hx hb dL_isSo_212 (by decide) (fun _ => ?_) (fun h9 => absurd ((nI_leI (a := T.1.1) (b := k) (by omega) (by omega)).mpr (by omega)) h9)
    refine lv_iconst (v := 0) hx hb dL_isSo_318 (by decide) ?_
    refine lv_istore (lv' := [(12, .int 0), (10, .int (zt_broken T T.1.2 0)), (11, .int 1), (0, .ref x), (1, .int z), (2, .ref (ar 2)), (3, .ref (ar 3)), (4, .ref (ar 4)), (5, .ref (ar 5)), (6, .ref (ar 6)), (7, .ref (ar 7)), (8, .ref (ar 1)), (9, .ref (ar 0))]) hx hb dL_isSo_319 hl (by decide) rfl (fun ls hl => ?_)
    exact k_isSo_321 K0 4 0 _ _ _ _ ls rfl (by show cells + 4 ≤ 590; omega) (by show slots + 24 ≤ 11900; omega) ⟨S, M, Ct, hF, G, hC, I, lv_sub hl [0, 1, 2, 3, 4, 5, 6, 7, 8, 9, 10, 11, 12] rfl⟩
  | succ n9 ih =>
    intro k cells slots H locs ls hn hcs hss I0
    obtain ⟨S, M, Ct, hF, G, hC, I, hl⟩ := I0
    have hx := C.1
    have hb := C.2.1
    obtain ⟨pl, lo, pt, ty, pa, la, ap, ad, ae, hF9⟩ := id hF
    obtain ⟨⟨n1, n2⟩, ⟨q0, q1⟩, ⟨b2, b3, b4⟩, qp, dk, ek⟩ := id hC
    obtain ⟨t1, t2, t3, t4, t5, t6, t7⟩ := id hT
    have hl : lv_has ls 15 [(12, .int (nI k)), (10, .int (zt_broken T T.1.2 0)), (11, .int 1), (0, .ref x), (1, .int z), (2, .ref (ar 2)), (3, .ref (ar 3)), (4, .ref (ar 4)), (5, .ref (ar 5)), (6, .ref (ar 6)), (7, .ref (ar 7)), (8, .ref (ar 1)), (9, .ref (ar 0))] := hl
    obtain ⟨p1, p2, p3, p4⟩ := t3 k
    have hsg := zd_sign_lt (T.2 0 k)
    have hzp : ¬ zi T.1.1 (nI k) := zi_no (by omega) (by omega)
    have hkz : zx (nI k) = k := zx_nI (by omega)
    have hp0 : zc_prom T (nI k) = 0 := if_neg hzp
    rcases (show T.2 2 k = 0 ∨ T.2 2 k = 1 by omega) with ho | ho
    · have hcw : zc_wrong T (nI k) = 2 := by unfold zc_wrong; rw [if_neg hzp, hkz, if_pos ho]
      refine lv_iload hx hb dL_isSo_206 (lv_at hl 0 rfl) ?_
      refine lv_aload hx hb dL_isSo_208 (lv_at hl 12 rfl) ?_
      refine lv_iconst (v := 0) hx hb dL_isSo_210 (by decide) ?_
      refine zr_iald (v := nI T.1.1) C I.swap (LG.at G (i := 0) (by decide)) (show vp_in (nI 0) _ from LG.inn G (i := 0) (k := 0) (by decide) (by decide)) (show zh_A M (ar 0) (nI 0).toNatClampNeg = _ from LG.rd G (by decide) (by decide) (q0)) dL_isSo_211 ?_
      refine lv_icmp_ge (tgt := 318) hx hb dL_isSo_212 (by decide) (fun h9 => absurd h9 (fun h8 => absurd ((nI_leI (a := T.1.1) (b := k) (by omega) (by omega)).mp h8) (by omega))) (fun _ => ?_)
      refine lv_iload hx hb dL_isSo_215 (lv_at hl 2 rfl) ?_
      refine lv_if_eq (tgt := 318) hx hb dL_isSo_217 (by decide) (fun h9 => absurd h9 (fun h8 => absurd ((nI_eq (a := 1) (b := 0) (by omega) (by omega)).mp h8) (by decide))) (fun _ => ?_)
      refine lv_aload hx hb dL_isSo_220 (lv_at hl 12 rfl) ?_
      refine lv_iconst (v := 2) hx hb dL_isSo_222 (by decide) ?_
      refine zr_iald (v := (Ct 0 2)) C I.swap (LG.at G (i := 0) (by decide)) (show vp_in (nI 2) _ from LG.inn G (i := 0) (k := 2) (by decide) (by decide)) (show zh_A M (ar 0) (nI 2).toNatClampNeg = _ from LG.rd G (by decide) (by decide) (rfl)) dL_isSo_223 ?_
      refine lv_iload hx hb dL_isSo_224 (lv_at hl 0 rfl) ?_
      refine lv_ishr hx hb dL_isSo_226 ?_
      refine lv_iconst (v := 1) hx hb dL_isSo_227 (by decide) ?_
      refine lv_iand hx hb dL_isSo_228 ?_
      refine zr_top (y := nI (T.2 2 k)) (zbt_rd b2 (by omega)) ?_
      refine lv_iconst (v := 1) hx hb dL_isSo_229 (by decide) ?_
      refine lv_icmp_ne (tgt := 237) hx hb dL_isSo_230 (by decide) (fun _ => ?_) (fun h9 => absurd h9 (fun h8 => absurd ((nI_eq (a := T.2 2 k) (b := 1) (by omega) (by omega)).mp h8) (by omega)))
      refine lv_iconst (v := 0) hx hb dL_isSo_237 (by decide) ?_
      refine lv_istore (lv' := [(13, .int 0), (12, .int (nI k)), (10, .int (zt_broken T T.1.2 0)), (11, .int 1), (0, .ref x), (1, .int z), (2, .ref (ar 2)), (3, .ref (ar 3)), (4, .ref (ar 4)), (5, .ref (ar 5)), (6, .ref (ar 6)), (7, .ref (ar 7)), (8, .ref (ar 1)), (9, .ref (ar 0))]) hx hb dL_isSo_238 hl (by decide) rfl (fun ls hl => ?_)
      refine lv_aload_n hx hb dL_isSo_240 rfl (lv_at hl 4 rfl) ?_
      refine lv_iload hx hb dL_isSo_241 (lv_at hl 1 rfl) ?_
      refine zc_VX (n := 1) (rest := []) C I hF9.1.1 rfl rfl (k_X3_sign l g hst S T x pl lo pt ty pa la ap ad ae hT hF9 (nI k)) zm_419 zm_420 zm_421 zm_16 zm_422 rfl hl.1 dL_isSo_243 (by decide +kernel) rfl ⟨Nat.le_of_ble_eq_true rfl, Nat.le_of_ble_eq_true rfl⟩ (Nat.le_of_ble_eq_true rfl) ⟨by show cells + 1 ≤ 600; omega, by show slots + 6 ≤ 12000; omega⟩ (fun E ce q9 S' H locs hq I h1 h2 h3 => absurd (hq.1.symm.trans hp0) (by decide)) (fun v S' H locs hq I => ?_)
      obtain ⟨-, rfl, eS⟩ := hq
      rw [eS] at I
      refine zr_top (y := nI (zd_sign (T.2 0 k))) (by rw [hkz]) ?_
      refine lv_aload hx hb dL_isSo_246 (lv_at hl 12 rfl) ?_
      refine lv_iload hx hb dL_isSo_248 (lv_at hl 1 rfl) ?_
      refine zr_iald (v := nI (T.2 0 k)) C I.swap (LG.at G (i := 1) (by decide)) (show vp_in (nI k) _ from LG.inn G (i := 1) (k := k) (by decide) (show k < 12 by omega)) (show zh_A M (ar 1) (nI k).toNatClampNeg = _ from LG.rd G (by decide) (show k < 12 by omega) ((dk k (by omega)).1)) dL_isSo_250 ?_
      refine zc_S (n := 1) (rest := [.int (nI (zd_sign (T.2 0 k)))]) C I (k_L_sign l g S (T.2 0 k) p1) zm_426 zm_427 zm_15 zm_428 rfl hl.1 dL_isSo_251 (by decide +kernel) rfl ⟨Nat.le_of_ble_eq_true rfl, Nat.le_of_ble_eq_true rfl⟩ (Nat.le_of_ble_eq_true rfl) ⟨by show cells + 1 + 0 ≤ 600; omega, by show slots + 6 + 0 ≤ 12000; omega⟩ (fun v S' H locs hq I => ?_)
      obtain ⟨rfl, eS⟩ := hq
      rw [eS] at I
      refine lv_icmp_ne (tgt := 309) hx hb dL_isSo_254 (by decide) (fun h9 => absurd (rfl) h9) (fun _ => ?_)
      refine lv_aload_n hx hb dL_isSo_257 rfl (lv_at hl 4 rfl) ?_
      refine lv_iload hx hb dL_isSo_258 (lv_at hl 1 rfl) ?_
      refine zc_VX (n := 1) (rest := []) C I hF9.1.1 rfl rfl (k_X3_isOpened l g hst S T x pl lo pt ty pa la ap ad ae hT hF9 (nI k)) zm_432 zm_433 zm_434 zm_16 zm_435 rfl hl.1 dL_isSo_260 (by decide +kernel) rfl ⟨Nat.le_of_ble_eq_true rfl, Nat.le_of_ble_eq_true rfl⟩ (Nat.le_of_ble_eq_true rfl) ⟨by show cells + 1 + 0 + 1 ≤ 600; omega, by show slots + 6 + 0 + 6 ≤ 12000; omega⟩ (fun E ce q9 S' H locs hq I h1 h2 h3 => absurd (hq.1.symm.trans hp0) (by decide)) (fun v S' H locs hq I => ?_)
      obtain ⟨-, rfl, eS⟩ := hq
      rw [eS] at I
      refine zr_top (y := 0) (by rw [hkz, ho]; rfl) ?_
      refine lv_iload hx hb dL_isSo_263 (lv_at hl 0 rfl) ?_
      refine lv_icmp_ne (tgt := 309) hx hb dL_isSo_265 (by decide) (fun h9 => absurd (rfl) h9) (fun _ => ?_)
      refine lv_aload_n hx hb dL_isSo_268 rfl (lv_at hl 4 rfl) ?_
      refine lv_iconst (v := 4) hx hb dL_isSo_269 (by decide) ?_
      refine lv_iload hx hb dL_isSo_270 (lv_at hl 1 rfl) ?_
      refine lv_iconst (v := 0) hx hb dL_isSo_272 (by decide) ?_
      refine lv_iconst (v := 0) hx hb dL_isSo_273 (by decide) ?_
      refine zc_SH (n := 5) (rest := []) C I (k_L_calls_wrong l g hst S T x (nI k) 0 0 hT hF (by rw [hcw]; decide)) zm_271 zm_272 zm_15 zm_273 rfl hl.1 dL_isSo_274 (by decide +kernel) rfl ⟨Nat.le_of_ble_eq_true rfl, Nat.le_of_ble_eq_true rfl⟩ (Nat.le_of_ble_eq_true rfl) ⟨by show cells + 1 + 0 + 1 + 10 ≤ 600; omega, by show slots + 6 + 0 + 6 + 300 ≤ 12000; omega⟩ (fun v S' H locs hq I => ?_)
      obtain ⟨rfl, hF⟩ := hq
      refine zr_top (y := (-3)) (zca_2 hcw _ _ _) ?_
      refine lv_iload hx hb dL_isSo_277 (lv_at hl 0 rfl) ?_
      refine lv_if_eq (tgt := 300) hx hb dL_isSo_279 (by decide) (fun _ => ?_) (fun h9 => absurd ((nI_eq (a := 0) (b := 0) (by omega) (by omega)).mpr (rfl)) h9)
      refine lv_bipush (v := (-3)) hx hb dL_isSo_300 (by decide) ?_
      refine lv_icmp_ne (tgt := 309) hx hb dL_isSo_302 (by decide) (fun h9 => absurd (rfl) h9) (fun _ => ?_)
      refine lv_iconst (v := 1) hx hb dL_isSo_305 (by decide) ?_
      refine lv_goto (tgt := 310) hx hb dL_isSo_306 (by decide) ?_
      refine lv_istore (lv' := [(11, .int 1), (13, .int 0), (12, .int (nI k)), (10, .int (zt_broken T T.1.2 0)), (0, .ref x), (1, .int z), (2, .ref (ar 2)), (3, .ref (ar 3)), (4, .ref (ar 4)), (5, .ref (ar 5)), (6, .ref (ar 6)), (7, .ref (ar 7)), (8, .ref (ar 1)), (9, .ref (ar 0))]) hx hb dL_isSo_310 hl (by decide) rfl (fun ls hl => ?_)
      refine lv_iinc (v := nI (k + 1)) (lv' := [(12, .int (nI (k + 1))), (11, .int 1), (13, .int 0), (10, .int (zt_broken T T.1.2 0)), (0, .ref x), (1, .int z), (2, .ref (ar 2)), (3, .ref (ar 3)), (4, .ref (ar 4)), (5, .ref (ar 5)), (6, .ref (ar 6)), (7, .ref (ar 7)), (8, .ref (ar 1)), (9, .ref (ar 0))]) hx hb dL_isSo_312 hl (k := 2) rfl (nI_add k 1) (by decide) rfl (fun ls hl => ?_)
      refine lv_goto (tgt := 206) hx hb dL_isSo_315 (by decide) ?_
      exact ih (k + 1) _ _ _ _ ls (by omega) (by show cells + 1 + 0 + 1 + 10 + 12 * n9 ≤ 580; omega) (by show slots + 6 + 0 + 6 + 300 + 312 * n9 ≤ 11800; omega) ⟨S', M, Ct, hF, G, hC, I, lv_sub hl [0, 3, 1, 4, 5, 6, 7, 8, 9, 10, 11, 12, 13] rfl⟩
    · have hcw : zc_wrong T (nI k) = 0 := by unfold zc_wrong; rw [if_neg hzp, hkz, if_neg (by omega)]
      refine lv_iload hx hb dL_isSo_206 (lv_at hl 0 rfl) ?_
      refine lv_aload hx hb dL_isSo_208 (lv_at hl 12 rfl) ?_
      refine lv_iconst (v := 0) hx hb dL_isSo_210 (by decide) ?_
      refine zr_iald (v := nI T.1.1) C I.swap (LG.at G (i := 0) (by decide)) (show vp_in (nI 0) _ from LG.inn G (i := 0) (k := 0) (by decide) (by decide)) (show zh_A M (ar 0) (nI 0).toNatClampNeg = _ from LG.rd G (by decide) (by decide) (q0)) dL_isSo_211 ?_
      refine lv_icmp_ge (tgt := 318) hx hb dL_isSo_212 (by decide) (fun h9 => absurd h9 (fun h8 => absurd ((nI_leI (a := T.1.1) (b := k) (by omega) (by omega)).mp h8) (by omega))) (fun _ => ?_)
      refine lv_iload hx hb dL_isSo_215 (lv_at hl 2 rfl) ?_
      refine lv_if_eq (tgt := 318) hx hb dL_isSo_217 (by decide) (fun h9 => absurd h9 (fun h8 => absurd ((nI_eq (a := 1) (b := 0) (by omega) (by omega)).mp h8) (by decide))) (fun _ => ?_)
      refine lv_aload hx hb dL_isSo_220 (lv_at hl 12 rfl) ?_
      refine lv_iconst (v := 2) hx hb dL_isSo_222 (by decide) ?_
      refine zr_iald (v := (Ct 0 2)) C I.swap (LG.at G (i := 0) (by decide)) (show vp_in (nI 2) _ from LG.inn G (i := 0) (k := 2) (by decide) (by decide)) (show zh_A M (ar 0) (nI 2).toNatClampNeg = _ from LG.rd G (by decide) (by decide) (rfl)) dL_isSo_223 ?_
      refine lv_iload hx hb dL_isSo_224 (lv_at hl 0 rfl) ?_
      refine lv_ishr hx hb dL_isSo_226 ?_
      refine lv_iconst (v := 1) hx hb dL_isSo_227 (by decide) ?_
      refine lv_iand hx hb dL_isSo_228 ?_
      refine zr_top (y := nI (T.2 2 k)) (zbt_rd b2 (by omega)) ?_
      refine lv_iconst (v := 1) hx hb dL_isSo_229 (by decide) ?_
      refine lv_icmp_ne (tgt := 237) hx hb dL_isSo_230 (by decide) (fun h9 => absurd ((nI_eq (a := T.2 2 k) (b := 1) (by omega) (by omega)).mpr (ho)) h9) (fun _ => ?_)
      refine lv_iconst (v := 1) hx hb dL_isSo_233 (by decide) ?_
      refine lv_goto (tgt := 238) hx hb dL_isSo_234 (by decide) ?_
      refine lv_istore (lv' := [(13, .int 1), (12, .int (nI k)), (10, .int (zt_broken T T.1.2 0)), (11, .int 1), (0, .ref x), (1, .int z), (2, .ref (ar 2)), (3, .ref (ar 3)), (4, .ref (ar 4)), (5, .ref (ar 5)), (6, .ref (ar 6)), (7, .ref (ar 7)), (8, .ref (ar 1)), (9, .ref (ar 0))]) hx hb dL_isSo_238 hl (by decide) rfl (fun ls hl => ?_)
      refine lv_aload_n hx hb dL_isSo_240 rfl (lv_at hl 4 rfl) ?_
      refine lv_iload hx hb dL_isSo_241 (lv_at hl 1 rfl) ?_
      refine zc_VX (n := 1) (rest := []) C I hF9.1.1 rfl rfl (k_X3_sign l g hst S T x pl lo pt ty pa la ap ad ae hT hF9 (nI k)) zm_419 zm_420 zm_421 zm_16 zm_422 rfl hl.1 dL_isSo_243 (by decide +kernel) rfl ⟨Nat.le_of_ble_eq_true rfl, Nat.le_of_ble_eq_true rfl⟩ (Nat.le_of_ble_eq_true rfl) ⟨by show cells + 1 ≤ 600; omega, by show slots + 6 ≤ 12000; omega⟩ (fun E ce q9 S' H locs hq I h1 h2 h3 => absurd (hq.1.symm.trans hp0) (by decide)) (fun v S' H locs hq I => ?_)
      obtain ⟨-, rfl, eS⟩ := hq
      rw [eS] at I
      refine zr_top (y := nI (zd_sign (T.2 0 k))) (by rw [hkz]) ?_
      refine lv_aload hx hb dL_isSo_246 (lv_at hl 12 rfl) ?_
      refine lv_iload hx hb dL_isSo_248 (lv_at hl 1 rfl) ?_
      refine zr_iald (v := nI (T.2 0 k)) C I.swap (LG.at G (i := 1) (by decide)) (show vp_in (nI k) _ from LG.inn G (i := 1) (k := k) (by decide) (show k < 12 by omega)) (show zh_A M (ar 1) (nI k).toNatClampNeg = _ from LG.rd G (by decide) (show k < 12 by omega) ((dk k (by omega)).1)) dL_isSo_250 ?_
      refine zc_S (n := 1) (rest := [.int (nI (zd_sign (T.2 0 k)))]) C I (k_L_sign l g S (T.2 0 k) p1) zm_426 zm_427 zm_15 zm_428 rfl hl.1 dL_isSo_251 (by decide +kernel) rfl ⟨Nat.le_of_ble_eq_true rfl, Nat.le_of_ble_eq_true rfl⟩ (Nat.le_of_ble_eq_true rfl) ⟨by show cells + 1 + 0 ≤ 600; omega, by show slots + 6 + 0 ≤ 12000; omega⟩ (fun v S' H locs hq I => ?_)
      obtain ⟨rfl, eS⟩ := hq
      rw [eS] at I
      refine lv_icmp_ne (tgt := 309) hx hb dL_isSo_254 (by decide) (fun h9 => absurd (rfl) h9) (fun _ => ?_)
      refine lv_aload_n hx hb dL_isSo_257 rfl (lv_at hl 4 rfl) ?_
      refine lv_iload hx hb dL_isSo_258 (lv_at hl 1 rfl) ?_
      refine zc_VX (n := 1) (rest := []) C I hF9.1.1 rfl rfl (k_X3_isOpened l g hst S T x pl lo pt ty pa la ap ad ae hT hF9 (nI k)) zm_432 zm_433 zm_434 zm_16 zm_435 rfl hl.1 dL_isSo_260 (by decide +kernel) rfl ⟨Nat.le_of_ble_eq_true rfl, Nat.le_of_ble_eq_true rfl⟩ (Nat.le_of_ble_eq_true rfl) ⟨by show cells + 1 + 0 + 1 ≤ 600; omega, by show slots + 6 + 0 + 6 ≤ 12000; omega⟩ (fun E ce q9 S' H locs hq I h1 h2 h3 => absurd (hq.1.symm.trans hp0) (by decide)) (fun v S' H locs hq I => ?_)
      obtain ⟨-, rfl, eS⟩ := hq
      rw [eS] at I
      refine zr_top (y := 1) (by rw [hkz, ho]; rfl) ?_
      refine lv_iload hx hb dL_isSo_263 (lv_at hl 0 rfl) ?_
      refine lv_icmp_ne (tgt := 309) hx hb dL_isSo_265 (by decide) (fun h9 => absurd (rfl) h9) (fun _ => ?_)
      refine lv_aload_n hx hb dL_isSo_268 rfl (lv_at hl 4 rfl) ?_
      refine lv_iconst (v := 4) hx hb dL_isSo_269 (by decide) ?_
      refine lv_iload hx hb dL_isSo_270 (lv_at hl 1 rfl) ?_
      refine lv_iconst (v := 0) hx hb dL_isSo_272 (by decide) ?_
      refine lv_iconst (v := 0) hx hb dL_isSo_273 (by decide) ?_
      refine zc_SH (n := 5) (rest := []) C I (k_L_calls_wrong l g hst S T x (nI k) 0 0 hT hF (by rw [hcw]; decide)) zm_271 zm_272 zm_15 zm_273 rfl hl.1 dL_isSo_274 (by decide +kernel) rfl ⟨Nat.le_of_ble_eq_true rfl, Nat.le_of_ble_eq_true rfl⟩ (Nat.le_of_ble_eq_true rfl) ⟨by show cells + 1 + 0 + 1 + 10 ≤ 600; omega, by show slots + 6 + 0 + 6 + 300 ≤ 12000; omega⟩ (fun v S' H locs hq I => ?_)
      obtain ⟨rfl, hF⟩ := hq
      refine zr_top (y := zv_wrong T k) (by rw [zca_0 hcw, hkz]) ?_
      refine lv_iload hx hb dL_isSo_277 (lv_at hl 0 rfl) ?_
      refine lv_if_eq (tgt := 300) hx hb dL_isSo_279 (by decide) (fun h9 => absurd h9 (fun h8 => absurd ((nI_eq (a := 1) (b := 0) (by omega) (by omega)).mp h8) (by decide))) (fun _ => ?_)
      refine lv_iload hx hb dL_isSo_282 (lv_at hl 1 rfl) ?_
      refine lv_aload_n hx hb dL_isSo_284 rfl (lv_at hl 6 rfl) ?_
      refine lv_aload_n hx hb dL_isSo_285 rfl (lv_at hl 7 rfl) ?_
      refine lv_aload hx hb dL_isSo_286 (lv_at hl 8 rfl) ?_
      refine lv_aload hx hb dL_isSo_288 (lv_at hl 9 rfl) ?_
      refine lv_aload hx hb dL_isSo_290 (lv_at hl 12 rfl) ?_
      refine lv_aload hx hb dL_isSo_292 (lv_at hl 13 rfl) ?_
      refine zc_S (n := 7) (rest := [.int (zv_wrong T k)]) C I.swap (k_L_wrong l g M ar Ct G T hT hC k (by omega)) zm_390 zm_391 zm_15 zm_392 rfl hl.1 dL_isSo_294 (by decide +kernel) rfl ⟨Nat.le_of_ble_eq_true rfl, Nat.le_of_ble_eq_true rfl⟩ (Nat.le_of_ble_eq_true rfl) ⟨by show cells + 1 + 0 + 1 + 10 + 0 ≤ 600; omega, by show slots + 6 + 0 + 6 + 300 + 0 ≤ 12000; omega⟩ (fun v M' H locs hq I => ?_)
      obtain ⟨rfl, C2, G, hQ2⟩ := hq
      have I := I.swap
      have hC := hC.q hQ2
      refine lv_goto (tgt := 302) hx hb dL_isSo_297 (by decide) ?_
      refine lv_icmp_ne (tgt := 309) hx hb dL_isSo_302 (by decide) (fun h9 => absurd (rfl) h9) (fun _ => ?_)
      refine lv_iconst (v := 1) hx hb dL_isSo_305 (by decide) ?_
      refine lv_goto (tgt := 310) hx hb dL_isSo_306 (by decide) ?_
      refine lv_istore (lv' := [(11, .int 1), (13, .int 1), (12, .int (nI k)), (10, .int (zt_broken T T.1.2 0)), (0, .ref x), (1, .int z), (2, .ref (ar 2)), (3, .ref (ar 3)), (4, .ref (ar 4)), (5, .ref (ar 5)), (6, .ref (ar 6)), (7, .ref (ar 7)), (8, .ref (ar 1)), (9, .ref (ar 0))]) hx hb dL_isSo_310 hl (by decide) rfl (fun ls hl => ?_)
      refine lv_iinc (v := nI (k + 1)) (lv' := [(12, .int (nI (k + 1))), (11, .int 1), (13, .int 1), (10, .int (zt_broken T T.1.2 0)), (0, .ref x), (1, .int z), (2, .ref (ar 2)), (3, .ref (ar 3)), (4, .ref (ar 4)), (5, .ref (ar 5)), (6, .ref (ar 6)), (7, .ref (ar 7)), (8, .ref (ar 1)), (9, .ref (ar 0))]) hx hb dL_isSo_312 hl (k := 2) rfl (nI_add k 1) (by decide) rfl (fun ls hl => ?_)
      refine lv_goto (tgt := 206) hx hb dL_isSo_315 (by decide) ?_
      exact ih (k + 1) _ _ _ _ ls (by omega) (by show cells + 1 + 0 + 1 + 10 + 0 + 12 * n9 ≤ 580; omega) (by show slots + 6 + 0 + 6 + 300 + 0 + 312 * n9 ≤ 11800; omega) ⟨S', M', C2, hF, G, hC, I, lv_sub hl [0, 3, 1, 4, 5, 6, 7, 8, 9, 10, 11, 12, 13] rfl⟩

set_option maxRecDepth 100000 in
set_option maxHeartbeats 4000000 in
theorem k_isSo_72 (K0 : zSC p l s m args meth c T) (k : Nat) (b : Int32) (hk : k < T.1.2) (KK : ∀ (H : Heap) (locs : List Loc) (ls : Array Slot), zSP g A s x ar T H locs ls [(12, .int (nI (k + 1))), (11, .int 1), (10, .int b), (0, .ref x), (1, .int z), (2, .ref (ar 2)), (3, .ref (ar 3)), (4, .ref (ar 4)), (5, .ref (ar 5)), (6, .ref (ar 6)), (7, .ref (ar 7)), (8, .ref (ar 1)), (9, .ref (ar 0))] → W p l e (zrm 10 600 12000) s m args below meth c H locs (cells + 14) (slots + 324) (MQ below (zh_Po g A (fun w U' => w = some (.int 1) ∧ ∃ (S' M' : zS), U' = zh_U S' M' ∧ zdis S' M' ∧ FE g S' T x ∧ LR M' ar T)) args s (zrm 10 600 12000).cells (zrm 10 600 12000).slots A) (F0 m 24 ls [])) (hcs : cells ≤ 580) (hss : slots ≤ 11600) (I0 : zSP g A s x ar T H locs ls [(12, .int (nI k)), (11, .int 1), (0, .ref x), (1, .int z), (2, .ref (ar 2)), (3, .ref (ar 3)), (4, .ref (ar 4)), (5, .ref (ar 5)), (6, .ref (ar 6)), (7, .ref (ar 7)), (8, .ref (ar 1)), (9, .ref (ar 0))]) : W p l e (zrm 10 600 12000) s m args below meth c H locs cells slots (MQ below (zh_Po g A (fun w U' => w = some (.int 1) ∧ ∃ (S' M' : zS), U' = zh_U S' M' ∧ zdis S' M' ∧ FE g S' T x ∧ LR M' ar T)) args s (zrm 10 600 12000).cells (zrm 10 600 12000).slots A) (F0 m 72 ls [.int b]) := by
  obtain ⟨hst, C, hr, hlk, hT⟩ := id K0
  obtain ⟨S, M, Ct, hF, G, hC, I, hl⟩ := I0
  have hx := C.1
  have hb := C.2.1
  obtain ⟨pl, lo, pt, ty, pa, la, ap, ad, ae, hF9⟩ := id hF
  obtain ⟨⟨n1, n2⟩, ⟨q0, q1⟩, ⟨b2, b3, b4⟩, qp, dk, ek⟩ := id hC
  obtain ⟨t1, t2, t3, t4, t5, t6, t7⟩ := id hT
  have hl : lv_has ls 15 [(12, .int (nI k)), (11, .int 1), (0, .ref x), (1, .int z), (2, .ref (ar 2)), (3, .ref (ar 3)), (4, .ref (ar 4)), (5, .ref (ar 5)), (6, .ref (ar 6)), (7, .ref (ar 7)), (8, .ref (ar 1)), (9, .ref (ar 0))] := hl
  obtain ⟨v5, v6, v7, v8, v9, v10, v11, v12, v13, v14⟩ := t5 k hk
  obtain ⟨w2, w3, w4, w5, w6, w7⟩ := ek k hk
  have hzk : ¬ zi T.1.2 (nI k) := zi_no hk (by omega)
  have hkz : zx (nI k) = k := zx_nI (by omega)
  have he0 : zc_entry T (nI k) = 0 := if_neg hzk
  refine lv_istore (lv' := [(10, .int b), (12, .int (nI k)), (11, .int 1), (0, .ref x), (1, .int z), (2, .ref (ar 2)), (3, .ref (ar 3)), (4, .ref (ar 4)), (5, .ref (ar 5)), (6, .ref (ar 6)), (7, .ref (ar 7)), (8, .ref (ar 1)), (9, .ref (ar 0))]) hx hb dL_isSo_72 hl (by decide) rfl (fun ls hl => ?_)
  refine lv_aload_n hx hb dL_isSo_74 rfl (lv_at hl 3 rfl) ?_
  refine lv_iload hx hb dL_isSo_75 (lv_at hl 1 rfl) ?_
  refine zc_VX (n := 1) (rest := []) C I hF9.1.1 rfl rfl (k_X3_value l g hst S T x pl lo pt ty pa la ap ad ae hT hF9 (nI k)) zm_403 zm_404 zm_405 zm_16 zm_406 rfl hl.1 dL_isSo_77 (by decide +kernel) rfl ⟨Nat.le_of_ble_eq_true rfl, Nat.le_of_ble_eq_true rfl⟩ (Nat.le_of_ble_eq_true rfl) ⟨by show cells + 1 ≤ 600; omega, by show slots + 6 ≤ 12000; omega⟩ (fun E ce q9 S' H locs hq I h1 h2 h3 => absurd (hq.1.symm.trans he0) (by decide)) (fun v S' H locs hq I => ?_)
  obtain ⟨-, rfl, eS⟩ := hq
  rw [eS] at I
  refine zr_top (y := nI (T.2 9 k)) (by rw [hkz]) ?_
  refine lv_aload hx hb dL_isSo_80 (lv_at hl 8 rfl) ?_
  refine lv_iload hx hb dL_isSo_82 (lv_at hl 1 rfl) ?_
  refine zr_iald (v := nI (T.2 9 k)) C I.swap (LG.at G (i := 5) (by decide)) (show vp_in (nI k) _ from LG.inn G (i := 5) (k := k) (by decide) (show k < 30 by omega)) (show zh_A M (ar 5) (nI k).toNatClampNeg = _ from LG.rd G (by decide) (show k < 30 by omega) (w5)) dL_isSo_84 ?_
  refine lv_icmp_ne (tgt := 194) hx hb dL_isSo_85 (by decide) (fun h9 => absurd (rfl) h9) (fun _ => ?_)
  refine lv_aload_n hx hb dL_isSo_88 rfl (lv_at hl 3 rfl) ?_
  refine lv_iload hx hb dL_isSo_89 (lv_at hl 1 rfl) ?_
  refine zc_VX (n := 1) (rest := []) C I hF9.1.1 rfl rfl (k_X3_rejected l g hst S T x pl lo pt ty pa la ap ad ae hT hF9 (nI k)) zm_407 zm_408 zm_409 zm_16 zm_410 rfl hl.1 dL_isSo_91 (by decide +kernel) rfl ⟨Nat.le_of_ble_eq_true rfl, Nat.le_of_ble_eq_true rfl⟩ (Nat.le_of_ble_eq_true rfl) ⟨by show cells + 1 + 1 ≤ 600; omega, by show slots + 6 + 6 ≤ 12000; omega⟩ (fun E ce q9 S' H locs hq I h1 h2 h3 => absurd (hq.1.symm.trans he0) (by decide)) (fun v S' H locs hq I => ?_)
  obtain ⟨-, rfl, eS⟩ := hq
  rw [eS] at I
  refine zr_top (y := nI (T.2 10 k)) (by rw [hkz]) ?_
  refine lv_aload hx hb dL_isSo_94 (lv_at hl 9 rfl) ?_
  refine lv_iload hx hb dL_isSo_96 (lv_at hl 1 rfl) ?_
  refine zr_iald (v := nI (T.2 10 k)) C I.swap (LG.at G (i := 6) (by decide)) (show vp_in (nI k) _ from LG.inn G (i := 6) (k := k) (by decide) (show k < 30 by omega)) (show zh_A M (ar 6) (nI k).toNatClampNeg = _ from LG.rd G (by decide) (show k < 30 by omega) (w6)) dL_isSo_98 ?_
  refine lv_icmp_ne (tgt := 194) hx hb dL_isSo_99 (by decide) (fun h9 => absurd (rfl) h9) (fun _ => ?_)
  refine lv_aload_n hx hb dL_isSo_102 rfl (lv_at hl 3 rfl) ?_
  refine lv_iload hx hb dL_isSo_103 (lv_at hl 1 rfl) ?_
  refine zc_VX (n := 1) (rest := []) C I hF9.1.1 rfl rfl (k_X3_sum l g hst S T x pl lo pt ty pa la ap ad ae hT hF9 (nI k)) zm_411 zm_412 zm_413 zm_16 zm_414 rfl hl.1 dL_isSo_105 (by decide +kernel) rfl ⟨Nat.le_of_ble_eq_true rfl, Nat.le_of_ble_eq_true rfl⟩ (Nat.le_of_ble_eq_true rfl) ⟨by show cells + 1 + 1 + 1 ≤ 600; omega, by show slots + 6 + 6 + 6 ≤ 12000; omega⟩ (fun E ce q9 S' H locs hq I h1 h2 h3 => absurd (hq.1.symm.trans he0) (by decide)) (fun v S' H locs hq I => ?_)
  obtain ⟨-, rfl, eS⟩ := hq
  rw [eS] at I
  refine zr_top (y := nI (T.2 11 k)) (by rw [hkz]) ?_
  refine lv_aload hx hb dL_isSo_108 (lv_at hl 10 rfl) ?_
  refine lv_iload hx hb dL_isSo_110 (lv_at hl 1 rfl) ?_
  refine zr_iald (v := nI (T.2 11 k)) C I.swap (LG.at G (i := 7) (by decide)) (show vp_in (nI k) _ from LG.inn G (i := 7) (k := k) (by decide) (show k < 30 by omega)) (show zh_A M (ar 7) (nI k).toNatClampNeg = _ from LG.rd G (by decide) (show k < 30 by omega) (w7)) dL_isSo_112 ?_
  refine lv_icmp_ne (tgt := 194) hx hb dL_isSo_113 (by decide) (fun h9 => absurd (rfl) h9) (fun _ => ?_)
  refine lv_aload_n hx hb dL_isSo_116 rfl (lv_at hl 3 rfl) ?_
  refine lv_iload hx hb dL_isSo_117 (lv_at hl 1 rfl) ?_
  refine zc_VX (n := 1) (rest := []) C I hF9.1.1 rfl rfl (k_X3_isStruck l g hst S T x pl lo pt ty pa la ap ad ae hT hF9 (nI k)) zm_415 zm_416 zm_417 zm_16 zm_418 rfl hl.1 dL_isSo_119 (by decide +kernel) rfl ⟨Nat.le_of_ble_eq_true rfl, Nat.le_of_ble_eq_true rfl⟩ (Nat.le_of_ble_eq_true rfl) ⟨by show cells + 1 + 1 + 1 + 1 ≤ 600; omega, by show slots + 6 + 6 + 6 + 6 ≤ 12000; omega⟩ (fun E ce q9 S' H locs hq I h1 h2 h3 => absurd (hq.1.symm.trans he0) (by decide)) (fun v S' H locs hq I => ?_)
  obtain ⟨-, rfl, eS⟩ := hq
  rw [eS] at I
  refine zr_top (y := nI (T.2 12 k)) (by rw [hkz]) ?_
  refine lv_aload hx hb dL_isSo_122 (lv_at hl 12 rfl) ?_
  refine lv_iconst (v := 4) hx hb dL_isSo_124 (by decide) ?_
  refine zr_iald (v := (Ct 0 4)) C I.swap (LG.at G (i := 0) (by decide)) (show vp_in (nI 4) _ from LG.inn G (i := 0) (k := 4) (by decide) (by decide)) (show zh_A M (ar 0) (nI 4).toNatClampNeg = _ from LG.rd G (by decide) (by decide) (rfl)) dL_isSo_125 ?_
  refine lv_iload hx hb dL_isSo_126 (lv_at hl 1 rfl) ?_
  refine lv_ishr hx hb dL_isSo_128 ?_
  refine lv_iconst (v := 1) hx hb dL_isSo_129 (by decide) ?_
  refine lv_iand hx hb dL_isSo_130 ?_
  refine zr_top (y := nI (T.2 12 k)) (zbt_rd b4 (by omega)) ?_
  rcases (show T.2 12 k = 0 ∨ T.2 12 k = 1 by omega) with hs | hs
  · rw [hs]
    refine lv_iconst (v := 1) hx hb dL_isSo_131 (by decide) ?_
    refine lv_icmp_ne (tgt := 139) hx hb dL_isSo_132 (by decide) (fun _ => ?_) (fun h9 => absurd h9 (fun h8 => absurd ((nI_eq (a := 0) (b := 1) (by omega) (by omega)).mp h8) (by decide)))
    refine lv_iconst (v := 0) hx hb dL_isSo_139 (by decide) ?_
    refine lv_icmp_ne (tgt := 194) hx hb dL_isSo_140 (by decide) (fun h9 => absurd (rfl) h9) (fun _ => ?_)
    refine lv_aload_n hx hb dL_isSo_143 rfl (lv_at hl 3 rfl) ?_
    refine lv_iconst (v := 3) hx hb dL_isSo_144 (by decide) ?_
    refine lv_iload hx hb dL_isSo_145 (lv_at hl 1 rfl) ?_
    refine lv_iconst (v := 0) hx hb dL_isSo_147 (by decide) ?_
    refine lv_iconst (v := 0) hx hb dL_isSo_148 (by decide) ?_
    rcases (show T.2 2 (T.2 5 k) = 0 ∨ T.2 2 (T.2 5 k) = 1 by have := (t3 (T.2 5 k)).2.2.1; omega) with ho | ho
    · have hcf : zc_found T (nI k) = 2 := by unfold zc_found; rw [if_neg hzk, hkz, if_pos ho]
      refine zc_SH (n := 5) (rest := []) C I (k_L_calls_found l g hst S T x (nI k) 0 0 hT hF (by rw [hcf]; decide)) zm_271 zm_272 zm_15 zm_273 rfl hl.1 dL_isSo_149 (by decide +kernel) rfl ⟨Nat.le_of_ble_eq_true rfl, Nat.le_of_ble_eq_true rfl⟩ (Nat.le_of_ble_eq_true rfl) ⟨by show cells + 1 + 1 + 1 + 1 + 10 ≤ 600; omega, by show slots + 6 + 6 + 6 + 6 + 300 ≤ 12000; omega⟩ (fun v S' H locs hq I => ?_)
      obtain ⟨rfl, hF⟩ := hq
      refine zr_top (y := (-3)) (zca_2 hcf _ _ _) ?_
      refine lv_aload hx hb dL_isSo_152 (lv_at hl 12 rfl) ?_
      refine lv_iconst (v := 2) hx hb dL_isSo_154 (by decide) ?_
      refine zr_iald (v := (Ct 0 2)) C I.swap (LG.at G (i := 0) (by decide)) (show vp_in (nI 2) _ from LG.inn G (i := 0) (k := 2) (by decide) (by decide)) (show zh_A M (ar 0) (nI 2).toNatClampNeg = _ from LG.rd G (by decide) (by decide) (rfl)) dL_isSo_155 ?_
      refine lv_aload_n hx hb dL_isSo_156 rfl (lv_at hl 5 rfl) ?_
      refine lv_iload hx hb dL_isSo_157 (lv_at hl 1 rfl) ?_
      refine zr_iald (v := nI (4 * T.2 5 k + T.2 6 k)) C I.swap (LG.at G (i := 2) (by decide)) (show vp_in (nI k) _ from LG.inn G (i := 2) (k := k) (by decide) (show k < 30 by omega)) (show zh_A M (ar 2) (nI k).toNatClampNeg = _ from LG.rd G (by decide) (show k < 30 by omega) (w2)) dL_isSo_159 ?_
      refine lv_iconst (v := 4) hx hb dL_isSo_160 (by decide) ?_
      refine lv_idiv hx hb dL_isSo_161 (by decide) ?_
      refine zr_top (y := nI (T.2 5 k)) ((pk_div (a := 4 * T.2 5 k + T.2 6 k) (d := 4) (by omega) (by decide) (by decide)).trans (congrArg nI (by omega))) ?_
      refine lv_ishr hx hb dL_isSo_162 ?_
      refine lv_iconst (v := 1) hx hb dL_isSo_163 (by decide) ?_
      refine lv_iand hx hb dL_isSo_164 ?_
      refine zr_top (y := nI (T.2 2 (T.2 5 k))) (zbt_rd b2 (by omega)) ?_
      refine lv_iconst (v := 1) hx hb dL_isSo_165 (by decide) ?_
      refine lv_icmp_ne (tgt := 185) hx hb dL_isSo_166 (by decide) (fun _ => ?_) (fun h9 => absurd h9 (fun h8 => absurd ((nI_eq (a := T.2 2 (T.2 5 k)) (b := 1) (by omega) (by omega)).mp h8) (by omega)))
      refine lv_bipush (v := (-3)) hx hb dL_isSo_185 (by decide) ?_
      refine lv_icmp_ne (tgt := 194) hx hb dL_isSo_187 (by decide) (fun h9 => absurd (rfl) h9) (fun _ => ?_)
      refine lv_iconst (v := 1) hx hb dL_isSo_190 (by decide) ?_
      refine lv_goto (tgt := 195) hx hb dL_isSo_191 (by decide) ?_
      refine lv_istore (lv' := [(11, .int 1), (10, .int b), (12, .int (nI k)), (0, .ref x), (1, .int z), (2, .ref (ar 2)), (3, .ref (ar 3)), (4, .ref (ar 4)), (5, .ref (ar 5)), (6, .ref (ar 6)), (7, .ref (ar 7)), (8, .ref (ar 1)), (9, .ref (ar 0))]) hx hb dL_isSo_195 hl (by decide) rfl (fun ls hl => ?_)
      refine lv_iinc (v := nI (k + 1)) (lv' := [(12, .int (nI (k + 1))), (11, .int 1), (10, .int b), (0, .ref x), (1, .int z), (2, .ref (ar 2)), (3, .ref (ar 3)), (4, .ref (ar 4)), (5, .ref (ar 5)), (6, .ref (ar 6)), (7, .ref (ar 7)), (8, .ref (ar 1)), (9, .ref (ar 0))]) hx hb dL_isSo_197 hl (k := 2) rfl (nI_add k 1) (by decide) rfl (fun ls hl => ?_)
      refine lv_goto (tgt := 24) hx hb dL_isSo_200 (by decide) ?_
      refine W.widen (k := cells + 14) (n := slots + 324) (by show cells + 1 + 1 + 1 + 1 + 10 ≤ cells + 14; omega) (by show slots + 6 + 6 + 6 + 6 + 300 ≤ slots + 324; omega) ?_
      exact KK _ _ ls ⟨S', M, Ct, hF, G, hC, I, lv_sub hl [0, 1, 2, 3, 4, 5, 6, 7, 8, 9, 10, 11, 12] rfl⟩
    · have hcf : zc_found T (nI k) = 0 := by unfold zc_found; rw [if_neg hzk, hkz, if_neg (by omega)]
      refine zc_SH (n := 5) (rest := []) C I (k_L_calls_found l g hst S T x (nI k) 0 0 hT hF (by rw [hcf]; decide)) zm_271 zm_272 zm_15 zm_273 rfl hl.1 dL_isSo_149 (by decide +kernel) rfl ⟨Nat.le_of_ble_eq_true rfl, Nat.le_of_ble_eq_true rfl⟩ (Nat.le_of_ble_eq_true rfl) ⟨by show cells + 1 + 1 + 1 + 1 + 10 ≤ 600; omega, by show slots + 6 + 6 + 6 + 6 + 300 ≤ 12000; omega⟩ (fun v S' H locs hq I => ?_)
      obtain ⟨rfl, hF⟩ := hq
      refine zr_top (y := nI (zt_fd T (T.2 5 k) k)) (by rw [zca_0 hcf, hkz]) ?_
      refine lv_aload hx hb dL_isSo_152 (lv_at hl 12 rfl) ?_
      refine lv_iconst (v := 2) hx hb dL_isSo_154 (by decide) ?_
      refine zr_iald (v := (Ct 0 2)) C I.swap (LG.at G (i := 0) (by decide)) (show vp_in (nI 2) _ from LG.inn G (i := 0) (k := 2) (by decide) (by decide)) (show zh_A M (ar 0) (nI 2).toNatClampNeg = _ from LG.rd G (by decide) (by decide) (rfl)) dL_isSo_155 ?_
      refine lv_aload_n hx hb dL_isSo_156 rfl (lv_at hl 5 rfl) ?_
      refine lv_iload hx hb dL_isSo_157 (lv_at hl 1 rfl) ?_
      refine zr_iald (v := nI (4 * T.2 5 k + T.2 6 k)) C I.swap (LG.at G (i := 2) (by decide)) (show vp_in (nI k) _ from LG.inn G (i := 2) (k := k) (by decide) (show k < 30 by omega)) (show zh_A M (ar 2) (nI k).toNatClampNeg = _ from LG.rd G (by decide) (show k < 30 by omega) (w2)) dL_isSo_159 ?_
      refine lv_iconst (v := 4) hx hb dL_isSo_160 (by decide) ?_
      refine lv_idiv hx hb dL_isSo_161 (by decide) ?_
      refine zr_top (y := nI (T.2 5 k)) ((pk_div (a := 4 * T.2 5 k + T.2 6 k) (d := 4) (by omega) (by decide) (by decide)).trans (congrArg nI (by omega))) ?_
      refine lv_ishr hx hb dL_isSo_162 ?_
      refine lv_iconst (v := 1) hx hb dL_isSo_163 (by decide) ?_
      refine lv_iand hx hb dL_isSo_164 ?_
      refine zr_top (y := nI (T.2 2 (T.2 5 k))) (zbt_rd b2 (by omega)) ?_
      refine lv_iconst (v := 1) hx hb dL_isSo_165 (by decide) ?_
      refine lv_icmp_ne (tgt := 185) hx hb dL_isSo_166 (by decide) (fun h9 => absurd ((nI_eq (a := T.2 2 (T.2 5 k)) (b := 1) (by omega) (by omega)).mpr (ho)) h9) (fun _ => ?_)
      refine lv_iload hx hb dL_isSo_169 (lv_at hl 1 rfl) ?_
      refine lv_aload_n hx hb dL_isSo_171 rfl (lv_at hl 5 rfl) ?_
      refine lv_aload_n hx hb dL_isSo_172 rfl (lv_at hl 6 rfl) ?_
      refine lv_aload hx hb dL_isSo_173 (lv_at hl 7 rfl) ?_
      refine lv_aload hx hb dL_isSo_175 (lv_at hl 11 rfl) ?_
      refine lv_aload hx hb dL_isSo_177 (lv_at hl 12 rfl) ?_
      refine zc_S (n := 6) (rest := [.int (nI (zt_fd T (T.2 5 k) k))]) C I.swap (k_L_again l g M ar Ct G T hT hC k hk) zm_393 zm_394 zm_15 zm_395 rfl hl.1 dL_isSo_179 (by decide +kernel) rfl ⟨Nat.le_of_ble_eq_true rfl, Nat.le_of_ble_eq_true rfl⟩ (Nat.le_of_ble_eq_true rfl) ⟨by show cells + 1 + 1 + 1 + 1 + 10 + 0 ≤ 600; omega, by show slots + 6 + 6 + 6 + 6 + 300 + 0 ≤ 12000; omega⟩ (fun v M' H locs hq I => ?_)
      obtain ⟨rfl, C2, G, hQ2⟩ := hq
      have I := I.swap
      have hC := hC.q hQ2
      refine lv_goto (tgt := 187) hx hb dL_isSo_182 (by decide) ?_
      refine lv_icmp_ne (tgt := 194) hx hb dL_isSo_187 (by decide) (fun h9 => absurd (rfl) h9) (fun _ => ?_)
      refine lv_iconst (v := 1) hx hb dL_isSo_190 (by decide) ?_
      refine lv_goto (tgt := 195) hx hb dL_isSo_191 (by decide) ?_
      refine lv_istore (lv' := [(11, .int 1), (10, .int b), (12, .int (nI k)), (0, .ref x), (1, .int z), (2, .ref (ar 2)), (3, .ref (ar 3)), (4, .ref (ar 4)), (5, .ref (ar 5)), (6, .ref (ar 6)), (7, .ref (ar 7)), (8, .ref (ar 1)), (9, .ref (ar 0))]) hx hb dL_isSo_195 hl (by decide) rfl (fun ls hl => ?_)
      refine lv_iinc (v := nI (k + 1)) (lv' := [(12, .int (nI (k + 1))), (11, .int 1), (10, .int b), (0, .ref x), (1, .int z), (2, .ref (ar 2)), (3, .ref (ar 3)), (4, .ref (ar 4)), (5, .ref (ar 5)), (6, .ref (ar 6)), (7, .ref (ar 7)), (8, .ref (ar 1)), (9, .ref (ar 0))]) hx hb dL_isSo_197 hl (k := 2) rfl (nI_add k 1) (by decide) rfl (fun ls hl => ?_)
      refine lv_goto (tgt := 24) hx hb dL_isSo_200 (by decide) ?_
      refine W.widen (k := cells + 14) (n := slots + 324) (by show cells + 1 + 1 + 1 + 1 + 10 + 0 ≤ cells + 14; omega) (by show slots + 6 + 6 + 6 + 6 + 300 + 0 ≤ slots + 324; omega) ?_
      exact KK _ _ ls ⟨S', M', C2, hF, G, hC, I, lv_sub hl [0, 1, 2, 3, 4, 5, 6, 7, 8, 9, 10, 11, 12] rfl⟩
  · rw [hs]
    refine lv_iconst (v := 1) hx hb dL_isSo_131 (by decide) ?_
    refine lv_icmp_ne (tgt := 139) hx hb dL_isSo_132 (by decide) (fun h9 => absurd ((nI_eq (a := 1) (b := 1) (by omega) (by omega)).mpr (rfl)) h9) (fun _ => ?_)
    refine lv_iconst (v := 1) hx hb dL_isSo_135 (by decide) ?_
    refine lv_goto (tgt := 140) hx hb dL_isSo_136 (by decide) ?_
    refine lv_icmp_ne (tgt := 194) hx hb dL_isSo_140 (by decide) (fun h9 => absurd (rfl) h9) (fun _ => ?_)
    refine lv_aload_n hx hb dL_isSo_143 rfl (lv_at hl 3 rfl) ?_
    refine lv_iconst (v := 3) hx hb dL_isSo_144 (by decide) ?_
    refine lv_iload hx hb dL_isSo_145 (lv_at hl 1 rfl) ?_
    refine lv_iconst (v := 0) hx hb dL_isSo_147 (by decide) ?_
    refine lv_iconst (v := 0) hx hb dL_isSo_148 (by decide) ?_
    rcases (show T.2 2 (T.2 5 k) = 0 ∨ T.2 2 (T.2 5 k) = 1 by have := (t3 (T.2 5 k)).2.2.1; omega) with ho | ho
    · have hcf : zc_found T (nI k) = 2 := by unfold zc_found; rw [if_neg hzk, hkz, if_pos ho]
      refine zc_SH (n := 5) (rest := []) C I (k_L_calls_found l g hst S T x (nI k) 0 0 hT hF (by rw [hcf]; decide)) zm_271 zm_272 zm_15 zm_273 rfl hl.1 dL_isSo_149 (by decide +kernel) rfl ⟨Nat.le_of_ble_eq_true rfl, Nat.le_of_ble_eq_true rfl⟩ (Nat.le_of_ble_eq_true rfl) ⟨by show cells + 1 + 1 + 1 + 1 + 10 ≤ 600; omega, by show slots + 6 + 6 + 6 + 6 + 300 ≤ 12000; omega⟩ (fun v S' H locs hq I => ?_)
      obtain ⟨rfl, hF⟩ := hq
      refine zr_top (y := (-3)) (zca_2 hcf _ _ _) ?_
      refine lv_aload hx hb dL_isSo_152 (lv_at hl 12 rfl) ?_
      refine lv_iconst (v := 2) hx hb dL_isSo_154 (by decide) ?_
      refine zr_iald (v := (Ct 0 2)) C I.swap (LG.at G (i := 0) (by decide)) (show vp_in (nI 2) _ from LG.inn G (i := 0) (k := 2) (by decide) (by decide)) (show zh_A M (ar 0) (nI 2).toNatClampNeg = _ from LG.rd G (by decide) (by decide) (rfl)) dL_isSo_155 ?_
      refine lv_aload_n hx hb dL_isSo_156 rfl (lv_at hl 5 rfl) ?_
      refine lv_iload hx hb dL_isSo_157 (lv_at hl 1 rfl) ?_
      refine zr_iald (v := nI (4 * T.2 5 k + T.2 6 k)) C I.swap (LG.at G (i := 2) (by decide)) (show vp_in (nI k) _ from LG.inn G (i := 2) (k := k) (by decide) (show k < 30 by omega)) (show zh_A M (ar 2) (nI k).toNatClampNeg = _ from LG.rd G (by decide) (show k < 30 by omega) (w2)) dL_isSo_159 ?_
      refine lv_iconst (v := 4) hx hb dL_isSo_160 (by decide) ?_
      refine lv_idiv hx hb dL_isSo_161 (by decide) ?_
      refine zr_top (y := nI (T.2 5 k)) ((pk_div (a := 4 * T.2 5 k + T.2 6 k) (d := 4) (by omega) (by decide) (by decide)).trans (congrArg nI (by omega))) ?_
      refine lv_ishr hx hb dL_isSo_162 ?_
      refine lv_iconst (v := 1) hx hb dL_isSo_163 (by decide) ?_
      refine lv_iand hx hb dL_isSo_164 ?_
      refine zr_top (y := nI (T.2 2 (T.2 5 k))) (zbt_rd b2 (by omega)) ?_
      refine lv_iconst (v := 1) hx hb dL_isSo_165 (by decide) ?_
      refine lv_icmp_ne (tgt := 185) hx hb dL_isSo_166 (by decide) (fun _ => ?_) (fun h9 => absurd h9 (fun h8 => absurd ((nI_eq (a := T.2 2 (T.2 5 k)) (b := 1) (by omega) (by omega)).mp h8) (by omega)))
      refine lv_bipush (v := (-3)) hx hb dL_isSo_185 (by decide) ?_
      refine lv_icmp_ne (tgt := 194) hx hb dL_isSo_187 (by decide) (fun h9 => absurd (rfl) h9) (fun _ => ?_)
      refine lv_iconst (v := 1) hx hb dL_isSo_190 (by decide) ?_
      refine lv_goto (tgt := 195) hx hb dL_isSo_191 (by decide) ?_
      refine lv_istore (lv' := [(11, .int 1), (10, .int b), (12, .int (nI k)), (0, .ref x), (1, .int z), (2, .ref (ar 2)), (3, .ref (ar 3)), (4, .ref (ar 4)), (5, .ref (ar 5)), (6, .ref (ar 6)), (7, .ref (ar 7)), (8, .ref (ar 1)), (9, .ref (ar 0))]) hx hb dL_isSo_195 hl (by decide) rfl (fun ls hl => ?_)
      refine lv_iinc (v := nI (k + 1)) (lv' := [(12, .int (nI (k + 1))), (11, .int 1), (10, .int b), (0, .ref x), (1, .int z), (2, .ref (ar 2)), (3, .ref (ar 3)), (4, .ref (ar 4)), (5, .ref (ar 5)), (6, .ref (ar 6)), (7, .ref (ar 7)), (8, .ref (ar 1)), (9, .ref (ar 0))]) hx hb dL_isSo_197 hl (k := 2) rfl (nI_add k 1) (by decide) rfl (fun ls hl => ?_)
      refine lv_goto (tgt := 24) hx hb dL_isSo_200 (by decide) ?_
      refine W.widen (k := cells + 14) (n := slots + 324) (by show cells + 1 + 1 + 1 + 1 + 10 ≤ cells + 14; omega) (by show slots + 6 + 6 + 6 + 6 + 300 ≤ slots + 324; omega) ?_
      exact KK _ _ ls ⟨S', M, Ct, hF, G, hC, I, lv_sub hl [0, 1, 2, 3, 4, 5, 6, 7, 8, 9, 10, 11, 12] rfl⟩
    · have hcf : zc_found T (nI k) = 0 := by unfold zc_found; rw [if_neg hzk, hkz, if_neg (by omega)]
      refine zc_SH (n := 5) (rest := []) C I (k_L_calls_found l g hst S T x (nI k) 0 0 hT hF (by rw [hcf]; decide)) zm_271 zm_272 zm_15 zm_273 rfl hl.1 dL_isSo_149 (by decide +kernel) rfl ⟨Nat.le_of_ble_eq_true rfl, Nat.le_of_ble_eq_true rfl⟩ (Nat.le_of_ble_eq_true rfl) ⟨by show cells + 1 + 1 + 1 + 1 + 10 ≤ 600; omega, by show slots + 6 + 6 + 6 + 6 + 300 ≤ 12000; omega⟩ (fun v S' H locs hq I => ?_)
      obtain ⟨rfl, hF⟩ := hq
      refine zr_top (y := nI (zt_fd T (T.2 5 k) k)) (by rw [zca_0 hcf, hkz]) ?_
      refine lv_aload hx hb dL_isSo_152 (lv_at hl 12 rfl) ?_
      refine lv_iconst (v := 2) hx hb dL_isSo_154 (by decide) ?_
      refine zr_iald (v := (Ct 0 2)) C I.swap (LG.at G (i := 0) (by decide)) (show vp_in (nI 2) _ from LG.inn G (i := 0) (k := 2) (by decide) (by decide)) (show zh_A M (ar 0) (nI 2).toNatClampNeg = _ from LG.rd G (by decide) (by decide) (rfl)) dL_isSo_155 ?_
      refine lv_aload_n hx hb dL_isSo_156 rfl (lv_at hl 5 rfl) ?_
      refine lv_iload hx hb dL_isSo_157 (lv_at hl 1 rfl) ?_
      refine zr_iald (v := nI (4 * T.2 5 k + T.2 6 k)) C I.swap (LG.at G (i := 2) (by decide)) (show vp_in (nI k) _ from LG.inn G (i := 2) (k := k) (by decide) (show k < 30 by omega)) (show zh_A M (ar 2) (nI k).toNatClampNeg = _ from LG.rd G (by decide) (show k < 30 by omega) (w2)) dL_isSo_159 ?_
      refine lv_iconst (v := 4) hx hb dL_isSo_160 (by decide) ?_
      refine lv_idiv hx hb dL_isSo_161 (by decide) ?_
      refine zr_top (y := nI (T.2 5 k)) ((pk_div (a := 4 * T.2 5 k + T.2 6 k) (d := 4) (by omega) (by decide) (by decide)).trans (congrArg nI (by omega))) ?_
      refine lv_ishr hx hb dL_isSo_162 ?_
      refine lv_iconst (v := 1) hx hb dL_isSo_163 (by decide) ?_
      refine lv_iand hx hb dL_isSo_164 ?_
      refine zr_top (y := nI (T.2 2 (T.2 5 k))) (zbt_rd b2 (by omega)) ?_
      refine lv_iconst (v := 1) hx hb dL_isSo_165 (by decide) ?_
      refine lv_icmp_ne (tgt := 185) hx hb dL_isSo_166 (by decide) (fun h9 => absurd ((nI_eq (a := T.2 2 (T.2 5 k)) (b := 1) (by omega) (by omega)).mpr (ho)) h9) (fun _ => ?_)
      refine lv_iload hx hb dL_isSo_169 (lv_at hl 1 rfl) ?_
      refine lv_aload_n hx hb dL_isSo_171 rfl (lv_at hl 5 rfl) ?_
      refine lv_aload_n hx hb dL_isSo_172 rfl (lv_at hl 6 rfl) ?_
      refine lv_aload hx hb dL_isSo_173 (lv_at hl 7 rfl) ?_
      refine lv_aload hx hb dL_isSo_175 (lv_at hl 11 rfl) ?_
      refine lv_aload hx hb dL_isSo_177 (lv_at hl 12 rfl) ?_
      refine zc_S (n := 6) (rest := [.int (nI (zt_fd T (T.2 5 k) k))]) C I.swap (k_L_again l g M ar Ct G T hT hC k hk) zm_393 zm_394 zm_15 zm_395 rfl hl.1 dL_isSo_179 (by decide +kernel) rfl ⟨Nat.le_of_ble_eq_true rfl, Nat.le_of_ble_eq_true rfl⟩ (Nat.le_of_ble_eq_true rfl) ⟨by show cells + 1 + 1 + 1 + 1 + 10 + 0 ≤ 600; omega, by show slots + 6 + 6 + 6 + 6 + 300 + 0 ≤ 12000; omega⟩ (fun v M' H locs hq I => ?_)
      obtain ⟨rfl, C2, G, hQ2⟩ := hq
      have I := I.swap
      have hC := hC.q hQ2
      refine lv_goto (tgt := 187) hx hb dL_isSo_182 (by decide) ?_
      refine lv_icmp_ne (tgt := 194) hx hb dL_isSo_187 (by decide) (fun h9 => absurd (rfl) h9) (fun _ => ?_)
      refine lv_iconst (v := 1) hx hb dL_isSo_190 (by decide) ?_
      refine lv_goto (tgt := 195) hx hb dL_isSo_191 (by decide) ?_
      refine lv_istore (lv' := [(11, .int 1), (10, .int b), (12, .int (nI k)), (0, .ref x), (1, .int z), (2, .ref (ar 2)), (3, .ref (ar 3)), (4, .ref (ar 4)), (5, .ref (ar 5)), (6, .ref (ar 6)), (7, .ref (ar 7)), (8, .ref (ar 1)), (9, .ref (ar 0))]) hx hb dL_isSo_195 hl (by decide) rfl (fun ls hl => ?_)
      refine lv_iinc (v := nI (k + 1)) (lv' := [(12, .int (nI (k + 1))), (11, .int 1), (10, .int b), (0, .ref x), (1, .int z), (2, .ref (ar 2)), (3, .ref (ar 3)), (4, .ref (ar 4)), (5, .ref (ar 5)), (6, .ref (ar 6)), (7, .ref (ar 7)), (8, .ref (ar 1)), (9, .ref (ar 0))]) hx hb dL_isSo_197 hl (k := 2) rfl (nI_add k 1) (by decide) rfl (fun ls hl => ?_)
      refine lv_goto (tgt := 24) hx hb dL_isSo_200 (by decide) ?_
      refine W.widen (k := cells + 14) (n := slots + 324) (by show cells + 1 + 1 + 1 + 1 + 10 + 0 ≤ cells + 14; omega) (by show slots + 6 + 6 + 6 + 6 + 300 + 0 ≤ slots + 324; omega) ?_
      exact KK _ _ ls ⟨S', M', C2, hF, G, hC, I, lv_sub hl [0, 1, 2, 3, 4, 5, 6, 7, 8, 9, 10, 11, 12] rfl⟩

set_option maxRecDepth 100000 in
set_option maxHeartbeats 4000000 in
theorem k_isSo_24 (K0 : zSC p l s m args meth c T) : ∀ (n9 k cells slots : Nat) (b : Int32) (H : Heap) (locs : List Loc) (ls : Array Slot), k + n9 = T.1.2 → cells + 14 * n9 ≤ 500 → slots + 324 * n9 ≤ 9800 → zbk T n9 k b → zSP g A s x ar T H locs ls [(12, .int (nI k)), (11, .int 1), (10, .int b), (0, .ref x), (1, .int z), (2, .ref (ar 2)), (3, .ref (ar 3)), (4, .ref (ar 4)), (5, .ref (ar 5)), (6, .ref (ar 6)), (7, .ref (ar 7)), (8, .ref (ar 1)), (9, .ref (ar 0))] → W p l e (zrm 10 600 12000) s m args below meth c H locs cells slots (MQ below (zh_Po g A (fun w U' => w = some (.int 1) ∧ ∃ (S' M' : zS), U' = zh_U S' M' ∧ zdis S' M' ∧ FE g S' T x ∧ LR M' ar T)) args s (zrm 10 600 12000).cells (zrm 10 600 12000).slots A) (F0 m 24 ls []) := by
  obtain ⟨hst, C, hr, hlk, hT⟩ := id K0
  intro n9
  induction n9 with
  | zero =>
    intro k cells slots b H locs ls hn hcs hss hbk I0
    have eb : b = zt_broken T T.1.2 0 := hbk.elim (fun h => h.1.trans h.2.symm) (fun h => by obtain ⟨j, -, h1, h2⟩ := h; exact h1.trans h2.symm)
    subst eb
    obtain ⟨S, M, Ct, hF, G, hC, I, hl⟩ := I0
    have hx := C.1
    have hb := C.2.1
    obtain ⟨pl, lo, pt, ty, pa, la, ap, ad, ae, hF9⟩ := id hF
    obtain ⟨⟨n1, n2⟩, ⟨q0, q1⟩, ⟨b2, b3, b4⟩, qp, dk, ek⟩ := id hC
    obtain ⟨t1, t2, t3, t4, t5, t6, t7⟩ := id hT
    have hl : lv_has ls 15 [(12, .int (nI k)), (11, .int 1), (10, .int (zt_broken T T.1.2 0)), (0, .ref x), (1, .int z), (2, .ref (ar 2)), (3, .ref (ar 3)), (4, .ref (ar 4)), (5, .ref (ar 5)), (6, .ref (ar 6)), (7, .ref (ar 7)), (8, .ref (ar 1)), (9, .ref (ar 0))] := hl
    refine lv_iload hx hb dL_isSo_24 (lv_at hl 0 rfl) ?_
    refine lv_aload hx hb dL_isSo_26 (lv_at hl 12 rfl) ?_
    refine lv_iconst (v := 1) hx hb dL_isSo_28 (by decide) ?_
    refine zr_iald (v := nI T.1.2) C I.swap (LG.at G (i := 0) (by decide)) (show vp_in (nI 1) _ from LG.inn G (i := 0) (k := 1) (by decide) (by decide)) (show zh_A M (ar 0) (nI 1).toNatClampNeg = _ from LG.rd G (by decide) (by decide) (q1)) dL_isSo_29 ?_
    refine lv_icmp_ge (tgt := 203) hx hb dL_isSo_30 (by decide) (fun _ => ?_) (fun h9 => absurd ((nI_leI (a := T.1.2) (b := k) (by omega) (by omega)).mpr (by omega)) h9)
    refine lv_iconst (v := 0) hx hb dL_isSo_203 (by decide) ?_
    refine lv_istore (lv' := [(12, .int 0), (11, .int 1), (10, .int (zt_broken T T.1.2 0)), (0, .ref x), (1, .int z), (2, .ref (ar 2)), (3, .ref (ar 3)), (4, .ref (ar 4)), (5, .ref (ar 5)), (6, .ref (ar 6)), (7, .ref (ar 7)), (8, .ref (ar 1)), (9, .ref (ar 0))]) hx hb dL_isSo_204 hl (by decide) rfl (fun ls hl => ?_)
    exact k_isSo_206 K0 T.1.1 0 _ _ _ _ ls (Nat.zero_add _) (by show cells + 12 * T.1.1 ≤ 580; omega) (by show slots + 312 * T.1.1 ≤ 11800; omega) ⟨S, M, Ct, hF, G, hC, I, lv_sub hl [0, 2, 1, 3, 4, 5, 6, 7, 8, 9, 10, 11, 12] rfl⟩
  | succ n9 ih =>
    intro k cells slots b H locs ls hn hcs hss hbk I0
    obtain ⟨S, M, Ct, hF, G, hC, I, hl⟩ := I0
    have hx := C.1
    have hb := C.2.1
    obtain ⟨pl, lo, pt, ty, pa, la, ap, ad, ae, hF9⟩ := id hF
    obtain ⟨⟨n1, n2⟩, ⟨q0, q1⟩, ⟨b2, b3, b4⟩, qp, dk, ek⟩ := id hC
    obtain ⟨t1, t2, t3, t4, t5, t6, t7⟩ := id hT
    have hl : lv_has ls 15 [(12, .int (nI k)), (11, .int 1), (10, .int b), (0, .ref x), (1, .int z), (2, .ref (ar 2)), (3, .ref (ar 3)), (4, .ref (ar 4)), (5, .ref (ar 5)), (6, .ref (ar 6)), (7, .ref (ar 7)), (8, .ref (ar 1)), (9, .ref (ar 0))] := hl
    obtain ⟨v5, v6, v7, v8, v9, v10, v11, v12, v13, v14⟩ := t5 k (by omega)
    obtain ⟨w2, w3, w4, w5, w6, w7⟩ := ek k (by omega)
    have hbs := zq_broken_s T n9 k
    rcases hbk with ⟨rfl, hb1⟩ | ⟨j, hj, rfl, hb1⟩
    · rw [hbs] at hb1
      refine lv_iload hx hb dL_isSo_24 (lv_at hl 0 rfl) ?_
      refine lv_aload hx hb dL_isSo_26 (lv_at hl 12 rfl) ?_
      refine lv_iconst (v := 1) hx hb dL_isSo_28 (by decide) ?_
      refine zr_iald (v := nI T.1.2) C I.swap (LG.at G (i := 0) (by decide)) (show vp_in (nI 1) _ from LG.inn G (i := 0) (k := 1) (by decide) (by decide)) (show zh_A M (ar 0) (nI 1).toNatClampNeg = _ from LG.rd G (by decide) (by decide) (q1)) dL_isSo_29 ?_
      refine lv_icmp_ge (tgt := 203) hx hb dL_isSo_30 (by decide) (fun h9 => absurd h9 (fun h8 => absurd ((nI_leI (a := T.1.2) (b := k) (by omega) (by omega)).mp h8) (by omega))) (fun _ => ?_)
      refine lv_iload hx hb dL_isSo_33 (lv_at hl 1 rfl) ?_
      refine lv_if_eq (tgt := 203) hx hb dL_isSo_35 (by decide) (fun h9 => absurd h9 (fun h8 => absurd ((nI_eq (a := 1) (b := 0) (by omega) (by omega)).mp h8) (by decide))) (fun _ => ?_)
      refine lv_iload hx hb dL_isSo_38 (lv_at hl 2 rfl) ?_
      refine lv_if_ge (tgt := 70) hx hb dL_isSo_40 (by decide) (fun h9 => absurd h9 (by decide)) (fun _ => ?_)
      refine lv_iload hx hb dL_isSo_43 (lv_at hl 0 rfl) ?_
      refine lv_aload_n hx hb dL_isSo_45 rfl (lv_at hl 5 rfl) ?_
      refine lv_aload hx hb dL_isSo_46 (lv_at hl 7 rfl) ?_
      refine lv_aload hx hb dL_isSo_48 (lv_at hl 8 rfl) ?_
      refine lv_aload hx hb dL_isSo_50 (lv_at hl 9 rfl) ?_
      refine lv_aload hx hb dL_isSo_52 (lv_at hl 10 rfl) ?_
      have hsm : zt_sum T k < 1000003 := zd_sum_lt _ _ _ _ _ _
      refine zc_S (n := 6) (rest := []) C I.swap (k_L_sum l g M ar Ct G k (if k = 0 then 17 else T.2 11 (k - 1)) (T.2 5 k) (T.2 6 k) (T.2 8 k) (T.2 9 k) (T.2 10 k) (by omega) w2 w4 w5 w6 (fun h => by rw [if_neg h]; exact (ek (k - 1) (by omega)).2.2.2.2.2) (fun h => if_pos h) (by split; decide; exact (t5 (k - 1) (by omega)).2.2.2.2.2.2.2.2.1) (by omega) (by omega) (by omega) (by omega) (by omega)) zm_386 zm_387 zm_15 zm_388 rfl hl.1 dL_isSo_54 (by decide +kernel) rfl ⟨Nat.le_of_ble_eq_true rfl, Nat.le_of_ble_eq_true rfl⟩ (Nat.le_of_ble_eq_true rfl) ⟨by show cells + 0 ≤ 600; omega, by show slots + 0 ≤ 12000; omega⟩ (fun v M' H locs hq I => ?_)
      obtain ⟨rfl, eM⟩ := hq
      rw [eM] at I
      have I := I.swap
      refine lv_aload hx hb dL_isSo_57 (lv_at hl 10 rfl) ?_
      refine lv_iload hx hb dL_isSo_59 (lv_at hl 0 rfl) ?_
      refine zr_iald (v := nI (T.2 11 k)) C I.swap (LG.at G (i := 7) (by decide)) (show vp_in (nI k) _ from LG.inn G (i := 7) (k := k) (by decide) (show k < 30 by omega)) (show zh_A M (ar 7) (nI k).toNatClampNeg = _ from LG.rd G (by decide) (show k < 30 by omega) (w7)) dL_isSo_61 ?_
      refine lv_icmp_eq (tgt := 70) hx hb dL_isSo_62 (by decide) (fun c62 => ?_) (fun c62 => ?_)
      · have c62 : (zt_sum T k) = (T.2 11 k) := (nI_eq (a := zt_sum T k) (b := T.2 11 k) (by omega) (by omega)).mp c62
        refine lv_iload hx hb dL_isSo_70 (lv_at hl 2 rfl) ?_
        exact k_isSo_72 K0 k (-1) (by omega) (fun H locs ls I1 => ih (k + 1) (cells + 14) (slots + 324) (-1) H locs ls (by omega) (by omega) (by omega) (Or.inl ⟨rfl, hb1.trans (if_neg (fun h => h c62.symm))⟩) I1) (by show cells + 0 ≤ 580; omega) (by show slots + 0 ≤ 11600; omega) ⟨S, M, Ct, hF, G, hC, I, lv_sub hl [0, 1, 3, 4, 5, 6, 7, 8, 9, 10, 11, 12] rfl⟩
      · have c62 : ¬ (zt_sum T k) = (T.2 11 k) := fun h9 => c62 ((nI_eq (a := zt_sum T k) (b := T.2 11 k) (by omega) (by omega)).mpr h9)
        refine lv_iload hx hb dL_isSo_65 (lv_at hl 0 rfl) ?_
        refine lv_goto (tgt := 72) hx hb dL_isSo_67 (by decide) ?_
        exact k_isSo_72 K0 k (nI k) (by omega) (fun H locs ls I1 => ih (k + 1) (cells + 14) (slots + 324) (nI k) H locs ls (by omega) (by omega) (by omega) (Or.inr ⟨k, by omega, rfl, hb1.trans (if_pos (fun h => c62 h.symm))⟩) I1) (by show cells + 0 ≤ 580; omega) (by show slots + 0 ≤ 11600; omega) ⟨S, M, Ct, hF, G, hC, I, lv_sub hl [0, 1, 3, 4, 5, 6, 7, 8, 9, 10, 11, 12] rfl⟩
    · refine lv_iload hx hb dL_isSo_24 (lv_at hl 0 rfl) ?_
      refine lv_aload hx hb dL_isSo_26 (lv_at hl 12 rfl) ?_
      refine lv_iconst (v := 1) hx hb dL_isSo_28 (by decide) ?_
      refine zr_iald (v := nI T.1.2) C I.swap (LG.at G (i := 0) (by decide)) (show vp_in (nI 1) _ from LG.inn G (i := 0) (k := 1) (by decide) (by decide)) (show zh_A M (ar 0) (nI 1).toNatClampNeg = _ from LG.rd G (by decide) (by decide) (q1)) dL_isSo_29 ?_
      refine lv_icmp_ge (tgt := 203) hx hb dL_isSo_30 (by decide) (fun h9 => absurd h9 (fun h8 => absurd ((nI_leI (a := T.1.2) (b := k) (by omega) (by omega)).mp h8) (by omega))) (fun _ => ?_)
      refine lv_iload hx hb dL_isSo_33 (lv_at hl 1 rfl) ?_
      refine lv_if_eq (tgt := 203) hx hb dL_isSo_35 (by decide) (fun h9 => absurd h9 (fun h8 => absurd ((nI_eq (a := 1) (b := 0) (by omega) (by omega)).mp h8) (by decide))) (fun _ => ?_)
      refine lv_iload hx hb dL_isSo_38 (lv_at hl 2 rfl) ?_
      refine lv_if_ge (tgt := 70) hx hb dL_isSo_40 (by decide) (fun _ => ?_) (fun h9 => absurd ((nI_leI (a := 0) (b := j) (by omega) (by omega)).mpr (by omega)) h9)
      refine lv_iload hx hb dL_isSo_70 (lv_at hl 2 rfl) ?_
      exact k_isSo_72 K0 k (nI j) (by omega) (fun H locs ls I1 => ih (k + 1) (cells + 14) (slots + 324) (nI j) H locs ls (by omega) (by omega) (by omega) (Or.inr ⟨j, by omega, rfl, hb1⟩) I1) (by show cells ≤ 580; omega) (by show slots ≤ 11600; omega) ⟨S, M, Ct, hF, G, hC, I, lv_sub hl [0, 1, 3, 4, 5, 6, 7, 8, 9, 10, 11, 12] rfl⟩

end ZSO
set_option maxRecDepth 100000 in
set_option maxHeartbeats 4000000 in
theorem k_L_isSo (l : Launch) (g : zG) (hst : l.stackTraces = false) (S M : zS) (T : zT) (x : Nat) (z : Int32) (ar : Nat → Nat) (Ct : Nat → Nat → Int32) (hT : zt_ok T) (hF : FE g S T x) (G : LG M ar Ct) (hC : LC Ct T) (hd : zdis S M) : zM l yL_isSo cL_isSo 15 (some .boolean) (zrm 10 600 12000) g [.ref x, .int z, .ref (ar 2), .ref (ar 3), .ref (ar 4), .ref (ar 5), .ref (ar 6), .ref (ar 7), .ref (ar 1), .ref (ar 0)] (zh_U S M) ((fun w U' => w = some (.int 1) ∧ ∃ (S' M' : zS), U' = zh_U S' M' ∧ zdis S' M' ∧ FE g S' T x ∧ LR M' ar T)) := by
  refine zM_of (nm := "isSo") (by decide +kernel) rfl (Nat.le_of_ble_eq_true rfl) ?_
  intro p e s m args below meth c A ls C hr hlk hin I hl
  have C : CallFix p m c cL_isSo 15 s args zc_W RL := C
  have hx := C.1
  have hb := C.2.1
  have hl : lv_has ls 15 [(0, .ref x), (1, .int z), (2, .ref (ar 2)), (3, .ref (ar 3)), (4, .ref (ar 4)), (5, .ref (ar 5)), (6, .ref (ar 6)), (7, .ref (ar 7)), (8, .ref (ar 1)), (9, .ref (ar 0))] := hl
  have K0 : zSC p l s m args meth c T := ⟨hst, C, hr, hlk, hT⟩
  have I := zh_V.part hd I
  obtain ⟨pl, lo, pt, ty, pa, la, ap, ad, ae, hF9⟩ := id hF
  obtain ⟨⟨n1, n2⟩, ⟨q0, q1⟩, ⟨b2, b3, b4⟩, qp, dk, ek⟩ := id hC
  obtain ⟨t1, t2, t3, t4, t5, t6, t7⟩ := id hT
  refine lv_iconst (v := (-1)) hx hb dL_isSo_0 (by decide) ?_
  refine lv_istore (lv' := [(10, .int (-1)), (0, .ref x), (1, .int z), (2, .ref (ar 2)), (3, .ref (ar 3)), (4, .ref (ar 4)), (5, .ref (ar 5)), (6, .ref (ar 6)), (7, .ref (ar 7)), (8, .ref (ar 1)), (9, .ref (ar 0))]) hx hb dL_isSo_1 hl (by decide) rfl (fun ls hl => ?_)
  refine lv_aload_n hx hb dL_isSo_3 rfl (lv_at hl 1 rfl) ?_
  refine zc_V (n := 0) (rest := []) C I hF9.1.1 rfl rfl (k_X3_entries l g hst S T x pl lo pt ty pa la ap ad ae hT hF9) zm_399 zm_400 zm_401 zm_16 zm_402 rfl hl.1 dL_isSo_4 (by decide +kernel) rfl ⟨Nat.le_of_ble_eq_true rfl, Nat.le_of_ble_eq_true rfl⟩ (Nat.le_of_ble_eq_true rfl) ⟨by show 0 + 0 ≤ 600; omega, by show 0 + 0 ≤ 12000; omega⟩ (fun v S' H locs hq I => ?_)
  obtain ⟨rfl, eS⟩ := hq
  rw [eS] at I
  refine lv_aload hx hb dL_isSo_7 (lv_at hl 10 rfl) ?_
  refine lv_iconst (v := 1) hx hb dL_isSo_9 (by decide) ?_
  refine zr_iald (v := nI T.1.2) C I.swap (LG.at G (i := 0) (by decide)) (show vp_in (nI 1) _ from LG.inn G (i := 0) (k := 1) (by decide) (by decide)) (show zh_A M (ar 0) (nI 1).toNatClampNeg = _ from LG.rd G (by decide) (by decide) (q1)) dL_isSo_10 ?_
  refine lv_icmp_ne (tgt := 18) hx hb dL_isSo_11 (by decide) (fun h9 => absurd (rfl) h9) (fun _ => ?_)
  refine lv_iconst (v := 1) hx hb dL_isSo_14 (by decide) ?_
  refine lv_goto (tgt := 19) hx hb dL_isSo_15 (by decide) ?_
  refine lv_istore (lv' := [(11, .int 1), (10, .int (-1)), (0, .ref x), (1, .int z), (2, .ref (ar 2)), (3, .ref (ar 3)), (4, .ref (ar 4)), (5, .ref (ar 5)), (6, .ref (ar 6)), (7, .ref (ar 7)), (8, .ref (ar 1)), (9, .ref (ar 0))]) hx hb dL_isSo_19 hl (by decide) rfl (fun ls hl => ?_)
  refine lv_iconst (v := 0) hx hb dL_isSo_21 (by decide) ?_
  refine lv_istore (lv' := [(12, .int 0), (11, .int 1), (10, .int (-1)), (0, .ref x), (1, .int z), (2, .ref (ar 2)), (3, .ref (ar 3)), (4, .ref (ar 4)), (5, .ref (ar 5)), (6, .ref (ar 6)), (7, .ref (ar 7)), (8, .ref (ar 1)), (9, .ref (ar 0))]) hx hb dL_isSo_22 hl (by decide) rfl (fun ls hl => ?_)
  exact k_isSo_24 K0 T.1.2 0 _ _ (-1) _ _ ls (Nat.zero_add _) (by show 0 + 0 + 14 * T.1.2 ≤ 500; omega) (by show 0 + 0 + 324 * T.1.2 ≤ 9800; omega) (Or.inl ⟨rfl, rfl⟩) ⟨S, M, Ct, hF, G, hC, I, lv_sub hl [0, 1, 2, 3, 4, 5, 6, 7, 8, 9, 10, 11, 12] rfl⟩

