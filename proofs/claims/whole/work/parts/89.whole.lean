/-! the law's switch and loop -/
theorem FR_nA {g : zG} {S : zS} {T : zT} {x pl lo pt ty pa la : Nat} {ap ad ae : Nat → Nat} (hF : FR g S T x pl lo pt ty pa la ap ad ae) {d : Nat} (n : Nat) (hd : d ∉ zh_L S) : FR g (zh_nA S d 9 n) T x pl lo pt ty pa la ap ad ae := by
  have hF0 := hF
  obtain ⟨⟨f1, f2, f3, f4, f5⟩, ⟨f6, f7, f8, f9, f10⟩, f11, f12, f13, f14, f15, f16, f17, f18, f19⟩ := hF
  have ne : ∀ a : Nat, a ∈ zh_L S → a ≠ d := fun a h e => hd (e ▸ h)
  refine FR_mk hF0 (fun k a h => ⟨zh_at_nA h hd, va_up_ne _ _ (ne a h.1), va_up_ne _ _ (ne a h.1), fun j => rfl⟩) rfl (fun a h => rfl) (fun t ht => ?_) (fun i hi => (f15 i hi).2.2) f16 (fun h => ?_)
  · rw [show zh_A (zh_nA S d 9 n) pt = zh_A S pt from va_up_ne _ _ (ne pt f6.1)]; exact f10 t ht
  · obtain ⟨k1, k2⟩ := h
    by_cases e : pa = d
    · subst e
      have k3 : va_up (zh_K S) pa 9 pa = 8 := k2
      rw [va_up_self] at k3
      exact absurd k3 (by decide)
    · have k3 : va_up (zh_K S) d 9 pa = 8 := k2
      rw [va_up_ne _ _ e] at k3
      exact ⟨(List.mem_append.mp k1).elim id (fun h => absurd (List.mem_singleton.mp h) e), k3⟩
theorem zl_more {L i : Nat} (hL : L ≤ 2048) (hi : i ≤ L) (h : ¬ nI L - 4 < nI i) : i + 4 ≤ L := by
  have h : ¬ nI L - nI 4 < nI i := h
  rcases Nat.lt_or_ge L 4 with h4 | h4
  · refine absurd ?_ h
    have h1 : nI L - nI 4 < 0 := pk_sneg (b := 4) (by decide) h4
    have h2 : (0 : Int32) ≤ nI i := nI_pos' (by omega)
    rw [Int32.lt_iff_toInt_lt] at h1 ⊢
    rw [Int32.le_iff_toInt_le] at h2
    omega
  · rw [pk_sub h4] at h
    have h2 : ¬ L - 4 < i := fun h9 => h ((nI_ltI (a := L - 4) (b := i) (by omega) (by omega)).mpr h9)
    omega
section ZLOOP
variable {p : Program} {l : Launch} {e : Env} {s : State} {m : MethodId} {below : List Frame} {meth : Method} {c : Code} {H : Heap} {locs : List Loc} {cells slots : Nat} {Q : State → Prop} {g : zG} {b L i x mo oa : Nat} {xs : Nat → Int32} {ar : Nat → Nat} {ls : Array Slot}
set_option maxRecDepth 100000 in
set_option maxHeartbeats 4000000 in
theorem k_law_step (C0 : zLC p l s m c b L xs) (hi : i + 4 ≤ L) (hc : cells + 10 ≤ 601024) (hs : slots + 300 ≤ 7293034) (I0 : zLI g s b x mo oa ar i H locs ls)
    (K : ∀ (H : Heap) (locs : List Loc) (ls : Array Slot), zLI g s b x mo oa ar i H locs ls → W p l e room_1 s m #[Value.ref b] below meth c H locs (cells + 10) (slots + 300) Q (F0 m 1239 ls [])) : W p l e room_1 s m #[Value.ref b] below meth c H locs cells slots Q (F0 m 32 ls []) := by
  obtain ⟨hst, C, hX, hbl, hL⟩ := id C0
  obtain ⟨S, M, T, hT, hF, ho, ho1, hM, I, hl⟩ := id I0
  have hx := C.1
  have hb := C.2.1
  have hbA : ¬ (fun q : Nat => s.heap.size ≤ q) b := Nat.not_le.mpr hbl
  refine lv_aload_n hx hb dL_law_32 rfl (lv_at hl 0 rfl) ?_
  refine lv_iload hx hb dL_law_33 (lv_at hl 4 rfl) ?_
  refine va_sld hx hb hX hbl hbA I.S (vp_in_nI (n := i) (by omega) (by omega)) dL_law_35 ?_
  refine lv_bipush (v := 31) hx hb dL_law_36 (by decide) ?_
  refine lv_iand hx hb dL_law_38 ?_
  obtain ⟨j, hj, ej⟩ := pk_andE (xs (nI i).toNatClampNeg) (m := 31) 5 (by decide)
  refine zr_top (y := nI j) ej ?_
  rcases Nat.lt_or_ge j 20 with h | h
  · match j, h with
    | 0, _ =>
      refine lv_tableIn (off := 93) (tgt := 132) hx hb dL_law_39 (by decide) (by decide) (by rfl) (by decide) ?_
      exact k_law_promise C0 hi hc hs I0 K
    | 1, _ =>
      refine lv_tableIn (off := 149) (tgt := 188) hx hb dL_law_39 (by decide) (by decide) (by rfl) (by decide) ?_
      exact k_law_sign C0 hi hc hs I0 K
    | 2, _ =>
      refine lv_tableIn (off := 205) (tgt := 244) hx hb dL_law_39 (by decide) (by decide) (by rfl) (by decide) ?_
      exact k_law_seedsOf C0 hi hc hs I0 K
    | 3, _ =>
      refine lv_tableIn (off := 261) (tgt := 300) hx hb dL_law_39 (by decide) (by decide) (by rfl) (by decide) ?_
      exact k_law_open C0 hi hc hs I0 K
    | 4, _ =>
      refine lv_tableIn (off := 317) (tgt := 356) hx hb dL_law_39 (by decide) (by decide) (by rfl) (by decide) ?_
      exact k_law_isOpened C0 hi hc hs I0 K
    | 5, _ =>
      refine lv_tableIn (off := 380) (tgt := 419) hx hb dL_law_39 (by decide) (by decide) (by rfl) (by decide) ?_
      exact k_law_setPart C0 hi hc hs I0 K
    | 6, _ =>
      refine lv_tableIn (off := 448) (tgt := 487) hx hb dL_law_39 (by decide) (by decide) (by rfl) (by decide) ?_
      exact k_law_roll C0 hi hc hs I0 K
    | 7, _ =>
      refine lv_tableIn (off := 528) (tgt := 567) hx hb dL_law_39 (by decide) (by decide) (by rfl) (by decide) ?_
      exact k_law_entries C0 hi hc hs I0 K
    | 8, _ =>
      refine lv_tableIn (off := 541) (tgt := 580) hx hb dL_law_39 (by decide) (by decide) (by rfl) (by decide) ?_
      exact k_law_value C0 hi hc hs I0 K
    | 9, _ =>
      refine lv_tableIn (off := 597) (tgt := 636) hx hb dL_law_39 (by decide) (by decide) (by rfl) (by decide) ?_
      exact k_law_rejected C0 hi hc hs I0 K
    | 10, _ =>
      refine lv_tableIn (off := 653) (tgt := 692) hx hb dL_law_39 (by decide) (by decide) (by rfl) (by decide) ?_
      exact k_law_sum C0 hi hc hs I0 K
    | 11, _ =>
      refine lv_tableIn (off := 709) (tgt := 748) hx hb dL_law_39 (by decide) (by decide) (by rfl) (by decide) ?_
      exact k_law_alter C0 hi hc hs I0 K
    | 12, _ =>
      refine lv_tableIn (off := 777) (tgt := 816) hx hb dL_law_39 (by decide) (by decide) (by rfl) (by decide) ?_
      exact k_law_broken C0 hi hc hs I0 K
    | 13, _ =>
      refine lv_tableIn (off := 790) (tgt := 829) hx hb dL_law_39 (by decide) (by decide) (by rfl) (by decide) ?_
      exact k_law_found C0 hi hc hs I0 K
    | 14, _ =>
      refine lv_tableIn (off := 846) (tgt := 885) hx hb dL_law_39 (by decide) (by decide) (by rfl) (by decide) ?_
      exact k_law_wrong C0 hi hc hs I0 K
    | 15, _ =>
      refine lv_tableIn (off := 902) (tgt := 941) hx hb dL_law_39 (by decide) (by decide) (by rfl) (by decide) ?_
      exact k_law_dispute C0 hi hc hs I0 K
    | 16, _ =>
      refine lv_tableIn (off := 958) (tgt := 997) hx hb dL_law_39 (by decide) (by decide) (by rfl) (by decide) ?_
      exact k_law_isStruck C0 hi hc hs I0 K
    | 17, _ =>
      refine lv_tableIn (off := 1021) (tgt := 1060) hx hb dL_law_39 (by decide) (by decide) (by rfl) (by decide) ?_
      exact k_law_count C0 hi hc hs I0 K
    | 18, _ =>
      refine lv_tableIn (off := 1089) (tgt := 1128) hx hb dL_law_39 (by decide) (by decide) (by rfl) (by decide) ?_
      exact k_law_uneven C0 hi hc hs I0 K
    | 19, _ =>
      refine lv_tableIn (off := 1144) (tgt := 1183) hx hb dL_law_39 (by decide) (by decide) (by rfl) (by decide) ?_
      exact k_law_total C0 hi hc hs I0 K
    | j + 20, h => exact absurd h (by omega)
  · refine lv_tableOut (tgt := 1239) hx hb dL_law_39 (Or.inr ?_) (by decide) ?_
    · rw [nI_toInt (by omega)]; omega
    · refine W.widen (k := cells + 10) (n := slots + 300) (Nat.le_add_right _ _) (Nat.le_add_right _ _) ?_
      exact K _ _ _ I0
set_option maxRecDepth 100000 in
set_option maxHeartbeats 4000000 in
theorem k_law_loop (C0 : zLC p l s m c b L xs) (hr : meth.sig.returnType = ret) (hlk : meth.locks = false) : ∀ (n i cells slots : Nat) (H : Heap) (locs : List Loc) (ls : Array Slot), i ≤ L → L < i + 4 * n → cells + 10 * n ≤ 601024 → slots + 300 * n ≤ 7293034 → zLI g s b x mo oa ar i H locs ls → W p l e room_1 s m #[Value.ref b] below meth c H locs cells slots (lw_Z below #[Value.ref b] s) (F0 m 23 ls []) := by
  obtain ⟨hst, C, hX, hbl, hL⟩ := id C0
  have hx := C.1
  have hb := C.2.1
  have hbA : ¬ (fun q : Nat => s.heap.size ≤ q) b := Nat.not_le.mpr hbl
  intro n
  induction n with
  | zero =>
    intro i cells slots H locs ls h1 h2
    exact absurd h2 (by omega)
  | succ n ih =>
    intro i cells slots H locs ls h1 h2 h3 h4 I0
    obtain ⟨S, M, T, hT, hF, ho, ho1, hM, I, hl⟩ := id I0
    refine lv_iload hx hb dL_law_23 (lv_at hl 4 rfl) ?_
    refine lv_aload_n hx hb dL_law_25 rfl (lv_at hl 0 rfl) ?_
    refine va_slen hx hb hX hbl hbA I.S dL_law_26 ?_
    refine lv_iconst (v := 4) hx hb dL_law_27 (by decide) ?_
    refine lv_isub hx hb dL_law_28 ?_
    refine lv_icmp_gt (tgt := 1245) hx hb dL_law_29 (by decide) (fun c9 => ?_) (fun c9 => ?_)
    · refine lv_iconst (v := 1) hx hb dL_law_1245 (by decide) ?_
      refine va_forget (fun q hq => I.S.2.2 q hq) ?_
      refine W.widen (k := 601024) (n := 7293034) (by omega) (by omega) ?_
      exact lw_ret hx hb hr hlk dL_law_1246
    · have hi : i + 4 ≤ L := zl_more hL h1 c9
      refine k_law_step C0 hi (by omega) (by omega) I0 (fun H locs ls I0 => ?_)
      obtain ⟨S, M, T, hT, hF, ho, ho1, hM, I, hl⟩ := I0
      refine lv_iinc (v := nI (i + 4)) (lv' := [(4, .int (nI (i + 4))), (0, .ref b), (1, .ref x), (2, .ref mo), (3, .ref oa)]) hx hb dL_law_1239 hl (k := 4) rfl (nI_add i 4) (by decide) rfl (fun ls hl => ?_)
      refine lv_goto (tgt := 23) hx hb dL_law_1242 (by decide) ?_
      exact ih (i + 4) (cells + 10) (slots + 300) _ _ _ hi (by omega) (by omega) (by omega) ⟨S, M, T, hT, hF, ho, ho1, hM, I, lv_sub hl [1, 2, 3, 4, 0] rfl⟩
end ZLOOP
set_option maxRecDepth 100000 in
set_option maxHeartbeats 4000000 in
theorem whole_start {p : Program} {e : Env} {s : State} {m : MethodId} {below : List Frame} {meth : Method} {c : Code} (l : Launch) (hflags : l.flags = flags0) {b L : Nat} {xs : Nat → Int32} (hL : L ≤ 2048) (C0 : lw_At p s m meth c b L xs) : W p l e room_1 s m #[Value.ref b] below meth c s.heap [] 0 0 (lw_Z below #[Value.ref b] s) (entryFrame m ([Value.ref b] : List Value).toArray 8) := by
  obtain ⟨hx, hb, hr, hml, hown, hts, hX, hbl, hlk, hgv⟩ := id C0
  have hst : l.stackTraces = false := by unfold Launch.stackTraces; rw [hflags]; decide +kernel
  have C : CallFix p m c cL_law 8 s #[Value.ref b] zc_W RL := ⟨hx, hb, hml, hown, fun w h => hts w (zc_tbl w h)⟩
  obtain ⟨g, hg, hK, hO⟩ := zstart_all hts hgv
  have I : zh_V g (fun q : Nat => s.heap.size ≤ q) s [] zS0 s.heap [] := ⟨hK, fun k q h => by simp [zS0_w] at h, ⟨fun i j p q h => by simp [zS0_w] at h, fun k q h => by simp [zS0_w] at h⟩, va_S.rf, fun _ h => h, fun q h => by rw [hg]; exact h, by rw [hg]; exact Nat.le_refl _, hO⟩
  have hl := lv_entry ([.ref b]) (n := 8) (Nat.le_of_ble_eq_true rfl)
  rw [lg_entry_eq]
  generalize (lg_sl ([.ref b]) ++ List.replicate (8 - (lg_sl ([.ref b])).length) Slot.unset).toArray = ls at hl ⊢
  have hl : lv_has ls 8 [(0, .ref b)] := hl
  refine zw_Forge C I zm_44 zm_45 zm_24 (Nat.le_of_ble_eq_true rfl) (Nat.le_of_ble_eq_true rfl) dL_law_0 (fun x H hx9 I => ?_)
  refine lv_dup hx hb dL_law_3 rfl ?_
  refine zc_I (n := 0) (rest := [.ref x]) C I (k_X3_init l g (zh_nO zS0 x 3) x zh_at_new) zm_46 zm_47 zm_24 zm_48 rfl rfl hl.1 dL_law_4 (by decide +kernel) rfl ⟨Nat.le_of_ble_eq_true rfl, Nat.le_of_ble_eq_true rfl⟩ (Nat.le_of_ble_eq_true rfl) ⟨Nat.le_of_ble_eq_true rfl, Nat.le_of_ble_eq_true rfl⟩ (fun v S H locs hq I => ?_)
  obtain ⟨rfl, hF, -⟩ := hq
  refine lv_astore_n (lv' := [(1, .ref x), (0, .ref b)]) hx hb dL_law_7 rfl hl (by decide) rfl (fun ls hl => ?_)
  have I := I.beside
  refine zw_Model C I zm_501 zm_502 zm_28 (Nat.le_of_ble_eq_true rfl) (Nat.le_of_ble_eq_true rfl) dL_law_8 (fun mo H hmo9 I => ?_)
  refine lv_dup hx hb dL_law_11 rfl ?_
  refine zc_I (n := 0) (rest := [.ref mo]) C I (k_X4_init l g (zh_nO zS0 mo 4) mo zh_at_new (if_pos rfl) (if_pos rfl)) zm_503 zm_504 zm_28 zm_505 rfl rfl hl.1 dL_law_12 (by decide +kernel) rfl ⟨Nat.le_of_ble_eq_true rfl, Nat.le_of_ble_eq_true rfl⟩ (Nat.le_of_ble_eq_true rfl) ⟨Nat.le_of_ble_eq_true rfl, Nat.le_of_ble_eq_true rfl⟩ (fun v M H locs hq I => ?_)
  obtain ⟨rfl, -, ar, hM⟩ := hq
  refine lv_astore_n (lv' := [(2, .ref mo), (1, .ref x), (0, .ref b)]) hx hb dL_law_15 rfl hl (by decide) rfl (fun ls hl => ?_)
  have I := I.swap
  refine lv_iconst (v := 1) hx hb dL_law_16 (by decide) ?_
  refine zr_newJ (N := 1) C I zm_689 rfl (by decide) (Nat.le_of_ble_eq_true rfl) (Nat.le_of_ble_eq_true rfl) dL_law_17 (fun oa H hoa I => ?_)
  refine lv_astore_n (lv' := [(3, .ref oa), (2, .ref mo), (1, .ref x), (0, .ref b)]) hx hb dL_law_19 rfl hl (by decide) rfl (fun ls hl => ?_)
  refine lv_iconst (v := 0) hx hb dL_law_20 (by decide) ?_
  refine lv_istore (lv' := [(4, .int 0), (3, .ref oa), (2, .ref mo), (1, .ref x), (0, .ref b)]) hx hb dL_law_21 hl (by decide) rfl (fun ls hl => ?_)
  refine W.widen (k := 100) (n := 10000) (Nat.le_of_ble_eq_true rfl) (Nat.le_of_ble_eq_true rfl) ?_
  obtain ⟨pl, lo, pt, ty, pa, la, ap, ad, ae, hF⟩ := hF
  exact k_law_loop ⟨hst, C, hX, hbl, hL⟩ hr hlk 600 0 100 10000 _ _ _ (Nat.zero_le L) (by omega) (by decide) (by decide) ⟨_, M, zT0, zT0_ok, ⟨pl, lo, pt, ty, pa, la, ap, ad, ae, FR_nA hF 1 hoa⟩, zh_at_newA, va_up_self _ _ _, hM, I, lv_sub hl [4, 3, 2, 1, 0] rfl⟩
