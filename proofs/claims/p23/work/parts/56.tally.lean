/-! the tally -/
theorem zs_AA (S : zS) (a : Nat) (f h : Nat → Int32) : zh_sA (zh_sA S a f) a h = zh_sA S a h := by
  have e : va_up (va_up (zh_A S) a f) a h = va_up (zh_A S) a h := by
    funext b
    by_cases hb : b = a
    · subst hb; rw [va_up_self, va_up_self]
    · rw [va_up_ne _ _ hb, va_up_ne _ _ hb, va_up_ne _ _ hb]
  show (_, _, _, _, _, va_up (va_up (zh_A S) a f) a h, _, _) = _
  rw [e]; rfl
theorem zs_Aself (S : zS) (a : Nat) (f : Nat → Int32) : zh_A (zh_sA S a f) a = f := va_up_self _ _ _
theorem zs_Asame (S : zS) (a : Nat) : zh_sA S a (zh_A S a) = S := by
  have e : va_up (zh_A S) a (zh_A S a) = zh_A S := by
    funext b
    by_cases hb : b = a
    · subst hb; rw [va_up_self]
    · rw [va_up_ne _ _ hb]
  show (_, _, _, _, _, va_up (zh_A S) a (zh_A S a), _, _) = _
  rw [e]; rfl
theorem zt_cnt_y (T : zT) {f v k : Nat} (h : T.2 12 k = 0 ∧ T.2 8 k = f ∧ (T.2 9 k = v ∨ v = 0)) : zt_cnt T f v (k + 1) = zt_cnt T f v k + 1 := by
  show _ + (if _ then 1 else 0) = _
  rw [if_pos h]
theorem zt_cnt_n (T : zT) {f v k : Nat} (h : ¬ (T.2 12 k = 0 ∧ T.2 8 k = f ∧ (T.2 9 k = v ∨ v = 0))) : zt_cnt T f v (k + 1) = zt_cnt T f v k := by
  show _ + (if _ then 1 else 0) = _
  rw [if_neg h]; rfl

set_option maxRecDepth 100000 in
set_option maxHeartbeats 4000000 in
theorem k_fill (l : Launch) (g : zG) (S : zS) (a n : Nat) (v : Int32) (ha : zh_at S 6 a) (hn : zh_N S a = n) (hn2 : n < 2 ^ 31) : zM l yJ7_fill_53178 cJ7_fill_53178 4 none (zrm 0 0 0) g [.ref a, .int v] S (fun w S' => w = none ∧ ∃ fy : Nat → Int32, S' = zh_sA S a fy ∧ ∀ i : Nat, i < n → fy i = v) := by
  refine zM_of (nm := "fill") (by decide) rfl (Nat.le_of_ble_eq_true rfl) ?_
  intro p e s m args below meth c A ls C hr hlk hin I hl
  have C : CallFix p m c cJ7_fill_53178 4 s args zc_W RJ7 := C
  have hx := C.1
  have hb := C.2.1
  have hl : lv_has ls 4 [(0, .ref a), (1, .int v)] := hl
  have loop : ∀ (t k : Nat) (fy : Nat → Int32) (ls : Array Slot) (H : Heap) (locs : List Loc), k + t = n → (∀ i : Nat, i < k → fy i = v) → zh_V g A s [] (zh_sA S a fy) H locs → lv_has ls 4 [(3, .int (nI n)), (2, .int (nI k)), (0, .ref a), (1, .int v)] → W p l e (zrm 0 0 0) s m args below meth c H locs 0 0 (MQ below (zh_Po g A (fun w S' => w = none ∧ ∃ fy : Nat → Int32, S' = zh_sA S a fy ∧ ∀ i : Nat, i < n → fy i = v)) args s (zrm 0 0 0).cells (zrm 0 0 0).slots A) (F0 m 5 ls []) := by
    intro t
    induction t with
    | zero =>
      intro k fy ls H locs hk hf I hl
      refine lv_iload_n hx hb dJ7_fill_53178_5 rfl (lv_at hl 1 rfl) ?_
      refine lv_iload_n hx hb dJ7_fill_53178_6 rfl (lv_at hl 0 rfl) ?_
      refine lv_icmp_ge (tgt := 20) hx hb dJ7_fill_53178_7 (by decide) (fun _ => ?_) (fun h9 => absurd ((nI_leI (a := n) (b := k) (by omega) (by omega)).mpr (by omega)) h9)
      exact zr_vret C I hr hlk (⟨rfl, fy, rfl, fun i hi => hf i (by omega)⟩) (Nat.le_of_ble_eq_true rfl) (Nat.le_of_ble_eq_true rfl) dJ7_fill_53178_20
    | succ t ih =>
      intro k fy ls H locs hk hf I hl
      refine lv_iload_n hx hb dJ7_fill_53178_5 rfl (lv_at hl 1 rfl) ?_
      refine lv_iload_n hx hb dJ7_fill_53178_6 rfl (lv_at hl 0 rfl) ?_
      refine lv_icmp_ge (tgt := 20) hx hb dJ7_fill_53178_7 (by decide) (fun h9 => absurd h9 (fun h8 => absurd ((nI_leI (a := n) (b := k) (by omega) (by omega)).mp h8) (by omega))) (fun _ => ?_)
      refine lv_aload_n hx hb dJ7_fill_53178_10 rfl (lv_at hl 2 rfl) ?_
      refine lv_iload_n hx hb dJ7_fill_53178_11 rfl (lv_at hl 1 rfl) ?_
      refine lv_iload_n hx hb dJ7_fill_53178_12 rfl (lv_at hl 3 rfl) ?_
      refine zr_iast C I ha (by rw [show zh_N (zh_sA S a fy) a = n from hn]; exact vp_in_nI (by omega) (by omega)) dJ7_fill_53178_13 (fun H locs I => ?_)
      refine lv_iinc (v := nI (k + 1)) (lv' := [(2, .int (nI (k + 1))), (3, .int (nI n)), (0, .ref a), (1, .int v)]) hx hb dJ7_fill_53178_14 hl (k := 1) rfl (nI_add k 1) (by decide) rfl (fun ls hl => ?_)
      refine lv_goto (tgt := 5) hx hb dJ7_fill_53178_17 (by decide) ?_
      rw [zs_AA, zs_Aself, nI_clamp (by omega)] at I
      refine ih (k + 1) (upd fy k v) ls H locs (by omega) (fun i hi => ?_) I (lv_sub hl [1, 0, 2, 3] rfl)
      by_cases e9 : i = k
      · rw [e9, pk_us]
      · rw [pk_un e9]; exact hf i (by omega)
  refine lv_iconst (v := 0) hx hb dJ7_fill_53178_0 (by decide) ?_
  refine lv_istore_n (lv' := [(2, .int 0), (0, .ref a), (1, .int v)]) hx hb dJ7_fill_53178_1 rfl hl (by decide) rfl (fun ls hl => ?_)
  refine lv_aload_n hx hb dJ7_fill_53178_2 rfl (lv_at hl 1 rfl) ?_
  refine zr_len (kd := 6) (t := 0) (N := n) C I ha rfl rfl (hn) dJ7_fill_53178_3 ?_
  refine lv_istore_n (lv' := [(3, .int (nI n)), (2, .int 0), (0, .ref a), (1, .int v)]) hx hb dJ7_fill_53178_4 rfl hl (by decide) rfl (fun ls hl => ?_)
  exact loop n 0 (zh_A S a) ls _ _ (by omega) (fun i hi => absurd hi (Nat.not_lt_zero i)) (by rw [zs_Asame]; exact I) (lv_sub hl [0, 1, 2, 3] rfl)

set_option maxRecDepth 100000 in
set_option maxHeartbeats 4000000 in
theorem k_X3_tallyValues (l : Launch) (g : zG) (hst : l.stackTraces = false) (S : zS) (T : zT) (x pl lo pt ty pa la : Nat) (ap ad ae : Nat → Nat) (hT : zt_ok T) (hF : FR g S T x pl lo pt ty pa la ap ad ae) (f : Nat) (hf2 : 2 ≤ f) (hf3 : f ≤ 1000) : zM l yX3_tallyValues cX3_tallyValues 5 (some .int) (zrm 7 0 0) g [.ref x, .int (nI f)] S (fun w S' => w = some (.int (nI (zt_cnt T f 0 T.1.2))) ∧ ∃ fy : Nat → Int32, S' = zh_sA S ty fy ∧ ∀ v : Nat, 1 ≤ v → v ≤ 1000 → fy v = nI (zt_cnt T f v T.1.2)) := by
  refine zM_of (nm := "tallyValues") (by decide) rfl (Nat.le_of_ble_eq_true rfl) ?_
  intro p e s m args below meth c A ls C hr hlk hin I hl
  have C : CallFix p m c cX3_tallyValues 5 s args zc_W RX3 := C
  have hx := C.1
  have hb := C.2.1
  have hl : lv_has ls 5 [(0, .ref x), (1, .int (nI f))] := hl
  have hF0 := hF
  obtain ⟨⟨f1, f2, f3, f4, f5⟩, ⟨f6, f7, f8, f9, f10⟩, f11, f12, f13, f14, f15, f16, f17, f18, f19⟩ := hF
  obtain ⟨t1, t2, t3, t4, t5, t6, t7⟩ := hT
  refine lv_aload_n hx hb dX3_tallyValues_0 rfl (lv_at hl 0 rfl) ?_
  refine zg_Forge_tally (v := ty) C I f1 zm_71 (f5) dX3_tallyValues_1 ?_
  refine lv_iconst (v := 0) hx hb dX3_tallyValues_4 (by decide) ?_
  refine zc_S (n := 2) (rest := []) C I (k_fill l g S ty 1001 0 f8 f9 (by decide)) zm_451 zm_452 zm_29 zm_453 rfl hl.1 dX3_tallyValues_5 (by decide +kernel) rfl ⟨Nat.le_of_ble_eq_true rfl, Nat.le_of_ble_eq_true rfl⟩ (Nat.le_of_ble_eq_true rfl) ⟨Nat.le_of_ble_eq_true rfl, Nat.le_of_ble_eq_true rfl⟩ (fun v S' H locs hq I => ?_)
  obtain ⟨rfl, fy0, eS, hfy0⟩ := hq
  rw [eS] at I
  have loop : ∀ (n k : Nat) (fk : Nat → Int32) (ls : Array Slot) (H : Heap) (locs : List Loc), k + n = T.1.2 → (∀ v : Nat, 1 ≤ v → v ≤ 1000 → fk v = nI (zt_cnt T f v k)) → zh_V g A s [] (zh_sA S ty fk) H locs → lv_has ls 5 [(3, .int (nI k)), (2, .int (nI (zt_cnt T f 0 k))), (0, .ref x), (1, .int (nI f))] → W p l e (zrm 7 0 0) s m args below meth c H locs (0 + (zrm 0 0 0).cells) (0 + (zrm 0 0 0).slots) (MQ below (zh_Po g A (fun w S' => w = some (.int (nI (zt_cnt T f 0 T.1.2))) ∧ ∃ fy : Nat → Int32, S' = zh_sA S ty fy ∧ ∀ v : Nat, 1 ≤ v → v ≤ 1000 → fy v = nI (zt_cnt T f v T.1.2))) args s (zrm 7 0 0).cells (zrm 7 0 0).slots A) (F0 m 12 ls []) := by
    intro n
    induction n with
    | zero =>
      intro k fk ls H locs hn hfk I hl
      have hcl := zt_cnt_le T f 0 k
      refine lv_iload_n hx hb dX3_tallyValues_12 rfl (lv_at hl 0 rfl) ?_
      refine lv_aload_n hx hb dX3_tallyValues_13 rfl (lv_at hl 2 rfl) ?_
      refine zg_Forge_log (v := lo) C I f1 zm_69 (f3) dX3_tallyValues_14 ?_
      refine zc_V (n := 0) (rest := [.int (nI k)]) C I f12.1 rfl rfl (k_Jx4a65c_size_8abf5 l g (zh_sA S ty fk) lo T.1.2 f12.1 f12.2.1) zm_144 zm_145 zm_146 zm_19 zm_147 rfl hl.1 dX3_tallyValues_17 (by decide +kernel) rfl ⟨Nat.le_of_ble_eq_true rfl, Nat.le_of_ble_eq_true rfl⟩ (Nat.le_of_ble_eq_true rfl) ⟨Nat.le_of_ble_eq_true rfl, Nat.le_of_ble_eq_true rfl⟩ (fun v S' H locs hq I => ?_)
      obtain ⟨rfl, eS⟩ := hq
      rw [eS] at I
      refine lv_icmp_ge (tgt := 89) hx hb dX3_tallyValues_20 (by decide) (fun _ => ?_) (fun h9 => absurd ((nI_leI (a := T.1.2) (b := k) (by omega) (by omega)).mpr (by omega)) h9)
      refine lv_iload_n hx hb dX3_tallyValues_89 rfl (lv_at hl 1 rfl) ?_
      have hk : k = T.1.2 := by omega
      subst hk
      exact zr_iret C I hr hlk (⟨rfl, fk, rfl, hfk⟩) (Nat.le_of_ble_eq_true rfl) (Nat.le_of_ble_eq_true rfl) dX3_tallyValues_90
    | succ n ih =>
      intro k fk ls H locs hn hfk I hl
      have hcl := zt_cnt_le T f 0 k
      refine lv_iload_n hx hb dX3_tallyValues_12 rfl (lv_at hl 0 rfl) ?_
      refine lv_aload_n hx hb dX3_tallyValues_13 rfl (lv_at hl 2 rfl) ?_
      refine zg_Forge_log (v := lo) C I f1 zm_69 (f3) dX3_tallyValues_14 ?_
      refine zc_V (n := 0) (rest := [.int (nI k)]) C I f12.1 rfl rfl (k_Jx4a65c_size_8abf5 l g (zh_sA S ty fk) lo T.1.2 f12.1 f12.2.1) zm_144 zm_145 zm_146 zm_19 zm_147 rfl hl.1 dX3_tallyValues_17 (by decide +kernel) rfl ⟨Nat.le_of_ble_eq_true rfl, Nat.le_of_ble_eq_true rfl⟩ (Nat.le_of_ble_eq_true rfl) ⟨Nat.le_of_ble_eq_true rfl, Nat.le_of_ble_eq_true rfl⟩ (fun v S' H locs hq I => ?_)
      obtain ⟨rfl, eS⟩ := hq
      rw [eS] at I
      have hk : k < T.1.2 := by omega
      obtain ⟨h3, h4, h5, h6⟩ : zh_at S 8 la ∧ T.1.2 ≤ zh_N S la ∧ 10 ≤ zh_N S la ∧ zh_N S la ≤ 150 := f12.2.2.2.1.elim (fun h => absurd h.1 (show ¬ T.1.2 = 0 by omega)) id
      refine lv_icmp_ge (tgt := 89) hx hb dX3_tallyValues_20 (by decide) (fun h9 => absurd h9 (fun h8 => absurd ((nI_leI (a := T.1.2) (b := k) (by omega) (by omega)).mp h8) (by omega))) (fun _ => ?_)
      refine lv_aload_n hx hb dX3_tallyValues_23 rfl (lv_at hl 2 rfl) ?_
      refine zg_Forge_log (v := lo) C I f1 zm_69 (f3) dX3_tallyValues_24 ?_
      refine lv_iload_n hx hb dX3_tallyValues_27 rfl (lv_at hl 0 rfl) ?_
      refine zc_V (n := 1) (rest := []) C I f12.1 rfl rfl (k_Jx4a65c_get_915e3 l g (zh_sA S ty fk) lo T.1.2 la k (ae k) f12.1 f12.2.1 f12.2.2.1 h3 h4 (by omega) hk (f12.2.2.2.2 _ hk).1) zm_283 zm_284 zm_285 zm_19 zm_286 rfl hl.1 dX3_tallyValues_28 (by decide +kernel) rfl ⟨Nat.le_of_ble_eq_true rfl, Nat.le_of_ble_eq_true rfl⟩ (Nat.le_of_ble_eq_true rfl) ⟨Nat.le_of_ble_eq_true rfl, Nat.le_of_ble_eq_true rfl⟩ (fun v S' H locs hq I => ?_)
      obtain ⟨rfl, eS⟩ := hq
      rw [eS] at I
      have h5k := t5 _ hk
      obtain ⟨v, hv⟩ : ∃ v, v = T.2 9 k := ⟨_, rfl⟩
      refine zr_cast C I (f12.2.2.2.2 _ hk).2 rfl rfl zm_304 dX3_tallyValues_31 ?_
      refine lv_astore (lv' := [(4, .ref (ae k)), (3, .int (nI k)), (2, .int (nI (zt_cnt T f 0 k))), (0, .ref x), (1, .int (nI f))]) hx hb dX3_tallyValues_34 hl (by decide) rfl (fun ls hl => ?_)
      refine lv_aload hx hb dX3_tallyValues_36 (lv_at hl 0 rfl) ?_
      refine lv_iload_n hx hb dX3_tallyValues_38 rfl (lv_at hl 4 rfl) ?_
      refine zc_VN (host := "DiceForge") (n := 1) (rest := []) C I (f12.2.2.2.2 _ hk).2 rfl rfl (k_X1_countsFor l g (zh_sA S ty fk) (ae k) (T.2 8 k) (T.2 12 k) f (f12.2.2.2.2 _ hk).2 (f16 _ hk 3 (by decide)) (f16 _ hk 7 (by decide)) (by omega) (by omega) hf3) (by decide +kernel) zm_454 zm_14 zm_34 zm_455 rfl hl.1 dX3_tallyValues_39 (by decide +kernel) rfl ⟨Nat.le_of_ble_eq_true rfl, Nat.le_of_ble_eq_true rfl⟩ (Nat.le_of_ble_eq_true rfl) ⟨Nat.le_of_ble_eq_true rfl, Nat.le_of_ble_eq_true rfl⟩ (fun v S' H locs hq I => ?_)
      obtain ⟨rfl, eS⟩ := hq
      rw [eS] at I
      by_cases hc : T.2 8 k = f ∧ T.2 12 k = 0
      · refine zr_top (y := 1) (if_pos hc) ?_
        have hclv := zt_cnt_le T f v k
        refine lv_if_eq (tgt := 83) hx hb dX3_tallyValues_42 (by decide) (fun h9 => absurd h9 (by decide)) (fun _ => ?_)
        refine lv_aload hx hb dX3_tallyValues_45 (lv_at hl 0 rfl) ?_
        refine zn_Entry_value (v := nI v) (host := "DiceForge") C I (f12.2.2.2.2 _ hk).2 (by decide +kernel) ((f16 _ hk 4 (by decide)).trans (by rw [hv])) dX3_tallyValues_47 ?_
        refine lv_if_lt (tgt := 83) hx hb dX3_tallyValues_50 (by decide) (fun h9 => absurd h9 (fun h8 => absurd ((nI_ltI (a := v) (b := 0) (by omega) (by omega)).mp h8) (by omega))) (fun _ => ?_)
        refine lv_aload hx hb dX3_tallyValues_53 (lv_at hl 0 rfl) ?_
        refine zn_Entry_value (v := nI v) (host := "DiceForge") C I (f12.2.2.2.2 _ hk).2 (by decide +kernel) ((f16 _ hk 4 (by decide)).trans (by rw [hv])) dX3_tallyValues_55 ?_
        refine lv_aload_n hx hb dX3_tallyValues_58 rfl (lv_at hl 3 rfl) ?_
        refine zg_Forge_tally (v := ty) C I f1 zm_71 (f5) dX3_tallyValues_59 ?_
        refine zr_len (kd := 6) (t := 0) (N := 1001) C I f8 rfl rfl (f9) dX3_tallyValues_62 ?_
        refine lv_icmp_ge (tgt := 83) hx hb dX3_tallyValues_63 (by decide) (fun h9 => absurd h9 (fun h8 => absurd ((nI_leI (a := 1001) (b := v) (by omega) (by omega)).mp h8) (by omega))) (fun _ => ?_)
        refine lv_aload_n hx hb dX3_tallyValues_66 rfl (lv_at hl 3 rfl) ?_
        refine zg_Forge_tally (v := ty) C I f1 zm_71 (f5) dX3_tallyValues_67 ?_
        refine lv_aload hx hb dX3_tallyValues_70 (lv_at hl 0 rfl) ?_
        refine zn_Entry_value (v := nI v) (host := "DiceForge") C I (f12.2.2.2.2 _ hk).2 (by decide +kernel) ((f16 _ hk 4 (by decide)).trans (by rw [hv])) dX3_tallyValues_72 ?_
        refine lv_dup2_11 hx hb dX3_tallyValues_75 rfl rfl ?_
        refine zr_iald (v := nI (zt_cnt T f v k)) C I f8 (by rw [show zh_N (zh_sA S ty fk) ty = 1001 from f9]; exact vp_in_nI (by omega) (by omega)) (by rw [nI_clamp (by omega), zs_Aself]; exact hfk v (by omega) (by omega)) dX3_tallyValues_76 ?_
        refine lv_iconst (v := 1) hx hb dX3_tallyValues_77 (by decide) ?_
        refine lv_iadd hx hb dX3_tallyValues_78 ?_
        refine zr_top (y := nI ((zt_cnt T f v k) + 1)) (nI_add (zt_cnt T f v k) 1) ?_
        refine zr_iast C I f8 (by rw [show zh_N (zh_sA S ty fk) ty = 1001 from f9]; exact vp_in_nI (by omega) (by omega)) dX3_tallyValues_79 (fun H locs I => ?_)
        rw [zs_AA, zs_Aself, nI_clamp (by omega)] at I
        refine lv_iinc (v := nI ((zt_cnt T f 0 k) + 1)) (lv' := [(2, .int (nI ((zt_cnt T f 0 k) + 1))), (4, .ref (ae k)), (3, .int (nI k)), (0, .ref x), (1, .int (nI f))]) hx hb dX3_tallyValues_80 hl (k := 2) rfl (nI_add (zt_cnt T f 0 k) 1) (by decide) rfl (fun ls hl => ?_)
        refine lv_iinc (v := nI (k + 1)) (lv' := [(3, .int (nI (k + 1))), (2, .int (nI ((zt_cnt T f 0 k) + 1))), (4, .ref (ae k)), (0, .ref x), (1, .int (nI f))]) hx hb dX3_tallyValues_83 hl (k := 2) rfl (nI_add k 1) (by decide) rfl (fun ls hl => ?_)
        refine lv_goto (tgt := 12) hx hb dX3_tallyValues_86 (by decide) ?_
        have e9 : zt_cnt T f 0 (k + 1) = zt_cnt T f 0 k + 1 := zt_cnt_y T ⟨hc.2, hc.1, Or.inr rfl⟩
        have hl := lv_sub (l' := [(3, .int (nI (k + 1))), (2, .int (nI ((zt_cnt T f 0 k) + 1))), (0, .ref x), (1, .int (nI f))]) hl [0, 1, 3, 4] rfl
        rw [← e9] at hl
        refine ih (k + 1) (upd fk v (nI (zt_cnt T f v k + 1))) ls H locs (by omega) (fun u hu1 hu2 => ?_) I hl
        by_cases e8 : u = v
        · rw [e8, pk_us, zt_cnt_y T ⟨hc.2, hc.1, Or.inl hv.symm⟩]
        · rw [pk_un e8, hfk u hu1 hu2, zt_cnt_n T (fun h => h.2.2.elim (fun h => e8 (by omega)) (fun h => absurd h (by omega)))]
      · refine zr_top (y := 0) (if_neg hc) ?_
        refine lv_if_eq (tgt := 83) hx hb dX3_tallyValues_42 (by decide) (fun _ => ?_) (fun h9 => absurd (rfl) h9)
        refine lv_iinc (v := nI (k + 1)) (lv' := [(3, .int (nI (k + 1))), (4, .ref (ae k)), (2, .int (nI (zt_cnt T f 0 k))), (0, .ref x), (1, .int (nI f))]) hx hb dX3_tallyValues_83 hl (k := 1) rfl (nI_add k 1) (by decide) rfl (fun ls hl => ?_)
        refine lv_goto (tgt := 12) hx hb dX3_tallyValues_86 (by decide) ?_
        have e9 : zt_cnt T f 0 (k + 1) = zt_cnt T f 0 k := zt_cnt_n T (fun h => hc ⟨h.2.1, h.1⟩)
        have hl := lv_sub (l' := [(3, .int (nI (k + 1))), (2, .int (nI (zt_cnt T f 0 k))), (0, .ref x), (1, .int (nI f))]) hl [0, 2, 3, 4] rfl
        rw [← e9] at hl
        refine ih (k + 1) fk ls H locs (by omega) (fun u hu1 hu2 => ?_) I hl
        rw [hfk u hu1 hu2, zt_cnt_n T (fun h => hc ⟨h.2.1, h.1⟩)]
  refine lv_iconst (v := 0) hx hb dX3_tallyValues_8 (by decide) ?_
  refine lv_istore_n (lv' := [(2, .int 0), (0, .ref x), (1, .int (nI f))]) hx hb dX3_tallyValues_9 rfl hl (by decide) rfl (fun ls hl => ?_)
  refine lv_iconst (v := 0) hx hb dX3_tallyValues_10 (by decide) ?_
  refine lv_istore_n (lv' := [(3, .int 0), (2, .int 0), (0, .ref x), (1, .int (nI f))]) hx hb dX3_tallyValues_11 rfl hl (by decide) rfl (fun ls hl => ?_)
  exact loop T.1.2 0 fy0 ls _ _ (by omega) (fun v h1 h2 => hfy0 v (by omega)) I (lv_sub hl [0, 1, 2, 3] rfl)

set_option maxRecDepth 100000 in
set_option maxHeartbeats 4000000 in
theorem k_X3_uneven (l : Launch) (g : zG) (hst : l.stackTraces = false) (S : zS) (T : zT) (x pl lo pt ty pa la : Nat) (ap ad ae : Nat → Nat) (hT : zt_ok T) (hF : FR g S T x pl lo pt ty pa la ap ad ae) (i : Int32) : zX l yX3_uneven cX3_uneven 8 (some .long) (zrm 8 1 6) g [.ref x, .int i] S (fun w S' => zc_unev i = 0 ∧ w = some (.long (zt_unev T (zx i) (zx i))) ∧ FR g S' T x pl lo pt ty pa la ap ad ae ∧ zk_ S S') (fun E S' => zc_unev i = 1 ∧ E = zn_IA ∧ S' = S) := by
  refine zX_of (nm := "uneven") (by decide) rfl (Nat.le_of_ble_eq_true rfl) ?_
  intro p e s m args below meth c A ls C hr hlk hxt I hl
  have C : CallFix p m c cX3_uneven 8 s args zc_W RX3 := C
  have hx := C.1
  have hb := C.2.1
  have hl : lv_has ls 8 [(0, .ref x), (1, .int i)] := hl
  have hF0 := hF
  obtain ⟨⟨f1, f2, f3, f4, f5⟩, ⟨f6, f7, f8, f9, f10⟩, f11, f12, f13, f14, f15, f16, f17, f18, f19⟩ := hF
  obtain ⟨t1, t2, t3, t4, t5, t6, t7⟩ := hT
  by_cases hfx : i < 2 ∨ 1000 < i
  · refine lv_iload_n hx hb dX3_uneven_0 rfl (lv_at hl 1 rfl) ?_
    refine zc_SX (n := 1) (rest := []) C I (k_X3_requireFaces l g hst S i) zm_301 zm_302 zm_16 zm_303 rfl hl.1 dX3_uneven_1 (by decide +kernel) rfl ⟨Nat.le_of_ble_eq_true rfl, Nat.le_of_ble_eq_true rfl⟩ (Nat.le_of_ble_eq_true rfl) ⟨Nat.le_of_ble_eq_true rfl, Nat.le_of_ble_eq_true rfl⟩ (fun E ce q9 S' H locs hq I h1 h2 h3 => ?_) (fun v S' H locs hq I => ?_)
    · obtain ⟨hE, hz, eS⟩ := hq
      rw [eS] at I
      exact zr_out I hxt hlk (⟨if_pos hz, hE, rfl⟩) h1 h2 h3 (Nat.le_of_ble_eq_true rfl) (Nat.le_of_ble_eq_true rfl)
    · exact absurd hfx hq.1
  · obtain ⟨f, hf2, hf3, rfl⟩ := zi_faces hfx
    rw [zx_nI (by omega)]
    refine lv_iload_n hx hb dX3_uneven_0 rfl (lv_at hl 1 rfl) ?_
    refine zc_SX (n := 1) (rest := []) C I (k_X3_requireFaces l g hst S (nI f)) zm_301 zm_302 zm_16 zm_303 rfl hl.1 dX3_uneven_1 (by decide +kernel) rfl ⟨Nat.le_of_ble_eq_true rfl, Nat.le_of_ble_eq_true rfl⟩ (Nat.le_of_ble_eq_true rfl) ⟨Nat.le_of_ble_eq_true rfl, Nat.le_of_ble_eq_true rfl⟩ (fun E ce q9 S' H locs hq I h1 h2 h3 => ?_) (fun v S' H locs hq I => ?_)
    · exact absurd hq.2.1 hfx
    · obtain ⟨hz, rfl, eS⟩ := hq
      rw [eS] at I
      refine lv_aload_n hx hb dX3_uneven_4 rfl (lv_at hl 0 rfl) ?_
      refine lv_iload_n hx hb dX3_uneven_5 rfl (lv_at hl 1 rfl) ?_
      refine zc_V (n := 1) (rest := []) C I f1 rfl rfl (k_X3_tallyValues l g hst S T x pl lo pt ty pa la ap ad ae ⟨t1, t2, t3, t4, t5, t6, t7⟩ hF0 f hf2 hf3) zm_448 zm_449 zm_13 zm_16 zm_450 rfl hl.1 dX3_uneven_6 (by decide +kernel) rfl ⟨Nat.le_of_ble_eq_true rfl, Nat.le_of_ble_eq_true rfl⟩ (Nat.le_of_ble_eq_true rfl) ⟨Nat.le_of_ble_eq_true rfl, Nat.le_of_ble_eq_true rfl⟩ (fun v S' H locs hq I => ?_)
      obtain ⟨rfl, fy, eS2, hfy⟩ := hq
      rw [eS2] at I
      have loop : ∀ (n k : Nat) (ls : Array Slot) (H : Heap) (locs : List Loc), k + n = f → zh_V g A s [] (zh_sA S ty fy) H locs → lv_has ls 8 [(5, .int (nI (k + 1))), (3, .long (zt_unev T f k)), (2, .int (nI (zt_cnt T f 0 T.1.2))), (0, .ref x), (1, .int (nI f))] → W p l e (zrm 8 1 6) s m args below meth c H locs (0 + (zrm 6 1 6).cells + (zrm 7 0 0).cells) (0 + (zrm 6 1 6).slots + (zrm 7 0 0).slots) (vx_MQ below (zh_Po g A (fun w S' => zc_unev (nI f) = 0 ∧ w = some (.long (zt_unev T f f)) ∧ FR g S' T x pl lo pt ty pa la ap ad ae ∧ zk_ S S')) (zh_Px g A (fun E S' => zc_unev (nI f) = 1 ∧ E = zn_IA ∧ S' = S)) args s (zrm 8 1 6).cells (zrm 8 1 6).slots A) (F0 m 15 ls []) := by
        intro n
        induction n with
        | zero =>
          intro k ls H locs hn I hl
          refine lv_iload hx hb dX3_uneven_15 (lv_at hl 0 rfl) ?_
          refine lv_iload_n hx hb dX3_uneven_17 rfl (lv_at hl 4 rfl) ?_
          refine lv_icmp_gt (tgt := 61) hx hb dX3_uneven_18 (by decide) (fun _ => ?_) (fun h9 => absurd ((nI_ltI (a := f) (b := k + 1) (by omega) (by omega)).mpr (by omega)) h9)
          refine lv_lload_n hx hb dX3_uneven_61 rfl (lv_at hl 1 rfl) ?_
          have hk : k = f := by omega
          subst hk
          exact vx_ret (zr_lret C I hr hlk (⟨if_neg hfx, rfl, FR_tally hF0 fy, zk_rf S⟩) (Nat.le_of_ble_eq_true rfl) (Nat.le_of_ble_eq_true rfl) dX3_uneven_62)
        | succ n ih =>
          intro k ls H locs hn I hl
          refine lv_iload hx hb dX3_uneven_15 (lv_at hl 0 rfl) ?_
          refine lv_iload_n hx hb dX3_uneven_17 rfl (lv_at hl 4 rfl) ?_
          refine lv_icmp_gt (tgt := 61) hx hb dX3_uneven_18 (by decide) (fun h9 => absurd h9 (fun h8 => absurd ((nI_ltI (a := f) (b := k + 1) (by omega) (by omega)).mp h8) (by omega))) (fun _ => ?_)
          refine lv_iload hx hb dX3_uneven_21 (lv_at hl 0 rfl) ?_
          refine lv_aload_n hx hb dX3_uneven_23 rfl (lv_at hl 3 rfl) ?_
          refine zg_Forge_tally (v := ty) C I f1 zm_71 (f5) dX3_uneven_24 ?_
          refine zr_len (kd := 6) (t := 0) (N := 1001) C I f8 rfl rfl (f9) dX3_uneven_27 ?_
          refine lv_icmp_ge (tgt := 61) hx hb dX3_uneven_28 (by decide) (fun h9 => absurd h9 (fun h8 => absurd ((nI_leI (a := 1001) (b := k + 1) (by omega) (by omega)).mp h8) (by omega))) (fun _ => ?_)
          refine lv_iload_n hx hb dX3_uneven_31 rfl (lv_at hl 4 rfl) ?_
          refine lv_i2l hx hb dX3_uneven_32 rfl ?_
          refine lv_aload_n hx hb dX3_uneven_33 rfl (lv_at hl 3 rfl) ?_
          refine zg_Forge_tally (v := ty) C I f1 zm_71 (f5) dX3_uneven_34 ?_
          refine lv_iload hx hb dX3_uneven_37 (lv_at hl 0 rfl) ?_
          refine zr_iald (v := nI (zt_cnt T f (k + 1) T.1.2)) C I f8 (by rw [show zh_N (zh_sA S ty fy) ty = 1001 from f9]; exact vp_in_nI (by omega) (by omega)) (by rw [nI_clamp (by omega), zs_Aself]; exact hfy (k + 1) (by omega) (by omega)) dX3_uneven_39 ?_
          refine lv_i2l hx hb dX3_uneven_40 rfl ?_
          refine lv_lmul hx hb dX3_uneven_41 ?_
          refine lv_iload_n hx hb dX3_uneven_42 rfl (lv_at hl 2 rfl) ?_
          refine lv_i2l hx hb dX3_uneven_43 rfl ?_
          refine lv_lsub hx hb dX3_uneven_44 ?_
          refine lv_lstore (lv' := [(6, .long ((((nI f).toInt64) * ((nI (zt_cnt T f (k + 1) T.1.2)).toInt64)) - ((nI (zt_cnt T f 0 T.1.2)).toInt64))), (5, .int (nI (k + 1))), (3, .long (zt_unev T f k)), (2, .int (nI (zt_cnt T f 0 T.1.2))), (0, .ref x), (1, .int (nI f))]) hx hb dX3_uneven_45 hl (by decide) rfl (fun ls hl => ?_)
          refine lv_lload_n hx hb dX3_uneven_47 rfl (lv_at hl 2 rfl) ?_
          refine lv_lload hx hb dX3_uneven_48 (lv_at hl 0 rfl) ?_
          refine lv_lload hx hb dX3_uneven_50 (lv_at hl 0 rfl) ?_
          refine lv_lmul hx hb dX3_uneven_52 ?_
          refine lv_ladd hx hb dX3_uneven_53 ?_
          refine lv_lstore_n (lv' := [(3, .long ((zt_unev T f k) + (((((nI f).toInt64) * ((nI (zt_cnt T f (k + 1) T.1.2)).toInt64)) - ((nI (zt_cnt T f 0 T.1.2)).toInt64)) * ((((nI f).toInt64) * ((nI (zt_cnt T f (k + 1) T.1.2)).toInt64)) - ((nI (zt_cnt T f 0 T.1.2)).toInt64))))), (6, .long ((((nI f).toInt64) * ((nI (zt_cnt T f (k + 1) T.1.2)).toInt64)) - ((nI (zt_cnt T f 0 T.1.2)).toInt64))), (5, .int (nI (k + 1))), (2, .int (nI (zt_cnt T f 0 T.1.2))), (0, .ref x), (1, .int (nI f))]) hx hb dX3_uneven_54 rfl hl (by decide) rfl (fun ls hl => ?_)
          refine lv_iinc (v := nI ((k + 1) + 1)) (lv' := [(5, .int (nI ((k + 1) + 1))), (3, .long ((zt_unev T f k) + (((((nI f).toInt64) * ((nI (zt_cnt T f (k + 1) T.1.2)).toInt64)) - ((nI (zt_cnt T f 0 T.1.2)).toInt64)) * ((((nI f).toInt64) * ((nI (zt_cnt T f (k + 1) T.1.2)).toInt64)) - ((nI (zt_cnt T f 0 T.1.2)).toInt64))))), (6, .long ((((nI f).toInt64) * ((nI (zt_cnt T f (k + 1) T.1.2)).toInt64)) - ((nI (zt_cnt T f 0 T.1.2)).toInt64))), (2, .int (nI (zt_cnt T f 0 T.1.2))), (0, .ref x), (1, .int (nI f))]) hx hb dX3_uneven_55 hl (k := 2) rfl (nI_add (k + 1) 1) (by decide) rfl (fun ls hl => ?_)
          refine lv_goto (tgt := 15) hx hb dX3_uneven_58 (by decide) ?_
          exact ih (k + 1) ls H locs (by omega) I (lv_sub hl [0, 1, 3, 4, 5] rfl)
      refine lv_istore_n (lv' := [(2, .int (nI (zt_cnt T f 0 T.1.2))), (0, .ref x), (1, .int (nI f))]) hx hb dX3_uneven_9 rfl hl (by decide) rfl (fun ls hl => ?_)
      refine lv_lconst (v := 0) hx hb dX3_uneven_10 (by decide) ?_
      refine lv_lstore_n (lv' := [(3, .long 0), (2, .int (nI (zt_cnt T f 0 T.1.2))), (0, .ref x), (1, .int (nI f))]) hx hb dX3_uneven_11 rfl hl (by decide) rfl (fun ls hl => ?_)
      refine lv_iconst (v := 1) hx hb dX3_uneven_12 (by decide) ?_
      refine lv_istore (lv' := [(5, .int 1), (3, .long 0), (2, .int (nI (zt_cnt T f 0 T.1.2))), (0, .ref x), (1, .int (nI f))]) hx hb dX3_uneven_13 hl (by decide) rfl (fun ls hl => ?_)
      exact loop f 0 ls _ _ (by omega) I (lv_sub hl [0, 1, 2, 3, 4] rfl)

