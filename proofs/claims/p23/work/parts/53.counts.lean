/-! loops over the log: count, total, broken -/
theorem zi_faces {y : Int32} (h : ¬ (y < 2 ∨ 1000 < y)) : ∃ n : Nat, 2 ≤ n ∧ n ≤ 1000 ∧ y = nI n := by
  have h1 : ¬ y.toInt < (2 : Int32).toInt := fun h9 => h (Or.inl (Int32.lt_iff_toInt_lt.mpr h9))
  have h2 : ¬ (1000 : Int32).toInt < y.toInt := fun h9 => h (Or.inr (Int32.lt_iff_toInt_lt.mpr h9))
  have h6 : (2 : Int32).toInt = 2 := by decide
  have h8 : (1000 : Int32).toInt = 1000 := by decide
  have h7 : (0 : Int32).toInt = 0 := by decide
  obtain ⟨j, hj, e⟩ := nI_of (x := y) (fun h9 => by have := Int32.lt_iff_toInt_lt.mp h9; omega)
  subst e
  rw [nI_toInt hj] at h1 h2
  exact ⟨j, by omega, by omega, rfl⟩
theorem zi_valE {f : Nat} {y : Int32} (hf : f ≤ 1000) (h : ¬ (y < 1 ∨ nI f < y)) : ∃ v : Nat, 1 ≤ v ∧ v ≤ f ∧ y = nI v := ⟨zx y, zi_val hf h⟩
theorem zi_fok {n : Nat} (h : 2 ≤ n) (h2 : n ≤ 1000) : ¬ (nI n < 2 ∨ 1000 < nI n) := fun h9 => h9.elim (fun h3 => absurd ((nI_ltI (a := n) (b := 2) (by omega) (by omega)).mp h3) (by omega)) (fun h3 => absurd ((nI_ltI (a := 1000) (b := n) (by omega) (by omega)).mp h3) (by omega))
theorem zi_vok {n f : Nat} (h : 1 ≤ n) (h2 : n ≤ f) (h3 : f ≤ 1000) : ¬ (nI n < 1 ∨ nI f < nI n) := fun h9 => h9.elim (fun h3 => absurd ((nI_ltI (a := n) (b := 1) (by omega) (by omega)).mp h3) (by omega)) (fun h3 => absurd ((nI_ltI (a := f) (b := n) (by omega) (by omega)).mp h3) (by omega))
theorem zt_cnt_le (T : zT) (f v n : Nat) : zt_cnt T f v n ≤ n := by
  induction n with
  | zero => exact Nat.le_refl _
  | succ n ih => show zt_cnt T f v n + (if _ then 1 else 0) ≤ n + 1; split <;> omega
theorem zt_total_le (T : zT) (t n : Nat) (h : ∀ k : Nat, k < n → T.2 9 k ≤ 1000) : zt_total T t n ≤ 1000 * n := by
  induction n with
  | zero => exact Nat.le_refl _
  | succ n ih =>
    have h1 := ih (fun k hk => h k (by omega))
    have h2 := h n (by omega)
    show zt_total T t n + (if _ then _ else 0) ≤ 1000 * (n + 1)
    split <;> omega

set_option maxRecDepth 100000 in
set_option maxHeartbeats 4000000 in
theorem k_X3_count (l : Launch) (g : zG) (hst : l.stackTraces = false) (S : zS) (T : zT) (x pl lo pt ty pa la : Nat) (ap ad ae : Nat → Nat) (hT : zt_ok T) (hF : FR g S T x pl lo pt ty pa la ap ad ae) (i y : Int32) : zX l yX3_count cX3_count 6 (some .int) (zrm 7 2 12) g [.ref x, .int i, .int y] S (fun w S' => zc_count i y = 0 ∧ w = some (.int (nI (zt_cnt T (zx i) (zx y) T.1.2))) ∧ S' = S) (fun E S' => zc_count i y = 1 ∧ E = zn_IA ∧ S' = S) := by
  refine zX_of (nm := "count") (by decide) rfl (Nat.le_of_ble_eq_true rfl) ?_
  intro p e s m args below meth c A ls C hr hlk hxt I hl
  have C : CallFix p m c cX3_count 6 s args zc_W RX3 := C
  have hx := C.1
  have hb := C.2.1
  have hl : lv_has ls 6 [(0, .ref x), (1, .int i), (2, .int y)] := hl
  have hF0 := hF
  obtain ⟨⟨f1, f2, f3, f4, f5⟩, ⟨f6, f7, f8, f9, f10⟩, f11, f12, f13, f14, f15, f16, f17, f18, f19⟩ := hF
  obtain ⟨t1, t2, t3, t4, t5, t6, t7⟩ := hT
  by_cases hf : i < 2 ∨ 1000 < i
  · refine lv_iload_n hx hb dX3_count_0 rfl (lv_at hl 1 rfl) ?_
    refine zc_SX (n := 1) (rest := []) C I (k_X3_requireFaces l g hst S i) zm_301 zm_302 zm_16 zm_303 rfl hl.1 dX3_count_1 (by decide +kernel) rfl ⟨Nat.le_of_ble_eq_true rfl, Nat.le_of_ble_eq_true rfl⟩ (Nat.le_of_ble_eq_true rfl) ⟨Nat.le_of_ble_eq_true rfl, Nat.le_of_ble_eq_true rfl⟩ (fun E ce q9 S' H locs hq I h1 h2 h3 => ?_) (fun v S' H locs hq I => ?_)
    · obtain ⟨hE, hz, eS⟩ := hq
      rw [eS] at I
      exact zr_out I hxt hlk (⟨if_pos (Or.inl hz), hE, rfl⟩) h1 h2 h3 (Nat.le_of_ble_eq_true rfl) (Nat.le_of_ble_eq_true rfl)
    · exact absurd hf hq.1
  · obtain ⟨f, hf2, hf3, rfl⟩ := zi_faces hf
    refine lv_iload_n hx hb dX3_count_0 rfl (lv_at hl 1 rfl) ?_
    refine zc_SX (n := 1) (rest := []) C I (k_X3_requireFaces l g hst S (nI f)) zm_301 zm_302 zm_16 zm_303 rfl hl.1 dX3_count_1 (by decide +kernel) rfl ⟨Nat.le_of_ble_eq_true rfl, Nat.le_of_ble_eq_true rfl⟩ (Nat.le_of_ble_eq_true rfl) ⟨Nat.le_of_ble_eq_true rfl, Nat.le_of_ble_eq_true rfl⟩ (fun E ce q9 S' H locs hq I h1 h2 h3 => ?_) (fun v S' H locs hq I => ?_)
    · exact absurd hq.2.1 hf
    · obtain ⟨hz, rfl, eS⟩ := hq
      rw [eS] at I
      by_cases hy : y < 1 ∨ nI f < y
      · refine lv_iload_n hx hb dX3_count_4 rfl (lv_at hl 2 rfl) ?_
        refine lv_iload_n hx hb dX3_count_5 rfl (lv_at hl 1 rfl) ?_
        refine zc_SX (n := 2) (rest := []) C I (k_X3_requireValue l g hst S y (nI f)) zm_356 zm_357 zm_16 zm_358 rfl hl.1 dX3_count_6 (by decide +kernel) rfl ⟨Nat.le_of_ble_eq_true rfl, Nat.le_of_ble_eq_true rfl⟩ (Nat.le_of_ble_eq_true rfl) ⟨Nat.le_of_ble_eq_true rfl, Nat.le_of_ble_eq_true rfl⟩ (fun E ce q9 S' H locs hq I h1 h2 h3 => ?_) (fun v S' H locs hq I => ?_)
        · obtain ⟨hE, hz, eS⟩ := hq
          rw [eS] at I
          exact zr_out I hxt hlk (⟨if_pos (Or.inr hz), hE, rfl⟩) h1 h2 h3 (Nat.le_of_ble_eq_true rfl) (Nat.le_of_ble_eq_true rfl)
        · exact absurd hy hq.1
      · obtain ⟨v, hv1, hv2, rfl⟩ := zi_valE (f := f) (by omega) hy
        rw [zx_nI (by omega), zx_nI (by omega)]
        refine lv_iload_n hx hb dX3_count_4 rfl (lv_at hl 2 rfl) ?_
        refine lv_iload_n hx hb dX3_count_5 rfl (lv_at hl 1 rfl) ?_
        refine zc_SX (n := 2) (rest := []) C I (k_X3_requireValue l g hst S (nI v) (nI f)) zm_356 zm_357 zm_16 zm_358 rfl hl.1 dX3_count_6 (by decide +kernel) rfl ⟨Nat.le_of_ble_eq_true rfl, Nat.le_of_ble_eq_true rfl⟩ (Nat.le_of_ble_eq_true rfl) ⟨Nat.le_of_ble_eq_true rfl, Nat.le_of_ble_eq_true rfl⟩ (fun E ce q9 S' H locs hq I h1 h2 h3 => ?_) (fun v S' H locs hq I => ?_)
        · exact absurd hq.2.1 hy
        · obtain ⟨hz2, rfl, eS⟩ := hq
          rw [eS] at I
          have loop : ∀ (n k : Nat) (ls : Array Slot) (H : Heap) (locs : List Loc), k + n = T.1.2 → zh_V g A s [] S H locs → lv_has ls 6 [(4, .int (nI k)), (3, .int (nI (zt_cnt T f v k))), (0, .ref x), (1, .int (nI f)), (2, .int (nI v))] → W p l e (zrm 7 2 12) s m args below meth c H locs (0 + (zrm 6 1 6).cells + (zrm 6 1 6).cells) (0 + (zrm 6 1 6).slots + (zrm 6 1 6).slots) (vx_MQ below (zh_Po g A (fun w S' => zc_count (nI f) (nI v) = 0 ∧ w = some (.int (nI (zt_cnt T f v T.1.2))) ∧ S' = S)) (zh_Px g A (fun E S' => zc_count (nI f) (nI v) = 1 ∧ E = zn_IA ∧ S' = S)) args s (zrm 7 2 12).cells (zrm 7 2 12).slots A) (F0 m 14 ls []) := by
            intro n
            induction n with
            | zero =>
              intro k ls H locs hn I hl
              have hcl := zt_cnt_le T f v k
              refine lv_iload hx hb dX3_count_14 (lv_at hl 0 rfl) ?_
              refine lv_aload_n hx hb dX3_count_16 rfl (lv_at hl 2 rfl) ?_
              refine zg_Forge_log (v := lo) C I f1 zm_69 (f3) dX3_count_17 ?_
              refine zc_V (n := 0) (rest := [.int (nI k)]) C I f12.1 rfl rfl (k_Jx4a65c_size_8abf5 l g S lo T.1.2 f12.1 f12.2.1) zm_144 zm_145 zm_146 zm_19 zm_147 rfl hl.1 dX3_count_20 (by decide +kernel) rfl ⟨Nat.le_of_ble_eq_true rfl, Nat.le_of_ble_eq_true rfl⟩ (Nat.le_of_ble_eq_true rfl) ⟨Nat.le_of_ble_eq_true rfl, Nat.le_of_ble_eq_true rfl⟩ (fun v S' H locs hq I => ?_)
              obtain ⟨rfl, eS⟩ := hq
              rw [eS] at I
              refine lv_icmp_ge (tgt := 67) hx hb dX3_count_23 (by decide) (fun _ => ?_) (fun h9 => absurd ((nI_leI (a := T.1.2) (b := k) (by omega) (by omega)).mpr (by omega)) h9)
              refine lv_iload_n hx hb dX3_count_67 rfl (lv_at hl 1 rfl) ?_
              have hk : k = T.1.2 := by omega
              subst hk
              exact vx_ret (zr_iret C I hr hlk (⟨if_neg (fun h9 => h9.elim hz hz2), rfl, rfl⟩) (Nat.le_of_ble_eq_true rfl) (Nat.le_of_ble_eq_true rfl) dX3_count_68)
            | succ n ih =>
              intro k ls H locs hn I hl
              have hcl := zt_cnt_le T f v k
              refine lv_iload hx hb dX3_count_14 (lv_at hl 0 rfl) ?_
              refine lv_aload_n hx hb dX3_count_16 rfl (lv_at hl 2 rfl) ?_
              refine zg_Forge_log (v := lo) C I f1 zm_69 (f3) dX3_count_17 ?_
              refine zc_V (n := 0) (rest := [.int (nI k)]) C I f12.1 rfl rfl (k_Jx4a65c_size_8abf5 l g S lo T.1.2 f12.1 f12.2.1) zm_144 zm_145 zm_146 zm_19 zm_147 rfl hl.1 dX3_count_20 (by decide +kernel) rfl ⟨Nat.le_of_ble_eq_true rfl, Nat.le_of_ble_eq_true rfl⟩ (Nat.le_of_ble_eq_true rfl) ⟨Nat.le_of_ble_eq_true rfl, Nat.le_of_ble_eq_true rfl⟩ (fun v S' H locs hq I => ?_)
              obtain ⟨rfl, eS⟩ := hq
              rw [eS] at I
              have hk : k < T.1.2 := by omega
              obtain ⟨h3, h4, h5, h6⟩ : zh_at S 8 la ∧ T.1.2 ≤ zh_N S la ∧ 10 ≤ zh_N S la ∧ zh_N S la ≤ 150 := f12.2.2.2.1.elim (fun h => absurd h.1 (by omega)) id
              refine lv_icmp_ge (tgt := 67) hx hb dX3_count_23 (by decide) (fun h9 => absurd h9 (fun h8 => absurd ((nI_leI (a := T.1.2) (b := k) (by omega) (by omega)).mp h8) (by omega))) (fun _ => ?_)
              refine lv_aload_n hx hb dX3_count_26 rfl (lv_at hl 2 rfl) ?_
              refine zg_Forge_log (v := lo) C I f1 zm_69 (f3) dX3_count_27 ?_
              refine lv_iload hx hb dX3_count_30 (lv_at hl 0 rfl) ?_
              refine zc_V (n := 1) (rest := []) C I f12.1 rfl rfl (k_Jx4a65c_get_915e3 l g S lo T.1.2 la k (ae k) f12.1 f12.2.1 f12.2.2.1 h3 h4 (by omega) hk (f12.2.2.2.2 _ hk).1) zm_283 zm_284 zm_285 zm_19 zm_286 rfl hl.1 dX3_count_32 (by decide +kernel) rfl ⟨Nat.le_of_ble_eq_true rfl, Nat.le_of_ble_eq_true rfl⟩ (Nat.le_of_ble_eq_true rfl) ⟨Nat.le_of_ble_eq_true rfl, Nat.le_of_ble_eq_true rfl⟩ (fun v S' H locs hq I => ?_)
              obtain ⟨rfl, eS⟩ := hq
              rw [eS] at I
              refine zr_cast C I (f12.2.2.2.2 _ hk).2 rfl rfl zm_304 dX3_count_35 ?_
              refine lv_astore (lv' := [(5, .ref (ae k)), (4, .int (nI k)), (3, .int (nI (zt_cnt T f v k))), (0, .ref x), (1, .int (nI f)), (2, .int (nI v))]) hx hb dX3_count_38 hl (by decide) rfl (fun ls hl => ?_)
              refine lv_aload hx hb dX3_count_40 (lv_at hl 0 rfl) ?_
              refine lv_iload_n hx hb dX3_count_42 rfl (lv_at hl 4 rfl) ?_
              have h5k := t5 _ hk
              refine zc_VN (host := "DiceForge") (n := 1) (rest := []) C I (f12.2.2.2.2 _ hk).2 rfl rfl (k_X1_countsFor l g S (ae k) (T.2 8 k) (T.2 12 k) f (f12.2.2.2.2 _ hk).2 (f16 _ hk 3 (by decide)) (f16 _ hk 7 (by decide)) (by omega) (by omega) hf3) (by decide +kernel) zm_454 zm_14 zm_34 zm_455 rfl hl.1 dX3_count_43 (by decide +kernel) rfl ⟨Nat.le_of_ble_eq_true rfl, Nat.le_of_ble_eq_true rfl⟩ (Nat.le_of_ble_eq_true rfl) ⟨Nat.le_of_ble_eq_true rfl, Nat.le_of_ble_eq_true rfl⟩ (fun v S' H locs hq I => ?_)
              obtain ⟨rfl, eS⟩ := hq
              rw [eS] at I
              by_cases hc : T.2 8 k = f ∧ T.2 12 k = 0
              · refine zr_top (y := 1) (if_pos hc) ?_
                refine lv_if_eq (tgt := 61) hx hb dX3_count_46 (by decide) (fun h9 => absurd h9 (by decide)) (fun _ => ?_)
                refine lv_aload hx hb dX3_count_49 (lv_at hl 0 rfl) ?_
                refine zn_Entry_value (v := nI (T.2 9 k)) (host := "DiceForge") C I (f12.2.2.2.2 _ hk).2 (by decide +kernel) (f16 _ hk 4 (by decide)) dX3_count_51 ?_
                refine lv_iload_n hx hb dX3_count_54 rfl (lv_at hl 5 rfl) ?_
                refine lv_icmp_ne (tgt := 61) hx hb dX3_count_55 (by decide) (fun c55 => ?_) (fun c55 => ?_)
                · have c55 : ¬ (T.2 9 k) = v := fun h9 => c55 ((nI_eq (a := T.2 9 k) (b := v) (by omega) (by omega)).mpr h9)
                  refine lv_iinc (v := nI (k + 1)) (lv' := [(4, .int (nI (k + 1))), (5, .ref (ae k)), (3, .int (nI (zt_cnt T f v k))), (0, .ref x), (1, .int (nI f)), (2, .int (nI v))]) hx hb dX3_count_61 hl (k := 1) rfl (nI_add k 1) (by decide) rfl (fun ls hl => ?_)
                  refine lv_goto (tgt := 14) hx hb dX3_count_64 (by decide) ?_
                  have e9 : zt_cnt T f v (k + 1) = zt_cnt T f v k := by show _ + (if _ then 1 else 0) = _; rw [if_neg (fun h => c55 (h.2.2.elim id (fun h => absurd h (by omega))))]; rfl
                  have hl := lv_sub (l' := [(4, .int (nI (k + 1))), (3, .int (nI (zt_cnt T f v k))), (0, .ref x), (1, .int (nI f)), (2, .int (nI v))]) hl [0, 2, 3, 4, 5] rfl
                  rw [← e9] at hl
                  exact ih (k + 1) ls H locs (by omega) I hl
                · have c55 : (T.2 9 k) = v := (nI_eq (a := T.2 9 k) (b := v) (by omega) (by omega)).mp c55
                  refine lv_iinc (v := nI ((zt_cnt T f v k) + 1)) (lv' := [(3, .int (nI ((zt_cnt T f v k) + 1))), (5, .ref (ae k)), (4, .int (nI k)), (0, .ref x), (1, .int (nI f)), (2, .int (nI v))]) hx hb dX3_count_58 hl (k := 2) rfl (nI_add (zt_cnt T f v k) 1) (by decide) rfl (fun ls hl => ?_)
                  refine lv_iinc (v := nI (k + 1)) (lv' := [(4, .int (nI (k + 1))), (3, .int (nI ((zt_cnt T f v k) + 1))), (5, .ref (ae k)), (0, .ref x), (1, .int (nI f)), (2, .int (nI v))]) hx hb dX3_count_61 hl (k := 2) rfl (nI_add k 1) (by decide) rfl (fun ls hl => ?_)
                  refine lv_goto (tgt := 14) hx hb dX3_count_64 (by decide) ?_
                  have e9 : zt_cnt T f v (k + 1) = zt_cnt T f v k + 1 := by show _ + (if _ then 1 else 0) = _; rw [if_pos ⟨hc.2, hc.1, Or.inl c55⟩]
                  have hl := lv_sub (l' := [(4, .int (nI (k + 1))), (3, .int (nI ((zt_cnt T f v k) + 1))), (0, .ref x), (1, .int (nI f)), (2, .int (nI v))]) hl [0, 1, 3, 4, 5] rfl
                  rw [← e9] at hl
                  exact ih (k + 1) ls H locs (by omega) I hl
              · refine zr_top (y := 0) (if_neg hc) ?_
                refine lv_if_eq (tgt := 61) hx hb dX3_count_46 (by decide) (fun _ => ?_) (fun h9 => absurd (rfl) h9)
                refine lv_iinc (v := nI (k + 1)) (lv' := [(4, .int (nI (k + 1))), (5, .ref (ae k)), (3, .int (nI (zt_cnt T f v k))), (0, .ref x), (1, .int (nI f)), (2, .int (nI v))]) hx hb dX3_count_61 hl (k := 1) rfl (nI_add k 1) (by decide) rfl (fun ls hl => ?_)
                refine lv_goto (tgt := 14) hx hb dX3_count_64 (by decide) ?_
                have e9 : zt_cnt T f v (k + 1) = zt_cnt T f v k := by show _ + (if _ then 1 else 0) = _; rw [if_neg (fun h => hc ⟨h.2.1, h.1⟩)]; rfl
                have hl := lv_sub (l' := [(4, .int (nI (k + 1))), (3, .int (nI (zt_cnt T f v k))), (0, .ref x), (1, .int (nI f)), (2, .int (nI v))]) hl [0, 2, 3, 4, 5] rfl
                rw [← e9] at hl
                exact ih (k + 1) ls H locs (by omega) I hl
          refine lv_iconst (v := 0) hx hb dX3_count_9 (by decide) ?_
          refine lv_istore_n (lv' := [(3, .int 0), (0, .ref x), (1, .int (nI f)), (2, .int (nI v))]) hx hb dX3_count_10 rfl hl (by decide) rfl (fun ls hl => ?_)
          refine lv_iconst (v := 0) hx hb dX3_count_11 (by decide) ?_
          refine lv_istore (lv' := [(4, .int 0), (3, .int 0), (0, .ref x), (1, .int (nI f)), (2, .int (nI v))]) hx hb dX3_count_12 hl (by decide) rfl (fun ls hl => ?_)
          exact loop T.1.2 0 ls H locs (by omega) I (lv_sub hl [0, 1, 2, 3, 4] rfl)

set_option maxRecDepth 100000 in
set_option maxHeartbeats 4000000 in
theorem k_X3_total (l : Launch) (g : zG) (hst : l.stackTraces = false) (S : zS) (T : zT) (x pl lo pt ty pa la : Nat) (ap ad ae : Nat → Nat) (hT : zt_ok T) (hF : FR g S T x pl lo pt ty pa la ap ad ae) (i : Int32) : zX l yX3_total cX3_total 5 (some .int) (zrm 7 1 6) g [.ref x, .int i] S (fun w S' => zc_tab i = 0 ∧ w = some (.int (nI (zt_total T (zx i) T.1.2))) ∧ S' = S) (fun E S' => zc_tab i = 1 ∧ E = zn_IO ∧ S' = S) := by
  refine zX_of (nm := "total") (by decide) rfl (Nat.le_of_ble_eq_true rfl) ?_
  intro p e s m args below meth c A ls C hr hlk hxt I hl
  have C : CallFix p m c cX3_total 5 s args zc_W RX3 := C
  have hx := C.1
  have hb := C.2.1
  have hl : lv_has ls 5 [(0, .ref x), (1, .int i)] := hl
  have hF0 := hF
  obtain ⟨⟨f1, f2, f3, f4, f5⟩, ⟨f6, f7, f8, f9, f10⟩, f11, f12, f13, f14, f15, f16, f17, f18, f19⟩ := hF
  obtain ⟨t1, t2, t3, t4, t5, t6, t7⟩ := hT
  refine lv_iload_n hx hb dX3_total_0 rfl (lv_at hl 1 rfl) ?_
  refine zc_SX (n := 1) (rest := []) C I (k_X3_requireTable l g hst S i) zm_245 zm_246 zm_16 zm_247 rfl hl.1 dX3_total_1 (by decide +kernel) rfl ⟨Nat.le_of_ble_eq_true rfl, Nat.le_of_ble_eq_true rfl⟩ (Nat.le_of_ble_eq_true rfl) ⟨Nat.le_of_ble_eq_true rfl, Nat.le_of_ble_eq_true rfl⟩ (fun E ce q9 S' H locs hq I h1 h2 h3 => ?_) (fun v S' H locs hq I => ?_)
  · obtain ⟨hE, hz, eS⟩ := hq
    rw [eS] at I
    exact zr_out I hxt hlk (⟨if_pos hz, hE, rfl⟩) h1 h2 h3 (Nat.le_of_ble_eq_true rfl) (Nat.le_of_ble_eq_true rfl)
  · obtain ⟨hz, rfl, eS⟩ := hq
    rw [eS] at I
    obtain ⟨hz9, hj, hi⟩ := (zi_cases i (n := 4) (by decide)).elim (fun h => absurd h hz) id
    obtain ⟨t, ht⟩ : ∃ t, t = zx i := ⟨_, rfl⟩
    rw [← ht] at hi hj ⊢
    have htot : ∀ n : Nat, n ≤ T.1.2 → zt_total T t n ≤ 1000 * n := fun n hn => zt_total_le T t n (fun k hk => by have := t5 k (by omega); omega)
    have loop : ∀ (n k : Nat) (ls : Array Slot) (H : Heap) (locs : List Loc), k + n = T.1.2 → zh_V g A s [] S H locs → lv_has ls 5 [(3, .int (nI k)), (2, .int (nI (zt_total T t k))), (0, .ref x), (1, .int i)] → W p l e (zrm 7 1 6) s m args below meth c H locs (0 + (zrm 6 1 6).cells) (0 + (zrm 6 1 6).slots) (vx_MQ below (zh_Po g A (fun w S' => zc_tab i = 0 ∧ w = some (.int (nI (zt_total T t T.1.2))) ∧ S' = S)) (zh_Px g A (fun E S' => zc_tab i = 1 ∧ E = zn_IO ∧ S' = S)) args s (zrm 7 1 6).cells (zrm 7 1 6).slots A) (F0 m 8 ls []) := by
      intro n
      induction n with
      | zero =>
        intro k ls H locs hn I hl
        have hcl := htot k (by omega)
        refine lv_iload_n hx hb dX3_total_8 rfl (lv_at hl 0 rfl) ?_
        refine lv_aload_n hx hb dX3_total_9 rfl (lv_at hl 2 rfl) ?_
        refine zg_Forge_log (v := lo) C I f1 zm_69 (f3) dX3_total_10 ?_
        refine zc_V (n := 0) (rest := [.int (nI k)]) C I f12.1 rfl rfl (k_Jx4a65c_size_8abf5 l g S lo T.1.2 f12.1 f12.2.1) zm_144 zm_145 zm_146 zm_19 zm_147 rfl hl.1 dX3_total_13 (by decide +kernel) rfl ⟨Nat.le_of_ble_eq_true rfl, Nat.le_of_ble_eq_true rfl⟩ (Nat.le_of_ble_eq_true rfl) ⟨Nat.le_of_ble_eq_true rfl, Nat.le_of_ble_eq_true rfl⟩ (fun v S' H locs hq I => ?_)
        obtain ⟨rfl, eS⟩ := hq
        rw [eS] at I
        refine lv_icmp_ge (tgt := 63) hx hb dX3_total_16 (by decide) (fun _ => ?_) (fun h9 => absurd ((nI_leI (a := T.1.2) (b := k) (by omega) (by omega)).mpr (by omega)) h9)
        refine lv_iload_n hx hb dX3_total_63 rfl (lv_at hl 1 rfl) ?_
        have hk : k = T.1.2 := by omega
        subst hk
        exact vx_ret (zr_iret C I hr hlk (⟨if_neg hz, rfl, rfl⟩) (Nat.le_of_ble_eq_true rfl) (Nat.le_of_ble_eq_true rfl) dX3_total_64)
      | succ n ih =>
        intro k ls H locs hn I hl
        have hcl := htot k (by omega)
        refine lv_iload_n hx hb dX3_total_8 rfl (lv_at hl 0 rfl) ?_
        refine lv_aload_n hx hb dX3_total_9 rfl (lv_at hl 2 rfl) ?_
        refine zg_Forge_log (v := lo) C I f1 zm_69 (f3) dX3_total_10 ?_
        refine zc_V (n := 0) (rest := [.int (nI k)]) C I f12.1 rfl rfl (k_Jx4a65c_size_8abf5 l g S lo T.1.2 f12.1 f12.2.1) zm_144 zm_145 zm_146 zm_19 zm_147 rfl hl.1 dX3_total_13 (by decide +kernel) rfl ⟨Nat.le_of_ble_eq_true rfl, Nat.le_of_ble_eq_true rfl⟩ (Nat.le_of_ble_eq_true rfl) ⟨Nat.le_of_ble_eq_true rfl, Nat.le_of_ble_eq_true rfl⟩ (fun v S' H locs hq I => ?_)
        obtain ⟨rfl, eS⟩ := hq
        rw [eS] at I
        have hk : k < T.1.2 := by omega
        obtain ⟨h3, h4, h5, h6⟩ : zh_at S 8 la ∧ T.1.2 ≤ zh_N S la ∧ 10 ≤ zh_N S la ∧ zh_N S la ≤ 150 := f12.2.2.2.1.elim (fun h => absurd h.1 (by omega)) id
        refine lv_icmp_ge (tgt := 63) hx hb dX3_total_16 (by decide) (fun h9 => absurd h9 (fun h8 => absurd ((nI_leI (a := T.1.2) (b := k) (by omega) (by omega)).mp h8) (by omega))) (fun _ => ?_)
        refine lv_aload_n hx hb dX3_total_19 rfl (lv_at hl 2 rfl) ?_
        refine zg_Forge_log (v := lo) C I f1 zm_69 (f3) dX3_total_20 ?_
        refine lv_iload_n hx hb dX3_total_23 rfl (lv_at hl 0 rfl) ?_
        refine zc_V (n := 1) (rest := []) C I f12.1 rfl rfl (k_Jx4a65c_get_915e3 l g S lo T.1.2 la k (ae k) f12.1 f12.2.1 f12.2.2.1 h3 h4 (by omega) hk (f12.2.2.2.2 _ hk).1) zm_283 zm_284 zm_285 zm_19 zm_286 rfl hl.1 dX3_total_24 (by decide +kernel) rfl ⟨Nat.le_of_ble_eq_true rfl, Nat.le_of_ble_eq_true rfl⟩ (Nat.le_of_ble_eq_true rfl) ⟨Nat.le_of_ble_eq_true rfl, Nat.le_of_ble_eq_true rfl⟩ (fun v S' H locs hq I => ?_)
        obtain ⟨rfl, eS⟩ := hq
        rw [eS] at I
        have h5k := t5 _ hk
        have hcl2 := htot (k + 1) (by omega)
        refine zr_cast C I (f12.2.2.2.2 _ hk).2 rfl rfl zm_304 dX3_total_27 ?_
        refine lv_astore (lv' := [(4, .ref (ae k)), (3, .int (nI k)), (2, .int (nI (zt_total T t k))), (0, .ref x), (1, .int i)]) hx hb dX3_total_30 hl (by decide) rfl (fun ls hl => ?_)
        refine lv_aload hx hb dX3_total_32 (lv_at hl 0 rfl) ?_
        refine zn_Entry_table (v := nI (T.2 6 k)) (host := "DiceForge") C I (f12.2.2.2.2 _ hk).2 (by decide +kernel) (f16 _ hk 1 (by decide)) dX3_total_34 ?_
        refine lv_iload_n hx hb dX3_total_37 rfl (lv_at hl 4 rfl) ?_
        refine zr_top (y := nI t) (hi) ?_
        refine lv_icmp_ne (tgt := 57) hx hb dX3_total_38 (by decide) (fun c38 => ?_) (fun c38 => ?_)
        · have c38 : ¬ (T.2 6 k) = t := fun h9 => c38 ((nI_eq (a := T.2 6 k) (b := t) (by omega) (by omega)).mpr h9)
          refine lv_iinc (v := nI (k + 1)) (lv' := [(3, .int (nI (k + 1))), (4, .ref (ae k)), (2, .int (nI (zt_total T t k))), (0, .ref x), (1, .int i)]) hx hb dX3_total_57 hl (k := 1) rfl (nI_add k 1) (by decide) rfl (fun ls hl => ?_)
          refine lv_goto (tgt := 8) hx hb dX3_total_60 (by decide) ?_
          have e9 : zt_total T t (k + 1) = zt_total T t k := by show _ + (if _ then _ else 0) = _; rw [if_neg (fun h => c38 h.1)]; rfl
          have hl := lv_sub (l' := [(3, .int (nI (k + 1))), (2, .int (nI (zt_total T t k))), (0, .ref x), (1, .int i)]) hl [0, 2, 3, 4] rfl
          rw [← e9] at hl
          exact ih (k + 1) ls H locs (by omega) I hl
        · have c38 : (T.2 6 k) = t := (nI_eq (a := T.2 6 k) (b := t) (by omega) (by omega)).mp c38
          refine lv_aload hx hb dX3_total_41 (lv_at hl 0 rfl) ?_
          refine zn_Entry_struck (v := nI (T.2 12 k)) (host := "DiceForge") C I (f12.2.2.2.2 _ hk).2 (by decide +kernel) (f16 _ hk 7 (by decide)) dX3_total_43 ?_
          refine lv_if_ne (tgt := 57) hx hb dX3_total_46 (by decide) (fun c46 => ?_) (fun c46 => ?_)
          · have c46 : ¬ (T.2 12 k) = 0 := fun h9 => c46 ((nI_eq (a := T.2 12 k) (b := 0) (by omega) (by omega)).mpr h9)
            refine lv_iinc (v := nI (k + 1)) (lv' := [(3, .int (nI (k + 1))), (4, .ref (ae k)), (2, .int (nI (zt_total T t k))), (0, .ref x), (1, .int i)]) hx hb dX3_total_57 hl (k := 1) rfl (nI_add k 1) (by decide) rfl (fun ls hl => ?_)
            refine lv_goto (tgt := 8) hx hb dX3_total_60 (by decide) ?_
            have e9 : zt_total T t (k + 1) = zt_total T t k := by show _ + (if _ then _ else 0) = _; rw [if_neg (fun h => c46 h.2)]; rfl
            have hl := lv_sub (l' := [(3, .int (nI (k + 1))), (2, .int (nI (zt_total T t k))), (0, .ref x), (1, .int i)]) hl [0, 2, 3, 4] rfl
            rw [← e9] at hl
            exact ih (k + 1) ls H locs (by omega) I hl
          · have c46 : (T.2 12 k) = 0 := (nI_eq (a := T.2 12 k) (b := 0) (by omega) (by omega)).mp c46
            refine lv_iload_n hx hb dX3_total_49 rfl (lv_at hl 2 rfl) ?_
            refine lv_aload hx hb dX3_total_50 (lv_at hl 0 rfl) ?_
            refine zn_Entry_value (v := nI (T.2 9 k)) (host := "DiceForge") C I (f12.2.2.2.2 _ hk).2 (by decide +kernel) (f16 _ hk 4 (by decide)) dX3_total_52 ?_
            refine lv_iadd hx hb dX3_total_55 ?_
            refine zr_top (y := nI ((zt_total T t k) + (T.2 9 k))) (nI_add (zt_total T t k) (T.2 9 k)) ?_
            refine lv_istore_n (lv' := [(2, .int (nI ((zt_total T t k) + (T.2 9 k)))), (4, .ref (ae k)), (3, .int (nI k)), (0, .ref x), (1, .int i)]) hx hb dX3_total_56 rfl hl (by decide) rfl (fun ls hl => ?_)
            refine lv_iinc (v := nI (k + 1)) (lv' := [(3, .int (nI (k + 1))), (2, .int (nI ((zt_total T t k) + (T.2 9 k)))), (4, .ref (ae k)), (0, .ref x), (1, .int i)]) hx hb dX3_total_57 hl (k := 2) rfl (nI_add k 1) (by decide) rfl (fun ls hl => ?_)
            refine lv_goto (tgt := 8) hx hb dX3_total_60 (by decide) ?_
            have e9 : zt_total T t (k + 1) = zt_total T t k + T.2 9 k := by show _ + (if _ then _ else 0) = _; rw [if_pos ⟨c38, c46⟩]
            have hl := lv_sub (l' := [(3, .int (nI (k + 1))), (2, .int (nI ((zt_total T t k) + (T.2 9 k)))), (0, .ref x), (1, .int i)]) hl [0, 1, 3, 4] rfl
            rw [← e9] at hl
            exact ih (k + 1) ls H locs (by omega) I hl
    refine lv_iconst (v := 0) hx hb dX3_total_4 (by decide) ?_
    refine lv_istore_n (lv' := [(2, .int 0), (0, .ref x), (1, .int i)]) hx hb dX3_total_5 rfl hl (by decide) rfl (fun ls hl => ?_)
    refine lv_iconst (v := 0) hx hb dX3_total_6 (by decide) ?_
    refine lv_istore_n (lv' := [(3, .int 0), (2, .int 0), (0, .ref x), (1, .int i)]) hx hb dX3_total_7 rfl hl (by decide) rfl (fun ls hl => ?_)
    exact loop T.1.2 0 ls H locs (by omega) I (lv_sub hl [0, 1, 2, 3] rfl)

