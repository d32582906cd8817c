/-! the model: roll, again, found -/
def zs_r7 (T : zT) (q u f n v r : Nat) : zT := zt_s (zt_s (zt_s (zt_s (zt_s (zt_s (zt_s T 1 q n) 5 T.1.2 q) 6 T.1.2 u) 7 T.1.2 (T.2 4 u)) 8 T.1.2 f) 9 T.1.2 v) 10 T.1.2 r
theorem zs_r7_v (T : zT) (q u f n v r : Nat) : (zs_r7 T q u f n v r).2 5 T.1.2 = q ∧ (zs_r7 T q u f n v r).2 6 T.1.2 = u ∧ (zs_r7 T q u f n v r).2 8 T.1.2 = f ∧ (zs_r7 T q u f n v r).2 9 T.1.2 = v ∧ (zs_r7 T q u f n v r).2 10 T.1.2 = r ∧ ∀ k : Nat, (zs_r7 T q u f n v r).2 11 k = T.2 11 k := by
  refine ⟨?_, ?_, ?_, ?_, ?_, fun k => ?_⟩ <;> simp [zs_r7, zt_s, zh_u]
theorem zs_r7_s (T : zT) (q u f n v r : Nat) : zt_sum (zs_r7 T q u f n v r) T.1.2 = zd_sum (zb_roll T) q u f v r := by
  obtain ⟨h5, h6, h8, h9, h10, h11⟩ := zs_r7_v T q u f n v r
  unfold zt_sum zb_roll
  rw [h5, h6, h8, h9, h10, h11]
/-- only what rolls lays has changed -/
def zwB (S S' : zS) (mo : Nat) : Prop := ∃ a b : Int32, S' = zh_sI (zh_sI S 23 mo a) 24 mo b
theorem zwB_rf (S : zS) (mo : Nat) : zwB S S mo := ⟨zh_I S 23 mo, zh_I S 24 mo, by rw [zs_Is S 23 mo _ rfl, zs_Is S 24 mo _ rfl]⟩
theorem zwB_B {S S' : zS} {mo : Nat} (h : zwB S S' mo) (a b : Nat) : zwB S (zB S' mo a b) mo := by
  obtain ⟨x, y, rfl⟩ := h
  refine ⟨nI a, nI b, ?_⟩
  unfold zB
  rw [zs_Ic (zh_sI S 23 mo x) mo mo y (nI a) (by decide), zs_II, zs_II]
theorem zwB_tr {S S' S'' : zS} {mo : Nat} (h : zwB S S' mo) (h' : zwB S' S'' mo) : zwB S S'' mo := by
  obtain ⟨x, y, rfl⟩ := h
  obtain ⟨a, b, rfl⟩ := h'
  exact ⟨a, b, by rw [zs_Ic (zh_sI S 23 mo x) mo mo y a (by decide), zs_II, zs_II]⟩
theorem MR_w {S S' : zS} {T : zT} {mo : Nat} {ar : Nat → Nat} (h : MR S T mo ar) (hw : zwB S S' mo) : MR S' T mo ar := by
  obtain ⟨x, y, rfl⟩ := hw
  exact MR_I (MR_I h 23 _ (by decide) (by decide)) 24 _ (by decide) (by decide)
theorem zk_w {S S' : zS} {mo : Nat} (hw : zwB S S' mo) : zk_ S S' := by
  obtain ⟨x, y, rfl⟩ := hw
  exact fun a ha => ⟨ha, rfl, rfl, rfl⟩
theorem zI_w {S S' : zS} {mo : Nat} (hw : zwB S S' mo) {j : Nat} (b : Nat) (h : j ≠ 23) (h2 : j ≠ 24) : zh_I S' j b = zh_I S j b := by
  obtain ⟨x, y, rfl⟩ := hw
  exact (zI_j _ _ _ _ h2).trans (zI_j _ _ _ _ h)

set_option maxRecDepth 100000 in
set_option maxHeartbeats 4000000 in
theorem k_X4_roll (l : Launch) (g : zG) (S : zS) (T : zT) (mo : Nat) (ar : Nat → Nat) (hT : zt_ok T) (hM : MR S T mo ar) (i y z : Int32) : zM l yX4_roll cX4_roll 5 (some .int) (zrm 3 0 0) g [.ref mo, .int i, .int y, .int z] S (fun w S' => zmQ S S' (zs_roll T i y z) mo ar (zc_roll T i y z) (nI (zr_roll T i y z)) w) := by
  refine zM_of (nm := "roll") (by decide) rfl (Nat.le_of_ble_eq_true rfl) ?_
  intro p e s m args below meth c A ls C hr hlk hin I hl
  have C : CallFix p m c cX4_roll 5 s args zc_W RX4 := C
  have hx := C.1
  have hb := C.2.1
  have hl : lv_has ls 5 [(0, .ref mo), (1, .int i), (2, .int y), (3, .int z)] := hl
  obtain ⟨m1, m2, m3, m4, m5⟩ := id hM
  obtain ⟨t1, t2, t3, t4, t5, t6, t7⟩ := id hT
  refine lv_aload_n hx hb dX4_roll_0 rfl (lv_at hl 0 rfl) ?_
  refine lv_iconst (v := 0) hx hb dX4_roll_1 (by decide) ?_
  refine zp_Model_thrown C I m1 zm_507 dX4_roll_2 (fun H locs I => ?_)
  have M1 : MR (zh_sI S 20 mo 0) T mo ar := MR_I hM 20 _ (by decide) (by decide)
  have hk : zk_ S (zh_sI S 20 mo 0) := zk_rf S
  have g20 : zh_I (zh_sI S 20 mo 0) 20 mo = 0 := zI_s _ _ _ _
  obtain ⟨Z1, hZ1⟩ : ∃ z, z = (zh_sI S 20 mo 0) := ⟨_, rfl⟩
  rw [← hZ1] at I M1 hk g20
  clear hZ1
  obtain ⟨m1, m2, m3, m4, m5⟩ := id M1
  rcases zi_cases i (n := T.1.1) (by omega) with hb0 | ⟨hb0, hj0, hi0⟩
  · refine lv_aload_n hx hb dX4_roll_5 rfl (lv_at hl 0 rfl) ?_
    refine lv_iload_n hx hb dX4_roll_6 rfl (lv_at hl 1 rfl) ?_
    refine zc_V (n := 1) (rest := []) C I m1 rfl rfl (k_X4_isPromise l g Z1 mo T.1.1 i m1 m2 (by omega)) zm_582 zm_583 zm_16 zm_28 zm_584 rfl hl.1 dX4_roll_7 (by decide +kernel) rfl ⟨Nat.le_of_ble_eq_true rfl, Nat.le_of_ble_eq_true rfl⟩ (Nat.le_of_ble_eq_true rfl) ⟨Nat.le_of_ble_eq_true rfl, Nat.le_of_ble_eq_true rfl⟩ (fun v S' H locs hq I => ?_)
    obtain ⟨rfl, eS⟩ := hq
    rw [eS] at I
    refine zr_top (y := 0) (if_pos hb0) ?_
    refine lv_if_eq (tgt := 20) hx hb dX4_roll_10 (by decide) (fun _ => ?_) (fun h9 => absurd ((nI_eq (a := 0) (b := 0) (by omega) (by omega)).mpr (by omega)) h9)
    refine lv_aload_n hx hb dX4_roll_20 rfl (lv_at hl 0 rfl) ?_
    refine lv_iconst (v := 1) hx hb dX4_roll_21 (by decide) ?_
    refine zc_V (n := 1) (rest := []) C I m1 rfl rfl (k_X4_fails l g Z1 mo 1 m1) zm_575 zm_576 zm_15 zm_28 zm_577 rfl hl.1 dX4_roll_22 (by decide +kernel) rfl ⟨Nat.le_of_ble_eq_true rfl, Nat.le_of_ble_eq_true rfl⟩ (Nat.le_of_ble_eq_true rfl) ⟨Nat.le_of_ble_eq_true rfl, Nat.le_of_ble_eq_true rfl⟩ (fun v S' H locs hq I => ?_)
    obtain ⟨rfl, eS⟩ := hq
    rw [eS] at I
    have hcF : zc_roll T i y z = 1 := if_pos (Or.inl hb0)
    exact zr_iret C I hr hlk (by rw [show zs_roll T i y z = T from if_neg (by rw [hcF]; decide)]; exact ⟨(zI_s _ _ _ _).trans (by rw [hcF]; rfl), MR_I M1 20 _ (by decide) (by decide), fun a ha => hk a ha, 0, rfl, fun h => absurd (hcF.symm.trans h) (by decide)⟩) (Nat.le_of_ble_eq_true rfl) (Nat.le_of_ble_eq_true rfl) dX4_roll_25
  · obtain ⟨q, hb0n, rfl⟩ : ∃ q : Nat, q < T.1.1 ∧ i = nI q := ⟨_, hj0, hi0⟩
    clear hj0 hi0
    have hb0z : zx (nI q) = q := zx_nI (by omega)
    rcases zi_cases y (n := 4) (by decide) with hb1 | ⟨hb1, hj0, hi0⟩
    · refine lv_aload_n hx hb dX4_roll_5 rfl (lv_at hl 0 rfl) ?_
      refine lv_iload_n hx hb dX4_roll_6 rfl (lv_at hl 1 rfl) ?_
      refine zc_V (n := 1) (rest := []) C I m1 rfl rfl (k_X4_isPromise l g Z1 mo T.1.1 (nI q) m1 m2 (by omega)) zm_582 zm_583 zm_16 zm_28 zm_584 rfl hl.1 dX4_roll_7 (by decide +kernel) rfl ⟨Nat.le_of_ble_eq_true rfl, Nat.le_of_ble_eq_true rfl⟩ (Nat.le_of_ble_eq_true rfl) ⟨Nat.le_of_ble_eq_true rfl, Nat.le_of_ble_eq_true rfl⟩ (fun v S' H locs hq I => ?_)
      obtain ⟨rfl, eS⟩ := hq
      rw [eS] at I
      refine zr_top (y := 1) (if_neg hb0) ?_
      refine lv_if_eq (tgt := 20) hx hb dX4_roll_10 (by decide) (fun h9 => absurd h9 (fun h8 => absurd ((nI_eq (a := 1) (b := 0) (by omega) (by omega)).mp h8) (by omega))) (fun _ => ?_)
      refine lv_iload_n hx hb dX4_roll_13 rfl (lv_at hl 2 rfl) ?_
      refine zc_S (n := 1) (rest := []) C I (k_X4_isTable l g Z1 y) zm_608 zm_609 zm_28 zm_610 rfl hl.1 dX4_roll_14 (by decide +kernel) rfl ⟨Nat.le_of_ble_eq_true rfl, Nat.le_of_ble_eq_true rfl⟩ (Nat.le_of_ble_eq_true rfl) ⟨Nat.le_of_ble_eq_true rfl, Nat.le_of_ble_eq_true rfl⟩ (fun v S' H locs hq I => ?_)
      obtain ⟨rfl, eS⟩ := hq
      rw [eS] at I
      refine zr_top (y := 0) (if_pos hb1) ?_
      refine lv_if_ne (tgt := 26) hx hb dX4_roll_17 (by decide) (fun h9 => absurd ((nI_eq (a := 0) (b := 0) (by omega) (by omega)).mpr (by omega)) h9) (fun _ => ?_)
      refine lv_aload_n hx hb dX4_roll_20 rfl (lv_at hl 0 rfl) ?_
      refine lv_iconst (v := 1) hx hb dX4_roll_21 (by decide) ?_
      refine zc_V (n := 1) (rest := []) C I m1 rfl rfl (k_X4_fails l g Z1 mo 1 m1) zm_575 zm_576 zm_15 zm_28 zm_577 rfl hl.1 dX4_roll_22 (by decide +kernel) rfl ⟨Nat.le_of_ble_eq_true rfl, Nat.le_of_ble_eq_true rfl⟩ (Nat.le_of_ble_eq_true rfl) ⟨Nat.le_of_ble_eq_true rfl, Nat.le_of_ble_eq_true rfl⟩ (fun v S' H locs hq I => ?_)
      obtain ⟨rfl, eS⟩ := hq
      rw [eS] at I
      have hcF : zc_roll T (nI q) y z = 1 := if_pos (Or.inr hb1)
      exact zr_iret C I hr hlk (by rw [show zs_roll T (nI q) y z = T from if_neg (by rw [hcF]; decide)]; exact ⟨(zI_s _ _ _ _).trans (by rw [hcF]; rfl), MR_I M1 20 _ (by decide) (by decide), fun a ha => hk a ha, 0, rfl, fun h => absurd (hcF.symm.trans h) (by decide)⟩) (Nat.le_of_ble_eq_true rfl) (Nat.le_of_ble_eq_true rfl) dX4_roll_25
    · obtain ⟨u, hb1n, rfl⟩ : ∃ u : Nat, u < 4 ∧ y = nI u := ⟨_, hj0, hi0⟩
      clear hj0 hi0
      have hb1z : zx (nI u) = u := zx_nI (by omega)
      have hn1 : ¬ (zi T.1.1 (nI q) ∨ zi 4 (nI u)) := fun h => h.elim hb0 hb1
      by_cases hfx : z < 2 ∨ 1000 < z
      · refine lv_aload_n hx hb dX4_roll_5 rfl (lv_at hl 0 rfl) ?_
        refine lv_iload_n hx hb dX4_roll_6 rfl (lv_at hl 1 rfl) ?_
        refine zc_V (n := 1) (rest := []) C I m1 rfl rfl (k_X4_isPromise l g Z1 mo T.1.1 (nI q) m1 m2 (by omega)) zm_582 zm_583 zm_16 zm_28 zm_584 rfl hl.1 dX4_roll_7 (by decide +kernel) rfl ⟨Nat.le_of_ble_eq_true rfl, Nat.le_of_ble_eq_true rfl⟩ (Nat.le_of_ble_eq_true rfl) ⟨Nat.le_of_ble_eq_true rfl, Nat.le_of_ble_eq_true rfl⟩ (fun v S' H locs hq I => ?_)
        obtain ⟨rfl, eS⟩ := hq
        rw [eS] at I
        refine zr_top (y := 1) (if_neg hb0) ?_
        refine lv_if_eq (tgt := 20) hx hb dX4_roll_10 (by decide) (fun h9 => absurd h9 (fun h8 => absurd ((nI_eq (a := 1) (b := 0) (by omega) (by omega)).mp h8) (by omega))) (fun _ => ?_)
        refine lv_iload_n hx hb dX4_roll_13 rfl (lv_at hl 2 rfl) ?_
        refine zc_S (n := 1) (rest := []) C I (k_X4_isTable l g Z1 (nI u)) zm_608 zm_609 zm_28 zm_610 rfl hl.1 dX4_roll_14 (by decide +kernel) rfl ⟨Nat.le_of_ble_eq_true rfl, Nat.le_of_ble_eq_true rfl⟩ (Nat.le_of_ble_eq_true rfl) ⟨Nat.le_of_ble_eq_true rfl, Nat.le_of_ble_eq_true rfl⟩ (fun v S' H locs hq I => ?_)
        obtain ⟨rfl, eS⟩ := hq
        rw [eS] at I
        refine zr_top (y := 1) (if_neg hb1) ?_
        refine lv_if_ne (tgt := 26) hx hb dX4_roll_17 (by decide) (fun _ => ?_) (fun h9 => absurd h9 (fun h8 => absurd ((nI_eq (a := 1) (b := 0) (by omega) (by omega)).mp h8) (by omega)))
        refine lv_iload_n hx hb dX4_roll_26 rfl (lv_at hl 3 rfl) ?_
        refine zc_S (n := 1) (rest := []) C I (k_X4_isDie l g Z1 z) zm_615 zm_616 zm_28 zm_617 rfl hl.1 dX4_roll_27 (by decide +kernel) rfl ⟨Nat.le_of_ble_eq_true rfl, Nat.le_of_ble_eq_true rfl⟩ (Nat.le_of_ble_eq_true rfl) ⟨Nat.le_of_ble_eq_true rfl, Nat.le_of_ble_eq_true rfl⟩ (fun v S' H locs hq I => ?_)
        obtain ⟨rfl, eS⟩ := hq
        rw [eS] at I
        refine zr_top (y := 0) (if_pos hfx) ?_
        refine lv_if_ne (tgt := 39) hx hb dX4_roll_30 (by decide) (fun h9 => absurd ((nI_eq (a := 0) (b := 0) (by omega) (by omega)).mpr (by omega)) h9) (fun _ => ?_)
        refine lv_aload_n hx hb dX4_roll_33 rfl (lv_at hl 0 rfl) ?_
        refine lv_iconst (v := 2) hx hb dX4_roll_34 (by decide) ?_
        refine zc_V (n := 1) (rest := []) C I m1 rfl rfl (k_X4_fails l g Z1 mo 2 m1) zm_575 zm_576 zm_15 zm_28 zm_577 rfl hl.1 dX4_roll_35 (by decide +kernel) rfl ⟨Nat.le_of_ble_eq_true rfl, Nat.le_of_ble_eq_true rfl⟩ (Nat.le_of_ble_eq_true rfl) ⟨Nat.le_of_ble_eq_true rfl, Nat.le_of_ble_eq_true rfl⟩ (fun v S' H locs hq I => ?_)
        obtain ⟨rfl, eS⟩ := hq
        rw [eS] at I
        have hcF : zc_roll T (nI q) (nI u) z = 2 := (by unfold zc_roll; rw [if_neg hn1, if_pos hfx])
        exact zr_iret C I hr hlk (by rw [show zs_roll T (nI q) (nI u) z = T from if_neg (by rw [hcF]; decide)]; exact ⟨(zI_s _ _ _ _).trans (by rw [hcF]; rfl), MR_I M1 20 _ (by decide) (by decide), fun a ha => hk a ha, 0, rfl, fun h => absurd (hcF.symm.trans h) (by decide)⟩) (Nat.le_of_ble_eq_true rfl) (Nat.le_of_ble_eq_true rfl) dX4_roll_38
      · obtain ⟨f, hf2, hf3, rfl⟩ := zi_faces hfx
        have hfz : zx (nI f) = f := zx_nI (by omega)
        have hc3 : (T.2 2 q ≠ 0 ∨ 100 ≤ T.1.2) → zc_roll T (nI q) (nI u) (nI f) = 3 := fun h => by unfold zc_roll; rw [if_neg hn1, if_neg hfx, hb0z, if_pos h]
        have hc0 : ¬ (T.2 2 q ≠ 0 ∨ 100 ≤ T.1.2) → zc_roll T (nI q) (nI u) (nI f) = 0 := fun h => by unfold zc_roll; rw [if_neg hn1, if_neg hfx, hb0z, if_neg h]
        refine lv_aload_n hx hb dX4_roll_5 rfl (lv_at hl 0 rfl) ?_
        refine lv_iload_n hx hb dX4_roll_6 rfl (lv_at hl 1 rfl) ?_
        refine zc_V (n := 1) (rest := []) C I m1 rfl rfl (k_X4_isPromise l g Z1 mo T.1.1 (nI q) m1 m2 (by omega)) zm_582 zm_583 zm_16 zm_28 zm_584 rfl hl.1 dX4_roll_7 (by decide +kernel) rfl ⟨Nat.le_of_ble_eq_true rfl, Nat.le_of_ble_eq_true rfl⟩ (Nat.le_of_ble_eq_true rfl) ⟨Nat.le_of_ble_eq_true rfl, Nat.le_of_ble_eq_true rfl⟩ (fun v S' H locs hq I => ?_)
        obtain ⟨rfl, eS⟩ := hq
        rw [eS] at I
        refine zr_top (y := 1) (if_neg hb0) ?_
        refine lv_if_eq (tgt := 20) hx hb dX4_roll_10 (by decide) (fun h9 => absurd h9 (fun h8 => absurd ((nI_eq (a := 1) (b := 0) (by omega) (by omega)).mp h8) (by omega))) (fun _ => ?_)
        refine lv_iload_n hx hb dX4_roll_13 rfl (lv_at hl 2 rfl) ?_
        refine zc_S (n := 1) (rest := []) C I (k_X4_isTable l g Z1 (nI u)) zm_608 zm_609 zm_28 zm_610 rfl hl.1 dX4_roll_14 (by decide +kernel) rfl ⟨Nat.le_of_ble_eq_true rfl, Nat.le_of_ble_eq_true rfl⟩ (Nat.le_of_ble_eq_true rfl) ⟨Nat.le_of_ble_eq_true rfl, Nat.le_of_ble_eq_true rfl⟩ (fun v S' H locs hq I => ?_)
        obtain ⟨rfl, eS⟩ := hq
        rw [eS] at I
        refine zr_top (y := 1) (if_neg hb1) ?_
        refine lv_if_ne (tgt := 26) hx hb dX4_roll_17 (by decide) (fun _ => ?_) (fun h9 => absurd h9 (fun h8 => absurd ((nI_eq (a := 1) (b := 0) (by omega) (by omega)).mp h8) (by omega)))
        refine lv_iload_n hx hb dX4_roll_26 rfl (lv_at hl 3 rfl) ?_
        refine zc_S (n := 1) (rest := []) C I (k_X4_isDie l g Z1 (nI f)) zm_615 zm_616 zm_28 zm_617 rfl hl.1 dX4_roll_27 (by decide +kernel) rfl ⟨Nat.le_of_ble_eq_true rfl, Nat.le_of_ble_eq_true rfl⟩ (Nat.le_of_ble_eq_true rfl) ⟨Nat.le_of_ble_eq_true rfl, Nat.le_of_ble_eq_true rfl⟩ (fun v S' H locs hq I => ?_)
        obtain ⟨rfl, eS⟩ := hq
        rw [eS] at I
        refine zr_top (y := 1) (if_neg hfx) ?_
        have t3q := t3 q
        have t4u := t4 u
        refine lv_if_ne (tgt := 39) hx hb dX4_roll_30 (by decide) (fun _ => ?_) (fun h9 => absurd h9 (fun h8 => absurd ((nI_eq (a := 1) (b := 0) (by omega) (by omega)).mp h8) (by omega)))
        refine lv_aload_n hx hb dX4_roll_39 rfl (lv_at hl 0 rfl) ?_
        refine zg_Model_opened (v := ar 2) C I m1 zm_511 ((m4 2 (by decide)).1) dX4_roll_40 ?_
        refine lv_iload_n hx hb dX4_roll_43 rfl (lv_at hl 1 rfl) ?_
        refine zr_zald (v := nI (T.2 2 q)) C I (m4 2 (by decide)).2.1 (by rw [show zh_N Z1 (ar 2) = 16 from (m4 2 (by decide)).2.2.1]; exact vp_in_nI (by omega) (by omega)) (by rw [nI_clamp (by omega)]; exact (m4 2 (by decide)).2.2.2 q (show q < 16 by omega)) dX4_roll_44 ?_
        refine lv_if_ne (tgt := 57) hx hb dX4_roll_45 (by decide) (fun c45 => ?_) (fun c45 => ?_)
        · have c45 : ¬ (T.2 2 q) = 0 := fun h9 => c45 ((nI_eq (a := T.2 2 q) (b := 0) (by omega) (by omega)).mpr h9)
          refine lv_aload_n hx hb dX4_roll_57 rfl (lv_at hl 0 rfl) ?_
          refine lv_iconst (v := 3) hx hb dX4_roll_58 (by decide) ?_
          refine zc_V (n := 1) (rest := []) C I m1 rfl rfl (k_X4_fails l g Z1 mo 3 m1) zm_575 zm_576 zm_15 zm_28 zm_577 rfl hl.1 dX4_roll_59 (by decide +kernel) rfl ⟨Nat.le_of_ble_eq_true rfl, Nat.le_of_ble_eq_true rfl⟩ (Nat.le_of_ble_eq_true rfl) ⟨Nat.le_of_ble_eq_true rfl, Nat.le_of_ble_eq_true rfl⟩ (fun v S' H locs hq I => ?_)
          obtain ⟨rfl, eS⟩ := hq
          rw [eS] at I
          have hcF : zc_roll T (nI q) (nI u) (nI f) = 3 := hc3 (Or.inl c45)
          exact zr_iret C I hr hlk (by rw [show zs_roll T (nI q) (nI u) (nI f) = T from if_neg (by rw [hcF]; decide)]; exact ⟨(zI_s _ _ _ _).trans (by rw [hcF]; rfl), MR_I M1 20 _ (by decide) (by decide), fun a ha => hk a ha, 0, rfl, fun h => absurd (hcF.symm.trans h) (by decide)⟩) (Nat.le_of_ble_eq_true rfl) (Nat.le_of_ble_eq_true rfl) dX4_roll_62
        · have c45 : (T.2 2 q) = 0 := (nI_eq (a := T.2 2 q) (b := 0) (by omega) (by omega)).mp c45
          refine lv_aload_n hx hb dX4_roll_48 rfl (lv_at hl 0 rfl) ?_
          refine zg_Model_entries (v := nI T.1.2) C I m1 zm_514 (m3) dX4_roll_49 ?_
          refine lv_bipush (v := 100) hx hb dX4_roll_52 (by decide) ?_
          refine lv_icmp_ne (tgt := 63) hx hb dX4_roll_54 (by decide) (fun c54 => ?_) (fun c54 => ?_)
          · have c54 : ¬ T.1.2 = 100 := fun h9 => c54 ((nI_eq (a := T.1.2) (b := 100) (by omega) (by omega)).mpr h9)
            have hc := hc0 (fun h => h.elim (fun h => h c45) (fun h => c54 (by omega)))
            have hne : T.1.2 < 100 := by omega
            obtain ⟨v, hv⟩ : ∃ v, v = zd_val (T.2 1 q) (T.2 4 u) f := ⟨_, rfl⟩
            obtain ⟨a1, ha1⟩ : ∃ a1, a1 = (zd_roll (T.2 1 q) (T.2 4 u) f).1 := ⟨_, rfl⟩
            obtain ⟨r1, hr1⟩ : ∃ r1, r1 = (zd_roll (T.2 1 q) (T.2 4 u) f).2 := ⟨_, rfl⟩
            have bv : v ≤ f := by rw [hv]; exact zd_val_le hf2
            have br1 : r1 ≤ 65536 := by rw [hr1]; exact zd_roll_le _ _ _
            refine lv_aload_n hx hb dX4_roll_63 rfl (lv_at hl 0 rfl) ?_
            refine lv_aload_n hx hb dX4_roll_64 rfl (lv_at hl 0 rfl) ?_
            refine zg_Model_state (v := ar 1) C I m1 zm_510 ((m4 1 (by decide)).1) dX4_roll_65 ?_
            refine lv_iload_n hx hb dX4_roll_68 rfl (lv_at hl 1 rfl) ?_
            refine zr_iald (v := nI (T.2 1 q)) C I (m4 1 (by decide)).2.1 (by rw [show zh_N Z1 (ar 1) = 16 from (m4 1 (by decide)).2.2.1]; exact vp_in_nI (by omega) (by omega)) (by rw [nI_clamp (by omega)]; exact (m4 1 (by decide)).2.2.2 q (show q < 16 by omega)) dX4_roll_69 ?_
            refine lv_aload_n hx hb dX4_roll_70 rfl (lv_at hl 0 rfl) ?_
            refine zg_Model_parts (v := ar 4) C I m1 zm_513 ((m4 4 (by decide)).1) dX4_roll_71 ?_
            refine lv_iload_n hx hb dX4_roll_74 rfl (lv_at hl 2 rfl) ?_
            refine zr_iald (v := nI (T.2 4 u)) C I (m4 4 (by decide)).2.1 (by rw [show zh_N Z1 (ar 4) = 4 from (m4 4 (by decide)).2.2.1]; exact vp_in_nI (by omega) (by omega)) (by rw [nI_clamp (by omega)]; exact (m4 4 (by decide)).2.2.2 u (show u < 4 by omega)) dX4_roll_75 ?_
            refine lv_iload_n hx hb dX4_roll_76 rfl (lv_at hl 3 rfl) ?_
            refine zc_V (n := 3) (rest := []) C I m1 rfl rfl (k_X4_rolls l g Z1 mo (T.2 1 q) (T.2 4 u) f m1 (by omega) (by omega) hf2 hf3) zm_618 zm_619 zm_17 zm_28 zm_620 rfl hl.1 dX4_roll_77 (by decide +kernel) rfl ⟨Nat.le_of_ble_eq_true rfl, Nat.le_of_ble_eq_true rfl⟩ (Nat.le_of_ble_eq_true rfl) ⟨Nat.le_of_ble_eq_true rfl, Nat.le_of_ble_eq_true rfl⟩ (fun v S' H locs hq I => ?_)
            obtain ⟨rfl, eS⟩ := hq
            rw [← hv]
            rw [eS, ← ha1, ← hr1] at I
            have M1 : MR (zB Z1 mo a1 r1) T mo ar := MR_B M1 a1 r1
            have hk : zk_ S (zB Z1 mo a1 r1) := fun a ha => hk a ha
            have g20 : zh_I (zB Z1 mo a1 r1) 20 mo = 0 := ((zB_i Z1 mo a1 r1).2.2 20 mo (by decide) (by decide)).trans g20
            have g23 : zh_I (zB Z1 mo a1 r1) 23 mo = nI a1 := (zB_i Z1 mo a1 r1).1
            have g24 : zh_I (zB Z1 mo a1 r1) 24 mo = nI r1 := (zB_i Z1 mo a1 r1).2.1
            obtain ⟨Z2, hZ2⟩ : ∃ z, z = (zB Z1 mo a1 r1) := ⟨_, rfl⟩
            rw [← hZ2] at I M1 hk g20 g23 g24
            clear hZ2
            obtain ⟨m1, m2, m3, m4, m5⟩ := id M1
            refine lv_istore (lv' := [(4, .int (nI v)), (0, .ref mo), (1, .int (nI q)), (2, .int (nI u)), (3, .int (nI f))]) hx hb dX4_roll_80 hl (by decide) rfl (fun ls hl => ?_)
            refine lv_aload_n hx hb dX4_roll_82 rfl (lv_at hl 1 rfl) ?_
            refine zg_Model_state (v := ar 1) C I m1 zm_510 ((m4 1 (by decide)).1) dX4_roll_83 ?_
            refine lv_iload_n hx hb dX4_roll_86 rfl (lv_at hl 2 rfl) ?_
            refine lv_aload_n hx hb dX4_roll_87 rfl (lv_at hl 1 rfl) ?_
            refine zg_Model_behind (v := nI a1) C I m1 zm_523 (g23) dX4_roll_88 ?_
            refine zr_iast C I (m4 1 (by decide)).2.1 (by rw [show zh_N Z2 (ar 1) = 16 from (m4 1 (by decide)).2.2.1]; exact vp_in_nI (by omega) (by omega)) dX4_roll_91 (fun H locs I => ?_)
            rw [nI_clamp (by omega)] at I
            have M1 : MR (zh_sA Z2 (ar 1) (upd (zh_A Z2 (ar 1)) q (nI a1))) (zt_s T 1 q a1) mo ar := MR_A M1 a1 (by decide) (show q < 16 by omega)
            have hk : zk_ S (zh_sA Z2 (ar 1) (upd (zh_A Z2 (ar 1)) q (nI a1))) := fun a ha => hk a ha
            have g20 : zh_I (zh_sA Z2 (ar 1) (upd (zh_A Z2 (ar 1)) q (nI a1))) 20 mo = 0 := g20
            have g23 : zh_I (zh_sA Z2 (ar 1) (upd (zh_A Z2 (ar 1)) q (nI a1))) 23 mo = nI a1 := g23
            have g24 : zh_I (zh_sA Z2 (ar 1) (upd (zh_A Z2 (ar 1)) q (nI a1))) 24 mo = nI r1 := g24
            obtain ⟨Z3, hZ3⟩ : ∃ z, z = (zh_sA Z2 (ar 1) (upd (zh_A Z2 (ar 1)) q (nI a1))) := ⟨_, rfl⟩
            rw [← hZ3] at I M1 hk g20 g23 g24
            clear hZ3
            obtain ⟨m1, m2, m3, m4, m5⟩ := id M1
            refine lv_aload_n hx hb dX4_roll_92 rfl (lv_at hl 1 rfl) ?_
            refine zg_Model_of (v := ar 5) C I m1 zm_515 ((m4 5 (by decide)).1) dX4_roll_93 ?_
            refine lv_aload_n hx hb dX4_roll_96 rfl (lv_at hl 1 rfl) ?_
            refine zg_Model_entries (v := nI T.1.2) C I m1 zm_514 (m3) dX4_roll_97 ?_
            refine lv_iload_n hx hb dX4_roll_100 rfl (lv_at hl 2 rfl) ?_
            refine zr_iast C I (m4 5 (by decide)).2.1 (by rw [show zh_N Z3 (ar 5) = 100 from (m4 5 (by decide)).2.2.1]; exact vp_in_nI (by omega) (by omega)) dX4_roll_101 (fun H locs I => ?_)
            rw [nI_clamp (by omega)] at I
            have M1 : MR (zh_sA Z3 (ar 5) (upd (zh_A Z3 (ar 5)) T.1.2 (nI q))) (zt_s (zt_s T 1 q a1) 5 T.1.2 q) mo ar := MR_A M1 q (by decide) (show T.1.2 < 100 by omega)
            have hk : zk_ S (zh_sA Z3 (ar 5) (upd (zh_A Z3 (ar 5)) T.1.2 (nI q))) := fun a ha => hk a ha
            have g20 : zh_I (zh_sA Z3 (ar 5) (upd (zh_A Z3 (ar 5)) T.1.2 (nI q))) 20 mo = 0 := g20
            have g23 : zh_I (zh_sA Z3 (ar 5) (upd (zh_A Z3 (ar 5)) T.1.2 (nI q))) 23 mo = nI a1 := g23
            have g24 : zh_I (zh_sA Z3 (ar 5) (upd (zh_A Z3 (ar 5)) T.1.2 (nI q))) 24 mo = nI r1 := g24
            obtain ⟨Z4, hZ4⟩ : ∃ z, z = (zh_sA Z3 (ar 5) (upd (zh_A Z3 (ar 5)) T.1.2 (nI q))) := ⟨_, rfl⟩
            rw [← hZ4] at I M1 hk g20 g23 g24
            clear hZ4
            obtain ⟨m1, m2, m3, m4, m5⟩ := id M1
            refine lv_aload_n hx hb dX4_roll_102 rfl (lv_at hl 1 rfl) ?_
            refine zg_Model_at (v := ar 6) C I m1 zm_516 ((m4 6 (by decide)).1) dX4_roll_103 ?_
            refine lv_aload_n hx hb dX4_roll_106 rfl (lv_at hl 1 rfl) ?_
            refine zg_Model_entries (v := nI T.1.2) C I m1 zm_514 (m3) dX4_roll_107 ?_
            refine lv_iload_n hx hb dX4_roll_110 rfl (lv_at hl 3 rfl) ?_
            refine zr_iast C I (m4 6 (by decide)).2.1 (by rw [show zh_N Z4 (ar 6) = 100 from (m4 6 (by decide)).2.2.1]; exact vp_in_nI (by omega) (by omega)) dX4_roll_111 (fun H locs I => ?_)
            rw [nI_clamp (by omega)] at I
            have M1 : MR (zh_sA Z4 (ar 6) (upd (zh_A Z4 (ar 6)) T.1.2 (nI u))) (zt_s (zt_s (zt_s T 1 q a1) 5 T.1.2 q) 6 T.1.2 u) mo ar := MR_A M1 u (by decide) (show T.1.2 < 100 by omega)
            have hk : zk_ S (zh_sA Z4 (ar 6) (upd (zh_A Z4 (ar 6)) T.1.2 (nI u))) := fun a ha => hk a ha
            have g20 : zh_I (zh_sA Z4 (ar 6) (upd (zh_A Z4 (ar 6)) T.1.2 (nI u))) 20 mo = 0 := g20
            have g23 : zh_I (zh_sA Z4 (ar 6) (upd (zh_A Z4 (ar 6)) T.1.2 (nI u))) 23 mo = nI a1 := g23
            have g24 : zh_I (zh_sA Z4 (ar 6) (upd (zh_A Z4 (ar 6)) T.1.2 (nI u))) 24 mo = nI r1 := g24
            obtain ⟨Z5, hZ5⟩ : ∃ z, z = (zh_sA Z4 (ar 6) (upd (zh_A Z4 (ar 6)) T.1.2 (nI u))) := ⟨_, rfl⟩
            rw [← hZ5] at I M1 hk g20 g23 g24
            clear hZ5
            obtain ⟨m1, m2, m3, m4, m5⟩ := id M1
            refine lv_aload_n hx hb dX4_roll_112 rfl (lv_at hl 1 rfl) ?_
            refine zg_Model_part (v := ar 7) C I m1 zm_517 ((m4 7 (by decide)).1) dX4_roll_113 ?_
            refine lv_aload_n hx hb dX4_roll_116 rfl (lv_at hl 1 rfl) ?_
            refine zg_Model_entries (v := nI T.1.2) C I m1 zm_514 (m3) dX4_roll_117 ?_
            refine lv_aload_n hx hb dX4_roll_120 rfl (lv_at hl 1 rfl) ?_
            refine zg_Model_parts (v := ar 4) C I m1 zm_513 ((m4 4 (by decide)).1) dX4_roll_121 ?_
            refine lv_iload_n hx hb dX4_roll_124 rfl (lv_at hl 3 rfl) ?_
            refine zr_iald (v := nI (T.2 4 u)) C I (m4 4 (by decide)).2.1 (by rw [show zh_N Z5 (ar 4) = 4 from (m4 4 (by decide)).2.2.1]; exact vp_in_nI (by omega) (by omega)) (by rw [nI_clamp (by omega), (m4 4 (by decide)).2.2.2 u (show u < 4 by omega), zt_s_j _ _ _ _ (by decide), zt_s_j _ _ _ _ (by decide), zt_s_j _ _ _ _ (by decide)]) dX4_roll_125 ?_
            refine zr_iast C I (m4 7 (by decide)).2.1 (by rw [show zh_N Z5 (ar 7) = 100 from (m4 7 (by decide)).2.2.1]; exact vp_in_nI (by omega) (by omega)) dX4_roll_126 (fun H locs I => ?_)
            rw [nI_clamp (by omega)] at I
            have M1 : MR (zh_sA Z5 (ar 7) (upd (zh_A Z5 (ar 7)) T.1.2 (nI (T.2 4 u)))) (zt_s (zt_s (zt_s (zt_s T 1 q a1) 5 T.1.2 q) 6 T.1.2 u) 7 T.1.2 (T.2 4 u)) mo ar := MR_A M1 (T.2 4 u) (by decide) (show T.1.2 < 100 by omega)
            have hk : zk_ S (zh_sA Z5 (ar 7) (upd (zh_A Z5 (ar 7)) T.1.2 (nI (T.2 4 u)))) := fun a ha => hk a ha
            have g20 : zh_I (zh_sA Z5 (ar 7) (upd (zh_A Z5 (ar 7)) T.1.2 (nI (T.2 4 u)))) 20 mo = 0 := g20
            have g23 : zh_I (zh_sA Z5 (ar 7) (upd (zh_A Z5 (ar 7)) T.1.2 (nI (T.2 4 u)))) 23 mo = nI a1 := g23
            have g24 : zh_I (zh_sA Z5 (ar 7) (upd (zh_A Z5 (ar 7)) T.1.2 (nI (T.2 4 u)))) 24 mo = nI r1 := g24
            obtain ⟨Z6, hZ6⟩ : ∃ z, z = (zh_sA Z5 (ar 7) (upd (zh_A Z5 (ar 7)) T.1.2 (nI (T.2 4 u)))) := ⟨_, rfl⟩
            rw [← hZ6] at I M1 hk g20 g23 g24
            clear hZ6
            obtain ⟨m1, m2, m3, m4, m5⟩ := id M1
            refine lv_aload_n hx hb dX4_roll_127 rfl (lv_at hl 1 rfl) ?_
            refine zg_Model_sides (v := ar 8) C I m1 zm_518 ((m4 8 (by decide)).1) dX4_roll_128 ?_
            refine lv_aload_n hx hb dX4_roll_131 rfl (lv_at hl 1 rfl) ?_
            refine zg_Model_entries (v := nI T.1.2) C I m1 zm_514 (m3) dX4_roll_132 ?_
            refine lv_iload_n hx hb dX4_roll_135 rfl (lv_at hl 4 rfl) ?_
            refine zr_iast C I (m4 8 (by decide)).2.1 (by rw [show zh_N Z6 (ar 8) = 100 from (m4 8 (by decide)).2.2.1]; exact vp_in_nI (by omega) (by omega)) dX4_roll_136 (fun H locs I => ?_)
            rw [nI_clamp (by omega)] at I
            have M1 : MR (zh_sA Z6 (ar 8) (upd (zh_A Z6 (ar 8)) T.1.2 (nI f))) (zt_s (zt_s (zt_s (zt_s (zt_s T 1 q a1) 5 T.1.2 q) 6 T.1.2 u) 7 T.1.2 (T.2 4 u)) 8 T.1.2 f) mo ar := MR_A M1 f (by decide) (show T.1.2 < 100 by omega)
            have hk : zk_ S (zh_sA Z6 (ar 8) (upd (zh_A Z6 (ar 8)) T.1.2 (nI f))) := fun a ha => hk a ha
            have g20 : zh_I (zh_sA Z6 (ar 8) (upd (zh_A Z6 (ar 8)) T.1.2 (nI f))) 20 mo = 0 := g20
            have g23 : zh_I (zh_sA Z6 (ar 8) (upd (zh_A Z6 (ar 8)) T.1.2 (nI f))) 23 mo = nI a1 := g23
            have g24 : zh_I (zh_sA Z6 (ar 8) (upd (zh_A Z6 (ar 8)) T.1.2 (nI f))) 24 mo = nI r1 := g24
            obtain ⟨Z7, hZ7⟩ : ∃ z, z = (zh_sA Z6 (ar 8) (upd (zh_A Z6 (ar 8)) T.1.2 (nI f))) := ⟨_, rfl⟩
            rw [← hZ7] at I M1 hk g20 g23 g24
            clear hZ7
            obtain ⟨m1, m2, m3, m4, m5⟩ := id M1
            refine lv_aload_n hx hb dX4_roll_137 rfl (lv_at hl 1 rfl) ?_
            refine zg_Model_value (v := ar 9) C I m1 zm_519 ((m4 9 (by decide)).1) dX4_roll_138 ?_
            refine lv_aload_n hx hb dX4_roll_141 rfl (lv_at hl 1 rfl) ?_
            refine zg_Model_entries (v := nI T.1.2) C I m1 zm_514 (m3) dX4_roll_142 ?_
            refine lv_iload hx hb dX4_roll_145 (lv_at hl 0 rfl) ?_
            refine zr_iast C I (m4 9 (by decide)).2.1 (by rw [show zh_N Z7 (ar 9) = 100 from (m4 9 (by decide)).2.2.1]; exact vp_in_nI (by omega) (by omega)) dX4_roll_147 (fun H locs I => ?_)
            rw [nI_clamp (by omega)] at I
            have M1 : MR (zh_sA Z7 (ar 9) (upd (zh_A Z7 (ar 9)) T.1.2 (nI v))) (zt_s (zt_s (zt_s (zt_s (zt_s (zt_s T 1 q a1) 5 T.1.2 q) 6 T.1.2 u) 7 T.1.2 (T.2 4 u)) 8 T.1.2 f) 9 T.1.2 v) mo ar := MR_A M1 v (by decide) (show T.1.2 < 100 by omega)
            have hk : zk_ S (zh_sA Z7 (ar 9) (upd (zh_A Z7 (ar 9)) T.1.2 (nI v))) := fun a ha => hk a ha
            have g20 : zh_I (zh_sA Z7 (ar 9) (upd (zh_A Z7 (ar 9)) T.1.2 (nI v))) 20 mo = 0 := g20
            have g23 : zh_I (zh_sA Z7 (ar 9) (upd (zh_A Z7 (ar 9)) T.1.2 (nI v))) 23 mo = nI a1 := g23
            have g24 : zh_I (zh_sA Z7 (ar 9) (upd (zh_A Z7 (ar 9)) T.1.2 (nI v))) 24 mo = nI r1 := g24
            obtain ⟨Z8, hZ8⟩ : ∃ z, z = (zh_sA Z7 (ar 9) (upd (zh_A Z7 (ar 9)) T.1.2 (nI v))) := ⟨_, rfl⟩
            rw [← hZ8] at I M1 hk g20 g23 g24
            clear hZ8
            obtain ⟨m1, m2, m3, m4, m5⟩ := id M1
            refine lv_aload_n hx hb dX4_roll_148 rfl (lv_at hl 1 rfl) ?_
            refine zg_Model_rejected (v := ar 10) C I m1 zm_520 ((m4 10 (by decide)).1) dX4_roll_149 ?_
            refine lv_aload_n hx hb dX4_roll_152 rfl (lv_at hl 1 rfl) ?_
            refine zg_Model_entries (v := nI T.1.2) C I m1 zm_514 (m3) dX4_roll_153 ?_
            refine lv_aload_n hx hb dX4_roll_156 rfl (lv_at hl 1 rfl) ?_
            refine zg_Model_draws (v := nI r1) C I m1 zm_524 (g24) dX4_roll_157 ?_
            refine zr_iast C I (m4 10 (by decide)).2.1 (by rw [show zh_N Z8 (ar 10) = 100 from (m4 10 (by decide)).2.2.1]; exact vp_in_nI (by omega) (by omega)) dX4_roll_160 (fun H locs I => ?_)
            rw [nI_clamp (by omega)] at I
            have M1 : MR (zh_sA Z8 (ar 10) (upd (zh_A Z8 (ar 10)) T.1.2 (nI r1))) (zt_s (zt_s (zt_s (zt_s (zt_s (zt_s (zt_s T 1 q a1) 5 T.1.2 q) 6 T.1.2 u) 7 T.1.2 (T.2 4 u)) 8 T.1.2 f) 9 T.1.2 v) 10 T.1.2 r1) mo ar := MR_A M1 r1 (by decide) (show T.1.2 < 100 by omega)
            have hk : zk_ S (zh_sA Z8 (ar 10) (upd (zh_A Z8 (ar 10)) T.1.2 (nI r1))) := fun a ha => hk a ha
            have g20 : zh_I (zh_sA Z8 (ar 10) (upd (zh_A Z8 (ar 10)) T.1.2 (nI r1))) 20 mo = 0 := g20
            have g23 : zh_I (zh_sA Z8 (ar 10) (upd (zh_A Z8 (ar 10)) T.1.2 (nI r1))) 23 mo = nI a1 := g23
            have g24 : zh_I (zh_sA Z8 (ar 10) (upd (zh_A Z8 (ar 10)) T.1.2 (nI r1))) 24 mo = nI r1 := g24
            obtain ⟨Z9, hZ9⟩ : ∃ z, z = (zh_sA Z8 (ar 10) (upd (zh_A Z8 (ar 10)) T.1.2 (nI r1))) := ⟨_, rfl⟩
            rw [← hZ9] at I M1 hk g20 g23 g24
            clear hZ9
            obtain ⟨m1, m2, m3, m4, m5⟩ := id M1
            have M1 : MR Z9 (zs_r7 T q u f a1 v r1) mo ar := M1
            obtain ⟨m1, m2, m3, m4, m5⟩ := id M1
            obtain ⟨w5, w6, w8, w9, w10, w11⟩ := zs_r7_v T q u f a1 v r1
            refine lv_aload_n hx hb dX4_roll_161 rfl (lv_at hl 1 rfl) ?_
            refine zg_Model_sum (v := ar 11) C I m1 zm_521 ((m4 11 (by decide)).1) dX4_roll_162 ?_
            refine lv_aload_n hx hb dX4_roll_165 rfl (lv_at hl 1 rfl) ?_
            refine zg_Model_entries (v := nI T.1.2) C I m1 zm_514 (m3) dX4_roll_166 ?_
            refine lv_aload_n hx hb dX4_roll_169 rfl (lv_at hl 1 rfl) ?_
            refine lv_aload_n hx hb dX4_roll_170 rfl (lv_at hl 1 rfl) ?_
            refine zg_Model_entries (v := nI T.1.2) C I m1 zm_514 (m3) dX4_roll_171 ?_
            refine zc_V (n := 1) (rest := [.int (nI T.1.2), .ref (ar 11)]) C I m1 rfl rfl (k_X4_sumOf l g Z9 (zs_r7 T q u f a1 v r1) mo ar M1 T.1.2 hne (by rw [w5]; omega) (by rw [w6]; omega) (by rw [w8]; omega) (by rw [w9]; omega) (by rw [w10]; omega) (fun h => by rw [w11]; exact (t5 _ (by omega)).2.2.2.2.2.2.2.2.1)) zm_621 zm_622 zm_18 zm_28 zm_623 rfl hl.1 dX4_roll_174 (by decide +kernel) rfl ⟨Nat.le_of_ble_eq_true rfl, Nat.le_of_ble_eq_true rfl⟩ (Nat.le_of_ble_eq_true rfl) ⟨Nat.le_of_ble_eq_true rfl, Nat.le_of_ble_eq_true rfl⟩ (fun v S' H locs hq I => ?_)
            obtain ⟨rfl, eS⟩ := hq
            rw [eS] at I
            refine zr_top (y := nI (zd_sum (zb_roll T) q u f v r1)) (by rw [zs_r7_s]) ?_
            refine zr_iast C I (m4 11 (by decide)).2.1 (by rw [show zh_N Z9 (ar 11) = 100 from (m4 11 (by decide)).2.2.1]; exact vp_in_nI (by omega) (by omega)) dX4_roll_177 (fun H locs I => ?_)
            rw [nI_clamp (by omega)] at I
            have M1 : MR (zh_sA Z9 (ar 11) (upd (zh_A Z9 (ar 11)) T.1.2 (nI (zd_sum (zb_roll T) q u f v r1)))) (zt_s (zs_r7 T q u f a1 v r1) 11 T.1.2 (zd_sum (zb_roll T) q u f v r1)) mo ar := MR_A M1 (zd_sum (zb_roll T) q u f v r1) (by decide) (show T.1.2 < 100 by omega)
            have hk : zk_ S (zh_sA Z9 (ar 11) (upd (zh_A Z9 (ar 11)) T.1.2 (nI (zd_sum (zb_roll T) q u f v r1)))) := fun a ha => hk a ha
            have g20 : zh_I (zh_sA Z9 (ar 11) (upd (zh_A Z9 (ar 11)) T.1.2 (nI (zd_sum (zb_roll T) q u f v r1)))) 20 mo = 0 := g20
            have g23 : zh_I (zh_sA Z9 (ar 11) (upd (zh_A Z9 (ar 11)) T.1.2 (nI (zd_sum (zb_roll T) q u f v r1)))) 23 mo = nI a1 := g23
            have g24 : zh_I (zh_sA Z9 (ar 11) (upd (zh_A Z9 (ar 11)) T.1.2 (nI (zd_sum (zb_roll T) q u f v r1)))) 24 mo = nI r1 := g24
            obtain ⟨Z10, hZ10⟩ : ∃ z, z = (zh_sA Z9 (ar 11) (upd (zh_A Z9 (ar 11)) T.1.2 (nI (zd_sum (zb_roll T) q u f v r1)))) := ⟨_, rfl⟩
            rw [← hZ10] at I M1 hk g20 g23 g24
            clear hZ10
            obtain ⟨m1, m2, m3, m4, m5⟩ := id M1
            refine lv_aload_n hx hb dX4_roll_178 rfl (lv_at hl 1 rfl) ?_
            refine lv_dup hx hb dX4_roll_179 rfl ?_
            refine zg_Model_entries (v := nI T.1.2) C I m1 zm_514 (m3) dX4_roll_180 ?_
            refine lv_iconst (v := 1) hx hb dX4_roll_183 (by decide) ?_
            refine lv_iadd hx hb dX4_roll_184 ?_
            refine zr_top (y := nI (T.1.2 + 1)) (nI_add T.1.2 1) ?_
            refine zp_Model_entries C I m1 zm_514 dX4_roll_185 (fun H locs I => ?_)
            have M1 : MR (zh_sI Z10 22 mo (nI (T.1.2 + 1))) (zs_rolled T q u f) mo ar := by have h9 := MR_E M1 (T.1.2 + 1); rw [hv, hr1, ha1] at h9; exact h9
            have hk : zk_ S (zh_sI Z10 22 mo (nI (T.1.2 + 1))) := fun a ha => hk a ha
            have g20 : zh_I (zh_sI Z10 22 mo (nI (T.1.2 + 1))) 20 mo = 0 := (zI_j _ _ _ _ (by decide)).trans g20
            obtain ⟨Z11, hZ11⟩ : ∃ z, z = (zh_sI Z10 22 mo (nI (T.1.2 + 1))) := ⟨_, rfl⟩
            rw [← hZ11] at I M1 hk g20
            clear hZ11
            obtain ⟨m1, m2, m3, m4, m5⟩ := id M1
            refine lv_iload hx hb dX4_roll_188 (lv_at hl 0 rfl) ?_
            exact zr_iret C I hr hlk (⟨g20.trans (by rw [hc]; rfl), by unfold zs_roll; rw [if_pos hc, hb0z, hb1z, hfz]; exact M1, hk, _, rfl, fun _ => by unfold zr_roll; rw [hb0z, hb1z, hfz, ← hv]⟩) (Nat.le_of_ble_eq_true rfl) (Nat.le_of_ble_eq_true rfl) dX4_roll_190
          · have c54 : T.1.2 = 100 := (nI_eq (a := T.1.2) (b := 100) (by omega) (by omega)).mp c54
            refine lv_aload_n hx hb dX4_roll_57 rfl (lv_at hl 0 rfl) ?_
            refine lv_iconst (v := 3) hx hb dX4_roll_58 (by decide) ?_
            refine zc_V (n := 1) (rest := []) C I m1 rfl rfl (k_X4_fails l g Z1 mo 3 m1) zm_575 zm_576 zm_15 zm_28 zm_577 rfl hl.1 dX4_roll_59 (by decide +kernel) rfl ⟨Nat.le_of_ble_eq_true rfl, Nat.le_of_ble_eq_true rfl⟩ (Nat.le_of_ble_eq_true rfl) ⟨Nat.le_of_ble_eq_true rfl, Nat.le_of_ble_eq_true rfl⟩ (fun v S' H locs hq I => ?_)
            obtain ⟨rfl, eS⟩ := hq
            rw [eS] at I
            have hcF : zc_roll T (nI q) (nI u) (nI f) = 3 := hc3 (Or.inr (by omega))
            exact zr_iret C I hr hlk (by rw [show zs_roll T (nI q) (nI u) (nI f) = T from if_neg (by rw [hcF]; decide)]; exact ⟨(zI_s _ _ _ _).trans (by rw [hcF]; rfl), MR_I M1 20 _ (by decide) (by decide), fun a ha => hk a ha, 0, rfl, fun h => absurd (hcF.symm.trans h) (by decide)⟩) (Nat.le_of_ble_eq_true rfl) (Nat.le_of_ble_eq_true rfl) dX4_roll_62

set_option maxRecDepth 100000 in
set_option maxHeartbeats 4000000 in
theorem k_X4_again (l : Launch) (g : zG) (S : zS) (T : zT) (mo : Nat) (ar : Nat → Nat) (hT : zt_ok T) (hM : MR S T mo ar) (j : Nat) (hj : j < T.1.2) : zM l yX4_again cX4_again 5 (some .int) (zrm 1 0 0) g [.ref mo, .int (nI j)] S (fun w S' => w = some (.int (nI (zt_fd T (T.2 5 j) j))) ∧ zwB S S' mo) := by
  refine zM_of (nm := "again") (by decide) rfl (Nat.le_of_ble_eq_true rfl) ?_
  intro p e s m args below meth c A ls C hr hlk hin I hl
  have C : CallFix p m c cX4_again 5 s args zc_W RX4 := C
  have hx := C.1
  have hb := C.2.1
  have hl : lv_has ls 5 [(0, .ref mo), (1, .int (nI j))] := hl
  obtain ⟨m1, m2, m3, m4, m5⟩ := id hM
  obtain ⟨t1, t2, t3, t4, t5, t6, t7⟩ := id hT
  have t5j := t5 j hj
  obtain ⟨q, hq5⟩ : ∃ q, q = T.2 5 j := ⟨_, rfl⟩
  rw [← hq5]
  have t3q := t3 q
  have loop : ∀ (n k : Nat) (vv : Int32) (S1 : zS) (ls : Array Slot) (H : Heap) (locs : List Loc), k + n = j + 1 → (k = j + 1 → vv = nI (zt_fd T q j)) → zwB S S1 mo → zh_V g A s [] S1 H locs → lv_has ls 5 [(4, .int (nI k)), (3, .int vv), (2, .int (nI (zt_ag T q k))), (0, .ref mo), (1, .int (nI j))] → W p l e (zrm 1 0 0) s m args below meth c H locs 0 0 (MQ below (zh_Po g A (fun w S' => w = some (.int (nI (zt_fd T q j))) ∧ zwB S S' mo)) args s (zrm 1 0 0).cells (zrm 1 0 0).slots A) (F0 m 17 ls []) := by
    intro n
    induction n with
    | zero =>
      intro k vv S1 ls H locs hn hvv hw I hl
      have M1 : MR S1 T mo ar := MR_w hM hw
      obtain ⟨m1, m2, m3, m4, m5⟩ := id M1
      refine lv_iload hx hb dX4_again_17 (lv_at hl 0 rfl) ?_
      refine lv_iload_n hx hb dX4_again_19 rfl (lv_at hl 4 rfl) ?_
      refine lv_icmp_gt (tgt := 70) hx hb dX4_again_20 (by decide) (fun _ => ?_) (fun h9 => absurd ((nI_ltI (a := j) (b := k) (by omega) (by omega)).mpr (by omega)) h9)
      refine lv_iload_n hx hb dX4_again_70 rfl (lv_at hl 1 rfl) ?_
      exact zr_iret C I hr hlk (⟨by rw [hvv (by omega)], hw⟩) (Nat.le_of_ble_eq_true rfl) (Nat.le_of_ble_eq_true rfl) dX4_again_71
    | succ n ih =>
      intro k vv S1 ls H locs hn hvv hw I hl
      have M1 : MR S1 T mo ar := MR_w hM hw
      obtain ⟨m1, m2, m3, m4, m5⟩ := id M1
      have hk : k < T.1.2 := by omega
      have t5k := t5 k hk
      refine lv_iload hx hb dX4_again_17 (lv_at hl 0 rfl) ?_
      refine lv_iload_n hx hb dX4_again_19 rfl (lv_at hl 4 rfl) ?_
      refine lv_icmp_gt (tgt := 70) hx hb dX4_again_20 (by decide) (fun h9 => absurd h9 (fun h8 => absurd ((nI_ltI (a := j) (b := k) (by omega) (by omega)).mp h8) (by omega))) (fun _ => ?_)
      refine lv_aload_n hx hb dX4_again_23 rfl (lv_at hl 3 rfl) ?_
      refine zg_Model_of (v := ar 5) C I m1 zm_515 ((m4 5 (by decide)).1) dX4_again_24 ?_
      refine lv_iload hx hb dX4_again_27 (lv_at hl 0 rfl) ?_
      refine zr_iald (v := nI (T.2 5 k)) C I (m4 5 (by decide)).2.1 (by rw [show zh_N S1 (ar 5) = 100 from (m4 5 (by decide)).2.2.1]; exact vp_in_nI (by omega) (by omega)) (by rw [nI_clamp (by omega)]; exact (m4 5 (by decide)).2.2.2 k (show k < 100 by omega)) dX4_again_29 ?_
      refine lv_aload_n hx hb dX4_again_30 rfl (lv_at hl 3 rfl) ?_
      refine zg_Model_of (v := ar 5) C I m1 zm_515 ((m4 5 (by decide)).1) dX4_again_31 ?_
      refine lv_iload_n hx hb dX4_again_34 rfl (lv_at hl 4 rfl) ?_
      refine zr_iald (v := nI q) C I (m4 5 (by decide)).2.1 (by rw [show zh_N S1 (ar 5) = 100 from (m4 5 (by decide)).2.2.1]; exact vp_in_nI (by omega) (by omega)) (by rw [nI_clamp (by omega), hq5]; exact (m4 5 (by decide)).2.2.2 j (show j < 100 by omega)) dX4_again_35 ?_
      refine lv_icmp_ne (tgt := 64) hx hb dX4_again_36 (by decide) (fun c36 => ?_) (fun c36 => ?_)
      · have c36 : ¬ (T.2 5 k) = q := fun h9 => c36 ((nI_eq (a := T.2 5 k) (b := q) (by omega) (by omega)).mpr h9)
        refine lv_iinc (v := nI (k + 1)) (lv' := [(4, .int (nI (k + 1))), (3, .int vv), (2, .int (nI (zt_ag T q k))), (0, .ref mo), (1, .int (nI j))]) hx hb dX4_again_64 hl (k := 0) rfl (nI_add k 1) (by decide) rfl (fun ls hl => ?_)
        refine lv_goto (tgt := 17) hx hb dX4_again_67 (by decide) ?_
        have hl := lv_sub (l' := [(4, .int (nI (k + 1))), (3, .int vv), (2, .int (nI (zt_ag T q k))), (0, .ref mo), (1, .int (nI j))]) hl [0, 1, 2, 3, 4] rfl
        have e9 : zt_ag T q (k + 1) = zt_ag T q k := if_neg c36
        rw [← e9] at hl
        exact ih (k + 1) vv _ ls _ _ (by omega) (fun h => absurd (show T.2 5 k = q by rw [show k = j by omega]; exact hq5.symm) c36) (hw) I hl
      · have c36 : (T.2 5 k) = q := (nI_eq (a := T.2 5 k) (b := q) (by omega) (by omega)).mp c36
        refine lv_aload_n hx hb dX4_again_39 rfl (lv_at hl 3 rfl) ?_
        refine lv_iload_n hx hb dX4_again_40 rfl (lv_at hl 2 rfl) ?_
        refine lv_aload_n hx hb dX4_again_41 rfl (lv_at hl 3 rfl) ?_
        refine zg_Model_part (v := ar 7) C I m1 zm_517 ((m4 7 (by decide)).1) dX4_again_42 ?_
        refine lv_iload hx hb dX4_again_45 (lv_at hl 0 rfl) ?_
        refine zr_iald (v := nI (T.2 7 k)) C I (m4 7 (by decide)).2.1 (by rw [show zh_N S1 (ar 7) = 100 from (m4 7 (by decide)).2.2.1]; exact vp_in_nI (by omega) (by omega)) (by rw [nI_clamp (by omega)]; exact (m4 7 (by decide)).2.2.2 k (show k < 100 by omega)) dX4_again_47 ?_
        refine lv_aload_n hx hb dX4_again_48 rfl (lv_at hl 3 rfl) ?_
        refine zg_Model_sides (v := ar 8) C I m1 zm_518 ((m4 8 (by decide)).1) dX4_again_49 ?_
        refine lv_iload hx hb dX4_again_52 (lv_at hl 0 rfl) ?_
        refine zr_iald (v := nI (T.2 8 k)) C I (m4 8 (by decide)).2.1 (by rw [show zh_N S1 (ar 8) = 100 from (m4 8 (by decide)).2.2.1]; exact vp_in_nI (by omega) (by omega)) (by rw [nI_clamp (by omega)]; exact (m4 8 (by decide)).2.2.2 k (show k < 100 by omega)) dX4_again_54 ?_
        have hag := zt_ag_lt (T := T) (fun k => (t3 k).1) q k
        refine zc_V (n := 3) (rest := []) C I m1 rfl rfl (k_X4_rolls l g S1 mo (zt_ag T q k) (T.2 7 k) (T.2 8 k) m1 hag (by omega) (by omega) (by omega)) zm_618 zm_619 zm_17 zm_28 zm_620 rfl hl.1 dX4_again_55 (by decide +kernel) rfl ⟨Nat.le_of_ble_eq_true rfl, Nat.le_of_ble_eq_true rfl⟩ (Nat.le_of_ble_eq_true rfl) ⟨Nat.le_of_ble_eq_true rfl, Nat.le_of_ble_eq_true rfl⟩ (fun v S' H locs hq I => ?_)
        obtain ⟨rfl, eS⟩ := hq
        rw [eS] at I
        refine lv_istore_n (lv' := [(3, .int (nI (zt_fd T q k))), (4, .int (nI k)), (2, .int (nI (zt_ag T q k))), (0, .ref mo), (1, .int (nI j))]) hx hb dX4_again_58 rfl hl (by decide) rfl (fun ls hl => ?_)
        refine lv_aload_n hx hb dX4_again_59 rfl (lv_at hl 3 rfl) ?_
        refine zg_Model_behind (v := nI (zd_roll (zt_ag T q k) (T.2 7 k) (T.2 8 k)).1) C I m1 zm_523 ((zB_i _ _ _ _).1) dX4_again_60 ?_
        refine lv_istore_n (lv' := [(2, .int (nI (zd_roll (zt_ag T q k) (T.2 7 k) (T.2 8 k)).1)), (3, .int (nI (zt_fd T q k))), (4, .int (nI k)), (0, .ref mo), (1, .int (nI j))]) hx hb dX4_again_63 rfl hl (by decide) rfl (fun ls hl => ?_)
        refine lv_iinc (v := nI (k + 1)) (lv' := [(4, .int (nI (k + 1))), (2, .int (nI (zd_roll (zt_ag T q k) (T.2 7 k) (T.2 8 k)).1)), (3, .int (nI (zt_fd T q k))), (0, .ref mo), (1, .int (nI j))]) hx hb dX4_again_64 hl (k := 2) rfl (nI_add k 1) (by decide) rfl (fun ls hl => ?_)
        refine lv_goto (tgt := 17) hx hb dX4_again_67 (by decide) ?_
        have hl := lv_sub (l' := [(4, .int (nI (k + 1))), (3, .int (nI (zt_fd T q k))), (2, .int (nI (zd_roll (zt_ag T q k) (T.2 7 k) (T.2 8 k)).1)), (0, .ref mo), (1, .int (nI j))]) hl [0, 2, 1, 3, 4] rfl
        have e9 : zt_ag T q (k + 1) = (zd_roll (zt_ag T q k) (T.2 7 k) (T.2 8 k)).1 := if_pos c36
        rw [← e9] at hl
        exact ih (k + 1) (nI (zt_fd T q k)) _ ls _ _ (by omega) (fun h => by rw [show k = j by omega]) (zwB_B hw _ _) I hl
  refine lv_aload_n hx hb dX4_again_0 rfl (lv_at hl 0 rfl) ?_
  refine zg_Model_seed (v := ar 0) C I m1 zm_509 ((m4 0 (by decide)).1) dX4_again_1 ?_
  refine lv_aload_n hx hb dX4_again_4 rfl (lv_at hl 0 rfl) ?_
  refine zg_Model_of (v := ar 5) C I m1 zm_515 ((m4 5 (by decide)).1) dX4_again_5 ?_
  refine lv_iload_n hx hb dX4_again_8 rfl (lv_at hl 1 rfl) ?_
  refine zr_iald (v := nI q) C I (m4 5 (by decide)).2.1 (by rw [show zh_N S (ar 5) = 100 from (m4 5 (by decide)).2.2.1]; exact vp_in_nI (by omega) (by omega)) (by rw [nI_clamp (by omega), hq5]; exact (m4 5 (by decide)).2.2.2 j (show j < 100 by omega)) dX4_again_9 ?_
  refine zr_iald (v := nI (T.2 0 q)) C I (m4 0 (by decide)).2.1 (by rw [show zh_N S (ar 0) = 16 from (m4 0 (by decide)).2.2.1]; exact vp_in_nI (by omega) (by omega)) (by rw [nI_clamp (by omega)]; exact (m4 0 (by decide)).2.2.2 q (show q < 16 by omega)) dX4_again_10 ?_
  refine lv_istore_n (lv' := [(2, .int (nI (T.2 0 q))), (0, .ref mo), (1, .int (nI j))]) hx hb dX4_again_11 rfl hl (by decide) rfl (fun ls hl => ?_)
  refine lv_iconst (v := 0) hx hb dX4_again_12 (by decide) ?_
  refine lv_istore_n (lv' := [(3, .int 0), (2, .int (nI (T.2 0 q))), (0, .ref mo), (1, .int (nI j))]) hx hb dX4_again_13 rfl hl (by decide) rfl (fun ls hl => ?_)
  refine lv_iconst (v := 0) hx hb dX4_again_14 (by decide) ?_
  refine lv_istore (lv' := [(4, .int 0), (3, .int 0), (2, .int (nI (T.2 0 q))), (0, .ref mo), (1, .int (nI j))]) hx hb dX4_again_15 hl (by decide) rfl (fun ls hl => ?_)
  exact loop (j + 1) 0 0 S ls _ _ (by omega) (fun h => absurd h (by omega)) (zwB_rf S mo) I (lv_sub hl [0, 1, 2, 3, 4] rfl)

set_option maxRecDepth 100000 in
set_option maxHeartbeats 4000000 in
theorem k_X4_found (l : Launch) (g : zG) (S : zS) (T : zT) (mo : Nat) (ar : Nat → Nat) (hT : zt_ok T) (hM : MR S T mo ar) (i : Int32) : zM l yX4_found cX4_found 2 (some .int) (zrm 3 0 0) g [.ref mo, .int i] S (fun w S' => zmQ S S' T mo ar (zc_found T i) (nI (zt_fd T (T.2 5 (zx i)) (zx i))) w) := by
  refine zM_of (nm := "found") (by decide) rfl (Nat.le_of_ble_eq_true rfl) ?_
  intro p e s m args below meth c A ls C hr hlk hin I hl
  have C : CallFix p m c cX4_found 2 s args zc_W RX4 := C
  have hx := C.1
  have hb := C.2.1
  have hl : lv_has ls 2 [(0, .ref mo), (1, .int i)] := hl
  obtain ⟨m1, m2, m3, m4, m5⟩ := id hM
  obtain ⟨t1, t2, t3, t4, t5, t6, t7⟩ := id hT
  refine lv_aload_n hx hb dX4_found_0 rfl (lv_at hl 0 rfl) ?_
  refine lv_iconst (v := 0) hx hb dX4_found_1 (by decide) ?_
  refine zp_Model_thrown C I m1 zm_507 dX4_found_2 (fun H locs I => ?_)
  have M1 : MR (zh_sI S 20 mo 0) T mo ar := MR_I hM 20 _ (by decide) (by decide)
  have hk : zk_ S (zh_sI S 20 mo 0) := zk_rf S
  have g20 : zh_I (zh_sI S 20 mo 0) 20 mo = 0 := zI_s _ _ _ _
  obtain ⟨Z12, hZ12⟩ : ∃ z, z = (zh_sI S 20 mo 0) := ⟨_, rfl⟩
  rw [← hZ12] at I M1 hk g20
  clear hZ12
  obtain ⟨m1, m2, m3, m4, m5⟩ := id M1
  rcases zi_cases i (n := T.1.2) (by omega) with hb0 | ⟨hb0, hj0, hi0⟩
  · refine lv_aload_n hx hb dX4_found_5 rfl (lv_at hl 0 rfl) ?_
    refine lv_iload_n hx hb dX4_found_6 rfl (lv_at hl 1 rfl) ?_
    refine zc_V (n := 1) (rest := []) C I m1 rfl rfl (k_X4_isEntry l g Z12 mo T.1.2 i m1 m3 (by omega)) zm_633 zm_634 zm_19 zm_28 zm_635 rfl hl.1 dX4_found_7 (by decide +kernel) rfl ⟨Nat.le_of_ble_eq_true rfl, Nat.le_of_ble_eq_true rfl⟩ (Nat.le_of_ble_eq_true rfl) ⟨Nat.le_of_ble_eq_true rfl, Nat.le_of_ble_eq_true rfl⟩ (fun v S' H locs hq I => ?_)
    obtain ⟨rfl, eS⟩ := hq
    rw [eS] at I
    refine zr_top (y := 0) (if_pos hb0) ?_
    refine lv_if_ne (tgt := 19) hx hb dX4_found_10 (by decide) (fun h9 => absurd ((nI_eq (a := 0) (b := 0) (by omega) (by omega)).mpr (by omega)) h9) (fun _ => ?_)
    refine lv_aload_n hx hb dX4_found_13 rfl (lv_at hl 0 rfl) ?_
    refine lv_iconst (v := 1) hx hb dX4_found_14 (by decide) ?_
    refine zc_V (n := 1) (rest := []) C I m1 rfl rfl (k_X4_fails l g Z12 mo 1 m1) zm_575 zm_576 zm_15 zm_28 zm_577 rfl hl.1 dX4_found_15 (by decide +kernel) rfl ⟨Nat.le_of_ble_eq_true rfl, Nat.le_of_ble_eq_true rfl⟩ (Nat.le_of_ble_eq_true rfl) ⟨Nat.le_of_ble_eq_true rfl, Nat.le_of_ble_eq_true rfl⟩ (fun v S' H locs hq I => ?_)
    obtain ⟨rfl, eS⟩ := hq
    rw [eS] at I
    have hcF : zc_found T i = 1 := if_pos hb0
    exact zr_iret C I hr hlk (⟨(zI_s _ _ _ _).trans (by rw [hcF]; rfl), MR_I M1 20 _ (by decide) (by decide), fun a ha => hk a ha, 0, rfl, fun h => absurd (hcF.symm.trans h) (by decide)⟩) (Nat.le_of_ble_eq_true rfl) (Nat.le_of_ble_eq_true rfl) dX4_found_18
  · obtain ⟨q, hb0n, rfl⟩ : ∃ q : Nat, q < T.1.2 ∧ i = nI q := ⟨_, hj0, hi0⟩
    clear hj0 hi0
    have hb0z : zx (nI q) = q := zx_nI (by omega)
    refine lv_aload_n hx hb dX4_found_5 rfl (lv_at hl 0 rfl) ?_
    refine lv_iload_n hx hb dX4_found_6 rfl (lv_at hl 1 rfl) ?_
    refine zc_V (n := 1) (rest := []) C I m1 rfl rfl (k_X4_isEntry l g Z12 mo T.1.2 (nI q) m1 m3 (by omega)) zm_633 zm_634 zm_19 zm_28 zm_635 rfl hl.1 dX4_found_7 (by decide +kernel) rfl ⟨Nat.le_of_ble_eq_true rfl, Nat.le_of_ble_eq_true rfl⟩ (Nat.le_of_ble_eq_true rfl) ⟨Nat.le_of_ble_eq_true rfl, Nat.le_of_ble_eq_true rfl⟩ (fun v S' H locs hq I => ?_)
    obtain ⟨rfl, eS⟩ := hq
    rw [eS] at I
    refine zr_top (y := 1) (if_neg hb0) ?_
    have t5q := t5 q hb0n
    have t3q := t3 (T.2 5 q)
    refine lv_if_ne (tgt := 19) hx hb dX4_found_10 (by decide) (fun _ => ?_) (fun h9 => absurd h9 (fun h8 => absurd ((nI_eq (a := 1) (b := 0) (by omega) (by omega)).mp h8) (by omega)))
    refine lv_aload_n hx hb dX4_found_19 rfl (lv_at hl 0 rfl) ?_
    refine zg_Model_opened (v := ar 2) C I m1 zm_511 ((m4 2 (by decide)).1) dX4_found_20 ?_
    refine lv_aload_n hx hb dX4_found_23 rfl (lv_at hl 0 rfl) ?_
    refine zg_Model_of (v := ar 5) C I m1 zm_515 ((m4 5 (by decide)).1) dX4_found_24 ?_
    refine lv_iload_n hx hb dX4_found_27 rfl (lv_at hl 1 rfl) ?_
    refine zr_iald (v := nI (T.2 5 q)) C I (m4 5 (by decide)).2.1 (by rw [show zh_N Z12 (ar 5) = 100 from (m4 5 (by decide)).2.2.1]; exact vp_in_nI (by omega) (by omega)) (by rw [nI_clamp (by omega)]; exact (m4 5 (by decide)).2.2.2 q (show q < 100 by omega)) dX4_found_28 ?_
    refine zr_zald (v := nI (T.2 2 (T.2 5 q))) C I (m4 2 (by decide)).2.1 (by rw [show zh_N Z12 (ar 2) = 16 from (m4 2 (by decide)).2.2.1]; exact vp_in_nI (by omega) (by omega)) (by rw [nI_clamp (by omega)]; exact (m4 2 (by decide)).2.2.2 (T.2 5 q) (show T.2 5 q < 16 by omega)) dX4_found_29 ?_
    refine lv_if_eq (tgt := 41) hx hb dX4_found_30 (by decide) (fun c30 => ?_) (fun c30 => ?_)
    · have c30 : (T.2 2 (T.2 5 q)) = 0 := (nI_eq (a := T.2 2 (T.2 5 q)) (b := 0) (by omega) (by omega)).mp c30
      refine lv_aload_n hx hb dX4_found_41 rfl (lv_at hl 0 rfl) ?_
      refine lv_iconst (v := 2) hx hb dX4_found_42 (by decide) ?_
      refine zc_V (n := 1) (rest := []) C I m1 rfl rfl (k_X4_fails l g Z12 mo 2 m1) zm_575 zm_576 zm_15 zm_28 zm_577 rfl hl.1 dX4_found_43 (by decide +kernel) rfl ⟨Nat.le_of_ble_eq_true rfl, Nat.le_of_ble_eq_true rfl⟩ (Nat.le_of_ble_eq_true rfl) ⟨Nat.le_of_ble_eq_true rfl, Nat.le_of_ble_eq_true rfl⟩ (fun v S' H locs hq I => ?_)
      obtain ⟨rfl, eS⟩ := hq
      rw [eS] at I
      have hcF : zc_found T (nI q) = 2 := (by unfold zc_found; rw [if_neg hb0, hb0z, if_pos c30])
      exact zr_iret C I hr hlk (⟨(zI_s _ _ _ _).trans (by rw [hcF]; rfl), MR_I M1 20 _ (by decide) (by decide), fun a ha => hk a ha, 0, rfl, fun h => absurd (hcF.symm.trans h) (by decide)⟩) (Nat.le_of_ble_eq_true rfl) (Nat.le_of_ble_eq_true rfl) dX4_found_46
    · have c30 : ¬ (T.2 2 (T.2 5 q)) = 0 := fun h9 => c30 ((nI_eq (a := T.2 2 (T.2 5 q)) (b := 0) (by omega) (by omega)).mpr h9)
      refine lv_aload_n hx hb dX4_found_33 rfl (lv_at hl 0 rfl) ?_
      refine lv_iload_n hx hb dX4_found_34 rfl (lv_at hl 1 rfl) ?_
      refine zc_V (n := 1) (rest := []) C I m1 rfl rfl (k_X4_again l g Z12 T mo ar hT M1 q hb0n) zm_656 zm_657 zm_20 zm_28 zm_658 rfl hl.1 dX4_found_35 (by decide +kernel) rfl ⟨Nat.le_of_ble_eq_true rfl, Nat.le_of_ble_eq_true rfl⟩ (Nat.le_of_ble_eq_true rfl) ⟨Nat.le_of_ble_eq_true rfl, Nat.le_of_ble_eq_true rfl⟩ (fun v S' H locs hq I => ?_)
      obtain ⟨rfl, hw⟩ := hq
      refine lv_goto (tgt := 46) hx hb dX4_found_38 (by decide) ?_
      have hc : zc_found T (nI q) = 0 := by unfold zc_found; rw [if_neg hb0, hb0z, if_neg c30]
      exact zr_iret C I hr hlk (⟨((zI_w hw mo (by decide) (by decide)).trans g20).trans (by rw [hc]; rfl), MR_w M1 hw, zk_tr hk (zk_w hw), _, rfl, fun _ => by rw [hb0z]⟩) (Nat.le_of_ble_eq_true rfl) (Nat.le_of_ble_eq_true rfl) dX4_found_46

