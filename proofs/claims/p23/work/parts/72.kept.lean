/-! each call keeps the bounds -/
theorem zk_cases {c : Nat} {T T' : zT} (hT : zt_ok T) (h : c = 0 → zt_ok T') : zt_ok (if c = 0 then T' else T) := by
  by_cases e : c = 0
  · rw [if_pos e]; exact h e
  · rw [if_neg e]; exact hT
theorem zu_dec (f : Nat → Nat → Nat) (j a v j' a' : Nat) : zh_u f j a v j' a' = if j' = j ∧ a' = a then v else f j' a' := rfl
theorem zp_le {f : Nat → Nat → Nat} {j a v : Nat} (P : Nat → Prop) {j' a' : Nat} (h1 : j' = j → a' = a → P v) (h2 : P (f j' a')) : P (zh_u f j a v j' a') := by
  by_cases e : j' = j ∧ a' = a
  · rw [zu_dec, if_pos e]; exact h1 e.1 e.2
  · rw [zu_dec, if_neg e]; exact h2
theorem zt_ok_open {T : zT} (hT : zt_ok T) (i : Int32) : zt_ok (zs_open T i) := zk_cases hT (fun hc => by
  have hi : ¬ zi T.1.1 i := fun h => absurd ((if_pos h : zc_open T i = 1).symm.trans hc) (by decide)
  obtain ⟨t1, t2, t3, t4, t5, t6, t7⟩ := hT
  have hj : zx i < T.1.1 := (zi_cases i (n := T.1.1) (by omega)).elim (fun h => absurd h hi) (fun h => h.2.1)
  refine ⟨t1, t2, fun k => ⟨?_, ?_, ?_, ?_⟩, fun k => ?_, fun k hk => ?_, fun k hk => ⟨?_, ?_⟩, fun k hk => ?_⟩
  · rw [zt_s_j _ _ _ _ (by decide)]; exact (t3 k).1
  · rw [zt_s_j _ _ _ _ (by decide)]; exact (t3 k).2.1
  · exact zp_le (· ≤ 1) (fun _ _ => Nat.le_refl 1) (t3 k).2.2.1
  · rw [zt_s_j _ _ _ _ (by decide)]; exact (t3 k).2.2.2
  · rw [zt_s_j _ _ _ _ (by decide)]; exact t4 k
  · exact t5 k hk
  · rw [zt_s_k _ _ _ _ (by have : T.1.1 ≤ k := hk; omega)]; exact (t6 k hk).1
  · rw [zt_s_j _ _ _ _ (by decide)]; exact (t6 k hk).2
  · rw [zt_s_j _ _ _ _ (by decide)]; exact t7 k hk)
theorem zt_ok_part {T : zT} (hT : zt_ok T) (i y : Int32) : zt_ok (zs_part T i y) := zk_cases hT (fun hc => by
  have hi : ¬ zi 4 i := fun h => absurd ((if_pos h : zc_part i y = 1).symm.trans hc) (by decide)
  have hy : ¬ zi 1000 y := fun h => by
    have h2 : zc_part i y = 2 := by unfold zc_part; rw [if_neg hi, if_pos h]
    rw [hc] at h2; exact absurd h2 (by decide)
  have hj : zx y < 1000 := (zi_cases y (n := 1000) (by decide)).elim (fun h => absurd h hy) (fun h => h.2.1)
  obtain ⟨t1, t2, t3, t4, t5, t6, t7⟩ := hT
  exact ⟨t1, t2, t3, fun k => zp_le (· ≤ 999) (fun _ _ => by omega) (t4 k), t5, t6, t7⟩)
theorem zt_ok_promise {T : zT} (hT : zt_ok T) (i : Int32) : zt_ok (zs_promise T i) := zk_cases hT (fun hc => by
  have hi : ¬ zi 65536 i := fun h => absurd ((if_pos h : zc_promise T i = 1).symm.trans hc) (by decide)
  have hn : ¬ 16 ≤ T.1.1 := fun h => by
    have h2 : zc_promise T i = 2 := by unfold zc_promise; rw [if_neg hi, if_pos h]
    rw [hc] at h2; exact absurd h2 (by decide)
  have hj : zx i < 65536 := (zi_cases i (n := 65536) (by omega)).elim (fun h => absurd h hi) (fun h => h.2.1)
  obtain ⟨t1, t2, t3, t4, t5, t6, t7⟩ := hT
  refine ⟨by show T.1.1 + 1 ≤ 16; omega, t2, fun k => ⟨?_, ?_, (t3 k).2.2.1, (t3 k).2.2.2⟩, t4, fun k hk => ?_, fun k hk => t6 k (by have : T.1.1 + 1 ≤ k := hk; omega), t7⟩
  · show zh_u (zh_u T.2 0 T.1.1 (zx i)) 1 T.1.1 (zx i) 0 k < 65536
    rw [zh_u_j _ _ _ _ (by decide)]; exact zp_le (· < 65536) (fun _ _ => hj) (t3 k).1
  · show zh_u (zh_u T.2 0 T.1.1 (zx i)) 1 T.1.1 (zx i) 1 k < 65536
    refine zp_le (· < 65536) (fun _ _ => hj) ?_
    show zh_u T.2 0 T.1.1 (zx i) 1 k < 65536
    rw [zh_u_j _ _ _ _ (by decide)]; exact (t3 k).2.1
  · have h5 := t5 k hk
    exact ⟨by show T.2 5 k < T.1.1 + 1; omega, h5.2⟩)
theorem zt_ok_alter {T : zT} (hT : zt_ok T) (i y : Int32) : zt_ok (zs_alter T i y) := zk_cases hT (fun hc => by
  have hi : ¬ zi T.1.2 i := fun h => absurd ((if_pos h : zc_alter T i y = 1).symm.trans hc) (by decide)
  have hy : ¬ (y < 1 ∨ nI (T.2 8 (zx i)) < y) := fun h => by
    have h2 : zc_alter T i y = 2 := by unfold zc_alter; rw [if_neg hi, if_pos h]
    rw [hc] at h2; exact absurd h2 (by decide)
  obtain ⟨t1, t2, t3, t4, t5, t6, t7⟩ := hT
  have hj : zx i < T.1.2 := (zi_cases i (n := T.1.2) (by omega)).elim (fun h => absurd h hi) (fun h => h.2.1)
  have h8 := t5 _ hj
  obtain ⟨v1, v2, -⟩ := zi_val (by omega) hy
  refine ⟨t1, t2, t3, t4, fun k hk => ?_, t6, t7⟩
  obtain ⟨k1, k2, k3, k4, k5, k6, k7, k8⟩ := t5 k hk
  exact ⟨k1, k2, k3, k4, k5, zp_le (1 ≤ ·) (fun _ _ => v1) k6, zp_le (· ≤ T.2 8 k) (fun _ e => by rw [e]; exact v2) k7, k8⟩)
theorem zt_ok_disp {T : zT} (hT : zt_ok T) (i : Int32) : zt_ok (zs_disp T i) := zk_cases hT (fun hc => by
  have hi : ¬ zi T.1.1 i := fun h => absurd ((if_pos h : zc_disp T i = 1).symm.trans hc) (by decide)
  have hj : zx i < T.1.1 := (zi_cases i (n := T.1.1) (by have := hT.1; omega)).elim (fun h => absurd h hi) (fun h => h.2.1)
  have h3 := zt_ok3 hT hj
  by_cases e : zv_wrong T (zx i) = -1
  · rw [if_pos e]; exact h3
  · rw [if_neg e]
    obtain ⟨t1, t2, t3, t4, t5, t6, t7⟩ := h3
    refine ⟨t1, t2, fun k => ?_, fun k => ?_, fun k hk => ?_, fun k hk => ?_, fun k hk => ?_⟩
    · rw [zs_strike_j _ _ _ _ _ (by decide), zs_strike_j _ _ _ _ _ (by decide), zs_strike_j _ _ _ _ _ (by decide), zs_strike_j _ _ _ _ _ (by decide)]; exact t3 k
    · rw [zs_strike_j _ _ _ _ _ (by decide)]; exact t4 k
    · obtain ⟨k1, k2, k3, k4, k5, k6, k7, k8, k9, k10⟩ := t5 k hk
      refine ⟨k1, k2, k3, k4, k5, k6, k7, k8, k9, ?_⟩
      show (if _ then 1 else _) ≤ 1
      split
      · exact Nat.le_refl 1
      · exact k10
    · exact t6 k hk
    · have hk : T.1.2 ≤ k := hk
      show (if _ then 1 else _) = 0
      rw [if_neg (by omega)]; exact t7 k hk)
theorem zt_ok_roll {T : zT} (hT : zt_ok T) (x t f : Int32) : zt_ok (zs_roll T x t f) := zk_cases hT (fun hc => by
  have hi : ¬ (zi T.1.1 x ∨ zi 4 t) := fun h => absurd ((if_pos h : zc_roll T x t f = 1).symm.trans hc) (by decide)
  have hf : ¬ (f < 2 ∨ 1000 < f) := fun h => by
    have h2 : zc_roll T x t f = 2 := by unfold zc_roll; rw [if_neg hi, if_pos h]
    rw [hc] at h2; exact absurd h2 (by decide)
  have hn : ¬ (T.2 2 (zx x) ≠ 0 ∨ 100 ≤ T.1.2) := fun h => by
    have h2 : zc_roll T x t f = 3 := by unfold zc_roll; rw [if_neg hi, if_neg hf, if_pos h]
    rw [hc] at h2; exact absurd h2 (by decide)
  have hbl := zb_roll_lt hT
  obtain ⟨t1, t2, t3, t4, t5, t6, t7⟩ := hT
  have hq : zx x < T.1.1 := (zi_cases x (n := T.1.1) (by omega)).elim (fun h => absurd (Or.inl h) hi) (fun h => h.2.1)
  have hu : zx t < 4 := (zi_cases t (n := 4) (by decide)).elim (fun h => absurd (Or.inr h) hi) (fun h => h.2.1)
  obtain ⟨n, hn2, hn3, rfl⟩ := zi_faces hf
  rw [zx_nI (by omega)]
  generalize zx x = q at *
  generalize zx t = u at *
  have lo := fun (j k : Nat) (h : j < 5) => zs_rolled_lo T q u n k h
  obtain ⟨v5, v6, v7, v8, v9, v10, v11, v12⟩ := zs_rolled_v T q u n
  have hv := zd_val_le (st := T.2 1 q) (pt := T.2 4 u) hn2
  have e12 : ∀ k : Nat, (zs_rolled T q u n).2 12 k = T.2 12 k := fun k => by simp [zs_rolled, zh_u]
  refine ⟨t1, by show T.1.2 + 1 ≤ 100; omega, fun k => ?_, fun k => ?_, fun k hk => ?_, fun k hk => ?_, fun k hk => ?_⟩
  · rw [lo 0 k (by decide), lo 1 k (by decide), lo 2 k (by decide), lo 3 k (by decide)]
    exact ⟨(t3 k).1, zp_le (· < 65536) (fun _ _ => zd_roll_lt _ _ _) (t3 k).2.1, (t3 k).2.2.1, (t3 k).2.2.2⟩
  · rw [lo 4 k (by decide)]; exact t4 k
  · by_cases e : k = T.1.2
    · rw [e, v5, v6, v7, v8, v9, v10, v11, v12, t7 _ (Nat.le_refl _)]
      exact ⟨hq, hu, t4 u, hn2, hn3, by unfold zd_val; omega, hv, zd_roll_le _ _ _, zd_sum_lt _ _ _ _ _ _, Nat.zero_le 1⟩
    · have hk2 : k < T.1.2 := by have : k < T.1.2 + 1 := hk; omega
      have ee := fun j => zs_rolled_k T q u n j hk2
      have e0 := ee 0; have e1 := ee 1; have e2 := ee 2; have e3 := ee 3; have e4 := ee 4; have e5 := ee 5; have e6 := ee 6
      rw [show (zs_rolled T q u n).2 5 k = T.2 5 k from e0, show (zs_rolled T q u n).2 6 k = T.2 6 k from e1, show (zs_rolled T q u n).2 7 k = T.2 7 k from e2, show (zs_rolled T q u n).2 8 k = T.2 8 k from e3, show (zs_rolled T q u n).2 9 k = T.2 9 k from e4, show (zs_rolled T q u n).2 10 k = T.2 10 k from e5, show (zs_rolled T q u n).2 11 k = T.2 11 k from e6, e12]
      exact t5 k hk2
  · rw [lo 2 k (by decide), lo 3 k (by decide)]; exact t6 k hk
  · rw [e12]; exact t7 k (by have : T.1.2 + 1 ≤ k := hk; omega))
