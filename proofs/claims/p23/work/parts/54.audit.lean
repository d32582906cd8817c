/-! audits and disputes -/
theorem zD_zD (S : zS) (d a r b q : Nat) : zD (zD S d a r) d b q = zD S d b q := by
  show zh_sI (zh_sI (zD S d a r) 0 d (nI b)) 1 d (nI q) = _
  rw [zD_s0, zD_s1]
theorem zh_at_nO_inv {S : zS} {d k0 k a : Nat} (h : zh_at (zh_nO S d k0) k a) (hk : k ≠ k0) : zh_at S k a := by
  obtain ⟨hm, h2⟩ := h
  by_cases e : a = d
  · subst e
    have h3 : va_up (zh_K S) a k0 a = k := h2
    rw [va_up_self] at h3
    exact absurd h3.symm hk
  · have h3 : va_up (zh_K S) d k0 a = k := h2
    rw [va_up_ne _ _ e] at h3
    exact ⟨(List.mem_append.mp hm).elim id (fun h => absurd (List.mem_singleton.mp h) e), h3⟩
/-- a new Draws beside the forge -/
theorem FR_nO {g : zG} {S : zS} {T : zT} {x pl lo pt ty pa la : Nat} {ap ad ae : Nat → Nat} (hF : FR g S T x pl lo pt ty pa la ap ad ae) {d k0 : Nat} (hd : d ∉ zh_L S) (hk0 : 8 ≠ k0) : FR g (zh_nO S d k0) T x pl lo pt ty pa la ap ad ae := by
  have hF0 := hF
  obtain ⟨⟨f1, f2, f3, f4, f5⟩, ⟨f6, f7, f8, f9, f10⟩, f11, f12, f13, f14, f15, f16, f17, f18, f19⟩ := hF
  refine FR_mk hF0 (fun k a h => ⟨zh_at_nO h hd, rfl, rfl, fun j => zn_R h.1 hd j⟩) rfl (fun a h => zn_I h.1 hd 31) f10 (fun i hi => ?_) (fun i hi j hj => ?_) (fun h => zh_at_nO_inv h hk0)
  · obtain ⟨q1, q2, q3, q4, q5, q6⟩ := f15 i hi
    have e := (f11.2.2.2.2 i hi).2.1
    rw [zn_I e hd, zn_I q2.1 hd, zn_I e hd, zn_I e hd]
    exact ⟨q3, q4, q5, q6⟩
  · rw [zn_I (f12.2.2.2.2 i hi).2.1 hd]; exact f16 i hi j hj
/-- .. whose fields are written -/
theorem FR_new {g : zG} {S : zS} {T : zT} {x pl lo pt ty pa la : Nat} {ap ad ae : Nat → Nat} (hF : FR g S T x pl lo pt ty pa la ap ad ae) {d : Nat} (hd : d ∉ zh_L S) (a r : Nat) : FR g (zD (zh_nO S d 0) d a r) T x pl lo pt ty pa la ap ad ae := by
  have hF1 := FR_nO hF hd (k0 := 0) (by decide)
  have hne : ∀ k b : Nat, zh_at S k b → b ≠ d := fun k b h e => hd (e ▸ h.1)
  have hI : ∀ j b : Nat, b ≠ d → zh_I (zD (zh_nO S d 0) d a r) j b = zh_I (zh_nO S d 0) j b := fun j b h => (zI_a _ _ _ _ h).trans (zI_a _ _ _ _ h)
  obtain ⟨-, -, g11, g12, -, -, g15, -⟩ := hF
  obtain ⟨⟨f1, f2, f3, f4, f5⟩, ⟨f6, f7, f8, f9, f10⟩, f11, f12, f13, f14, f15, f16, f17, f18, f19⟩ := id hF1
  refine FR_mk hF1 (fun k a h => ⟨h, rfl, rfl, fun _ => rfl⟩) rfl (fun b h => ?_) f10 (fun i hi => ?_) (fun i hi j hj => ?_) id
  · exact hI 31 b (hne 5 b (zh_at_nO_inv h (by decide)))
  · obtain ⟨q1, q2, q3, q4, q5, q6⟩ := f15 i hi
    have e := hne _ _ (g11.2.2.2.2 i hi).2
    have e2 := hne _ _ (g15 i hi).2.1
    rw [hI _ _ e, hI _ _ e2, hI _ _ e, hI _ _ e]
    exact ⟨q3, q4, q5, q6⟩
  · rw [hI _ _ (hne _ _ (g12.2.2.2.2 i hi).2)]; exact f16 i hi j hj
theorem zk_nO {S : zS} {d k0 : Nat} (hd : d ∉ zh_L S) : zk_ S (zh_nO S d k0) := fun a ha => ⟨List.mem_append_left _ ha, va_up_ne _ _ (fun e : a = d => hd (e ▸ ha)), rfl, rfl⟩
theorem zk_new {S : zS} {d a r : Nat} (hd : d ∉ zh_L S) : zk_ S (zD (zh_nO S d 0) d a r) := zk_nO hd
theorem zD_init {S : zS} {d a : Nat} : zh_sI (zh_nO S d 0) 0 d (nI a) = zD (zh_nO S d 0) d a 0 := by
  have h : zh_I (zh_sI (zh_nO S d 0) 0 d (nI a)) 1 d = nI 0 := by
    rw [zI_j _ _ _ _ (by decide)]
    exact if_pos rfl
  exact (zs_Is _ 1 d (nI 0) h).symm
theorem zt_own_lo (T : zT) (q a k : Nat) (h : k ≤ a) : zt_own T q a k = 0 := by
  induction k with
  | zero => rfl
  | succ k ih => show zt_own T q a k + (if _ then 1 else 0) = 0; rw [ih (by omega), if_neg (by omega)]
theorem zt_own_le (T : zT) (q a k : Nat) : zt_own T q a k ≤ k := by
  induction k with
  | zero => exact Nat.le_refl _
  | succ k ih => show zt_own T q a k + (if _ then 1 else 0) ≤ k + 1; split <;> omega
theorem zs_strike_j (T : zT) (q a n : Nat) {j : Nat} (k : Nat) (h : j ≠ 12) : (zs_strike T q a n).2 j k = T.2 j k := if_neg (fun h9 => h h9.1)
theorem zs_strike_s (T : zT) {q a k : Nat} (h : T.2 5 k = q) (h2 : a ≤ k) : zt_s (zs_strike T q a k) 12 k 1 = zs_strike T q a (k + 1) := by
  show (T.1, _) = (T.1, _)
  congr 1
  funext j i
  show (if j = 12 ∧ i = k then 1 else if j = 12 ∧ T.2 5 i = q ∧ a ≤ i ∧ i < k then 1 else T.2 j i) = (if j = 12 ∧ T.2 5 i = q ∧ a ≤ i ∧ i < k + 1 then 1 else T.2 j i)
  by_cases c : j = 12 ∧ i = k
  · rw [if_pos c, if_pos ⟨c.1, by rw [c.2]; exact h, by omega, by omega⟩]
  · rw [if_neg c]
    by_cases c2 : j = 12 ∧ T.2 5 i = q ∧ a ≤ i ∧ i < k
    · rw [if_pos c2, if_pos ⟨c2.1, c2.2.1, c2.2.2.1, by omega⟩]
    · rw [if_neg c2, if_neg (fun h9 => c2 ⟨h9.1, h9.2.1, h9.2.2.1, by have : i ≠ k := fun e => c ⟨h9.1, e⟩; omega⟩)]
theorem zs_strike_n (T : zT) {q a k : Nat} (h : ¬ (T.2 5 k = q ∧ a ≤ k)) : zs_strike T q a k = zs_strike T q a (k + 1) := by
  show (T.1, _) = (T.1, _)
  congr 1
  funext j i
  show (if j = 12 ∧ T.2 5 i = q ∧ a ≤ i ∧ i < k then 1 else T.2 j i) = (if j = 12 ∧ T.2 5 i = q ∧ a ≤ i ∧ i < k + 1 then 1 else T.2 j i)
  by_cases c2 : j = 12 ∧ T.2 5 i = q ∧ a ≤ i ∧ i < k
  · rw [if_pos c2, if_pos ⟨c2.1, c2.2.1, c2.2.2.1, by omega⟩]
  · rw [if_neg c2, if_neg (fun h9 => c2 ⟨h9.1, h9.2.1, h9.2.2.1, by have : i ≠ k := fun e => h ⟨by rw [← e]; exact h9.2.1, by omega⟩; omega⟩)]
theorem zs_strike_0 (T : zT) (q a k : Nat) (h : k ≤ a) : zs_strike T q a k = T := by
  show (T.1, _) = T
  have : (fun j i => if j = 12 ∧ T.2 5 i = q ∧ a ≤ i ∧ i < k then 1 else T.2 j i) = T.2 := by
    funext j i
    exact if_neg (fun h9 => by omega)
  rw [this]
theorem zt_ag_lt {T : zT} (h : ∀ k : Nat, T.2 0 k < 65536) (q k : Nat) : zt_ag T q k < 65536 := by
  induction k with
  | zero => exact h q
  | succ k ih =>
    show (if _ then _ else _) < 65536
    split
    · exact zd_roll_lt _ _ _
    · exact ih
theorem zt_ag_3 (T : zT) (q i y k : Nat) : zt_ag (zt_s T 3 i y) q k = zt_ag T q k := by
  induction k with
  | zero => exact zt_s_j _ _ _ _ (by decide)
  | succ k ih =>
    show (if (zt_s T 3 i y).2 5 k = q then (zd_roll (zt_ag (zt_s T 3 i y) q k) ((zt_s T 3 i y).2 7 k) ((zt_s T 3 i y).2 8 k)).1 else zt_ag (zt_s T 3 i y) q k) = (if T.2 5 k = q then (zd_roll (zt_ag T q k) (T.2 7 k) (T.2 8 k)).1 else zt_ag T q k)
    rw [ih, zt_s_j _ _ _ _ (by decide), zt_s_j _ _ _ _ (by decide), zt_s_j _ _ _ _ (by decide)]
theorem zt_wrong_3 (T : zT) (q i y n : Nat) : ∀ k : Nat, zt_wrong (zt_s T 3 i y) q n k = zt_wrong T q n k := by
  induction n with
  | zero => intro k; rfl
  | succ n ih =>
    intro k
    show (if (zt_s T 3 i y).2 5 k = q ∧ (zt_s T 3 i y).2 9 k ≠ zd_val (zt_ag (zt_s T 3 i y) q k) ((zt_s T 3 i y).2 7 k) ((zt_s T 3 i y).2 8 k) then nI k else zt_wrong (zt_s T 3 i y) q n (k + 1)) = (if T.2 5 k = q ∧ T.2 9 k ≠ zd_val (zt_ag T q k) (T.2 7 k) (T.2 8 k) then nI k else zt_wrong T q n (k + 1))
    rw [ih, zt_ag_3, zt_s_j _ _ _ _ (by decide), zt_s_j _ _ _ _ (by decide), zt_s_j _ _ _ _ (by decide), zt_s_j _ _ _ _ (by decide)]
theorem zt_own_3 (T : zT) (q a i y k : Nat) : zt_own (zt_s T 3 i y) q a k = zt_own T q a k := by
  induction k with
  | zero => rfl
  | succ k ih =>
    show zt_own (zt_s T 3 i y) q a k + (if (zt_s T 3 i y).2 5 k = q ∧ a ≤ k then 1 else 0) = zt_own T q a k + (if T.2 5 k = q ∧ a ≤ k then 1 else 0)
    rw [ih, zt_s_j _ _ _ _ (by decide)]
/-- the first wrong entry: none, or one among the entries -/
theorem zt_wrong_in (T : zT) (q n : Nat) : ∀ k : Nat, zt_wrong T q n k = -1 ∨ ∃ j : Nat, k ≤ j ∧ j < k + n ∧ zt_wrong T q n k = nI j := by
  induction n with
  | zero => intro k; exact Or.inl rfl
  | succ n ih =>
    intro k
    by_cases c : T.2 5 k = q ∧ T.2 9 k ≠ zt_fd T q k
    · refine Or.inr ⟨k, Nat.le_refl _, by omega, ?_⟩
      show (if _ then nI k else _) = nI k
      rw [if_pos c]
    · have e : zt_wrong T q (n + 1) k = zt_wrong T q n (k + 1) := by
        show (if _ then nI k else _) = _
        rw [if_neg c]
      rw [e]
      rcases ih (k + 1) with h | ⟨j, h1, h2, h3⟩
      · exact Or.inl h
      · exact Or.inr ⟨j, by omega, by omega, h3⟩
theorem zi_m1 {j : Nat} (h : j < 2 ^ 31) : ¬ nI j = -1 := fun h9 => by
  have h1 := congrArg Int32.toInt h9
  rw [nI_toInt h] at h1
  have h2 : (-1 : Int32).toInt = -1 := by decide
  omega
theorem zt_ok3 {T : zT} (h : zt_ok T) {q : Nat} (hq : q < T.1.1) : zt_ok (zt_s T 3 q 1) := by
  obtain ⟨t1, t2, t3, t4, t5, t6, t7⟩ := h
  refine ⟨t1, t2, fun k => ?_, fun k => ?_, fun k hk => ?_, fun k hk => ?_, fun k hk => ?_⟩
  · obtain ⟨h1, h2, h3, h4⟩ := t3 k
    rw [zt_s_j _ _ _ _ (by decide), zt_s_j _ _ _ _ (by decide), zt_s_j _ _ _ _ (by decide)]
    refine ⟨h1, h2, h3, ?_⟩
    by_cases e : k = q
    · subst e; rw [zt_s_s]; exact Nat.le_refl _
    · rw [zt_s_k _ _ _ _ e]; exact h4
  · rw [zt_s_j _ _ _ _ (by decide)]; exact t4 k
  · have h9 : ∀ j : Nat, j ≠ 3 → (zt_s T 3 q 1).2 j k = T.2 j k := fun j hj => zt_s_j _ _ _ _ hj
    rw [h9 5 (by decide), h9 6 (by decide), h9 7 (by decide), h9 8 (by decide), h9 9 (by decide), h9 10 (by decide), h9 11 (by decide), h9 12 (by decide)]
    exact t5 k hk
  · have hk9 : T.1.1 ≤ k := hk
    rw [zt_s_j _ _ _ _ (by decide), zt_s_k _ _ _ _ (by omega)]; exact t6 k hk
  · rw [zt_s_j _ _ _ _ (by decide)]; exact t7 k hk

set_option maxRecDepth 100000 in
set_option maxHeartbeats 4000000 in
theorem k_X3_broken (l : Launch) (g : zG) (hst : l.stackTraces = false) (S : zS) (T : zT) (x pl lo pt ty pa la : Nat) (ap ad ae : Nat → Nat) (hT : zt_ok T) (hF : FR g S T x pl lo pt ty pa la ap ad ae) : zM l yX3_broken cX3_broken 4 (some .int) (zrm 7 0 0) g [.ref x] S (fun w S' => w = some (.int (zt_broken T T.1.2 0)) ∧ S' = S) := by
  refine zM_of (nm := "broken") (by decide) rfl (Nat.le_of_ble_eq_true rfl) ?_
  intro p e s m args below meth c A ls C hr hlk hin I hl
  have C : CallFix p m c cX3_broken 4 s args zc_W RX3 := C
  have hx := C.1
  have hb := C.2.1
  have hl : lv_has ls 4 [(0, .ref x)] := hl
  have hF0 := hF
  obtain ⟨⟨f1, f2, f3, f4, f5⟩, ⟨f6, f7, f8, f9, f10⟩, f11, f12, f13, f14, f15, f16, f17, f18, f19⟩ := hF
  obtain ⟨t1, t2, t3, t4, t5, t6, t7⟩ := hT
  have loop : ∀ (n k : Nat)  (ls : Array Slot) (H : Heap) (locs : List Loc), k + n = T.1.2 → zh_V g A s [] S H locs → zt_broken T n k = zt_broken T T.1.2 0 → lv_has ls 4 [(2, .int (nI k)), (1, .int (nI (if k = 0 then 17 else T.2 11 (k - 1)))), (0, .ref x)] → W p l e (zrm 7 0 0) s m args below meth c H locs 0 0 (MQ below (zh_Po g A (fun w S' => w = some (.int (zt_broken T T.1.2 0)) ∧ S' = S)) args s (zrm 7 0 0).cells (zrm 7 0 0).slots A) (F0 m 5 ls []) := by
    intro n
    induction n with
    | zero =>
      intro k ls H locs hn I hb0 hl
      refine lv_iload_n hx hb dX3_broken_5 rfl (lv_at hl 0 rfl) ?_
      refine lv_aload_n hx hb dX3_broken_6 rfl (lv_at hl 2 rfl) ?_
      refine zg_Forge_log (v := lo) C I f1 zm_69 (f3) dX3_broken_7 ?_
      refine zc_V (n := 0) (rest := [.int (nI k)]) C I f12.1 rfl rfl (k_Jx4a65c_size_8abf5 l g S lo T.1.2 f12.1 f12.2.1) zm_144 zm_145 zm_146 zm_19 zm_147 rfl hl.1 dX3_broken_10 (by decide +kernel) rfl ⟨Nat.le_of_ble_eq_true rfl, Nat.le_of_ble_eq_true rfl⟩ (Nat.le_of_ble_eq_true rfl) ⟨Nat.le_of_ble_eq_true rfl, Nat.le_of_ble_eq_true rfl⟩ (fun v S' H locs hq I => ?_)
      obtain ⟨rfl, eS⟩ := hq
      rw [eS] at I
      refine lv_icmp_ge (tgt := 53) hx hb dX3_broken_13 (by decide) (fun _ => ?_) (fun h9 => absurd ((nI_leI (a := T.1.2) (b := k) (by omega) (by omega)).mpr (by omega)) h9)
      refine lv_iconst (v := (-1)) hx hb dX3_broken_53 (by decide) ?_
      exact zr_iret C I hr hlk (⟨by rw [← hb0]; rfl, rfl⟩) (Nat.le_of_ble_eq_true rfl) (Nat.le_of_ble_eq_true rfl) dX3_broken_54
    | succ n ih =>
      intro k ls H locs hn I hb0 hl
      refine lv_iload_n hx hb dX3_broken_5 rfl (lv_at hl 0 rfl) ?_
      refine lv_aload_n hx hb dX3_broken_6 rfl (lv_at hl 2 rfl) ?_
      refine zg_Forge_log (v := lo) C I f1 zm_69 (f3) dX3_broken_7 ?_
      refine zc_V (n := 0) (rest := [.int (nI k)]) C I f12.1 rfl rfl (k_Jx4a65c_size_8abf5 l g S lo T.1.2 f12.1 f12.2.1) zm_144 zm_145 zm_146 zm_19 zm_147 rfl hl.1 dX3_broken_10 (by decide +kernel) rfl ⟨Nat.le_of_ble_eq_true rfl, Nat.le_of_ble_eq_true rfl⟩ (Nat.le_of_ble_eq_true rfl) ⟨Nat.le_of_ble_eq_true rfl, Nat.le_of_ble_eq_true rfl⟩ (fun v S' H locs hq I => ?_)
      obtain ⟨rfl, eS⟩ := hq
      rw [eS] at I
      have hk : k < T.1.2 := by omega
      obtain ⟨h3, h4, h5, h6⟩ : zh_at S 8 la ∧ T.1.2 ≤ zh_N S la ∧ 10 ≤ zh_N S la ∧ zh_N S la ≤ 150 := f12.2.2.2.1.elim (fun h => absurd h.1 (by omega)) id
      refine lv_icmp_ge (tgt := 53) hx hb dX3_broken_13 (by decide) (fun h9 => absurd h9 (fun h8 => absurd ((nI_leI (a := T.1.2) (b := k) (by omega) (by omega)).mp h8) (by omega))) (fun _ => ?_)
      refine lv_aload_n hx hb dX3_broken_16 rfl (lv_at hl 2 rfl) ?_
      refine zg_Forge_log (v := lo) C I f1 zm_69 (f3) dX3_broken_17 ?_
      refine lv_iload_n hx hb dX3_broken_20 rfl (lv_at hl 0 rfl) ?_
      refine zc_V (n := 1) (rest := []) C I f12.1 rfl rfl (k_Jx4a65c_get_915e3 l g S lo T.1.2 la k (ae k) f12.1 f12.2.1 f12.2.2.1 h3 h4 (by omega) hk (f12.2.2.2.2 _ hk).1) zm_283 zm_284 zm_285 zm_19 zm_286 rfl hl.1 dX3_broken_21 (by decide +kernel) rfl ⟨Nat.le_of_ble_eq_true rfl, Nat.le_of_ble_eq_true rfl⟩ (Nat.le_of_ble_eq_true rfl) ⟨Nat.le_of_ble_eq_true rfl, Nat.le_of_ble_eq_true rfl⟩ (fun v S' H locs hq I => ?_)
      obtain ⟨rfl, eS⟩ := hq
      rw [eS] at I
      have h5k := t5 _ hk
      have hsb : (if k = 0 then 17 else T.2 11 (k - 1)) < 1000003 := by
        by_cases e : k = 0
        · rw [if_pos e]; decide
        · rw [if_neg e]; exact (t5 (k - 1) (by omega)).2.2.2.2.2.2.2.2.1
      refine zr_cast C I (f12.2.2.2.2 _ hk).2 rfl rfl zm_304 dX3_broken_24 ?_
      refine lv_astore_n (lv' := [(3, .ref (ae k)), (2, .int (nI k)), (1, .int (nI (if k = 0 then 17 else T.2 11 (k - 1)))), (0, .ref x)]) hx hb dX3_broken_27 rfl hl (by decide) rfl (fun ls hl => ?_)
      refine lv_aload_n hx hb dX3_broken_28 rfl (lv_at hl 0 rfl) ?_
      refine zn_Entry_sum (v := nI (T.2 11 k)) (host := "DiceForge") C I (f12.2.2.2.2 _ hk).2 (by decide +kernel) (f16 _ hk 6 (by decide)) dX3_broken_29 ?_
      refine lv_aload_n hx hb dX3_broken_32 rfl (lv_at hl 0 rfl) ?_
      refine lv_iload_n hx hb dX3_broken_33 rfl (lv_at hl 2 rfl) ?_
      refine zc_VN (host := "DiceForge") (n := 1) (rest := [.int (nI (T.2 11 k))]) C I (f12.2.2.2.2 _ hk).2 rfl rfl (k_X1_sumAfter l g S (ae k) (if k = 0 then 17 else T.2 11 (k - 1)) (T.2 5 k) (T.2 6 k) (T.2 8 k) (T.2 9 k) (T.2 10 k) (f12.2.2.2.2 _ hk).2 (f16 _ hk 0 (by decide)) (f16 _ hk 1 (by decide)) (f16 _ hk 3 (by decide)) (f16 _ hk 4 (by decide)) (f16 _ hk 5 (by decide)) hsb (by omega) (by omega) (by omega) (by omega) (by omega)) (by decide +kernel) zm_346 zm_8 zm_34 zm_347 rfl hl.1 dX3_broken_34 (by decide +kernel) rfl ⟨Nat.le_of_ble_eq_true rfl, Nat.le_of_ble_eq_true rfl⟩ (Nat.le_of_ble_eq_true rfl) ⟨Nat.le_of_ble_eq_true rfl, Nat.le_of_ble_eq_true rfl⟩ (fun v S' H locs hq I => ?_)
      obtain ⟨rfl, eS⟩ := hq
      rw [eS] at I
      have hsum : zt_sum T k < 1000003 := zd_sum_lt _ _ _ _ _ _
      refine lv_icmp_eq (tgt := 42) hx hb dX3_broken_37 (by decide) (fun c37 => ?_) (fun c37 => ?_)
      · have c37 : (T.2 11 k) = (zt_sum T k) := (nI_eq (a := T.2 11 k) (b := zt_sum T k) (by omega) (by omega)).mp c37
        refine lv_aload_n hx hb dX3_broken_42 rfl (lv_at hl 0 rfl) ?_
        refine zn_Entry_sum (v := nI (T.2 11 k)) (host := "DiceForge") C I (f12.2.2.2.2 _ hk).2 (by decide +kernel) (f16 _ hk 6 (by decide)) dX3_broken_43 ?_
        refine lv_istore_n (lv' := [(1, .int (nI (T.2 11 k))), (3, .ref (ae k)), (2, .int (nI k)), (0, .ref x)]) hx hb dX3_broken_46 rfl hl (by decide) rfl (fun ls hl => ?_)
        refine lv_iinc (v := nI (k + 1)) (lv' := [(2, .int (nI (k + 1))), (1, .int (nI (T.2 11 k))), (3, .ref (ae k)), (0, .ref x)]) hx hb dX3_broken_47 hl (k := 2) rfl (nI_add k 1) (by decide) rfl (fun ls hl => ?_)
        refine lv_goto (tgt := 5) hx hb dX3_broken_50 (by decide) ?_
        have hl := lv_sub (l' := [(2, .int (nI (k + 1))), (1, .int (nI (T.2 11 k))), (0, .ref x)]) hl [0, 1, 3] rfl
        have e9 : (if k + 1 = 0 then 17 else T.2 11 (k + 1 - 1)) = T.2 11 k := if_neg (by omega)
        rw [← e9] at hl
        refine ih (k + 1) ls H locs (by omega) I ?_ hl
        rw [← hb0]
        show _ = (if _ then nI k else _)
        rw [if_neg (fun h => h c37)]
      · have c37 : ¬ (T.2 11 k) = (zt_sum T k) := fun h9 => c37 ((nI_eq (a := T.2 11 k) (b := zt_sum T k) (by omega) (by omega)).mpr h9)
        refine lv_iload_n hx hb dX3_broken_40 rfl (lv_at hl 1 rfl) ?_
        exact zr_iret C I hr hlk (⟨by rw [← hb0]; show _ = some (Value.int (if _ then nI k else _)); rw [if_pos c37], rfl⟩) (Nat.le_of_ble_eq_true rfl) (Nat.le_of_ble_eq_true rfl) dX3_broken_41
  refine lv_bipush (v := 17) hx hb dX3_broken_0 (by decide) ?_
  refine lv_istore_n (lv' := [(1, .int 17), (0, .ref x)]) hx hb dX3_broken_2 rfl hl (by decide) rfl (fun ls hl => ?_)
  refine lv_iconst (v := 0) hx hb dX3_broken_3 (by decide) ?_
  refine lv_istore_n (lv' := [(2, .int 0), (1, .int 17), (0, .ref x)]) hx hb dX3_broken_4 rfl hl (by decide) rfl (fun ls hl => ?_)
  exact loop T.1.2 0 ls _ _ (by omega) I rfl (lv_sub hl [0, 1, 2] rfl)

set_option maxRecDepth 100000 in
set_option maxHeartbeats 4000000 in
theorem k_X3_firstWrong (l : Launch) (g : zG) (hst : l.stackTraces = false) (S : zS) (T : zT) (x pl lo pt ty pa la : Nat) (ap ad ae : Nat → Nat) (hT : zt_ok T) (hF : FR g S T x pl lo pt ty pa la ap ad ae) (q : Nat) (hq1 : q < T.1.1) : zM l yX3_firstWrong cX3_firstWrong 6 (some .int) (zrm 7 1 2) g [.ref x, .int (nI q), .int (nI (T.2 0 q))] S (fun w S' => w = some (.int (zv_wrong T q)) ∧ FR g S' T x pl lo pt ty pa la ap ad ae ∧ zk_ S S') := by
  refine zM_of (nm := "firstWrong") (by decide) rfl (Nat.le_of_ble_eq_true rfl) ?_
  intro p e s m args below meth c A ls C hr hlk hin I hl
  have C : CallFix p m c cX3_firstWrong 6 s args zc_W RX3 := C
  have hx := C.1
  have hb := C.2.1
  have hl : lv_has ls 6 [(0, .ref x), (1, .int (nI q)), (2, .int (nI (T.2 0 q)))] := hl
  have hF0 := hF
  obtain ⟨⟨f1, f2, f3, f4, f5⟩, ⟨f6, f7, f8, f9, f10⟩, f11, f12, f13, f14, f15, f16, f17, f18, f19⟩ := hF
  obtain ⟨t1, t2, t3, t4, t5, t6, t7⟩ := hT
  have t3a := t3
  refine zw_Draws C I zm_363 zm_168 zm_26 (Nat.le_of_ble_eq_true rfl) (Nat.le_of_ble_eq_true rfl) dX3_firstWrong_0 (fun q0 H hq0 I => ?_)
  refine lv_dup hx hb dX3_firstWrong_3 rfl ?_
  refine lv_iload_n hx hb dX3_firstWrong_4 rfl (lv_at hl 2 rfl) ?_
  refine zc_IN (host := "DiceForge") (n := 1) (rest := [.ref q0]) C I (k_X0_init l g (zh_nO S q0 0) q0 (nI (T.2 0 q)) zh_at_new) (by decide +kernel) zm_169 zm_26 zm_170 rfl rfl hl.1 dX3_firstWrong_5 (by decide +kernel) rfl ⟨Nat.le_of_ble_eq_true rfl, Nat.le_of_ble_eq_true rfl⟩ (Nat.le_of_ble_eq_true rfl) ⟨Nat.le_of_ble_eq_true rfl, Nat.le_of_ble_eq_true rfl⟩ (fun v S' H locs hq I => ?_)
  obtain ⟨rfl, eS⟩ := hq
  rw [eS] at I
  rw [zD_init] at I
  have loop : ∀ (n k : Nat) (r : Nat) (ls : Array Slot) (H : Heap) (locs : List Loc), k + n = T.1.2 → zh_V g A s [] (zD (zh_nO S q0 0) q0 (zt_ag T q k) r) H locs → zt_wrong T q n k = zv_wrong T q → lv_has ls 6 [(4, .int (nI k)), (3, .ref q0), (0, .ref x), (1, .int (nI q)), (2, .int (nI (T.2 0 q)))] → W p l e (zrm 7 1 2) s m args below meth c H locs (0 + 1 + (zrm 1 0 0).cells) (0 + 2 + (zrm 1 0 0).slots) (MQ below (zh_Po g A (fun w S' => w = some (.int (zv_wrong T q)) ∧ FR g S' T x pl lo pt ty pa la ap ad ae ∧ zk_ S S')) args s (zrm 7 1 2).cells (zrm 7 1 2).slots A) (F0 m 12 ls []) := by
    intro n
    induction n with
    | zero =>
      intro k r ls H locs hn I hb0 hl
      have hFk := FR_new hF0 hq0 (zt_ag T q k) r
      obtain ⟨⟨f1, f2, f3, f4, f5⟩, ⟨f6, f7, f8, f9, f10⟩, f11, f12, f13, f14, f15, f16, f17, f18, f19⟩ := id hFk
      refine lv_iload hx hb dX3_firstWrong_12 (lv_at hl 0 rfl) ?_
      refine lv_aload_n hx hb dX3_firstWrong_14 rfl (lv_at hl 2 rfl) ?_
      refine zg_Forge_log (v := lo) C I f1 zm_69 (f3) dX3_firstWrong_15 ?_
      refine zc_V (n := 0) (rest := [.int (nI k)]) C I f12.1 rfl rfl (k_Jx4a65c_size_8abf5 l g (zD (zh_nO S q0 0) q0 (zt_ag T q k) r) lo T.1.2 f12.1 f12.2.1) zm_144 zm_145 zm_146 zm_19 zm_147 rfl hl.1 dX3_firstWrong_18 (by decide +kernel) rfl ⟨Nat.le_of_ble_eq_true rfl, Nat.le_of_ble_eq_true rfl⟩ (Nat.le_of_ble_eq_true rfl) ⟨Nat.le_of_ble_eq_true rfl, Nat.le_of_ble_eq_true rfl⟩ (fun v S' H locs hq I => ?_)
      obtain ⟨rfl, eS⟩ := hq
      rw [eS] at I
      refine lv_icmp_ge (tgt := 78) hx hb dX3_firstWrong_21 (by decide) (fun _ => ?_) (fun h9 => absurd ((nI_leI (a := T.1.2) (b := k) (by omega) (by omega)).mpr (by omega)) h9)
      refine lv_iconst (v := (-1)) hx hb dX3_firstWrong_78 (by decide) ?_
      exact zr_iret C I hr hlk (⟨by rw [← hb0]; rfl, hFk, zk_new hq0⟩) (Nat.le_of_ble_eq_true rfl) (Nat.le_of_ble_eq_true rfl) dX3_firstWrong_79
    | succ n ih =>
      intro k r ls H locs hn I hb0 hl
      have hFk := FR_new hF0 hq0 (zt_ag T q k) r
      obtain ⟨⟨f1, f2, f3, f4, f5⟩, ⟨f6, f7, f8, f9, f10⟩, f11, f12, f13, f14, f15, f16, f17, f18, f19⟩ := id hFk
      refine lv_iload hx hb dX3_firstWrong_12 (lv_at hl 0 rfl) ?_
      refine lv_aload_n hx hb dX3_firstWrong_14 rfl (lv_at hl 2 rfl) ?_
      refine zg_Forge_log (v := lo) C I f1 zm_69 (f3) dX3_firstWrong_15 ?_
      refine zc_V (n := 0) (rest := [.int (nI k)]) C I f12.1 rfl rfl (k_Jx4a65c_size_8abf5 l g (zD (zh_nO S q0 0) q0 (zt_ag T q k) r) lo T.1.2 f12.1 f12.2.1) zm_144 zm_145 zm_146 zm_19 zm_147 rfl hl.1 dX3_firstWrong_18 (by decide +kernel) rfl ⟨Nat.le_of_ble_eq_true rfl, Nat.le_of_ble_eq_true rfl⟩ (Nat.le_of_ble_eq_true rfl) ⟨Nat.le_of_ble_eq_true rfl, Nat.le_of_ble_eq_true rfl⟩ (fun v S' H locs hq I => ?_)
      obtain ⟨rfl, eS⟩ := hq
      rw [eS] at I
      have hk : k < T.1.2 := by omega
      obtain ⟨h3, h4, h5, h6⟩ : zh_at (zD (zh_nO S q0 0) q0 (zt_ag T q k) r) 8 la ∧ T.1.2 ≤ zh_N (zD (zh_nO S q0 0) q0 (zt_ag T q k) r) la ∧ 10 ≤ zh_N (zD (zh_nO S q0 0) q0 (zt_ag T q k) r) la ∧ zh_N (zD (zh_nO S q0 0) q0 (zt_ag T q k) r) la ≤ 150 := f12.2.2.2.1.elim (fun h => absurd h.1 (by omega)) id
      refine lv_icmp_ge (tgt := 78) hx hb dX3_firstWrong_21 (by decide) (fun h9 => absurd h9 (fun h8 => absurd ((nI_leI (a := T.1.2) (b := k) (by omega) (by omega)).mp h8) (by omega))) (fun _ => ?_)
      refine lv_aload_n hx hb dX3_firstWrong_24 rfl (lv_at hl 2 rfl) ?_
      refine zg_Forge_log (v := lo) C I f1 zm_69 (f3) dX3_firstWrong_25 ?_
      refine lv_iload hx hb dX3_firstWrong_28 (lv_at hl 0 rfl) ?_
      refine zc_V (n := 1) (rest := []) C I f12.1 rfl rfl (k_Jx4a65c_get_915e3 l g (zD (zh_nO S q0 0) q0 (zt_ag T q k) r) lo T.1.2 la k (ae k) f12.1 f12.2.1 f12.2.2.1 h3 h4 (by omega) hk (f12.2.2.2.2 _ hk).1) zm_283 zm_284 zm_285 zm_19 zm_286 rfl hl.1 dX3_firstWrong_30 (by decide +kernel) rfl ⟨Nat.le_of_ble_eq_true rfl, Nat.le_of_ble_eq_true rfl⟩ (Nat.le_of_ble_eq_true rfl) ⟨Nat.le_of_ble_eq_true rfl, Nat.le_of_ble_eq_true rfl⟩ (fun v S' H locs hq I => ?_)
      obtain ⟨rfl, eS⟩ := hq
      rw [eS] at I
      have h5k := t5 _ hk
      refine zr_cast C I (f12.2.2.2.2 _ hk).2 rfl rfl zm_304 dX3_firstWrong_33 ?_
      refine lv_astore (lv' := [(5, .ref (ae k)), (4, .int (nI k)), (3, .ref q0), (0, .ref x), (1, .int (nI q)), (2, .int (nI (T.2 0 q)))]) hx hb dX3_firstWrong_36 hl (by decide) rfl (fun ls hl => ?_)
      refine lv_aload hx hb dX3_firstWrong_38 (lv_at hl 0 rfl) ?_
      refine zn_Entry_promise (v := nI (T.2 5 k)) (host := "DiceForge") C I (f12.2.2.2.2 _ hk).2 (by decide +kernel) (f16 _ hk 0 (by decide)) dX3_firstWrong_40 ?_
      refine lv_iload_n hx hb dX3_firstWrong_43 rfl (lv_at hl 4 rfl) ?_
      refine lv_icmp_ne (tgt := 72) hx hb dX3_firstWrong_44 (by decide) (fun c44 => ?_) (fun c44 => ?_)
      · have c44 : ¬ (T.2 5 k) = q := fun h9 => c44 ((nI_eq (a := T.2 5 k) (b := q) (by omega) (by omega)).mpr h9)
        refine lv_iinc (v := nI (k + 1)) (lv' := [(4, .int (nI (k + 1))), (5, .ref (ae k)), (3, .ref q0), (0, .ref x), (1, .int (nI q)), (2, .int (nI (T.2 0 q)))]) hx hb dX3_firstWrong_72 hl (k := 1) rfl (nI_add k 1) (by decide) rfl (fun ls hl => ?_)
        refine lv_goto (tgt := 12) hx hb dX3_firstWrong_75 (by decide) ?_
        have hl := lv_sub (l' := [(4, .int (nI (k + 1))), (3, .ref q0), (0, .ref x), (1, .int (nI q)), (2, .int (nI (T.2 0 q)))]) hl [0, 2, 3, 4, 5] rfl
        have e9 : zt_ag T q (k + 1) = zt_ag T q k := if_neg c44
        rw [← e9] at I
        refine ih (k + 1) r ls H locs (by omega) I ?_ hl
        rw [← hb0]
        show _ = (if _ then nI k else _)
        rw [if_neg (fun h => c44 h.1)]
      · have c44 : (T.2 5 k) = q := (nI_eq (a := T.2 5 k) (b := q) (by omega) (by omega)).mp c44
        refine lv_aload hx hb dX3_firstWrong_47 (lv_at hl 0 rfl) ?_
        refine zn_Entry_value (v := nI (T.2 9 k)) (host := "DiceForge") C I (f12.2.2.2.2 _ hk).2 (by decide +kernel) (f16 _ hk 4 (by decide)) dX3_firstWrong_49 ?_
        refine lv_aload_n hx hb dX3_firstWrong_52 rfl (lv_at hl 2 rfl) ?_
        refine lv_aload hx hb dX3_firstWrong_53 (lv_at hl 0 rfl) ?_
        refine zn_Entry_part (v := nI (T.2 7 k)) (host := "DiceForge") C I (f12.2.2.2.2 _ hk).2 (by decide +kernel) (f16 _ hk 2 (by decide)) dX3_firstWrong_55 ?_
        refine lv_aload hx hb dX3_firstWrong_58 (lv_at hl 0 rfl) ?_
        refine zn_Entry_faces (v := nI (T.2 8 k)) (host := "DiceForge") C I (f12.2.2.2.2 _ hk).2 (by decide +kernel) (f16 _ hk 3 (by decide)) dX3_firstWrong_60 ?_
        have hag := zt_ag_lt (T := T) (fun k => (t3a k).1) q k
        refine zc_VN (host := "DiceForge") (n := 2) (rest := [.int (nI (T.2 9 k))]) C I (show zh_at (zD (zh_nO S q0 0) q0 (zt_ag T q k) r) 0 q0 from zh_at_new) rfl rfl (k_X0_nextValue l g (zD (zh_nO S q0 0) q0 (zt_ag T q k) r) q0 (zt_ag T q k) (T.2 7 k) (T.2 8 k) zh_at_new (zD_0 _ _ _ _) hag (by omega) (by omega) (by omega)) (by decide +kernel) zm_333 zm_5 zm_26 zm_334 rfl hl.1 dX3_firstWrong_63 (by decide +kernel) rfl ⟨Nat.le_of_ble_eq_true rfl, Nat.le_of_ble_eq_true rfl⟩ (Nat.le_of_ble_eq_true rfl) ⟨Nat.le_of_ble_eq_true rfl, Nat.le_of_ble_eq_true rfl⟩ (fun v S' H locs hq I => ?_)
        obtain ⟨rfl, eS⟩ := hq
        rw [eS] at I
        rw [zD_zD] at I
        have hfd : zt_fd T q k ≤ 1000 := by
          have := Nat.mod_lt (zd_roll (zt_ag T q k) (T.2 7 k) (T.2 8 k)).1 (show T.2 8 k > 0 by omega)
          show _ % T.2 8 k + 1 ≤ 1000
          omega
        refine lv_icmp_eq (tgt := 72) hx hb dX3_firstWrong_66 (by decide) (fun c66 => ?_) (fun c66 => ?_)
        · have c66 : (T.2 9 k) = (zt_fd T q k) := (nI_eq (a := T.2 9 k) (b := zt_fd T q k) (by omega) (by omega)).mp c66
          refine lv_iinc (v := nI (k + 1)) (lv' := [(4, .int (nI (k + 1))), (5, .ref (ae k)), (3, .ref q0), (0, .ref x), (1, .int (nI q)), (2, .int (nI (T.2 0 q)))]) hx hb dX3_firstWrong_72 hl (k := 1) rfl (nI_add k 1) (by decide) rfl (fun ls hl => ?_)
          refine lv_goto (tgt := 12) hx hb dX3_firstWrong_75 (by decide) ?_
          have hl := lv_sub (l' := [(4, .int (nI (k + 1))), (3, .ref q0), (0, .ref x), (1, .int (nI q)), (2, .int (nI (T.2 0 q)))]) hl [0, 2, 3, 4, 5] rfl
          have e9 : zt_ag T q (k + 1) = (zd_roll (zt_ag T q k) (T.2 7 k) (T.2 8 k)).1 := if_pos c44
          rw [← e9] at I
          refine ih (k + 1) ((zd_roll (zt_ag T q k) (T.2 7 k) (T.2 8 k)).2) ls H locs (by omega) I ?_ hl
          rw [← hb0]
          show _ = (if _ then nI k else _)
          rw [if_neg (fun h => h.2 c66)]
        · have c66 : ¬ (T.2 9 k) = (zt_fd T q k) := fun h9 => c66 ((nI_eq (a := T.2 9 k) (b := zt_fd T q k) (by omega) (by omega)).mpr h9)
          refine lv_iload hx hb dX3_firstWrong_69 (lv_at hl 1 rfl) ?_
          have hFk2 := FR_new hF0 hq0 (zd_roll (zt_ag T q k) (T.2 7 k) (T.2 8 k)).1 (zd_roll (zt_ag T q k) (T.2 7 k) (T.2 8 k)).2
          exact zr_iret C I hr hlk (⟨by rw [← hb0]; show _ = some (Value.int (if _ then nI k else _)); rw [if_pos ⟨c44, c66⟩], hFk2, zk_new hq0⟩) (Nat.le_of_ble_eq_true rfl) (Nat.le_of_ble_eq_true rfl) dX3_firstWrong_71
  refine lv_astore_n (lv' := [(3, .ref q0), (0, .ref x), (1, .int (nI q)), (2, .int (nI (T.2 0 q)))]) hx hb dX3_firstWrong_8 rfl hl (by decide) rfl (fun ls hl => ?_)
  refine lv_iconst (v := 0) hx hb dX3_firstWrong_9 (by decide) ?_
  refine lv_istore (lv' := [(4, .int 0), (3, .ref q0), (0, .ref x), (1, .int (nI q)), (2, .int (nI (T.2 0 q)))]) hx hb dX3_firstWrong_10 hl (by decide) rfl (fun ls hl => ?_)
  exact loop T.1.2 0 0 ls _ _ (by omega) I rfl (lv_sub hl [0, 1, 2, 3, 4] rfl)

set_option maxRecDepth 100000 in
set_option maxHeartbeats 4000000 in
theorem k_X3_wrong (l : Launch) (g : zG) (hst : l.stackTraces = false) (S : zS) (T : zT) (x pl lo pt ty pa la : Nat) (ap ad ae : Nat → Nat) (hT : zt_ok T) (hF : FR g S T x pl lo pt ty pa la ap ad ae) (i : Int32) : zX l yX3_wrong cX3_wrong 2 (some .int) (zrm 8 3 14) g [.ref x, .int i] S (fun w S' => zc_wrong T i = 0 ∧ w = some (.int (zv_wrong T (zx i))) ∧ FR g S' T x pl lo pt ty pa la ap ad ae ∧ zk_ S S') (fun E S' => ((zc_wrong T i = 1 ∧ E = zn_IO) ∨ (zc_wrong T i = 2 ∧ E = zn_IS)) ∧ S' = S) := by
  refine zX_of (nm := "wrong") (by decide) rfl (Nat.le_of_ble_eq_true rfl) ?_
  intro p e s m args below meth c A ls C hr hlk hxt I hl
  have C : CallFix p m c cX3_wrong 2 s args zc_W RX3 := C
  have hx := C.1
  have hb := C.2.1
  have hl : lv_has ls 2 [(0, .ref x), (1, .int i)] := hl
  have hF0 := hF
  obtain ⟨⟨f1, f2, f3, f4, f5⟩, ⟨f6, f7, f8, f9, f10⟩, f11, f12, f13, f14, f15, f16, f17, f18, f19⟩ := hF
  obtain ⟨t1, t2, t3, t4, t5, t6, t7⟩ := hT
  refine lv_aload_n hx hb dX3_wrong_0 rfl (lv_at hl 0 rfl) ?_
  refine lv_iload_n hx hb dX3_wrong_1 rfl (lv_at hl 1 rfl) ?_
  refine lv_aload_n hx hb dX3_wrong_2 rfl (lv_at hl 0 rfl) ?_
  refine lv_iload_n hx hb dX3_wrong_3 rfl (lv_at hl 1 rfl) ?_
  refine zc_VX (n := 1) (rest := [.int i, .ref x]) C I f1 rfl rfl (k_X3_openedAt l g hst S x pl T.1.1 pa ap (T.2 2) i f1 f2 f11 (by omega) (fun k hk => (f15 k hk).2.2.2.2.1) (fun k => (t3 k).2.2.1)) zm_364 zm_365 zm_10 zm_16 zm_366 rfl hl.1 dX3_wrong_4 (by decide +kernel) rfl ⟨Nat.le_of_ble_eq_true rfl, Nat.le_of_ble_eq_true rfl⟩ (Nat.le_of_ble_eq_true rfl) ⟨Nat.le_of_ble_eq_true rfl, Nat.le_of_ble_eq_true rfl⟩ (fun E ce q9 S' H locs hq I h1 h2 h3 => ?_) (fun v S' H locs hq I => ?_)
  · obtain ⟨hE, eS⟩ := hq
    rw [eS] at I
    exact zr_out I hxt hlk (⟨hE.imp (fun h => ⟨if_pos h.2, h.1⟩) (fun h => ⟨by unfold zc_wrong; rw [if_neg h.2.1, if_pos h.2.2], h.1⟩), rfl⟩) h1 h2 h3 (Nat.le_of_ble_eq_true rfl) (Nat.le_of_ble_eq_true rfl)
  · obtain ⟨⟨hz, ho⟩, rfl, eS⟩ := hq
    rw [eS] at I
    have hj : zx i < T.1.1 := (zi_cases i (n := T.1.1) (by omega)).elim (fun h => absurd h hz) (fun h => h.2.1)
    obtain ⟨hz9, hj9, hi⟩ := (zi_cases i (n := T.1.1) (by omega)).elim (fun h => absurd h hz) id
    refine zn_Promise_seed (v := nI (T.2 0 (zx i))) (host := "DiceForge") C I (f11.2.2.2.2 _ hj).2 (by decide +kernel) ((f15 _ hj).2.2.1) dX3_wrong_7 ?_
    obtain ⟨q, hq0⟩ : ∃ q, q = zx i := ⟨_, rfl⟩
    have hiq : Value.int i = .int (nI (zx i)) := by rw [← hi]
    rw [hiq]
    refine zc_V (n := 2) (rest := []) C I f1 rfl rfl (k_X3_firstWrong l g hst S T x pl lo pt ty pa la ap ad ae ⟨t1, t2, t3, t4, t5, t6, t7⟩ hF0 (zx i) hj) zm_371 zm_372 zm_11 zm_16 zm_373 rfl hl.1 dX3_wrong_10 (by decide +kernel) rfl ⟨Nat.le_of_ble_eq_true rfl, Nat.le_of_ble_eq_true rfl⟩ (Nat.le_of_ble_eq_true rfl) ⟨Nat.le_of_ble_eq_true rfl, Nat.le_of_ble_eq_true rfl⟩ (fun v S' H locs hq I => ?_)
    obtain ⟨rfl, hF2, hk2⟩ := hq
    exact vx_ret (zr_iret C I hr hlk (⟨by unfold zc_wrong; rw [if_neg hz, if_neg ho], rfl, hF2, hk2⟩) (Nat.le_of_ble_eq_true rfl) (Nat.le_of_ble_eq_true rfl) dX3_wrong_13)

set_option maxRecDepth 100000 in
set_option maxHeartbeats 4000000 in
theorem k_X3_strikeFrom (l : Launch) (g : zG) (hst : l.stackTraces = false) (S : zS) (T : zT) (x pl lo pt ty pa la : Nat) (ap ad ae : Nat → Nat) (hT : zt_ok T) (hF : FR g S T x pl lo pt ty pa la ap ad ae) (q a : Nat) (hq1 : q < 16) (ha1 : a < T.1.2) : zM l yX3_strikeFrom cX3_strikeFrom 6 (some .int) (zrm 7 0 0) g [.ref x, .int (nI a), .int (nI q)] S (fun w S' => w = some (.int (nI (zt_own T q a T.1.2))) ∧ FR g S' (zs_strike T q a T.1.2) x pl lo pt ty pa la ap ad ae ∧ zk_ S S') := by
  refine zM_of (nm := "strikeFrom") (by decide) rfl (Nat.le_of_ble_eq_true rfl) ?_
  intro p e s m args below meth c A ls C hr hlk hin I hl
  have C : CallFix p m c cX3_strikeFrom 6 s args zc_W RX3 := C
  have hx := C.1
  have hb := C.2.1
  have hl : lv_has ls 6 [(0, .ref x), (1, .int (nI a)), (2, .int (nI q))] := hl
  have hF0 := hF
  obtain ⟨⟨f1, f2, f3, f4, f5⟩, ⟨f6, f7, f8, f9, f10⟩, f11, f12, f13, f14, f15, f16, f17, f18, f19⟩ := hF
  obtain ⟨t1, t2, t3, t4, t5, t6, t7⟩ := hT
  refine lv_iconst (v := 0) hx hb dX3_strikeFrom_0 (by decide) ?_
  refine lv_istore_n (lv' := [(3, .int 0), (0, .ref x), (1, .int (nI a)), (2, .int (nI q))]) hx hb dX3_strikeFrom_1 rfl hl (by decide) rfl (fun ls hl => ?_)
  refine lv_iload_n hx hb dX3_strikeFrom_2 rfl (lv_at hl 2 rfl) ?_
  refine lv_iconst (v := 0) hx hb dX3_strikeFrom_3 (by decide) ?_
  refine zr_max C zm_381 zm_207 zm_28 zm_208 hl.1 (Nat.le_of_ble_eq_true rfl) (Nat.le_of_ble_eq_true rfl) (Nat.le_of_ble_eq_true rfl) (Nat.le_of_ble_eq_true rfl) dX3_strikeFrom_4 ?_
  refine zr_top (y := nI a) (show (if nI a < nI 0 then nI 0 else nI a) = nI a from if_neg (fun h => absurd ((nI_ltI (a := a) (b := 0) (by omega) (by omega)).mp h) (by omega))) ?_
  have loop : ∀ (n k : Nat) (S1 : zS) (ls : Array Slot) (H : Heap) (locs : List Loc), k + n = T.1.2 → a ≤ k → zh_V g A s [] S1 H locs → FR g S1 (zs_strike T q a k) x pl lo pt ty pa la ap ad ae → zk_ S S1 → lv_has ls 6 [(4, .int (nI k)), (3, .int (nI (zt_own T q a k))), (0, .ref x), (1, .int (nI a)), (2, .int (nI q))] → W p l e (zrm 7 0 0) s m args below meth c H locs 0 0 (MQ below (zh_Po g A (fun w S' => w = some (.int (nI (zt_own T q a T.1.2))) ∧ FR g S' (zs_strike T q a T.1.2) x pl lo pt ty pa la ap ad ae ∧ zk_ S S')) args s (zrm 7 0 0).cells (zrm 7 0 0).slots A) (F0 m 9 ls []) := by
    intro n
    induction n with
    | zero =>
      intro k S1 ls H locs hn hak I hFk hkk hl
      have hown := zt_own_le T q a k
      have hFk0 := hFk
      obtain ⟨⟨f1, f2, f3, f4, f5⟩, ⟨f6, f7, f8, f9, f10⟩, f11, f12, f13, f14, f15, f16, f17, f18, f19⟩ := hFk
      refine lv_iload hx hb dX3_strikeFrom_9 (lv_at hl 0 rfl) ?_
      refine lv_aload_n hx hb dX3_strikeFrom_11 rfl (lv_at hl 2 rfl) ?_
      refine zg_Forge_log (v := lo) C I f1 zm_69 (f3) dX3_strikeFrom_12 ?_
      refine zc_V (n := 0) (rest := [.int (nI k)]) C I f12.1 rfl rfl (k_Jx4a65c_size_8abf5 l g S1 lo T.1.2 f12.1 f12.2.1) zm_144 zm_145 zm_146 zm_19 zm_147 rfl hl.1 dX3_strikeFrom_15 (by decide +kernel) rfl ⟨Nat.le_of_ble_eq_true rfl, Nat.le_of_ble_eq_true rfl⟩ (Nat.le_of_ble_eq_true rfl) ⟨Nat.le_of_ble_eq_true rfl, Nat.le_of_ble_eq_true rfl⟩ (fun v S' H locs hq I => ?_)
      obtain ⟨rfl, eS⟩ := hq
      rw [eS] at I
      refine lv_icmp_ge (tgt := 59) hx hb dX3_strikeFrom_18 (by decide) (fun _ => ?_) (fun h9 => absurd ((nI_leI (a := T.1.2) (b := k) (by omega) (by omega)).mpr (by omega)) h9)
      refine lv_iload_n hx hb dX3_strikeFrom_59 rfl (lv_at hl 1 rfl) ?_
      have hk : k = T.1.2 := by omega
      subst hk
      exact zr_iret C I hr hlk (⟨rfl, hFk0, hkk⟩) (Nat.le_of_ble_eq_true rfl) (Nat.le_of_ble_eq_true rfl) dX3_strikeFrom_60
    | succ n ih =>
      intro k S1 ls H locs hn hak I hFk hkk hl
      have hown := zt_own_le T q a k
      have hFk0 := hFk
      obtain ⟨⟨f1, f2, f3, f4, f5⟩, ⟨f6, f7, f8, f9, f10⟩, f11, f12, f13, f14, f15, f16, f17, f18, f19⟩ := hFk
      refine lv_iload hx hb dX3_strikeFrom_9 (lv_at hl 0 rfl) ?_
      refine lv_aload_n hx hb dX3_strikeFrom_11 rfl (lv_at hl 2 rfl) ?_
      refine zg_Forge_log (v := lo) C I f1 zm_69 (f3) dX3_strikeFrom_12 ?_
      refine zc_V (n := 0) (rest := [.int (nI k)]) C I f12.1 rfl rfl (k_Jx4a65c_size_8abf5 l g S1 lo T.1.2 f12.1 f12.2.1) zm_144 zm_145 zm_146 zm_19 zm_147 rfl hl.1 dX3_strikeFrom_15 (by decide +kernel) rfl ⟨Nat.le_of_ble_eq_true rfl, Nat.le_of_ble_eq_true rfl⟩ (Nat.le_of_ble_eq_true rfl) ⟨Nat.le_of_ble_eq_true rfl, Nat.le_of_ble_eq_true rfl⟩ (fun v S' H locs hq I => ?_)
      obtain ⟨rfl, eS⟩ := hq
      rw [eS] at I
      have hk : k < T.1.2 := by omega
      obtain ⟨h3, h4, h5, h6⟩ : zh_at S1 8 la ∧ T.1.2 ≤ zh_N S1 la ∧ 10 ≤ zh_N S1 la ∧ zh_N S1 la ≤ 150 := f12.2.2.2.1.elim (fun h => absurd h.1 (show ¬ T.1.2 = 0 by omega)) id
      refine lv_icmp_ge (tgt := 59) hx hb dX3_strikeFrom_18 (by decide) (fun h9 => absurd h9 (fun h8 => absurd ((nI_leI (a := T.1.2) (b := k) (by omega) (by omega)).mp h8) (by omega))) (fun _ => ?_)
      refine lv_aload_n hx hb dX3_strikeFrom_21 rfl (lv_at hl 2 rfl) ?_
      refine zg_Forge_log (v := lo) C I f1 zm_69 (f3) dX3_strikeFrom_22 ?_
      refine lv_iload hx hb dX3_strikeFrom_25 (lv_at hl 0 rfl) ?_
      refine zc_V (n := 1) (rest := []) C I f12.1 rfl rfl (k_Jx4a65c_get_915e3 l g S1 lo T.1.2 la k (ae k) f12.1 f12.2.1 f12.2.2.1 h3 h4 (by omega) hk (f12.2.2.2.2 k hk).1) zm_283 zm_284 zm_285 zm_19 zm_286 rfl hl.1 dX3_strikeFrom_27 (by decide +kernel) rfl ⟨Nat.le_of_ble_eq_true rfl, Nat.le_of_ble_eq_true rfl⟩ (Nat.le_of_ble_eq_true rfl) ⟨Nat.le_of_ble_eq_true rfl, Nat.le_of_ble_eq_true rfl⟩ (fun v S' H locs hq I => ?_)
      obtain ⟨rfl, eS⟩ := hq
      rw [eS] at I
      have h5k := t5 _ hk
      refine zr_cast C I (f12.2.2.2.2 k hk).2 rfl rfl zm_304 dX3_strikeFrom_30 ?_
      refine lv_astore (lv' := [(5, .ref (ae k)), (4, .int (nI k)), (3, .int (nI (zt_own T q a k))), (0, .ref x), (1, .int (nI a)), (2, .int (nI q))]) hx hb dX3_strikeFrom_33 hl (by decide) rfl (fun ls hl => ?_)
      refine lv_aload hx hb dX3_strikeFrom_35 (lv_at hl 0 rfl) ?_
      refine zn_Entry_promise (v := nI (T.2 5 k)) (host := "DiceForge") C I (f12.2.2.2.2 k hk).2 (by decide +kernel) ((f16 k hk 0 (by decide)).trans (by rw [zs_strike_j _ _ _ _ _ (by decide)])) dX3_strikeFrom_37 ?_
      refine lv_iload_n hx hb dX3_strikeFrom_40 rfl (lv_at hl 5 rfl) ?_
      refine lv_icmp_ne (tgt := 53) hx hb dX3_strikeFrom_41 (by decide) (fun c41 => ?_) (fun c41 => ?_)
      · have c41 : ¬ (T.2 5 k) = q := fun h9 => c41 ((nI_eq (a := T.2 5 k) (b := q) (by omega) (by omega)).mpr h9)
        refine lv_iinc (v := nI (k + 1)) (lv' := [(4, .int (nI (k + 1))), (5, .ref (ae k)), (3, .int (nI (zt_own T q a k))), (0, .ref x), (1, .int (nI a)), (2, .int (nI q))]) hx hb dX3_strikeFrom_53 hl (k := 1) rfl (nI_add k 1) (by decide) rfl (fun ls hl => ?_)
        refine lv_goto (tgt := 9) hx hb dX3_strikeFrom_56 (by decide) ?_
        have e9 : zt_own T q a (k + 1) = zt_own T q a k := by show _ + (if _ then 1 else 0) = _; rw [if_neg (fun h => c41 h.1)]; rfl
        have hl := lv_sub (l' := [(4, .int (nI (k + 1))), (3, .int (nI (zt_own T q a k))), (0, .ref x), (1, .int (nI a)), (2, .int (nI q))]) hl [0, 2, 3, 4, 5] rfl
        rw [← e9] at hl
        exact ih (k + 1) S1 ls H locs (by omega) (by omega) I (zs_strike_n T (fun h => c41 h.1) ▸ hFk0) hkk hl
      · have c41 : (T.2 5 k) = q := (nI_eq (a := T.2 5 k) (b := q) (by omega) (by omega)).mp c41
        refine lv_aload hx hb dX3_strikeFrom_44 (lv_at hl 0 rfl) ?_
        refine lv_iconst (v := 1) hx hb dX3_strikeFrom_46 (by decide) ?_
        refine zq_Entry_struck (host := "DiceForge") C I (f12.2.2.2.2 k hk).2 (by decide +kernel) (Or.inr rfl) dX3_strikeFrom_47 (fun H locs I => ?_)
        have hF2 := FR_ent hFk0 (f := 7) (k := k) (y := 1) hk (by decide)
        have e8 : zt_s (zs_strike T q a k) (5 + 7) k 1 = zs_strike T q a (k + 1) := zs_strike_s T c41 hak
        rw [e8] at hF2
        refine lv_iinc (v := nI ((zt_own T q a k) + 1)) (lv' := [(3, .int (nI ((zt_own T q a k) + 1))), (5, .ref (ae k)), (4, .int (nI k)), (0, .ref x), (1, .int (nI a)), (2, .int (nI q))]) hx hb dX3_strikeFrom_50 hl (k := 2) rfl (nI_add (zt_own T q a k) 1) (by decide) rfl (fun ls hl => ?_)
        refine lv_iinc (v := nI (k + 1)) (lv' := [(4, .int (nI (k + 1))), (3, .int (nI ((zt_own T q a k) + 1))), (5, .ref (ae k)), (0, .ref x), (1, .int (nI a)), (2, .int (nI q))]) hx hb dX3_strikeFrom_53 hl (k := 2) rfl (nI_add k 1) (by decide) rfl (fun ls hl => ?_)
        refine lv_goto (tgt := 9) hx hb dX3_strikeFrom_56 (by decide) ?_
        have e9 : zt_own T q a (k + 1) = zt_own T q a k + 1 := by show _ + (if _ then 1 else 0) = _; rw [if_pos ⟨c41, hak⟩]
        have hl := lv_sub (l' := [(4, .int (nI (k + 1))), (3, .int (nI ((zt_own T q a k) + 1))), (0, .ref x), (1, .int (nI a)), (2, .int (nI q))]) hl [0, 1, 3, 4, 5] rfl
        rw [← e9] at hl
        exact ih (k + 1) (zh_sI S1 (2 + 7) (ae k) (nI 1)) ls H locs (by omega) (by omega) I (hF2) hkk hl
  refine lv_istore (lv' := [(4, .int (nI a)), (3, .int 0), (0, .ref x), (1, .int (nI a)), (2, .int (nI q))]) hx hb dX3_strikeFrom_7 hl (by decide) rfl (fun ls hl => ?_)
  have e0 := zt_own_lo T q a a (Nat.le_refl _)
  have e1 := zs_strike_0 T q a a (Nat.le_refl _)
  have hl := lv_sub (l' := [(4, .int (nI a)), (3, .int 0), (0, .ref x), (1, .int (nI a)), (2, .int (nI q))]) hl [0, 1, 2, 3, 4] rfl
  have hl : lv_has ls 6 [(4, .int (nI a)), (3, .int (nI (zt_own T q a a))), (0, .ref x), (1, .int (nI a)), (2, .int (nI q))] := by rw [e0]; exact hl
  exact loop (T.1.2 - a) a S ls _ _ (by omega) (Nat.le_refl _) I (e1.symm ▸ hF0) (zk_rf S) hl

