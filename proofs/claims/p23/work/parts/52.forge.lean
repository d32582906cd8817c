/-! the forge's state, kept and changed -/
theorem zi_le999 {y : Int32} (h : ¬ y < 0) (h2 : y ≤ 999) : ¬ zi 1000 y := fun h9 => h9.elim h (fun h3 => by
  have h4 := Int32.le_iff_toInt_le.mp h3
  have h5 := Int32.le_iff_toInt_le.mp h2
  rw [nI_toInt (by decide)] at h4
  have h6 : (999 : Int32).toInt = 999 := by decide
  omega)
theorem zi_gt999 {y : Int32} (h : ¬ y ≤ 999) : nI 1000 ≤ y := Int32.le_iff_toInt_le.mpr (by
  have h3 : ¬ y.toInt ≤ (999 : Int32).toInt := fun h9 => h (Int32.le_iff_toInt_le.mpr h9)
  rw [nI_toInt (by decide)]
  have h6 : (999 : Int32).toInt = 999 := by decide
  omega)
theorem zi_val {f : Nat} {y : Int32} (hf : f ≤ 1000) (h : ¬ (y < 1 ∨ nI f < y)) : 1 ≤ zx y ∧ zx y ≤ f ∧ y = nI (zx y) := by
  have h1 : ¬ y.toInt < (1 : Int32).toInt := fun h9 => h (Or.inl (Int32.lt_iff_toInt_lt.mpr h9))
  have h2 : ¬ (nI f).toInt < y.toInt := fun h9 => h (Or.inr (Int32.lt_iff_toInt_lt.mpr h9))
  rw [nI_toInt (by omega)] at h2
  have h6 : (1 : Int32).toInt = 1 := by decide
  have h7 : (0 : Int32).toInt = 0 := by decide
  obtain ⟨j, hj, e⟩ := nI_of (x := y) (fun h9 => by have := Int32.lt_iff_toInt_lt.mp h9; omega)
  subst e
  rw [nI_toInt hj] at h1 h2
  rw [zx_nI hj]
  exact ⟨by omega, by omega, rfl⟩
theorem FR_mk {g : zG} {S S' : zS} {T T' : zT} {x pl lo pt ty pa la : Nat} {ap ad ae : Nat → Nat} (hF : FR g S T x pl lo pt ty pa la ap ad ae) (h1 : ∀ k a : Nat, zh_at S k a → zh_at S' k a ∧ zh_N S' a = zh_N S a ∧ zh_Q S' a = zh_Q S a ∧ ∀ j : Nat, zh_R S' j a = zh_R S j a) (e1 : T'.1 = T.1) (hsz : ∀ a : Nat, zh_at S 5 a → zh_I S' 31 a = zh_I S 31 a) (hp : ∀ t : Nat, t < 4 → zh_A S' pt t = nI (T'.2 4 t))
    (hpr : ∀ k : Nat, k < T.1.1 → zh_I S' 10 (ap k) = nI (T'.2 0 k) ∧ zh_I S' 0 (ad k) = nI (T'.2 1 k) ∧ zh_I S' 11 (ap k) = nI (T'.2 2 k) ∧ zh_I S' 12 (ap k) = nI (T'.2 3 k)) (hen : ∀ k : Nat, k < T.1.2 → ∀ j : Nat, j < 8 → zh_I S' (2 + j) (ae k) = nI (T'.2 (5 + j) k)) (hpa : zh_at S' 8 pa → zh_at S 8 pa) : FR g S' T' x pl lo pt ty pa la ap ad ae := by
  obtain ⟨⟨f1, f2, f3, f4, f5⟩, ⟨f6, f7, f8, f9, f10⟩, f11, f12, f13, f14, f15, f16, f17, f18, f19⟩ := hF
  have hL : ∀ (pl n ar kd : Nat) (el : Nat → Nat), FL g S pl n ar kd el → FL g S' pl n ar kd el := fun pl n ar kd el ⟨q1, q2, q3, q4, q5⟩ => by
    refine ⟨(h1 _ _ q1).1, (hsz pl q1).trans q2, ((h1 _ _ q1).2.2.2 30).trans q3, ?_, fun i hi => ?_⟩
    · rcases q4 with q4 | ⟨q4, q6⟩
      · exact Or.inl q4
      · refine Or.inr ⟨(h1 _ _ q4).1, ?_⟩
        rw [(h1 _ _ q4).2.1]; exact q6
    · rcases q4 with ⟨q4, -⟩ | ⟨q4, q6⟩
      · omega
      · exact ⟨by rw [(h1 _ _ q4).2.2.1]; exact (q5 i hi).1, (h1 _ _ (q5 i hi).2).1⟩
  refine ⟨⟨(h1 _ _ f1).1, ((h1 _ _ f1).2.2.2 1).trans f2, ((h1 _ _ f1).2.2.2 2).trans f3, ((h1 _ _ f1).2.2.2 3).trans f4, ((h1 _ _ f1).2.2.2 4).trans f5⟩, ⟨(h1 _ _ f6).1, (h1 _ _ f6).2.1.trans f7, (h1 _ _ f8).1, (h1 _ _ f8).2.1.trans f9, hp⟩, ?_, ?_, f13, fun h => f14 (hpa h), fun k hk => ?_, ?_, ?_, ?_, ?_⟩
  · rw [e1]; exact hL _ _ _ _ _ f11
  · rw [e1]; exact hL _ _ _ _ _ f12
  · rw [e1] at hk
    obtain ⟨q1, q2, q3⟩ := f15 k hk
    exact ⟨((h1 _ _ (f11.2.2.2.2 k hk).2).2.2.2 0).trans q1, (h1 _ _ q2).1, hpr k hk⟩
  · rw [e1]; exact hen
  · rw [e1]; exact f17
  · rw [e1]; exact f18
  · rw [e1]; exact f19
theorem zt_s_s (T : zT) (j k x : Nat) : (zt_s T j k x).2 j k = x := zh_u_s _ _ _ _
theorem zt_s_j (T : zT) {j j' : Nat} (k k' x : Nat) (h : j' ≠ j) : (zt_s T j k x).2 j' k' = T.2 j' k' := zh_u_j _ _ _ _ h
theorem zt_s_k (T : zT) (j j' : Nat) {k k' : Nat} (x : Nat) (h : k' ≠ k) : (zt_s T j k x).2 j' k' = T.2 j' k' := zh_u_a _ _ _ _ h
theorem zI_j (S : zS) {j j' : Nat} (a a' : Nat) (v : Int32) (h : j' ≠ j) : zh_I (zh_sI S j a v) j' a' = zh_I S j' a' := zh_u_j _ _ _ _ h
theorem zI_a (S : zS) (j j' : Nat) {a a' : Nat} (v : Int32) (h : a' ≠ a) : zh_I (zh_sI S j a v) j' a' = zh_I S j' a' := zh_u_a _ _ _ _ h
theorem zI_s (S : zS) (j a : Nat) (v : Int32) : zh_I (zh_sI S j a v) j a = v := zh_u_s _ _ _ _
/-- a promise's flag is written: f field 11 or 12, v kind 2 or 3 -/
theorem FR_flag {g : zG} {S : zS} {T : zT} {x pl lo pt ty pa la : Nat} {ap ad ae : Nat → Nat} (hF : FR g S T x pl lo pt ty pa la ap ad ae) {f v k y : Nat} (hk : k < T.1.1) (hfv : (f = 11 ∧ v = 2) ∨ (f = 12 ∧ v = 3)) : FR g (zh_sI S f (ap k) (nI y)) (zt_s T v k y) x pl lo pt ty pa la ap ad ae := by
  have hF0 := hF
  obtain ⟨⟨f1, f2, f3, f4, f5⟩, ⟨f6, f7, f8, f9, f10⟩, f11, f12, f13, f14, f15, f16, f17, f18, f19⟩ := hF
  refine FR_mk hF0 (fun k a h => ⟨h, rfl, rfl, fun _ => rfl⟩) rfl (fun a _ => zI_j _ _ _ _ (by omega)) (fun t ht => ?_) (fun i hi => ?_) (fun i hi j hj => ?_) id
  · rw [zt_s_j _ _ _ _ (by omega)]; exact f10 t ht
  · obtain ⟨-, -, q3, q4, q5, q6⟩ := f15 i hi
    rcases hfv with ⟨rfl, rfl⟩ | ⟨rfl, rfl⟩
    · refine ⟨(by rw [zI_j _ _ _ _ (by decide), zt_s_j _ _ _ _ (by decide)]; exact q3), (by rw [zI_j _ _ _ _ (by decide), zt_s_j _ _ _ _ (by decide)]; exact q4), ?_, (by rw [zI_j _ _ _ _ (by decide), zt_s_j _ _ _ _ (by decide)]; exact q6)⟩
      by_cases e : i = k
      · subst e; rw [zt_s_s, zI_s]
      · rw [zt_s_k _ _ _ _ e]; rw [zI_a _ _ _ _ (fun h => e (f17 _ _ hi hk h))]; exact q5
    · refine ⟨(by rw [zI_j _ _ _ _ (by decide), zt_s_j _ _ _ _ (by decide)]; exact q3), (by rw [zI_j _ _ _ _ (by decide), zt_s_j _ _ _ _ (by decide)]; exact q4), (by rw [zI_j _ _ _ _ (by decide), zt_s_j _ _ _ _ (by decide)]; exact q5), ?_⟩
      by_cases e : i = k
      · subst e; rw [zt_s_s, zI_s]
      · rw [zt_s_k _ _ _ _ e]; rw [zI_a _ _ _ _ (fun h => e (f17 _ _ hi hk h))]; exact q6
  · rw [zt_s_j _ _ _ _ (by omega)]; exact (zI_j _ _ _ _ (by omega)).trans (f16 i hi j hj)
/-- an entry's field is written -/
theorem FR_ent {g : zG} {S : zS} {T : zT} {x pl lo pt ty pa la : Nat} {ap ad ae : Nat → Nat} (hF : FR g S T x pl lo pt ty pa la ap ad ae) {f k y : Nat} (hk : k < T.1.2) (hf : f < 8) : FR g (zh_sI S (2 + f) (ae k) (nI y)) (zt_s T (5 + f) k y) x pl lo pt ty pa la ap ad ae := by
  have hF0 := hF
  obtain ⟨⟨f1, f2, f3, f4, f5⟩, ⟨f6, f7, f8, f9, f10⟩, f11, f12, f13, f14, f15, f16, f17, f18, f19⟩ := hF
  refine FR_mk hF0 (fun k a h => ⟨h, rfl, rfl, fun _ => rfl⟩) rfl (fun a _ => zI_j _ _ _ _ (by omega)) (fun t ht => ?_) (fun i hi => ?_) (fun i hi j hj => ?_) id
  · rw [zt_s_j _ _ _ _ (by omega)]; exact f10 t ht
  · obtain ⟨-, -, q3, q4, q5, q6⟩ := f15 i hi
    rw [zt_s_j _ _ _ _ (by omega), zt_s_j _ _ _ _ (by omega), zt_s_j _ _ _ _ (by omega), zt_s_j _ _ _ _ (by omega)]
    exact ⟨(zI_j _ _ _ _ (by omega)).trans q3, (zI_j _ _ _ _ (by omega)).trans q4, (zI_j _ _ _ _ (by omega)).trans q5, (zI_j _ _ _ _ (by omega)).trans q6⟩
  · by_cases e : i = k
    · subst e
      by_cases e2 : j = f
      · subst e2; rw [zt_s_s, zI_s]
      · rw [zt_s_j _ _ _ _ (by omega)]; exact (zI_j _ _ _ _ (by omega)).trans (f16 i hi j hj)
    · rw [zt_s_k _ _ _ _ e]; exact (zI_a _ _ _ _ (fun h => e (f19 _ _ hi hk h))).trans (f16 i hi j hj)
/-- a table's part is written -/
theorem FR_part {g : zG} {S : zS} {T : zT} {x pl lo pt ty pa la : Nat} {ap ad ae : Nat → Nat} (hF : FR g S T x pl lo pt ty pa la ap ad ae) {k y : Nat} (hk : k < 4) : FR g (zh_sA S pt (upd (zh_A S pt) k (nI y))) (zt_s T 4 k y) x pl lo pt ty pa la ap ad ae := by
  have hF0 := hF
  obtain ⟨⟨f1, f2, f3, f4, f5⟩, ⟨f6, f7, f8, f9, f10⟩, f11, f12, f13, f14, f15, f16, f17, f18, f19⟩ := hF
  refine FR_mk hF0 (fun k a h => ⟨h, rfl, rfl, fun _ => rfl⟩) rfl (fun a _ => rfl) (fun t ht => ?_) (fun i hi => ?_) (fun i hi j hj => ?_) id
  · show va_up (zh_A S) pt _ pt t = _
    rw [va_up_self]
    by_cases e : t = k
    · subst e; rw [zt_s_s, pk_us]
    · rw [zt_s_k _ _ _ _ e, pk_un e]; exact f10 t ht
  · obtain ⟨-, -, q3, q4, q5, q6⟩ := f15 i hi
    rw [zt_s_j _ _ _ _ (by omega), zt_s_j _ _ _ _ (by omega), zt_s_j _ _ _ _ (by omega), zt_s_j _ _ _ _ (by omega)]
    exact ⟨q3, q4, q5, q6⟩
  · rw [zt_s_j _ _ _ _ (by omega)]; exact f16 i hi j hj
/-- the tally is written -/
theorem FR_tally {g : zG} {S : zS} {T : zT} {x pl lo pt ty pa la : Nat} {ap ad ae : Nat → Nat} (hF : FR g S T x pl lo pt ty pa la ap ad ae) (f : Nat → Int32) : FR g (zh_sA S ty f) T x pl lo pt ty pa la ap ad ae := by
  have hF0 := hF
  obtain ⟨⟨f1, f2, f3, f4, f5⟩, ⟨f6, f7, f8, f9, f10⟩, f11, f12, f13, f14, f15, f16, f17, f18, f19⟩ := hF
  refine FR_mk hF0 (fun k a h => ⟨h, rfl, rfl, fun _ => rfl⟩) rfl (fun a _ => rfl) (fun t ht => ?_) (fun i hi => (f15 i hi).2.2) f16 id
  show va_up (zh_A S) ty _ pt t = _
  rw [va_up_ne _ _ (fun e : pt = ty => by rw [e, f9] at f7; omega)]; exact f10 t ht

set_option maxRecDepth 100000 in
set_option maxHeartbeats 4000000 in
theorem k_X3_value (l : Launch) (g : zG) (hst : l.stackTraces = false) (S : zS) (T : zT) (x pl lo pt ty pa la : Nat) (ap ad ae : Nat → Nat) (hT : zt_ok T) (hF : FR g S T x pl lo pt ty pa la ap ad ae) (i : Int32) : zX l yX3_value cX3_value 2 (some .int) (zrm 7 1 6) g [.ref x, .int i] S (fun w S' => zc_entry T i = 0 ∧ w = some (.int (nI (T.2 9 (zx i)))) ∧ S' = S) (fun E S' => zc_entry T i = 1 ∧ E = zn_IO ∧ S' = S) := by
  refine zX_of (nm := "value") (by decide) rfl (Nat.le_of_ble_eq_true rfl) ?_
  intro p e s m args below meth c A ls C hr hlk hxt I hl
  have C : CallFix p m c cX3_value 2 s args zc_W RX3 := C
  have hx := C.1
  have hb := C.2.1
  have hl : lv_has ls 2 [(0, .ref x), (1, .int i)] := hl
  have hF0 := hF
  obtain ⟨⟨f1, f2, f3, f4, f5⟩, ⟨f6, f7, f8, f9, f10⟩, f11, f12, f13, f14, f15, f16, f17, f18, f19⟩ := hF
  obtain ⟨t1, t2, t3, t4, t5, t6, t7⟩ := hT
  refine lv_aload_n hx hb dX3_value_0 rfl (lv_at hl 0 rfl) ?_
  refine lv_iload_n hx hb dX3_value_1 rfl (lv_at hl 1 rfl) ?_
  refine zc_VX (n := 1) (rest := []) C I f1 rfl rfl (k_X3_entryAt l g hst S x lo T.1.2 la ae i f1 f3 f12 t2) zm_353 zm_354 zm_9 zm_16 zm_355 rfl hl.1 dX3_value_2 (by decide +kernel) rfl ⟨Nat.le_of_ble_eq_true rfl, Nat.le_of_ble_eq_true rfl⟩ (Nat.le_of_ble_eq_true rfl) ⟨Nat.le_of_ble_eq_true rfl, Nat.le_of_ble_eq_true rfl⟩ (fun E ce q9 S' H locs hq I h1 h2 h3 => ?_) (fun v S' H locs hq I => ?_)
  · obtain ⟨hE, hz, eS⟩ := hq
    rw [eS] at I
    exact zr_out I hxt hlk (⟨if_pos hz, hE, rfl⟩) h1 h2 h3 (Nat.le_of_ble_eq_true rfl) (Nat.le_of_ble_eq_true rfl)
  · obtain ⟨hz, rfl, eS⟩ := hq
    rw [eS] at I
    have hj : zx i < T.1.2 := (zi_cases i (n := T.1.2) (by omega)).elim (fun h => absurd h hz) (fun h => h.2.1)
    refine zn_Entry_value (v := nI (T.2 9 (zx i))) (host := "DiceForge") C I (f12.2.2.2.2 _ hj).2 (by decide +kernel) (f16 _ hj 4 (by decide)) dX3_value_5 ?_
    exact vx_ret (zr_iret C I hr hlk (⟨if_neg hz, rfl, rfl⟩) (Nat.le_of_ble_eq_true rfl) (Nat.le_of_ble_eq_true rfl) dX3_value_8)

set_option maxRecDepth 100000 in
set_option maxHeartbeats 4000000 in
theorem k_X3_rejected (l : Launch) (g : zG) (hst : l.stackTraces = false) (S : zS) (T : zT) (x pl lo pt ty pa la : Nat) (ap ad ae : Nat → Nat) (hT : zt_ok T) (hF : FR g S T x pl lo pt ty pa la ap ad ae) (i : Int32) : zX l yX3_rejected cX3_rejected 2 (some .int) (zrm 7 1 6) g [.ref x, .int i] S (fun w S' => zc_entry T i = 0 ∧ w = some (.int (nI (T.2 10 (zx i)))) ∧ S' = S) (fun E S' => zc_entry T i = 1 ∧ E = zn_IO ∧ S' = S) := by
  refine zX_of (nm := "rejected") (by decide) rfl (Nat.le_of_ble_eq_true rfl) ?_
  intro p e s m args below meth c A ls C hr hlk hxt I hl
  have C : CallFix p m c cX3_rejected 2 s args zc_W RX3 := C
  have hx := C.1
  have hb := C.2.1
  have hl : lv_has ls 2 [(0, .ref x), (1, .int i)] := hl
  have hF0 := hF
  obtain ⟨⟨f1, f2, f3, f4, f5⟩, ⟨f6, f7, f8, f9, f10⟩, f11, f12, f13, f14, f15, f16, f17, f18, f19⟩ := hF
  obtain ⟨t1, t2, t3, t4, t5, t6, t7⟩ := hT
  refine lv_aload_n hx hb dX3_rejected_0 rfl (lv_at hl 0 rfl) ?_
  refine lv_iload_n hx hb dX3_rejected_1 rfl (lv_at hl 1 rfl) ?_
  refine zc_VX (n := 1) (rest := []) C I f1 rfl rfl (k_X3_entryAt l g hst S x lo T.1.2 la ae i f1 f3 f12 t2) zm_353 zm_354 zm_9 zm_16 zm_355 rfl hl.1 dX3_rejected_2 (by decide +kernel) rfl ⟨Nat.le_of_ble_eq_true rfl, Nat.le_of_ble_eq_true rfl⟩ (Nat.le_of_ble_eq_true rfl) ⟨Nat.le_of_ble_eq_true rfl, Nat.le_of_ble_eq_true rfl⟩ (fun E ce q9 S' H locs hq I h1 h2 h3 => ?_) (fun v S' H locs hq I => ?_)
  · obtain ⟨hE, hz, eS⟩ := hq
    rw [eS] at I
    exact zr_out I hxt hlk (⟨if_pos hz, hE, rfl⟩) h1 h2 h3 (Nat.le_of_ble_eq_true rfl) (Nat.le_of_ble_eq_true rfl)
  · obtain ⟨hz, rfl, eS⟩ := hq
    rw [eS] at I
    have hj : zx i < T.1.2 := (zi_cases i (n := T.1.2) (by omega)).elim (fun h => absurd h hz) (fun h => h.2.1)
    refine zn_Entry_rejected (v := nI (T.2 10 (zx i))) (host := "DiceForge") C I (f12.2.2.2.2 _ hj).2 (by decide +kernel) (f16 _ hj 5 (by decide)) dX3_rejected_5 ?_
    exact vx_ret (zr_iret C I hr hlk (⟨if_neg hz, rfl, rfl⟩) (Nat.le_of_ble_eq_true rfl) (Nat.le_of_ble_eq_true rfl) dX3_rejected_8)

set_option maxRecDepth 100000 in
set_option maxHeartbeats 4000000 in
theorem k_X3_sum (l : Launch) (g : zG) (hst : l.stackTraces = false) (S : zS) (T : zT) (x pl lo pt ty pa la : Nat) (ap ad ae : Nat → Nat) (hT : zt_ok T) (hF : FR g S T x pl lo pt ty pa la ap ad ae) (i : Int32) : zX l yX3_sum cX3_sum 2 (some .int) (zrm 7 1 6) g [.ref x, .int i] S (fun w S' => zc_entry T i = 0 ∧ w = some (.int (nI (T.2 11 (zx i)))) ∧ S' = S) (fun E S' => zc_entry T i = 1 ∧ E = zn_IO ∧ S' = S) := by
  refine zX_of (nm := "sum") (by decide) rfl (Nat.le_of_ble_eq_true rfl) ?_
  intro p e s m args below meth c A ls C hr hlk hxt I hl
  have C : CallFix p m c cX3_sum 2 s args zc_W RX3 := C
  have hx := C.1
  have hb := C.2.1
  have hl : lv_has ls 2 [(0, .ref x), (1, .int i)] := hl
  have hF0 := hF
  obtain ⟨⟨f1, f2, f3, f4, f5⟩, ⟨f6, f7, f8, f9, f10⟩, f11, f12, f13, f14, f15, f16, f17, f18, f19⟩ := hF
  obtain ⟨t1, t2, t3, t4, t5, t6, t7⟩ := hT
  refine lv_aload_n hx hb dX3_sum_0 rfl (lv_at hl 0 rfl) ?_
  refine lv_iload_n hx hb dX3_sum_1 rfl (lv_at hl 1 rfl) ?_
  refine zc_VX (n := 1) (rest := []) C I f1 rfl rfl (k_X3_entryAt l g hst S x lo T.1.2 la ae i f1 f3 f12 t2) zm_353 zm_354 zm_9 zm_16 zm_355 rfl hl.1 dX3_sum_2 (by decide +kernel) rfl ⟨Nat.le_of_ble_eq_true rfl, Nat.le_of_ble_eq_true rfl⟩ (Nat.le_of_ble_eq_true rfl) ⟨Nat.le_of_ble_eq_true rfl, Nat.le_of_ble_eq_true rfl⟩ (fun E ce q9 S' H locs hq I h1 h2 h3 => ?_) (fun v S' H locs hq I => ?_)
  · obtain ⟨hE, hz, eS⟩ := hq
    rw [eS] at I
    exact zr_out I hxt hlk (⟨if_pos hz, hE, rfl⟩) h1 h2 h3 (Nat.le_of_ble_eq_true rfl) (Nat.le_of_ble_eq_true rfl)
  · obtain ⟨hz, rfl, eS⟩ := hq
    rw [eS] at I
    have hj : zx i < T.1.2 := (zi_cases i (n := T.1.2) (by omega)).elim (fun h => absurd h hz) (fun h => h.2.1)
    refine zn_Entry_sum (v := nI (T.2 11 (zx i))) (host := "DiceForge") C I (f12.2.2.2.2 _ hj).2 (by decide +kernel) (f16 _ hj 6 (by decide)) dX3_sum_5 ?_
    exact vx_ret (zr_iret C I hr hlk (⟨if_neg hz, rfl, rfl⟩) (Nat.le_of_ble_eq_true rfl) (Nat.le_of_ble_eq_true rfl) dX3_sum_8)

set_option maxRecDepth 100000 in
set_option maxHeartbeats 4000000 in
theorem k_X3_isStruck (l : Launch) (g : zG) (hst : l.stackTraces = false) (S : zS) (T : zT) (x pl lo pt ty pa la : Nat) (ap ad ae : Nat → Nat) (hT : zt_ok T) (hF : FR g S T x pl lo pt ty pa la ap ad ae) (i : Int32) : zX l yX3_isStruck cX3_isStruck 2 (some .boolean) (zrm 7 1 6) g [.ref x, .int i] S (fun w S' => zc_entry T i = 0 ∧ w = some (.int (nI (T.2 12 (zx i)))) ∧ S' = S) (fun E S' => zc_entry T i = 1 ∧ E = zn_IO ∧ S' = S) := by
  refine zX_of (nm := "isStruck") (by decide) rfl (Nat.le_of_ble_eq_true rfl) ?_
  intro p e s m args below meth c A ls C hr hlk hxt I hl
  have C : CallFix p m c cX3_isStruck 2 s args zc_W RX3 := C
  have hx := C.1
  have hb := C.2.1
  have hl : lv_has ls 2 [(0, .ref x), (1, .int i)] := hl
  have hF0 := hF
  obtain ⟨⟨f1, f2, f3, f4, f5⟩, ⟨f6, f7, f8, f9, f10⟩, f11, f12, f13, f14, f15, f16, f17, f18, f19⟩ := hF
  obtain ⟨t1, t2, t3, t4, t5, t6, t7⟩ := hT
  refine lv_aload_n hx hb dX3_isStruck_0 rfl (lv_at hl 0 rfl) ?_
  refine lv_iload_n hx hb dX3_isStruck_1 rfl (lv_at hl 1 rfl) ?_
  refine zc_VX (n := 1) (rest := []) C I f1 rfl rfl (k_X3_entryAt l g hst S x lo T.1.2 la ae i f1 f3 f12 t2) zm_353 zm_354 zm_9 zm_16 zm_355 rfl hl.1 dX3_isStruck_2 (by decide +kernel) rfl ⟨Nat.le_of_ble_eq_true rfl, Nat.le_of_ble_eq_true rfl⟩ (Nat.le_of_ble_eq_true rfl) ⟨Nat.le_of_ble_eq_true rfl, Nat.le_of_ble_eq_true rfl⟩ (fun E ce q9 S' H locs hq I h1 h2 h3 => ?_) (fun v S' H locs hq I => ?_)
  · obtain ⟨hE, hz, eS⟩ := hq
    rw [eS] at I
    exact zr_out I hxt hlk (⟨if_pos hz, hE, rfl⟩) h1 h2 h3 (Nat.le_of_ble_eq_true rfl) (Nat.le_of_ble_eq_true rfl)
  · obtain ⟨hz, rfl, eS⟩ := hq
    rw [eS] at I
    have hj : zx i < T.1.2 := (zi_cases i (n := T.1.2) (by omega)).elim (fun h => absurd h hz) (fun h => h.2.1)
    refine zn_Entry_struck (v := nI (T.2 12 (zx i))) (host := "DiceForge") C I (f12.2.2.2.2 _ hj).2 (by decide +kernel) (f16 _ hj 7 (by decide)) dX3_isStruck_5 ?_
    have h01 := (t5 _ hj).2.2.2.2.2.2.2.2.2
    exact vx_ret (zr_zret C I hr (zf_b (by rcases (show T.2 12 (zx i) = 0 ∨ T.2 12 (zx i) = 1 by omega) with h | h <;> rw [h] <;> decide)).1 hlk (⟨if_neg hz, rfl, rfl⟩) (Nat.le_of_ble_eq_true rfl) (Nat.le_of_ble_eq_true rfl) dX3_isStruck_8)

set_option maxRecDepth 100000 in
set_option maxHeartbeats 4000000 in
theorem k_X3_isOpened (l : Launch) (g : zG) (hst : l.stackTraces = false) (S : zS) (T : zT) (x pl lo pt ty pa la : Nat) (ap ad ae : Nat → Nat) (hT : zt_ok T) (hF : FR g S T x pl lo pt ty pa la ap ad ae) (i : Int32) : zX l yX3_isOpened cX3_isOpened 2 (some .boolean) (zrm 7 1 6) g [.ref x, .int i] S (fun w S' => zc_prom T i = 0 ∧ w = some (.int (nI (T.2 2 (zx i)))) ∧ S' = S) (fun E S' => zc_prom T i = 1 ∧ E = zn_IO ∧ S' = S) := by
  refine zX_of (nm := "isOpened") (by decide) rfl (Nat.le_of_ble_eq_true rfl) ?_
  intro p e s m args below meth c A ls C hr hlk hxt I hl
  have C : CallFix p m c cX3_isOpened 2 s args zc_W RX3 := C
  have hx := C.1
  have hb := C.2.1
  have hl : lv_has ls 2 [(0, .ref x), (1, .int i)] := hl
  have hF0 := hF
  obtain ⟨⟨f1, f2, f3, f4, f5⟩, ⟨f6, f7, f8, f9, f10⟩, f11, f12, f13, f14, f15, f16, f17, f18, f19⟩ := hF
  obtain ⟨t1, t2, t3, t4, t5, t6, t7⟩ := hT
  refine lv_aload_n hx hb dX3_isOpened_0 rfl (lv_at hl 0 rfl) ?_
  refine lv_iload_n hx hb dX3_isOpened_1 rfl (lv_at hl 1 rfl) ?_
  refine zc_VX (n := 1) (rest := []) C I f1 rfl rfl (k_X3_promiseAt l g hst S x pl T.1.1 pa ap i f1 f2 f11 (by omega)) zm_280 zm_281 zm_4 zm_16 zm_282 rfl hl.1 dX3_isOpened_2 (by decide +kernel) rfl ⟨Nat.le_of_ble_eq_true rfl, Nat.le_of_ble_eq_true rfl⟩ (Nat.le_of_ble_eq_true rfl) ⟨Nat.le_of_ble_eq_true rfl, Nat.le_of_ble_eq_true rfl⟩ (fun E ce q9 S' H locs hq I h1 h2 h3 => ?_) (fun v S' H locs hq I => ?_)
  · obtain ⟨hE, hz, eS⟩ := hq
    rw [eS] at I
    exact zr_out I hxt hlk (⟨if_pos hz, hE, rfl⟩) h1 h2 h3 (Nat.le_of_ble_eq_true rfl) (Nat.le_of_ble_eq_true rfl)
  · obtain ⟨hz, rfl, eS⟩ := hq
    rw [eS] at I
    have hj : zx i < T.1.1 := (zi_cases i (n := T.1.1) (by omega)).elim (fun h => absurd h hz) (fun h => h.2.1)
    refine zn_Promise_opened (v := nI (T.2 2 (zx i))) (host := "DiceForge") C I (f11.2.2.2.2 _ hj).2 (by decide +kernel) ((f15 _ hj).2.2.2.2.1) dX3_isOpened_5 ?_
    have h01 := (t3 (zx i)).2.2.1
    exact vx_ret (zr_zret C I hr (zf_b (by rcases (show T.2 2 (zx i) = 0 ∨ T.2 2 (zx i) = 1 by omega) with h | h <;> rw [h] <;> decide)).1 hlk (⟨if_neg hz, rfl, rfl⟩) (Nat.le_of_ble_eq_true rfl) (Nat.le_of_ble_eq_true rfl) dX3_isOpened_8)

set_option maxRecDepth 100000 in
set_option maxHeartbeats 4000000 in
theorem k_X3_sign (l : Launch) (g : zG) (hst : l.stackTraces = false) (S : zS) (T : zT) (x pl lo pt ty pa la : Nat) (ap ad ae : Nat → Nat) (hT : zt_ok T) (hF : FR g S T x pl lo pt ty pa la ap ad ae) (i : Int32) : zX l yX3_sign cX3_sign 4 (some .int) (zrm 7 1 6) g [.ref x, .int i] S (fun w S' => zc_prom T i = 0 ∧ w = some (.int (nI (zd_sign (T.2 0 (zx i))))) ∧ S' = S) (fun E S' => zc_prom T i = 1 ∧ E = zn_IO ∧ S' = S) := by
  refine zX_of (nm := "sign") (by decide) rfl (Nat.le_of_ble_eq_true rfl) ?_
  intro p e s m args below meth c A ls C hr hlk hxt I hl
  have C : CallFix p m c cX3_sign 4 s args zc_W RX3 := C
  have hx := C.1
  have hb := C.2.1
  have hl : lv_has ls 4 [(0, .ref x), (1, .int i)] := hl
  have hF0 := hF
  obtain ⟨⟨f1, f2, f3, f4, f5⟩, ⟨f6, f7, f8, f9, f10⟩, f11, f12, f13, f14, f15, f16, f17, f18, f19⟩ := hF
  obtain ⟨t1, t2, t3, t4, t5, t6, t7⟩ := hT
  refine lv_aload_n hx hb dX3_sign_0 rfl (lv_at hl 0 rfl) ?_
  refine lv_iload_n hx hb dX3_sign_1 rfl (lv_at hl 1 rfl) ?_
  refine zc_VX (n := 1) (rest := []) C I f1 rfl rfl (k_X3_promiseAt l g hst S x pl T.1.1 pa ap i f1 f2 f11 (by omega)) zm_280 zm_281 zm_4 zm_16 zm_282 rfl hl.1 dX3_sign_2 (by decide +kernel) rfl ⟨Nat.le_of_ble_eq_true rfl, Nat.le_of_ble_eq_true rfl⟩ (Nat.le_of_ble_eq_true rfl) ⟨Nat.le_of_ble_eq_true rfl, Nat.le_of_ble_eq_true rfl⟩ (fun E ce q9 S' H locs hq I h1 h2 h3 => ?_) (fun v S' H locs hq I => ?_)
  · obtain ⟨hE, hz, eS⟩ := hq
    rw [eS] at I
    exact zr_out I hxt hlk (⟨if_pos hz, hE, rfl⟩) h1 h2 h3 (Nat.le_of_ble_eq_true rfl) (Nat.le_of_ble_eq_true rfl)
  · obtain ⟨hz, rfl, eS⟩ := hq
    rw [eS] at I
    have hj : zx i < T.1.1 := (zi_cases i (n := T.1.1) (by omega)).elim (fun h => absurd h hz) (fun h => h.2.1)
    have hs := (t3 (zx i)).1
    have hss : T.2 0 (zx i) * T.2 0 (zx i) ≤ 65535 * 65535 := Nat.mul_le_mul (by omega) (by omega)
    refine zn_Promise_seed (v := nI (T.2 0 (zx i))) (host := "DiceForge") C I (f11.2.2.2.2 _ hj).2 (by decide +kernel) ((f15 _ hj).2.2.1) dX3_sign_5 ?_
    refine lv_i2l hx hb dX3_sign_8 rfl ?_
    refine zr_topl (y := lN (T.2 0 (zx i))) (nI_l (n := T.2 0 (zx i)) (by omega)) ?_
    refine lv_lstore_n (lv' := [(2, .long (lN (T.2 0 (zx i)))), (0, .ref x), (1, .int i)]) hx hb dX3_sign_9 rfl hl (by decide) rfl (fun ls hl => ?_)
    refine lv_lload_n hx hb dX3_sign_10 rfl (lv_at hl 0 rfl) ?_
    refine lv_lload_n hx hb dX3_sign_11 rfl (lv_at hl 0 rfl) ?_
    refine lv_lmul hx hb dX3_sign_12 ?_
    refine zr_topl (y := lN ((T.2 0 (zx i)) * (T.2 0 (zx i)))) (lN_mul (T.2 0 (zx i)) (T.2 0 (zx i))) ?_
    refine lv_ldc2 (v := 31) hx hb C.2.2.2.1 (C.2.2.2.2 _ zm_423) dX3_sign_13 ?_
    refine lv_lload_n hx hb dX3_sign_16 rfl (lv_at hl 0 rfl) ?_
    refine lv_lmul hx hb dX3_sign_17 ?_
    refine zr_topl (y := lN (31 * (T.2 0 (zx i)))) (lN_mul 31 (T.2 0 (zx i))) ?_
    refine lv_ladd hx hb dX3_sign_18 ?_
    refine zr_topl (y := lN (((T.2 0 (zx i)) * (T.2 0 (zx i))) + (31 * (T.2 0 (zx i))))) (lN_add ((T.2 0 (zx i)) * (T.2 0 (zx i))) (31 * (T.2 0 (zx i)))) ?_
    refine lv_ldc2 (v := 7) hx hb C.2.2.2.1 (C.2.2.2.2 _ zm_424) dX3_sign_19 ?_
    refine lv_ladd hx hb dX3_sign_22 ?_
    refine zr_topl (y := lN ((((T.2 0 (zx i)) * (T.2 0 (zx i))) + (31 * (T.2 0 (zx i)))) + 7)) (lN_add (((T.2 0 (zx i)) * (T.2 0 (zx i))) + (31 * (T.2 0 (zx i)))) 7) ?_
    refine lv_ldc2 (v := 10007) hx hb C.2.2.2.1 (C.2.2.2.2 _ zm_425) dX3_sign_23 ?_
    refine lv_lrem hx hb dX3_sign_26 (by decide) ?_
    refine zr_topl (y := lN (((((T.2 0 (zx i)) * (T.2 0 (zx i))) + (31 * (T.2 0 (zx i)))) + 7) % 10007)) (pk_lRem (a := (((T.2 0 (zx i)) * (T.2 0 (zx i))) + (31 * (T.2 0 (zx i)))) + 7) (b := 10007) (by omega) (by omega) (by omega)) ?_
    refine lv_l2i hx hb dX3_sign_27 rfl ?_
    refine zr_top (y := nI (((((T.2 0 (zx i)) * (T.2 0 (zx i))) + (31 * (T.2 0 (zx i)))) + 7) % 10007)) (lN_i (((((T.2 0 (zx i)) * (T.2 0 (zx i))) + (31 * (T.2 0 (zx i)))) + 7) % 10007)) ?_
    exact vx_ret (zr_iret C I hr hlk (⟨if_neg hz, rfl, rfl⟩) (Nat.le_of_ble_eq_true rfl) (Nat.le_of_ble_eq_true rfl) dX3_sign_28)

set_option maxRecDepth 100000 in
set_option maxHeartbeats 4000000 in
theorem k_X3_entries (l : Launch) (g : zG) (hst : l.stackTraces = false) (S : zS) (T : zT) (x pl lo pt ty pa la : Nat) (ap ad ae : Nat → Nat) (hT : zt_ok T) (hF : FR g S T x pl lo pt ty pa la ap ad ae) : zM l yX3_entries cX3_entries 1 (some .int) (zrm 7 0 0) g [.ref x] S (fun w S' => w = some (.int (nI T.1.2)) ∧ S' = S) := by
  refine zM_of (nm := "entries") (by decide) rfl (Nat.le_of_ble_eq_true rfl) ?_
  intro p e s m args below meth c A ls C hr hlk hin I hl
  have C : CallFix p m c cX3_entries 1 s args zc_W RX3 := C
  have hx := C.1
  have hb := C.2.1
  have hl : lv_has ls 1 [(0, .ref x)] := hl
  have hF0 := hF
  obtain ⟨⟨f1, f2, f3, f4, f5⟩, ⟨f6, f7, f8, f9, f10⟩, f11, f12, f13, f14, f15, f16, f17, f18, f19⟩ := hF
  obtain ⟨t1, t2, t3, t4, t5, t6, t7⟩ := hT
  refine lv_aload_n hx hb dX3_entries_0 rfl (lv_at hl 0 rfl) ?_
  refine zg_Forge_log (v := lo) C I f1 zm_69 (f3) dX3_entries_1 ?_
  refine zc_V (n := 0) (rest := []) C I f12.1 rfl rfl (k_Jx4a65c_size_8abf5 l g S lo T.1.2 f12.1 f12.2.1) zm_144 zm_145 zm_146 zm_19 zm_147 rfl hl.1 dX3_entries_4 (by decide +kernel) rfl ⟨Nat.le_of_ble_eq_true rfl, Nat.le_of_ble_eq_true rfl⟩ (Nat.le_of_ble_eq_true rfl) ⟨Nat.le_of_ble_eq_true rfl, Nat.le_of_ble_eq_true rfl⟩ (fun v S' H locs hq I => ?_)
  obtain ⟨rfl, eS⟩ := hq
  rw [eS] at I
  exact zr_iret C I hr hlk (⟨rfl, rfl⟩) (Nat.le_of_ble_eq_true rfl) (Nat.le_of_ble_eq_true rfl) dX3_entries_7

set_option maxRecDepth 100000 in
set_option maxHeartbeats 4000000 in
theorem k_X3_open (l : Launch) (g : zG) (hst : l.stackTraces = false) (S : zS) (T : zT) (x pl lo pt ty pa la : Nat) (ap ad ae : Nat → Nat) (hT : zt_ok T) (hF : FR g S T x pl lo pt ty pa la ap ad ae) (i : Int32) : zX l yX3_open cX3_open 3 (some .int) (zrm 7 2 12) g [.ref x, .int i] S (fun w S' => zc_open T i = 0 ∧ w = some (.int (nI (T.2 0 (zx i)))) ∧ FR g S' (zs_open T i) x pl lo pt ty pa la ap ad ae ∧ zk_ S S') (fun E S' => ((zc_open T i = 1 ∧ E = zn_IO) ∨ (zc_open T i = 2 ∧ E = zn_IS)) ∧ S' = S) := by
  refine zX_of (nm := "open") (by decide) rfl (Nat.le_of_ble_eq_true rfl) ?_
  intro p e s m args below meth c A ls C hr hlk hxt I hl
  have C : CallFix p m c cX3_open 3 s args zc_W RX3 := C
  have hx := C.1
  have hb := C.2.1
  have hl : lv_has ls 3 [(0, .ref x), (1, .int i)] := hl
  have hF0 := hF
  obtain ⟨⟨f1, f2, f3, f4, f5⟩, ⟨f6, f7, f8, f9, f10⟩, f11, f12, f13, f14, f15, f16, f17, f18, f19⟩ := hF
  obtain ⟨t1, t2, t3, t4, t5, t6, t7⟩ := hT
  refine lv_aload_n hx hb dX3_open_0 rfl (lv_at hl 0 rfl) ?_
  refine lv_iload_n hx hb dX3_open_1 rfl (lv_at hl 1 rfl) ?_
  refine zc_VX (n := 1) (rest := []) C I f1 rfl rfl (k_X3_promiseAt l g hst S x pl T.1.1 pa ap i f1 f2 f11 (by omega)) zm_280 zm_281 zm_4 zm_16 zm_282 rfl hl.1 dX3_open_2 (by decide +kernel) rfl ⟨Nat.le_of_ble_eq_true rfl, Nat.le_of_ble_eq_true rfl⟩ (Nat.le_of_ble_eq_true rfl) ⟨Nat.le_of_ble_eq_true rfl, Nat.le_of_ble_eq_true rfl⟩ (fun E ce q9 S' H locs hq I h1 h2 h3 => ?_) (fun v S' H locs hq I => ?_)
  · obtain ⟨hE, hz, eS⟩ := hq
    rw [eS] at I
    exact zr_out I hxt hlk (⟨Or.inl ⟨if_pos hz, hE⟩, rfl⟩) h1 h2 h3 (Nat.le_of_ble_eq_true rfl) (Nat.le_of_ble_eq_true rfl)
  · obtain ⟨hz, rfl, eS⟩ := hq
    rw [eS] at I
    have hj : zx i < T.1.1 := (zi_cases i (n := T.1.1) (by omega)).elim (fun h => absurd h hz) (fun h => h.2.1)
    have h01 := (t3 (zx i)).2.2.1
    refine lv_astore_n (lv' := [(2, .ref (ap (zx i))), (0, .ref x), (1, .int i)]) hx hb dX3_open_5 rfl hl (by decide) rfl (fun ls hl => ?_)
    refine lv_aload_n hx hb dX3_open_6 rfl (lv_at hl 0 rfl) ?_
    refine zn_Promise_opened (v := nI (T.2 2 (zx i))) (host := "DiceForge") C I (f11.2.2.2.2 _ hj).2 (by decide +kernel) ((f15 _ hj).2.2.2.2.1) dX3_open_7 ?_
    refine lv_if_eq (tgt := 23) hx hb dX3_open_10 (by decide) (fun c10 => ?_) (fun c10 => ?_)
    · have c10 : (T.2 2 (zx i)) = 0 := (nI_eq (a := T.2 2 (zx i)) (b := 0) (by omega) (by omega)).mp c10
      refine lv_aload_n hx hb dX3_open_23 rfl (lv_at hl 0 rfl) ?_
      refine lv_iconst (v := 1) hx hb dX3_open_24 (by decide) ?_
      refine zq_Promise_opened (host := "DiceForge") C I (f11.2.2.2.2 _ hj).2 (by decide +kernel) (by decide) dX3_open_25 (fun H locs I => ?_)
      refine lv_aload_n hx hb dX3_open_28 rfl (lv_at hl 0 rfl) ?_
      refine zn_Promise_seed (v := nI (T.2 0 (zx i))) (host := "DiceForge") C I (f11.2.2.2.2 _ hj).2 (by decide +kernel) ((zI_j _ _ _ _ (by decide)).trans (f15 _ hj).2.2.1) dX3_open_29 ?_
      have hc : zc_open T i = 0 := by unfold zc_open; rw [if_neg hz, if_neg (fun h => h c10)]
      exact vx_ret (zr_iret C I hr hlk (⟨hc, rfl, by unfold zs_open; rw [if_pos hc]; exact FR_flag hF0 (y := 1) hj (Or.inl ⟨rfl, rfl⟩), zk_rf S⟩) (Nat.le_of_ble_eq_true rfl) (Nat.le_of_ble_eq_true rfl) dX3_open_32)
    · have c10 : ¬ (T.2 2 (zx i)) = 0 := fun h9 => c10 ((nI_eq (a := T.2 2 (zx i)) (b := 0) (by omega) (by omega)).mpr h9)
      exact zr_throw (cls := "java/lang/IllegalStateException") (text := "the promise is opened") (ik := 38) (is := 80) (ic := 42) C I hst hxt hlk rfl zt_fitIS zt_fitn zm_148 zm_24 (by decide +kernel) zt_aIS zt_bIS zt_cIS hl.1 dX3_open_13 dX3_open_16 dX3_open_17 dX3_open_19 dX3_open_22 (Nat.le_of_ble_eq_true rfl) (Nat.le_of_ble_eq_true rfl) (Nat.le_of_ble_eq_true rfl) (Nat.le_of_ble_eq_true rfl) (⟨Or.inr ⟨by unfold zc_open; rw [if_neg hz, if_pos c10], rfl⟩, rfl⟩) (Nat.le_of_ble_eq_true rfl) (Nat.le_of_ble_eq_true rfl)

set_option maxRecDepth 100000 in
set_option maxHeartbeats 4000000 in
theorem k_X3_setPart (l : Launch) (g : zG) (hst : l.stackTraces = false) (S : zS) (T : zT) (x pl lo pt ty pa la : Nat) (ap ad ae : Nat → Nat) (hT : zt_ok T) (hF : FR g S T x pl lo pt ty pa la ap ad ae) (i y : Int32) : zX l yX3_setPart cX3_setPart 4 (some .int) (zrm 7 2 12) g [.ref x, .int i, .int y] S (fun w S' => zc_part i y = 0 ∧ w = some (.int (nI (T.2 4 (zx i)))) ∧ FR g S' (zs_part T i y) x pl lo pt ty pa la ap ad ae ∧ zk_ S S') (fun E S' => ((zc_part i y = 1 ∧ E = zn_IO) ∨ (zc_part i y = 2 ∧ E = zn_IA)) ∧ S' = S) := by
  refine zX_of (nm := "setPart") (by decide) rfl (Nat.le_of_ble_eq_true rfl) ?_
  intro p e s m args below meth c A ls C hr hlk hxt I hl
  have C : CallFix p m c cX3_setPart 4 s args zc_W RX3 := C
  have hx := C.1
  have hb := C.2.1
  have hl : lv_has ls 4 [(0, .ref x), (1, .int i), (2, .int y)] := hl
  have hF0 := hF
  obtain ⟨⟨f1, f2, f3, f4, f5⟩, ⟨f6, f7, f8, f9, f10⟩, f11, f12, f13, f14, f15, f16, f17, f18, f19⟩ := hF
  obtain ⟨t1, t2, t3, t4, t5, t6, t7⟩ := hT
  refine lv_iload_n hx hb dX3_setPart_0 rfl (lv_at hl 1 rfl) ?_
  refine zc_SX (n := 1) (rest := []) C I (k_X3_requireTable l g hst S i) zm_245 zm_246 zm_16 zm_247 rfl hl.1 dX3_setPart_1 (by decide +kernel) rfl ⟨Nat.le_of_ble_eq_true rfl, Nat.le_of_ble_eq_true rfl⟩ (Nat.le_of_ble_eq_true rfl) ⟨Nat.le_of_ble_eq_true rfl, Nat.le_of_ble_eq_true rfl⟩ (fun E ce q9 S' H locs hq I h1 h2 h3 => ?_) (fun v S' H locs hq I => ?_)
  · obtain ⟨hE, hz, eS⟩ := hq
    rw [eS] at I
    exact zr_out I hxt hlk (⟨Or.inl ⟨if_pos hz, hE⟩, rfl⟩) h1 h2 h3 (Nat.le_of_ble_eq_true rfl) (Nat.le_of_ble_eq_true rfl)
  · obtain ⟨hz, rfl, eS⟩ := hq
    rw [eS] at I
    obtain ⟨hz9, hj, hi⟩ := (zi_cases i (n := 4) (by decide)).elim (fun h => absurd h hz) id
    have hv4 := t4 (zx i)
    refine lv_iload_n hx hb dX3_setPart_4 rfl (lv_at hl 2 rfl) ?_
    refine lv_if_lt (tgt := 15) hx hb dX3_setPart_5 (by decide) (fun c5 => ?_) (fun c5 => ?_)
    · exact zr_throw (cls := "java/lang/IllegalArgumentException") (text := "a part is 0 to 999") (ik := 27) (is := 85) (ic := 31) C I hst hxt hlk rfl zt_fitIA zt_fitn zm_87 zm_23 (by decide +kernel) zt_aIA zt_bIA zt_cIA hl.1 dX3_setPart_15 dX3_setPart_18 dX3_setPart_19 dX3_setPart_21 dX3_setPart_24 (Nat.le_of_ble_eq_true rfl) (Nat.le_of_ble_eq_true rfl) (Nat.le_of_ble_eq_true rfl) (Nat.le_of_ble_eq_true rfl) (⟨Or.inr ⟨by unfold zc_part; rw [if_neg hz, if_pos (Or.inl c5)], rfl⟩, rfl⟩) (Nat.le_of_ble_eq_true rfl) (Nat.le_of_ble_eq_true rfl)
    · refine lv_iload_n hx hb dX3_setPart_8 rfl (lv_at hl 2 rfl) ?_
      refine lv_sipush (v := 999) hx hb dX3_setPart_9 (by decide) ?_
      refine lv_icmp_le (tgt := 25) hx hb dX3_setPart_12 (by decide) (fun c12 => ?_) (fun c12 => ?_)
      · have hy : ¬ zi 1000 y := zi_le999 c5 c12
        obtain ⟨hy9, hyj, hyi⟩ := (zi_cases y (n := 1000) (by decide)).elim (fun h => absurd h hy) id
        refine lv_aload_n hx hb dX3_setPart_25 rfl (lv_at hl 0 rfl) ?_
        refine zg_Forge_parts (v := pt) C I f1 zm_70 (f4) dX3_setPart_26 ?_
        refine lv_iload_n hx hb dX3_setPart_29 rfl (lv_at hl 1 rfl) ?_
        refine zr_iald (v := nI (T.2 4 (zx i))) C I f6 (vp_in_iff.mpr (by rw [f7]; rw [hi, nI_toInt (by omega)]; omega)) (f10 _ hj) dX3_setPart_30 ?_
        refine lv_istore_n (lv' := [(3, .int (nI (T.2 4 (zx i)))), (0, .ref x), (1, .int i), (2, .int y)]) hx hb dX3_setPart_31 rfl hl (by decide) rfl (fun ls hl => ?_)
        refine lv_aload_n hx hb dX3_setPart_32 rfl (lv_at hl 1 rfl) ?_
        refine zg_Forge_parts (v := pt) C I f1 zm_70 (f4) dX3_setPart_33 ?_
        refine lv_iload_n hx hb dX3_setPart_36 rfl (lv_at hl 2 rfl) ?_
        refine lv_iload_n hx hb dX3_setPart_37 rfl (lv_at hl 3 rfl) ?_
        refine zr_iast C I f6 (vp_in_iff.mpr (by rw [f7]; rw [hi, nI_toInt (by omega)]; omega)) dX3_setPart_38 (fun H locs I => ?_)
        refine lv_iload_n hx hb dX3_setPart_39 rfl (lv_at hl 0 rfl) ?_
        have hc : zc_part i y = 0 := by unfold zc_part; rw [if_neg hz, if_neg hy]
        have hF1 := FR_part hF0 (k := zx i) (y := zx y) hj
        rw [← hyi] at hF1
        exact vx_ret (zr_iret C I hr hlk (⟨hc, rfl, by unfold zs_part; rw [if_pos hc]; exact hF1, zk_rf S⟩) (Nat.le_of_ble_eq_true rfl) (Nat.le_of_ble_eq_true rfl) dX3_setPart_40)
      · exact zr_throw (cls := "java/lang/IllegalArgumentException") (text := "a part is 0 to 999") (ik := 27) (is := 85) (ic := 31) C I hst hxt hlk rfl zt_fitIA zt_fitn zm_87 zm_23 (by decide +kernel) zt_aIA zt_bIA zt_cIA hl.1 dX3_setPart_15 dX3_setPart_18 dX3_setPart_19 dX3_setPart_21 dX3_setPart_24 (Nat.le_of_ble_eq_true rfl) (Nat.le_of_ble_eq_true rfl) (Nat.le_of_ble_eq_true rfl) (Nat.le_of_ble_eq_true rfl) (⟨Or.inr ⟨by unfold zc_part; rw [if_neg hz, if_pos (Or.inr (zi_gt999 c12))], rfl⟩, rfl⟩) (Nat.le_of_ble_eq_true rfl) (Nat.le_of_ble_eq_true rfl)

set_option maxRecDepth 100000 in
set_option maxHeartbeats 4000000 in
theorem k_X3_alter (l : Launch) (g : zG) (hst : l.stackTraces = false) (S : zS) (T : zT) (x pl lo pt ty pa la : Nat) (ap ad ae : Nat → Nat) (hT : zt_ok T) (hF : FR g S T x pl lo pt ty pa la ap ad ae) (i y : Int32) : zX l yX3_alter cX3_alter 5 (some .int) (zrm 7 3 18) g [.ref x, .int i, .int y] S (fun w S' => zc_alter T i y = 0 ∧ w = some (.int (nI (T.2 9 (zx i)))) ∧ FR g S' (zs_alter T i y) x pl lo pt ty pa la ap ad ae ∧ zk_ S S') (fun E S' => ((zc_alter T i y = 1 ∧ E = zn_IO) ∨ (zc_alter T i y = 2 ∧ E = zn_IA) ∨ (zc_alter T i y = 3 ∧ E = zn_IS)) ∧ S' = S) := by
  refine zX_of (nm := "alter") (by decide) rfl (Nat.le_of_ble_eq_true rfl) ?_
  intro p e s m args below meth c A ls C hr hlk hxt I hl
  have C : CallFix p m c cX3_alter 5 s args zc_W RX3 := C
  have hx := C.1
  have hb := C.2.1
  have hl : lv_has ls 5 [(0, .ref x), (1, .int i), (2, .int y)] := hl
  have hF0 := hF
  obtain ⟨⟨f1, f2, f3, f4, f5⟩, ⟨f6, f7, f8, f9, f10⟩, f11, f12, f13, f14, f15, f16, f17, f18, f19⟩ := hF
  obtain ⟨t1, t2, t3, t4, t5, t6, t7⟩ := hT
  refine lv_aload_n hx hb dX3_alter_0 rfl (lv_at hl 0 rfl) ?_
  refine lv_iload_n hx hb dX3_alter_1 rfl (lv_at hl 1 rfl) ?_
  refine zc_VX (n := 1) (rest := []) C I f1 rfl rfl (k_X3_entryAt l g hst S x lo T.1.2 la ae i f1 f3 f12 t2) zm_353 zm_354 zm_9 zm_16 zm_355 rfl hl.1 dX3_alter_2 (by decide +kernel) rfl ⟨Nat.le_of_ble_eq_true rfl, Nat.le_of_ble_eq_true rfl⟩ (Nat.le_of_ble_eq_true rfl) ⟨Nat.le_of_ble_eq_true rfl, Nat.le_of_ble_eq_true rfl⟩ (fun E ce q9 S' H locs hq I h1 h2 h3 => ?_) (fun v S' H locs hq I => ?_)
  · obtain ⟨hE, hz, eS⟩ := hq
    rw [eS] at I
    exact zr_out I hxt hlk (⟨Or.inl ⟨if_pos hz, hE⟩, rfl⟩) h1 h2 h3 (Nat.le_of_ble_eq_true rfl) (Nat.le_of_ble_eq_true rfl)
  · obtain ⟨hz, rfl, eS⟩ := hq
    rw [eS] at I
    have hj : zx i < T.1.2 := (zi_cases i (n := T.1.2) (by omega)).elim (fun h => absurd h hz) (fun h => h.2.1)
    have h5 := t5 _ hj
    refine lv_astore_n (lv' := [(3, .ref (ae (zx i))), (0, .ref x), (1, .int i), (2, .int y)]) hx hb dX3_alter_5 rfl hl (by decide) rfl (fun ls hl => ?_)
    refine lv_iload_n hx hb dX3_alter_6 rfl (lv_at hl 3 rfl) ?_
    refine lv_aload_n hx hb dX3_alter_7 rfl (lv_at hl 0 rfl) ?_
    refine zn_Entry_faces (v := nI (T.2 8 (zx i))) (host := "DiceForge") C I (f12.2.2.2.2 _ hj).2 (by decide +kernel) (f16 _ hj 3 (by decide)) dX3_alter_8 ?_
    refine zc_SX (n := 2) (rest := []) C I (k_X3_requireValue l g hst S y (nI (T.2 8 (zx i)))) zm_356 zm_357 zm_16 zm_358 rfl hl.1 dX3_alter_11 (by decide +kernel) rfl ⟨Nat.le_of_ble_eq_true rfl, Nat.le_of_ble_eq_true rfl⟩ (Nat.le_of_ble_eq_true rfl) ⟨Nat.le_of_ble_eq_true rfl, Nat.le_of_ble_eq_true rfl⟩ (fun E ce q9 S' H locs hq I h1 h2 h3 => ?_) (fun v S' H locs hq I => ?_)
    · obtain ⟨hE, hy, eS⟩ := hq
      rw [eS] at I
      exact zr_out I hxt hlk (⟨Or.inr (Or.inl ⟨by unfold zc_alter; rw [if_neg hz, if_pos hy], hE⟩), rfl⟩) h1 h2 h3 (Nat.le_of_ble_eq_true rfl) (Nat.le_of_ble_eq_true rfl)
    · obtain ⟨hy, rfl, eS⟩ := hq
      rw [eS] at I
      refine lv_aload_n hx hb dX3_alter_14 rfl (lv_at hl 0 rfl) ?_
      refine zn_Entry_struck (v := nI (T.2 12 (zx i))) (host := "DiceForge") C I (f12.2.2.2.2 _ hj).2 (by decide +kernel) (f16 _ hj 7 (by decide)) dX3_alter_15 ?_
      refine lv_if_eq (tgt := 31) hx hb dX3_alter_18 (by decide) (fun c18 => ?_) (fun c18 => ?_)
      · have c18 : (T.2 12 (zx i)) = 0 := (nI_eq (a := T.2 12 (zx i)) (b := 0) (by omega) (by omega)).mp c18
        refine lv_aload_n hx hb dX3_alter_31 rfl (lv_at hl 0 rfl) ?_
        refine zn_Entry_value (v := nI (T.2 9 (zx i))) (host := "DiceForge") C I (f12.2.2.2.2 _ hj).2 (by decide +kernel) (f16 _ hj 4 (by decide)) dX3_alter_32 ?_
        refine lv_istore (lv' := [(4, .int (nI (T.2 9 (zx i)))), (3, .ref (ae (zx i))), (0, .ref x), (1, .int i), (2, .int y)]) hx hb dX3_alter_35 hl (by decide) rfl (fun ls hl => ?_)
        refine lv_aload_n hx hb dX3_alter_37 rfl (lv_at hl 1 rfl) ?_
        refine lv_iload_n hx hb dX3_alter_38 rfl (lv_at hl 4 rfl) ?_
        refine zq_Entry_value (host := "DiceForge") C I (f12.2.2.2.2 _ hj).2 (by decide +kernel) dX3_alter_39 (fun H locs I => ?_)
        refine lv_iload hx hb dX3_alter_42 (lv_at hl 0 rfl) ?_
        have hc : zc_alter T i y = 0 := by unfold zc_alter; rw [if_neg hz, if_neg hy, if_neg (fun h => h c18)]
        obtain ⟨hy1, hy2, hyi⟩ := zi_val (by omega) hy
        have hF1 := FR_ent hF0 (f := 4) (k := zx i) (y := zx y) hj (by decide)
        rw [← hyi] at hF1
        exact vx_ret (zr_iret C I hr hlk (⟨hc, rfl, by unfold zs_alter; rw [if_pos hc]; exact hF1, zk_rf S⟩) (Nat.le_of_ble_eq_true rfl) (Nat.le_of_ble_eq_true rfl) dX3_alter_44)
      · have c18 : ¬ (T.2 12 (zx i)) = 0 := fun h9 => c18 ((nI_eq (a := T.2 12 (zx i)) (b := 0) (by omega) (by omega)).mpr h9)
        exact zr_throw (cls := "java/lang/IllegalStateException") (text := "the entry is struck") (ik := 38) (is := 139) (ic := 42) C I hst hxt hlk rfl zt_fitIS zt_fitn zm_148 zm_24 (by decide +kernel) zt_aIS zt_bIS zt_cIS hl.1 dX3_alter_21 dX3_alter_24 dX3_alter_25 dX3_alter_27 dX3_alter_30 (Nat.le_of_ble_eq_true rfl) (Nat.le_of_ble_eq_true rfl) (Nat.le_of_ble_eq_true rfl) (Nat.le_of_ble_eq_true rfl) (⟨Or.inr (Or.inr ⟨by unfold zc_alter; rw [if_neg hz, if_neg hy, if_pos c18], rfl⟩), rfl⟩) (Nat.le_of_ble_eq_true rfl) (Nat.le_of_ble_eq_true rfl)

