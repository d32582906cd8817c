/-! THE MODEL: its arrays hold the state's numbers -/
def zkd : Nat → Nat
  | 2 => 7
  | 3 => 7
  | 12 => 7
  | _ => 6
def zln : Nat → Nat
  | 0 => 16
  | 1 => 16
  | 2 => 16
  | 3 => 16
  | 4 => 4
  | _ => 100
def MR (S : zS) (T : zT) (mo : Nat) (ar : Nat → Nat) : Prop := zh_at S 4 mo ∧ zh_I S 21 mo = nI T.1.1 ∧ zh_I S 22 mo = nI T.1.2 ∧
  (∀ j : Nat, j < 13 → zh_R S (10 + j) mo = some (ar j) ∧ zh_at S (zkd j) (ar j) ∧ zh_N S (ar j) = zln j ∧ ∀ i : Nat, i < zln j → zh_A S (ar j) i = nI (T.2 j i)) ∧ (∀ i j : Nat, i < 13 → j < 13 → ar i = ar j → i = j)
theorem MR_I {S : zS} {T : zT} {mo : Nat} {ar : Nat → Nat} (h : MR S T mo ar) (j : Nat) {a : Nat} (v : Int32) (h1 : 21 ≠ j) (h2 : 22 ≠ j) : MR (zh_sI S j a v) T mo ar := ⟨h.1, (zI_j _ _ _ _ h1).trans h.2.1, (zI_j _ _ _ _ h2).trans h.2.2.1, h.2.2.2.1, h.2.2.2.2⟩
theorem MR_A {S : zS} {T : zT} {mo : Nat} {ar : Nat → Nat} (h : MR S T mo ar) {j k : Nat} (v : Nat) (hj : j < 13) (hk : k < zln j) : MR (zh_sA S (ar j) (upd (zh_A S (ar j)) k (nI v))) (zt_s T j k v) mo ar := by
  obtain ⟨m1, m2, m3, m4, m5⟩ := h
  refine ⟨m1, m2, m3, fun i hi => ⟨(m4 i hi).1, (m4 i hi).2.1, (m4 i hi).2.2.1, fun n hn => ?_⟩, m5⟩
  show va_up (zh_A S) (ar j) _ (ar i) n = _
  by_cases e : i = j
  · subst e
    rw [va_up_self]
    by_cases e2 : n = k
    · subst e2; rw [pk_us, zt_s_s]
    · rw [pk_un e2, zt_s_k _ _ _ _ e2]; exact (m4 i hi).2.2.2 n hn
  · rw [va_up_ne _ _ (fun h => e (m5 i j hi hj h)), zt_s_j _ _ _ _ e]; exact (m4 i hi).2.2.2 n hn
theorem MR_P {S : zS} {T : zT} {mo : Nat} {ar : Nat → Nat} (h : MR S T mo ar) (n : Nat) : MR (zh_sI S 21 mo (nI n)) ((n, T.1.2), T.2) mo ar := ⟨h.1, zI_s _ _ _ _, (zI_j _ _ _ _ (by decide)).trans h.2.2.1, h.2.2.2.1, h.2.2.2.2⟩
theorem MR_E {S : zS} {T : zT} {mo : Nat} {ar : Nat → Nat} (h : MR S T mo ar) (n : Nat) : MR (zh_sI S 22 mo (nI n)) ((T.1.1, n), T.2) mo ar := ⟨h.1, (zI_j _ _ _ _ (by decide)).trans h.2.1, zI_s _ _ _ _, h.2.2.2.1, h.2.2.2.2⟩
/-- what a call of the model leaves: its code, its state, its answer -/
def zmQ (S S' : zS) (T' : zT) (mo : Nat) (ar : Nat → Nat) (code : Nat) (val : Int32) (w : Option Value) : Prop := zh_I S' 20 mo = nI code ∧ MR S' T' mo ar ∧ zk_ S S' ∧ ∃ v : Int32, w = some (.int v) ∧ (code = 0 → v = val)
theorem zm_fail {S : zS} {T : zT} {mo : Nat} {ar : Nat → Nat} {code : Nat} {val : Int32} (hM : MR S T mo ar) (k : Nat) (hc : code = k) (h0 : k ≠ 0) : zmQ S (zh_sI (zh_sI S 20 mo 0) 20 mo (nI k)) T mo ar code val (some (.int 0)) :=
  ⟨(zI_s _ _ _ _).trans (by rw [hc]), MR_I (MR_I hM 20 _ (by decide) (by decide)) 20 _ (by decide) (by decide), zk_rf S, 0, rfl, fun h => absurd (hc.symm.trans h) h0⟩
theorem zi_in {n : Nat} (hn : n < 2 ^ 31) (x : Int32) : (x < 0 ∨ nI n - 1 < x) ↔ zi n x := by
  have h1 : (nI n - 1).toInt = (n : Int) - 1 := by
    have e : (1 : Int32).toInt = 1 := by decide
    rw [Int32.toInt_sub, nI_toInt hn, e, Int.bmod_def]; omega
  have h2 : (nI n - 1 < x) ↔ nI n ≤ x := by
    rw [Int32.lt_iff_toInt_lt, Int32.le_iff_toInt_le, h1, nI_toInt hn]; omega
  rw [h2]

set_option maxRecDepth 100000 in
set_option maxHeartbeats 4000000 in
theorem k_X4_in (l : Launch) (g : zG) (S : zS) (x lo hi : Int32) : zM l yX4_in cX4_in 3 (some .boolean) (zrm 0 0 0) g [.int x, .int lo, .int hi] S (fun w S' => w = some (.int (if x < lo ∨ hi < x then 0 else 1)) ∧ S' = S) := by
  refine zM_of (nm := "in") (by decide) rfl (Nat.le_of_ble_eq_true rfl) ?_
  intro p e s m args below meth c A ls C hr hlk hin I hl
  have C : CallFix p m c cX4_in 3 s args zc_W RX4 := C
  have hx := C.1
  have hb := C.2.1
  have hl : lv_has ls 3 [(0, .int x), (1, .int lo), (2, .int hi)] := hl
  refine lv_iload_n hx hb dX4_in_0 rfl (lv_at hl 0 rfl) ?_
  refine lv_iload_n hx hb dX4_in_1 rfl (lv_at hl 1 rfl) ?_
  refine lv_icmp_lt (tgt := 14) hx hb dX4_in_2 (by decide) (fun c2 => ?_) (fun c2 => ?_)
  · refine lv_iconst (v := 0) hx hb dX4_in_14 (by decide) ?_
    exact zr_zret C I hr (zf_b (by decide)).1 hlk (⟨by rw [if_pos (Or.inl c2)], rfl⟩) (Nat.le_of_ble_eq_true rfl) (Nat.le_of_ble_eq_true rfl) dX4_in_15
  · refine lv_iload_n hx hb dX4_in_5 rfl (lv_at hl 0 rfl) ?_
    refine lv_iload_n hx hb dX4_in_6 rfl (lv_at hl 2 rfl) ?_
    refine lv_icmp_gt (tgt := 14) hx hb dX4_in_7 (by decide) (fun c7 => ?_) (fun c7 => ?_)
    · refine lv_iconst (v := 0) hx hb dX4_in_14 (by decide) ?_
      exact zr_zret C I hr (zf_b (by decide)).1 hlk (⟨by rw [if_pos (Or.inr c7)], rfl⟩) (Nat.le_of_ble_eq_true rfl) (Nat.le_of_ble_eq_true rfl) dX4_in_15
    · refine lv_iconst (v := 1) hx hb dX4_in_10 (by decide) ?_
      refine lv_goto (tgt := 15) hx hb dX4_in_11 (by decide) ?_
      exact zr_zret C I hr (zf_b (by decide)).1 hlk (⟨by rw [if_neg (fun h => h.elim c2 c7)], rfl⟩) (Nat.le_of_ble_eq_true rfl) (Nat.le_of_ble_eq_true rfl) dX4_in_15

set_option maxRecDepth 100000 in
set_option maxHeartbeats 4000000 in
theorem k_X4_isPromise (l : Launch) (g : zG) (S : zS) (mo n : Nat) (i : Int32) (ha : zh_at S 4 mo) (hn1 : zh_I S 21 mo = nI n) (hn : n < 2 ^ 31) : zM l yX4_isPromise cX4_isPromise 2 (some .boolean) (zrm 1 0 0) g [.ref mo, .int i] S (fun w S' => w = some (.int (if zi n i then 0 else 1)) ∧ S' = S) := by
  refine zM_of (nm := "isPromise") (by decide) rfl (Nat.le_of_ble_eq_true rfl) ?_
  intro p e s m args below meth c A ls C hr hlk hin I hl
  have C : CallFix p m c cX4_isPromise 2 s args zc_W RX4 := C
  have hx := C.1
  have hb := C.2.1
  have hl : lv_has ls 2 [(0, .ref mo), (1, .int i)] := hl
  refine lv_iload_n hx hb dX4_isPromise_0 rfl (lv_at hl 1 rfl) ?_
  refine lv_iconst (v := 0) hx hb dX4_isPromise_1 (by decide) ?_
  refine lv_aload_n hx hb dX4_isPromise_2 rfl (lv_at hl 0 rfl) ?_
  refine zg_Model_promises (v := nI n) C I ha zm_508 (hn1) dX4_isPromise_3 ?_
  refine lv_iconst (v := 1) hx hb dX4_isPromise_6 (by decide) ?_
  refine lv_isub hx hb dX4_isPromise_7 ?_
  refine zc_S (n := 3) (rest := []) C I (k_X4_in l g S i 0 (nI n - 1)) zm_572 zm_573 zm_28 zm_574 rfl hl.1 dX4_isPromise_8 (by decide +kernel) rfl ⟨Nat.le_of_ble_eq_true rfl, Nat.le_of_ble_eq_true rfl⟩ (Nat.le_of_ble_eq_true rfl) ⟨Nat.le_of_ble_eq_true rfl, Nat.le_of_ble_eq_true rfl⟩ (fun v S' H locs hq I => ?_)
  obtain ⟨rfl, eS⟩ := hq
  rw [eS] at I
  refine zr_top (y := (if zi n i then 0 else 1)) (by simp only [zi_in hn i]) ?_
  exact zr_zret C I hr (zf_b (by split <;> decide)).1 hlk (⟨rfl, rfl⟩) (Nat.le_of_ble_eq_true rfl) (Nat.le_of_ble_eq_true rfl) dX4_isPromise_11

set_option maxRecDepth 100000 in
set_option maxHeartbeats 4000000 in
theorem k_X4_isEntry (l : Launch) (g : zG) (S : zS) (mo n : Nat) (i : Int32) (ha : zh_at S 4 mo) (hn1 : zh_I S 22 mo = nI n) (hn : n < 2 ^ 31) : zM l yX4_isEntry cX4_isEntry 2 (some .boolean) (zrm 1 0 0) g [.ref mo, .int i] S (fun w S' => w = some (.int (if zi n i then 0 else 1)) ∧ S' = S) := by
  refine zM_of (nm := "isEntry") (by decide) rfl (Nat.le_of_ble_eq_true rfl) ?_
  intro p e s m args below meth c A ls C hr hlk hin I hl
  have C : CallFix p m c cX4_isEntry 2 s args zc_W RX4 := C
  have hx := C.1
  have hb := C.2.1
  have hl : lv_has ls 2 [(0, .ref mo), (1, .int i)] := hl
  refine lv_iload_n hx hb dX4_isEntry_0 rfl (lv_at hl 1 rfl) ?_
  refine lv_iconst (v := 0) hx hb dX4_isEntry_1 (by decide) ?_
  refine lv_aload_n hx hb dX4_isEntry_2 rfl (lv_at hl 0 rfl) ?_
  refine zg_Model_entries (v := nI n) C I ha zm_514 (hn1) dX4_isEntry_3 ?_
  refine lv_iconst (v := 1) hx hb dX4_isEntry_6 (by decide) ?_
  refine lv_isub hx hb dX4_isEntry_7 ?_
  refine zc_S (n := 3) (rest := []) C I (k_X4_in l g S i 0 (nI n - 1)) zm_572 zm_573 zm_28 zm_574 rfl hl.1 dX4_isEntry_8 (by decide +kernel) rfl ⟨Nat.le_of_ble_eq_true rfl, Nat.le_of_ble_eq_true rfl⟩ (Nat.le_of_ble_eq_true rfl) ⟨Nat.le_of_ble_eq_true rfl, Nat.le_of_ble_eq_true rfl⟩ (fun v S' H locs hq I => ?_)
  obtain ⟨rfl, eS⟩ := hq
  rw [eS] at I
  refine zr_top (y := (if zi n i then 0 else 1)) (by simp only [zi_in hn i]) ?_
  exact zr_zret C I hr (zf_b (by split <;> decide)).1 hlk (⟨rfl, rfl⟩) (Nat.le_of_ble_eq_true rfl) (Nat.le_of_ble_eq_true rfl) dX4_isEntry_11

set_option maxRecDepth 100000 in
set_option maxHeartbeats 4000000 in
theorem k_X4_isTable (l : Launch) (g : zG) (S : zS) (i : Int32) : zM l yX4_isTable cX4_isTable 1 (some .boolean) (zrm 1 0 0) g [.int i] S (fun w S' => w = some (.int (if zi 4 i then 0 else 1)) ∧ S' = S) := by
  refine zM_of (nm := "isTable") (by decide) rfl (Nat.le_of_ble_eq_true rfl) ?_
  intro p e s m args below meth c A ls C hr hlk hin I hl
  have C : CallFix p m c cX4_isTable 1 s args zc_W RX4 := C
  have hx := C.1
  have hb := C.2.1
  have hl : lv_has ls 1 [(0, .int i)] := hl
  refine lv_iload_n hx hb dX4_isTable_0 rfl (lv_at hl 0 rfl) ?_
  refine lv_iconst (v := 0) hx hb dX4_isTable_1 (by decide) ?_
  refine lv_iconst (v := 3) hx hb dX4_isTable_2 (by decide) ?_
  refine zc_S (n := 3) (rest := []) C I (k_X4_in l g S i 0 3) zm_572 zm_573 zm_28 zm_574 rfl hl.1 dX4_isTable_3 (by decide +kernel) rfl ⟨Nat.le_of_ble_eq_true rfl, Nat.le_of_ble_eq_true rfl⟩ (Nat.le_of_ble_eq_true rfl) ⟨Nat.le_of_ble_eq_true rfl, Nat.le_of_ble_eq_true rfl⟩ (fun v S' H locs hq I => ?_)
  obtain ⟨rfl, eS⟩ := hq
  rw [eS] at I
  refine zr_top (y := (if zi 4 i then 0 else 1)) (by have h9 := zi_in (n := 4) (by decide) i; rw [show nI 4 - 1 = (3 : Int32) by decide] at h9; simp only [h9]) ?_
  exact zr_zret C I hr (zf_b (by split <;> decide)).1 hlk (⟨rfl, rfl⟩) (Nat.le_of_ble_eq_true rfl) (Nat.le_of_ble_eq_true rfl) dX4_isTable_6

set_option maxRecDepth 100000 in
set_option maxHeartbeats 4000000 in
theorem k_X4_isDie (l : Launch) (g : zG) (S : zS) (i : Int32) : zM l yX4_isDie cX4_isDie 1 (some .boolean) (zrm 1 0 0) g [.int i] S (fun w S' => w = some (.int (if i < 2 ∨ 1000 < i then 0 else 1)) ∧ S' = S) := by
  refine zM_of (nm := "isDie") (by decide) rfl (Nat.le_of_ble_eq_true rfl) ?_
  intro p e s m args below meth c A ls C hr hlk hin I hl
  have C : CallFix p m c cX4_isDie 1 s args zc_W RX4 := C
  have hx := C.1
  have hb := C.2.1
  have hl : lv_has ls 1 [(0, .int i)] := hl
  refine lv_iload_n hx hb dX4_isDie_0 rfl (lv_at hl 0 rfl) ?_
  refine lv_iconst (v := 2) hx hb dX4_isDie_1 (by decide) ?_
  refine lv_sipush (v := 1000) hx hb dX4_isDie_2 (by decide) ?_
  refine zc_S (n := 3) (rest := []) C I (k_X4_in l g S i 2 1000) zm_572 zm_573 zm_28 zm_574 rfl hl.1 dX4_isDie_5 (by decide +kernel) rfl ⟨Nat.le_of_ble_eq_true rfl, Nat.le_of_ble_eq_true rfl⟩ (Nat.le_of_ble_eq_true rfl) ⟨Nat.le_of_ble_eq_true rfl, Nat.le_of_ble_eq_true rfl⟩ (fun v S' H locs hq I => ?_)
  obtain ⟨rfl, eS⟩ := hq
  rw [eS] at I
  exact zr_zret C I hr (zf_b (by split <;> decide)).1 hlk (⟨rfl, rfl⟩) (Nat.le_of_ble_eq_true rfl) (Nat.le_of_ble_eq_true rfl) dX4_isDie_8

set_option maxRecDepth 100000 in
set_option maxHeartbeats 4000000 in
theorem k_X4_fails (l : Launch) (g : zG) (S : zS) (mo : Nat) (i : Int32) (ha : zh_at S 4 mo) : zM l yX4_fails cX4_fails 2 (some .int) (zrm 0 0 0) g [.ref mo, .int i] S (fun w S' => w = some (.int 0) ∧ S' = zh_sI S 20 mo i) := by
  refine zM_of (nm := "fails") (by decide) rfl (Nat.le_of_ble_eq_true rfl) ?_
  intro p e s m args below meth c A ls C hr hlk hin I hl
  have C : CallFix p m c cX4_fails 2 s args zc_W RX4 := C
  have hx := C.1
  have hb := C.2.1
  have hl : lv_has ls 2 [(0, .ref mo), (1, .int i)] := hl
  refine lv_aload_n hx hb dX4_fails_0 rfl (lv_at hl 0 rfl) ?_
  refine lv_iload_n hx hb dX4_fails_1 rfl (lv_at hl 1 rfl) ?_
  refine zp_Model_thrown C I ha zm_507 dX4_fails_2 (fun H locs I => ?_)
  refine lv_iconst (v := 0) hx hb dX4_fails_5 (by decide) ?_
  exact zr_iret C I hr hlk (⟨rfl, rfl⟩) (Nat.le_of_ble_eq_true rfl) (Nat.le_of_ble_eq_true rfl) dX4_fails_6

set_option maxRecDepth 100000 in
set_option maxHeartbeats 4000000 in
theorem k_X4_thrown (l : Launch) (g : zG) (S : zS) (mo : Nat) (ha : zh_at S 4 mo) : zM l yX4_thrown cX4_thrown 1 (some .int) (zrm 0 0 0) g [.ref mo] S (fun w S' => w = some (.int (zh_I S 20 mo)) ∧ S' = S) := by
  refine zM_of (nm := "thrown") (by decide) rfl (Nat.le_of_ble_eq_true rfl) ?_
  intro p e s m args below meth c A ls C hr hlk hin I hl
  have C : CallFix p m c cX4_thrown 1 s args zc_W RX4 := C
  have hx := C.1
  have hb := C.2.1
  have hl : lv_has ls 1 [(0, .ref mo)] := hl
  refine lv_aload_n hx hb dX4_thrown_0 rfl (lv_at hl 0 rfl) ?_
  refine zg_Model_thrown (v := zh_I S 20 mo) C I ha zm_507 (rfl) dX4_thrown_1 ?_
  exact zr_iret C I hr hlk (⟨rfl, rfl⟩) (Nat.le_of_ble_eq_true rfl) (Nat.le_of_ble_eq_true rfl) dX4_thrown_4

set_option maxRecDepth 100000 in
set_option maxHeartbeats 4000000 in
theorem k_X4_signOf (l : Launch) (g : zG) (S : zS) (n : Nat) (hn : n < 65536) : zM l yX4_signOf cX4_signOf 1 (some .int) (zrm 0 0 0) g [.int (nI n)] S (fun w S' => w = some (.int (nI (zd_sign n))) ∧ S' = S) := by
  refine zM_of (nm := "signOf") (by decide) rfl (Nat.le_of_ble_eq_true rfl) ?_
  intro p e s m args below meth c A ls C hr hlk hin I hl
  have C : CallFix p m c cX4_signOf 1 s args zc_W RX4 := C
  have hx := C.1
  have hb := C.2.1
  have hl : lv_has ls 1 [(0, .int (nI n))] := hl
  have hss : n * n ≤ 65535 * 65535 := Nat.mul_le_mul (by omega) (by omega)
  refine lv_iload_n hx hb dX4_signOf_0 rfl (lv_at hl 0 rfl) ?_
  refine lv_i2l hx hb dX4_signOf_1 rfl ?_
  refine zr_topl (y := lN n) (nI_l (n := n) (by omega)) ?_
  refine lv_iload_n hx hb dX4_signOf_2 rfl (lv_at hl 0 rfl) ?_
  refine lv_i2l hx hb dX4_signOf_3 rfl ?_
  refine zr_topl (y := lN n) (nI_l (n := n) (by omega)) ?_
  refine lv_lmul hx hb dX4_signOf_4 ?_
  refine zr_topl (y := lN (n * n)) (lN_mul n n) ?_
  refine lv_ldc2 (v := 31) hx hb C.2.2.2.1 (C.2.2.2.2 _ zm_588) dX4_signOf_5 ?_
  refine lv_iload_n hx hb dX4_signOf_8 rfl (lv_at hl 0 rfl) ?_
  refine lv_i2l hx hb dX4_signOf_9 rfl ?_
  refine zr_topl (y := lN n) (nI_l (n := n) (by omega)) ?_
  refine lv_lmul hx hb dX4_signOf_10 ?_
  refine zr_topl (y := lN (31 * n)) (lN_mul 31 n) ?_
  refine lv_ladd hx hb dX4_signOf_11 ?_
  refine zr_topl (y := lN ((n * n) + (31 * n))) (lN_add (n * n) (31 * n)) ?_
  refine lv_ldc2 (v := 7) hx hb C.2.2.2.1 (C.2.2.2.2 _ zm_589) dX4_signOf_12 ?_
  refine lv_ladd hx hb dX4_signOf_15 ?_
  refine zr_topl (y := lN (((n * n) + (31 * n)) + 7)) (lN_add ((n * n) + (31 * n)) 7) ?_
  refine lv_ldc2 (v := 10007) hx hb C.2.2.2.1 (C.2.2.2.2 _ zm_590) dX4_signOf_16 ?_
  refine lv_lrem hx hb dX4_signOf_19 (by decide) ?_
  refine zr_topl (y := lN ((((n * n) + (31 * n)) + 7) % 10007)) (pk_lRem (a := ((n * n) + (31 * n)) + 7) (b := 10007) (by omega) (by omega) (by omega)) ?_
  refine lv_l2i hx hb dX4_signOf_20 rfl ?_
  refine zr_top (y := nI ((((n * n) + (31 * n)) + 7) % 10007)) (lN_i ((((n * n) + (31 * n)) + 7) % 10007)) ?_
  exact zr_iret C I hr hlk (⟨rfl, rfl⟩) (Nat.le_of_ble_eq_true rfl) (Nat.le_of_ble_eq_true rfl) dX4_signOf_21

set_option maxRecDepth 100000 in
set_option maxHeartbeats 4000000 in
theorem k_X4_sign (l : Launch) (g : zG) (S : zS) (T : zT) (mo : Nat) (ar : Nat → Nat) (hT : zt_ok T) (hM : MR S T mo ar) (i : Int32) : zM l yX4_sign cX4_sign 2 (some .int) (zrm 3 0 0) g [.ref mo, .int i] S (fun w S' => zmQ S S' T mo ar (zc_prom T i) (nI (zd_sign (T.2 0 (zx i)))) w) := by
  refine zM_of (nm := "sign") (by decide) rfl (Nat.le_of_ble_eq_true rfl) ?_
  intro p e s m args below meth c A ls C hr hlk hin I hl
  have C : CallFix p m c cX4_sign 2 s args zc_W RX4 := C
  have hx := C.1
  have hb := C.2.1
  have hl : lv_has ls 2 [(0, .ref mo), (1, .int i)] := hl
  obtain ⟨m1, m2, m3, m4, m5⟩ := id hM
  obtain ⟨t1, t2, t3, t4, t5, t6, t7⟩ := id hT
  refine lv_aload_n hx hb dX4_sign_0 rfl (lv_at hl 0 rfl) ?_
  refine lv_iconst (v := 0) hx hb dX4_sign_1 (by decide) ?_
  refine zp_Model_thrown C I m1 zm_507 dX4_sign_2 (fun H locs I => ?_)
  have M1 : MR (zh_sI S 20 mo 0) T mo ar := MR_I hM 20 _ (by decide) (by decide)
  obtain ⟨m1, m2, m3, m4, m5⟩ := id M1
  rcases zi_cases i (n := T.1.1) (by omega) with hb0 | ⟨hb0, hj0, hi0⟩
  · refine lv_aload_n hx hb dX4_sign_5 rfl (lv_at hl 0 rfl) ?_
    refine lv_iload_n hx hb dX4_sign_6 rfl (lv_at hl 1 rfl) ?_
    refine zc_V (n := 1) (rest := []) C I m1 rfl rfl (k_X4_isPromise l g (zh_sI S 20 mo 0) mo T.1.1 i m1 m2 (by omega)) zm_582 zm_583 zm_16 zm_28 zm_584 rfl hl.1 dX4_sign_7 (by decide +kernel) rfl ⟨Nat.le_of_ble_eq_true rfl, Nat.le_of_ble_eq_true rfl⟩ (Nat.le_of_ble_eq_true rfl) ⟨Nat.le_of_ble_eq_true rfl, Nat.le_of_ble_eq_true rfl⟩ (fun v S' H locs hq I => ?_)
    obtain ⟨rfl, eS⟩ := hq
    rw [eS] at I
    refine zr_top (y := 0) (if_pos hb0) ?_
    refine lv_if_eq (tgt := 25) hx hb dX4_sign_10 (by decide) (fun _ => ?_) (fun h9 => absurd ((nI_eq (a := 0) (b := 0) (by omega) (by omega)).mpr (by omega)) h9)
    refine lv_aload_n hx hb dX4_sign_25 rfl (lv_at hl 0 rfl) ?_
    refine lv_iconst (v := 1) hx hb dX4_sign_26 (by decide) ?_
    refine zc_V (n := 1) (rest := []) C I m1 rfl rfl (k_X4_fails l g (zh_sI S 20 mo 0) mo 1 m1) zm_575 zm_576 zm_15 zm_28 zm_577 rfl hl.1 dX4_sign_27 (by decide +kernel) rfl ⟨Nat.le_of_ble_eq_true rfl, Nat.le_of_ble_eq_true rfl⟩ (Nat.le_of_ble_eq_true rfl) ⟨Nat.le_of_ble_eq_true rfl, Nat.le_of_ble_eq_true rfl⟩ (fun v S' H locs hq I => ?_)
    obtain ⟨rfl, eS⟩ := hq
    rw [eS] at I
    exact zr_iret C I hr hlk (zm_fail hM 1 (if_pos hb0) (by decide)) (Nat.le_of_ble_eq_true rfl) (Nat.le_of_ble_eq_true rfl) dX4_sign_30
  · obtain ⟨q, hb0n, rfl⟩ : ∃ q : Nat, q < T.1.1 ∧ i = nI q := ⟨_, hj0, hi0⟩
    clear hj0 hi0
    have hb0z : zx (nI q) = q := zx_nI (by omega)
    refine lv_aload_n hx hb dX4_sign_5 rfl (lv_at hl 0 rfl) ?_
    refine lv_iload_n hx hb dX4_sign_6 rfl (lv_at hl 1 rfl) ?_
    refine zc_V (n := 1) (rest := []) C I m1 rfl rfl (k_X4_isPromise l g (zh_sI S 20 mo 0) mo T.1.1 (nI q) m1 m2 (by omega)) zm_582 zm_583 zm_16 zm_28 zm_584 rfl hl.1 dX4_sign_7 (by decide +kernel) rfl ⟨Nat.le_of_ble_eq_true rfl, Nat.le_of_ble_eq_true rfl⟩ (Nat.le_of_ble_eq_true rfl) ⟨Nat.le_of_ble_eq_true rfl, Nat.le_of_ble_eq_true rfl⟩ (fun v S' H locs hq I => ?_)
    obtain ⟨rfl, eS⟩ := hq
    rw [eS] at I
    refine zr_top (y := 1) (if_neg hb0) ?_
    refine lv_if_eq (tgt := 25) hx hb dX4_sign_10 (by decide) (fun h9 => absurd h9 (fun h8 => absurd ((nI_eq (a := 1) (b := 0) (by omega) (by omega)).mp h8) (by omega))) (fun _ => ?_)
    refine lv_aload_n hx hb dX4_sign_13 rfl (lv_at hl 0 rfl) ?_
    refine zg_Model_seed (v := ar 0) C I m1 zm_509 ((m4 0 (by decide)).1) dX4_sign_14 ?_
    refine lv_iload_n hx hb dX4_sign_17 rfl (lv_at hl 1 rfl) ?_
    refine zr_iald (v := nI (T.2 0 q)) C I (m4 0 (by decide)).2.1 (by rw [show zh_N (zh_sI S 20 mo 0) (ar 0) = 16 from (m4 0 (by decide)).2.2.1]; exact vp_in_nI (by omega) (by omega)) (by rw [nI_clamp (by omega)]; exact (m4 0 (by decide)).2.2.2 q (show q < 16 by omega)) dX4_sign_18 ?_
    have hs := (t3 q).1
    refine zc_S (n := 1) (rest := []) C I (k_X4_signOf l g (zh_sI S 20 mo 0) (T.2 0 q) hs) zm_585 zm_586 zm_28 zm_587 rfl hl.1 dX4_sign_19 (by decide +kernel) rfl ⟨Nat.le_of_ble_eq_true rfl, Nat.le_of_ble_eq_true rfl⟩ (Nat.le_of_ble_eq_true rfl) ⟨Nat.le_of_ble_eq_true rfl, Nat.le_of_ble_eq_true rfl⟩ (fun v S' H locs hq I => ?_)
    obtain ⟨rfl, eS⟩ := hq
    rw [eS] at I
    refine lv_goto (tgt := 30) hx hb dX4_sign_22 (by decide) ?_
    have hc : zc_prom T (nI q) = 0 := if_neg hb0
    exact zr_iret C I hr hlk (⟨(zI_s _ _ _ _).trans (by rw [hc]; rfl), M1, zk_rf S, _, rfl, fun _ => by rw [hb0z]⟩) (Nat.le_of_ble_eq_true rfl) (Nat.le_of_ble_eq_true rfl) dX4_sign_30

set_option maxRecDepth 100000 in
set_option maxHeartbeats 4000000 in
theorem k_X4_value (l : Launch) (g : zG) (S : zS) (T : zT) (mo : Nat) (ar : Nat → Nat) (hT : zt_ok T) (hM : MR S T mo ar) (i : Int32) : zM l yX4_value cX4_value 2 (some .int) (zrm 3 0 0) g [.ref mo, .int i] S (fun w S' => zmQ S S' T mo ar (zc_entry T i) (nI (T.2 9 (zx i))) w) := by
  refine zM_of (nm := "value") (by decide) rfl (Nat.le_of_ble_eq_true rfl) ?_
  intro p e s m args below meth c A ls C hr hlk hin I hl
  have C : CallFix p m c cX4_value 2 s args zc_W RX4 := C
  have hx := C.1
  have hb := C.2.1
  have hl : lv_has ls 2 [(0, .ref mo), (1, .int i)] := hl
  obtain ⟨m1, m2, m3, m4, m5⟩ := id hM
  obtain ⟨t1, t2, t3, t4, t5, t6, t7⟩ := id hT
  refine lv_aload_n hx hb dX4_value_0 rfl (lv_at hl 0 rfl) ?_
  refine lv_iconst (v := 0) hx hb dX4_value_1 (by decide) ?_
  refine zp_Model_thrown C I m1 zm_507 dX4_value_2 (fun H locs I => ?_)
  have M1 : MR (zh_sI S 20 mo 0) T mo ar := MR_I hM 20 _ (by decide) (by decide)
  obtain ⟨m1, m2, m3, m4, m5⟩ := id M1
  rcases zi_cases i (n := T.1.2) (by omega) with hb0 | ⟨hb0, hj0, hi0⟩
  · refine lv_aload_n hx hb dX4_value_5 rfl (lv_at hl 0 rfl) ?_
    refine lv_iload_n hx hb dX4_value_6 rfl (lv_at hl 1 rfl) ?_
    refine zc_V (n := 1) (rest := []) C I m1 rfl rfl (k_X4_isEntry l g (zh_sI S 20 mo 0) mo T.1.2 i m1 m3 (by omega)) zm_633 zm_634 zm_19 zm_28 zm_635 rfl hl.1 dX4_value_7 (by decide +kernel) rfl ⟨Nat.le_of_ble_eq_true rfl, Nat.le_of_ble_eq_true rfl⟩ (Nat.le_of_ble_eq_true rfl) ⟨Nat.le_of_ble_eq_true rfl, Nat.le_of_ble_eq_true rfl⟩ (fun v S' H locs hq I => ?_)
    obtain ⟨rfl, eS⟩ := hq
    rw [eS] at I
    refine zr_top (y := 0) (if_pos hb0) ?_
    refine lv_if_eq (tgt := 22) hx hb dX4_value_10 (by decide) (fun _ => ?_) (fun h9 => absurd ((nI_eq (a := 0) (b := 0) (by omega) (by omega)).mpr (by omega)) h9)
    refine lv_aload_n hx hb dX4_value_22 rfl (lv_at hl 0 rfl) ?_
    refine lv_iconst (v := 1) hx hb dX4_value_23 (by decide) ?_
    refine zc_V (n := 1) (rest := []) C I m1 rfl rfl (k_X4_fails l g (zh_sI S 20 mo 0) mo 1 m1) zm_575 zm_576 zm_15 zm_28 zm_577 rfl hl.1 dX4_value_24 (by decide +kernel) rfl ⟨Nat.le_of_ble_eq_true rfl, Nat.le_of_ble_eq_true rfl⟩ (Nat.le_of_ble_eq_true rfl) ⟨Nat.le_of_ble_eq_true rfl, Nat.le_of_ble_eq_true rfl⟩ (fun v S' H locs hq I => ?_)
    obtain ⟨rfl, eS⟩ := hq
    rw [eS] at I
    exact zr_iret C I hr hlk (zm_fail hM 1 (if_pos hb0) (by decide)) (Nat.le_of_ble_eq_true rfl) (Nat.le_of_ble_eq_true rfl) dX4_value_27
  · obtain ⟨q, hb0n, rfl⟩ : ∃ q : Nat, q < T.1.2 ∧ i = nI q := ⟨_, hj0, hi0⟩
    clear hj0 hi0
    have hb0z : zx (nI q) = q := zx_nI (by omega)
    refine lv_aload_n hx hb dX4_value_5 rfl (lv_at hl 0 rfl) ?_
    refine lv_iload_n hx hb dX4_value_6 rfl (lv_at hl 1 rfl) ?_
    refine zc_V (n := 1) (rest := []) C I m1 rfl rfl (k_X4_isEntry l g (zh_sI S 20 mo 0) mo T.1.2 (nI q) m1 m3 (by omega)) zm_633 zm_634 zm_19 zm_28 zm_635 rfl hl.1 dX4_value_7 (by decide +kernel) rfl ⟨Nat.le_of_ble_eq_true rfl, Nat.le_of_ble_eq_true rfl⟩ (Nat.le_of_ble_eq_true rfl) ⟨Nat.le_of_ble_eq_true rfl, Nat.le_of_ble_eq_true rfl⟩ (fun v S' H locs hq I => ?_)
    obtain ⟨rfl, eS⟩ := hq
    rw [eS] at I
    refine zr_top (y := 1) (if_neg hb0) ?_
    refine lv_if_eq (tgt := 22) hx hb dX4_value_10 (by decide) (fun h9 => absurd h9 (fun h8 => absurd ((nI_eq (a := 1) (b := 0) (by omega) (by omega)).mp h8) (by omega))) (fun _ => ?_)
    refine lv_aload_n hx hb dX4_value_13 rfl (lv_at hl 0 rfl) ?_
    refine zg_Model_value (v := ar 9) C I m1 zm_519 ((m4 9 (by decide)).1) dX4_value_14 ?_
    refine lv_iload_n hx hb dX4_value_17 rfl (lv_at hl 1 rfl) ?_
    refine zr_iald (v := nI (T.2 9 q)) C I (m4 9 (by decide)).2.1 (by rw [show zh_N (zh_sI S 20 mo 0) (ar 9) = 100 from (m4 9 (by decide)).2.2.1]; exact vp_in_nI (by omega) (by omega)) (by rw [nI_clamp (by omega)]; exact (m4 9 (by decide)).2.2.2 q (show q < 100 by omega)) dX4_value_18 ?_
    refine lv_goto (tgt := 27) hx hb dX4_value_19 (by decide) ?_
    have hc : zc_entry T (nI q) = 0 := if_neg hb0
    exact zr_iret C I hr hlk (⟨(zI_s _ _ _ _).trans (by rw [hc]; rfl), M1, zk_rf S, _, rfl, fun _ => by rw [hb0z]⟩) (Nat.le_of_ble_eq_true rfl) (Nat.le_of_ble_eq_true rfl) dX4_value_27

set_option maxRecDepth 100000 in
set_option maxHeartbeats 4000000 in
theorem k_X4_rejected (l : Launch) (g : zG) (S : zS) (T : zT) (mo : Nat) (ar : Nat → Nat) (hT : zt_ok T) (hM : MR S T mo ar) (i : Int32) : zM l yX4_rejected cX4_rejected 2 (some .int) (zrm 3 0 0) g [.ref mo, .int i] S (fun w S' => zmQ S S' T mo ar (zc_entry T i) (nI (T.2 10 (zx i))) w) := by
  refine zM_of (nm := "rejected") (by decide) rfl (Nat.le_of_ble_eq_true rfl) ?_
  intro p e s m args below meth c A ls C hr hlk hin I hl
  have C : CallFix p m c cX4_rejected 2 s args zc_W RX4 := C
  have hx := C.1
  have hb := C.2.1
  have hl : lv_has ls 2 [(0, .ref mo), (1, .int i)] := hl
  obtain ⟨m1, m2, m3, m4, m5⟩ := id hM
  obtain ⟨t1, t2, t3, t4, t5, t6, t7⟩ := id hT
  refine lv_aload_n hx hb dX4_rejected_0 rfl (lv_at hl 0 rfl) ?_
  refine lv_iconst (v := 0) hx hb dX4_rejected_1 (by decide) ?_
  refine zp_Model_thrown C I m1 zm_507 dX4_rejected_2 (fun H locs I => ?_)
  have M1 : MR (zh_sI S 20 mo 0) T mo ar := MR_I hM 20 _ (by decide) (by decide)
  obtain ⟨m1, m2, m3, m4, m5⟩ := id M1
  rcases zi_cases i (n := T.1.2) (by omega) with hb0 | ⟨hb0, hj0, hi0⟩
  · refine lv_aload_n hx hb dX4_rejected_5 rfl (lv_at hl 0 rfl) ?_
    refine lv_iload_n hx hb dX4_rejected_6 rfl (lv_at hl 1 rfl) ?_
    refine zc_V (n := 1) (rest := []) C I m1 rfl rfl (k_X4_isEntry l g (zh_sI S 20 mo 0) mo T.1.2 i m1 m3 (by omega)) zm_633 zm_634 zm_19 zm_28 zm_635 rfl hl.1 dX4_rejected_7 (by decide +kernel) rfl ⟨Nat.le_of_ble_eq_true rfl, Nat.le_of_ble_eq_true rfl⟩ (Nat.le_of_ble_eq_true rfl) ⟨Nat.le_of_ble_eq_true rfl, Nat.le_of_ble_eq_true rfl⟩ (fun v S' H locs hq I => ?_)
    obtain ⟨rfl, eS⟩ := hq
    rw [eS] at I
    refine zr_top (y := 0) (if_pos hb0) ?_
    refine lv_if_eq (tgt := 22) hx hb dX4_rejected_10 (by decide) (fun _ => ?_) (fun h9 => absurd ((nI_eq (a := 0) (b := 0) (by omega) (by omega)).mpr (by omega)) h9)
    refine lv_aload_n hx hb dX4_rejected_22 rfl (lv_at hl 0 rfl) ?_
    refine lv_iconst (v := 1) hx hb dX4_rejected_23 (by decide) ?_
    refine zc_V (n := 1) (rest := []) C I m1 rfl rfl (k_X4_fails l g (zh_sI S 20 mo 0) mo 1 m1) zm_575 zm_576 zm_15 zm_28 zm_577 rfl hl.1 dX4_rejected_24 (by decide +kernel) rfl ⟨Nat.le_of_ble_eq_true rfl, Nat.le_of_ble_eq_true rfl⟩ (Nat.le_of_ble_eq_true rfl) ⟨Nat.le_of_ble_eq_true rfl, Nat.le_of_ble_eq_true rfl⟩ (fun v S' H locs hq I => ?_)
    obtain ⟨rfl, eS⟩ := hq
    rw [eS] at I
    exact zr_iret C I hr hlk (zm_fail hM 1 (if_pos hb0) (by decide)) (Nat.le_of_ble_eq_true rfl) (Nat.le_of_ble_eq_true rfl) dX4_rejected_27
  · obtain ⟨q, hb0n, rfl⟩ : ∃ q : Nat, q < T.1.2 ∧ i = nI q := ⟨_, hj0, hi0⟩
    clear hj0 hi0
    have hb0z : zx (nI q) = q := zx_nI (by omega)
    refine lv_aload_n hx hb dX4_rejected_5 rfl (lv_at hl 0 rfl) ?_
    refine lv_iload_n hx hb dX4_rejected_6 rfl (lv_at hl 1 rfl) ?_
    refine zc_V (n := 1) (rest := []) C I m1 rfl rfl (k_X4_isEntry l g (zh_sI S 20 mo 0) mo T.1.2 (nI q) m1 m3 (by omega)) zm_633 zm_634 zm_19 zm_28 zm_635 rfl hl.1 dX4_rejected_7 (by decide +kernel) rfl ⟨Nat.le_of_ble_eq_true rfl, Nat.le_of_ble_eq_true rfl⟩ (Nat.le_of_ble_eq_true rfl) ⟨Nat.le_of_ble_eq_true rfl, Nat.le_of_ble_eq_true rfl⟩ (fun v S' H locs hq I => ?_)
    obtain ⟨rfl, eS⟩ := hq
    rw [eS] at I
    refine zr_top (y := 1) (if_neg hb0) ?_
    refine lv_if_eq (tgt := 22) hx hb dX4_rejected_10 (by decide) (fun h9 => absurd h9 (fun h8 => absurd ((nI_eq (a := 1) (b := 0) (by omega) (by omega)).mp h8) (by omega))) (fun _ => ?_)
    refine lv_aload_n hx hb dX4_rejected_13 rfl (lv_at hl 0 rfl) ?_
    refine zg_Model_rejected (v := ar 10) C I m1 zm_520 ((m4 10 (by decide)).1) dX4_rejected_14 ?_
    refine lv_iload_n hx hb dX4_rejected_17 rfl (lv_at hl 1 rfl) ?_
    refine zr_iald (v := nI (T.2 10 q)) C I (m4 10 (by decide)).2.1 (by rw [show zh_N (zh_sI S 20 mo 0) (ar 10) = 100 from (m4 10 (by decide)).2.2.1]; exact vp_in_nI (by omega) (by omega)) (by rw [nI_clamp (by omega)]; exact (m4 10 (by decide)).2.2.2 q (show q < 100 by omega)) dX4_rejected_18 ?_
    refine lv_goto (tgt := 27) hx hb dX4_rejected_19 (by decide) ?_
    have hc : zc_entry T (nI q) = 0 := if_neg hb0
    exact zr_iret C I hr hlk (⟨(zI_s _ _ _ _).trans (by rw [hc]; rfl), M1, zk_rf S, _, rfl, fun _ => by rw [hb0z]⟩) (Nat.le_of_ble_eq_true rfl) (Nat.le_of_ble_eq_true rfl) dX4_rejected_27

set_option maxRecDepth 100000 in
set_option maxHeartbeats 4000000 in
theorem k_X4_sum (l : Launch) (g : zG) (S : zS) (T : zT) (mo : Nat) (ar : Nat → Nat) (hT : zt_ok T) (hM : MR S T mo ar) (i : Int32) : zM l yX4_sum cX4_sum 2 (some .int) (zrm 3 0 0) g [.ref mo, .int i] S (fun w S' => zmQ S S' T mo ar (zc_entry T i) (nI (T.2 11 (zx i))) w) := by
  refine zM_of (nm := "sum") (by decide) rfl (Nat.le_of_ble_eq_true rfl) ?_
  intro p e s m args below meth c A ls C hr hlk hin I hl
  have C : CallFix p m c cX4_sum 2 s args zc_W RX4 := C
  have hx := C.1
  have hb := C.2.1
  have hl : lv_has ls 2 [(0, .ref mo), (1, .int i)] := hl
  obtain ⟨m1, m2, m3, m4, m5⟩ := id hM
  obtain ⟨t1, t2, t3, t4, t5, t6, t7⟩ := id hT
  refine lv_aload_n hx hb dX4_sum_0 rfl (lv_at hl 0 rfl) ?_
  refine lv_iconst (v := 0) hx hb dX4_sum_1 (by decide) ?_
  refine zp_Model_thrown C I m1 zm_507 dX4_sum_2 (fun H locs I => ?_)
  have M1 : MR (zh_sI S 20 mo 0) T mo ar := MR_I hM 20 _ (by decide) (by decide)
  obtain ⟨m1, m2, m3, m4, m5⟩ := id M1
  rcases zi_cases i (n := T.1.2) (by omega) with hb0 | ⟨hb0, hj0, hi0⟩
  · refine lv_aload_n hx hb dX4_sum_5 rfl (lv_at hl 0 rfl) ?_
    refine lv_iload_n hx hb dX4_sum_6 rfl (lv_at hl 1 rfl) ?_
    refine zc_V (n := 1) (rest := []) C I m1 rfl rfl (k_X4_isEntry l g (zh_sI S 20 mo 0) mo T.1.2 i m1 m3 (by omega)) zm_633 zm_634 zm_19 zm_28 zm_635 rfl hl.1 dX4_sum_7 (by decide +kernel) rfl ⟨Nat.le_of_ble_eq_true rfl, Nat.le_of_ble_eq_true rfl⟩ (Nat.le_of_ble_eq_true rfl) ⟨Nat.le_of_ble_eq_true rfl, Nat.le_of_ble_eq_true rfl⟩ (fun v S' H locs hq I => ?_)
    obtain ⟨rfl, eS⟩ := hq
    rw [eS] at I
    refine zr_top (y := 0) (if_pos hb0) ?_
    refine lv_if_eq (tgt := 22) hx hb dX4_sum_10 (by decide) (fun _ => ?_) (fun h9 => absurd ((nI_eq (a := 0) (b := 0) (by omega) (by omega)).mpr (by omega)) h9)
    refine lv_aload_n hx hb dX4_sum_22 rfl (lv_at hl 0 rfl) ?_
    refine lv_iconst (v := 1) hx hb dX4_sum_23 (by decide) ?_
    refine zc_V (n := 1) (rest := []) C I m1 rfl rfl (k_X4_fails l g (zh_sI S 20 mo 0) mo 1 m1) zm_575 zm_576 zm_15 zm_28 zm_577 rfl hl.1 dX4_sum_24 (by decide +kernel) rfl ⟨Nat.le_of_ble_eq_true rfl, Nat.le_of_ble_eq_true rfl⟩ (Nat.le_of_ble_eq_true rfl) ⟨Nat.le_of_ble_eq_true rfl, Nat.le_of_ble_eq_true rfl⟩ (fun v S' H locs hq I => ?_)
    obtain ⟨rfl, eS⟩ := hq
    rw [eS] at I
    exact zr_iret C I hr hlk (zm_fail hM 1 (if_pos hb0) (by decide)) (Nat.le_of_ble_eq_true rfl) (Nat.le_of_ble_eq_true rfl) dX4_sum_27
  · obtain ⟨q, hb0n, rfl⟩ : ∃ q : Nat, q < T.1.2 ∧ i = nI q := ⟨_, hj0, hi0⟩
    clear hj0 hi0
    have hb0z : zx (nI q) = q := zx_nI (by omega)
    refine lv_aload_n hx hb dX4_sum_5 rfl (lv_at hl 0 rfl) ?_
    refine lv_iload_n hx hb dX4_sum_6 rfl (lv_at hl 1 rfl) ?_
    refine zc_V (n := 1) (rest := []) C I m1 rfl rfl (k_X4_isEntry l g (zh_sI S 20 mo 0) mo T.1.2 (nI q) m1 m3 (by omega)) zm_633 zm_634 zm_19 zm_28 zm_635 rfl hl.1 dX4_sum_7 (by decide +kernel) rfl ⟨Nat.le_of_ble_eq_true rfl, Nat.le_of_ble_eq_true rfl⟩ (Nat.le_of_ble_eq_true rfl) ⟨Nat.le_of_ble_eq_true rfl, Nat.le_of_ble_eq_true rfl⟩ (fun v S' H locs hq I => ?_)
    obtain ⟨rfl, eS⟩ := hq
    rw [eS] at I
    refine zr_top (y := 1) (if_neg hb0) ?_
    refine lv_if_eq (tgt := 22) hx hb dX4_sum_10 (by decide) (fun h9 => absurd h9 (fun h8 => absurd ((nI_eq (a := 1) (b := 0) (by omega) (by omega)).mp h8) (by omega))) (fun _ => ?_)
    refine lv_aload_n hx hb dX4_sum_13 rfl (lv_at hl 0 rfl) ?_
    refine zg_Model_sum (v := ar 11) C I m1 zm_521 ((m4 11 (by decide)).1) dX4_sum_14 ?_
    refine lv_iload_n hx hb dX4_sum_17 rfl (lv_at hl 1 rfl) ?_
    refine zr_iald (v := nI (T.2 11 q)) C I (m4 11 (by decide)).2.1 (by rw [show zh_N (zh_sI S 20 mo 0) (ar 11) = 100 from (m4 11 (by decide)).2.2.1]; exact vp_in_nI (by omega) (by omega)) (by rw [nI_clamp (by omega)]; exact (m4 11 (by decide)).2.2.2 q (show q < 100 by omega)) dX4_sum_18 ?_
    refine lv_goto (tgt := 27) hx hb dX4_sum_19 (by decide) ?_
    have hc : zc_entry T (nI q) = 0 := if_neg hb0
    exact zr_iret C I hr hlk (⟨(zI_s _ _ _ _).trans (by rw [hc]; rfl), M1, zk_rf S, _, rfl, fun _ => by rw [hb0z]⟩) (Nat.le_of_ble_eq_true rfl) (Nat.le_of_ble_eq_true rfl) dX4_sum_27

set_option maxRecDepth 100000 in
set_option maxHeartbeats 4000000 in
theorem k_X4_entries (l : Launch) (g : zG) (S : zS) (T : zT) (mo : Nat) (ar : Nat → Nat) (hT : zt_ok T) (hM : MR S T mo ar) : zM l yX4_entries cX4_entries 1 (some .int) (zrm 3 0 0) g [.ref mo] S (fun w S' => zmQ S S' T mo ar 0 (nI T.1.2) w) := by
  refine zM_of (nm := "entries") (by decide) rfl (Nat.le_of_ble_eq_true rfl) ?_
  intro p e s m args below meth c A ls C hr hlk hin I hl
  have C : CallFix p m c cX4_entries 1 s args zc_W RX4 := C
  have hx := C.1
  have hb := C.2.1
  have hl : lv_has ls 1 [(0, .ref mo)] := hl
  obtain ⟨m1, m2, m3, m4, m5⟩ := id hM
  obtain ⟨t1, t2, t3, t4, t5, t6, t7⟩ := id hT
  refine lv_aload_n hx hb dX4_entries_0 rfl (lv_at hl 0 rfl) ?_
  refine lv_iconst (v := 0) hx hb dX4_entries_1 (by decide) ?_
  refine zp_Model_thrown C I m1 zm_507 dX4_entries_2 (fun H locs I => ?_)
  have M1 : MR (zh_sI S 20 mo 0) T mo ar := MR_I hM 20 _ (by decide) (by decide)
  obtain ⟨m1, m2, m3, m4, m5⟩ := id M1
  refine lv_aload_n hx hb dX4_entries_5 rfl (lv_at hl 0 rfl) ?_
  refine zg_Model_entries (v := nI T.1.2) C I m1 zm_514 (m3) dX4_entries_6 ?_
  exact zr_iret C I hr hlk (⟨zI_s _ _ _ _, M1, zk_rf S, _, rfl, fun _ => rfl⟩) (Nat.le_of_ble_eq_true rfl) (Nat.le_of_ble_eq_true rfl) dX4_entries_9

