/-! what the class's own private methods answer -/
theorem zi_nge {x y : Int32} (h : y ≤ x) : ¬ x < y := fun h2 => by
  have h3 := Int32.lt_iff_toInt_lt.mp h2
  have h4 := Int32.le_iff_toInt_le.mp h
  omega
theorem zi_le {x y : Int32} (h : ¬ x < y) : y ≤ x := Int32.le_iff_toInt_le.mpr (by
  have h3 : ¬ x.toInt < y.toInt := fun h4 => h (Int32.lt_iff_toInt_lt.mpr h4)
  omega)
theorem zi_nlt {x y : Int32} (h : x < y) : ¬ y ≤ x := fun h2 => zi_nge h2 h
theorem zi_lt {x y : Int32} (h : ¬ y ≤ x) : x < y := Int32.lt_iff_toInt_lt.mpr (by
  have h3 : ¬ y.toInt ≤ x.toInt := fun h4 => h (Int32.le_iff_toInt_le.mpr h4)
  omega)
theorem zi_ge0 {x : Int32} {n : Nat} (h : nI n ≤ x) (hn : n < 2 ^ 31) : ¬ x < 0 := fun h2 => by
  have h3 := Int32.lt_iff_toInt_lt.mp h2
  have h4 := Int32.le_iff_toInt_le.mp h
  rw [nI_toInt hn] at h4
  have h5 : (0 : Int32).toInt = 0 := by decide
  omega
theorem zi_ne {a b : Nat} (h : a ≠ b) (ha : a < 2 ^ 31) (hb : b < 2 ^ 31) : ¬ nI a = nI b := fun h9 => h ((nI_eq ha hb).mp h9)

theorem zt_fitIA : Bundle.fit "java/lang/IllegalArgumentException" = true := by decide +kernel
theorem zt_aIA : ∀ w ∈ (vx_atS RX3 31 "java/lang/IllegalArgumentException" ["java/lang/RuntimeException", "java/lang/Exception"]).filter goodWord, w ∈ zc_W := by decide +kernel
theorem zt_bIA : ∀ w ∈ (vx_atS RX3 31 "java/lang/IllegalArgumentException" ["java/lang/RuntimeException", "java/lang/Exception"]).filter (fun w => !goodWord w), w ∈ zn_ws := by decide +kernel
theorem zt_cIA : ∀ w ∈ Cond.classLink RX3 27 "java/lang/IllegalArgumentException" :: Cond.initialized "java/lang/IllegalArgumentException" :: vx_atS RX3 31 "java/lang/IllegalArgumentException" ["java/lang/RuntimeException", "java/lang/Exception"], vx_ot w = true := by decide +kernel
theorem zt_fitIS : Bundle.fit "java/lang/IllegalStateException" = true := by decide +kernel
theorem zt_aIS : ∀ w ∈ (vx_atS RX3 42 "java/lang/IllegalStateException" ["java/lang/RuntimeException", "java/lang/Exception"]).filter goodWord, w ∈ zc_W := by decide +kernel
theorem zt_bIS : ∀ w ∈ (vx_atS RX3 42 "java/lang/IllegalStateException" ["java/lang/RuntimeException", "java/lang/Exception"]).filter (fun w => !goodWord w), w ∈ zn_ws := by decide +kernel
theorem zt_cIS : ∀ w ∈ Cond.classLink RX3 38 "java/lang/IllegalStateException" :: Cond.initialized "java/lang/IllegalStateException" :: vx_atS RX3 42 "java/lang/IllegalStateException" ["java/lang/RuntimeException", "java/lang/Exception"], vx_ot w = true := by decide +kernel
theorem zt_fitIO : Bundle.fit "java/lang/IndexOutOfBoundsException" = true := by decide +kernel
theorem zt_aIO : ∀ w ∈ (vx_atS RX3 177 "java/lang/IndexOutOfBoundsException" ["java/lang/RuntimeException", "java/lang/Exception"]).filter goodWord, w ∈ zc_W := by decide +kernel
theorem zt_bIO : ∀ w ∈ (vx_atS RX3 177 "java/lang/IndexOutOfBoundsException" ["java/lang/RuntimeException", "java/lang/Exception"]).filter (fun w => !goodWord w), w ∈ zn_ws := by decide +kernel
theorem zt_cIO : ∀ w ∈ Cond.classLink RX3 173 "java/lang/IndexOutOfBoundsException" :: Cond.initialized "java/lang/IndexOutOfBoundsException" :: vx_atS RX3 177 "java/lang/IndexOutOfBoundsException" ["java/lang/RuntimeException", "java/lang/Exception"], vx_ot w = true := by decide +kernel
theorem zt_fitn : ∀ n ∈ ["java/lang/RuntimeException", "java/lang/Exception"], Bundle.fit n = true := by decide +kernel

set_option maxRecDepth 100000 in
set_option maxHeartbeats 4000000 in
theorem k_X3_promiseAt (l : Launch) (g : zG) (hst : l.stackTraces = false) (S : zS) (x pl n ar : Nat) (el : Nat → Nat) (i : Int32) (hx3 : zh_at S 3 x) (r1 : zh_R S 1 x = some pl) (hL : FL g S pl n ar 2 el) (hn : n ≤ 100) : zX l yX3_promiseAt cX3_promiseAt 2 (some (.object "DiceForge$Promise")) (zrm 6 1 6) g [.ref x, .int i] S (fun w S' => ¬ zi n i ∧ w = some (.ref (el (zx i))) ∧ S' = S) (fun E S' => E = zn_IO ∧ zi n i ∧ S' = S) := by
  refine zX_of (nm := "promiseAt") (by decide) rfl (Nat.le_of_ble_eq_true rfl) ?_
  intro p e s m args below meth c A ls C hr hlk hxt I hl
  have C : CallFix p m c cX3_promiseAt 2 s args zc_W RX3 := C
  have hx := C.1
  have hb := C.2.1
  have hl : lv_has ls 2 [(0, .ref x), (1, .int i)] := hl
  rcases pk_ix i (n := n) (by omega) with hz | hz | ⟨j, hj, rfl⟩
  · refine lv_iload_n hx hb dX3_promiseAt_0 rfl (lv_at hl 1 rfl) ?_
    refine lv_if_lt (tgt := 15) hx hb dX3_promiseAt_1 (by decide) (fun _ => ?_) (fun h9 => absurd (hz) h9)
    exact zr_throw (cls := "java/lang/IndexOutOfBoundsException") (text := "there is no such promise") (ik := 173) (is := 175) (ic := 177) C I hst hxt hlk rfl zt_fitIO zt_fitn zm_248 zm_31 (by decide +kernel) zt_aIO zt_bIO zt_cIO hl.1 dX3_promiseAt_15 dX3_promiseAt_18 dX3_promiseAt_19 dX3_promiseAt_21 dX3_promiseAt_24 (Nat.le_of_ble_eq_true rfl) (Nat.le_of_ble_eq_true rfl) (Nat.le_of_ble_eq_true rfl) (Nat.le_of_ble_eq_true rfl) (⟨rfl, Or.inl hz, rfl⟩) (Nat.le_of_ble_eq_true rfl) (Nat.le_of_ble_eq_true rfl)
  · have hz0 : ¬ i < 0 := zi_ge0 hz (by omega)
    refine lv_iload_n hx hb dX3_promiseAt_0 rfl (lv_at hl 1 rfl) ?_
    refine lv_if_lt (tgt := 15) hx hb dX3_promiseAt_1 (by decide) (fun h9 => absurd h9 (hz0)) (fun _ => ?_)
    refine lv_iload_n hx hb dX3_promiseAt_4 rfl (lv_at hl 1 rfl) ?_
    refine lv_aload_n hx hb dX3_promiseAt_5 rfl (lv_at hl 0 rfl) ?_
    refine zg_Forge_promises (v := pl) C I hx3 zm_68 (r1) dX3_promiseAt_6 ?_
    refine zc_V (n := 0) (rest := [.int i]) C I hL.1 rfl rfl (k_Jx4a65c_size_8abf5 l g S pl n hL.1 hL.2.1) zm_144 zm_145 zm_146 zm_19 zm_147 rfl hl.1 dX3_promiseAt_9 (by decide +kernel) rfl ⟨Nat.le_of_ble_eq_true rfl, Nat.le_of_ble_eq_true rfl⟩ (Nat.le_of_ble_eq_true rfl) ⟨Nat.le_of_ble_eq_true rfl, Nat.le_of_ble_eq_true rfl⟩ (fun v S' H locs hq I => ?_)
    obtain ⟨rfl, eS⟩ := hq
    rw [eS] at I
    refine lv_icmp_lt (tgt := 25) hx hb dX3_promiseAt_12 (by decide) (fun h9 => absurd h9 (zi_nge hz)) (fun _ => ?_)
    exact zr_throw (cls := "java/lang/IndexOutOfBoundsException") (text := "there is no such promise") (ik := 173) (is := 175) (ic := 177) C I hst hxt hlk rfl zt_fitIO zt_fitn zm_248 zm_31 (by decide +kernel) zt_aIO zt_bIO zt_cIO hl.1 dX3_promiseAt_15 dX3_promiseAt_18 dX3_promiseAt_19 dX3_promiseAt_21 dX3_promiseAt_24 (Nat.le_of_ble_eq_true rfl) (Nat.le_of_ble_eq_true rfl) (Nat.le_of_ble_eq_true rfl) (Nat.le_of_ble_eq_true rfl) (⟨rfl, Or.inr hz, rfl⟩) (Nat.le_of_ble_eq_true rfl) (Nat.le_of_ble_eq_true rfl)
  · refine lv_iload_n hx hb dX3_promiseAt_0 rfl (lv_at hl 1 rfl) ?_
    refine lv_if_lt (tgt := 15) hx hb dX3_promiseAt_1 (by decide) (fun h9 => absurd h9 (fun h8 => absurd ((nI_ltI (a := j) (b := 0) (by omega) (by omega)).mp h8) (by omega))) (fun _ => ?_)
    refine lv_iload_n hx hb dX3_promiseAt_4 rfl (lv_at hl 1 rfl) ?_
    refine lv_aload_n hx hb dX3_promiseAt_5 rfl (lv_at hl 0 rfl) ?_
    refine zg_Forge_promises (v := pl) C I hx3 zm_68 (r1) dX3_promiseAt_6 ?_
    refine zc_V (n := 0) (rest := [.int (nI j)]) C I hL.1 rfl rfl (k_Jx4a65c_size_8abf5 l g S pl n hL.1 hL.2.1) zm_144 zm_145 zm_146 zm_19 zm_147 rfl hl.1 dX3_promiseAt_9 (by decide +kernel) rfl ⟨Nat.le_of_ble_eq_true rfl, Nat.le_of_ble_eq_true rfl⟩ (Nat.le_of_ble_eq_true rfl) ⟨Nat.le_of_ble_eq_true rfl, Nat.le_of_ble_eq_true rfl⟩ (fun v S' H locs hq I => ?_)
    obtain ⟨rfl, eS⟩ := hq
    rw [eS] at I
    refine lv_icmp_lt (tgt := 25) hx hb dX3_promiseAt_12 (by decide) (fun _ => ?_) (fun h9 => absurd ((nI_ltI (a := j) (b := n) (by omega) (by omega)).mpr (hj)) h9)
    refine lv_aload_n hx hb dX3_promiseAt_25 rfl (lv_at hl 0 rfl) ?_
    refine zg_Forge_promises (v := pl) C I hx3 zm_68 (r1) dX3_promiseAt_26 ?_
    refine lv_iload_n hx hb dX3_promiseAt_29 rfl (lv_at hl 1 rfl) ?_
    obtain ⟨h3, h4, h5, h6⟩ : zh_at S 8 ar ∧ n ≤ zh_N S ar ∧ 10 ≤ zh_N S ar ∧ zh_N S ar ≤ 150 := hL.2.2.2.1.elim (fun h => absurd h.1 (by omega)) id
    refine zc_V (n := 1) (rest := []) C I hL.1 rfl rfl (k_Jx4a65c_get_915e3 l g S pl n ar j (el j) hL.1 hL.2.1 hL.2.2.1 h3 h4 (by omega) hj (hL.2.2.2.2 j hj).1) zm_283 zm_284 zm_285 zm_19 zm_286 rfl hl.1 dX3_promiseAt_30 (by decide +kernel) rfl ⟨Nat.le_of_ble_eq_true rfl, Nat.le_of_ble_eq_true rfl⟩ (Nat.le_of_ble_eq_true rfl) ⟨Nat.le_of_ble_eq_true rfl, Nat.le_of_ble_eq_true rfl⟩ (fun v S' H locs hq I => ?_)
    obtain ⟨rfl, eS⟩ := hq
    rw [eS] at I
    refine zr_cast C I (hL.2.2.2.2 j hj).2 rfl rfl zm_162 dX3_promiseAt_33 ?_
    exact vx_ret (zr_aret C I hr (Or.inl ⟨_, rfl⟩) (Or.inr ⟨_, rfl⟩) hlk (⟨zi_no hj (by omega), by rw [zx_nI (by omega)], rfl⟩) (Nat.le_of_ble_eq_true rfl) (Nat.le_of_ble_eq_true rfl) dX3_promiseAt_36)

set_option maxRecDepth 100000 in
set_option maxHeartbeats 4000000 in
theorem k_X3_entryAt (l : Launch) (g : zG) (hst : l.stackTraces = false) (S : zS) (x pl n ar : Nat) (el : Nat → Nat) (i : Int32) (hx3 : zh_at S 3 x) (r1 : zh_R S 2 x = some pl) (hL : FL g S pl n ar 1 el) (hn : n ≤ 100) : zX l yX3_entryAt cX3_entryAt 2 (some (.object "DiceForge$Entry")) (zrm 6 1 6) g [.ref x, .int i] S (fun w S' => ¬ zi n i ∧ w = some (.ref (el (zx i))) ∧ S' = S) (fun E S' => E = zn_IO ∧ zi n i ∧ S' = S) := by
  refine zX_of (nm := "entryAt") (by decide) rfl (Nat.le_of_ble_eq_true rfl) ?_
  intro p e s m args below meth c A ls C hr hlk hxt I hl
  have C : CallFix p m c cX3_entryAt 2 s args zc_W RX3 := C
  have hx := C.1
  have hb := C.2.1
  have hl : lv_has ls 2 [(0, .ref x), (1, .int i)] := hl
  rcases pk_ix i (n := n) (by omega) with hz | hz | ⟨j, hj, rfl⟩
  · refine lv_iload_n hx hb dX3_entryAt_0 rfl (lv_at hl 1 rfl) ?_
    refine lv_if_lt (tgt := 15) hx hb dX3_entryAt_1 (by decide) (fun _ => ?_) (fun h9 => absurd (hz) h9)
    exact zr_throw (cls := "java/lang/IndexOutOfBoundsException") (text := "there is no such entry") (ik := 173) (is := 180) (ic := 177) C I hst hxt hlk rfl zt_fitIO zt_fitn zm_248 zm_31 (by decide +kernel) zt_aIO zt_bIO zt_cIO hl.1 dX3_entryAt_15 dX3_entryAt_18 dX3_entryAt_19 dX3_entryAt_21 dX3_entryAt_24 (Nat.le_of_ble_eq_true rfl) (Nat.le_of_ble_eq_true rfl) (Nat.le_of_ble_eq_true rfl) (Nat.le_of_ble_eq_true rfl) (⟨rfl, Or.inl hz, rfl⟩) (Nat.le_of_ble_eq_true rfl) (Nat.le_of_ble_eq_true rfl)
  · have hz0 : ¬ i < 0 := zi_ge0 hz (by omega)
    refine lv_iload_n hx hb dX3_entryAt_0 rfl (lv_at hl 1 rfl) ?_
    refine lv_if_lt (tgt := 15) hx hb dX3_entryAt_1 (by decide) (fun h9 => absurd h9 (hz0)) (fun _ => ?_)
    refine lv_iload_n hx hb dX3_entryAt_4 rfl (lv_at hl 1 rfl) ?_
    refine lv_aload_n hx hb dX3_entryAt_5 rfl (lv_at hl 0 rfl) ?_
    refine zg_Forge_log (v := pl) C I hx3 zm_69 (r1) dX3_entryAt_6 ?_
    refine zc_V (n := 0) (rest := [.int i]) C I hL.1 rfl rfl (k_Jx4a65c_size_8abf5 l g S pl n hL.1 hL.2.1) zm_144 zm_145 zm_146 zm_19 zm_147 rfl hl.1 dX3_entryAt_9 (by decide +kernel) rfl ⟨Nat.le_of_ble_eq_true rfl, Nat.le_of_ble_eq_true rfl⟩ (Nat.le_of_ble_eq_true rfl) ⟨Nat.le_of_ble_eq_true rfl, Nat.le_of_ble_eq_true rfl⟩ (fun v S' H locs hq I => ?_)
    obtain ⟨rfl, eS⟩ := hq
    rw [eS] at I
    refine lv_icmp_lt (tgt := 25) hx hb dX3_entryAt_12 (by decide) (fun h9 => absurd h9 (zi_nge hz)) (fun _ => ?_)
    exact zr_throw (cls := "java/lang/IndexOutOfBoundsException") (text := "there is no such entry") (ik := 173) (is := 180) (ic := 177) C I hst hxt hlk rfl zt_fitIO zt_fitn zm_248 zm_31 (by decide +kernel) zt_aIO zt_bIO zt_cIO hl.1 dX3_entryAt_15 dX3_entryAt_18 dX3_entryAt_19 dX3_entryAt_21 dX3_entryAt_24 (Nat.le_of_ble_eq_true rfl) (Nat.le_of_ble_eq_true rfl) (Nat.le_of_ble_eq_true rfl) (Nat.le_of_ble_eq_true rfl) (⟨rfl, Or.inr hz, rfl⟩) (Nat.le_of_ble_eq_true rfl) (Nat.le_of_ble_eq_true rfl)
  · refine lv_iload_n hx hb dX3_entryAt_0 rfl (lv_at hl 1 rfl) ?_
    refine lv_if_lt (tgt := 15) hx hb dX3_entryAt_1 (by decide) (fun h9 => absurd h9 (fun h8 => absurd ((nI_ltI (a := j) (b := 0) (by omega) (by omega)).mp h8) (by omega))) (fun _ => ?_)
    refine lv_iload_n hx hb dX3_entryAt_4 rfl (lv_at hl 1 rfl) ?_
    refine lv_aload_n hx hb dX3_entryAt_5 rfl (lv_at hl 0 rfl) ?_
    refine zg_Forge_log (v := pl) C I hx3 zm_69 (r1) dX3_entryAt_6 ?_
    refine zc_V (n := 0) (rest := [.int (nI j)]) C I hL.1 rfl rfl (k_Jx4a65c_size_8abf5 l g S pl n hL.1 hL.2.1) zm_144 zm_145 zm_146 zm_19 zm_147 rfl hl.1 dX3_entryAt_9 (by decide +kernel) rfl ⟨Nat.le_of_ble_eq_true rfl, Nat.le_of_ble_eq_true rfl⟩ (Nat.le_of_ble_eq_true rfl) ⟨Nat.le_of_ble_eq_true rfl, Nat.le_of_ble_eq_true rfl⟩ (fun v S' H locs hq I => ?_)
    obtain ⟨rfl, eS⟩ := hq
    rw [eS] at I
    refine lv_icmp_lt (tgt := 25) hx hb dX3_entryAt_12 (by decide) (fun _ => ?_) (fun h9 => absurd ((nI_ltI (a := j) (b := n) (by omega) (by omega)).mpr (hj)) h9)
    refine lv_aload_n hx hb dX3_entryAt_25 rfl (lv_at hl 0 rfl) ?_
    refine zg_Forge_log (v := pl) C I hx3 zm_69 (r1) dX3_entryAt_26 ?_
    refine lv_iload_n hx hb dX3_entryAt_29 rfl (lv_at hl 1 rfl) ?_
    obtain ⟨h3, h4, h5, h6⟩ : zh_at S 8 ar ∧ n ≤ zh_N S ar ∧ 10 ≤ zh_N S ar ∧ zh_N S ar ≤ 150 := hL.2.2.2.1.elim (fun h => absurd h.1 (by omega)) id
    refine zc_V (n := 1) (rest := []) C I hL.1 rfl rfl (k_Jx4a65c_get_915e3 l g S pl n ar j (el j) hL.1 hL.2.1 hL.2.2.1 h3 h4 (by omega) hj (hL.2.2.2.2 j hj).1) zm_283 zm_284 zm_285 zm_19 zm_286 rfl hl.1 dX3_entryAt_30 (by decide +kernel) rfl ⟨Nat.le_of_ble_eq_true rfl, Nat.le_of_ble_eq_true rfl⟩ (Nat.le_of_ble_eq_true rfl) ⟨Nat.le_of_ble_eq_true rfl, Nat.le_of_ble_eq_true rfl⟩ (fun v S' H locs hq I => ?_)
    obtain ⟨rfl, eS⟩ := hq
    rw [eS] at I
    refine zr_cast C I (hL.2.2.2.2 j hj).2 rfl rfl zm_304 dX3_entryAt_33 ?_
    exact vx_ret (zr_aret C I hr (Or.inl ⟨_, rfl⟩) (Or.inr ⟨_, rfl⟩) hlk (⟨zi_no hj (by omega), by rw [zx_nI (by omega)], rfl⟩) (Nat.le_of_ble_eq_true rfl) (Nat.le_of_ble_eq_true rfl) dX3_entryAt_36)

set_option maxRecDepth 100000 in
set_option maxHeartbeats 4000000 in
theorem k_X3_openedAt (l : Launch) (g : zG) (hst : l.stackTraces = false) (S : zS) (x pl n ar : Nat) (el ov : Nat → Nat) (i : Int32) (hx3 : zh_at S 3 x) (r1 : zh_R S 1 x = some pl) (hL : FL g S pl n ar 2 el) (hn : n ≤ 100) (ho : ∀ k : Nat, k < n → zh_I S 11 (el k) = nI (ov k)) (hov : ∀ k : Nat, ov k ≤ 1) : zX l yX3_openedAt cX3_openedAt 3 (some (.object "DiceForge$Promise")) (zrm 7 2 12) g [.ref x, .int i] S (fun w S' => (¬ zi n i ∧ ov (zx i) ≠ 0) ∧ w = some (.ref (el (zx i))) ∧ S' = S) (fun E S' => ((E = zn_IO ∧ zi n i) ∨ (E = zn_IS ∧ ¬ zi n i ∧ ov (zx i) = 0)) ∧ S' = S) := by
  refine zX_of (nm := "openedAt") (by decide) rfl (Nat.le_of_ble_eq_true rfl) ?_
  intro p e s m args below meth c A ls C hr hlk hxt I hl
  have C : CallFix p m c cX3_openedAt 3 s args zc_W RX3 := C
  have hx := C.1
  have hb := C.2.1
  have hl : lv_has ls 3 [(0, .ref x), (1, .int i)] := hl
  refine lv_aload_n hx hb dX3_openedAt_0 rfl (lv_at hl 0 rfl) ?_
  refine lv_iload_n hx hb dX3_openedAt_1 rfl (lv_at hl 1 rfl) ?_
  refine zc_VX (n := 1) (rest := []) C I hx3 rfl rfl (k_X3_promiseAt l g hst S x pl n ar el i hx3 r1 hL hn) zm_280 zm_281 zm_4 zm_16 zm_282 rfl hl.1 dX3_openedAt_2 (by decide +kernel) rfl ⟨Nat.le_of_ble_eq_true rfl, Nat.le_of_ble_eq_true rfl⟩ (Nat.le_of_ble_eq_true rfl) ⟨Nat.le_of_ble_eq_true rfl, Nat.le_of_ble_eq_true rfl⟩ (fun E ce q9 S' H locs hq I h1 h2 h3 => ?_) (fun v S' H locs hq I => ?_)
  · obtain ⟨hE, hz, eS⟩ := hq
    rw [eS] at I
    exact zr_out I hxt hlk (⟨Or.inl ⟨hE, hz⟩, rfl⟩) h1 h2 h3 (Nat.le_of_ble_eq_true rfl) (Nat.le_of_ble_eq_true rfl)
  · obtain ⟨hz, rfl, eS⟩ := hq
    rw [eS] at I
    have hj : zx i < n := (zi_cases i (n := n) (by omega)).elim (fun h => absurd h hz) (fun h => h.2.1)
    have hov1 := hov (zx i)
    refine lv_astore_n (lv' := [(2, .ref (el (zx i))), (0, .ref x), (1, .int i)]) hx hb dX3_openedAt_5 rfl hl (by decide) rfl (fun ls hl => ?_)
    refine lv_aload_n hx hb dX3_openedAt_6 rfl (lv_at hl 0 rfl) ?_
    refine zn_Promise_opened (v := nI (ov (zx i))) (host := "DiceForge") C I (hL.2.2.2.2 _ hj).2 (by decide +kernel) (ho _ hj) dX3_openedAt_7 ?_
    refine lv_if_ne (tgt := 23) hx hb dX3_openedAt_10 (by decide) (fun c10 => ?_) (fun c10 => ?_)
    · have c10 : ¬ (ov (zx i)) = 0 := fun h9 => c10 ((nI_eq (a := ov (zx i)) (b := 0) (by omega) (by omega)).mpr h9)
      refine lv_aload_n hx hb dX3_openedAt_23 rfl (lv_at hl 0 rfl) ?_
      exact vx_ret (zr_aret C I hr (Or.inl ⟨_, rfl⟩) (Or.inr ⟨_, rfl⟩) hlk (⟨⟨hz, c10⟩, rfl, rfl⟩) (Nat.le_of_ble_eq_true rfl) (Nat.le_of_ble_eq_true rfl) dX3_openedAt_24)
    · have c10 : (ov (zx i)) = 0 := (nI_eq (a := ov (zx i)) (b := 0) (by omega) (by omega)).mp c10
      exact zr_throw (cls := "java/lang/IllegalStateException") (text := "the promise is not opened") (ik := 38) (is := 178) (ic := 42) C I hst hxt hlk rfl zt_fitIS zt_fitn zm_148 zm_24 (by decide +kernel) zt_aIS zt_bIS zt_cIS hl.1 dX3_openedAt_13 dX3_openedAt_16 dX3_openedAt_17 dX3_openedAt_19 dX3_openedAt_22 (Nat.le_of_ble_eq_true rfl) (Nat.le_of_ble_eq_true rfl) (Nat.le_of_ble_eq_true rfl) (Nat.le_of_ble_eq_true rfl) (⟨Or.inr ⟨rfl, hz, c10⟩, rfl⟩) (Nat.le_of_ble_eq_true rfl) (Nat.le_of_ble_eq_true rfl)

set_option maxRecDepth 100000 in
set_option maxHeartbeats 4000000 in
theorem k_X3_requireTable (l : Launch) (g : zG) (hst : l.stackTraces = false) (S : zS) (i : Int32) : zX l yX3_requireTable cX3_requireTable 1 none (zrm 6 1 6) g [.int i] S (fun w S' => ¬ zi 4 i ∧ w = none ∧ S' = S) (fun E S' => E = zn_IO ∧ zi 4 i ∧ S' = S) := by
  refine zX_of (nm := "requireTable") (by decide) rfl (Nat.le_of_ble_eq_true rfl) ?_
  intro p e s m args below meth c A ls C hr hlk hxt I hl
  have C : CallFix p m c cX3_requireTable 1 s args zc_W RX3 := C
  have hx := C.1
  have hb := C.2.1
  have hl : lv_has ls 1 [(0, .int i)] := hl
  rcases pk_ix i (n := 4) (by omega) with hz | hz | ⟨j, hj, rfl⟩
  · refine lv_iload_n hx hb dX3_requireTable_0 rfl (lv_at hl 0 rfl) ?_
    refine lv_if_lt (tgt := 9) hx hb dX3_requireTable_1 (by decide) (fun _ => ?_) (fun h9 => absurd (hz) h9)
    exact zr_throw (cls := "java/lang/IndexOutOfBoundsException") (text := "there is no such table") (ik := 173) (is := 182) (ic := 177) C I hst hxt hlk rfl zt_fitIO zt_fitn zm_248 zm_31 (by decide +kernel) zt_aIO zt_bIO zt_cIO hl.1 dX3_requireTable_9 dX3_requireTable_12 dX3_requireTable_13 dX3_requireTable_15 dX3_requireTable_18 (Nat.le_of_ble_eq_true rfl) (Nat.le_of_ble_eq_true rfl) (Nat.le_of_ble_eq_true rfl) (Nat.le_of_ble_eq_true rfl) (⟨rfl, Or.inl hz, rfl⟩) (Nat.le_of_ble_eq_true rfl) (Nat.le_of_ble_eq_true rfl)
  · have hz0 : ¬ i < 0 := zi_ge0 hz (by omega)
    refine lv_iload_n hx hb dX3_requireTable_0 rfl (lv_at hl 0 rfl) ?_
    refine lv_if_lt (tgt := 9) hx hb dX3_requireTable_1 (by decide) (fun h9 => absurd h9 (hz0)) (fun _ => ?_)
    refine lv_iload_n hx hb dX3_requireTable_4 rfl (lv_at hl 0 rfl) ?_
    refine lv_iconst (v := 4) hx hb dX3_requireTable_5 (by decide) ?_
    refine lv_icmp_lt (tgt := 19) hx hb dX3_requireTable_6 (by decide) (fun h9 => absurd h9 (zi_nge hz)) (fun _ => ?_)
    exact zr_throw (cls := "java/lang/IndexOutOfBoundsException") (text := "there is no such table") (ik := 173) (is := 182) (ic := 177) C I hst hxt hlk rfl zt_fitIO zt_fitn zm_248 zm_31 (by decide +kernel) zt_aIO zt_bIO zt_cIO hl.1 dX3_requireTable_9 dX3_requireTable_12 dX3_requireTable_13 dX3_requireTable_15 dX3_requireTable_18 (Nat.le_of_ble_eq_true rfl) (Nat.le_of_ble_eq_true rfl) (Nat.le_of_ble_eq_true rfl) (Nat.le_of_ble_eq_true rfl) (⟨rfl, Or.inr hz, rfl⟩) (Nat.le_of_ble_eq_true rfl) (Nat.le_of_ble_eq_true rfl)
  · refine lv_iload_n hx hb dX3_requireTable_0 rfl (lv_at hl 0 rfl) ?_
    refine lv_if_lt (tgt := 9) hx hb dX3_requireTable_1 (by decide) (fun h9 => absurd h9 (fun h8 => absurd ((nI_ltI (a := j) (b := 0) (by omega) (by omega)).mp h8) (by omega))) (fun _ => ?_)
    refine lv_iload_n hx hb dX3_requireTable_4 rfl (lv_at hl 0 rfl) ?_
    refine lv_iconst (v := 4) hx hb dX3_requireTable_5 (by decide) ?_
    refine lv_icmp_lt (tgt := 19) hx hb dX3_requireTable_6 (by decide) (fun _ => ?_) (fun h9 => absurd ((nI_ltI (a := j) (b := 4) (by omega) (by omega)).mpr (hj)) h9)
    exact vx_ret (zr_vret C I hr hlk (⟨zi_no hj (by omega), rfl, rfl⟩) (Nat.le_of_ble_eq_true rfl) (Nat.le_of_ble_eq_true rfl) dX3_requireTable_19)

set_option maxRecDepth 100000 in
set_option maxHeartbeats 4000000 in
theorem k_X3_requireFaces (l : Launch) (g : zG) (hst : l.stackTraces = false) (S : zS) (i : Int32) : zX l yX3_requireFaces cX3_requireFaces 1 none (zrm 6 1 6) g [.int i] S (fun w S' => ¬ (i < 2 ∨ 1000 < i) ∧ w = none ∧ S' = S) (fun E S' => E = zn_IA ∧ (i < 2 ∨ 1000 < i) ∧ S' = S) := by
  refine zX_of (nm := "requireFaces") (by decide) rfl (Nat.le_of_ble_eq_true rfl) ?_
  intro p e s m args below meth c A ls C hr hlk hxt I hl
  have C : CallFix p m c cX3_requireFaces 1 s args zc_W RX3 := C
  have hx := C.1
  have hb := C.2.1
  have hl : lv_has ls 1 [(0, .int i)] := hl
  refine lv_iload_n hx hb dX3_requireFaces_0 rfl (lv_at hl 0 rfl) ?_
  refine lv_iconst (v := 2) hx hb dX3_requireFaces_1 (by decide) ?_
  refine lv_icmp_lt (tgt := 12) hx hb dX3_requireFaces_2 (by decide) (fun c2 => ?_) (fun c2 => ?_)
  · exact zr_throw (cls := "java/lang/IllegalArgumentException") (text := "a die has 2 to 1000 faces") (ik := 27) (is := 184) (ic := 31) C I hst hxt hlk rfl zt_fitIA zt_fitn zm_87 zm_23 (by decide +kernel) zt_aIA zt_bIA zt_cIA hl.1 dX3_requireFaces_12 dX3_requireFaces_15 dX3_requireFaces_16 dX3_requireFaces_18 dX3_requireFaces_21 (Nat.le_of_ble_eq_true rfl) (Nat.le_of_ble_eq_true rfl) (Nat.le_of_ble_eq_true rfl) (Nat.le_of_ble_eq_true rfl) (⟨rfl, Or.inl c2, rfl⟩) (Nat.le_of_ble_eq_true rfl) (Nat.le_of_ble_eq_true rfl)
  · refine lv_iload_n hx hb dX3_requireFaces_5 rfl (lv_at hl 0 rfl) ?_
    refine lv_sipush (v := 1000) hx hb dX3_requireFaces_6 (by decide) ?_
    refine lv_icmp_le (tgt := 22) hx hb dX3_requireFaces_9 (by decide) (fun c9 => ?_) (fun c9 => ?_)
    · exact vx_ret (zr_vret C I hr hlk (⟨fun h => h.elim c2 (fun h9 => zi_nlt h9 c9), rfl, rfl⟩) (Nat.le_of_ble_eq_true rfl) (Nat.le_of_ble_eq_true rfl) dX3_requireFaces_22)
    · exact zr_throw (cls := "java/lang/IllegalArgumentException") (text := "a die has 2 to 1000 faces") (ik := 27) (is := 184) (ic := 31) C I hst hxt hlk rfl zt_fitIA zt_fitn zm_87 zm_23 (by decide +kernel) zt_aIA zt_bIA zt_cIA hl.1 dX3_requireFaces_12 dX3_requireFaces_15 dX3_requireFaces_16 dX3_requireFaces_18 dX3_requireFaces_21 (Nat.le_of_ble_eq_true rfl) (Nat.le_of_ble_eq_true rfl) (Nat.le_of_ble_eq_true rfl) (Nat.le_of_ble_eq_true rfl) (⟨rfl, Or.inr (zi_lt c9), rfl⟩) (Nat.le_of_ble_eq_true rfl) (Nat.le_of_ble_eq_true rfl)

set_option maxRecDepth 100000 in
set_option maxHeartbeats 4000000 in
theorem k_X3_requireValue (l : Launch) (g : zG) (hst : l.stackTraces = false) (S : zS) (i f : Int32) : zX l yX3_requireValue cX3_requireValue 2 none (zrm 6 1 6) g [.int i, .int f] S (fun w S' => ¬ (i < 1 ∨ f < i) ∧ w = none ∧ S' = S) (fun E S' => E = zn_IA ∧ (i < 1 ∨ f < i) ∧ S' = S) := by
  refine zX_of (nm := "requireValue") (by decide) rfl (Nat.le_of_ble_eq_true rfl) ?_
  intro p e s m args below meth c A ls C hr hlk hxt I hl
  have C : CallFix p m c cX3_requireValue 2 s args zc_W RX3 := C
  have hx := C.1
  have hb := C.2.1
  have hl : lv_has ls 2 [(0, .int i), (1, .int f)] := hl
  refine lv_iload_n hx hb dX3_requireValue_0 rfl (lv_at hl 0 rfl) ?_
  refine lv_iconst (v := 1) hx hb dX3_requireValue_1 (by decide) ?_
  refine lv_icmp_lt (tgt := 10) hx hb dX3_requireValue_2 (by decide) (fun c2 => ?_) (fun c2 => ?_)
  · exact zr_throw (cls := "java/lang/IllegalArgumentException") (text := "a value is 1 to the faces") (ik := 27) (is := 186) (ic := 31) C I hst hxt hlk rfl zt_fitIA zt_fitn zm_87 zm_23 (by decide +kernel) zt_aIA zt_bIA zt_cIA hl.1 dX3_requireValue_10 dX3_requireValue_13 dX3_requireValue_14 dX3_requireValue_16 dX3_requireValue_19 (Nat.le_of_ble_eq_true rfl) (Nat.le_of_ble_eq_true rfl) (Nat.le_of_ble_eq_true rfl) (Nat.le_of_ble_eq_true rfl) (⟨rfl, Or.inl c2, rfl⟩) (Nat.le_of_ble_eq_true rfl) (Nat.le_of_ble_eq_true rfl)
  · refine lv_iload_n hx hb dX3_requireValue_5 rfl (lv_at hl 0 rfl) ?_
    refine lv_iload_n hx hb dX3_requireValue_6 rfl (lv_at hl 1 rfl) ?_
    refine lv_icmp_le (tgt := 20) hx hb dX3_requireValue_7 (by decide) (fun c7 => ?_) (fun c7 => ?_)
    · exact vx_ret (zr_vret C I hr hlk (⟨fun h => h.elim c2 (fun h9 => zi_nlt h9 c7), rfl, rfl⟩) (Nat.le_of_ble_eq_true rfl) (Nat.le_of_ble_eq_true rfl) dX3_requireValue_20)
    · exact zr_throw (cls := "java/lang/IllegalArgumentException") (text := "a value is 1 to the faces") (ik := 27) (is := 186) (ic := 31) C I hst hxt hlk rfl zt_fitIA zt_fitn zm_87 zm_23 (by decide +kernel) zt_aIA zt_bIA zt_cIA hl.1 dX3_requireValue_10 dX3_requireValue_13 dX3_requireValue_14 dX3_requireValue_16 dX3_requireValue_19 (Nat.le_of_ble_eq_true rfl) (Nat.le_of_ble_eq_true rfl) (Nat.le_of_ble_eq_true rfl) (Nat.le_of_ble_eq_true rfl) (⟨rfl, Or.inr (zi_lt c7), rfl⟩) (Nat.le_of_ble_eq_true rfl) (Nat.le_of_ble_eq_true rfl)

set_option maxRecDepth 100000 in
set_option maxHeartbeats 4000000 in
theorem k_X3_seedsWithRemainder (l : Launch) (g : zG) (S : zS) (r : Nat) (hr0 : r < 10007) : zM l yX3_seedsWithRemainder cX3_seedsWithRemainder 1 (some .int) (zrm 0 0 0) g [.int (nI r)] S (fun w S' => w = some (.int (nI ((65535 - r) / 10007 + 1))) ∧ S' = S) := by
  refine zM_of (nm := "seedsWithRemainder") (by decide) rfl (Nat.le_of_ble_eq_true rfl) ?_
  intro p e s m args below meth c A ls C hr hlk hin I hl
  have C : CallFix p m c cX3_seedsWithRemainder 1 s args zc_W RX3 := C
  have hx := C.1
  have hb := C.2.1
  have hl : lv_has ls 1 [(0, .int (nI r))] := hl
  refine lv_ldc (v := 65535) hx hb C.2.2.2.1 (C.2.2.2.2 _ zm_479) dX3_seedsWithRemainder_0 ?_
  refine lv_iload_n hx hb dX3_seedsWithRemainder_2 rfl (lv_at hl 0 rfl) ?_
  refine lv_isub hx hb dX3_seedsWithRemainder_3 ?_
  refine zr_top (y := nI (65535 - r)) (pk_sub (a := 65535) (b := r) (by omega)) ?_
  refine lv_sipush (v := 10007) hx hb dX3_seedsWithRemainder_4 (by decide) ?_
  refine lv_idiv hx hb dX3_seedsWithRemainder_7 (by decide) ?_
  refine zr_top (y := nI ((65535 - r) / 10007)) (pk_div (a := 65535 - r) (d := 10007) (by omega) (by omega) (by omega)) ?_
  refine lv_iconst (v := 1) hx hb dX3_seedsWithRemainder_8 (by decide) ?_
  refine lv_iadd hx hb dX3_seedsWithRemainder_9 ?_
  refine zr_top (y := nI (((65535 - r) / 10007) + 1)) (nI_add ((65535 - r) / 10007) 1) ?_
  exact zr_iret C I hr hlk (⟨rfl, rfl⟩) (Nat.le_of_ble_eq_true rfl) (Nat.le_of_ble_eq_true rfl) dX3_seedsWithRemainder_10

set_option maxRecDepth 100000 in
set_option maxHeartbeats 4000000 in
theorem k_X3_lastSum (l : Launch) (g : zG) (S : zS) (x pl n ar : Nat) (el sv : Nat → Nat) (hx3 : zh_at S 3 x) (r1 : zh_R S 2 x = some pl) (hL : FL g S pl n ar 1 el) (hn : n ≤ 100) (ho : ∀ k : Nat, k < n → zh_I S 8 (el k) = nI (sv k)) : zM l yX3_lastSum cX3_lastSum 1 (some .int) (zrm 3 0 0) g [.ref x] S (fun w S' => w = some (.int (nI (if n = 0 then 17 else sv (n - 1)))) ∧ S' = S) := by
  refine zM_of (nm := "lastSum") (by decide) rfl (Nat.le_of_ble_eq_true rfl) ?_
  intro p e s m args below meth c A ls C hr hlk hin I hl
  have C : CallFix p m c cX3_lastSum 1 s args zc_W RX3 := C
  have hx := C.1
  have hb := C.2.1
  have hl : lv_has ls 1 [(0, .ref x)] := hl
  refine lv_aload_n hx hb dX3_lastSum_0 rfl (lv_at hl 0 rfl) ?_
  refine zg_Forge_log (v := pl) C I hx3 zm_69 (r1) dX3_lastSum_1 ?_
  refine zc_V (n := 0) (rest := []) C I hL.1 rfl rfl (k_Jx4a65c_isEmpty_aae02 l g S pl n hL.1 hL.2.1 (by omega)) zm_342 zm_343 zm_344 zm_19 zm_345 rfl hl.1 dX3_lastSum_4 (by decide +kernel) rfl ⟨Nat.le_of_ble_eq_true rfl, Nat.le_of_ble_eq_true rfl⟩ (Nat.le_of_ble_eq_true rfl) ⟨Nat.le_of_ble_eq_true rfl, Nat.le_of_ble_eq_true rfl⟩ (fun v S' H locs hq I => ?_)
  obtain ⟨rfl, eS⟩ := hq
  rw [eS] at I
  by_cases h0 : n = 0
  · refine zr_top (y := 1) (if_pos h0) ?_
    refine lv_if_eq (tgt := 15) hx hb dX3_lastSum_7 (by decide) (fun h9 => absurd h9 (by decide)) (fun _ => ?_)
    refine lv_bipush (v := 17) hx hb dX3_lastSum_10 (by decide) ?_
    refine lv_goto (tgt := 37) hx hb dX3_lastSum_12 (by decide) ?_
    exact zr_iret C I hr hlk (⟨by rw [if_pos h0]; rfl, rfl⟩) (Nat.le_of_ble_eq_true rfl) (Nat.le_of_ble_eq_true rfl) dX3_lastSum_37
  · refine zr_top (y := 0) (if_neg h0) ?_
    refine lv_if_eq (tgt := 15) hx hb dX3_lastSum_7 (by decide) (fun _ => ?_) (fun h9 => absurd (rfl) h9)
    refine lv_aload_n hx hb dX3_lastSum_15 rfl (lv_at hl 0 rfl) ?_
    refine zg_Forge_log (v := pl) C I hx3 zm_69 (r1) dX3_lastSum_16 ?_
    refine lv_aload_n hx hb dX3_lastSum_19 rfl (lv_at hl 0 rfl) ?_
    refine zg_Forge_log (v := pl) C I hx3 zm_69 (r1) dX3_lastSum_20 ?_
    refine zc_V (n := 0) (rest := [.ref pl]) C I hL.1 rfl rfl (k_Jx4a65c_size_8abf5 l g S pl n hL.1 hL.2.1) zm_144 zm_145 zm_146 zm_19 zm_147 rfl hl.1 dX3_lastSum_23 (by decide +kernel) rfl ⟨Nat.le_of_ble_eq_true rfl, Nat.le_of_ble_eq_true rfl⟩ (Nat.le_of_ble_eq_true rfl) ⟨Nat.le_of_ble_eq_true rfl, Nat.le_of_ble_eq_true rfl⟩ (fun v S' H locs hq I => ?_)
    obtain ⟨rfl, eS⟩ := hq
    rw [eS] at I
    refine lv_iconst (v := 1) hx hb dX3_lastSum_26 (by decide) ?_
    refine lv_isub hx hb dX3_lastSum_27 ?_
    refine zr_top (y := nI (n - 1)) (pk_sub (a := n) (b := 1) (by omega)) ?_
    obtain ⟨h3, h4, h5, h6⟩ : zh_at S 8 ar ∧ n ≤ zh_N S ar ∧ 10 ≤ zh_N S ar ∧ zh_N S ar ≤ 150 := hL.2.2.2.1.elim (fun h => absurd h.1 h0) id
    refine zc_V (n := 1) (rest := []) C I hL.1 rfl rfl (k_Jx4a65c_get_915e3 l g S pl n ar (n - 1) (el (n - 1)) hL.1 hL.2.1 hL.2.2.1 h3 h4 (by omega) (by omega) (hL.2.2.2.2 (n - 1) (by omega)).1) zm_283 zm_284 zm_285 zm_19 zm_286 rfl hl.1 dX3_lastSum_28 (by decide +kernel) rfl ⟨Nat.le_of_ble_eq_true rfl, Nat.le_of_ble_eq_true rfl⟩ (Nat.le_of_ble_eq_true rfl) ⟨Nat.le_of_ble_eq_true rfl, Nat.le_of_ble_eq_true rfl⟩ (fun v S' H locs hq I => ?_)
    obtain ⟨rfl, eS⟩ := hq
    rw [eS] at I
    refine zr_cast C I (hL.2.2.2.2 (n - 1) (by omega)).2 rfl rfl zm_304 dX3_lastSum_31 ?_
    refine zn_Entry_sum (v := nI (sv (n - 1))) (host := "DiceForge") C I (hL.2.2.2.2 (n - 1) (by omega)).2 (by decide +kernel) (ho (n - 1) (by omega)) dX3_lastSum_34 ?_
    exact zr_iret C I hr hlk (⟨by rw [if_neg h0], rfl⟩) (Nat.le_of_ble_eq_true rfl) (Nat.le_of_ble_eq_true rfl) dX3_lastSum_37

