/-! the law's branches -/
section ZLAW
variable {p : Program} {l : Launch} {e : Env} {s : State} {m : MethodId} {below : List Frame} {meth : Method} {c : Code} {H : Heap} {locs : List Loc} {cells slots : Nat} {Q : State → Prop} {g : zG} {b L i x mo oa : Nat} {xs : Nat → Int32} {ar : Nat → Nat} {ls : Array Slot}

set_option maxRecDepth 100000 in
set_option maxHeartbeats 4000000 in
theorem k_law_promise (C0 : zLC p l s m c b L xs) (hi : i + 4 ≤ L) (hc : cells + 10 ≤ 601024) (hs : slots + 300 ≤ 7293034) (I0 : zLI g s b x mo oa ar i H locs ls)
    (K : ∀ (H : Heap) (locs : List Loc) (ls : Array Slot), zLI g s b x mo oa ar i H locs ls → W p l e room_1 s m #[Value.ref b] below meth c H locs (cells + 10) (slots + 300) Q (F0 m 1239 ls [])) : W p l e room_1 s m #[Value.ref b] below meth c H locs cells slots Q (F0 m 132 ls []) := by
  obtain ⟨hst, C, hX, hbl, hL⟩ := C0
  obtain ⟨S, M, T, hT, hF, ho, ho1, hM, I, hl⟩ := I0
  have hx := C.1
  have hb := C.2.1
  have hbA : ¬ (fun q : Nat => s.heap.size ≤ q) b := Nat.not_le.mpr hbl
  refine lv_aload_n hx hb dL_law_132 rfl (lv_at hl 1 rfl) ?_
  refine lv_aload_n hx hb dL_law_133 rfl (lv_at hl 0 rfl) ?_
  refine lv_iload hx hb dL_law_134 (lv_at hl 4 rfl) ?_
  refine lv_iconst (v := 1) hx hb dL_law_136 (by decide) ?_
  refine lv_iadd hx hb dL_law_137 ?_
  refine zr_top (y := nI (i + 1)) (nI_add i 1) ?_
  refine va_sld hx hb hX hbl hbA I.S (vp_in_nI (n := i + 1) (by omega) (by omega)) dL_law_138 ?_
  refine lv_topi (fun i1 e1 => ?_)
  refine lv_aload_n hx hb dL_law_139 rfl (lv_at hl 3 rfl) ?_
  have hcb : zc_promise T i1 ≤ 3 := zb_promise T i1
  refine zc_SH (n := 3) (rest := []) C I (k_L_promise l g hst S T x oa i1 hT hF ho ho1) zm_122 zm_123 zm_23 zm_124 rfl hl.1 dL_law_140 (by decide +kernel) rfl ⟨Nat.le_of_ble_eq_true rfl, Nat.le_of_ble_eq_true rfl⟩ (Nat.le_of_ble_eq_true rfl) ⟨hc, hs⟩ (fun v S' H locs hq I => ?_)
  obtain ⟨rfl, hF1, ho2, hn1, hJ⟩ := hq
  have ho1 := ho2
  have I := I.swap
  refine W.widen (k := cells + 10) (n := slots + 300) (Nat.le_refl _) (Nat.le_refl _) ?_
  refine lv_istore (lv' := [(5, .int (nI (zc_promise T i1))), (0, .ref b), (1, .ref x), (2, .ref mo), (3, .ref oa), (4, .int (nI i))]) hx hb dL_law_143 hl (by decide) rfl (fun ls hl => ?_)
  refine lv_aload_n hx hb dL_law_145 rfl (lv_at hl 3 rfl) ?_
  refine lv_aload_n hx hb dL_law_146 rfl (lv_at hl 1 rfl) ?_
  refine lv_iload hx hb dL_law_147 (lv_at hl 5 rfl) ?_
  refine lv_iconst (v := 1) hx hb dL_law_149 (by decide) ?_
  refine lv_iadd hx hb dL_law_150 ?_
  refine zr_top (y := nI (i + 1)) (nI_add i 1) ?_
  refine va_sld hx hb hX hbl hbA I.S (vp_in_nI (n := i + 1) (by omega) (by omega)) dL_law_151 ?_
  refine zr_top (y := i1) e1.symm ?_
  refine zc_V (n := 1) (rest := []) C I hM.1 rfl rfl (k_X4_promise l g M T mo ar hT hM i1) zm_567 zm_568 zm_569 zm_28 zm_570 rfl hl.1 dL_law_152 (by decide +kernel) rfl ⟨Nat.le_of_ble_eq_true rfl, Nat.le_of_ble_eq_true rfl⟩ (Nat.le_of_ble_eq_true rfl) ⟨hc, hs⟩ (fun v M' H locs hq I => ?_)
  obtain ⟨h20, hM1, hkM, v1, rfl, hw⟩ := hq
  refine W.widen (k := cells + 10) (n := slots + 300) (Nat.le_refl _) (Nat.le_refl _) ?_
  refine lv_istore (lv' := [(6, .int v1), (5, .int (nI (zc_promise T i1))), (0, .ref b), (1, .ref x), (2, .ref mo), (3, .ref oa), (4, .int (nI i))]) hx hb dL_law_155 hl (by decide) rfl (fun ls hl => ?_)
  refine lv_aload_n hx hb dL_law_157 rfl (lv_at hl 4 rfl) ?_
  refine zc_V (n := 0) (rest := []) C I hM1.1 rfl rfl (k_X4_thrown l g M' mo hM1.1) zm_563 zm_564 zm_565 zm_28 zm_566 rfl hl.1 dL_law_158 (by decide +kernel) rfl ⟨Nat.le_of_ble_eq_true rfl, Nat.le_of_ble_eq_true rfl⟩ (Nat.le_of_ble_eq_true rfl) ⟨hc, hs⟩ (fun v M2 H locs hq I => ?_)
  obtain ⟨rfl, eM⟩ := hq
  rw [eM] at I
  have I := I.swap
  refine W.widen (k := cells + 10) (n := slots + 300) (Nat.le_refl _) (Nat.le_refl _) ?_
  refine zr_top (y := nI (zc_promise T i1)) (h20) ?_
  refine lv_iload hx hb dL_law_161 (lv_at hl 1 rfl) ?_
  refine lv_icmp_eq (tgt := 168) hx hb dL_law_163 (by decide) (fun _ => ?_) (fun h9 => absurd ((nI_eq (a := zc_promise T i1) (b := zc_promise T i1) (by omega) (by omega)).mpr (rfl)) h9)
  refine lv_iload hx hb dL_law_168 (lv_at hl 1 rfl) ?_
  refine lv_if_ne (tgt := 185) hx hb dL_law_170 (by decide) (fun c8 => ?_) (fun c8 => ?_)
  · have c8 : ¬ (zc_promise T i1) = 0 := fun h9 => c8 ((nI_eq (a := zc_promise T i1) (b := 0) (by omega) (by omega)).mpr h9)
    refine lv_goto (tgt := 1239) hx hb dL_law_185 (by decide) ?_
    exact K _ _ _ ⟨S', M', _, zt_ok_promise hT i1, hF1, ho1, hn1, hM1, I, lv_sub hl [2, 3, 4, 5, 6] rfl⟩
  · have c8 : (zc_promise T i1) = 0 := (nI_eq (a := zc_promise T i1) (b := 0) (by omega) (by omega)).mp c8
    refine lv_aload_n hx hb dL_law_173 rfl (lv_at hl 5 rfl) ?_
    refine lv_iconst (v := 0) hx hb dL_law_174 (by decide) ?_
    refine zr_lald (v := (nI T.1.1).toInt64) C I ho1 (by rw [hn1]; exact (show vp_in (nI 0) 1 from vp_in_nI (by omega) (by omega))) (by rw [show (0 : Int32).toNatClampNeg = 0 from by decide]; exact hJ c8) dL_law_175 ?_
    refine lv_iload hx hb dL_law_176 (lv_at hl 0 rfl) ?_
    refine zr_top (y := nI T.1.1) (hw c8) ?_
    refine lv_i2l hx hb dL_law_178 rfl ?_
    refine W.lcmp hx hb dL_law_179 ?_
    refine zr_top (y := 0) (lg_self _) ?_
    refine lv_if_eq (tgt := 185) hx hb dL_law_180 (by decide) (fun _ => ?_) (fun h9 => absurd ((nI_eq (a := 0) (b := 0) (by omega) (by omega)).mpr (rfl)) h9)
    refine lv_goto (tgt := 1239) hx hb dL_law_185 (by decide) ?_
    exact K _ _ _ ⟨S', M', _, zt_ok_promise hT i1, hF1, ho1, hn1, hM1, I, lv_sub hl [2, 3, 4, 5, 6] rfl⟩

set_option maxRecDepth 100000 in
set_option maxHeartbeats 4000000 in
theorem k_law_sign (C0 : zLC p l s m c b L xs) (hi : i + 4 ≤ L) (hc : cells + 10 ≤ 601024) (hs : slots + 300 ≤ 7293034) (I0 : zLI g s b x mo oa ar i H locs ls)
    (K : ∀ (H : Heap) (locs : List Loc) (ls : Array Slot), zLI g s b x mo oa ar i H locs ls → W p l e room_1 s m #[Value.ref b] below meth c H locs (cells + 10) (slots + 300) Q (F0 m 1239 ls [])) : W p l e room_1 s m #[Value.ref b] below meth c H locs cells slots Q (F0 m 188 ls []) := by
  obtain ⟨hst, C, hX, hbl, hL⟩ := C0
  obtain ⟨S, M, T, hT, hF, ho, ho1, hM, I, hl⟩ := I0
  have hx := C.1
  have hb := C.2.1
  have hbA : ¬ (fun q : Nat => s.heap.size ≤ q) b := Nat.not_le.mpr hbl
  refine lv_aload_n hx hb dL_law_188 rfl (lv_at hl 1 rfl) ?_
  refine lv_aload_n hx hb dL_law_189 rfl (lv_at hl 0 rfl) ?_
  refine lv_iload hx hb dL_law_190 (lv_at hl 4 rfl) ?_
  refine lv_iconst (v := 1) hx hb dL_law_192 (by decide) ?_
  refine lv_iadd hx hb dL_law_193 ?_
  refine zr_top (y := nI (i + 1)) (nI_add i 1) ?_
  refine va_sld hx hb hX hbl hbA I.S (vp_in_nI (n := i + 1) (by omega) (by omega)) dL_law_194 ?_
  refine lv_topi (fun i1 e1 => ?_)
  refine lv_aload_n hx hb dL_law_195 rfl (lv_at hl 3 rfl) ?_
  have hcb : zc_prom T i1 ≤ 3 := zb_prom T i1
  refine zc_SH (n := 3) (rest := []) C I (k_L_sign l g hst S T x oa i1 hT hF ho ho1) zm_283 zm_284 zm_23 zm_285 rfl hl.1 dL_law_196 (by decide +kernel) rfl ⟨Nat.le_of_ble_eq_true rfl, Nat.le_of_ble_eq_true rfl⟩ (Nat.le_of_ble_eq_true rfl) ⟨hc, hs⟩ (fun v S' H locs hq I => ?_)
  obtain ⟨rfl, hF1, ho2, hn1, hJ⟩ := hq
  have ho1 := ho2
  have I := I.swap
  refine W.widen (k := cells + 10) (n := slots + 300) (Nat.le_refl _) (Nat.le_refl _) ?_
  refine lv_istore (lv' := [(5, .int (nI (zc_prom T i1))), (0, .ref b), (1, .ref x), (2, .ref mo), (3, .ref oa), (4, .int (nI i))]) hx hb dL_law_199 hl (by decide) rfl (fun ls hl => ?_)
  refine lv_aload_n hx hb dL_law_201 rfl (lv_at hl 3 rfl) ?_
  refine lv_aload_n hx hb dL_law_202 rfl (lv_at hl 1 rfl) ?_
  refine lv_iload hx hb dL_law_203 (lv_at hl 5 rfl) ?_
  refine lv_iconst (v := 1) hx hb dL_law_205 (by decide) ?_
  refine lv_iadd hx hb dL_law_206 ?_
  refine zr_top (y := nI (i + 1)) (nI_add i 1) ?_
  refine va_sld hx hb hX hbl hbA I.S (vp_in_nI (n := i + 1) (by omega) (by omega)) dL_law_207 ?_
  refine zr_top (y := i1) e1.symm ?_
  refine zc_V (n := 1) (rest := []) C I hM.1 rfl rfl (k_X4_sign l g M T mo ar hT hM i1) zm_578 zm_579 zm_580 zm_28 zm_581 rfl hl.1 dL_law_208 (by decide +kernel) rfl ⟨Nat.le_of_ble_eq_true rfl, Nat.le_of_ble_eq_true rfl⟩ (Nat.le_of_ble_eq_true rfl) ⟨hc, hs⟩ (fun v M' H locs hq I => ?_)
  obtain ⟨h20, hM1, hkM, v1, rfl, hw⟩ := hq
  refine W.widen (k := cells + 10) (n := slots + 300) (Nat.le_refl _) (Nat.le_refl _) ?_
  refine lv_istore (lv' := [(6, .int v1), (5, .int (nI (zc_prom T i1))), (0, .ref b), (1, .ref x), (2, .ref mo), (3, .ref oa), (4, .int (nI i))]) hx hb dL_law_211 hl (by decide) rfl (fun ls hl => ?_)
  refine lv_aload_n hx hb dL_law_213 rfl (lv_at hl 4 rfl) ?_
  refine zc_V (n := 0) (rest := []) C I hM1.1 rfl rfl (k_X4_thrown l g M' mo hM1.1) zm_563 zm_564 zm_565 zm_28 zm_566 rfl hl.1 dL_law_214 (by decide +kernel) rfl ⟨Nat.le_of_ble_eq_true rfl, Nat.le_of_ble_eq_true rfl⟩ (Nat.le_of_ble_eq_true rfl) ⟨hc, hs⟩ (fun v M2 H locs hq I => ?_)
  obtain ⟨rfl, eM⟩ := hq
  rw [eM] at I
  have I := I.swap
  refine W.widen (k := cells + 10) (n := slots + 300) (Nat.le_refl _) (Nat.le_refl _) ?_
  refine zr_top (y := nI (zc_prom T i1)) (h20) ?_
  refine lv_iload hx hb dL_law_217 (lv_at hl 1 rfl) ?_
  refine lv_icmp_eq (tgt := 224) hx hb dL_law_219 (by decide) (fun _ => ?_) (fun h9 => absurd ((nI_eq (a := zc_prom T i1) (b := zc_prom T i1) (by omega) (by omega)).mpr (rfl)) h9)
  refine lv_iload hx hb dL_law_224 (lv_at hl 1 rfl) ?_
  refine lv_if_ne (tgt := 241) hx hb dL_law_226 (by decide) (fun c8 => ?_) (fun c8 => ?_)
  · have c8 : ¬ (zc_prom T i1) = 0 := fun h9 => c8 ((nI_eq (a := zc_prom T i1) (b := 0) (by omega) (by omega)).mpr h9)
    refine lv_goto (tgt := 1239) hx hb dL_law_241 (by decide) ?_
    exact K _ _ _ ⟨S', M', _, hT, hF1, ho1, hn1, hM1, I, lv_sub hl [2, 3, 4, 5, 6] rfl⟩
  · have c8 : (zc_prom T i1) = 0 := (nI_eq (a := zc_prom T i1) (b := 0) (by omega) (by omega)).mp c8
    refine lv_aload_n hx hb dL_law_229 rfl (lv_at hl 5 rfl) ?_
    refine lv_iconst (v := 0) hx hb dL_law_230 (by decide) ?_
    refine zr_lald (v := (nI (zd_sign (T.2 0 (zx i1)))).toInt64) C I ho1 (by rw [hn1]; exact (show vp_in (nI 0) 1 from vp_in_nI (by omega) (by omega))) (by rw [show (0 : Int32).toNatClampNeg = 0 from by decide]; exact hJ c8) dL_law_231 ?_
    refine lv_iload hx hb dL_law_232 (lv_at hl 0 rfl) ?_
    refine zr_top (y := nI (zd_sign (T.2 0 (zx i1)))) (hw c8) ?_
    refine lv_i2l hx hb dL_law_234 rfl ?_
    refine W.lcmp hx hb dL_law_235 ?_
    refine zr_top (y := 0) (lg_self _) ?_
    refine lv_if_eq (tgt := 241) hx hb dL_law_236 (by decide) (fun _ => ?_) (fun h9 => absurd ((nI_eq (a := 0) (b := 0) (by omega) (by omega)).mpr (rfl)) h9)
    refine lv_goto (tgt := 1239) hx hb dL_law_241 (by decide) ?_
    exact K _ _ _ ⟨S', M', _, hT, hF1, ho1, hn1, hM1, I, lv_sub hl [2, 3, 4, 5, 6] rfl⟩

set_option maxRecDepth 100000 in
set_option maxHeartbeats 4000000 in
theorem k_law_seedsOf (C0 : zLC p l s m c b L xs) (hi : i + 4 ≤ L) (hc : cells + 10 ≤ 601024) (hs : slots + 300 ≤ 7293034) (I0 : zLI g s b x mo oa ar i H locs ls)
    (K : ∀ (H : Heap) (locs : List Loc) (ls : Array Slot), zLI g s b x mo oa ar i H locs ls → W p l e room_1 s m #[Value.ref b] below meth c H locs (cells + 10) (slots + 300) Q (F0 m 1239 ls [])) : W p l e room_1 s m #[Value.ref b] below meth c H locs cells slots Q (F0 m 244 ls []) := by
  obtain ⟨hst, C, hX, hbl, hL⟩ := C0
  obtain ⟨S, M, T, hT, hF, ho, ho1, hM, I, hl⟩ := I0
  have hx := C.1
  have hb := C.2.1
  have hbA : ¬ (fun q : Nat => s.heap.size ≤ q) b := Nat.not_le.mpr hbl
  refine lv_aload_n hx hb dL_law_244 rfl (lv_at hl 1 rfl) ?_
  refine lv_aload_n hx hb dL_law_245 rfl (lv_at hl 0 rfl) ?_
  refine lv_iload hx hb dL_law_246 (lv_at hl 4 rfl) ?_
  refine lv_iconst (v := 1) hx hb dL_law_248 (by decide) ?_
  refine lv_iadd hx hb dL_law_249 ?_
  refine zr_top (y := nI (i + 1)) (nI_add i 1) ?_
  refine va_sld hx hb hX hbl hbA I.S (vp_in_nI (n := i + 1) (by omega) (by omega)) dL_law_250 ?_
  refine lv_topi (fun i1 e1 => ?_)
  refine lv_aload_n hx hb dL_law_251 rfl (lv_at hl 3 rfl) ?_
  have hcb : zc_prom T i1 ≤ 3 := zb_prom T i1
  refine zc_SH (n := 3) (rest := []) C I (k_L_seedsOf l g hst S T x oa i1 hT hF ho ho1) zm_311 zm_312 zm_23 zm_313 rfl hl.1 dL_law_252 (by decide +kernel) rfl ⟨Nat.le_of_ble_eq_true rfl, Nat.le_of_ble_eq_true rfl⟩ (Nat.le_of_ble_eq_true rfl) ⟨hc, hs⟩ (fun v S' H locs hq I => ?_)
  obtain ⟨rfl, hF1, ho2, hn1, hJ⟩ := hq
  have ho1 := ho2
  have I := I.swap
  refine W.widen (k := cells + 10) (n := slots + 300) (Nat.le_refl _) (Nat.le_refl _) ?_
  refine lv_istore (lv' := [(5, .int (nI (zc_prom T i1))), (0, .ref b), (1, .ref x), (2, .ref mo), (3, .ref oa), (4, .int (nI i))]) hx hb dL_law_255 hl (by decide) rfl (fun ls hl => ?_)
  refine lv_aload_n hx hb dL_law_257 rfl (lv_at hl 3 rfl) ?_
  refine lv_aload_n hx hb dL_law_258 rfl (lv_at hl 1 rfl) ?_
  refine lv_iload hx hb dL_law_259 (lv_at hl 5 rfl) ?_
  refine lv_iconst (v := 1) hx hb dL_law_261 (by decide) ?_
  refine lv_iadd hx hb dL_law_262 ?_
  refine zr_top (y := nI (i + 1)) (nI_add i 1) ?_
  refine va_sld hx hb hX hbl hbA I.S (vp_in_nI (n := i + 1) (by omega) (by omega)) dL_law_263 ?_
  refine zr_top (y := i1) e1.symm ?_
  refine zc_V (n := 1) (rest := []) C I hM.1 rfl rfl (k_X4_seedsOf l g M T mo ar hT hM i1) zm_591 zm_592 zm_593 zm_28 zm_594 rfl hl.1 dL_law_264 (by decide +kernel) rfl ⟨Nat.le_of_ble_eq_true rfl, Nat.le_of_ble_eq_true rfl⟩ (Nat.le_of_ble_eq_true rfl) ⟨hc, hs⟩ (fun v M' H locs hq I => ?_)
  obtain ⟨h20, hM1, hkM, v1, rfl, hw⟩ := hq
  refine W.widen (k := cells + 10) (n := slots + 300) (Nat.le_refl _) (Nat.le_refl _) ?_
  refine lv_istore (lv' := [(6, .int v1), (5, .int (nI (zc_prom T i1))), (0, .ref b), (1, .ref x), (2, .ref mo), (3, .ref oa), (4, .int (nI i))]) hx hb dL_law_267 hl (by decide) rfl (fun ls hl => ?_)
  refine lv_aload_n hx hb dL_law_269 rfl (lv_at hl 4 rfl) ?_
  refine zc_V (n := 0) (rest := []) C I hM1.1 rfl rfl (k_X4_thrown l g M' mo hM1.1) zm_563 zm_564 zm_565 zm_28 zm_566 rfl hl.1 dL_law_270 (by decide +kernel) rfl ⟨Nat.le_of_ble_eq_true rfl, Nat.le_of_ble_eq_true rfl⟩ (Nat.le_of_ble_eq_true rfl) ⟨hc, hs⟩ (fun v M2 H locs hq I => ?_)
  obtain ⟨rfl, eM⟩ := hq
  rw [eM] at I
  have I := I.swap
  refine W.widen (k := cells + 10) (n := slots + 300) (Nat.le_refl _) (Nat.le_refl _) ?_
  refine zr_top (y := nI (zc_prom T i1)) (h20) ?_
  refine lv_iload hx hb dL_law_273 (lv_at hl 1 rfl) ?_
  refine lv_icmp_eq (tgt := 280) hx hb dL_law_275 (by decide) (fun _ => ?_) (fun h9 => absurd ((nI_eq (a := zc_prom T i1) (b := zc_prom T i1) (by omega) (by omega)).mpr (rfl)) h9)
  refine lv_iload hx hb dL_law_280 (lv_at hl 1 rfl) ?_
  refine lv_if_ne (tgt := 297) hx hb dL_law_282 (by decide) (fun c8 => ?_) (fun c8 => ?_)
  · have c8 : ¬ (zc_prom T i1) = 0 := fun h9 => c8 ((nI_eq (a := zc_prom T i1) (b := 0) (by omega) (by omega)).mpr h9)
    refine lv_goto (tgt := 1239) hx hb dL_law_297 (by decide) ?_
    exact K _ _ _ ⟨S', M', _, hT, hF1, ho1, hn1, hM1, I, lv_sub hl [2, 3, 4, 5, 6] rfl⟩
  · have c8 : (zc_prom T i1) = 0 := (nI_eq (a := zc_prom T i1) (b := 0) (by omega) (by omega)).mp c8
    refine lv_aload_n hx hb dL_law_285 rfl (lv_at hl 5 rfl) ?_
    refine lv_iconst (v := 0) hx hb dL_law_286 (by decide) ?_
    refine zr_lald (v := (nI (zd_seeds (T.2 0 (zx i1)))).toInt64) C I ho1 (by rw [hn1]; exact (show vp_in (nI 0) 1 from vp_in_nI (by omega) (by omega))) (by rw [show (0 : Int32).toNatClampNeg = 0 from by decide]; exact hJ c8) dL_law_287 ?_
    refine lv_iload hx hb dL_law_288 (lv_at hl 0 rfl) ?_
    refine zr_top (y := nI (zd_seeds (T.2 0 (zx i1)))) (hw c8) ?_
    refine lv_i2l hx hb dL_law_290 rfl ?_
    refine W.lcmp hx hb dL_law_291 ?_
    refine zr_top (y := 0) (lg_self _) ?_
    refine lv_if_eq (tgt := 297) hx hb dL_law_292 (by decide) (fun _ => ?_) (fun h9 => absurd ((nI_eq (a := 0) (b := 0) (by omega) (by omega)).mpr (rfl)) h9)
    refine lv_goto (tgt := 1239) hx hb dL_law_297 (by decide) ?_
    exact K _ _ _ ⟨S', M', _, hT, hF1, ho1, hn1, hM1, I, lv_sub hl [2, 3, 4, 5, 6] rfl⟩

set_option maxRecDepth 100000 in
set_option maxHeartbeats 4000000 in
theorem k_law_open (C0 : zLC p l s m c b L xs) (hi : i + 4 ≤ L) (hc : cells + 10 ≤ 601024) (hs : slots + 300 ≤ 7293034) (I0 : zLI g s b x mo oa ar i H locs ls)
    (K : ∀ (H : Heap) (locs : List Loc) (ls : Array Slot), zLI g s b x mo oa ar i H locs ls → W p l e room_1 s m #[Value.ref b] below meth c H locs (cells + 10) (slots + 300) Q (F0 m 1239 ls [])) : W p l e room_1 s m #[Value.ref b] below meth c H locs cells slots Q (F0 m 300 ls []) := by
  obtain ⟨hst, C, hX, hbl, hL⟩ := C0
  obtain ⟨S, M, T, hT, hF, ho, ho1, hM, I, hl⟩ := I0
  have hx := C.1
  have hb := C.2.1
  have hbA : ¬ (fun q : Nat => s.heap.size ≤ q) b := Nat.not_le.mpr hbl
  refine lv_aload_n hx hb dL_law_300 rfl (lv_at hl 1 rfl) ?_
  refine lv_aload_n hx hb dL_law_301 rfl (lv_at hl 0 rfl) ?_
  refine lv_iload hx hb dL_law_302 (lv_at hl 4 rfl) ?_
  refine lv_iconst (v := 1) hx hb dL_law_304 (by decide) ?_
  refine lv_iadd hx hb dL_law_305 ?_
  refine zr_top (y := nI (i + 1)) (nI_add i 1) ?_
  refine va_sld hx hb hX hbl hbA I.S (vp_in_nI (n := i + 1) (by omega) (by omega)) dL_law_306 ?_
  refine lv_topi (fun i1 e1 => ?_)
  refine lv_aload_n hx hb dL_law_307 rfl (lv_at hl 3 rfl) ?_
  have hcb : zc_open T i1 ≤ 3 := zb_open T i1
  refine zc_SH (n := 3) (rest := []) C I (k_L_open l g hst S T x oa i1 hT hF ho ho1) zm_325 zm_326 zm_23 zm_327 rfl hl.1 dL_law_308 (by decide +kernel) rfl ⟨Nat.le_of_ble_eq_true rfl, Nat.le_of_ble_eq_true rfl⟩ (Nat.le_of_ble_eq_true rfl) ⟨hc, hs⟩ (fun v S' H locs hq I => ?_)
  obtain ⟨rfl, hF1, ho2, hn1, hJ⟩ := hq
  have ho1 := ho2
  have I := I.swap
  refine W.widen (k := cells + 10) (n := slots + 300) (Nat.le_refl _) (Nat.le_refl _) ?_
  refine lv_istore (lv' := [(5, .int (nI (zc_open T i1))), (0, .ref b), (1, .ref x), (2, .ref mo), (3, .ref oa), (4, .int (nI i))]) hx hb dL_law_311 hl (by decide) rfl (fun ls hl => ?_)
  refine lv_aload_n hx hb dL_law_313 rfl (lv_at hl 3 rfl) ?_
  refine lv_aload_n hx hb dL_law_314 rfl (lv_at hl 1 rfl) ?_
  refine lv_iload hx hb dL_law_315 (lv_at hl 5 rfl) ?_
  refine lv_iconst (v := 1) hx hb dL_law_317 (by decide) ?_
  refine lv_iadd hx hb dL_law_318 ?_
  refine zr_top (y := nI (i + 1)) (nI_add i 1) ?_
  refine va_sld hx hb hX hbl hbA I.S (vp_in_nI (n := i + 1) (by omega) (by omega)) dL_law_319 ?_
  refine zr_top (y := i1) e1.symm ?_
  refine zc_V (n := 1) (rest := []) C I hM.1 rfl rfl (k_X4_open l g M T mo ar hT hM i1) zm_596 zm_597 zm_598 zm_28 zm_599 rfl hl.1 dL_law_320 (by decide +kernel) rfl ⟨Nat.le_of_ble_eq_true rfl, Nat.le_of_ble_eq_true rfl⟩ (Nat.le_of_ble_eq_true rfl) ⟨hc, hs⟩ (fun v M' H locs hq I => ?_)
  obtain ⟨h20, hM1, hkM, v1, rfl, hw⟩ := hq
  refine W.widen (k := cells + 10) (n := slots + 300) (Nat.le_refl _) (Nat.le_refl _) ?_
  refine lv_istore (lv' := [(6, .int v1), (5, .int (nI (zc_open T i1))), (0, .ref b), (1, .ref x), (2, .ref mo), (3, .ref oa), (4, .int (nI i))]) hx hb dL_law_323 hl (by decide) rfl (fun ls hl => ?_)
  refine lv_aload_n hx hb dL_law_325 rfl (lv_at hl 4 rfl) ?_
  refine zc_V (n := 0) (rest := []) C I hM1.1 rfl rfl (k_X4_thrown l g M' mo hM1.1) zm_563 zm_564 zm_565 zm_28 zm_566 rfl hl.1 dL_law_326 (by decide +kernel) rfl ⟨Nat.le_of_ble_eq_true rfl, Nat.le_of_ble_eq_true rfl⟩ (Nat.le_of_ble_eq_true rfl) ⟨hc, hs⟩ (fun v M2 H locs hq I => ?_)
  obtain ⟨rfl, eM⟩ := hq
  rw [eM] at I
  have I := I.swap
  refine W.widen (k := cells + 10) (n := slots + 300) (Nat.le_refl _) (Nat.le_refl _) ?_
  refine zr_top (y := nI (zc_open T i1)) (h20) ?_
  refine lv_iload hx hb dL_law_329 (lv_at hl 1 rfl) ?_
  refine lv_icmp_eq (tgt := 336) hx hb dL_law_331 (by decide) (fun _ => ?_) (fun h9 => absurd ((nI_eq (a := zc_open T i1) (b := zc_open T i1) (by omega) (by omega)).mpr (rfl)) h9)
  refine lv_iload hx hb dL_law_336 (lv_at hl 1 rfl) ?_
  refine lv_if_ne (tgt := 353) hx hb dL_law_338 (by decide) (fun c8 => ?_) (fun c8 => ?_)
  · have c8 : ¬ (zc_open T i1) = 0 := fun h9 => c8 ((nI_eq (a := zc_open T i1) (b := 0) (by omega) (by omega)).mpr h9)
    refine lv_goto (tgt := 1239) hx hb dL_law_353 (by decide) ?_
    exact K _ _ _ ⟨S', M', _, zt_ok_open hT i1, hF1, ho1, hn1, hM1, I, lv_sub hl [2, 3, 4, 5, 6] rfl⟩
  · have c8 : (zc_open T i1) = 0 := (nI_eq (a := zc_open T i1) (b := 0) (by omega) (by omega)).mp c8
    refine lv_aload_n hx hb dL_law_341 rfl (lv_at hl 5 rfl) ?_
    refine lv_iconst (v := 0) hx hb dL_law_342 (by decide) ?_
    refine zr_lald (v := (nI (T.2 0 (zx i1))).toInt64) C I ho1 (by rw [hn1]; exact (show vp_in (nI 0) 1 from vp_in_nI (by omega) (by omega))) (by rw [show (0 : Int32).toNatClampNeg = 0 from by decide]; exact hJ c8) dL_law_343 ?_
    refine lv_iload hx hb dL_law_344 (lv_at hl 0 rfl) ?_
    refine zr_top (y := nI (T.2 0 (zx i1))) (hw c8) ?_
    refine lv_i2l hx hb dL_law_346 rfl ?_
    refine W.lcmp hx hb dL_law_347 ?_
    refine zr_top (y := 0) (lg_self _) ?_
    refine lv_if_eq (tgt := 353) hx hb dL_law_348 (by decide) (fun _ => ?_) (fun h9 => absurd ((nI_eq (a := 0) (b := 0) (by omega) (by omega)).mpr (rfl)) h9)
    refine lv_goto (tgt := 1239) hx hb dL_law_353 (by decide) ?_
    exact K _ _ _ ⟨S', M', _, zt_ok_open hT i1, hF1, ho1, hn1, hM1, I, lv_sub hl [2, 3, 4, 5, 6] rfl⟩

end ZLAW
