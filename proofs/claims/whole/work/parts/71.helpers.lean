/-! the law's helpers -/
def zLQ (g : zG) (S' : zS) (T' : zT) (x oa code : Nat) (val : Int64) (w : Option Value) : Prop := w = some (.int (nI code)) ∧ FE g S' T' x ∧ zh_at S' 9 oa ∧ zh_N S' oa = 1 ∧ (code = 0 → zh_J S' oa 0 = val)
theorem FE_J {g : zG} {S : zS} {T : zT} {x : Nat} (h : FE g S T x) (a : Nat) (f : Nat → Int64) : FE g (zh_sJ S a f) T x := by
  obtain ⟨pl, lo, pt, ty, pa, la, ap, ad, ae, hF⟩ := h
  have hF0 := hF
  obtain ⟨⟨f1, f2, f3, f4, f5⟩, ⟨f6, f7, f8, f9, f10⟩, f11, f12, f13, f14, f15, f16, f17, f18, f19⟩ := hF
  exact ⟨pl, lo, pt, ty, pa, la, ap, ad, ae, FR_mk hF0 (fun k a h => ⟨h, rfl, rfl, fun _ => rfl⟩) rfl (fun a _ => rfl) f10 (fun i hi => (f15 i hi).2.2) f16 id⟩
theorem zLQ_ok {g : zG} {S : zS} {T : zT} {x oa code : Nat} {val : Int64} (hF : FE g S T x) (ha : zh_at S 9 oa) (hn : zh_N S oa = 1) (hc : code = 0) : zLQ g (zh_sJ S oa (vp_updL (zh_J S oa) (0 : Int32).toNatClampNeg val)) T x oa code val (some (.int 0)) := by
  refine ⟨by rw [hc]; rfl, FE_J hF _ _, ha, hn, fun _ => ?_⟩
  have e : (0 : Int32).toNatClampNeg = 0 := by decide
  show va_up (zh_J S) oa _ oa 0 = _
  rw [va_up_self, e]
  simp [vp_updL]
theorem zLQ_no {g : zG} {S : zS} {T : zT} {x oa code : Nat} {val : Int64} (k : Nat) (hF : FE g S T x) (ha : zh_at S 9 oa) (hn : zh_N S oa = 1) (hc : code = k) (h0 : k ≠ 0) : zLQ g S T x oa code val (some (.int (nI k))) := ⟨by rw [hc], hF, ha, hn, fun h => absurd (hc.symm.trans h) h0⟩

set_option maxRecDepth 100000 in
set_option maxHeartbeats 4000000 in
theorem k_L_promise (l : Launch) (g : zG) (hst : l.stackTraces = false) (S : zS) (T : zT) (x oa : Nat) (i : Int32) (hT : zt_ok T) (hF : FE g S T x) (ho : zh_at S 9 oa) (ho1 : zh_N S oa = 1) : zMH l yL_promise cL_promise 4 (some .int) [(0, 9, 12, 13), (0, 9, 15, 15)] (zrm 9 10 300) g [.ref x, .int i, .ref oa] S (fun w S' => zLQ g S' (zs_promise T i) x oa (zc_promise T i) ((nI T.1.1).toInt64) w) := by
  refine zMH_of (nm := "promise") (by decide +kernel) rfl (Nat.le_of_ble_eq_true rfl) ?_
  intro p e s m args below meth c A ls C hr hlk hin htab I hl
  have C : CallFix p m c cL_promise 4 s args zc_W RL := C
  have hx := C.1
  have hb := C.2.1
  have hl : lv_has ls 4 [(0, .ref x), (1, .int i), (2, .ref oa)] := hl
  obtain ⟨pl, lo, pt, ty, pa, la, ap, ad, ae, hF9⟩ := id hF
  refine lv_aload_n hx hb dL_promise_0 rfl (lv_at hl 2 rfl) ?_
  refine lv_iconst (v := 0) hx hb dL_promise_1 (by decide) ?_
  refine lv_aload_n hx hb dL_promise_2 rfl (lv_at hl 0 rfl) ?_
  refine lv_iload_n hx hb dL_promise_3 rfl (lv_at hl 1 rfl) ?_
  refine zc_VX (n := 1) (rest := [.int 0, .ref oa]) C I hF9.1.1 rfl rfl (k_X3_promise l g hst S T x pl lo pt ty pa la ap ad ae hT hF9 i) zm_127 zm_128 zm_129 zm_24 zm_130 rfl hl.1 dL_promise_4 (by decide +kernel) rfl ⟨Nat.le_of_ble_eq_true rfl, Nat.le_of_ble_eq_true rfl⟩ (Nat.le_of_ble_eq_true rfl) ⟨Nat.le_of_ble_eq_true rfl, Nat.le_of_ble_eq_true rfl⟩ (fun E ce q9 S' H locs hq I h1 h2 h3 => ?_) (fun v S' H locs hq I => ?_)
  · obtain ⟨hq1, eS⟩ := hq
    rcases hq1 with ⟨hc, rfl⟩ | ⟨hc, rfl⟩
    · rw [eS] at I
      refine zr_catch C I htab [] ⟨0, 9, 12, 13⟩ [⟨0, 9, 15, 15⟩] rfl (by decide) (by decide) (fun z hz => absurd hz List.not_mem_nil) zm_125 (by decide +kernel) h1 h2 h3 ?_
      refine lv_astore_n (lv' := [(3, .ref q9), (0, .ref x), (1, .int i), (2, .ref oa)]) hx hb dL_promise_12 rfl hl (by decide) rfl (fun ls hl => ?_)
      refine lv_iconst (v := 1) hx hb dL_promise_13 (by decide) ?_
      exact zr_iret C I hr hlk (by rw [show zs_promise T i = T from if_neg (by rw [hc]; decide)]; exact zLQ_no 1 hF ho ho1 hc (by decide)) (Nat.le_of_ble_eq_true rfl) (Nat.le_of_ble_eq_true rfl) dL_promise_14
    · rw [eS] at I
      refine zr_catch C I htab [⟨0, 9, 12, 13⟩] ⟨0, 9, 15, 15⟩ [] rfl (by decide) (by decide) (fun z hz => by rw [List.mem_singleton.mp hz]; exact ⟨by decide, "java/lang/IllegalArgumentException", zm_125, by decide⟩) zm_126 (by decide +kernel) h1 h2 h3 ?_
      refine lv_astore_n (lv' := [(3, .ref q9), (0, .ref x), (1, .int i), (2, .ref oa)]) hx hb dL_promise_15 rfl hl (by decide) rfl (fun ls hl => ?_)
      refine lv_iconst (v := 2) hx hb dL_promise_16 (by decide) ?_
      exact zr_iret C I hr hlk (by rw [show zs_promise T i = T from if_neg (by rw [hc]; decide)]; exact zLQ_no 2 hF ho ho1 hc (by decide)) (Nat.le_of_ble_eq_true rfl) (Nat.le_of_ble_eq_true rfl) dL_promise_17
  · obtain ⟨hc, rfl, hF8, hk8⟩ := hq
    have ho2 : zh_N S' oa = 1 := (hk8 oa ho.1).2.2.1.trans ho1
    refine lv_i2l hx hb dL_promise_7 rfl ?_
    refine zr_last C I ⟨(hk8 oa ho.1).1, (hk8 oa ho.1).2.1.trans ho.2⟩ (by rw [ho2]; exact (show vp_in (nI 0) 1 from vp_in_nI (by omega) (by omega))) dL_promise_8 (fun H locs I => ?_)
    refine lv_goto (tgt := 18) hx hb dL_promise_9 (by decide) ?_
    refine lv_iconst (v := 0) hx hb dL_promise_18 (by decide) ?_
    exact zr_iret C I hr hlk (zLQ_ok hF8 (⟨(hk8 oa ho.1).1, (hk8 oa ho.1).2.1.trans ho.2⟩) ho2 hc) (Nat.le_of_ble_eq_true rfl) (Nat.le_of_ble_eq_true rfl) dL_promise_19

set_option maxRecDepth 100000 in
set_option maxHeartbeats 4000000 in
theorem k_L_sign (l : Launch) (g : zG) (hst : l.stackTraces = false) (S : zS) (T : zT) (x oa : Nat) (i : Int32) (hT : zt_ok T) (hF : FE g S T x) (ho : zh_at S 9 oa) (ho1 : zh_N S oa = 1) : zMH l yL_sign cL_sign 4 (some .int) [(0, 9, 12, 20)] (zrm 9 10 300) g [.ref x, .int i, .ref oa] S (fun w S' => zLQ g S' T x oa (zc_prom T i) ((nI (zd_sign (T.2 0 (zx i)))).toInt64) w) := by
  refine zMH_of (nm := "sign") (by decide +kernel) rfl (Nat.le_of_ble_eq_true rfl) ?_
  intro p e s m args below meth c A ls C hr hlk hin htab I hl
  have C : CallFix p m c cL_sign 4 s args zc_W RL := C
  have hx := C.1
  have hb := C.2.1
  have hl : lv_has ls 4 [(0, .ref x), (1, .int i), (2, .ref oa)] := hl
  obtain ⟨pl, lo, pt, ty, pa, la, ap, ad, ae, hF9⟩ := id hF
  refine lv_aload_n hx hb dL_sign_0 rfl (lv_at hl 2 rfl) ?_
  refine lv_iconst (v := 0) hx hb dL_sign_1 (by decide) ?_
  refine lv_aload_n hx hb dL_sign_2 rfl (lv_at hl 0 rfl) ?_
  refine lv_iload_n hx hb dL_sign_3 rfl (lv_at hl 1 rfl) ?_
  refine zc_VX (n := 1) (rest := [.int 0, .ref oa]) C I hF9.1.1 rfl rfl (k_X3_sign l g hst S T x pl lo pt ty pa la ap ad ae hT hF9 i) zm_287 zm_288 zm_289 zm_24 zm_290 rfl hl.1 dL_sign_4 (by decide +kernel) rfl ⟨Nat.le_of_ble_eq_true rfl, Nat.le_of_ble_eq_true rfl⟩ (Nat.le_of_ble_eq_true rfl) ⟨Nat.le_of_ble_eq_true rfl, Nat.le_of_ble_eq_true rfl⟩ (fun E ce q9 S' H locs hq I h1 h2 h3 => ?_) (fun v S' H locs hq I => ?_)
  · obtain ⟨hc, rfl, eS⟩ := hq
    rw [eS] at I
    refine zr_catch C I htab [] ⟨0, 9, 12, 20⟩ [] rfl (by decide) (by decide) (fun z hz => absurd hz List.not_mem_nil) zm_286 (by decide +kernel) h1 h2 h3 ?_
    refine lv_astore_n (lv' := [(3, .ref q9), (0, .ref x), (1, .int i), (2, .ref oa)]) hx hb dL_sign_12 rfl hl (by decide) rfl (fun ls hl => ?_)
    refine lv_iconst (v := 1) hx hb dL_sign_13 (by decide) ?_
    exact zr_iret C I hr hlk (zLQ_no 1 hF ho ho1 hc (by decide)) (Nat.le_of_ble_eq_true rfl) (Nat.le_of_ble_eq_true rfl) dL_sign_14
  · obtain ⟨hc, rfl, eS⟩ := hq
    rw [eS] at I
    have ho2 : zh_N S oa = 1 := ho1
    refine lv_i2l hx hb dL_sign_7 rfl ?_
    refine zr_last C I ho (by rw [ho2]; exact (show vp_in (nI 0) 1 from vp_in_nI (by omega) (by omega))) dL_sign_8 (fun H locs I => ?_)
    refine lv_goto (tgt := 15) hx hb dL_sign_9 (by decide) ?_
    refine lv_iconst (v := 0) hx hb dL_sign_15 (by decide) ?_
    exact zr_iret C I hr hlk (zLQ_ok hF ho ho2 hc) (Nat.le_of_ble_eq_true rfl) (Nat.le_of_ble_eq_true rfl) dL_sign_16

set_option maxRecDepth 100000 in
set_option maxHeartbeats 4000000 in
theorem k_L_seedsOf (l : Launch) (g : zG) (hst : l.stackTraces = false) (S : zS) (T : zT) (x oa : Nat) (i : Int32) (hT : zt_ok T) (hF : FE g S T x) (ho : zh_at S 9 oa) (ho1 : zh_N S oa = 1) : zMH l yL_seedsOf cL_seedsOf 4 (some .int) [(0, 9, 12, 20)] (zrm 9 10 300) g [.ref x, .int i, .ref oa] S (fun w S' => zLQ g S' T x oa (zc_prom T i) ((nI (zd_seeds (T.2 0 (zx i)))).toInt64) w) := by
  refine zMH_of (nm := "seedsOf") (by decide +kernel) rfl (Nat.le_of_ble_eq_true rfl) ?_
  intro p e s m args below meth c A ls C hr hlk hin htab I hl
  have C : CallFix p m c cL_seedsOf 4 s args zc_W RL := C
  have hx := C.1
  have hb := C.2.1
  have hl : lv_has ls 4 [(0, .ref x), (1, .int i), (2, .ref oa)] := hl
  obtain ⟨pl, lo, pt, ty, pa, la, ap, ad, ae, hF9⟩ := id hF
  refine lv_aload_n hx hb dL_seedsOf_0 rfl (lv_at hl 2 rfl) ?_
  refine lv_iconst (v := 0) hx hb dL_seedsOf_1 (by decide) ?_
  refine lv_aload_n hx hb dL_seedsOf_2 rfl (lv_at hl 0 rfl) ?_
  refine lv_iload_n hx hb dL_seedsOf_3 rfl (lv_at hl 1 rfl) ?_
  refine zc_VX (n := 1) (rest := [.int 0, .ref oa]) C I hF9.1.1 rfl rfl (k_X3_seedsOf l g hst S T x pl lo pt ty pa la ap ad ae hT hF9 i) zm_314 zm_315 zm_316 zm_24 zm_317 rfl hl.1 dL_seedsOf_4 (by decide +kernel) rfl ⟨Nat.le_of_ble_eq_true rfl, Nat.le_of_ble_eq_true rfl⟩ (Nat.le_of_ble_eq_true rfl) ⟨Nat.le_of_ble_eq_true rfl, Nat.le_of_ble_eq_true rfl⟩ (fun E ce q9 S' H locs hq I h1 h2 h3 => ?_) (fun v S' H locs hq I => ?_)
  · obtain ⟨hc, rfl, eS⟩ := hq
    rw [eS] at I
    refine zr_catch C I htab [] ⟨0, 9, 12, 20⟩ [] rfl (by decide) (by decide) (fun z hz => absurd hz List.not_mem_nil) zm_286 (by decide +kernel) h1 h2 h3 ?_
    refine lv_astore_n (lv' := [(3, .ref q9), (0, .ref x), (1, .int i), (2, .ref oa)]) hx hb dL_seedsOf_12 rfl hl (by decide) rfl (fun ls hl => ?_)
    refine lv_iconst (v := 1) hx hb dL_seedsOf_13 (by decide) ?_
    exact zr_iret C I hr hlk (zLQ_no 1 hF ho ho1 hc (by decide)) (Nat.le_of_ble_eq_true rfl) (Nat.le_of_ble_eq_true rfl) dL_seedsOf_14
  · obtain ⟨hc, rfl, eS⟩ := hq
    rw [eS] at I
    have ho2 : zh_N S oa = 1 := ho1
    refine lv_i2l hx hb dL_seedsOf_7 rfl ?_
    refine zr_last C I ho (by rw [ho2]; exact (show vp_in (nI 0) 1 from vp_in_nI (by omega) (by omega))) dL_seedsOf_8 (fun H locs I => ?_)
    refine lv_goto (tgt := 15) hx hb dL_seedsOf_9 (by decide) ?_
    refine lv_iconst (v := 0) hx hb dL_seedsOf_15 (by decide) ?_
    exact zr_iret C I hr hlk (zLQ_ok hF ho ho2 hc) (Nat.le_of_ble_eq_true rfl) (Nat.le_of_ble_eq_true rfl) dL_seedsOf_16

set_option maxRecDepth 100000 in
set_option maxHeartbeats 4000000 in
theorem k_L_open (l : Launch) (g : zG) (hst : l.stackTraces = false) (S : zS) (T : zT) (x oa : Nat) (i : Int32) (hT : zt_ok T) (hF : FE g S T x) (ho : zh_at S 9 oa) (ho1 : zh_N S oa = 1) : zMH l yL_open cL_open 4 (some .int) [(0, 9, 12, 20), (0, 9, 15, 15)] (zrm 9 10 300) g [.ref x, .int i, .ref oa] S (fun w S' => zLQ g S' (zs_open T i) x oa (zc_open T i) ((nI (T.2 0 (zx i))).toInt64) w) := by
  refine zMH_of (nm := "open") (by decide +kernel) rfl (Nat.le_of_ble_eq_true rfl) ?_
  intro p e s m args below meth c A ls C hr hlk hin htab I hl
  have C : CallFix p m c cL_open 4 s args zc_W RL := C
  have hx := C.1
  have hb := C.2.1
  have hl : lv_has ls 4 [(0, .ref x), (1, .int i), (2, .ref oa)] := hl
  obtain ⟨pl, lo, pt, ty, pa, la, ap, ad, ae, hF9⟩ := id hF
  refine lv_aload_n hx hb dL_open_0 rfl (lv_at hl 2 rfl) ?_
  refine lv_iconst (v := 0) hx hb dL_open_1 (by decide) ?_
  refine lv_aload_n hx hb dL_open_2 rfl (lv_at hl 0 rfl) ?_
  refine lv_iload_n hx hb dL_open_3 rfl (lv_at hl 1 rfl) ?_
  refine zc_VX (n := 1) (rest := [.int 0, .ref oa]) C I hF9.1.1 rfl rfl (k_X3_open l g hst S T x pl lo pt ty pa la ap ad ae hT hF9 i) zm_328 zm_329 zm_330 zm_24 zm_331 rfl hl.1 dL_open_4 (by decide +kernel) rfl ⟨Nat.le_of_ble_eq_true rfl, Nat.le_of_ble_eq_true rfl⟩ (Nat.le_of_ble_eq_true rfl) ⟨Nat.le_of_ble_eq_true rfl, Nat.le_of_ble_eq_true rfl⟩ (fun E ce q9 S' H locs hq I h1 h2 h3 => ?_) (fun v S' H locs hq I => ?_)
  · obtain ⟨hq1, eS⟩ := hq
    rcases hq1 with ⟨hc, rfl⟩ | ⟨hc, rfl⟩
    · rw [eS] at I
      refine zr_catch C I htab [] ⟨0, 9, 12, 20⟩ [⟨0, 9, 15, 15⟩] rfl (by decide) (by decide) (fun z hz => absurd hz List.not_mem_nil) zm_286 (by decide +kernel) h1 h2 h3 ?_
      refine lv_astore_n (lv' := [(3, .ref q9), (0, .ref x), (1, .int i), (2, .ref oa)]) hx hb dL_open_12 rfl hl (by decide) rfl (fun ls hl => ?_)
      refine lv_iconst (v := 1) hx hb dL_open_13 (by decide) ?_
      exact zr_iret C I hr hlk (by rw [show zs_open T i = T from if_neg (by rw [hc]; decide)]; exact zLQ_no 1 hF ho ho1 hc (by decide)) (Nat.le_of_ble_eq_true rfl) (Nat.le_of_ble_eq_true rfl) dL_open_14
    · rw [eS] at I
      refine zr_catch C I htab [⟨0, 9, 12, 20⟩] ⟨0, 9, 15, 15⟩ [] rfl (by decide) (by decide) (fun z hz => by rw [List.mem_singleton.mp hz]; exact ⟨by decide, "java/lang/IndexOutOfBoundsException", zm_286, by decide⟩) zm_126 (by decide +kernel) h1 h2 h3 ?_
      refine lv_astore_n (lv' := [(3, .ref q9), (0, .ref x), (1, .int i), (2, .ref oa)]) hx hb dL_open_15 rfl hl (by decide) rfl (fun ls hl => ?_)
      refine lv_iconst (v := 2) hx hb dL_open_16 (by decide) ?_
      exact zr_iret C I hr hlk (by rw [show zs_open T i = T from if_neg (by rw [hc]; decide)]; exact zLQ_no 2 hF ho ho1 hc (by decide)) (Nat.le_of_ble_eq_true rfl) (Nat.le_of_ble_eq_true rfl) dL_open_17
  · obtain ⟨hc, rfl, hF8, hk8⟩ := hq
    have ho2 : zh_N S' oa = 1 := (hk8 oa ho.1).2.2.1.trans ho1
    refine lv_i2l hx hb dL_open_7 rfl ?_
    refine zr_last C I ⟨(hk8 oa ho.1).1, (hk8 oa ho.1).2.1.trans ho.2⟩ (by rw [ho2]; exact (show vp_in (nI 0) 1 from vp_in_nI (by omega) (by omega))) dL_open_8 (fun H locs I => ?_)
    refine lv_goto (tgt := 18) hx hb dL_open_9 (by decide) ?_
    refine lv_iconst (v := 0) hx hb dL_open_18 (by decide) ?_
    exact zr_iret C I hr hlk (zLQ_ok ⟨pl, lo, pt, ty, pa, la, ap, ad, ae, hF8⟩ (⟨(hk8 oa ho.1).1, (hk8 oa ho.1).2.1.trans ho.2⟩) ho2 hc) (Nat.le_of_ble_eq_true rfl) (Nat.le_of_ble_eq_true rfl) dL_open_19

set_option maxRecDepth 100000 in
set_option maxHeartbeats 4000000 in
theorem k_L_isOpened (l : Launch) (g : zG) (hst : l.stackTraces = false) (S : zS) (T : zT) (x oa : Nat) (i : Int32) (hT : zt_ok T) (hF : FE g S T x) (ho : zh_at S 9 oa) (ho1 : zh_N S oa = 1) : zMH l yL_isOpened cL_isOpened 4 (some .int) [(0, 16, 19, 20)] (zrm 9 10 300) g [.ref x, .int i, .ref oa] S (fun w S' => zLQ g S' T x oa (zc_prom T i) (if T.2 2 (zx i) = 0 then 0 else 1) w) := by
  refine zMH_of (nm := "isOpened") (by decide +kernel) rfl (Nat.le_of_ble_eq_true rfl) ?_
  intro p e s m args below meth c A ls C hr hlk hin htab I hl
  have C : CallFix p m c cL_isOpened 4 s args zc_W RL := C
  have hx := C.1
  have hb := C.2.1
  have hl : lv_has ls 4 [(0, .ref x), (1, .int i), (2, .ref oa)] := hl
  obtain ⟨pl, lo, pt, ty, pa, la, ap, ad, ae, hF9⟩ := id hF
  refine lv_aload_n hx hb dL_isOpened_0 rfl (lv_at hl 2 rfl) ?_
  refine lv_iconst (v := 0) hx hb dL_isOpened_1 (by decide) ?_
  refine lv_aload_n hx hb dL_isOpened_2 rfl (lv_at hl 0 rfl) ?_
  refine lv_iload_n hx hb dL_isOpened_3 rfl (lv_at hl 1 rfl) ?_
  refine zc_VX (n := 1) (rest := [.int 0, .ref oa]) C I hF9.1.1 rfl rfl (k_X3_isOpened l g hst S T x pl lo pt ty pa la ap ad ae hT hF9 i) zm_335 zm_336 zm_337 zm_24 zm_338 rfl hl.1 dL_isOpened_4 (by decide +kernel) rfl ⟨Nat.le_of_ble_eq_true rfl, Nat.le_of_ble_eq_true rfl⟩ (Nat.le_of_ble_eq_true rfl) ⟨Nat.le_of_ble_eq_true rfl, Nat.le_of_ble_eq_true rfl⟩ (fun E ce q9 S' H locs hq I h1 h2 h3 => ?_) (fun v S' H locs hq I => ?_)
  · obtain ⟨hc, rfl, eS⟩ := hq
    rw [eS] at I
    refine zr_catch C I htab [] ⟨0, 16, 19, 20⟩ [] rfl (by decide) (by decide) (fun z hz => absurd hz List.not_mem_nil) zm_286 (by decide +kernel) h1 h2 h3 ?_
    refine lv_astore_n (lv' := [(3, .ref q9), (0, .ref x), (1, .int i), (2, .ref oa)]) hx hb dL_isOpened_19 rfl hl (by decide) rfl (fun ls hl => ?_)
    refine lv_iconst (v := 1) hx hb dL_isOpened_20 (by decide) ?_
    exact zr_iret C I hr hlk (zLQ_no 1 hF ho ho1 hc (by decide)) (Nat.le_of_ble_eq_true rfl) (Nat.le_of_ble_eq_true rfl) dL_isOpened_21
  · obtain ⟨hc, rfl, eS⟩ := hq
    rw [eS] at I
    have ho2 : zh_N S oa = 1 := ho1
    have hb2 : T.2 2 (zx i) ≤ 1 := (hT.2.2.1 (zx i)).2.2.1
    refine lv_if_eq (tgt := 14) hx hb dL_isOpened_7 (by decide) (fun c7 => ?_) (fun c7 => ?_)
    · have c7 : (T.2 2 (zx i)) = 0 := (nI_eq (a := T.2 2 (zx i)) (b := 0) (by omega) (by omega)).mp c7
      refine lv_lconst (v := 0) hx hb dL_isOpened_14 (by decide) ?_
      refine zr_last C I ho (by rw [ho2]; exact (show vp_in (nI 0) 1 from vp_in_nI (by omega) (by omega))) dL_isOpened_15 (fun H locs I => ?_)
      refine lv_goto (tgt := 22) hx hb dL_isOpened_16 (by decide) ?_
      refine lv_iconst (v := 0) hx hb dL_isOpened_22 (by decide) ?_
      exact zr_iret C I hr hlk (by rw [if_pos c7]; exact zLQ_ok hF ho ho2 hc) (Nat.le_of_ble_eq_true rfl) (Nat.le_of_ble_eq_true rfl) dL_isOpened_23
    · have c7 : ¬ (T.2 2 (zx i)) = 0 := fun h9 => c7 ((nI_eq (a := T.2 2 (zx i)) (b := 0) (by omega) (by omega)).mpr h9)
      refine lv_lconst (v := 1) hx hb dL_isOpened_10 (by decide) ?_
      refine lv_goto (tgt := 15) hx hb dL_isOpened_11 (by decide) ?_
      refine zr_last C I ho (by rw [ho2]; exact (show vp_in (nI 0) 1 from vp_in_nI (by omega) (by omega))) dL_isOpened_15 (fun H locs I => ?_)
      refine lv_goto (tgt := 22) hx hb dL_isOpened_16 (by decide) ?_
      refine lv_iconst (v := 0) hx hb dL_isOpened_22 (by decide) ?_
      exact zr_iret C I hr hlk (by rw [if_neg c7]; exact zLQ_ok hF ho ho2 hc) (Nat.le_of_ble_eq_true rfl) (Nat.le_of_ble_eq_true rfl) dL_isOpened_23

set_option maxRecDepth 100000 in
set_option maxHeartbeats 4000000 in
theorem k_L_setPart (l : Launch) (g : zG) (hst : l.stackTraces = false) (S : zS) (T : zT) (x oa : Nat) (i y : Int32) (hT : zt_ok T) (hF : FE g S T x) (ho : zh_at S 9 oa) (ho1 : zh_N S oa = 1) : zMH l yL_setPart cL_setPart 5 (some .int) [(0, 10, 13, 20), (0, 10, 17, 13)] (zrm 9 10 300) g [.ref x, .int i, .int y, .ref oa] S (fun w S' => zLQ g S' (zs_part T i y) x oa (zc_part i y) ((nI (T.2 4 (zx i))).toInt64) w) := by
  refine zMH_of (nm := "setPart") (by decide +kernel) rfl (Nat.le_of_ble_eq_true rfl) ?_
  intro p e s m args below meth c A ls C hr hlk hin htab I hl
  have C : CallFix p m c cL_setPart 5 s args zc_W RL := C
  have hx := C.1
  have hb := C.2.1
  have hl : lv_has ls 5 [(0, .ref x), (1, .int i), (2, .int y), (3, .ref oa)] := hl
  obtain ⟨pl, lo, pt, ty, pa, la, ap, ad, ae, hF9⟩ := id hF
  refine lv_aload_n hx hb dL_setPart_0 rfl (lv_at hl 3 rfl) ?_
  refine lv_iconst (v := 0) hx hb dL_setPart_1 (by decide) ?_
  refine lv_aload_n hx hb dL_setPart_2 rfl (lv_at hl 0 rfl) ?_
  refine lv_iload_n hx hb dL_setPart_3 rfl (lv_at hl 1 rfl) ?_
  refine lv_iload_n hx hb dL_setPart_4 rfl (lv_at hl 2 rfl) ?_
  refine zc_VX (n := 2) (rest := [.int 0, .ref oa]) C I hF9.1.1 rfl rfl (k_X3_setPart l g hst S T x pl lo pt ty pa la ap ad ae hT hF9 i y) zm_342 zm_343 zm_344 zm_24 zm_345 rfl hl.1 dL_setPart_5 (by decide +kernel) rfl ⟨Nat.le_of_ble_eq_true rfl, Nat.le_of_ble_eq_true rfl⟩ (Nat.le_of_ble_eq_true rfl) ⟨Nat.le_of_ble_eq_true rfl, Nat.le_of_ble_eq_true rfl⟩ (fun E ce q9 S' H locs hq I h1 h2 h3 => ?_) (fun v S' H locs hq I => ?_)
  · obtain ⟨hq1, eS⟩ := hq
    rcases hq1 with ⟨hc, rfl⟩ | ⟨hc, rfl⟩
    · rw [eS] at I
      refine zr_catch C I htab [] ⟨0, 10, 13, 20⟩ [⟨0, 10, 17, 13⟩] rfl (by decide) (by decide) (fun z hz => absurd hz List.not_mem_nil) zm_286 (by decide +kernel) h1 h2 h3 ?_
      refine lv_astore (lv' := [(4, .ref q9), (0, .ref x), (1, .int i), (2, .int y), (3, .ref oa)]) hx hb dL_setPart_13 hl (by decide) rfl (fun ls hl => ?_)
      refine lv_iconst (v := 1) hx hb dL_setPart_15 (by decide) ?_
      exact zr_iret C I hr hlk (by rw [show zs_part T i y = T from if_neg (by rw [hc]; decide)]; exact zLQ_no 1 hF ho ho1 hc (by decide)) (Nat.le_of_ble_eq_true rfl) (Nat.le_of_ble_eq_true rfl) dL_setPart_16
    · rw [eS] at I
      refine zr_catch C I htab [⟨0, 10, 13, 20⟩] ⟨0, 10, 17, 13⟩ [] rfl (by decide) (by decide) (fun z hz => by rw [List.mem_singleton.mp hz]; exact ⟨by decide, "java/lang/IndexOutOfBoundsException", zm_286, by decide⟩) zm_125 (by decide +kernel) h1 h2 h3 ?_
      refine lv_astore (lv' := [(4, .ref q9), (0, .ref x), (1, .int i), (2, .int y), (3, .ref oa)]) hx hb dL_setPart_17 hl (by decide) rfl (fun ls hl => ?_)
      refine lv_iconst (v := 2) hx hb dL_setPart_19 (by decide) ?_
      exact zr_iret C I hr hlk (by rw [show zs_part T i y = T from if_neg (by rw [hc]; decide)]; exact zLQ_no 2 hF ho ho1 hc (by decide)) (Nat.le_of_ble_eq_true rfl) (Nat.le_of_ble_eq_true rfl) dL_setPart_20
  · obtain ⟨hc, rfl, hF8, hk8⟩ := hq
    have ho2 : zh_N S' oa = 1 := (hk8 oa ho.1).2.2.1.trans ho1
    refine lv_i2l hx hb dL_setPart_8 rfl ?_
    refine zr_last C I ⟨(hk8 oa ho.1).1, (hk8 oa ho.1).2.1.trans ho.2⟩ (by rw [ho2]; exact (show vp_in (nI 0) 1 from vp_in_nI (by omega) (by omega))) dL_setPart_9 (fun H locs I => ?_)
    refine lv_goto (tgt := 21) hx hb dL_setPart_10 (by decide) ?_
    refine lv_iconst (v := 0) hx hb dL_setPart_21 (by decide) ?_
    exact zr_iret C I hr hlk (zLQ_ok ⟨pl, lo, pt, ty, pa, la, ap, ad, ae, hF8⟩ (⟨(hk8 oa ho.1).1, (hk8 oa ho.1).2.1.trans ho.2⟩) ho2 hc) (Nat.le_of_ble_eq_true rfl) (Nat.le_of_ble_eq_true rfl) dL_setPart_22

set_option maxRecDepth 100000 in
set_option maxHeartbeats 4000000 in
theorem k_L_roll (l : Launch) (g : zG) (hst : l.stackTraces = false) (S : zS) (T : zT) (x oa : Nat) (i y z : Int32) (hT : zt_ok T) (hF : FE g S T x) (ho : zh_at S 9 oa) (ho1 : zh_N S oa = 1) : zMH l yL_roll cL_roll 6 (some .int) [(0, 12, 15, 20), (0, 12, 19, 13), (0, 12, 23, 15)] (zrm 9 10 300) g [.ref x, .int i, .int y, .int z, .ref oa] S (fun w S' => zLQ g S' (zs_roll T i y z) x oa (zc_roll T i y z) ((nI (zr_roll T i y z)).toInt64) w) := by
  refine zMH_of (nm := "roll") (by decide +kernel) rfl (Nat.le_of_ble_eq_true rfl) ?_
  intro p e s m args below meth c A ls C hr hlk hin htab I hl
  have C : CallFix p m c cL_roll 6 s args zc_W RL := C
  have hx := C.1
  have hb := C.2.1
  have hl : lv_has ls 6 [(0, .ref x), (1, .int i), (2, .int y), (3, .int z), (4, .ref oa)] := hl
  obtain ⟨pl, lo, pt, ty, pa, la, ap, ad, ae, hF9⟩ := id hF
  refine lv_aload hx hb dL_roll_0 (lv_at hl 4 rfl) ?_
  refine lv_iconst (v := 0) hx hb dL_roll_2 (by decide) ?_
  refine lv_aload_n hx hb dL_roll_3 rfl (lv_at hl 0 rfl) ?_
  refine lv_iload_n hx hb dL_roll_4 rfl (lv_at hl 1 rfl) ?_
  refine lv_iload_n hx hb dL_roll_5 rfl (lv_at hl 2 rfl) ?_
  refine lv_iload_n hx hb dL_roll_6 rfl (lv_at hl 3 rfl) ?_
  refine zc_VX (n := 3) (rest := [.int 0, .ref oa]) C I hF9.1.1 rfl rfl (k_X3_roll l g hst S T x pl lo pt ty pa la ap ad ae hT hF9 i y z) zm_352 zm_353 zm_354 zm_24 zm_355 rfl hl.1 dL_roll_7 (by decide +kernel) rfl ⟨Nat.le_of_ble_eq_true rfl, Nat.le_of_ble_eq_true rfl⟩ (Nat.le_of_ble_eq_true rfl) ⟨Nat.le_of_ble_eq_true rfl, Nat.le_of_ble_eq_true rfl⟩ (fun E ce q9 S' H locs hq I h1 h2 h3 => ?_) (fun v S' H locs hq I => ?_)
  · obtain ⟨hq1, eS⟩ := hq
    rcases hq1 with ⟨hc, rfl⟩ | ⟨hc, rfl⟩ | ⟨hc, rfl⟩
    · rw [eS] at I
      refine zr_catch C I htab [] ⟨0, 12, 15, 20⟩ [⟨0, 12, 19, 13⟩, ⟨0, 12, 23, 15⟩] rfl (by decide) (by decide) (fun z hz => absurd hz List.not_mem_nil) zm_286 (by decide +kernel) h1 h2 h3 ?_
      refine lv_astore (lv' := [(5, .ref q9), (0, .ref x), (1, .int i), (2, .int y), (3, .int z), (4, .ref oa)]) hx hb dL_roll_15 hl (by decide) rfl (fun ls hl => ?_)
      refine lv_iconst (v := 1) hx hb dL_roll_17 (by decide) ?_
      exact zr_iret C I hr hlk (by rw [show zs_roll T i y z = T from if_neg (by rw [hc]; decide)]; exact zLQ_no 1 hF ho ho1 hc (by decide)) (Nat.le_of_ble_eq_true rfl) (Nat.le_of_ble_eq_true rfl) dL_roll_18
    · rw [eS] at I
      refine zr_catch C I htab [⟨0, 12, 15, 20⟩] ⟨0, 12, 19, 13⟩ [⟨0, 12, 23, 15⟩] rfl (by decide) (by decide) (fun z hz => by rw [List.mem_singleton.mp hz]; exact ⟨by decide, "java/lang/IndexOutOfBoundsException", zm_286, by decide⟩) zm_125 (by decide +kernel) h1 h2 h3 ?_
      refine lv_astore (lv' := [(5, .ref q9), (0, .ref x), (1, .int i), (2, .int y), (3, .int z), (4, .ref oa)]) hx hb dL_roll_19 hl (by decide) rfl (fun ls hl => ?_)
      refine lv_iconst (v := 2) hx hb dL_roll_21 (by decide) ?_
      exact zr_iret C I hr hlk (by rw [show zs_roll T i y z = T from if_neg (by rw [hc]; decide)]; exact zLQ_no 2 hF ho ho1 hc (by decide)) (Nat.le_of_ble_eq_true rfl) (Nat.le_of_ble_eq_true rfl) dL_roll_22
    · rw [eS] at I
      refine zr_catch C I htab [⟨0, 12, 15, 20⟩, ⟨0, 12, 19, 13⟩] ⟨0, 12, 23, 15⟩ [] rfl (by decide) (by decide) (fun z hz => by rcases List.mem_cons.mp hz with hz | hz; (rw [hz]; exact ⟨by decide, "java/lang/IndexOutOfBoundsException", zm_286, by decide⟩); (rw [List.mem_singleton.mp hz]; exact ⟨by decide, "java/lang/IllegalArgumentException", zm_125, by decide⟩)) zm_126 (by decide +kernel) h1 h2 h3 ?_
      refine lv_astore (lv' := [(5, .ref q9), (0, .ref x), (1, .int i), (2, .int y), (3, .int z), (4, .ref oa)]) hx hb dL_roll_23 hl (by decide) rfl (fun ls hl => ?_)
      refine lv_iconst (v := 3) hx hb dL_roll_25 (by decide) ?_
      exact zr_iret C I hr hlk (by rw [show zs_roll T i y z = T from if_neg (by rw [hc]; decide)]; exact zLQ_no 3 hF ho ho1 hc (by decide)) (Nat.le_of_ble_eq_true rfl) (Nat.le_of_ble_eq_true rfl) dL_roll_26
  · obtain ⟨hc, rfl, hF8, hk8⟩ := hq
    have ho2 : zh_N S' oa = 1 := (hk8 oa ho.1).2.2.1.trans ho1
    refine lv_i2l hx hb dL_roll_10 rfl ?_
    refine zr_last C I ⟨(hk8 oa ho.1).1, (hk8 oa ho.1).2.1.trans ho.2⟩ (by rw [ho2]; exact (show vp_in (nI 0) 1 from vp_in_nI (by omega) (by omega))) dL_roll_11 (fun H locs I => ?_)
    refine lv_goto (tgt := 27) hx hb dL_roll_12 (by decide) ?_
    refine lv_iconst (v := 0) hx hb dL_roll_27 (by decide) ?_
    exact zr_iret C I hr hlk (zLQ_ok hF8 (⟨(hk8 oa ho.1).1, (hk8 oa ho.1).2.1.trans ho.2⟩) ho2 hc) (Nat.le_of_ble_eq_true rfl) (Nat.le_of_ble_eq_true rfl) dL_roll_28

set_option maxRecDepth 100000 in
set_option maxHeartbeats 4000000 in
theorem k_L_value (l : Launch) (g : zG) (hst : l.stackTraces = false) (S : zS) (T : zT) (x oa : Nat) (i : Int32) (hT : zt_ok T) (hF : FE g S T x) (ho : zh_at S 9 oa) (ho1 : zh_N S oa = 1) : zMH l yL_value cL_value 4 (some .int) [(0, 9, 12, 20)] (zrm 9 10 300) g [.ref x, .int i, .ref oa] S (fun w S' => zLQ g S' T x oa (zc_entry T i) ((nI (T.2 9 (zx i))).toInt64) w) := by
  refine zMH_of (nm := "value") (by decide +kernel) rfl (Nat.le_of_ble_eq_true rfl) ?_
  intro p e s m args below meth c A ls C hr hlk hin htab I hl
  have C : CallFix p m c cL_value 4 s args zc_W RL := C
  have hx := C.1
  have hb := C.2.1
  have hl : lv_has ls 4 [(0, .ref x), (1, .int i), (2, .ref oa)] := hl
  obtain ⟨pl, lo, pt, ty, pa, la, ap, ad, ae, hF9⟩ := id hF
  refine lv_aload_n hx hb dL_value_0 rfl (lv_at hl 2 rfl) ?_
  refine lv_iconst (v := 0) hx hb dL_value_1 (by decide) ?_
  refine lv_aload_n hx hb dL_value_2 rfl (lv_at hl 0 rfl) ?_
  refine lv_iload_n hx hb dL_value_3 rfl (lv_at hl 1 rfl) ?_
  refine zc_VX (n := 1) (rest := [.int 0, .ref oa]) C I hF9.1.1 rfl rfl (k_X3_value l g hst S T x pl lo pt ty pa la ap ad ae hT hF9 i) zm_402 zm_403 zm_404 zm_24 zm_405 rfl hl.1 dL_value_4 (by decide +kernel) rfl ⟨Nat.le_of_ble_eq_true rfl, Nat.le_of_ble_eq_true rfl⟩ (Nat.le_of_ble_eq_true rfl) ⟨Nat.le_of_ble_eq_true rfl, Nat.le_of_ble_eq_true rfl⟩ (fun E ce q9 S' H locs hq I h1 h2 h3 => ?_) (fun v S' H locs hq I => ?_)
  · obtain ⟨hc, rfl, eS⟩ := hq
    rw [eS] at I
    refine zr_catch C I htab [] ⟨0, 9, 12, 20⟩ [] rfl (by decide) (by decide) (fun z hz => absurd hz List.not_mem_nil) zm_286 (by decide +kernel) h1 h2 h3 ?_
    refine lv_astore_n (lv' := [(3, .ref q9), (0, .ref x), (1, .int i), (2, .ref oa)]) hx hb dL_value_12 rfl hl (by decide) rfl (fun ls hl => ?_)
    refine lv_iconst (v := 1) hx hb dL_value_13 (by decide) ?_
    exact zr_iret C I hr hlk (zLQ_no 1 hF ho ho1 hc (by decide)) (Nat.le_of_ble_eq_true rfl) (Nat.le_of_ble_eq_true rfl) dL_value_14
  · obtain ⟨hc, rfl, eS⟩ := hq
    rw [eS] at I
    have ho2 : zh_N S oa = 1 := ho1
    refine lv_i2l hx hb dL_value_7 rfl ?_
    refine zr_last C I ho (by rw [ho2]; exact (show vp_in (nI 0) 1 from vp_in_nI (by omega) (by omega))) dL_value_8 (fun H locs I => ?_)
    refine lv_goto (tgt := 15) hx hb dL_value_9 (by decide) ?_
    refine lv_iconst (v := 0) hx hb dL_value_15 (by decide) ?_
    exact zr_iret C I hr hlk (zLQ_ok hF ho ho2 hc) (Nat.le_of_ble_eq_true rfl) (Nat.le_of_ble_eq_true rfl) dL_value_16

set_option maxRecDepth 100000 in
set_option maxHeartbeats 4000000 in
theorem k_L_rejected (l : Launch) (g : zG) (hst : l.stackTraces = false) (S : zS) (T : zT) (x oa : Nat) (i : Int32) (hT : zt_ok T) (hF : FE g S T x) (ho : zh_at S 9 oa) (ho1 : zh_N S oa = 1) : zMH l yL_rejected cL_rejected 4 (some .int) [(0, 9, 12, 20)] (zrm 9 10 300) g [.ref x, .int i, .ref oa] S (fun w S' => zLQ g S' T x oa (zc_entry T i) ((nI (T.2 10 (zx i))).toInt64) w) := by
  refine zMH_of (nm := "rejected") (by decide +kernel) rfl (Nat.le_of_ble_eq_true rfl) ?_
  intro p e s m args below meth c A ls C hr hlk hin htab I hl
  have C : CallFix p m c cL_rejected 4 s args zc_W RL := C
  have hx := C.1
  have hb := C.2.1
  have hl : lv_has ls 4 [(0, .ref x), (1, .int i), (2, .ref oa)] := hl
  obtain ⟨pl, lo, pt, ty, pa, la, ap, ad, ae, hF9⟩ := id hF
  refine lv_aload_n hx hb dL_rejected_0 rfl (lv_at hl 2 rfl) ?_
  refine lv_iconst (v := 0) hx hb dL_rejected_1 (by decide) ?_
  refine lv_aload_n hx hb dL_rejected_2 rfl (lv_at hl 0 rfl) ?_
  refine lv_iload_n hx hb dL_rejected_3 rfl (lv_at hl 1 rfl) ?_
  refine zc_VX (n := 1) (rest := [.int 0, .ref oa]) C I hF9.1.1 rfl rfl (k_X3_rejected l g hst S T x pl lo pt ty pa la ap ad ae hT hF9 i) zm_412 zm_413 zm_414 zm_24 zm_415 rfl hl.1 dL_rejected_4 (by decide +kernel) rfl ⟨Nat.le_of_ble_eq_true rfl, Nat.le_of_ble_eq_true rfl⟩ (Nat.le_of_ble_eq_true rfl) ⟨Nat.le_of_ble_eq_true rfl, Nat.le_of_ble_eq_true rfl⟩ (fun E ce q9 S' H locs hq I h1 h2 h3 => ?_) (fun v S' H locs hq I => ?_)
  · obtain ⟨hc, rfl, eS⟩ := hq
    rw [eS] at I
    refine zr_catch C I htab [] ⟨0, 9, 12, 20⟩ [] rfl (by decide) (by decide) (fun z hz => absurd hz List.not_mem_nil) zm_286 (by decide +kernel) h1 h2 h3 ?_
    refine lv_astore_n (lv' := [(3, .ref q9), (0, .ref x), (1, .int i), (2, .ref oa)]) hx hb dL_rejected_12 rfl hl (by decide) rfl (fun ls hl => ?_)
    refine lv_iconst (v := 1) hx hb dL_rejected_13 (by decide) ?_
    exact zr_iret C I hr hlk (zLQ_no 1 hF ho ho1 hc (by decide)) (Nat.le_of_ble_eq_true rfl) (Nat.le_of_ble_eq_true rfl) dL_rejected_14
  · obtain ⟨hc, rfl, eS⟩ := hq
    rw [eS] at I
    have ho2 : zh_N S oa = 1 := ho1
    refine lv_i2l hx hb dL_rejected_7 rfl ?_
    refine zr_last C I ho (by rw [ho2]; exact (show vp_in (nI 0) 1 from vp_in_nI (by omega) (by omega))) dL_rejected_8 (fun H locs I => ?_)
    refine lv_goto (tgt := 15) hx hb dL_rejected_9 (by decide) ?_
    refine lv_iconst (v := 0) hx hb dL_rejected_15 (by decide) ?_
    exact zr_iret C I hr hlk (zLQ_ok hF ho ho2 hc) (Nat.le_of_ble_eq_true rfl) (Nat.le_of_ble_eq_true rfl) dL_rejected_16

set_option maxRecDepth 100000 in
set_option maxHeartbeats 4000000 in
theorem k_L_sum (l : Launch) (g : zG) (hst : l.stackTraces = false) (S : zS) (T : zT) (x oa : Nat) (i : Int32) (hT : zt_ok T) (hF : FE g S T x) (ho : zh_at S 9 oa) (ho1 : zh_N S oa = 1) : zMH l yL_sum cL_sum 4 (some .int) [(0, 9, 12, 20)] (zrm 9 10 300) g [.ref x, .int i, .ref oa] S (fun w S' => zLQ g S' T x oa (zc_entry T i) ((nI (T.2 11 (zx i))).toInt64) w) := by
  refine zMH_of (nm := "sum") (by decide +kernel) rfl (Nat.le_of_ble_eq_true rfl) ?_
  intro p e s m args below meth c A ls C hr hlk hin htab I hl
  have C : CallFix p m c cL_sum 4 s args zc_W RL := C
  have hx := C.1
  have hb := C.2.1
  have hl : lv_has ls 4 [(0, .ref x), (1, .int i), (2, .ref oa)] := hl
  obtain ⟨pl, lo, pt, ty, pa, la, ap, ad, ae, hF9⟩ := id hF
  refine lv_aload_n hx hb dL_sum_0 rfl (lv_at hl 2 rfl) ?_
  refine lv_iconst (v := 0) hx hb dL_sum_1 (by decide) ?_
  refine lv_aload_n hx hb dL_sum_2 rfl (lv_at hl 0 rfl) ?_
  refine lv_iload_n hx hb dL_sum_3 rfl (lv_at hl 1 rfl) ?_
  refine zc_VX (n := 1) (rest := [.int 0, .ref oa]) C I hF9.1.1 rfl rfl (k_X3_sum l g hst S T x pl lo pt ty pa la ap ad ae hT hF9 i) zm_419 zm_420 zm_421 zm_24 zm_422 rfl hl.1 dL_sum_4 (by decide +kernel) rfl ⟨Nat.le_of_ble_eq_true rfl, Nat.le_of_ble_eq_true rfl⟩ (Nat.le_of_ble_eq_true rfl) ⟨Nat.le_of_ble_eq_true rfl, Nat.le_of_ble_eq_true rfl⟩ (fun E ce q9 S' H locs hq I h1 h2 h3 => ?_) (fun v S' H locs hq I => ?_)
  · obtain ⟨hc, rfl, eS⟩ := hq
    rw [eS] at I
    refine zr_catch C I htab [] ⟨0, 9, 12, 20⟩ [] rfl (by decide) (by decide) (fun z hz => absurd hz List.not_mem_nil) zm_286 (by decide +kernel) h1 h2 h3 ?_
    refine lv_astore_n (lv' := [(3, .ref q9), (0, .ref x), (1, .int i), (2, .ref oa)]) hx hb dL_sum_12 rfl hl (by decide) rfl (fun ls hl => ?_)
    refine lv_iconst (v := 1) hx hb dL_sum_13 (by decide) ?_
    exact zr_iret C I hr hlk (zLQ_no 1 hF ho ho1 hc (by decide)) (Nat.le_of_ble_eq_true rfl) (Nat.le_of_ble_eq_true rfl) dL_sum_14
  · obtain ⟨hc, rfl, eS⟩ := hq
    rw [eS] at I
    have ho2 : zh_N S oa = 1 := ho1
    refine lv_i2l hx hb dL_sum_7 rfl ?_
    refine zr_last C I ho (by rw [ho2]; exact (show vp_in (nI 0) 1 from vp_in_nI (by omega) (by omega))) dL_sum_8 (fun H locs I => ?_)
    refine lv_goto (tgt := 15) hx hb dL_sum_9 (by decide) ?_
    refine lv_iconst (v := 0) hx hb dL_sum_15 (by decide) ?_
    exact zr_iret C I hr hlk (zLQ_ok hF ho ho2 hc) (Nat.le_of_ble_eq_true rfl) (Nat.le_of_ble_eq_true rfl) dL_sum_16

set_option maxRecDepth 100000 in
set_option maxHeartbeats 4000000 in
theorem k_L_alter (l : Launch) (g : zG) (hst : l.stackTraces = false) (S : zS) (T : zT) (x oa : Nat) (i y : Int32) (hT : zt_ok T) (hF : FE g S T x) (ho : zh_at S 9 oa) (ho1 : zh_N S oa = 1) : zMH l yL_alter cL_alter 5 (some .int) [(0, 10, 13, 20), (0, 10, 17, 13), (0, 10, 21, 15)] (zrm 9 10 300) g [.ref x, .int i, .int y, .ref oa] S (fun w S' => zLQ g S' (zs_alter T i y) x oa (zc_alter T i y) ((nI (T.2 9 (zx i))).toInt64) w) := by
  refine zMH_of (nm := "alter") (by decide +kernel) rfl (Nat.le_of_ble_eq_true rfl) ?_
  intro p e s m args below meth c A ls C hr hlk hin htab I hl
  have C : CallFix p m c cL_alter 5 s args zc_W RL := C
  have hx := C.1
  have hb := C.2.1
  have hl : lv_has ls 5 [(0, .ref x), (1, .int i), (2, .int y), (3, .ref oa)] := hl
  obtain ⟨pl, lo, pt, ty, pa, la, ap, ad, ae, hF9⟩ := id hF
  refine lv_aload_n hx hb dL_alter_0 rfl (lv_at hl 3 rfl) ?_
  refine lv_iconst (v := 0) hx hb dL_alter_1 (by decide) ?_
  refine lv_aload_n hx hb dL_alter_2 rfl (lv_at hl 0 rfl) ?_
  refine lv_iload_n hx hb dL_alter_3 rfl (lv_at hl 1 rfl) ?_
  refine lv_iload_n hx hb dL_alter_4 rfl (lv_at hl 2 rfl) ?_
  refine zc_VX (n := 2) (rest := [.int 0, .ref oa]) C I hF9.1.1 rfl rfl (k_X3_alter l g hst S T x pl lo pt ty pa la ap ad ae hT hF9 i y) zm_426 zm_427 zm_428 zm_24 zm_429 rfl hl.1 dL_alter_5 (by decide +kernel) rfl ⟨Nat.le_of_ble_eq_true rfl, Nat.le_of_ble_eq_true rfl⟩ (Nat.le_of_ble_eq_true rfl) ⟨Nat.le_of_ble_eq_true rfl, Nat.le_of_ble_eq_true rfl⟩ (fun E ce q9 S' H locs hq I h1 h2 h3 => ?_) (fun v S' H locs hq I => ?_)
  · obtain ⟨hq1, eS⟩ := hq
    rcases hq1 with ⟨hc, rfl⟩ | ⟨hc, rfl⟩ | ⟨hc, rfl⟩
    · rw [eS] at I
      refine zr_catch C I htab [] ⟨0, 10, 13, 20⟩ [⟨0, 10, 17, 13⟩, ⟨0, 10, 21, 15⟩] rfl (by decide) (by decide) (fun z hz => absurd hz List.not_mem_nil) zm_286 (by decide +kernel) h1 h2 h3 ?_
      refine lv_astore (lv' := [(4, .ref q9), (0, .ref x), (1, .int i), (2, .int y), (3, .ref oa)]) hx hb dL_alter_13 hl (by decide) rfl (fun ls hl => ?_)
      refine lv_iconst (v := 1) hx hb dL_alter_15 (by decide) ?_
      exact zr_iret C I hr hlk (by rw [show zs_alter T i y = T from if_neg (by rw [hc]; decide)]; exact zLQ_no 1 hF ho ho1 hc (by decide)) (Nat.le_of_ble_eq_true rfl) (Nat.le_of_ble_eq_true rfl) dL_alter_16
    · rw [eS] at I
      refine zr_catch C I htab [⟨0, 10, 13, 20⟩] ⟨0, 10, 17, 13⟩ [⟨0, 10, 21, 15⟩] rfl (by decide) (by decide) (fun z hz => by rw [List.mem_singleton.mp hz]; exact ⟨by decide, "java/lang/IndexOutOfBoundsException", zm_286, by decide⟩) zm_125 (by decide +kernel) h1 h2 h3 ?_
      refine lv_astore (lv' := [(4, .ref q9), (0, .ref x), (1, .int i), (2, .int y), (3, .ref oa)]) hx hb dL_alter_17 hl (by decide) rfl (fun ls hl => ?_)
      refine lv_iconst (v := 2) hx hb dL_alter_19 (by decide) ?_
      exact zr_iret C I hr hlk (by rw [show zs_alter T i y = T from if_neg (by rw [hc]; decide)]; exact zLQ_no 2 hF ho ho1 hc (by decide)) (Nat.le_of_ble_eq_true rfl) (Nat.le_of_ble_eq_true rfl) dL_alter_20
    · rw [eS] at I
      refine zr_catch C I htab [⟨0, 10, 13, 20⟩, ⟨0, 10, 17, 13⟩] ⟨0, 10, 21, 15⟩ [] rfl (by decide) (by decide) (fun z hz => by rcases List.mem_cons.mp hz with hz | hz; (rw [hz]; exact ⟨by decide, "java/lang/IndexOutOfBoundsException", zm_286, by decide⟩); (rw [List.mem_singleton.mp hz]; exact ⟨by decide, "java/lang/IllegalArgumentException", zm_125, by decide⟩)) zm_126 (by decide +kernel) h1 h2 h3 ?_
      refine lv_astore (lv' := [(4, .ref q9), (0, .ref x), (1, .int i), (2, .int y), (3, .ref oa)]) hx hb dL_alter_21 hl (by decide) rfl (fun ls hl => ?_)
      refine lv_iconst (v := 3) hx hb dL_alter_23 (by decide) ?_
      exact zr_iret C I hr hlk (by rw [show zs_alter T i y = T from if_neg (by rw [hc]; decide)]; exact zLQ_no 3 hF ho ho1 hc (by decide)) (Nat.le_of_ble_eq_true rfl) (Nat.le_of_ble_eq_true rfl) dL_alter_24
  · obtain ⟨hc, rfl, hF8, hk8⟩ := hq
    have ho2 : zh_N S' oa = 1 := (hk8 oa ho.1).2.2.1.trans ho1
    refine lv_i2l hx hb dL_alter_8 rfl ?_
    refine zr_last C I ⟨(hk8 oa ho.1).1, (hk8 oa ho.1).2.1.trans ho.2⟩ (by rw [ho2]; exact (show vp_in (nI 0) 1 from vp_in_nI (by omega) (by omega))) dL_alter_9 (fun H locs I => ?_)
    refine lv_goto (tgt := 25) hx hb dL_alter_10 (by decide) ?_
    refine lv_iconst (v := 0) hx hb dL_alter_25 (by decide) ?_
    exact zr_iret C I hr hlk (zLQ_ok ⟨pl, lo, pt, ty, pa, la, ap, ad, ae, hF8⟩ (⟨(hk8 oa ho.1).1, (hk8 oa ho.1).2.1.trans ho.2⟩) ho2 hc) (Nat.le_of_ble_eq_true rfl) (Nat.le_of_ble_eq_true rfl) dL_alter_26

set_option maxRecDepth 100000 in
set_option maxHeartbeats 4000000 in
theorem k_L_found (l : Launch) (g : zG) (hst : l.stackTraces = false) (S : zS) (T : zT) (x oa : Nat) (i : Int32) (hT : zt_ok T) (hF : FE g S T x) (ho : zh_at S 9 oa) (ho1 : zh_N S oa = 1) : zMH l yL_found cL_found 4 (some .int) [(0, 9, 12, 20), (0, 9, 15, 15)] (zrm 9 10 300) g [.ref x, .int i, .ref oa] S (fun w S' => zLQ g S' T x oa (zc_found T i) ((nI (zt_fd T (T.2 5 (zx i)) (zx i))).toInt64) w) := by
  refine zMH_of (nm := "found") (by decide +kernel) rfl (Nat.le_of_ble_eq_true rfl) ?_
  intro p e s m args below meth c A ls C hr hlk hin htab I hl
  have C : CallFix p m c cL_found 4 s args zc_W RL := C
  have hx := C.1
  have hb := C.2.1
  have hl : lv_has ls 4 [(0, .ref x), (1, .int i), (2, .ref oa)] := hl
  obtain ⟨pl, lo, pt, ty, pa, la, ap, ad, ae, hF9⟩ := id hF
  refine lv_aload_n hx hb dL_found_0 rfl (lv_at hl 2 rfl) ?_
  refine lv_iconst (v := 0) hx hb dL_found_1 (by decide) ?_
  refine lv_aload_n hx hb dL_found_2 rfl (lv_at hl 0 rfl) ?_
  refine lv_iload_n hx hb dL_found_3 rfl (lv_at hl 1 rfl) ?_
  refine zc_VX (n := 1) (rest := [.int 0, .ref oa]) C I hF9.1.1 rfl rfl (k_X3_found l g hst S T x pl lo pt ty pa la ap ad ae hT hF9 i) zm_436 zm_437 zm_438 zm_24 zm_439 rfl hl.1 dL_found_4 (by decide +kernel) rfl ⟨Nat.le_of_ble_eq_true rfl, Nat.le_of_ble_eq_true rfl⟩ (Nat.le_of_ble_eq_true rfl) ⟨Nat.le_of_ble_eq_true rfl, Nat.le_of_ble_eq_true rfl⟩ (fun E ce q9 S' H locs hq I h1 h2 h3 => ?_) (fun v S' H locs hq I => ?_)
  · obtain ⟨hq1, eS⟩ := hq
    rcases hq1 with ⟨hc, rfl⟩ | ⟨hc, rfl⟩
    · refine zr_catch C I htab [] ⟨0, 9, 12, 20⟩ [⟨0, 9, 15, 15⟩] rfl (by decide) (by decide) (fun z hz => absurd hz List.not_mem_nil) zm_286 (by decide +kernel) h1 h2 h3 ?_
      refine lv_astore_n (lv' := [(3, .ref q9), (0, .ref x), (1, .int i), (2, .ref oa)]) hx hb dL_found_12 rfl hl (by decide) rfl (fun ls hl => ?_)
      refine lv_iconst (v := 1) hx hb dL_found_13 (by decide) ?_
      obtain ⟨hF8, hk8⟩ := eS
      exact zr_iret C I hr hlk (zLQ_no 1 ⟨pl, lo, pt, ty, pa, la, ap, ad, ae, hF8⟩ (⟨(hk8 oa ho.1).1, (hk8 oa ho.1).2.1.trans ho.2⟩) ((hk8 oa ho.1).2.2.1.trans ho1) hc (by decide)) (Nat.le_of_ble_eq_true rfl) (Nat.le_of_ble_eq_true rfl) dL_found_14
    · refine zr_catch C I htab [⟨0, 9, 12, 20⟩] ⟨0, 9, 15, 15⟩ [] rfl (by decide) (by decide) (fun z hz => by rw [List.mem_singleton.mp hz]; exact ⟨by decide, "java/lang/IndexOutOfBoundsException", zm_286, by decide⟩) zm_126 (by decide +kernel) h1 h2 h3 ?_
      refine lv_astore_n (lv' := [(3, .ref q9), (0, .ref x), (1, .int i), (2, .ref oa)]) hx hb dL_found_15 rfl hl (by decide) rfl (fun ls hl => ?_)
      refine lv_iconst (v := 2) hx hb dL_found_16 (by decide) ?_
      obtain ⟨hF8, hk8⟩ := eS
      exact zr_iret C I hr hlk (zLQ_no 2 ⟨pl, lo, pt, ty, pa, la, ap, ad, ae, hF8⟩ (⟨(hk8 oa ho.1).1, (hk8 oa ho.1).2.1.trans ho.2⟩) ((hk8 oa ho.1).2.2.1.trans ho1) hc (by decide)) (Nat.le_of_ble_eq_true rfl) (Nat.le_of_ble_eq_true rfl) dL_found_17
  · obtain ⟨hc, rfl, hF8, hk8⟩ := hq
    have ho2 : zh_N S' oa = 1 := (hk8 oa ho.1).2.2.1.trans ho1
    refine lv_i2l hx hb dL_found_7 rfl ?_
    refine zr_last C I ⟨(hk8 oa ho.1).1, (hk8 oa ho.1).2.1.trans ho.2⟩ (by rw [ho2]; exact (show vp_in (nI 0) 1 from vp_in_nI (by omega) (by omega))) dL_found_8 (fun H locs I => ?_)
    refine lv_goto (tgt := 18) hx hb dL_found_9 (by decide) ?_
    refine lv_iconst (v := 0) hx hb dL_found_18 (by decide) ?_
    exact zr_iret C I hr hlk (zLQ_ok ⟨pl, lo, pt, ty, pa, la, ap, ad, ae, hF8⟩ (⟨(hk8 oa ho.1).1, (hk8 oa ho.1).2.1.trans ho.2⟩) ho2 hc) (Nat.le_of_ble_eq_true rfl) (Nat.le_of_ble_eq_true rfl) dL_found_19

set_option maxRecDepth 100000 in
set_option maxHeartbeats 4000000 in
theorem k_L_wrong (l : Launch) (g : zG) (hst : l.stackTraces = false) (S : zS) (T : zT) (x oa : Nat) (i : Int32) (hT : zt_ok T) (hF : FE g S T x) (ho : zh_at S 9 oa) (ho1 : zh_N S oa = 1) : zMH l yL_wrong cL_wrong 4 (some .int) [(0, 9, 12, 20), (0, 9, 15, 15)] (zrm 9 10 300) g [.ref x, .int i, .ref oa] S (fun w S' => zLQ g S' T x oa (zc_wrong T i) ((zv_wrong T (zx i)).toInt64) w) := by
  refine zMH_of (nm := "wrong") (by decide +kernel) rfl (Nat.le_of_ble_eq_true rfl) ?_
  intro p e s m args below meth c A ls C hr hlk hin htab I hl
  have C : CallFix p m c cL_wrong 4 s args zc_W RL := C
  have hx := C.1
  have hb := C.2.1
  have hl : lv_has ls 4 [(0, .ref x), (1, .int i), (2, .ref oa)] := hl
  obtain ⟨pl, lo, pt, ty, pa, la, ap, ad, ae, hF9⟩ := id hF
  refine lv_aload_n hx hb dL_wrong_0 rfl (lv_at hl 2 rfl) ?_
  refine lv_iconst (v := 0) hx hb dL_wrong_1 (by decide) ?_
  refine lv_aload_n hx hb dL_wrong_2 rfl (lv_at hl 0 rfl) ?_
  refine lv_iload_n hx hb dL_wrong_3 rfl (lv_at hl 1 rfl) ?_
  refine zc_VX (n := 1) (rest := [.int 0, .ref oa]) C I hF9.1.1 rfl rfl (k_X3_wrong l g hst S T x pl lo pt ty pa la ap ad ae hT hF9 i) zm_447 zm_448 zm_449 zm_24 zm_450 rfl hl.1 dL_wrong_4 (by decide +kernel) rfl ⟨Nat.le_of_ble_eq_true rfl, Nat.le_of_ble_eq_true rfl⟩ (Nat.le_of_ble_eq_true rfl) ⟨Nat.le_of_ble_eq_true rfl, Nat.le_of_ble_eq_true rfl⟩ (fun E ce q9 S' H locs hq I h1 h2 h3 => ?_) (fun v S' H locs hq I => ?_)
  · obtain ⟨hq1, eS⟩ := hq
    rcases hq1 with ⟨hc, rfl⟩ | ⟨hc, rfl⟩
    · rw [eS] at I
      refine zr_catch C I htab [] ⟨0, 9, 12, 20⟩ [⟨0, 9, 15, 15⟩] rfl (by decide) (by decide) (fun z hz => absurd hz List.not_mem_nil) zm_286 (by decide +kernel) h1 h2 h3 ?_
      refine lv_astore_n (lv' := [(3, .ref q9), (0, .ref x), (1, .int i), (2, .ref oa)]) hx hb dL_wrong_12 rfl hl (by decide) rfl (fun ls hl => ?_)
      refine lv_iconst (v := 1) hx hb dL_wrong_13 (by decide) ?_
      exact zr_iret C I hr hlk (zLQ_no 1 hF ho ho1 hc (by decide)) (Nat.le_of_ble_eq_true rfl) (Nat.le_of_ble_eq_true rfl) dL_wrong_14
    · rw [eS] at I
      refine zr_catch C I htab [⟨0, 9, 12, 20⟩] ⟨0, 9, 15, 15⟩ [] rfl (by decide) (by decide) (fun z hz => by rw [List.mem_singleton.mp hz]; exact ⟨by decide, "java/lang/IndexOutOfBoundsException", zm_286, by decide⟩) zm_126 (by decide +kernel) h1 h2 h3 ?_
      refine lv_astore_n (lv' := [(3, .ref q9), (0, .ref x), (1, .int i), (2, .ref oa)]) hx hb dL_wrong_15 rfl hl (by decide) rfl (fun ls hl => ?_)
      refine lv_iconst (v := 2) hx hb dL_wrong_16 (by decide) ?_
      exact zr_iret C I hr hlk (zLQ_no 2 hF ho ho1 hc (by decide)) (Nat.le_of_ble_eq_true rfl) (Nat.le_of_ble_eq_true rfl) dL_wrong_17
  · obtain ⟨hc, rfl, hF8, hk8⟩ := hq
    have ho2 : zh_N S' oa = 1 := (hk8 oa ho.1).2.2.1.trans ho1
    refine lv_i2l hx hb dL_wrong_7 rfl ?_
    refine zr_last C I ⟨(hk8 oa ho.1).1, (hk8 oa ho.1).2.1.trans ho.2⟩ (by rw [ho2]; exact (show vp_in (nI 0) 1 from vp_in_nI (by omega) (by omega))) dL_wrong_8 (fun H locs I => ?_)
    refine lv_goto (tgt := 18) hx hb dL_wrong_9 (by decide) ?_
    refine lv_iconst (v := 0) hx hb dL_wrong_18 (by decide) ?_
    exact zr_iret C I hr hlk (zLQ_ok ⟨pl, lo, pt, ty, pa, la, ap, ad, ae, hF8⟩ (⟨(hk8 oa ho.1).1, (hk8 oa ho.1).2.1.trans ho.2⟩) ho2 hc) (Nat.le_of_ble_eq_true rfl) (Nat.le_of_ble_eq_true rfl) dL_wrong_19

set_option maxRecDepth 100000 in
set_option maxHeartbeats 4000000 in
theorem k_L_dispute (l : Launch) (g : zG) (hst : l.stackTraces = false) (S : zS) (T : zT) (x oa : Nat) (i : Int32) (hT : zt_ok T) (hF : FE g S T x) (ho : zh_at S 9 oa) (ho1 : zh_N S oa = 1) : zMH l yL_dispute cL_dispute 4 (some .int) [(0, 9, 12, 20), (0, 9, 15, 15)] (zrm 9 10 300) g [.ref x, .int i, .ref oa] S (fun w S' => zLQ g S' (zs_disp T i) x oa (zc_disp T i) ((nI (zv_disp T (zx i))).toInt64) w) := by
  refine zMH_of (nm := "dispute") (by decide +kernel) rfl (Nat.le_of_ble_eq_true rfl) ?_
  intro p e s m args below meth c A ls C hr hlk hin htab I hl
  have C : CallFix p m c cL_dispute 4 s args zc_W RL := C
  have hx := C.1
  have hb := C.2.1
  have hl : lv_has ls 4 [(0, .ref x), (1, .int i), (2, .ref oa)] := hl
  obtain ⟨pl, lo, pt, ty, pa, la, ap, ad, ae, hF9⟩ := id hF
  refine lv_aload_n hx hb dL_dispute_0 rfl (lv_at hl 2 rfl) ?_
  refine lv_iconst (v := 0) hx hb dL_dispute_1 (by decide) ?_
  refine lv_aload_n hx hb dL_dispute_2 rfl (lv_at hl 0 rfl) ?_
  refine lv_iload_n hx hb dL_dispute_3 rfl (lv_at hl 1 rfl) ?_
  refine zc_VX (n := 1) (rest := [.int 0, .ref oa]) C I hF9.1.1 rfl rfl (k_X3_dispute l g hst S T x pl lo pt ty pa la ap ad ae hT hF9 i) zm_457 zm_458 zm_459 zm_24 zm_460 rfl hl.1 dL_dispute_4 (by decide +kernel) rfl ⟨Nat.le_of_ble_eq_true rfl, Nat.le_of_ble_eq_true rfl⟩ (Nat.le_of_ble_eq_true rfl) ⟨Nat.le_of_ble_eq_true rfl, Nat.le_of_ble_eq_true rfl⟩ (fun E ce q9 S' H locs hq I h1 h2 h3 => ?_) (fun v S' H locs hq I => ?_)
  · obtain ⟨hq1, eS⟩ := hq
    rcases hq1 with ⟨hc, rfl⟩ | ⟨hc, rfl⟩
    · rw [eS] at I
      refine zr_catch C I htab [] ⟨0, 9, 12, 20⟩ [⟨0, 9, 15, 15⟩] rfl (by decide) (by decide) (fun z hz => absurd hz List.not_mem_nil) zm_286 (by decide +kernel) h1 h2 h3 ?_
      refine lv_astore_n (lv' := [(3, .ref q9), (0, .ref x), (1, .int i), (2, .ref oa)]) hx hb dL_dispute_12 rfl hl (by decide) rfl (fun ls hl => ?_)
      refine lv_iconst (v := 1) hx hb dL_dispute_13 (by decide) ?_
      exact zr_iret C I hr hlk (by rw [show zs_disp T i = T from if_neg (by rw [hc]; decide)]; exact zLQ_no 1 hF ho ho1 hc (by decide)) (Nat.le_of_ble_eq_true rfl) (Nat.le_of_ble_eq_true rfl) dL_dispute_14
    · rw [eS] at I
      refine zr_catch C I htab [⟨0, 9, 12, 20⟩] ⟨0, 9, 15, 15⟩ [] rfl (by decide) (by decide) (fun z hz => by rw [List.mem_singleton.mp hz]; exact ⟨by decide, "java/lang/IndexOutOfBoundsException", zm_286, by decide⟩) zm_126 (by decide +kernel) h1 h2 h3 ?_
      refine lv_astore_n (lv' := [(3, .ref q9), (0, .ref x), (1, .int i), (2, .ref oa)]) hx hb dL_dispute_15 rfl hl (by decide) rfl (fun ls hl => ?_)
      refine lv_iconst (v := 2) hx hb dL_dispute_16 (by decide) ?_
      exact zr_iret C I hr hlk (by rw [show zs_disp T i = T from if_neg (by rw [hc]; decide)]; exact zLQ_no 2 hF ho ho1 hc (by decide)) (Nat.le_of_ble_eq_true rfl) (Nat.le_of_ble_eq_true rfl) dL_dispute_17
  · obtain ⟨hc, rfl, hF8, hk8⟩ := hq
    have ho2 : zh_N S' oa = 1 := (hk8 oa ho.1).2.2.1.trans ho1
    refine lv_i2l hx hb dL_dispute_7 rfl ?_
    refine zr_last C I ⟨(hk8 oa ho.1).1, (hk8 oa ho.1).2.1.trans ho.2⟩ (by rw [ho2]; exact (show vp_in (nI 0) 1 from vp_in_nI (by omega) (by omega))) dL_dispute_8 (fun H locs I => ?_)
    refine lv_goto (tgt := 18) hx hb dL_dispute_9 (by decide) ?_
    refine lv_iconst (v := 0) hx hb dL_dispute_18 (by decide) ?_
    exact zr_iret C I hr hlk (zLQ_ok ⟨pl, lo, pt, ty, pa, la, ap, ad, ae, hF8⟩ (⟨(hk8 oa ho.1).1, (hk8 oa ho.1).2.1.trans ho.2⟩) ho2 hc) (Nat.le_of_ble_eq_true rfl) (Nat.le_of_ble_eq_true rfl) dL_dispute_19

set_option maxRecDepth 100000 in
set_option maxHeartbeats 4000000 in
theorem k_L_isStruck (l : Launch) (g : zG) (hst : l.stackTraces = false) (S : zS) (T : zT) (x oa : Nat) (i : Int32) (hT : zt_ok T) (hF : FE g S T x) (ho : zh_at S 9 oa) (ho1 : zh_N S oa = 1) : zMH l yL_isStruck cL_isStruck 4 (some .int) [(0, 16, 19, 20)] (zrm 9 10 300) g [.ref x, .int i, .ref oa] S (fun w S' => zLQ g S' T x oa (zc_entry T i) (if T.2 12 (zx i) = 0 then 0 else 1) w) := by
  refine zMH_of (nm := "isStruck") (by decide +kernel) rfl (Nat.le_of_ble_eq_true rfl) ?_
  intro p e s m args below meth c A ls C hr hlk hin htab I hl
  have C : CallFix p m c cL_isStruck 4 s args zc_W RL := C
  have hx := C.1
  have hb := C.2.1
  have hl : lv_has ls 4 [(0, .ref x), (1, .int i), (2, .ref oa)] := hl
  obtain ⟨pl, lo, pt, ty, pa, la, ap, ad, ae, hF9⟩ := id hF
  refine lv_aload_n hx hb dL_isStruck_0 rfl (lv_at hl 2 rfl) ?_
  refine lv_iconst (v := 0) hx hb dL_isStruck_1 (by decide) ?_
  refine lv_aload_n hx hb dL_isStruck_2 rfl (lv_at hl 0 rfl) ?_
  refine lv_iload_n hx hb dL_isStruck_3 rfl (lv_at hl 1 rfl) ?_
  refine zc_VX (n := 1) (rest := [.int 0, .ref oa]) C I hF9.1.1 rfl rfl (k_X3_isStruck l g hst S T x pl lo pt ty pa la ap ad ae hT hF9 i) zm_468 zm_469 zm_470 zm_24 zm_471 rfl hl.1 dL_isStruck_4 (by decide +kernel) rfl ⟨Nat.le_of_ble_eq_true rfl, Nat.le_of_ble_eq_true rfl⟩ (Nat.le_of_ble_eq_true rfl) ⟨Nat.le_of_ble_eq_true rfl, Nat.le_of_ble_eq_true rfl⟩ (fun E ce q9 S' H locs hq I h1 h2 h3 => ?_) (fun v S' H locs hq I => ?_)
  · obtain ⟨hc, rfl, eS⟩ := hq
    rw [eS] at I
    refine zr_catch C I htab [] ⟨0, 16, 19, 20⟩ [] rfl (by decide) (by decide) (fun z hz => absurd hz List.not_mem_nil) zm_286 (by decide +kernel) h1 h2 h3 ?_
    refine lv_astore_n (lv' := [(3, .ref q9), (0, .ref x), (1, .int i), (2, .ref oa)]) hx hb dL_isStruck_19 rfl hl (by decide) rfl (fun ls hl => ?_)
    refine lv_iconst (v := 1) hx hb dL_isStruck_20 (by decide) ?_
    exact zr_iret C I hr hlk (zLQ_no 1 hF ho ho1 hc (by decide)) (Nat.le_of_ble_eq_true rfl) (Nat.le_of_ble_eq_true rfl) dL_isStruck_21
  · obtain ⟨hc, rfl, eS⟩ := hq
    rw [eS] at I
    have ho2 : zh_N S oa = 1 := ho1
    have hb2 : T.2 12 (zx i) ≤ 1 := (hT.2.2.2.2.1 (zx i) ((zi_cases i (n := T.1.2) (by have := hT.2.1; omega)).elim (fun h => absurd ((if_pos h : zc_entry T i = 1).symm.trans hc) (by decide)) (fun h => h.2.1))).2.2.2.2.2.2.2.2.2
    refine lv_if_eq (tgt := 14) hx hb dL_isStruck_7 (by decide) (fun c7 => ?_) (fun c7 => ?_)
    · have c7 : (T.2 12 (zx i)) = 0 := (nI_eq (a := T.2 12 (zx i)) (b := 0) (by omega) (by omega)).mp c7
      refine lv_lconst (v := 0) hx hb dL_isStruck_14 (by decide) ?_
      refine zr_last C I ho (by rw [ho2]; exact (show vp_in (nI 0) 1 from vp_in_nI (by omega) (by omega))) dL_isStruck_15 (fun H locs I => ?_)
      refine lv_goto (tgt := 22) hx hb dL_isStruck_16 (by decide) ?_
      refine lv_iconst (v := 0) hx hb dL_isStruck_22 (by decide) ?_
      exact zr_iret C I hr hlk (by rw [if_pos c7]; exact zLQ_ok hF ho ho2 hc) (Nat.le_of_ble_eq_true rfl) (Nat.le_of_ble_eq_true rfl) dL_isStruck_23
    · have c7 : ¬ (T.2 12 (zx i)) = 0 := fun h9 => c7 ((nI_eq (a := T.2 12 (zx i)) (b := 0) (by omega) (by omega)).mpr h9)
      refine lv_lconst (v := 1) hx hb dL_isStruck_10 (by decide) ?_
      refine lv_goto (tgt := 15) hx hb dL_isStruck_11 (by decide) ?_
      refine zr_last C I ho (by rw [ho2]; exact (show vp_in (nI 0) 1 from vp_in_nI (by omega) (by omega))) dL_isStruck_15 (fun H locs I => ?_)
      refine lv_goto (tgt := 22) hx hb dL_isStruck_16 (by decide) ?_
      refine lv_iconst (v := 0) hx hb dL_isStruck_22 (by decide) ?_
      exact zr_iret C I hr hlk (by rw [if_neg c7]; exact zLQ_ok hF ho ho2 hc) (Nat.le_of_ble_eq_true rfl) (Nat.le_of_ble_eq_true rfl) dL_isStruck_23

set_option maxRecDepth 100000 in
set_option maxHeartbeats 4000000 in
theorem k_L_count (l : Launch) (g : zG) (hst : l.stackTraces = false) (S : zS) (T : zT) (x oa : Nat) (i y : Int32) (hT : zt_ok T) (hF : FE g S T x) (ho : zh_at S 9 oa) (ho1 : zh_N S oa = 1) : zMH l yL_count cL_count 5 (some .int) [(0, 10, 13, 13)] (zrm 9 10 300) g [.ref x, .int i, .int y, .ref oa] S (fun w S' => zLQ g S' T x oa (zc_count i y) ((nI (zt_cnt T (zx i) (zx y) T.1.2)).toInt64) w) := by
  refine zMH_of (nm := "count") (by decide +kernel) rfl (Nat.le_of_ble_eq_true rfl) ?_
  intro p e s m args below meth c A ls C hr hlk hin htab I hl
  have C : CallFix p m c cL_count 5 s args zc_W RL := C
  have hx := C.1
  have hb := C.2.1
  have hl : lv_has ls 5 [(0, .ref x), (1, .int i), (2, .int y), (3, .ref oa)] := hl
  obtain ⟨pl, lo, pt, ty, pa, la, ap, ad, ae, hF9⟩ := id hF
  refine lv_aload_n hx hb dL_count_0 rfl (lv_at hl 3 rfl) ?_
  refine lv_iconst (v := 0) hx hb dL_count_1 (by decide) ?_
  refine lv_aload_n hx hb dL_count_2 rfl (lv_at hl 0 rfl) ?_
  refine lv_iload_n hx hb dL_count_3 rfl (lv_at hl 1 rfl) ?_
  refine lv_iload_n hx hb dL_count_4 rfl (lv_at hl 2 rfl) ?_
  refine zc_VX (n := 2) (rest := [.int 0, .ref oa]) C I hF9.1.1 rfl rfl (k_X3_count l g hst S T x pl lo pt ty pa la ap ad ae hT hF9 i y) zm_475 zm_476 zm_477 zm_24 zm_478 rfl hl.1 dL_count_5 (by decide +kernel) rfl ⟨Nat.le_of_ble_eq_true rfl, Nat.le_of_ble_eq_true rfl⟩ (Nat.le_of_ble_eq_true rfl) ⟨Nat.le_of_ble_eq_true rfl, Nat.le_of_ble_eq_true rfl⟩ (fun E ce q9 S' H locs hq I h1 h2 h3 => ?_) (fun v S' H locs hq I => ?_)
  · obtain ⟨hc, rfl, eS⟩ := hq
    rw [eS] at I
    refine zr_catch C I htab [] ⟨0, 10, 13, 13⟩ [] rfl (by decide) (by decide) (fun z hz => absurd hz List.not_mem_nil) zm_125 (by decide +kernel) h1 h2 h3 ?_
    refine lv_astore (lv' := [(4, .ref q9), (0, .ref x), (1, .int i), (2, .int y), (3, .ref oa)]) hx hb dL_count_13 hl (by decide) rfl (fun ls hl => ?_)
    refine lv_iconst (v := 1) hx hb dL_count_15 (by decide) ?_
    exact zr_iret C I hr hlk (zLQ_no 1 hF ho ho1 hc (by decide)) (Nat.le_of_ble_eq_true rfl) (Nat.le_of_ble_eq_true rfl) dL_count_16
  · obtain ⟨hc, rfl, eS⟩ := hq
    rw [eS] at I
    have ho2 : zh_N S oa = 1 := ho1
    refine lv_i2l hx hb dL_count_8 rfl ?_
    refine zr_last C I ho (by rw [ho2]; exact (show vp_in (nI 0) 1 from vp_in_nI (by omega) (by omega))) dL_count_9 (fun H locs I => ?_)
    refine lv_goto (tgt := 17) hx hb dL_count_10 (by decide) ?_
    refine lv_iconst (v := 0) hx hb dL_count_17 (by decide) ?_
    exact zr_iret C I hr hlk (zLQ_ok hF ho ho2 hc) (Nat.le_of_ble_eq_true rfl) (Nat.le_of_ble_eq_true rfl) dL_count_18

set_option maxRecDepth 100000 in
set_option maxHeartbeats 4000000 in
theorem k_L_uneven (l : Launch) (g : zG) (hst : l.stackTraces = false) (S : zS) (T : zT) (x oa : Nat) (i : Int32) (hT : zt_ok T) (hF : FE g S T x) (ho : zh_at S 9 oa) (ho1 : zh_N S oa = 1) : zMH l yL_uneven cL_uneven 4 (some .int) [(0, 8, 11, 13)] (zrm 9 10 300) g [.ref x, .int i, .ref oa] S (fun w S' => zLQ g S' T x oa (zc_unev i) (zt_unev T (zx i) (zx i)) w) := by
  refine zMH_of (nm := "uneven") (by decide +kernel) rfl (Nat.le_of_ble_eq_true rfl) ?_
  intro p e s m args below meth c A ls C hr hlk hin htab I hl
  have C : CallFix p m c cL_uneven 4 s args zc_W RL := C
  have hx := C.1
  have hb := C.2.1
  have hl : lv_has ls 4 [(0, .ref x), (1, .int i), (2, .ref oa)] := hl
  obtain ⟨pl, lo, pt, ty, pa, la, ap, ad, ae, hF9⟩ := id hF
  refine lv_aload_n hx hb dL_uneven_0 rfl (lv_at hl 2 rfl) ?_
  refine lv_iconst (v := 0) hx hb dL_uneven_1 (by decide) ?_
  refine lv_aload_n hx hb dL_uneven_2 rfl (lv_at hl 0 rfl) ?_
  refine lv_iload_n hx hb dL_uneven_3 rfl (lv_at hl 1 rfl) ?_
  refine zc_VX (n := 1) (rest := [.int 0, .ref oa]) C I hF9.1.1 rfl rfl (k_X3_uneven l g hst S T x pl lo pt ty pa la ap ad ae hT hF9 i) zm_484 zm_485 zm_486 zm_24 zm_487 rfl hl.1 dL_uneven_4 (by decide +kernel) rfl ⟨Nat.le_of_ble_eq_true rfl, Nat.le_of_ble_eq_true rfl⟩ (Nat.le_of_ble_eq_true rfl) ⟨Nat.le_of_ble_eq_true rfl, Nat.le_of_ble_eq_true rfl⟩ (fun E ce q9 S' H locs hq I h1 h2 h3 => ?_) (fun v S' H locs hq I => ?_)
  · obtain ⟨hc, rfl, eS⟩ := hq
    rw [eS] at I
    refine zr_catch C I htab [] ⟨0, 8, 11, 13⟩ [] rfl (by decide) (by decide) (fun z hz => absurd hz List.not_mem_nil) zm_125 (by decide +kernel) h1 h2 h3 ?_
    refine lv_astore_n (lv' := [(3, .ref q9), (0, .ref x), (1, .int i), (2, .ref oa)]) hx hb dL_uneven_11 rfl hl (by decide) rfl (fun ls hl => ?_)
    refine lv_iconst (v := 1) hx hb dL_uneven_12 (by decide) ?_
    exact zr_iret C I hr hlk (zLQ_no 1 hF ho ho1 hc (by decide)) (Nat.le_of_ble_eq_true rfl) (Nat.le_of_ble_eq_true rfl) dL_uneven_13
  · obtain ⟨hc, rfl, hF8, hk8⟩ := hq
    have ho2 : zh_N S' oa = 1 := (hk8 oa ho.1).2.2.1.trans ho1
    refine zr_last C I ⟨(hk8 oa ho.1).1, (hk8 oa ho.1).2.1.trans ho.2⟩ (by rw [ho2]; exact (show vp_in (nI 0) 1 from vp_in_nI (by omega) (by omega))) dL_uneven_7 (fun H locs I => ?_)
    refine lv_goto (tgt := 14) hx hb dL_uneven_8 (by decide) ?_
    refine lv_iconst (v := 0) hx hb dL_uneven_14 (by decide) ?_
    exact zr_iret C I hr hlk (zLQ_ok ⟨pl, lo, pt, ty, pa, la, ap, ad, ae, hF8⟩ (⟨(hk8 oa ho.1).1, (hk8 oa ho.1).2.1.trans ho.2⟩) ho2 hc) (Nat.le_of_ble_eq_true rfl) (Nat.le_of_ble_eq_true rfl) dL_uneven_15

set_option maxRecDepth 100000 in
set_option maxHeartbeats 4000000 in
theorem k_L_total (l : Launch) (g : zG) (hst : l.stackTraces = false) (S : zS) (T : zT) (x oa : Nat) (i : Int32) (hT : zt_ok T) (hF : FE g S T x) (ho : zh_at S 9 oa) (ho1 : zh_N S oa = 1) : zMH l yL_total cL_total 4 (some .int) [(0, 9, 12, 20)] (zrm 9 10 300) g [.ref x, .int i, .ref oa] S (fun w S' => zLQ g S' T x oa (zc_tab i) ((nI (zt_total T (zx i) T.1.2)).toInt64) w) := by
  refine zMH_of (nm := "total") (by decide +kernel) rfl (Nat.le_of_ble_eq_true rfl) ?_
  intro p e s m args below meth c A ls C hr hlk hin htab I hl
  have C : CallFix p m c cL_total 4 s args zc_W RL := C
  have hx := C.1
  have hb := C.2.1
  have hl : lv_has ls 4 [(0, .ref x), (1, .int i), (2, .ref oa)] := hl
  obtain ⟨pl, lo, pt, ty, pa, la, ap, ad, ae, hF9⟩ := id hF
  refine lv_aload_n hx hb dL_total_0 rfl (lv_at hl 2 rfl) ?_
  refine lv_iconst (v := 0) hx hb dL_total_1 (by decide) ?_
  refine lv_aload_n hx hb dL_total_2 rfl (lv_at hl 0 rfl) ?_
  refine lv_iload_n hx hb dL_total_3 rfl (lv_at hl 1 rfl) ?_
  refine zc_VX (n := 1) (rest := [.int 0, .ref oa]) C I hF9.1.1 rfl rfl (k_X3_total l g hst S T x pl lo pt ty pa la ap ad ae hT hF9 i) zm_497 zm_498 zm_499 zm_24 zm_500 rfl hl.1 dL_total_4 (by decide +kernel) rfl ⟨Nat.le_of_ble_eq_true rfl, Nat.le_of_ble_eq_true rfl⟩ (Nat.le_of_ble_eq_true rfl) ⟨Nat.le_of_ble_eq_true rfl, Nat.le_of_ble_eq_true rfl⟩ (fun E ce q9 S' H locs hq I h1 h2 h3 => ?_) (fun v S' H locs hq I => ?_)
  · obtain ⟨hc, rfl, eS⟩ := hq
    rw [eS] at I
    refine zr_catch C I htab [] ⟨0, 9, 12, 20⟩ [] rfl (by decide) (by decide) (fun z hz => absurd hz List.not_mem_nil) zm_286 (by decide +kernel) h1 h2 h3 ?_
    refine lv_astore_n (lv' := [(3, .ref q9), (0, .ref x), (1, .int i), (2, .ref oa)]) hx hb dL_total_12 rfl hl (by decide) rfl (fun ls hl => ?_)
    refine lv_iconst (v := 1) hx hb dL_total_13 (by decide) ?_
    exact zr_iret C I hr hlk (zLQ_no 1 hF ho ho1 hc (by decide)) (Nat.le_of_ble_eq_true rfl) (Nat.le_of_ble_eq_true rfl) dL_total_14
  · obtain ⟨hc, rfl, eS⟩ := hq
    rw [eS] at I
    have ho2 : zh_N S oa = 1 := ho1
    refine lv_i2l hx hb dL_total_7 rfl ?_
    refine zr_last C I ho (by rw [ho2]; exact (show vp_in (nI 0) 1 from vp_in_nI (by omega) (by omega))) dL_total_8 (fun H locs I => ?_)
    refine lv_goto (tgt := 15) hx hb dL_total_9 (by decide) ?_
    refine lv_iconst (v := 0) hx hb dL_total_15 (by decide) ?_
    exact zr_iret C I hr hlk (zLQ_ok hF ho ho2 hc) (Nat.le_of_ble_eq_true rfl) (Nat.le_of_ble_eq_true rfl) dL_total_16

