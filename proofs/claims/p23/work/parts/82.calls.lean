/-! the law's calls: a throw told as a number -/
def zca (c : Nat) (e2 e3 v : Int32) : Int32 := if c = 0 then v else if c = 2 then e2 else e3
theorem zca_0 {c : Nat} (h : c = 0) (e2 e3 v : Int32) : zca c e2 e3 v = v := if_pos h
theorem zca_2 {c : Nat} (h : c = 2) (e2 e3 v : Int32) : zca c e2 e3 v = e2 := by subst h; rfl
theorem zca_3 {c : Nat} (h : c = 3) (e2 e3 v : Int32) : zca c e2 e3 v = e3 := by subst h; rfl

set_option maxRecDepth 100000 in
set_option maxHeartbeats 4000000 in
theorem k_L_calls_open (l : Launch) (g : zG) (hst : l.stackTraces = false) (S : zS) (T : zT) (x : Nat) (i y z : Int32) (hT : zt_ok T) (hF : FE g S T x) (hc1 : zc_open T i ≠ 1) : zMH l yL_calls cL_calls 6 (some .int) [(0, 73, 74, 33), (0, 73, 79, 35)] (zrm 9 10 300) g [.ref x, .int 0, .int i, .int y, .int z] S (fun w S' => w = some (.int (zca (zc_open T i) (-3) (-3) (nI (T.2 0 (zx i))))) ∧ FE g S' (zs_open T i) x) := by
  refine zMH_of (nm := "calls") (by decide +kernel) rfl (Nat.le_of_ble_eq_true rfl) ?_
  intro p e s m args below meth c A ls C hr hlk hin htab I hl
  have C : CallFix p m c cL_calls 6 s args zc_W RL := C
  have hx := C.1
  have hb := C.2.1
  have hl : lv_has ls 6 [(0, .ref x), (1, .int 0), (2, .int i), (3, .int y), (4, .int z)] := hl
  obtain ⟨pl, lo, pt, ty, pa, la, ap, ad, ae, hF9⟩ := id hF
  refine lv_iload_n hx hb dL_calls_0 rfl (lv_at hl 1 rfl) ?_
  refine lv_if_ne (tgt := 12) hx hb dL_calls_1 (by decide) (fun h9 => absurd ((nI_eq (a := 0) (b := 0) (by omega) (by omega)).mpr (rfl)) h9) (fun _ => ?_)
  refine lv_aload_n hx hb dL_calls_4 rfl (lv_at hl 0 rfl) ?_
  refine lv_iload_n hx hb dL_calls_5 rfl (lv_at hl 2 rfl) ?_
  refine zc_VX (n := 1) (rest := []) C I hF9.1.1 rfl rfl (k_X3_open l g hst S T x pl lo pt ty pa la ap ad ae hT hF9 i) zm_276 zm_277 zm_278 zm_16 zm_279 rfl hl.1 dL_calls_6 (by decide +kernel) rfl ⟨Nat.le_of_ble_eq_true rfl, Nat.le_of_ble_eq_true rfl⟩ (Nat.le_of_ble_eq_true rfl) ⟨Nat.le_of_ble_eq_true rfl, Nat.le_of_ble_eq_true rfl⟩ (fun E ce q9 S' H locs hq I h1 h2 h3 => ?_) (fun v S' H locs hq I => ?_)
  · obtain ⟨hq1, eS⟩ := hq
    rcases hq1 with ⟨hc, rfl⟩ | ⟨hc, rfl⟩
    · exact absurd hc hc1
    · rw [eS] at I
      refine zr_catch C I htab [⟨0, 73, 74, 33⟩] ⟨0, 73, 79, 35⟩ [] rfl (by decide) (by decide) (fun z hz => by rw [List.mem_singleton.mp hz]; exact ⟨by decide, "java/lang/IllegalArgumentException", zm_274, by decide⟩) zm_275 (by decide +kernel) h1 h2 h3 ?_
      refine lv_astore (lv' := [(5, .ref q9), (0, .ref x), (1, .int 0), (2, .int i), (3, .int y), (4, .int z)]) hx hb dL_calls_79 hl (by decide) rfl (fun ls hl => ?_)
      refine lv_bipush (v := (-3)) hx hb dL_calls_81 (by decide) ?_
      exact zr_iret C I hr hlk (⟨by rw [zca_2 hc], by rw [show zs_open T i = T from if_neg (by rw [hc]; decide)]; exact hF⟩) (Nat.le_of_ble_eq_true rfl) (Nat.le_of_ble_eq_true rfl) dL_calls_83
  · obtain ⟨hc, rfl, hF8, hk8⟩ := hq
    refine lv_goto (tgt := 73) hx hb dL_calls_9 (by decide) ?_
    exact zr_iret C I hr hlk (⟨by rw [zca_0 hc], ⟨pl, lo, pt, ty, pa, la, ap, ad, ae, hF8⟩⟩) (Nat.le_of_ble_eq_true rfl) (Nat.le_of_ble_eq_true rfl) dL_calls_73

set_option maxRecDepth 100000 in
set_option maxHeartbeats 4000000 in
theorem k_L_calls_roll (l : Launch) (g : zG) (hst : l.stackTraces = false) (S : zS) (T : zT) (x : Nat) (i y z : Int32) (hT : zt_ok T) (hF : FE g S T x) (hc1 : zc_roll T i y z ≠ 1) : zMH l yL_calls cL_calls 6 (some .int) [(0, 73, 74, 33), (0, 73, 79, 35)] (zrm 9 10 300) g [.ref x, .int 1, .int i, .int y, .int z] S (fun w S' => w = some (.int (zca (zc_roll T i y z) (-2) (-3) (nI (zr_roll T i y z)))) ∧ FE g S' (zs_roll T i y z) x) := by
  refine zMH_of (nm := "calls") (by decide +kernel) rfl (Nat.le_of_ble_eq_true rfl) ?_
  intro p e s m args below meth c A ls C hr hlk hin htab I hl
  have C : CallFix p m c cL_calls 6 s args zc_W RL := C
  have hx := C.1
  have hb := C.2.1
  have hl : lv_has ls 6 [(0, .ref x), (1, .int 1), (2, .int i), (3, .int y), (4, .int z)] := hl
  obtain ⟨pl, lo, pt, ty, pa, la, ap, ad, ae, hF9⟩ := id hF
  refine lv_iload_n hx hb dL_calls_0 rfl (lv_at hl 1 rfl) ?_
  refine lv_if_ne (tgt := 12) hx hb dL_calls_1 (by decide) (fun _ => ?_) (fun h9 => absurd h9 (fun h8 => absurd ((nI_eq (a := 1) (b := 0) (by omega) (by omega)).mp h8) (by decide)))
  refine lv_iload_n hx hb dL_calls_12 rfl (lv_at hl 1 rfl) ?_
  refine lv_iconst (v := 1) hx hb dL_calls_13 (by decide) ?_
  refine lv_icmp_ne (tgt := 28) hx hb dL_calls_14 (by decide) (fun h9 => absurd ((nI_eq (a := 1) (b := 1) (by omega) (by omega)).mpr (rfl)) h9) (fun _ => ?_)
  refine lv_aload_n hx hb dL_calls_17 rfl (lv_at hl 0 rfl) ?_
  refine lv_iload_n hx hb dL_calls_18 rfl (lv_at hl 2 rfl) ?_
  refine lv_iload_n hx hb dL_calls_19 rfl (lv_at hl 3 rfl) ?_
  refine lv_iload hx hb dL_calls_20 (lv_at hl 4 rfl) ?_
  refine zc_VX (n := 3) (rest := []) C I hF9.1.1 rfl rfl (k_X3_roll l g hst S T x pl lo pt ty pa la ap ad ae hT hF9 i y z) zm_297 zm_298 zm_299 zm_16 zm_300 rfl hl.1 dL_calls_22 (by decide +kernel) rfl ⟨Nat.le_of_ble_eq_true rfl, Nat.le_of_ble_eq_true rfl⟩ (Nat.le_of_ble_eq_true rfl) ⟨Nat.le_of_ble_eq_true rfl, Nat.le_of_ble_eq_true rfl⟩ (fun E ce q9 S' H locs hq I h1 h2 h3 => ?_) (fun v S' H locs hq I => ?_)
  · obtain ⟨hq1, eS⟩ := hq
    rcases hq1 with ⟨hc, rfl⟩ | ⟨hc, rfl⟩ | ⟨hc, rfl⟩
    · exact absurd hc hc1
    · rw [eS] at I
      refine zr_catch C I htab [] ⟨0, 73, 74, 33⟩ [⟨0, 73, 79, 35⟩] rfl (by decide) (by decide) (fun z hz => absurd hz List.not_mem_nil) zm_274 (by decide +kernel) h1 h2 h3 ?_
      refine lv_astore (lv' := [(5, .ref q9), (0, .ref x), (1, .int 1), (2, .int i), (3, .int y), (4, .int z)]) hx hb dL_calls_74 hl (by decide) rfl (fun ls hl => ?_)
      refine lv_bipush (v := (-2)) hx hb dL_calls_76 (by decide) ?_
      exact zr_iret C I hr hlk (⟨by rw [zca_2 hc], by rw [show zs_roll T i y z = T from if_neg (by rw [hc]; decide)]; exact hF⟩) (Nat.le_of_ble_eq_true rfl) (Nat.le_of_ble_eq_true rfl) dL_calls_78
    · rw [eS] at I
      refine zr_catch C I htab [⟨0, 73, 74, 33⟩] ⟨0, 73, 79, 35⟩ [] rfl (by decide) (by decide) (fun z hz => by rw [List.mem_singleton.mp hz]; exact ⟨by decide, "java/lang/IllegalArgumentException", zm_274, by decide⟩) zm_275 (by decide +kernel) h1 h2 h3 ?_
      refine lv_astore (lv' := [(5, .ref q9), (0, .ref x), (1, .int 1), (2, .int i), (3, .int y), (4, .int z)]) hx hb dL_calls_79 hl (by decide) rfl (fun ls hl => ?_)
      refine lv_bipush (v := (-3)) hx hb dL_calls_81 (by decide) ?_
      exact zr_iret C I hr hlk (⟨by rw [zca_3 hc], by rw [show zs_roll T i y z = T from if_neg (by rw [hc]; decide)]; exact hF⟩) (Nat.le_of_ble_eq_true rfl) (Nat.le_of_ble_eq_true rfl) dL_calls_83
  · obtain ⟨hc, rfl, hF8, hk8⟩ := hq
    refine lv_goto (tgt := 73) hx hb dL_calls_25 (by decide) ?_
    exact zr_iret C I hr hlk (⟨by rw [zca_0 hc], hF8⟩) (Nat.le_of_ble_eq_true rfl) (Nat.le_of_ble_eq_true rfl) dL_calls_73

set_option maxRecDepth 100000 in
set_option maxHeartbeats 4000000 in
theorem k_L_calls_alter (l : Launch) (g : zG) (hst : l.stackTraces = false) (S : zS) (T : zT) (x : Nat) (i y z : Int32) (hT : zt_ok T) (hF : FE g S T x) (hc1 : zc_alter T i y ≠ 1) : zMH l yL_calls cL_calls 6 (some .int) [(0, 73, 74, 33), (0, 73, 79, 35)] (zrm 9 10 300) g [.ref x, .int 2, .int i, .int y, .int z] S (fun w S' => w = some (.int (zca (zc_alter T i y) (-2) (-3) (nI (T.2 9 (zx i))))) ∧ FE g S' (zs_alter T i y) x) := by
  refine zMH_of (nm := "calls") (by decide +kernel) rfl (Nat.le_of_ble_eq_true rfl) ?_
  intro p e s m args below meth c A ls C hr hlk hin htab I hl
  have C : CallFix p m c cL_calls 6 s args zc_W RL := C
  have hx := C.1
  have hb := C.2.1
  have hl : lv_has ls 6 [(0, .ref x), (1, .int 2), (2, .int i), (3, .int y), (4, .int z)] := hl
  obtain ⟨pl, lo, pt, ty, pa, la, ap, ad, ae, hF9⟩ := id hF
  refine lv_iload_n hx hb dL_calls_0 rfl (lv_at hl 1 rfl) ?_
  refine lv_if_ne (tgt := 12) hx hb dL_calls_1 (by decide) (fun _ => ?_) (fun h9 => absurd h9 (fun h8 => absurd ((nI_eq (a := 2) (b := 0) (by omega) (by omega)).mp h8) (by decide)))
  refine lv_iload_n hx hb dL_calls_12 rfl (lv_at hl 1 rfl) ?_
  refine lv_iconst (v := 1) hx hb dL_calls_13 (by decide) ?_
  refine lv_icmp_ne (tgt := 28) hx hb dL_calls_14 (by decide) (fun _ => ?_) (fun h9 => absurd h9 (fun h8 => absurd ((nI_eq (a := 2) (b := 1) (by omega) (by omega)).mp h8) (by decide)))
  refine lv_iload_n hx hb dL_calls_28 rfl (lv_at hl 1 rfl) ?_
  refine lv_iconst (v := 2) hx hb dL_calls_29 (by decide) ?_
  refine lv_icmp_ne (tgt := 42) hx hb dL_calls_30 (by decide) (fun h9 => absurd ((nI_eq (a := 2) (b := 2) (by omega) (by omega)).mpr (rfl)) h9) (fun _ => ?_)
  refine lv_aload_n hx hb dL_calls_33 rfl (lv_at hl 0 rfl) ?_
  refine lv_iload_n hx hb dL_calls_34 rfl (lv_at hl 2 rfl) ?_
  refine lv_iload_n hx hb dL_calls_35 rfl (lv_at hl 3 rfl) ?_
  refine zc_VX (n := 2) (rest := []) C I hF9.1.1 rfl rfl (k_X3_alter l g hst S T x pl lo pt ty pa la ap ad ae hT hF9 i y) zm_349 zm_350 zm_351 zm_16 zm_352 rfl hl.1 dL_calls_36 (by decide +kernel) rfl ⟨Nat.le_of_ble_eq_true rfl, Nat.le_of_ble_eq_true rfl⟩ (Nat.le_of_ble_eq_true rfl) ⟨Nat.le_of_ble_eq_true rfl, Nat.le_of_ble_eq_true rfl⟩ (fun E ce q9 S' H locs hq I h1 h2 h3 => ?_) (fun v S' H locs hq I => ?_)
  · obtain ⟨hq1, eS⟩ := hq
    rcases hq1 with ⟨hc, rfl⟩ | ⟨hc, rfl⟩ | ⟨hc, rfl⟩
    · exact absurd hc hc1
    · rw [eS] at I
      refine zr_catch C I htab [] ⟨0, 73, 74, 33⟩ [⟨0, 73, 79, 35⟩] rfl (by decide) (by decide) (fun z hz => absurd hz List.not_mem_nil) zm_274 (by decide +kernel) h1 h2 h3 ?_
      refine lv_astore (lv' := [(5, .ref q9), (0, .ref x), (1, .int 2), (2, .int i), (3, .int y), (4, .int z)]) hx hb dL_calls_74 hl (by decide) rfl (fun ls hl => ?_)
      refine lv_bipush (v := (-2)) hx hb dL_calls_76 (by decide) ?_
      exact zr_iret C I hr hlk (⟨by rw [zca_2 hc], by rw [show zs_alter T i y = T from if_neg (by rw [hc]; decide)]; exact hF⟩) (Nat.le_of_ble_eq_true rfl) (Nat.le_of_ble_eq_true rfl) dL_calls_78
    · rw [eS] at I
      refine zr_catch C I htab [⟨0, 73, 74, 33⟩] ⟨0, 73, 79, 35⟩ [] rfl (by decide) (by decide) (fun z hz => by rw [List.mem_singleton.mp hz]; exact ⟨by decide, "java/lang/IllegalArgumentException", zm_274, by decide⟩) zm_275 (by decide +kernel) h1 h2 h3 ?_
      refine lv_astore (lv' := [(5, .ref q9), (0, .ref x), (1, .int 2), (2, .int i), (3, .int y), (4, .int z)]) hx hb dL_calls_79 hl (by decide) rfl (fun ls hl => ?_)
      refine lv_bipush (v := (-3)) hx hb dL_calls_81 (by decide) ?_
      exact zr_iret C I hr hlk (⟨by rw [zca_3 hc], by rw [show zs_alter T i y = T from if_neg (by rw [hc]; decide)]; exact hF⟩) (Nat.le_of_ble_eq_true rfl) (Nat.le_of_ble_eq_true rfl) dL_calls_83
  · obtain ⟨hc, rfl, hF8, hk8⟩ := hq
    refine lv_goto (tgt := 73) hx hb dL_calls_39 (by decide) ?_
    exact zr_iret C I hr hlk (⟨by rw [zca_0 hc], ⟨pl, lo, pt, ty, pa, la, ap, ad, ae, hF8⟩⟩) (Nat.le_of_ble_eq_true rfl) (Nat.le_of_ble_eq_true rfl) dL_calls_73

set_option maxRecDepth 100000 in
set_option maxHeartbeats 4000000 in
theorem k_L_calls_found (l : Launch) (g : zG) (hst : l.stackTraces = false) (S : zS) (T : zT) (x : Nat) (i y z : Int32) (hT : zt_ok T) (hF : FE g S T x) (hc1 : zc_found T i ≠ 1) : zMH l yL_calls cL_calls 6 (some .int) [(0, 73, 74, 33), (0, 73, 79, 35)] (zrm 9 10 300) g [.ref x, .int 3, .int i, .int y, .int z] S (fun w S' => w = some (.int (zca (zc_found T i) (-3) (-3) (nI (zt_fd T (T.2 5 (zx i)) (zx i))))) ∧ FE g S' (T) x) := by
  refine zMH_of (nm := "calls") (by decide +kernel) rfl (Nat.le_of_ble_eq_true rfl) ?_
  intro p e s m args below meth c A ls C hr hlk hin htab I hl
  have C : CallFix p m c cL_calls 6 s args zc_W RL := C
  have hx := C.1
  have hb := C.2.1
  have hl : lv_has ls 6 [(0, .ref x), (1, .int 3), (2, .int i), (3, .int y), (4, .int z)] := hl
  obtain ⟨pl, lo, pt, ty, pa, la, ap, ad, ae, hF9⟩ := id hF
  refine lv_iload_n hx hb dL_calls_0 rfl (lv_at hl 1 rfl) ?_
  refine lv_if_ne (tgt := 12) hx hb dL_calls_1 (by decide) (fun _ => ?_) (fun h9 => absurd h9 (fun h8 => absurd ((nI_eq (a := 3) (b := 0) (by omega) (by omega)).mp h8) (by decide)))
  refine lv_iload_n hx hb dL_calls_12 rfl (lv_at hl 1 rfl) ?_
  refine lv_iconst (v := 1) hx hb dL_calls_13 (by decide) ?_
  refine lv_icmp_ne (tgt := 28) hx hb dL_calls_14 (by decide) (fun _ => ?_) (fun h9 => absurd h9 (fun h8 => absurd ((nI_eq (a := 3) (b := 1) (by omega) (by omega)).mp h8) (by decide)))
  refine lv_iload_n hx hb dL_calls_28 rfl (lv_at hl 1 rfl) ?_
  refine lv_iconst (v := 2) hx hb dL_calls_29 (by decide) ?_
  refine lv_icmp_ne (tgt := 42) hx hb dL_calls_30 (by decide) (fun _ => ?_) (fun h9 => absurd h9 (fun h8 => absurd ((nI_eq (a := 3) (b := 2) (by omega) (by omega)).mp h8) (by decide)))
  refine lv_iload_n hx hb dL_calls_42 rfl (lv_at hl 1 rfl) ?_
  refine lv_iconst (v := 3) hx hb dL_calls_43 (by decide) ?_
  refine lv_icmp_ne (tgt := 55) hx hb dL_calls_44 (by decide) (fun h9 => absurd ((nI_eq (a := 3) (b := 3) (by omega) (by omega)).mpr (rfl)) h9) (fun _ => ?_)
  refine lv_aload_n hx hb dL_calls_47 rfl (lv_at hl 0 rfl) ?_
  refine lv_iload_n hx hb dL_calls_48 rfl (lv_at hl 2 rfl) ?_
  refine zc_VX (n := 1) (rest := []) C I hF9.1.1 rfl rfl (k_X3_found l g hst S T x pl lo pt ty pa la ap ad ae hT hF9 i) zm_359 zm_360 zm_361 zm_16 zm_362 rfl hl.1 dL_calls_49 (by decide +kernel) rfl ⟨Nat.le_of_ble_eq_true rfl, Nat.le_of_ble_eq_true rfl⟩ (Nat.le_of_ble_eq_true rfl) ⟨Nat.le_of_ble_eq_true rfl, Nat.le_of_ble_eq_true rfl⟩ (fun E ce q9 S' H locs hq I h1 h2 h3 => ?_) (fun v S' H locs hq I => ?_)
  · obtain ⟨hq1, eS⟩ := hq
    rcases hq1 with ⟨hc, rfl⟩ | ⟨hc, rfl⟩
    · exact absurd hc hc1
    · obtain ⟨hF8, hk8⟩ := eS
      refine zr_catch C I htab [⟨0, 73, 74, 33⟩] ⟨0, 73, 79, 35⟩ [] rfl (by decide) (by decide) (fun z hz => by rw [List.mem_singleton.mp hz]; exact ⟨by decide, "java/lang/IllegalArgumentException", zm_274, by decide⟩) zm_275 (by decide +kernel) h1 h2 h3 ?_
      refine lv_astore (lv' := [(5, .ref q9), (0, .ref x), (1, .int 3), (2, .int i), (3, .int y), (4, .int z)]) hx hb dL_calls_79 hl (by decide) rfl (fun ls hl => ?_)
      refine lv_bipush (v := (-3)) hx hb dL_calls_81 (by decide) ?_
      exact zr_iret C I hr hlk (⟨by rw [zca_2 hc], ⟨pl, lo, pt, ty, pa, la, ap, ad, ae, hF8⟩⟩) (Nat.le_of_ble_eq_true rfl) (Nat.le_of_ble_eq_true rfl) dL_calls_83
  · obtain ⟨hc, rfl, hF8, hk8⟩ := hq
    refine lv_goto (tgt := 73) hx hb dL_calls_52 (by decide) ?_
    exact zr_iret C I hr hlk (⟨by rw [zca_0 hc], ⟨pl, lo, pt, ty, pa, la, ap, ad, ae, hF8⟩⟩) (Nat.le_of_ble_eq_true rfl) (Nat.le_of_ble_eq_true rfl) dL_calls_73

set_option maxRecDepth 100000 in
set_option maxHeartbeats 4000000 in
theorem k_L_calls_wrong (l : Launch) (g : zG) (hst : l.stackTraces = false) (S : zS) (T : zT) (x : Nat) (i y z : Int32) (hT : zt_ok T) (hF : FE g S T x) (hc1 : zc_wrong T i ≠ 1) : zMH l yL_calls cL_calls 6 (some .int) [(0, 73, 74, 33), (0, 73, 79, 35)] (zrm 9 10 300) g [.ref x, .int 4, .int i, .int y, .int z] S (fun w S' => w = some (.int (zca (zc_wrong T i) (-3) (-3) (zv_wrong T (zx i)))) ∧ FE g S' (T) x) := by
  refine zMH_of (nm := "calls") (by decide +kernel) rfl (Nat.le_of_ble_eq_true rfl) ?_
  intro p e s m args below meth c A ls C hr hlk hin htab I hl
  have C : CallFix p m c cL_calls 6 s args zc_W RL := C
  have hx := C.1
  have hb := C.2.1
  have hl : lv_has ls 6 [(0, .ref x), (1, .int 4), (2, .int i), (3, .int y), (4, .int z)] := hl
  obtain ⟨pl, lo, pt, ty, pa, la, ap, ad, ae, hF9⟩ := id hF
  refine lv_iload_n hx hb dL_calls_0 rfl (lv_at hl 1 rfl) ?_
  refine lv_if_ne (tgt := 12) hx hb dL_calls_1 (by decide) (fun _ => ?_) (fun h9 => absurd h9 (fun h8 => absurd ((nI_eq (a := 4) (b := 0) (by omega) (by omega)).mp h8) (by decide)))
  refine lv_iload_n hx hb dL_calls_12 rfl (lv_at hl 1 rfl) ?_
  refine lv_iconst (v := 1) hx hb dL_calls_13 (by decide) ?_
  refine lv_icmp_ne (tgt := 28) hx hb dL_calls_14 (by decide) (fun _ => ?_) (fun h9 => absurd h9 (fun h8 => absurd ((nI_eq (a := 4) (b := 1) (by omega) (by omega)).mp h8) (by decide)))
  refine lv_iload_n hx hb dL_calls_28 rfl (lv_at hl 1 rfl) ?_
  refine lv_iconst (v := 2) hx hb dL_calls_29 (by decide) ?_
  refine lv_icmp_ne (tgt := 42) hx hb dL_calls_30 (by decide) (fun _ => ?_) (fun h9 => absurd h9 (fun h8 => absurd ((nI_eq (a := 4) (b := 2) (by omega) (by omega)).mp h8) (by decide)))
  refine lv_iload_n hx hb dL_calls_42 rfl (lv_at hl 1 rfl) ?_
  refine lv_iconst (v := 3) hx hb dL_calls_43 (by decide) ?_
  refine lv_icmp_ne (tgt := 55) hx hb dL_calls_44 (by decide) (fun _ => ?_) (fun h9 => absurd h9 (fun h8 => absurd ((nI_eq (a := 4) (b := 3) (by omega) (by omega)).mp h8) (by decide)))
  refine lv_iload_n hx hb dL_calls_55 rfl (lv_at hl 1 rfl) ?_
  refine lv_iconst (v := 4) hx hb dL_calls_56 (by decide) ?_
  refine lv_icmp_ne (tgt := 68) hx hb dL_calls_57 (by decide) (fun h9 => absurd ((nI_eq (a := 4) (b := 4) (by omega) (by omega)).mpr (rfl)) h9) (fun _ => ?_)
  refine lv_aload_n hx hb dL_calls_60 rfl (lv_at hl 0 rfl) ?_
  refine lv_iload_n hx hb dL_calls_61 rfl (lv_at hl 2 rfl) ?_
  refine zc_VX (n := 1) (rest := []) C I hF9.1.1 rfl rfl (k_X3_wrong l g hst S T x pl lo pt ty pa la ap ad ae hT hF9 i) zm_367 zm_368 zm_369 zm_16 zm_370 rfl hl.1 dL_calls_62 (by decide +kernel) rfl ⟨Nat.le_of_ble_eq_true rfl, Nat.le_of_ble_eq_true rfl⟩ (Nat.le_of_ble_eq_true rfl) ⟨Nat.le_of_ble_eq_true rfl, Nat.le_of_ble_eq_true rfl⟩ (fun E ce q9 S' H locs hq I h1 h2 h3 => ?_) (fun v S' H locs hq I => ?_)
  · obtain ⟨hq1, eS⟩ := hq
    rcases hq1 with ⟨hc, rfl⟩ | ⟨hc, rfl⟩
    · exact absurd hc hc1
    · rw [eS] at I
      refine zr_catch C I htab [⟨0, 73, 74, 33⟩] ⟨0, 73, 79, 35⟩ [] rfl (by decide) (by decide) (fun z hz => by rw [List.mem_singleton.mp hz]; exact ⟨by decide, "java/lang/IllegalArgumentException", zm_274, by decide⟩) zm_275 (by decide +kernel) h1 h2 h3 ?_
      refine lv_astore (lv' := [(5, .ref q9), (0, .ref x), (1, .int 4), (2, .int i), (3, .int y), (4, .int z)]) hx hb dL_calls_79 hl (by decide) rfl (fun ls hl => ?_)
      refine lv_bipush (v := (-3)) hx hb dL_calls_81 (by decide) ?_
      exact zr_iret C I hr hlk (⟨by rw [zca_2 hc], hF⟩) (Nat.le_of_ble_eq_true rfl) (Nat.le_of_ble_eq_true rfl) dL_calls_83
  · obtain ⟨hc, rfl, hF8, hk8⟩ := hq
    refine lv_goto (tgt := 73) hx hb dL_calls_65 (by decide) ?_
    exact zr_iret C I hr hlk (⟨by rw [zca_0 hc], ⟨pl, lo, pt, ty, pa, la, ap, ad, ae, hF8⟩⟩) (Nat.le_of_ble_eq_true rfl) (Nat.le_of_ble_eq_true rfl) dL_calls_73

set_option maxRecDepth 100000 in
set_option maxHeartbeats 4000000 in
theorem k_L_calls_dispute (l : Launch) (g : zG) (hst : l.stackTraces = false) (S : zS) (T : zT) (x : Nat) (i y z : Int32) (hT : zt_ok T) (hF : FE g S T x) (hc1 : zc_disp T i ≠ 1) : zMH l yL_calls cL_calls 6 (some .int) [(0, 73, 74, 33), (0, 73, 79, 35)] (zrm 9 10 300) g [.ref x, .int 5, .int i, .int y, .int z] S (fun w S' => w = some (.int (zca (zc_disp T i) (-3) (-3) (nI (zv_disp T (zx i))))) ∧ FE g S' (zs_disp T i) x) := by
  refine zMH_of (nm := "calls") (by decide +kernel) rfl (Nat.le_of_ble_eq_true rfl) ?_
  intro p e s m args below meth c A ls C hr hlk hin htab I hl
  have C : CallFix p m c cL_calls 6 s args zc_W RL := C
  have hx := C.1
  have hb := C.2.1
  have hl : lv_has ls 6 [(0, .ref x), (1, .int 5), (2, .int i), (3, .int y), (4, .int z)] := hl
  obtain ⟨pl, lo, pt, ty, pa, la, ap, ad, ae, hF9⟩ := id hF
  refine lv_iload_n hx hb dL_calls_0 rfl (lv_at hl 1 rfl) ?_
  refine lv_if_ne (tgt := 12) hx hb dL_calls_1 (by decide) (fun _ => ?_) (fun h9 => absurd h9 (fun h8 => absurd ((nI_eq (a := 5) (b := 0) (by omega) (by omega)).mp h8) (by decide)))
  refine lv_iload_n hx hb dL_calls_12 rfl (lv_at hl 1 rfl) ?_
  refine lv_iconst (v := 1) hx hb dL_calls_13 (by decide) ?_
  refine lv_icmp_ne (tgt := 28) hx hb dL_calls_14 (by decide) (fun _ => ?_) (fun h9 => absurd h9 (fun h8 => absurd ((nI_eq (a := 5) (b := 1) (by omega) (by omega)).mp h8) (by decide)))
  refine lv_iload_n hx hb dL_calls_28 rfl (lv_at hl 1 rfl) ?_
  refine lv_iconst (v := 2) hx hb dL_calls_29 (by decide) ?_
  refine lv_icmp_ne (tgt := 42) hx hb dL_calls_30 (by decide) (fun _ => ?_) (fun h9 => absurd h9 (fun h8 => absurd ((nI_eq (a := 5) (b := 2) (by omega) (by omega)).mp h8) (by decide)))
  refine lv_iload_n hx hb dL_calls_42 rfl (lv_at hl 1 rfl) ?_
  refine lv_iconst (v := 3) hx hb dL_calls_43 (by decide) ?_
  refine lv_icmp_ne (tgt := 55) hx hb dL_calls_44 (by decide) (fun _ => ?_) (fun h9 => absurd h9 (fun h8 => absurd ((nI_eq (a := 5) (b := 3) (by omega) (by omega)).mp h8) (by decide)))
  refine lv_iload_n hx hb dL_calls_55 rfl (lv_at hl 1 rfl) ?_
  refine lv_iconst (v := 4) hx hb dL_calls_56 (by decide) ?_
  refine lv_icmp_ne (tgt := 68) hx hb dL_calls_57 (by decide) (fun _ => ?_) (fun h9 => absurd h9 (fun h8 => absurd ((nI_eq (a := 5) (b := 4) (by omega) (by omega)).mp h8) (by decide)))
  refine lv_aload_n hx hb dL_calls_68 rfl (lv_at hl 0 rfl) ?_
  refine lv_iload_n hx hb dL_calls_69 rfl (lv_at hl 2 rfl) ?_
  refine zc_VX (n := 1) (rest := []) C I hF9.1.1 rfl rfl (k_X3_dispute l g hst S T x pl lo pt ty pa la ap ad ae hT hF9 i) zm_374 zm_375 zm_376 zm_16 zm_377 rfl hl.1 dL_calls_70 (by decide +kernel) rfl ⟨Nat.le_of_ble_eq_true rfl, Nat.le_of_ble_eq_true rfl⟩ (Nat.le_of_ble_eq_true rfl) ⟨Nat.le_of_ble_eq_true rfl, Nat.le_of_ble_eq_true rfl⟩ (fun E ce q9 S' H locs hq I h1 h2 h3 => ?_) (fun v S' H locs hq I => ?_)
  · obtain ⟨hq1, eS⟩ := hq
    rcases hq1 with ⟨hc, rfl⟩ | ⟨hc, rfl⟩
    · exact absurd hc hc1
    · rw [eS] at I
      refine zr_catch C I htab [⟨0, 73, 74, 33⟩] ⟨0, 73, 79, 35⟩ [] rfl (by decide) (by decide) (fun z hz => by rw [List.mem_singleton.mp hz]; exact ⟨by decide, "java/lang/IllegalArgumentException", zm_274, by decide⟩) zm_275 (by decide +kernel) h1 h2 h3 ?_
      refine lv_astore (lv' := [(5, .ref q9), (0, .ref x), (1, .int 5), (2, .int i), (3, .int y), (4, .int z)]) hx hb dL_calls_79 hl (by decide) rfl (fun ls hl => ?_)
      refine lv_bipush (v := (-3)) hx hb dL_calls_81 (by decide) ?_
      exact zr_iret C I hr hlk (⟨by rw [zca_2 hc], by rw [show zs_disp T i = T from if_neg (by rw [hc]; decide)]; exact hF⟩) (Nat.le_of_ble_eq_true rfl) (Nat.le_of_ble_eq_true rfl) dL_calls_83
  · obtain ⟨hc, rfl, hF8, hk8⟩ := hq
    exact zr_iret C I hr hlk (⟨by rw [zca_0 hc], ⟨pl, lo, pt, ty, pa, la, ap, ad, ae, hF8⟩⟩) (Nat.le_of_ble_eq_true rfl) (Nat.le_of_ble_eq_true rfl) dL_calls_73

