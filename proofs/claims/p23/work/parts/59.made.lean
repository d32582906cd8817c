/-! a forge is made -/
def zT0 : zT := ((0, 0), fun _ _ => 0)
theorem zT0_ok : zt_ok zT0 := ⟨by decide, by decide, fun k => ⟨show 0 < 65536 by decide, show 0 < 65536 by decide, Nat.zero_le 1, Nat.zero_le 1⟩, fun k => Nat.zero_le 999, fun k hk => absurd hk (Nat.not_lt_zero k), fun k hk => ⟨rfl, rfl⟩, fun k hk => rfl⟩
def zs_l0 (g : zG) (S : zS) (q : Nat) : zS := zh_sR (zh_sI (zh_nO S q 5) 30 q 0) 30 q (some g.2.1)
def zs_mk (g : zG) (S : zS) (x q r a b : Nat) : zS := zh_sR (zh_nA (zh_sR (zh_nA (zh_sR (zs_l0 g (zh_sR (zs_l0 g S q) 1 x (some q)) r) 2 x (some r)) a 6 4) 3 x (some a)) b 6 1001) 4 x (some b)
theorem zs_mk_FE {g : zG} {S : zS} {x q r a b : Nat} (hx : zh_at S 3 x) (hq : q ∉ zh_L S) (hr : r ∉ zh_L S ++ [q]) (ha : a ∉ (zh_L S ++ [q]) ++ [r]) (hb : b ∉ ((zh_L S ++ [q]) ++ [r]) ++ [a]) (hg : g.2.1 ∉ zh_L (zs_mk g S x q r a b)) : FE g (zs_mk g S x q r a b) zT0 x ∧ zk_ S (zs_mk g S x q r a b) := by
  simp only [List.mem_append, List.mem_singleton, not_or] at hr ha hb
  obtain ⟨r1, r2⟩ := hr
  obtain ⟨⟨a1, a2⟩, a3⟩ := ha
  obtain ⟨⟨⟨b1, b2⟩, b3⟩, b4⟩ := hb
  have n : ∀ y z : Nat, y ∈ zh_L S → z ∉ zh_L S → y ≠ z := fun y z h h2 e => h2 (e ▸ h)
  have eK : ∀ y : Nat, zh_K (zs_mk g S x q r a b) y = (if y = b then 6 else if y = a then 6 else if y = r then 5 else if y = q then 5 else zh_K S y) := fun y => by
    show va_up (va_up (va_up (va_up (zh_K S) q 5) r 5) a 6) b 6 y = _
    unfold va_up; rfl
  have eN : ∀ y : Nat, zh_N (zs_mk g S x q r a b) y = (if y = b then 1001 else if y = a then 4 else zh_N S y) := fun y => by
    show va_up (va_up (zh_N S) a 4) b 1001 y = _
    unfold va_up; rfl
  have eL : zh_L (zs_mk g S x q r a b) = (((zh_L S ++ [q]) ++ [r]) ++ [a]) ++ [b] := rfl
  have hK : ∀ y : Nat, y ∈ zh_L S → zh_K (zs_mk g S x q r a b) y = zh_K S y := fun y h => by rw [eK, if_neg (n _ _ h b1), if_neg (n _ _ h a1), if_neg (n _ _ h r1), if_neg (n _ _ h hq)]
  have hL : ∀ y : Nat, y ∈ zh_L S → y ∈ zh_L (zs_mk g S x q r a b) := fun y h => by rw [eL]; simp [h]
  have xq := n _ _ hx.1 hq
  have xr := n _ _ hx.1 r1
  have xa := n _ _ hx.1 a1
  have xb := n _ _ hx.1 b1
  refine ⟨⟨q, r, a, b, g.2.1, g.2.1, fun _ => 0, fun _ => 0, fun _ => 0, ⟨⟨hL _ hx.1, (hK _ hx.1).trans hx.2⟩, ?_, ?_, ?_, ?_⟩, ⟨⟨by rw [eL]; simp, by rw [eK, if_neg (Ne.symm b4), if_pos rfl]⟩, by rw [eN, if_neg (Ne.symm b4), if_pos rfl], ⟨by rw [eL]; simp, by rw [eK, if_pos rfl]⟩, by rw [eN, if_pos rfl], fun t ht => ?_⟩, ⟨⟨by rw [eL]; simp, by rw [eK, if_neg (Ne.symm b2), if_neg (Ne.symm a2), if_neg (Ne.symm r2), if_pos rfl]⟩, ?_, ?_, Or.inl ⟨rfl, rfl⟩, fun i hi => absurd hi (Nat.not_lt_zero i)⟩, ⟨⟨by rw [eL]; simp, by rw [eK, if_neg (Ne.symm b3), if_neg (Ne.symm a3), if_pos rfl]⟩, ?_, ?_, Or.inl ⟨rfl, rfl⟩, fun i hi => absurd hi (Nat.not_lt_zero i)⟩, Ne.symm r2, fun h => absurd h.1 hg, fun i hi => absurd hi (Nat.not_lt_zero i), fun i hi => absurd hi (Nat.not_lt_zero i), fun i j hi => absurd hi (Nat.not_lt_zero i), fun i j hi => absurd hi (Nat.not_lt_zero i), fun i j hi => absurd hi (Nat.not_lt_zero i)⟩, fun y h => ⟨hL y h, hK y h, by rw [eN, if_neg (n _ _ h b1), if_neg (n _ _ h a1)], ?_⟩⟩
  · simp [zs_mk, zs_l0, zh_R, zh_sR, zh_sI, zh_nO, zh_nA, zh_u, xr, xq]
  · simp [zs_mk, zs_l0, zh_R, zh_sR, zh_sI, zh_nO, zh_nA, zh_u]
  · simp [zs_mk, zs_l0, zh_R, zh_sR, zh_sI, zh_nO, zh_nA, zh_u]
  · simp [zs_mk, zs_l0, zh_R, zh_sR, zh_sI, zh_nO, zh_nA, zh_u]
  · show va_up (va_up (zh_A S) a (fun _ => 0)) b (fun _ => 0) a t = _
    rw [va_up_ne _ _ (Ne.symm b4), va_up_self]; rfl
  · have h2 : ¬ q = r := Ne.symm r2
    simp [zs_mk, zs_l0, zh_I, zh_sR, zh_sI, zh_nO, zh_nA, zh_u, h2, zT0]; rfl
  · have h2 : ¬ q = r := Ne.symm r2
    simp [zs_mk, zs_l0, zh_R, zh_sR, zh_sI, zh_nO, zh_nA, zh_u, h2]
  · simp [zs_mk, zs_l0, zh_I, zh_sR, zh_sI, zh_nO, zh_nA, zh_u, zT0]; rfl
  · simp [zs_mk, zs_l0, zh_R, zh_sR, zh_sI, zh_nO, zh_nA, zh_u]
  · show va_up (va_up (zh_J S) a (fun _ => 0)) b (fun _ => 0) y = _
    rw [va_up_ne _ _ (n _ _ h b1), va_up_ne _ _ (n _ _ h a1)]

set_option maxRecDepth 100000 in
set_option maxHeartbeats 4000000 in
theorem k_X3_init (l : Launch) (g : zG) (S : zS) (x : Nat) (hx3 : zh_at S 3 x) : zM l yX3_init cX3_init 1 none (zrm 5 5 1020) g [.ref x] S (fun w S' => w = none ∧ FE g S' zT0 x ∧ zk_ S S') := by
  refine zM_of (nm := "<init>") (by decide) rfl (Nat.le_of_ble_eq_true rfl) ?_
  intro p e s m args below meth c A ls C hr hlk hin I hl
  have C : CallFix p m c cX3_init 1 s args zc_W RX3 := C
  have hx := C.1
  have hb := C.2.1
  have hl : lv_has ls 1 [(0, .ref x)] := hl
  refine lv_aload_n hx hb dX3_init_0 rfl (lv_at hl 0 rfl) ?_
  refine zr_obj (rest := []) C zm_40 zm_41 zm_42 hl.1 dX3_init_1 (Nat.le_of_ble_eq_true rfl) (Nat.le_of_ble_eq_true rfl) (Nat.le_of_ble_eq_true rfl) ?_
  refine lv_aload_n hx hb dX3_init_4 rfl (lv_at hl 0 rfl) ?_
  refine zw_List C I zm_43 zm_44 zm_19 (Nat.le_of_ble_eq_true rfl) (Nat.le_of_ble_eq_true rfl) dX3_init_5 (fun q5 H hq5 I => ?_)
  refine lv_dup hx hb dX3_init_8 rfl ?_
  have h1 := hq5
  refine zc_I (n := 0) (rest := [.ref q5, .ref x]) C I (k_Jx4a65c_init_da8c8 l g (zh_nO S q5 5) q5 zh_at_new) zm_45 zm_46 zm_19 zm_47 rfl rfl hl.1 dX3_init_9 (by decide +kernel) rfl ⟨Nat.le_of_ble_eq_true rfl, Nat.le_of_ble_eq_true rfl⟩ (Nat.le_of_ble_eq_true rfl) ⟨Nat.le_of_ble_eq_true rfl, Nat.le_of_ble_eq_true rfl⟩ (fun v S' H locs hq I => ?_)
  obtain ⟨rfl, eS⟩ := hq
  rw [eS] at I
  have I : zh_V g A s [] (zs_l0 g S q5) H locs := I
  refine zf_Forge_promises C I (show zh_at (zs_l0 g S q5) 3 x from (zh_at_nO hx3 hq5)) zm_68 hin rfl dX3_init_12 (fun H locs I => ?_)
  refine lv_aload_n hx hb dX3_init_15 rfl (lv_at hl 0 rfl) ?_
  refine zw_List C I zm_43 zm_44 zm_19 (Nat.le_of_ble_eq_true rfl) (Nat.le_of_ble_eq_true rfl) dX3_init_16 (fun q16 H hq16 I => ?_)
  refine lv_dup hx hb dX3_init_19 rfl ?_
  have h2 : q16 ∉ zh_L S ++ [q5] := hq16
  refine zc_I (n := 0) (rest := [.ref q16, .ref x]) C I (k_Jx4a65c_init_da8c8 l g (zh_nO (zh_sR (zs_l0 g S q5) 1 x (some q5)) q16 5) q16 zh_at_new) zm_45 zm_46 zm_19 zm_47 rfl rfl hl.1 dX3_init_20 (by decide +kernel) rfl ⟨Nat.le_of_ble_eq_true rfl, Nat.le_of_ble_eq_true rfl⟩ (Nat.le_of_ble_eq_true rfl) ⟨Nat.le_of_ble_eq_true rfl, Nat.le_of_ble_eq_true rfl⟩ (fun v S' H locs hq I => ?_)
  obtain ⟨rfl, eS⟩ := hq
  rw [eS] at I
  have I : zh_V g A s [] (zs_l0 g (zh_sR (zs_l0 g S q5) 1 x (some q5)) q16) H locs := I
  refine zf_Forge_log C I (show zh_at (zs_l0 g (zh_sR (zs_l0 g S q5) 1 x (some q5)) q16) 3 x from (zh_at_nO (show zh_at (zs_l0 g S q5) 3 x from (zh_at_nO hx3 hq5)) hq16)) zm_69 hin rfl dX3_init_23 (fun H locs I => ?_)
  refine lv_aload_n hx hb dX3_init_26 rfl (lv_at hl 0 rfl) ?_
  refine lv_iconst (v := 4) hx hb dX3_init_27 (by decide) ?_
  refine zr_newI (N := 4) C I zm_81 rfl (by decide) (Nat.le_of_ble_eq_true rfl) (Nat.le_of_ble_eq_true rfl) dX3_init_28 (fun q28 H hq28 I => ?_)
  have h3 : q28 ∉ (zh_L S ++ [q5]) ++ [q16] := hq28
  refine zf_Forge_parts C I (zh_at_nA (n := 4) (show zh_at (zs_l0 g (zh_sR (zs_l0 g S q5) 1 x (some q5)) q16) 3 x from (zh_at_nO (show zh_at (zs_l0 g S q5) 3 x from (zh_at_nO hx3 hq5)) hq16)) hq28) zm_70 hin rfl dX3_init_30 (fun H locs I => ?_)
  refine lv_aload_n hx hb dX3_init_33 rfl (lv_at hl 0 rfl) ?_
  refine lv_sipush (v := 1001) hx hb dX3_init_34 (by decide) ?_
  refine zr_newI (N := 1001) C I zm_81 rfl (by decide) (Nat.le_of_ble_eq_true rfl) (Nat.le_of_ble_eq_true rfl) dX3_init_37 (fun q37 H hq37 I => ?_)
  have h4 : q37 ∉ ((zh_L S ++ [q5]) ++ [q16]) ++ [q28] := hq37
  refine zf_Forge_tally C I (zh_at_nA (n := 1001) (zh_at_nA (n := 4) (show zh_at (zs_l0 g (zh_sR (zs_l0 g S q5) 1 x (some q5)) q16) 3 x from (zh_at_nO (show zh_at (zs_l0 g S q5) 3 x from (zh_at_nO hx3 hq5)) hq16)) hq28) hq37) zm_71 hin rfl dX3_init_39 (fun H locs I => ?_)
  have I : zh_V g A s [] (zs_mk g S x q5 q16 q28 q37) H locs := I
  have hE := zs_mk_FE (g := g) hx3 h1 h2 h3 h4 (zn_out I)
  exact zr_vret C I hr hlk (⟨rfl, hE.1, hE.2⟩) (Nat.le_of_ble_eq_true rfl) (Nat.le_of_ble_eq_true rfl) dX3_init_42

