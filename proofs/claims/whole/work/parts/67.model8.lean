/-! the model is made -/
def MRp (S0 S : zS) (n mo : Nat) (ar : Nat → Nat) : Prop := zh_at S 4 mo ∧ zh_I S 21 mo = 0 ∧ zh_I S 22 mo = 0 ∧
  (∀ j : Nat, j < n → zh_R S (10 + j) mo = some (ar j) ∧ zh_at S (zkd j) (ar j) ∧ zh_N S (ar j) = zln j ∧ ∀ i : Nat, i < zln j → zh_A S (ar j) i = 0) ∧ (∀ i j : Nat, i < n → j < n → ar i = ar j → i = j) ∧ zk_ S0 S
theorem MRp_s {S0 S : zS} {n mo : Nat} {ar : Nat → Nat} (h : MRp S0 S n mo ar) {q : Nat} (hq : q ∉ zh_L S) : MRp S0 (zh_sR (zh_nA S q (zkd n) (zln n)) (10 + n) mo (some q)) (n + 1) mo (va_up ar n q) := by
  obtain ⟨h1, h2, h3, h4, h5, h6⟩ := h
  have hat : ∀ k a : Nat, zh_at S k a → zh_at (zh_sR (zh_nA S q (zkd n) (zln n)) (10 + n) mo (some q)) k a := fun k a h => zh_at_nA (n := zln n) h hq
  have hne : ∀ a : Nat, a ∈ zh_L S → a ≠ q := fun a ha e => hq (e ▸ ha)
  refine ⟨hat _ _ h1, h2, h3, fun j hj => ?_, fun i j hi hj e => ?_, fun a ha => ?_⟩
  · by_cases e : j = n
    · subst e
      rw [va_up_self]
      refine ⟨zh_u_s _ _ _ _, zh_at_newA (n := zln j), ?_, fun i hi => ?_⟩
      · show va_up (zh_N S) q (zln j) q = _
        rw [va_up_self]
      · show va_up (zh_A S) q (fun _ => 0) q i = _
        rw [va_up_self]
    · rw [va_up_ne _ _ e]
      obtain ⟨k1, k2, k3, k4⟩ := h4 j (by omega)
      refine ⟨(zh_u_j _ _ _ _ (by omega)).trans k1, hat _ _ k2, ?_, fun i hi => ?_⟩
      · show va_up (zh_N S) q (zln n) (ar j) = _
        rw [va_up_ne _ _ (hne _ k2.1)]; exact k3
      · show va_up (zh_A S) q (fun _ => 0) (ar j) i = _
        rw [va_up_ne _ _ (hne _ k2.1)]; exact k4 i hi
  · by_cases ei : i = n
    · by_cases ej : j = n
      · omega
      · rw [ei, va_up_self, va_up_ne _ _ ej] at e
        exact absurd e.symm (hne _ (h4 j (by omega)).2.1.1)
    · by_cases ej : j = n
      · rw [ej, va_up_self, va_up_ne _ _ ei] at e
        exact absurd e (hne _ (h4 i (by omega)).2.1.1)
      · rw [va_up_ne _ _ ei, va_up_ne _ _ ej] at e
        exact h5 i j (by omega) (by omega) e
  · obtain ⟨k1, k2, k3, k4⟩ := h6 a ha
    refine ⟨List.mem_append_left _ k1, ?_, ?_, ?_⟩
    · show va_up (zh_K S) q (zkd n) a = _
      rw [va_up_ne _ _ (hne _ k1)]; exact k2
    · show va_up (zh_N S) q (zln n) a = _
      rw [va_up_ne _ _ (hne _ k1)]; exact k3
    · show va_up (zh_J S) q (fun _ => 0) a = _
      rw [va_up_ne _ _ (hne _ k1)]; exact k4

set_option maxRecDepth 100000 in
set_option maxHeartbeats 4000000 in
theorem k_X4_init (l : Launch) (g : zG) (S : zS) (mo : Nat) (ha : zh_at S 4 mo) (h21 : zh_I S 21 mo = 0) (h22 : zh_I S 22 mo = 0) : zM l yX4_init cX4_init 1 none (zrm 1 13 1000) g [.ref mo] S (fun w S' => w = none ∧ zk_ S S' ∧ ∃ ar : Nat → Nat, MR S' zT0 mo ar) := by
  refine zM_of (nm := "<init>") (by decide) rfl (Nat.le_of_ble_eq_true rfl) ?_
  intro p e s m args below meth c A ls C hr hlk hin I hl
  have C : CallFix p m c cX4_init 1 s args zc_W RX4 := C
  have hx := C.1
  have hb := C.2.1
  have hl : lv_has ls 1 [(0, .ref mo)] := hl
  refine lv_aload_n hx hb dX4_init_0 rfl (lv_at hl 0 rfl) ?_
  refine zr_obj (rest := []) C zm_506 zm_50 zm_51 hl.1 dX4_init_1 (Nat.le_of_ble_eq_true rfl) (Nat.le_of_ble_eq_true rfl) (Nat.le_of_ble_eq_true rfl) ?_
  have M1 : MRp S S 0 mo (fun _ => 0) := ⟨ha, h21, h22, fun j hj => absurd hj (Nat.not_lt_zero j), fun i j hi => absurd hi (Nat.not_lt_zero i), zk_rf S⟩
  refine lv_aload_n hx hb dX4_init_4 rfl (lv_at hl 0 rfl) ?_
  refine lv_bipush (v := 16) hx hb dX4_init_5 (by decide) ?_
  refine zr_newI (N := 16) C I zm_90 rfl (by decide) (Nat.le_of_ble_eq_true rfl) (Nat.le_of_ble_eq_true rfl) dX4_init_7 (fun q7 H hq7 I => ?_)
  refine zf_Model_seed C I (zh_at_nA (n := 16) ha hq7) zm_509 hin rfl dX4_init_9 (fun H locs I => ?_)
  have M1 : MRp S (zh_sR (zh_nA S q7 6 16) 10 mo (some q7)) 1 mo _ := MRp_s M1 hq7
  obtain ⟨Y0, hY0⟩ : ∃ z, z = (zh_sR (zh_nA S q7 6 16) 10 mo (some q7)) := ⟨_, rfl⟩
  rw [← hY0] at I M1
  clear hY0
  have m1 := M1.1
  refine lv_aload_n hx hb dX4_init_12 rfl (lv_at hl 0 rfl) ?_
  refine lv_bipush (v := 16) hx hb dX4_init_13 (by decide) ?_
  refine zr_newI (N := 16) C I zm_90 rfl (by decide) (Nat.le_of_ble_eq_true rfl) (Nat.le_of_ble_eq_true rfl) dX4_init_15 (fun q15 H hq15 I => ?_)
  refine zf_Model_state C I (zh_at_nA (n := 16) m1 hq15) zm_510 hin rfl dX4_init_17 (fun H locs I => ?_)
  have M1 : MRp S (zh_sR (zh_nA Y0 q15 6 16) 11 mo (some q15)) 2 mo _ := MRp_s M1 hq15
  obtain ⟨Y1, hY1⟩ : ∃ z, z = (zh_sR (zh_nA Y0 q15 6 16) 11 mo (some q15)) := ⟨_, rfl⟩
  rw [← hY1] at I M1
  clear hY1
  have m1 := M1.1
  refine lv_aload_n hx hb dX4_init_20 rfl (lv_at hl 0 rfl) ?_
  refine lv_bipush (v := 16) hx hb dX4_init_21 (by decide) ?_
  refine zr_newZ (N := 16) C I zm_562 rfl (by decide) (Nat.le_of_ble_eq_true rfl) (Nat.le_of_ble_eq_true rfl) dX4_init_23 (fun q23 H hq23 I => ?_)
  refine zf_Model_opened C I (zh_at_nA (n := 16) m1 hq23) zm_511 hin rfl dX4_init_25 (fun H locs I => ?_)
  have M1 : MRp S (zh_sR (zh_nA Y1 q23 7 16) 12 mo (some q23)) 3 mo _ := MRp_s M1 hq23
  obtain ⟨Y2, hY2⟩ : ∃ z, z = (zh_sR (zh_nA Y1 q23 7 16) 12 mo (some q23)) := ⟨_, rfl⟩
  rw [← hY2] at I M1
  clear hY2
  have m1 := M1.1
  refine lv_aload_n hx hb dX4_init_28 rfl (lv_at hl 0 rfl) ?_
  refine lv_bipush (v := 16) hx hb dX4_init_29 (by decide) ?_
  refine zr_newZ (N := 16) C I zm_562 rfl (by decide) (Nat.le_of_ble_eq_true rfl) (Nat.le_of_ble_eq_true rfl) dX4_init_31 (fun q31 H hq31 I => ?_)
  refine zf_Model_disputed C I (zh_at_nA (n := 16) m1 hq31) zm_512 hin rfl dX4_init_33 (fun H locs I => ?_)
  have M1 : MRp S (zh_sR (zh_nA Y2 q31 7 16) 13 mo (some q31)) 4 mo _ := MRp_s M1 hq31
  obtain ⟨Y3, hY3⟩ : ∃ z, z = (zh_sR (zh_nA Y2 q31 7 16) 13 mo (some q31)) := ⟨_, rfl⟩
  rw [← hY3] at I M1
  clear hY3
  have m1 := M1.1
  refine lv_aload_n hx hb dX4_init_36 rfl (lv_at hl 0 rfl) ?_
  refine lv_iconst (v := 4) hx hb dX4_init_37 (by decide) ?_
  refine zr_newI (N := 4) C I zm_90 rfl (by decide) (Nat.le_of_ble_eq_true rfl) (Nat.le_of_ble_eq_true rfl) dX4_init_38 (fun q38 H hq38 I => ?_)
  refine zf_Model_parts C I (zh_at_nA (n := 4) m1 hq38) zm_513 hin rfl dX4_init_40 (fun H locs I => ?_)
  have M1 : MRp S (zh_sR (zh_nA Y3 q38 6 4) 14 mo (some q38)) 5 mo _ := MRp_s M1 hq38
  obtain ⟨Y4, hY4⟩ : ∃ z, z = (zh_sR (zh_nA Y3 q38 6 4) 14 mo (some q38)) := ⟨_, rfl⟩
  rw [← hY4] at I M1
  clear hY4
  have m1 := M1.1
  refine lv_aload_n hx hb dX4_init_43 rfl (lv_at hl 0 rfl) ?_
  refine lv_bipush (v := 100) hx hb dX4_init_44 (by decide) ?_
  refine zr_newI (N := 100) C I zm_90 rfl (by decide) (Nat.le_of_ble_eq_true rfl) (Nat.le_of_ble_eq_true rfl) dX4_init_46 (fun q46 H hq46 I => ?_)
  refine zf_Model_of C I (zh_at_nA (n := 100) m1 hq46) zm_515 hin rfl dX4_init_48 (fun H locs I => ?_)
  have M1 : MRp S (zh_sR (zh_nA Y4 q46 6 100) 15 mo (some q46)) 6 mo _ := MRp_s M1 hq46
  obtain ⟨Y5, hY5⟩ : ∃ z, z = (zh_sR (zh_nA Y4 q46 6 100) 15 mo (some q46)) := ⟨_, rfl⟩
  rw [← hY5] at I M1
  clear hY5
  have m1 := M1.1
  refine lv_aload_n hx hb dX4_init_51 rfl (lv_at hl 0 rfl) ?_
  refine lv_bipush (v := 100) hx hb dX4_init_52 (by decide) ?_
  refine zr_newI (N := 100) C I zm_90 rfl (by decide) (Nat.le_of_ble_eq_true rfl) (Nat.le_of_ble_eq_true rfl) dX4_init_54 (fun q54 H hq54 I => ?_)
  refine zf_Model_at C I (zh_at_nA (n := 100) m1 hq54) zm_516 hin rfl dX4_init_56 (fun H locs I => ?_)
  have M1 : MRp S (zh_sR (zh_nA Y5 q54 6 100) 16 mo (some q54)) 7 mo _ := MRp_s M1 hq54
  obtain ⟨Y6, hY6⟩ : ∃ z, z = (zh_sR (zh_nA Y5 q54 6 100) 16 mo (some q54)) := ⟨_, rfl⟩
  rw [← hY6] at I M1
  clear hY6
  have m1 := M1.1
  refine lv_aload_n hx hb dX4_init_59 rfl (lv_at hl 0 rfl) ?_
  refine lv_bipush (v := 100) hx hb dX4_init_60 (by decide) ?_
  refine zr_newI (N := 100) C I zm_90 rfl (by decide) (Nat.le_of_ble_eq_true rfl) (Nat.le_of_ble_eq_true rfl) dX4_init_62 (fun q62 H hq62 I => ?_)
  refine zf_Model_part C I (zh_at_nA (n := 100) m1 hq62) zm_517 hin rfl dX4_init_64 (fun H locs I => ?_)
  have M1 : MRp S (zh_sR (zh_nA Y6 q62 6 100) 17 mo (some q62)) 8 mo _ := MRp_s M1 hq62
  obtain ⟨Y7, hY7⟩ : ∃ z, z = (zh_sR (zh_nA Y6 q62 6 100) 17 mo (some q62)) := ⟨_, rfl⟩
  rw [← hY7] at I M1
  clear hY7
  have m1 := M1.1
  refine lv_aload_n hx hb dX4_init_67 rfl (lv_at hl 0 rfl) ?_
  refine lv_bipush (v := 100) hx hb dX4_init_68 (by decide) ?_
  refine zr_newI (N := 100) C I zm_90 rfl (by decide) (Nat.le_of_ble_eq_true rfl) (Nat.le_of_ble_eq_true rfl) dX4_init_70 (fun q70 H hq70 I => ?_)
  refine zf_Model_sides C I (zh_at_nA (n := 100) m1 hq70) zm_518 hin rfl dX4_init_72 (fun H locs I => ?_)
  have M1 : MRp S (zh_sR (zh_nA Y7 q70 6 100) 18 mo (some q70)) 9 mo _ := MRp_s M1 hq70
  obtain ⟨Y8, hY8⟩ : ∃ z, z = (zh_sR (zh_nA Y7 q70 6 100) 18 mo (some q70)) := ⟨_, rfl⟩
  rw [← hY8] at I M1
  clear hY8
  have m1 := M1.1
  refine lv_aload_n hx hb dX4_init_75 rfl (lv_at hl 0 rfl) ?_
  refine lv_bipush (v := 100) hx hb dX4_init_76 (by decide) ?_
  refine zr_newI (N := 100) C I zm_90 rfl (by decide) (Nat.le_of_ble_eq_true rfl) (Nat.le_of_ble_eq_true rfl) dX4_init_78 (fun q78 H hq78 I => ?_)
  refine zf_Model_value C I (zh_at_nA (n := 100) m1 hq78) zm_519 hin rfl dX4_init_80 (fun H locs I => ?_)
  have M1 : MRp S (zh_sR (zh_nA Y8 q78 6 100) 19 mo (some q78)) 10 mo _ := MRp_s M1 hq78
  obtain ⟨Y9, hY9⟩ : ∃ z, z = (zh_sR (zh_nA Y8 q78 6 100) 19 mo (some q78)) := ⟨_, rfl⟩
  rw [← hY9] at I M1
  clear hY9
  have m1 := M1.1
  refine lv_aload_n hx hb dX4_init_83 rfl (lv_at hl 0 rfl) ?_
  refine lv_bipush (v := 100) hx hb dX4_init_84 (by decide) ?_
  refine zr_newI (N := 100) C I zm_90 rfl (by decide) (Nat.le_of_ble_eq_true rfl) (Nat.le_of_ble_eq_true rfl) dX4_init_86 (fun q86 H hq86 I => ?_)
  refine zf_Model_rejected C I (zh_at_nA (n := 100) m1 hq86) zm_520 hin rfl dX4_init_88 (fun H locs I => ?_)
  have M1 : MRp S (zh_sR (zh_nA Y9 q86 6 100) 20 mo (some q86)) 11 mo _ := MRp_s M1 hq86
  obtain ⟨Y10, hY10⟩ : ∃ z, z = (zh_sR (zh_nA Y9 q86 6 100) 20 mo (some q86)) := ⟨_, rfl⟩
  rw [← hY10] at I M1
  clear hY10
  have m1 := M1.1
  refine lv_aload_n hx hb dX4_init_91 rfl (lv_at hl 0 rfl) ?_
  refine lv_bipush (v := 100) hx hb dX4_init_92 (by decide) ?_
  refine zr_newI (N := 100) C I zm_90 rfl (by decide) (Nat.le_of_ble_eq_true rfl) (Nat.le_of_ble_eq_true rfl) dX4_init_94 (fun q94 H hq94 I => ?_)
  refine zf_Model_sum C I (zh_at_nA (n := 100) m1 hq94) zm_521 hin rfl dX4_init_96 (fun H locs I => ?_)
  have M1 : MRp S (zh_sR (zh_nA Y10 q94 6 100) 21 mo (some q94)) 12 mo _ := MRp_s M1 hq94
  obtain ⟨Y11, hY11⟩ : ∃ z, z = (zh_sR (zh_nA Y10 q94 6 100) 21 mo (some q94)) := ⟨_, rfl⟩
  rw [← hY11] at I M1
  clear hY11
  have m1 := M1.1
  refine lv_aload_n hx hb dX4_init_99 rfl (lv_at hl 0 rfl) ?_
  refine lv_bipush (v := 100) hx hb dX4_init_100 (by decide) ?_
  refine zr_newZ (N := 100) C I zm_562 rfl (by decide) (Nat.le_of_ble_eq_true rfl) (Nat.le_of_ble_eq_true rfl) dX4_init_102 (fun q102 H hq102 I => ?_)
  refine zf_Model_struck C I (zh_at_nA (n := 100) m1 hq102) zm_522 hin rfl dX4_init_104 (fun H locs I => ?_)
  have M1 : MRp S (zh_sR (zh_nA Y11 q102 7 100) 22 mo (some q102)) 13 mo _ := MRp_s M1 hq102
  obtain ⟨Y12, hY12⟩ : ∃ z, z = (zh_sR (zh_nA Y11 q102 7 100) 22 mo (some q102)) := ⟨_, rfl⟩
  rw [← hY12] at I M1
  clear hY12
  have m1 := M1.1
  obtain ⟨k1, k2, k3, k4, k5, k6⟩ := M1
  exact zr_vret C I hr hlk (⟨rfl, k6, _, k1, k2, k3, fun j hj => ⟨(k4 j hj).1, (k4 j hj).2.1, (k4 j hj).2.2.1, (k4 j hj).2.2.2⟩, k5⟩) (Nat.le_of_ble_eq_true rfl) (Nat.le_of_ble_eq_true rfl) dX4_init_107

