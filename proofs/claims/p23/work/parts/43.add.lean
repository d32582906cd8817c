/-! ArrayList.add -/
/-- what add(q) did to a list pl of n elements, whose array was ar -/
def zl_add (S S' : zS) (pl ar n q : Nat) : Prop :=
  (∀ a : Nat, a ∈ zh_L S → a ∈ zh_L S' ∧ zh_K S' a = zh_K S a ∧ zh_N S' a = zh_N S a ∧ zh_A S' a = zh_A S a ∧ zh_J S' a = zh_J S a ∧ (a ≠ ar → zh_Q S' a = zh_Q S a)) ∧
  (∀ j a : Nat, j ≠ 30 → (j ≠ 31 ∨ a ≠ pl) → zh_I S' j a = zh_I S j a) ∧
  (∀ j a : Nat, (j ≠ 30 ∨ a ≠ pl) → zh_R S' j a = zh_R S j a) ∧
  zh_I S' 31 pl = nI (n + 1) ∧
  ∃ ar' : Nat, zh_R S' 30 pl = some ar' ∧ zh_at S' 8 ar' ∧ n + 1 ≤ zh_N S' ar' ∧ 10 ≤ zh_N S' ar' ∧ zh_N S' ar' ≤ 150 ∧ (∀ i : Nat, i < n → zh_Q S' ar' i = zh_Q S ar i) ∧ zh_Q S' ar' n = some q ∧ (ar' = ar ∨ ar' ∉ zh_L S)
theorem zl_addB {S : zS} {pl ar n q : Nat} (h2 : zh_R S 30 pl = some ar) (h3 : zh_at S 8 ar) (h4 : n < zh_N S ar) (h5 : 10 ≤ zh_N S ar) (h6 : zh_N S ar ≤ 150) : zl_add S (zh_sI (zh_sQ S ar (va_up (zh_Q S ar) n (some q))) 31 pl (nI (n + 1))) pl ar n q := by
  refine ⟨fun a ha => ⟨ha, rfl, rfl, rfl, rfl, fun h => va_up_ne _ _ h⟩, fun j a h30 h => ?_, fun j a h => rfl, zh_u_s _ _ _ _, ar, h2, h3, h4, h5, h6, fun i hi => ?_, ?_, Or.inl rfl⟩
  · show zh_u (zh_I S) 31 pl _ j a = _
    rcases h with h | h
    · exact zh_u_j _ _ _ _ h
    · exact zh_u_a _ _ _ _ h
  · show va_up (zh_Q S) ar _ ar i = _
    rw [va_up_self, va_up_ne _ _ (by omega)]
  · show va_up (zh_Q S) ar _ ar n = _
    rw [va_up_self, va_up_self]
theorem zl_addN {S S1 : zS} {pl ar r n k q : Nat} (hr : r ∉ zh_L S) (hL : zh_L S1 = zh_L S ++ [r]) (hK : zh_K S1 = va_up (zh_K S) r 8) (hN : zh_N S1 = va_up (zh_N S) r k) (hA : ∀ a : Nat, a ≠ r → zh_A S1 a = zh_A S a) (hJ : ∀ a : Nat, a ≠ r → zh_J S1 a = zh_J S a) (hQ : ∀ a : Nat, a ≠ r → zh_Q S1 a = zh_Q S a) (hI : zh_I S1 = zh_I S) (hR : zh_R S1 = zh_u (zh_R S) 30 pl (some r)) (hq : ∀ i : Nat, i < n → zh_Q S1 r i = zh_Q S ar i) (b1 : n + 1 ≤ k) (b2 : 10 ≤ k) (b3 : k ≤ 150) : zl_add S (zh_sI (zh_sQ S1 r (va_up (zh_Q S1 r) n (some q))) 31 pl (nI (n + 1))) pl ar n q := by
  have ne : ∀ a : Nat, a ∈ zh_L S → a ≠ r := fun a ha e => hr (e ▸ ha)
  refine ⟨fun a ha => ⟨?_, ?_, ?_, hA a (ne a ha), hJ a (ne a ha), fun _ => ?_⟩, fun j a h30 h => ?_, fun j a h => ?_, zh_u_s _ _ _ _, r, ?_, ⟨?_, ?_⟩, ?_, ?_, ?_, fun i hi => ?_, ?_, Or.inr hr⟩
  · show a ∈ zh_L S1
    rw [hL]; exact List.mem_append_left _ ha
  · show zh_K S1 a = _
    rw [hK, va_up_ne _ _ (ne a ha)]
  · show zh_N S1 a = _
    rw [hN, va_up_ne _ _ (ne a ha)]
  · show va_up (zh_Q S1) r _ a = _
    rw [va_up_ne _ _ (ne a ha), hQ a (ne a ha)]
  · show zh_u (zh_I S1) 31 pl _ j a = _
    rw [hI]
    rcases h with h | h
    · exact zh_u_j _ _ _ _ h
    · exact zh_u_a _ _ _ _ h
  · show zh_R S1 j a = _
    rw [hR]
    rcases h with h | h
    · exact zh_u_j _ _ _ _ h
    · exact zh_u_a _ _ _ _ h
  · show zh_R S1 30 pl = _
    rw [hR, zh_u_s]
  · show r ∈ zh_L S1
    rw [hL]; exact List.mem_append_right _ (List.mem_singleton.mpr rfl)
  · show zh_K S1 r = 8
    rw [hK, va_up_self]
  · show n + 1 ≤ zh_N S1 r
    rw [hN, va_up_self]; exact b1
  · show 10 ≤ zh_N S1 r
    rw [hN, va_up_self]; exact b2
  · show zh_N S1 r ≤ 150
    rw [hN, va_up_self]; exact b3
  · show va_up (zh_Q S1) r _ r i = _
    rw [va_up_self, va_up_ne _ _ (by omega), hq i hi]
  · show va_up (zh_Q S1) r _ r n = _
    rw [va_up_self, va_up_self]

set_option maxRecDepth 100000 in
set_option maxHeartbeats 4000000 in
theorem k_add3 (l : Launch) (g : zG) (S : zS) (pl ar n q kq : Nat) (ha : zh_at S 5 pl) (h1 : zh_I S 31 pl = nI n) (h2 : zh_R S 30 pl = some ar) (hk : (n = 0 ∧ ar = g.2.1) ∨ (zh_at S 8 ar ∧ n ≤ zh_N S ar ∧ 10 ≤ zh_N S ar ∧ zh_N S ar ≤ 150)) (hn : n ≤ 100) (hq : zh_at S kq q) (hq12 : kq = 1 ∨ kq = 2) (hel : ∀ i : Nat, i < n → ∀ y : Nat, zh_Q S ar i = some y → zh_at S 1 y ∨ zh_at S 2 y) : zM l yJx4a65c_add_72be8 cJx4a65c_add_72be8 4 none (zrm 5 1 200) g [.ref pl, .ref q, .ref ar, .int (nI n)] S (fun w S' => w = none ∧ zl_add S S' pl ar n q) := by
  refine zM_of (nm := "add") (by decide) rfl (Nat.le_of_ble_eq_true rfl) ?_
  intro p e s m args below meth c A ls C hr hlk hin I hl
  have C : CallFix p m c cJx4a65c_add_72be8 4 s args zc_W RJx4a65c := C
  have hx := C.1
  have hb := C.2.1
  have hl : lv_has ls 4 [(0, .ref pl), (1, .ref q), (2, .ref ar), (3, .int (nI n))] := hl
  rcases hk with ⟨hn0, hz⟩ | ⟨h3, h4, h5, h6⟩
  · refine lv_iload_n hx hb dJx4a65c_add_72be8_0 rfl (lv_at hl 3 rfl) ?_
    refine lv_aload_n hx hb dJx4a65c_add_72be8_1 rfl (lv_at hl 2 rfl) ?_
    rw [hz]
    refine zr_lenz C I dJx4a65c_add_72be8_2 ?_
    refine lv_icmp_ne (tgt := 11) hx hb dJx4a65c_add_72be8_3 (by decide) (fun h9 => absurd ((nI_eq (a := n) (b := 0) (by omega) (by omega)).mpr (hn0)) h9) (fun _ => ?_)
    refine lv_aload_n hx hb dJx4a65c_add_72be8_6 rfl (lv_at hl 0 rfl) ?_
    refine zc_V (n := 0) (rest := []) C I ha rfl rfl (k_growA l g S pl ha (by rw [h1, hn0]) (by rw [h2, hz])) zm_197 zm_198 zm_2 zm_19 zm_199 rfl hl.1 dJx4a65c_add_72be8_7 (by decide +kernel) rfl ⟨Nat.le_of_ble_eq_true rfl, Nat.le_of_ble_eq_true rfl⟩ (Nat.le_of_ble_eq_true rfl) ⟨Nat.le_of_ble_eq_true rfl, Nat.le_of_ble_eq_true rfl⟩ (fun v S' H locs hq_ I => ?_)
    obtain ⟨r, hr2, rfl, eS⟩ := hq_
    rw [eS] at I
    have eN : zh_N (zh_sR (zh_nA S r 8 10) 30 pl (some r)) r = 10 := va_up_self _ _ _
    refine lv_astore_n (lv' := [(2, .ref r), (0, .ref pl), (1, .ref q), (3, .int (nI n))]) hx hb dJx4a65c_add_72be8_10 rfl hl (by decide) rfl (fun ls hl => ?_)
    refine lv_aload_n hx hb dJx4a65c_add_72be8_11 rfl (lv_at hl 0 rfl) ?_
    refine lv_iload_n hx hb dJx4a65c_add_72be8_12 rfl (lv_at hl 3 rfl) ?_
    refine lv_aload_n hx hb dJx4a65c_add_72be8_13 rfl (lv_at hl 2 rfl) ?_
    have hca : ∃ (ci : Nat) (qc : vw_C) (fs : List Value), zh_e g (zh_sR (zh_nA S r 8 10) 30 pl (some r)) q kq = .inr (ci, fs) ∧ vwCl[ci]? = some qc ∧ Cond.castable qc.1 "java/lang/Object" ∈ zn_ws := by
      rcases hq12 with rfl | rfl
      · exact ⟨2, _, _, rfl, rfl, by decide +kernel⟩
      · exact ⟨3, _, _, rfl, rfl, by decide +kernel⟩
    obtain ⟨ci, qc, fs, g1, g2, g3⟩ := hca
    refine zr_qast (n := n) C I (zh_at_newA (S := S) (q := r) (k := 8) (n := 10)) (zh_at_nA (n := 10) hq hr2) g1 g2 g3 (by rw [eN]; exact vp_in_nI (by omega) (by omega)) (nI_clamp (by omega)) dJx4a65c_add_72be8_14 (fun H locs I => ?_)
    refine lv_aload_n hx hb dJx4a65c_add_72be8_15 rfl (lv_at hl 1 rfl) ?_
    refine lv_iload_n hx hb dJx4a65c_add_72be8_16 rfl (lv_at hl 3 rfl) ?_
    refine lv_iconst (v := 1) hx hb dJx4a65c_add_72be8_17 (by decide) ?_
    refine lv_iadd hx hb dJx4a65c_add_72be8_18 ?_
    refine zr_top (y := nI (n + 1)) (nI_add n 1) ?_
    refine zp_List_size C I (zh_at_nA (n := 10) ha hr2) zm_57 dJx4a65c_add_72be8_19 (fun H locs I => ?_)
    exact zr_vret C I hr hlk (⟨rfl, zl_addN (k := 10) hr2 rfl rfl rfl (fun a h => va_up_ne _ _ h) (fun a h => va_up_ne _ _ h) (fun a h => va_up_ne _ _ h) rfl rfl (fun i hi => by omega) (by omega) (by omega) (by omega)⟩) (Nat.le_of_ble_eq_true rfl) (Nat.le_of_ble_eq_true rfl) dJx4a65c_add_72be8_22
  · by_cases hf : n = zh_N S ar
    · refine lv_iload_n hx hb dJx4a65c_add_72be8_0 rfl (lv_at hl 3 rfl) ?_
      refine lv_aload_n hx hb dJx4a65c_add_72be8_1 rfl (lv_at hl 2 rfl) ?_
      refine zr_len (kd := 8) (t := 2) (N := n) C I h3 rfl rfl (hf.symm) dJx4a65c_add_72be8_2 ?_
      refine lv_icmp_ne (tgt := 11) hx hb dJx4a65c_add_72be8_3 (by decide) (fun h9 => absurd ((nI_eq (a := n) (b := n) (by omega) (by omega)).mpr (rfl)) h9) (fun _ => ?_)
      refine lv_aload_n hx hb dJx4a65c_add_72be8_6 rfl (lv_at hl 0 rfl) ?_
      refine zc_V (n := 0) (rest := []) C I ha rfl rfl (k_growB l g S pl ar n ha h2 h3 hf.symm (by omega) (by omega) hel h1) zm_197 zm_198 zm_2 zm_19 zm_199 rfl hl.1 dJx4a65c_add_72be8_7 (by decide +kernel) rfl ⟨Nat.le_of_ble_eq_true rfl, Nat.le_of_ble_eq_true rfl⟩ (Nat.le_of_ble_eq_true rfl) ⟨Nat.le_of_ble_eq_true rfl, Nat.le_of_ble_eq_true rfl⟩ (fun v S' H locs hq_ I => ?_)
      obtain ⟨r, hr2, rfl, eS⟩ := hq_
      rw [eS] at I
      have eN : zh_N (zh_sR (zh_sQ (zh_nA S r 8 (n + n / 2)) r (va_cpy (zh_Q S ar) (fun _ => none) 0 0 n)) 30 pl (some r)) r = n + n / 2 := va_up_self _ _ _
      have eQ : zh_Q (zh_sR (zh_sQ (zh_nA S r 8 (n + n / 2)) r (va_cpy (zh_Q S ar) (fun _ => none) 0 0 n)) 30 pl (some r)) r = va_cpy (zh_Q S ar) (fun _ => none) 0 0 n := va_up_self _ _ _
      refine lv_astore_n (lv' := [(2, .ref r), (0, .ref pl), (1, .ref q), (3, .int (nI n))]) hx hb dJx4a65c_add_72be8_10 rfl hl (by decide) rfl (fun ls hl => ?_)
      refine lv_aload_n hx hb dJx4a65c_add_72be8_11 rfl (lv_at hl 0 rfl) ?_
      refine lv_iload_n hx hb dJx4a65c_add_72be8_12 rfl (lv_at hl 3 rfl) ?_
      refine lv_aload_n hx hb dJx4a65c_add_72be8_13 rfl (lv_at hl 2 rfl) ?_
      have hca : ∃ (ci : Nat) (qc : vw_C) (fs : List Value), zh_e g (zh_sR (zh_sQ (zh_nA S r 8 (n + n / 2)) r (va_cpy (zh_Q S ar) (fun _ => none) 0 0 n)) 30 pl (some r)) q kq = .inr (ci, fs) ∧ vwCl[ci]? = some qc ∧ Cond.castable qc.1 "java/lang/Object" ∈ zn_ws := by
        rcases hq12 with rfl | rfl
        · exact ⟨2, _, _, rfl, rfl, by decide +kernel⟩
        · exact ⟨3, _, _, rfl, rfl, by decide +kernel⟩
      obtain ⟨ci, qc, fs, g1, g2, g3⟩ := hca
      refine zr_qast (n := n) C I (zh_at_newA (S := S) (q := r) (k := 8) (n := n + n / 2)) (zh_at_nA (n := n + n / 2) hq hr2) g1 g2 g3 (by rw [eN]; exact vp_in_nI (by omega) (by omega)) (nI_clamp (by omega)) dJx4a65c_add_72be8_14 (fun H locs I => ?_)
      refine lv_aload_n hx hb dJx4a65c_add_72be8_15 rfl (lv_at hl 1 rfl) ?_
      refine lv_iload_n hx hb dJx4a65c_add_72be8_16 rfl (lv_at hl 3 rfl) ?_
      refine lv_iconst (v := 1) hx hb dJx4a65c_add_72be8_17 (by decide) ?_
      refine lv_iadd hx hb dJx4a65c_add_72be8_18 ?_
      refine zr_top (y := nI (n + 1)) (nI_add n 1) ?_
      refine zp_List_size C I (zh_at_nA (n := n + n / 2) ha hr2) zm_57 dJx4a65c_add_72be8_19 (fun H locs I => ?_)
      exact zr_vret C I hr hlk (⟨rfl, zl_addN (k := n + n / 2) hr2 rfl rfl rfl (fun a h => va_up_ne _ _ h) (fun a h => va_up_ne _ _ h) (fun a h => (va_up_ne _ _ h).trans (va_up_ne _ _ h)) rfl rfl (fun i hi => by rw [eQ, pk_cpy_in (Nat.zero_le _) (by omega)]; congr 1; omega) (by omega) (by omega) (by omega)⟩) (Nat.le_of_ble_eq_true rfl) (Nat.le_of_ble_eq_true rfl) dJx4a65c_add_72be8_22
    · refine lv_iload_n hx hb dJx4a65c_add_72be8_0 rfl (lv_at hl 3 rfl) ?_
      refine lv_aload_n hx hb dJx4a65c_add_72be8_1 rfl (lv_at hl 2 rfl) ?_
      refine zr_len (kd := 8) (t := 2) (N := (zh_N S ar)) C I h3 rfl rfl (rfl) dJx4a65c_add_72be8_2 ?_
      refine lv_icmp_ne (tgt := 11) hx hb dJx4a65c_add_72be8_3 (by decide) (fun _ => ?_) (fun h9 => absurd h9 (fun h8 => absurd ((nI_eq (a := n) (b := zh_N S ar) (by omega) (by omega)).mp h8) (hf)))
      refine lv_aload_n hx hb dJx4a65c_add_72be8_11 rfl (lv_at hl 2 rfl) ?_
      refine lv_iload_n hx hb dJx4a65c_add_72be8_12 rfl (lv_at hl 3 rfl) ?_
      refine lv_aload_n hx hb dJx4a65c_add_72be8_13 rfl (lv_at hl 1 rfl) ?_
      have hca : ∃ (ci : Nat) (qc : vw_C) (fs : List Value), zh_e g S q kq = .inr (ci, fs) ∧ vwCl[ci]? = some qc ∧ Cond.castable qc.1 "java/lang/Object" ∈ zn_ws := by
        rcases hq12 with rfl | rfl
        · exact ⟨2, _, _, rfl, rfl, by decide +kernel⟩
        · exact ⟨3, _, _, rfl, rfl, by decide +kernel⟩
      obtain ⟨ci, qc, fs, g1, g2, g3⟩ := hca
      refine zr_qast (n := n) C I h3 hq g1 g2 g3 (vp_in_nI (by omega) (by omega)) (nI_clamp (by omega)) dJx4a65c_add_72be8_14 (fun H locs I => ?_)
      refine lv_aload_n hx hb dJx4a65c_add_72be8_15 rfl (lv_at hl 0 rfl) ?_
      refine lv_iload_n hx hb dJx4a65c_add_72be8_16 rfl (lv_at hl 3 rfl) ?_
      refine lv_iconst (v := 1) hx hb dJx4a65c_add_72be8_17 (by decide) ?_
      refine lv_iadd hx hb dJx4a65c_add_72be8_18 ?_
      refine zr_top (y := nI (n + 1)) (nI_add n 1) ?_
      refine zp_List_size C I ha zm_57 dJx4a65c_add_72be8_19 (fun H locs I => ?_)
      exact zr_vret C I hr hlk (⟨rfl, zl_addB h2 h3 (by omega) h5 h6⟩) (Nat.le_of_ble_eq_true rfl) (Nat.le_of_ble_eq_true rfl) dJx4a65c_add_72be8_22

theorem zl_add_m {S S' : zS} {pl ar n q : Nat} {x : Int32} (h : zl_add (zh_sI S 30 pl x) S' pl ar n q) : zl_add S S' pl ar n q := by
  obtain ⟨h1, h2, h3, h4, h5⟩ := h
  refine ⟨h1, fun j a h30 h => (h2 j a h30 h).trans (zh_u_j _ _ _ _ h30), h3, h4, h5⟩

set_option maxRecDepth 100000 in
set_option maxHeartbeats 4000000 in
theorem k_add (l : Launch) (g : zG) (S : zS) (pl ar n q kq : Nat) (ha : zh_at S 5 pl) (h1 : zh_I S 31 pl = nI n) (h2 : zh_R S 30 pl = some ar) (hk : (n = 0 ∧ ar = g.2.1) ∨ (zh_at S 8 ar ∧ n ≤ zh_N S ar ∧ 10 ≤ zh_N S ar ∧ zh_N S ar ≤ 150)) (hn : n ≤ 100) (hq : zh_at S kq q) (hq12 : kq = 1 ∨ kq = 2) (hel : ∀ i : Nat, i < n → ∀ y : Nat, zh_Q S ar i = some y → zh_at S 1 y ∨ zh_at S 2 y) : zM l yJx4a65c_add_9ea2d cJx4a65c_add_9ea2d 2 (some .boolean) (zrm 6 1 200) g [.ref pl, .ref q] S (fun w S' => w = some (.int 1) ∧ zl_add S S' pl ar n q) := by
  refine zM_of (nm := "add") (by decide) rfl (Nat.le_of_ble_eq_true rfl) ?_
  intro p e s m args below meth c A ls C hr hlk hin I hl
  have C : CallFix p m c cJx4a65c_add_9ea2d 2 s args zc_W RJx4a65c := C
  have hx := C.1
  have hb := C.2.1
  have hl : lv_has ls 2 [(0, .ref pl), (1, .ref q)] := hl
  refine lv_aload_n hx hb dJx4a65c_add_9ea2d_0 rfl (lv_at hl 0 rfl) ?_
  refine lv_dup hx hb dJx4a65c_add_9ea2d_1 rfl ?_
  refine zg_List_modCount (v := zh_I S 30 pl) C I ha zm_60 zm_59 (rfl) dJx4a65c_add_9ea2d_2 ?_
  refine lv_iconst (v := 1) hx hb dJx4a65c_add_9ea2d_5 (by decide) ?_
  refine lv_iadd hx hb dJx4a65c_add_9ea2d_6 ?_
  refine zp_List_modCount C I ha zm_60 zm_59 dJx4a65c_add_9ea2d_7 (fun H locs I => ?_)
  refine lv_aload_n hx hb dJx4a65c_add_9ea2d_10 rfl (lv_at hl 0 rfl) ?_
  refine lv_aload_n hx hb dJx4a65c_add_9ea2d_11 rfl (lv_at hl 1 rfl) ?_
  refine lv_aload_n hx hb dJx4a65c_add_9ea2d_12 rfl (lv_at hl 0 rfl) ?_
  refine zg_List_elementData (v := ar) C I ha zm_56 (h2) dJx4a65c_add_9ea2d_13 ?_
  refine lv_aload_n hx hb dJx4a65c_add_9ea2d_16 rfl (lv_at hl 0 rfl) ?_
  refine zg_List_size (v := nI n) C I ha zm_57 ((by simp [zh_I_sI, zh_u, h1])) dJx4a65c_add_9ea2d_17 ?_
  refine zc_V (n := 3) (rest := []) C I ha rfl rfl (k_add3 l g (zh_sI S 30 pl ((zh_I S 30 pl) + 1)) pl ar n q kq ha (by simp [zh_I_sI, zh_u, h1]) h2 hk hn hq hq12 hel) zm_194 zm_195 zm_1 zm_19 zm_196 rfl hl.1 dJx4a65c_add_9ea2d_20 (by decide +kernel) rfl ⟨Nat.le_of_ble_eq_true rfl, Nat.le_of_ble_eq_true rfl⟩ (Nat.le_of_ble_eq_true rfl) ⟨Nat.le_of_ble_eq_true rfl, Nat.le_of_ble_eq_true rfl⟩ (fun v S' H locs hq_ I => ?_)
  obtain ⟨rfl, hA⟩ := hq_
  refine lv_iconst (v := 1) hx hb dJx4a65c_add_9ea2d_23 (by decide) ?_
  exact zr_zret C I hr (zf_b (by decide)).1 hlk (⟨rfl, zl_add_m hA⟩) (Nat.le_of_ble_eq_true rfl) (Nat.le_of_ble_eq_true rfl) dJx4a65c_add_9ea2d_24

