/-! the law's loop, and its start -/
/-- arrays made one after the other: the i-th with its length, all zeros -/
def LGn (M : zS) (as : List Nat) : Prop := (∀ (i a : Nat), as[i]? = some a → zh_at M 6 a ∧ zh_N M a = zLen i ∧ zh_A M a = fun _ => 0) ∧ ∀ (i j a : Nat), as[i]? = some a → as[j]? = some a → i = j
theorem LGn_0 (M : zS) : LGn M [] := ⟨fun i a h => by simp at h, fun i j a h => by simp at h⟩
theorem LGn_s {M : zS} {as : List Nat} (h : LGn M as) {q n : Nat} (hq : q ∉ zh_L M) (hn : n = zLen as.length) : LGn (zh_nA M q 6 n) (as ++ [q]) := by
  have hne : ∀ i a : Nat, as[i]? = some a → a ≠ q := fun i a e e9 => hq (e9 ▸ (h.1 i a e).1.1)
  have cs : ∀ i a : Nat, (as ++ [q])[i]? = some a → as[i]? = some a ∨ (i = as.length ∧ a = q) := fun i a e => by
    rcases Nat.lt_or_ge i as.length with c | c
    · rw [List.getElem?_append_left c] at e; exact Or.inl e
    · rw [List.getElem?_append_right c] at e
      have h0 : i - as.length = 0 := by
        have := (List.getElem?_eq_some_iff.mp e).1
        simp at this; omega
      rw [h0] at e
      exact Or.inr ⟨by omega, (Option.some.inj e).symm⟩
  refine ⟨fun i a e => ?_, fun i j a e1 e2 => ?_⟩
  · rcases cs i a e with e | ⟨rfl, rfl⟩
    · obtain ⟨k1, k2, k3⟩ := h.1 i a e
      have d := hne i a e
      exact ⟨zh_at_nA k1 hq, (va_up_ne _ _ d).trans k2, (va_up_ne _ _ d).trans k3⟩
    · exact ⟨zh_at_newA, (va_up_self _ _ _).trans hn, va_up_self _ _ _⟩
  · rcases cs i a e1 with d1 | ⟨d1, d2⟩
    · rcases cs j a e2 with f1 | ⟨f1, f2⟩
      · exact h.2 i j a d1 f1
      · exact absurd f2 (hne i a d1)
    · rcases cs j a e2 with f1 | ⟨f1, f2⟩
      · exact absurd d2 (hne j a f1)
      · exact d1.trans f1.symm
theorem LGn_G {M : zS} {as : List Nat} (h : LGn M as) (hl : as.length = 8) : LG M (fun i => as.getD i 0) (fun _ _ => 0) := by
  have e : ∀ i : Nat, i < 8 → as[i]? = some (as.getD i 0) := fun i hi => by
    rw [List.getD_eq_getElem?_getD, List.getElem?_eq_getElem (by omega)]; rfl
  refine ⟨fun i hi => ⟨(h.1 i _ (e i hi)).1, (h.1 i _ (e i hi)).2.1⟩, fun i j hi hj e9 => ?_, fun i k hi _ => ?_⟩
  · have e9 : as.getD i 0 = as.getD j 0 := e9
    exact h.2 i j _ (e i hi) (by rw [e9]; exact e j hj)
  · show zh_A M (as.getD i 0) k = 0
    rw [(h.1 i _ (e i hi)).2.2]
theorem LC_0 : LC (fun _ _ => 0) zT0 := ⟨⟨by decide, by decide⟩, ⟨rfl, rfl⟩, ⟨zbt_0, zbt_0, zbt_0⟩, fun _ _ => rfl, fun _ h => absurd h (Nat.not_lt_zero _), fun _ h => absurd h (Nat.not_lt_zero _)⟩
section ZLOOP
variable {p : Program} {l : Launch} {e : Env} {s : State} {m : MethodId} {below : List Frame} {meth : Method} {c : Code} {H : Heap} {locs : List Loc} {cells slots : Nat} {Q : State → Prop} {g : zG} {b L x t : Nat} {xs : Nat → Int32} {zv : Int32} {ar : Nat → Nat} {ls : Array Slot}
set_option maxRecDepth 100000 in
set_option maxHeartbeats 4000000 in
theorem k_law_loop (K0 : zLC p l s m c g b L xs) (hr : meth.sig.returnType = ret) (hlk : meth.locks = false) : ∀ (n9 t cells slots : Nat) (H : Heap) (locs : List Loc) (ls : Array Slot), t + n9 = 80 → cells + 640 * n9 ≤ 794606 → slots + 13000 * n9 ≤ 6717651 → zLP g s x ar (fun T => True) H locs ls [(10, .int (nI t)), (0, .ref b), (1, .ref x), (2, .ref (ar 0)), (3, .ref (ar 1)), (4, .ref (ar 2)), (5, .ref (ar 3)), (6, .ref (ar 4)), (7, .ref (ar 5)), (8, .ref (ar 6)), (9, .ref (ar 7))] → W p l e room_1 s m #[Value.ref b] below meth c H locs cells slots (lw_Z below #[Value.ref b] s) (F0 m 57 ls []) := by
  obtain ⟨hst, C, hX, hbg, hL⟩ := id K0
  have hx := C.1
  have hb := C.2.1
  intro n9
  induction n9 with
  | zero =>
    intro t cells slots H locs ls hn hcs hss I0
    obtain ⟨S, M, T, Ct, -, hT, hF, G, hC, I, hl⟩ := I0
    obtain ⟨pl, lo, pt, ty, pa, la, ap, ad, ae, hF9⟩ := id hF
    obtain ⟨⟨n1, n2⟩, ⟨q0, q1⟩, ⟨b2, b3, b4⟩, qp, dk, ek⟩ := id hC
    obtain ⟨t1, t2, t3, t4, t5, t6, t7⟩ := id hT
    have hl : lv_has ls 19 [(10, .int (nI t)), (0, .ref b), (1, .ref x), (2, .ref (ar 0)), (3, .ref (ar 1)), (4, .ref (ar 2)), (5, .ref (ar 3)), (6, .ref (ar 4)), (7, .ref (ar 5)), (8, .ref (ar 6)), (9, .ref (ar 7))] := hl
    refine lv_iload hx hb dL_law_57 (lv_at hl 0 rfl) ?_
    refine lv_bipush (v := 80) hx hb dL_law_59 (by decide) ?_
    refine lv_icmp_ge (tgt := 958) hx hb dL_law_61 (by decide) (fun _ => ?_) (fun h9 => absurd ((nI_leI (a := 80) (b := t) (by omega) (by omega)).mpr (by omega)) h9)
    refine lv_iconst (v := 1) hx hb dL_law_958 (by decide) ?_
    refine va_forget (fun q hq => I.S.2.2 q hq) ?_
    refine W.widen (k := 794606) (n := 6717651) (by omega) (by omega) ?_
    exact lw_ret hx hb hr hlk dL_law_959
  | succ n9 ih =>
    intro t cells slots H locs ls hn hcs hss I0
    obtain ⟨S, M, T, Ct, -, hT, hF, G, hC, I, hl⟩ := I0
    obtain ⟨pl, lo, pt, ty, pa, la, ap, ad, ae, hF9⟩ := id hF
    obtain ⟨⟨n1, n2⟩, ⟨q0, q1⟩, ⟨b2, b3, b4⟩, qp, dk, ek⟩ := id hC
    obtain ⟨t1, t2, t3, t4, t5, t6, t7⟩ := id hT
    have hl : lv_has ls 19 [(10, .int (nI t)), (0, .ref b), (1, .ref x), (2, .ref (ar 0)), (3, .ref (ar 1)), (4, .ref (ar 2)), (5, .ref (ar 3)), (6, .ref (ar 4)), (7, .ref (ar 5)), (8, .ref (ar 6)), (9, .ref (ar 7))] := hl
    refine lv_iload hx hb dL_law_57 (lv_at hl 0 rfl) ?_
    refine lv_bipush (v := 80) hx hb dL_law_59 (by decide) ?_
    refine lv_icmp_ge (tgt := 958) hx hb dL_law_61 (by decide) (fun h9 => absurd h9 (fun h8 => absurd ((nI_leI (a := 80) (b := t) (by omega) (by omega)).mp h8) (by omega))) (fun _ => ?_)
    refine lv_aload_n hx hb dL_law_64 rfl (lv_at hl 1 rfl) ?_
    refine lv_iload hx hb dL_law_65 (lv_at hl 0 rfl) ?_
    refine zc_cell (b := b) (L := L) (k := t) (xs := xs) (rest := []) C I hX hbg (by omega) hL hl.1 dL_law_67 ⟨Nat.le_of_ble_eq_true rfl, Nat.le_of_ble_eq_true rfl⟩ (Nat.le_of_ble_eq_true rfl) ⟨by show cells + 0 ≤ 794606; omega, by show slots + 0 ≤ 6717651; omega⟩ (fun zv H locs I => ?_)
    refine lv_istore (lv' := [(11, .int zv), (10, .int (nI t)), (0, .ref b), (1, .ref x), (2, .ref (ar 0)), (3, .ref (ar 1)), (4, .ref (ar 2)), (5, .ref (ar 3)), (6, .ref (ar 4)), (7, .ref (ar 5)), (8, .ref (ar 6)), (9, .ref (ar 7))]) hx hb dL_law_70 hl (by decide) rfl (fun ls hl => ?_)
    refine lv_iload hx hb dL_law_72 (lv_at hl 0 rfl) ?_
    refine lv_bipush (v := 16) hx hb dL_law_74 (by decide) ?_
    refine zc_S (n := 2) (rest := []) C I (k_L_low l g S zv 16 (by decide) (by decide)) zm_267 zm_268 zm_15 zm_269 rfl hl.1 dL_law_76 (by decide +kernel) rfl ⟨Nat.le_of_ble_eq_true rfl, Nat.le_of_ble_eq_true rfl⟩ (Nat.le_of_ble_eq_true rfl) ⟨by show cells + 0 ≤ 794606; omega, by show slots + 0 ≤ 6717651; omega⟩ (fun v S' H locs hq I => ?_)
    obtain ⟨⟨act, hact, rfl⟩, eS⟩ := hq
    rw [eS] at I
    refine lv_istore (lv' := [(12, .int (nI act)), (11, .int zv), (10, .int (nI t)), (0, .ref b), (1, .ref x), (2, .ref (ar 0)), (3, .ref (ar 1)), (4, .ref (ar 2)), (5, .ref (ar 3)), (6, .ref (ar 4)), (7, .ref (ar 5)), (8, .ref (ar 6)), (9, .ref (ar 7))]) hx hb dL_law_79 hl (by decide) rfl (fun ls hl => ?_)
    refine lv_aload_n hx hb dL_law_81 rfl (lv_at hl 5 rfl) ?_
    refine lv_iconst (v := 1) hx hb dL_law_82 (by decide) ?_
    refine zr_iald (v := nI T.1.2) C I.swap (LG.at G (i := 0) (by decide)) (show vp_in (nI 1) _ from LG.inn G (i := 0) (k := 1) (by decide) (by decide)) (show zh_A M (ar 0) (nI 1).toNatClampNeg = _ from LG.rd G (by decide) (by decide) (q1)) dL_law_83 ?_
    refine lv_if_ne (tgt := 91) hx hb dL_law_84 (by decide) (fun c84 => ?_) (fun c84 => ?_)
    · have c84 : ¬ T.1.2 = 0 := fun h9 => c84 ((nI_eq (a := T.1.2) (b := 0) (by omega) (by omega)).mpr h9)
      refine lv_iload hx hb dL_law_91 (lv_at hl 1 rfl) ?_
      refine lv_iconst (v := 5) hx hb dL_law_93 (by decide) ?_
      refine lv_ishr hx hb dL_law_94 ?_
      refine lv_aload_n hx hb dL_law_95 rfl (lv_at hl 5 rfl) ?_
      refine lv_iconst (v := 1) hx hb dL_law_96 (by decide) ?_
      refine zr_iald (v := nI T.1.2) C I.swap (LG.at G (i := 0) (by decide)) (show vp_in (nI 1) _ from LG.inn G (i := 0) (k := 1) (by decide) (by decide)) (show zh_A M (ar 0) (nI 1).toNatClampNeg = _ from LG.rd G (by decide) (by decide) (q1)) dL_law_97 ?_
      refine zc_S (n := 2) (rest := []) C I (k_L_low l g S (zv >>> (5 &&& 31)) T.1.2 (by omega) (by omega)) zm_267 zm_268 zm_15 zm_269 rfl hl.1 dL_law_98 (by decide +kernel) rfl ⟨Nat.le_of_ble_eq_true rfl, Nat.le_of_ble_eq_true rfl⟩ (Nat.le_of_ble_eq_true rfl) ⟨by show cells + 0 + 0 ≤ 794606; omega, by show slots + 0 + 0 ≤ 6717651; omega⟩ (fun v S' H locs hq I => ?_)
      obtain ⟨⟨k, hk, rfl⟩, eS⟩ := hq
      rw [eS] at I
      refine k_law_101 K0 (by omega) act k hact (by show cells + 0 + 0 + 620 ≤ 794606; omega) (by show slots + 0 + 0 + 12610 ≤ 6717651; omega) (fun H locs ls h => ih (t + 1) _ _ H locs ls (by omega) (by show cells + 0 + 0 + 620 + 640 * n9 ≤ 794606; omega) (by show slots + 0 + 0 + 12610 + 13000 * n9 ≤ 6717651; omega) h) ⟨S, M, T, Ct, Or.inr hk, hT, hF, G, hC, I, lv_sub hl [0, 1, 2, 3, 4, 5, 6, 7, 8, 9, 10, 11, 12] rfl⟩
    · have c84 : T.1.2 = 0 := (nI_eq (a := T.1.2) (b := 0) (by omega) (by omega)).mp c84
      refine lv_iconst (v := 0) hx hb dL_law_87 (by decide) ?_
      refine lv_goto (tgt := 101) hx hb dL_law_88 (by decide) ?_
      refine k_law_101 K0 (by omega) act 0 hact (by show cells + 0 + 620 ≤ 794606; omega) (by show slots + 0 + 12610 ≤ 6717651; omega) (fun H locs ls h => ih (t + 1) _ _ H locs ls (by omega) (by show cells + 0 + 620 + 640 * n9 ≤ 794606; omega) (by show slots + 0 + 12610 + 13000 * n9 ≤ 6717651; omega) h) ⟨S, M, T, Ct, Or.inl ⟨by omega, rfl⟩, hT, hF, G, hC, I, lv_sub hl [0, 1, 2, 3, 4, 5, 6, 7, 8, 9, 10, 11, 12] rfl⟩
end ZLOOP
set_option maxRecDepth 100000 in
set_option maxHeartbeats 4000000 in
theorem whole_start {p : Program} {e : Env} {s : State} {m : MethodId} {below : List Frame} {meth : Method} {c : Code} (l : Launch) (hflags : l.flags = flags0) {b L : Nat} {xs : Nat → Int32} (hL : L ≤ 260) (C0 : lw_At p s m meth c b L xs) : W p l e room_1 s m #[Value.ref b] below meth c s.heap [] 0 0 (lw_Z below #[Value.ref b] s) (entryFrame m ([Value.ref b] : List Value).toArray 19) := by
  obtain ⟨hx, hb, hr, hml, hown, hts, hX, hbl, hlk, hgv⟩ := id C0
  have hst : l.stackTraces = false := by unfold Launch.stackTraces; rw [hflags]; decide +kernel
  have C : CallFix p m c cL_law 19 s #[Value.ref b] zc_W RL := ⟨hx, hb, hml, hown, fun w h => hts w (zc_tbl w h)⟩
  obtain ⟨g, hg, hK, hO⟩ := zstart_all hts hgv
  have I : zh_V g (fun q : Nat => s.heap.size ≤ q) s [] zS0 s.heap [] := ⟨hK, fun k q h => by simp [zS0_w] at h, ⟨fun i j p q h => by simp [zS0_w] at h, fun k q h => by simp [zS0_w] at h⟩, va_S.rf, fun _ h => h, fun q h => by rw [hg]; exact h, by rw [hg]; exact Nat.le_refl _, hO⟩
  have hl := lv_entry ([.ref b]) (n := 19) (Nat.le_of_ble_eq_true rfl)
  rw [lg_entry_eq]
  generalize (lg_sl ([.ref b]) ++ List.replicate (19 - (lg_sl ([.ref b])).length) Slot.unset).toArray = ls at hl ⊢
  have hl : lv_has ls 19 [(0, .ref b)] := hl
  refine zw_Forge C I zm_35 zm_36 zm_16 (Nat.le_of_ble_eq_true rfl) (Nat.le_of_ble_eq_true rfl) dL_law_0 (fun x H hx9 I => ?_)
  refine lv_dup hx hb dL_law_3 rfl ?_
  refine zc_I (n := 0) (rest := [.ref x]) C I (k_X3_init l g (zh_nO zS0 x 3) x zh_at_new) zm_37 zm_38 zm_16 zm_39 rfl rfl hl.1 dL_law_4 (by decide +kernel) rfl ⟨Nat.le_of_ble_eq_true rfl, Nat.le_of_ble_eq_true rfl⟩ (Nat.le_of_ble_eq_true rfl) ⟨Nat.le_of_ble_eq_true rfl, Nat.le_of_ble_eq_true rfl⟩ (fun v S H locs hq I => ?_)
  obtain ⟨rfl, hF, -⟩ := hq
  refine lv_astore_n (lv' := [(1, .ref x), (0, .ref b)]) hx hb dL_law_7 rfl hl (by decide) rfl (fun ls hl => ?_)
  have I := I.beside
  have hG := LGn_0 zS0
  refine lv_bipush (v := 11) hx hb dL_law_8 (by decide) ?_
  refine zr_newI (N := 11) C I zm_81 rfl (by decide) (Nat.le_of_ble_eq_true rfl) (Nat.le_of_ble_eq_true rfl) dL_law_10 (fun a0 H ha0 I => ?_)
  have hG := LGn_s hG ha0 (n := 11) rfl
  refine lv_astore_n (lv' := [(2, .ref a0), (1, .ref x), (0, .ref b)]) hx hb dL_law_12 rfl hl (by decide) rfl (fun ls hl => ?_)
  generalize zh_nA zS0 a0 6 11 = M0 at I hG
  refine lv_bipush (v := 12) hx hb dL_law_13 (by decide) ?_
  refine zr_newI (N := 12) C I zm_81 rfl (by decide) (Nat.le_of_ble_eq_true rfl) (Nat.le_of_ble_eq_true rfl) dL_law_15 (fun a1 H ha1 I => ?_)
  have hG := LGn_s hG ha1 (n := 12) rfl
  refine lv_astore_n (lv' := [(3, .ref a1), (2, .ref a0), (1, .ref x), (0, .ref b)]) hx hb dL_law_17 rfl hl (by decide) rfl (fun ls hl => ?_)
  generalize zh_nA M0 a1 6 12 = M1 at I hG
  refine lv_bipush (v := 30) hx hb dL_law_18 (by decide) ?_
  refine zr_newI (N := 30) C I zm_81 rfl (by decide) (Nat.le_of_ble_eq_true rfl) (Nat.le_of_ble_eq_true rfl) dL_law_20 (fun a2 H ha2 I => ?_)
  have hG := LGn_s hG ha2 (n := 30) rfl
  refine lv_astore (lv' := [(4, .ref a2), (3, .ref a1), (2, .ref a0), (1, .ref x), (0, .ref b)]) hx hb dL_law_22 hl (by decide) rfl (fun ls hl => ?_)
  generalize zh_nA M1 a2 6 30 = M2 at I hG
  refine lv_bipush (v := 30) hx hb dL_law_24 (by decide) ?_
  refine zr_newI (N := 30) C I zm_81 rfl (by decide) (Nat.le_of_ble_eq_true rfl) (Nat.le_of_ble_eq_true rfl) dL_law_26 (fun a3 H ha3 I => ?_)
  have hG := LGn_s hG ha3 (n := 30) rfl
  refine lv_astore (lv' := [(5, .ref a3), (4, .ref a2), (3, .ref a1), (2, .ref a0), (1, .ref x), (0, .ref b)]) hx hb dL_law_28 hl (by decide) rfl (fun ls hl => ?_)
  generalize zh_nA M2 a3 6 30 = M3 at I hG
  refine lv_bipush (v := 30) hx hb dL_law_30 (by decide) ?_
  refine zr_newI (N := 30) C I zm_81 rfl (by decide) (Nat.le_of_ble_eq_true rfl) (Nat.le_of_ble_eq_true rfl) dL_law_32 (fun a4 H ha4 I => ?_)
  have hG := LGn_s hG ha4 (n := 30) rfl
  refine lv_astore (lv' := [(6, .ref a4), (5, .ref a3), (4, .ref a2), (3, .ref a1), (2, .ref a0), (1, .ref x), (0, .ref b)]) hx hb dL_law_34 hl (by decide) rfl (fun ls hl => ?_)
  generalize zh_nA M3 a4 6 30 = M4 at I hG
  refine lv_bipush (v := 30) hx hb dL_law_36 (by decide) ?_
  refine zr_newI (N := 30) C I zm_81 rfl (by decide) (Nat.le_of_ble_eq_true rfl) (Nat.le_of_ble_eq_true rfl) dL_law_38 (fun a5 H ha5 I => ?_)
  have hG := LGn_s hG ha5 (n := 30) rfl
  refine lv_astore (lv' := [(7, .ref a5), (6, .ref a4), (5, .ref a3), (4, .ref a2), (3, .ref a1), (2, .ref a0), (1, .ref x), (0, .ref b)]) hx hb dL_law_40 hl (by decide) rfl (fun ls hl => ?_)
  generalize zh_nA M4 a5 6 30 = M5 at I hG
  refine lv_bipush (v := 30) hx hb dL_law_42 (by decide) ?_
  refine zr_newI (N := 30) C I zm_81 rfl (by decide) (Nat.le_of_ble_eq_true rfl) (Nat.le_of_ble_eq_true rfl) dL_law_44 (fun a6 H ha6 I => ?_)
  have hG := LGn_s hG ha6 (n := 30) rfl
  refine lv_astore (lv' := [(8, .ref a6), (7, .ref a5), (6, .ref a4), (5, .ref a3), (4, .ref a2), (3, .ref a1), (2, .ref a0), (1, .ref x), (0, .ref b)]) hx hb dL_law_46 hl (by decide) rfl (fun ls hl => ?_)
  generalize zh_nA M5 a6 6 30 = M6 at I hG
  refine lv_bipush (v := 30) hx hb dL_law_48 (by decide) ?_
  refine zr_newI (N := 30) C I zm_81 rfl (by decide) (Nat.le_of_ble_eq_true rfl) (Nat.le_of_ble_eq_true rfl) dL_law_50 (fun a7 H ha7 I => ?_)
  have hG := LGn_s hG ha7 (n := 30) rfl
  refine lv_astore (lv' := [(9, .ref a7), (8, .ref a6), (7, .ref a5), (6, .ref a4), (5, .ref a3), (4, .ref a2), (3, .ref a1), (2, .ref a0), (1, .ref x), (0, .ref b)]) hx hb dL_law_52 hl (by decide) rfl (fun ls hl => ?_)
  generalize zh_nA M6 a7 6 30 = M7 at I hG
  refine lv_iconst (v := 0) hx hb dL_law_54 (by decide) ?_
  refine lv_istore (lv' := [(10, .int 0), (9, .ref a7), (8, .ref a6), (7, .ref a5), (6, .ref a4), (5, .ref a3), (4, .ref a2), (3, .ref a1), (2, .ref a0), (1, .ref x), (0, .ref b)]) hx hb dL_law_55 hl (by decide) rfl (fun ls hl => ?_)
  have I := I.swap
  refine W.widen (k := 100) (n := 10000) (Nat.le_of_ble_eq_true rfl) (Nat.le_of_ble_eq_true rfl) ?_
  have G := LGn_G hG rfl
  exact k_law_loop (ar := fun i => ([] ++ [a0] ++ [a1] ++ [a2] ++ [a3] ++ [a4] ++ [a5] ++ [a6] ++ [a7] : List Nat).getD i 0) ⟨hst, C, hX, by rw [hg]; exact hbl, hL⟩ hr hlk 80 0 100 10000 _ _ ls (by decide) (by decide) (by decide) ⟨S, M7, zT0, _, trivial, zT0_ok, hF, G, LC_0, I, lv_sub hl [0, 10, 9, 8, 7, 6, 5, 4, 3, 2, 1] rfl⟩
