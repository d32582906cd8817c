/-! the law's cell: the script lies outside the world -/
theorem zcell_pre {g : zG} {A : Nat → Prop} {s : State} {X : va_W} {S : zS} {H : Heap} {locs : List Loc} (I : zh_V g A s X S H locs) {b L : Nat} {xs : Nat → Int32} (hX : va_X b L xs s s.heap) (hbg : b < g.1) (av : List Value) : PreS s H (fun a U => zh_Pc g av S H.size a U ∧ va_X b L xs U U.heap ∧ b < g.1) av :=
  ⟨fun a U gg mk h => ⟨zh_blind g av S H.size a U gg mk h.1, va_X.moved (u := U) (U := U.calling gg mk a) (Vm.Alike.refl U.vm) h.2.1, h.2.2⟩, fun U hU hW => ⟨⟨rfl, I.pre U hU hW⟩, by rw [hU]; exact va_X.moved hW.alike (hX.kept (I.out b hbg)), hbg⟩⟩
set_option maxRecDepth 100000 in
set_option maxHeartbeats 4000000 in
theorem k_L_cell (l : Launch) (g : zG) (S : zS) (b L : Nat) (xs : Nat → Int32) (k sz : Nat) (hk : k < 2 ^ 31) (hL : L ≤ 260) : Met l yL_cell (Cond.code yL_cell cL_cell 2 (some .int) :: zc_W) (zrm 0 0 0) (fun a U => zh_Pc g [.ref b, .int (nI k)] S sz a U ∧ va_X b L xs U U.heap ∧ b < g.1) (zh_Po g (va_A (zh_w g S) sz) (fun w S' => (∃ v : Int32, w = some (.int v)) ∧ S' = S)) 0 0 (va_A (zh_w g S) sz) := by
  refine Met.ofW (cc := cL_cell) (maxL := 2) (ret := some .int) (by decide +kernel) rfl ?_
  intro p e s m args below meth c s₁ B hml hv
  obtain ⟨⟨rfl, hsz, hK, hP, hD0, hN, hO⟩, hX, hbg⟩ := hv
  have hts := atoms_spec (ws := Cond.code yL_cell cL_cell 2 (some .int) :: zc_W) B.pre
  subst hsz
  have hl := lv_entry [.ref b, .int (nI k)] (n := 2) (Nat.le_of_ble_eq_true rfl)
  rw [lg_entry_eq]
  generalize (lg_sl ([.ref b, .int (nI k)] : List Value) ++ List.replicate (2 - (lg_sl ([.ref b, .int (nI k)] : List Value)).length) Slot.unset).toArray = ls at hl ⊢
  have hl : lv_has ls 2 [(0, .ref b), (1, .int (nI k))] := hl
  have C : CallFix p m c cL_cell 2 s [.ref b, .int (nI k)].toArray zc_W RL := ⟨B.exec, B.bytes, hml, findClass_of_methodNamed B.named, fun w h => hts w (List.mem_cons_of_mem _ h)⟩
  have I : zh_V g (va_A (zh_w g S) s.heap.size) s [] S s.heap [] := ⟨hK, hP, hD0.self, va_S.rf, fun q h => Or.inr h, fun q h => by
    rcases h with ⟨k, e, hk⟩ | h
    · exact hD0.2 k _ hk
    · exact Nat.le_trans hN h, hN, hO⟩
  have hr := B.returns
  have hlk := B.notSynchronized
  have hx := C.1
  have hb := C.2.1
  have hbl : b < s.heap.size := Nat.lt_of_lt_of_le hbg hN
  have hbA : ¬ va_A (zh_w g S) s.heap.size b := fun h => Nat.not_lt.mpr (I.lo b h) hbg
  refine lv_iload_n hx hb dL_cell_0 rfl (lv_at hl 1 rfl) ?_
  refine lv_aload_n hx hb dL_cell_1 rfl (lv_at hl 0 rfl) ?_
  refine va_slen hx hb hX hbl hbA I.S dL_cell_2 ?_
  refine lv_icmp_ge (tgt := 12) hx hb dL_cell_3 (by decide) (fun c3 => ?_) (fun c3 => ?_)
  · refine lv_ldc (v := 51829) hx hb C.2.2.2.1 (C.2.2.2.2 _ zm_265) dL_cell_12 ?_
    refine lv_iload_n hx hb dL_cell_14 rfl (lv_at hl 1 rfl) ?_
    refine lv_bipush (v := 11) hx hb dL_cell_15 (by decide) ?_
    refine lv_iadd hx hb dL_cell_17 ?_
    refine lv_imul hx hb dL_cell_18 ?_
    refine lv_ldc (v := 3096791) hx hb C.2.2.2.1 (C.2.2.2.2 _ zm_266) dL_cell_19 ?_
    refine lv_iadd hx hb dL_cell_21 ?_
    exact zr_iret C I hr hlk ⟨⟨_, rfl⟩, rfl⟩ (Nat.le_of_ble_eq_true rfl) (Nat.le_of_ble_eq_true rfl) dL_cell_22
  · have hkL : k < L := Nat.not_le.mp (fun h => c3 ((nI_leI (a := L) (b := k) (by omega) hk).mpr h))
    refine lv_aload_n hx hb dL_cell_6 rfl (lv_at hl 0 rfl) ?_
    refine lv_iload_n hx hb dL_cell_7 rfl (lv_at hl 1 rfl) ?_
    refine va_sld hx hb hX hbl hbA I.S (vp_in_nI hkL (by omega)) dL_cell_8 ?_
    refine lv_goto (tgt := 22) hx hb dL_cell_9 (by decide) ?_
    exact zr_iret C I hr hlk ⟨⟨_, rfl⟩, rfl⟩ (Nat.le_of_ble_eq_true rfl) (Nat.le_of_ble_eq_true rfl) dL_cell_22
section ZCELL
variable {p : Program} {l : Launch} {e : Env} {R : Room} {s : State} {m : MethodId} {args : Array Value} {below : List Frame} {meth : Method} {c : Code} {H : Heap} {locs : List Loc} {cells slots : Nat} {Q : State → Prop}
variable {g : zG} {A : Nat → Prop} {X : va_W} {S : zS} {cc : ByteArray} {nL : Nat} {pc : Nat} {ls : Array Slot} {rest : List Value}
theorem zc_cell {b L k : Nat} {xs : Nat → Int32} (C : CallFix p m c cc nL s args zc_W RL) (I : zh_V g A s X S H locs) (hX : va_X b L xs s s.heap) (hbg : b < g.1) (hk : k < 2 ^ 31) (hL : L ≤ 260) (hl : ls.size = nL) (hdg : decode cc pc = .ok (.invokestatic 114, 3)) (hR : (zrm 0 0 0).frames + 1 ≤ R.frames ∧ 8 + (2 + 11) + (zrm 0 0 0).locals ≤ R.locals) (hr8 : (rest.map fun v => v.category).sum ≤ 8) (hf : cells + 0 ≤ R.cells ∧ slots + 0 ≤ R.slots)
    (kk : ∀ (v : Int32) (H1 : Heap) (locs1 : List Loc), zh_V g A s X S H1 locs1 → W p l e R s m args below meth c H1 locs1 cells slots Q (F0 m (pc + 3) ls (.int v :: rest))) : W p l e R s m args below meth c H locs cells slots Q (F0 m pc ls (.int (nI k) :: .ref b :: rest)) := by
  refine zc_ret (Qp := fun w S' => (∃ v : Int32, w = some (.int v)) ∧ S' = S) I (va_runS (As := [.ref b, .int (nI k)]) (rest := rest) C (k_L_cell l g S b L xs k H.size hk hL) (va_cwS 2 C.2.2.2.2 (zgoodS zm_262 zm_263 zm_15 zm_264) rfl rfl rfl (by decide +kernel) hR) (zcell_pre I hX hbg _) rfl rfl hl rfl (lv_room hr8) hdg hf) (fun v S' H1 locs1 hq I1 => ?_)
  obtain ⟨⟨v1, rfl⟩, rfl⟩ := hq
  exact kk v1 H1 locs1 I1
end ZCELL
