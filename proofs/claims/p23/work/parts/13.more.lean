/-! MY OWN LAYER, 4: constructors of Object, new arrays, casts, a value by another name. -/
section ZO
variable {p : Program} {l : Launch} {e : Env} {R : Room} {s : State} {m : MethodId} {args : Array Value} {below : List Frame} {meth : Method} {c : Code} {H : Heap} {locs : List Loc} {cells slots : Nat} {Q : State → Prop}
variable {g : zG} {A : Nat → Prop} {X : va_W} {S : zS} {cc : ByteArray} {nL : Nat} {own : String} {pc idx a : Nat} {ls : Array Slot} {rest : List Value}
theorem zr_top {x y : Int32} (h : x = y) (k : W p l e R s m args below meth c H locs cells slots Q (F0 m pc ls (.int y :: rest))) : W p l e R s m args below meth c H locs cells slots Q (F0 m pc ls (.int x :: rest)) := h ▸ k
theorem zr_topl {x y : Int64} (h : x = y) (k : W p l e R s m args below meth c H locs cells slots Q (F0 m pc ls (.long y :: rest))) : W p l e R s m args below meth c H locs cells slots Q (F0 m pc ls (.long x :: rest)) := h ▸ k
theorem zr_obj (C : CallFix p m c cc nL s args zc_W own) (h1 : Cond.methodLink own idx Lib.objectInit ∈ zc_W) (h2 : Cond.instanceMethod Lib.objectInit ∈ zc_W) (h3 : Cond.code Lib.objectInit ⟨#[0xb1]⟩ 1 none ∈ zc_W) (hl : ls.size = nL) (hd : decode cc pc = .ok (.invokespecial idx, 3)) (hf : 1 ≤ R.frames) (h8 : (rest.map fun v => v.category).sum ≤ 8) (hlo : 20 ≤ R.locals)
    (kk : W p l e R s m args below meth c H locs cells slots Q (F0 m (pc + 3) ls rest)) : W p l e R s m args below meth c H locs cells slots Q (F0 m pc ls (.ref a :: rest)) := by
  refine W.objInit C.1 C.2.1 C.2.2.2.1 (C.2.2.2.2 _ h1) (C.2.2.2.2 _ h2) (C.2.2.2.2 _ h3) rfl (by rw [C.2.2.1]; exact hl) rfl hd hf ?_ kk
  have := lv_room (m := m) (pc := pc) (ls := ls) (rest := .ref a :: rest) h8
  omega
theorem zr_cls {ty : FieldType} {cA : ClassId} {k : Nat} {tys : List (ClassId × FieldType)} (hK : va_K g.2.2.1 vwCl (zh_T g ++ [(cA, ty)]) s) (h0 : (zh_T g)[k]? = some (g.2.2.2 k, ty)) (hk : k < 4) : cA = g.2.2.2 k := by
  have h1 := (hK.2 4 (cA, ty) rfl).2
  have h2 := (hK.2 k (g.2.2.2 k, ty) (by rw [List.getElem?_append_left (by show k < 4; exact hk)]; exact h0)).2
  cases ty with
  | object C =>
    obtain ⟨_, _, _, _, _, e1⟩ := h1
    obtain ⟨_, _, _, _, _, e2⟩ := h2
    exact Option.some.inj (e1.symm.trans e2)
  | _ => exact Option.some.inj (h1.symm.trans h2)
theorem zr_newI {n : Int32} {N : Nat} (C : CallFix p m c cc nL s args zc_W own) (I : zh_V g A s X S H locs) (harr : Cond.arrayClass .int ∈ zc_W) (hn : n = nI N) (hN : N < 1000000) (hc : cells + 1 ≤ R.cells) (hs : slots + N ≤ R.slots) (hdg : decode cc pc = .ok (.newarray .int, 2)) (kk : ∀ (q : Nat) (H : Heap), q ∉ zh_L S → zh_V g A s X (zh_nA S q 6 N) H locs → W p l e R s m args below meth c H locs (cells + 1) (slots + N) Q (F0 m (pc + 2) ls (.ref q :: rest))) : W p l e R s m args below meth c H locs cells slots Q (F0 m pc ls (.int n :: rest)) := by
  subst hn
  refine va_newa (atype := .int) (ty := .int) (a0 := (N, .inl (fun _ => 0))) C.1 C.2.1 (C.2.2.2.2 _ harr) rfl I.K I.P I.D I.S I.A (fun cA => rfl) (nI_pos (by omega)) (nI_clamp (by omega)) (by show N * 4 ≤ 536870912; omega) hc hs hdg (fun q cA H1 hK hP hD hS => ?_)
  have hq : q ∉ zh_L S := zf_fresh hD
  have hcA : cA = g.2.2.2 0 := zr_cls (tys := []) hK rfl (by decide)
  subst hcA
  exact kk q H1 hq (I.to (zh_push (kq := 6) hq rfl rfl (by show Sum.inl (g.2.2.2 0, va_up (zh_N S) q N q, Sum.inl (va_up (zh_A S) q (fun _ => 0) q)) = _; rw [va_up_self, va_up_self]) (fun b hb k => zh_e_nA g S _ _ hb k)) hP hD hS)
theorem zr_newQ {n : Int32} {N : Nat} (C : CallFix p m c cc nL s args zc_W own) (I : zh_V g A s X S H locs) (hcl : Cond.classLink own idx "java/lang/Object" ∈ zc_W) (hn : n = nI N) (hN : N < 1000000) (hc : cells + 1 ≤ R.cells) (hs : slots + N ≤ R.slots) (hdg : decode cc pc = .ok (.anewarray idx, 3)) (kk : ∀ (q : Nat) (H : Heap), q ∉ zh_L S → zh_V g A s X (zh_nA S q 8 N) H locs → W p l e R s m args below meth c H locs (cells + 1) (slots + N) Q (F0 m (pc + 3) ls (.ref q :: rest))) : W p l e R s m args below meth c H locs cells slots Q (F0 m pc ls (.int n :: rest)) := by
  subst hn
  refine va_newq C.1 C.2.1 C.2.2.2.1 (C.2.2.2.2 _ hcl) I.O.2.1 I.K I.P I.D I.S I.A (nI_pos (by omega)) (nI_clamp (n := N) (by omega)) (by omega) hc hs hdg (fun q cA H1 hK hP hD hS => ?_)
  have hq : q ∉ zh_L S := zf_fresh hD
  have hcA : cA = g.2.2.2 2 := zr_cls (tys := []) hK rfl (by decide)
  subst hcA
  exact kk q H1 hq (I.to (zh_push (kq := 8) hq rfl rfl (by show Sum.inl (g.2.2.2 2, va_up (zh_N S) q N q, Sum.inr (Sum.inr (Sum.inr (Sum.inr (va_up (zh_Q S) q (fun _ => none) q))))) = _; rw [va_up_self, va_up_self]) (fun b hb k => zh_e_nA g S _ _ hb k)) hP hD hS)
/-- checkcast to the object's own class -/
theorem zr_cast {kd ci : Nat} {q : vw_C} {fs : List Value} (C : CallFix p m c cc nL s args zc_W own) (I : zh_V g A s X S H locs) (ha : zh_at S kd a) (he : zh_e g S a kd = .inr (ci, fs)) (hc : vwCl[ci]? = some q) (hl : Cond.classLink own idx q.1 ∈ zc_W) (hdg : decode cc pc = .ok (.checkcast idx, 3)) (kk : W p l e R s m args below meth c H locs cells slots Q (F0 m (pc + 3) ls (.ref a :: rest))) : W p l e R s m args below meth c H locs cells slots Q (F0 m pc ls (.ref a :: rest)) := by
  obtain ⟨k, hk⟩ := zh_get (g := g) X ha
  rw [he] at hk
  exact va_castS C.1 C.2.1 C.2.2.2.1 (C.2.2.2.2 _ hl) ((I.K.1 ci q hc).2) (va_recv I.K I.P hc hk) hdg kk
/-- aastore of an object into an Object[] -/
theorem zr_qast {kd ci v n : Nat} {q : vw_C} {fs : List Value} {i : Int32} (C : CallFix p m c cc nL s args zc_W own) (I : zh_V g A s X S H locs) (ha : zh_at S 8 a) (hv : zh_at S kd v) (he : zh_e g S v kd = .inr (ci, fs)) (hc : vwCl[ci]? = some q) (hca : Cond.castable q.1 "java/lang/Object" ∈ zn_ws) (hin : vp_in i (zh_N S a)) (hi : i.toNatClampNeg = n) (hdg : decode cc pc = .ok (.aastore, 1)) (kk : ∀ (H : Heap) (locs : List Loc), zh_V g A s X (zh_sQ S a (va_up (zh_Q S a) n (some v))) H locs → W p l e R s m args below meth c H locs cells slots Q (F0 m (pc + 1) ls rest)) : W p l e R s m args below meth c H locs cells slots Q (F0 m pc ls (.ref v :: .int i :: .ref a :: rest)) := by
  obtain ⟨k, hk⟩ := zh_get (g := g) X ha
  obtain ⟨k2, hk2⟩ := zh_get (g := g) X hv
  rw [he] at hk2
  subst hi
  refine va_astqO (E := "java/lang/Object") C.1 C.2.1 I.K I.P I.D I.S k 2 k2 ci hk rfl (I.O.1 _ hca) hk2 hc hin hdg fun H1 locs1 hP hD hS => kk H1 locs1 (I.to (zh_set I.D ha hk rfl rfl ?_ (fun b hb k => zh_e_sQ g S _ hb k)) hP hD hS)
  show Sum.inl (g.2.2.2 2, zh_N S a, Sum.inr (Sum.inr (Sum.inr (Sum.inr (va_up (zh_Q S) a _ a))))) = _
  rw [va_up_self]
theorem zn_I {S : zS} {q k a : Nat} (ha : a ∈ zh_L S) (hq : q ∉ zh_L S) (j : Nat) : zh_I (zh_nO S q k) j a = zh_I S j a := if_neg (fun e : a = q => hq (e ▸ ha))
theorem zn_R {S : zS} {q k a : Nat} (ha : a ∈ zh_L S) (hq : q ∉ zh_L S) (j : Nat) : zh_R (zh_nO S q k) j a = zh_R S j a := if_neg (fun e : a = q => hq (e ▸ ha))
/-- arraylength of the empty list's shared array -/
theorem zr_lenz (C : CallFix p m c cc nL s args zc_W own) (I : zh_V g A s X S H locs) (hdg : decode cc pc = .ok (.arraylength, 1)) (kk : W p l e R s m args below meth c H locs cells slots Q (F0 m (pc + 1) ls (.int (nI 0) :: rest))) : W p l e R s m args below meth c H locs cells slots Q (F0 m pc ls (.ref g.2.1 :: rest)) := by
  obtain ⟨ce, k1, k2, k3⟩ := I.O.2.2.2.2.2.2.2.2.1
  exact W.alen (n := nI 0) C.1 C.2.1 (by rw [I.out _ I.O.2.2.2.2.2.2.2.2.2]; exact k1) k2 (by rw [k3]; rfl) rfl rfl hdg kk
/-- getstatic of ArrayList's empty array -/
theorem zr_gets (C : CallFix p m c cc nL s args zc_W own) (I : zh_V g A s X S H locs) (hl : Cond.fieldLink own idx "java/util/ArrayList" "DEFAULTCAPACITY_EMPTY_ELEMENTDATA" "[Ljava/lang/Object;" ∈ zc_W) (hdg : decode cc pc = .ok (.getstatic idx, 3)) (kk : W p l e R s m args below meth c H locs cells slots Q (F0 m (pc + 3) ls (.ref g.2.1 :: rest))) : W p l e R s m args below meth c H locs cells slots Q (F0 m pc ls rest) :=
  va_gets C.1 C.2.1 (I.O.2.2.2.2.2.2.2.1.narrow I.lo) I.S C.2.2.2.1 (C.2.2.2.2 _ hl) (fun _ h => h) hdg kk
/-- getClass of an Object[] -/
theorem zr_getC (C : CallFix p m c cc nL s args zc_W own) (I : zh_V g A s X S H locs) (ha : zh_at S 8 a) (h1 : Cond.methodLink own idx ⟨"java/lang/Object", "getClass", "()Ljava/lang/Class;"⟩ ∈ zc_W) (h2 : Cond.selects "[Ljava/lang/Object;" ⟨"java/lang/Object", "getClass", "()Ljava/lang/Class;"⟩ ⟨"java/lang/Object", "getClass", "()Ljava/lang/Class;"⟩ ∈ zc_W) (h3 : Cond.instanceMethod ⟨"java/lang/Object", "getClass", "()Ljava/lang/Class;"⟩ ∈ zc_W) (h4 : Cond.native ⟨"java/lang/Object", "getClass", "()Ljava/lang/Class;"⟩ ∈ zc_W) (hl : ls.size = nL) (hf : 1 ≤ R.frames) (hlo : (rest.map fun v => v.category).sum + 14 ≤ R.locals) (hdg : decode cc pc = .ok (.invokevirtual idx, 3)) (kk : W p l e R s m args below meth c H locs cells slots Q (F0 m (pc + 3) ls (.ref (g.2.2.1.2 99 0) :: rest))) : W p l e R s m args below meth c H locs cells slots Q (F0 m pc ls (.ref a :: rest)) := by
  obtain ⟨k, hk⟩ := zh_get (g := g) X ha
  have hcell : H[a]? = some (vp_cell (g.2.2.2 2) (zh_N S a, .inr (.inr (.inr (.inr (zh_Q S a)))))) := I.P k _ hk
  have hra := (I.K.2 2 (g.2.2.2 2, .object "java/lang/Object") rfl).2
  exact va_getC C.1 C.2.1 (C.2.2.1.trans hl.symm) C.2.2.2.1 (C.2.2.2.2 _ h1) (va_Nw.use rfl (I.O.1 (.declares ⟨"java/lang/Object", "getClass", "()Ljava/lang/Class;"⟩) (by decide +kernel))) (C.2.2.2.2 _ h2) (C.2.2.2.2 _ h3) (C.2.2.2.2 _ h4) I.O.2.2.2.2.1 ⟨_, hcell, rfl, va_nmO hra rfl⟩ hf hlo hdg kk
theorem zr_ldcC (C : CallFix p m c cc nL s args zc_W own) (I : zh_V g A s X S H locs) (hl : Cond.classLink own idx "[Ljava/lang/Object;" ∈ zc_W) (hdg : decode cc pc = .ok (.ldc idx, 2)) (kk : W p l e R s m args below meth c H locs cells slots Q (F0 m (pc + 2) ls (.ref (g.2.2.1.2 99 0) :: rest))) : W p l e R s m args below meth c H locs cells slots Q (F0 m pc ls rest) :=
  va_ldcM C.1 C.2.1 C.2.2.2.1 (C.2.2.2.2 _ hl) I.O.2.2.2.2.1 hdg kk
theorem zr_max {x y : Int32} (C : CallFix p m c cc nL s args zc_W own) (h1 : Cond.methodLink own idx Lib.Math.max.name ∈ zc_W) (h2 : Cond.static Lib.Math.max.name ∈ zc_W) (h3 : Cond.initialized "java/lang/Math" ∈ zc_W) (h4 : Cond.code Lib.Math.max.name Lib.Math.max.code 2 (some .int) ∈ zc_W) (hl : ls.size = nL) (hf : 1 ≤ R.frames) (hlo : (rest.map fun v => v.category).sum + 13 ≤ R.locals) (hc : cells ≤ R.cells) (hs : slots ≤ R.slots) (hdg : decode cc pc = .ok (.invokestatic idx, 3)) (kk : W p l e R s m args below meth c H locs cells slots Q (F0 m (pc + 3) ls (.int (if x < y then y else x) :: rest))) : W p l e R s m args below meth c H locs cells slots Q (F0 m pc ls (.int y :: .int x :: rest)) :=
  va_mmax C.1 C.2.1 (C.2.2.1.trans hl.symm) C.2.2.2.1 (C.2.2.2.2 _ h1) (C.2.2.2.2 _ h2) (C.2.2.2.2 _ h3) (C.2.2.2.2 _ h4) hf hlo hc hs hdg kk
theorem zr_min {x y : Int32} (C : CallFix p m c cc nL s args zc_W own) (h1 : Cond.methodLink own idx Lib.Math.min.name ∈ zc_W) (h2 : Cond.static Lib.Math.min.name ∈ zc_W) (h3 : Cond.initialized "java/lang/Math" ∈ zc_W) (h4 : Cond.code Lib.Math.min.name Lib.Math.min.code 2 (some .int) ∈ zc_W) (hl : ls.size = nL) (hf : 1 ≤ R.frames) (hlo : (rest.map fun v => v.category).sum + 13 ≤ R.locals) (hc : cells ≤ R.cells) (hs : slots ≤ R.slots) (hdg : decode cc pc = .ok (.invokestatic idx, 3)) (kk : W p l e R s m args below meth c H locs cells slots Q (F0 m (pc + 3) ls (.int (if y < x then y else x) :: rest))) : W p l e R s m args below meth c H locs cells slots Q (F0 m pc ls (.int y :: .int x :: rest)) :=
  va_mmin C.1 C.2.1 (C.2.2.1.trans hl.symm) C.2.2.2.1 (C.2.2.2.2 _ h1) (C.2.2.2.2 _ h2) (C.2.2.2.2 _ h3) (C.2.2.2.2 _ h4) hf hlo hc hs hdg kk
/-- System.arraycopy from the start of one Object[] to the start of another -/
theorem zr_copy {b n : Nat} (C : CallFix p m c cc nL s args zc_W own) (I : zh_V g A s X S H locs) (ha : zh_at S 8 a) (hb : zh_at S 8 b) (hn : n < 1000000) (h4 : n ≤ zh_N S a) (h5 : n ≤ zh_N S b) (hel : ∀ i : Nat, i < n → ∀ y : Nat, zh_Q S a i = some y → zh_at S 1 y ∨ zh_at S 2 y) (k1 : Cond.methodLink own idx arraycopyName ∈ zc_W) (k2 : Cond.native arraycopyName ∈ zc_W) (k3 : Cond.static arraycopyName ∈ zc_W) (k4 : Cond.initialized "java/lang/System" ∈ zc_W) (hl : ls.size = nL) (hf : 1 ≤ R.frames) (hlo : (rest.map fun v => v.category).sum + (nativeFrameWords "java/lang/System" "arraycopy" 5 + 11) ≤ R.locals) (hdg : decode cc pc = .ok (.invokestatic idx, 3))
    (kk : ∀ (H : Heap) (locs : List Loc), zh_V g A s X (zh_sQ S b (va_cpy (zh_Q S a) (zh_Q S b) 0 0 n)) H locs → W p l e R s m args below meth c H locs cells slots Q (F0 m (pc + 3) ls rest)) : W p l e R s m args below meth c H locs cells slots Q (F0 m pc ls (.int (nI n) :: .int 0 :: .ref b :: .int 0 :: .ref a :: rest)) := by
  obtain ⟨k, hk⟩ := zh_get (g := g) X ha
  obtain ⟨k2', hk2⟩ := zh_get (g := g) X hb
  have e0 : (0 : Int32).toNatClampNeg = 0 := by decide
  have en : (nI n).toNatClampNeg = n := nI_clamp (by omega)
  refine va_copyM C.1 C.2.1 (C.2.2.1.trans hl.symm) C.2.2.2.1 (C.2.2.2.2 _ k1) (C.2.2.2.2 _ k2) (C.2.2.2.2 _ k3) (C.2.2.2.2 _ k4) I.K I.P I.D I.S k k2' 2 2 (E0 := "java/lang/Object") (E1 := "java/lang/Object") hk hk2 rfl rfl (sp := 0) (dp := 0) (n := nI n) (by decide) (by decide) (nI_pos (by omega)) (by rw [e0, en]; omega) (by rw [e0, en]; omega) (fun i hi y hy => ?_) hf hlo hdg (fun H1 locs1 hP hD hS => kk H1 locs1 (I.to (zh_set I.D hb hk2 rfl rfl ?_ (fun b hb k => zh_e_sQ g S _ hb k)) hP hD hS))
  · rw [e0, Nat.zero_add] at hy
    rw [en] at hi
    rcases hel i hi y hy with h | h
    · obtain ⟨k9, hk9⟩ := zh_get (g := g) X h
      exact va_rAny I.K I.P hk9 rfl (fun comp c0 g1 g2 => by
        obtain ⟨c', t', f1, f2, f3⟩ := Cond.castable_spec (va_Nw.use (A := args) rfl (I.O.1 (.castable "DiceForge$Entry" "java/lang/Object") (by decide +kernel)))
        cases g1.symm.trans f2
        cases g2.symm.trans f1
        exact f3)
    · obtain ⟨k9, hk9⟩ := zh_get (g := g) X h
      exact va_rAny I.K I.P hk9 rfl (fun comp c0 g1 g2 => by
        obtain ⟨c', t', f1, f2, f3⟩ := Cond.castable_spec (va_Nw.use (A := args) rfl (I.O.1 (.castable "DiceForge$Promise" "java/lang/Object") (by decide +kernel)))
        cases g1.symm.trans f2
        cases g2.symm.trans f1
        exact f3)
  · show Sum.inl (g.2.2.2 2, zh_N S b, Sum.inr (Sum.inr (Sum.inr (Sum.inr (va_up (zh_Q S) b _ b))))) = _
    rw [va_up_self, e0, en]
end ZO
abbrev zrm (k c s : Nat) : Room := { frames := k, cells := c, slots := s, locals := 30 * k }
