/-! methods with an exception table: contracts, calls, handlers -/
def zMH (l : Launch) (y : MethodName) (b : ByteArray) (n : Nat) (ret : Option FieldType) (hh : List (Nat × Nat × Nat × Nat)) (rm : Room) (g : zG) (av : List Value) (S : zS) (Q : Option Value → zS → Prop) : Prop := ∀ sz : Nat, Met l y (Cond.codeWith y b n ret hh :: zc_W) rm (zh_Pc g av S sz) (zh_Po g (va_A (zh_w g S) sz) Q) rm.cells rm.slots (va_A (zh_w g S) sz)
theorem zMH_of {l : Launch} {y : MethodName} {cc : ByteArray} {maxL : Nat} {ret : Option FieldType} {hh : List (Nat × Nat × Nat × Nat)} {rm : Room} {g : zG} {S : zS} {Qp : Option Value → zS → Prop} {av : List Value} {nm : String} (hy : plainName y.cls = true) (hnm : y.name = nm) (hlen : (lg_sl av).length ≤ maxL)
    (body : ∀ (p : Program) (e : Env) (s : State) (m : MethodId) (args : Array Value) (below : List Frame) (meth : Method) (c : Code) (A : Nat → Prop) (ls : Array Slot), CallFix p m c cc maxL s args zc_W y.cls → meth.sig.returnType = ret → meth.locks = false → meth.name = nm → c.exceptionTable.toList = tableOf hh → zh_V g A s [] S s.heap [] → lv_has ls maxL (lv_args 0 av) →
      W p l e rm s m args below meth c s.heap [] 0 0 (MQ below (zh_Po g A Qp) args s rm.cells rm.slots A) (F0 m 0 ls [])) : zMH l y cc maxL ret hh rm g av S Qp := by
  intro sz
  refine MetFree.of_bodyS (code := cc) (maxLocals := maxL) (ret := ret) hy ?_ ?_
  · intro args s m h hn
    obtain ⟨m9, meth, c, hn9, h1, h2, h3, h4, -, h5, h6, -⟩ := Cond.codeWith_spec (atoms_spec (ws := Cond.codeWith y cc maxL ret hh :: zc_W) h _ List.mem_cons_self)
    cases hn.symm.trans hn9
    exact ⟨meth, c, h1, h2, h3, h4, h5, h6⟩
  · intro p e s m args below meth c s₁ B hml hv _
    have hh0 : s₁.heap = s.heap := by rw [B.state]; rfl
    obtain ⟨rfl, hsz, hK, hP, hD0, hN, hO⟩ := hv
    have hts := atoms_spec (ws := Cond.codeWith y cc maxL ret hh :: zc_W) B.pre
    have htab := vx_table (x := y) B (hts _ List.mem_cons_self)
    subst hsz
    have hl := lv_entry av (n := maxL) hlen
    have K : W p l e (headSpec (Cond.codeWith y cc maxL ret hh :: zc_W) rm).room s m av.toArray below meth c s.heap [] 0 0 (MQ below (zh_Po g (va_A (zh_w g S) s.heap.size) Qp) av.toArray s rm.cells rm.slots (va_A (zh_w g S) s.heap.size)) (entryFrame m av.toArray maxL) := by
      rw [lg_entry_eq]
      refine body p e s m _ below meth c (va_A (zh_w g S) s.heap.size) _ ⟨B.exec, B.bytes, hml, findClass_of_methodNamed B.named, fun w h => hts w (List.mem_cons_of_mem _ h)⟩ B.returns B.notSynchronized ((name_of_methodNamed B.named B.method).1.trans hnm) htab ⟨hK, hP, hD0.self, va_S.rf, fun q h => Or.inr h, fun q h => ?_, hN, hO⟩ hl
      rcases h with ⟨k, e, hk⟩ | h
      · exact hD0.2 k _ hk
      · exact Nat.le_trans hN h
    obtain ⟨t, a1, o, b1, b2, b3⟩ := K s₁ hh0 (Stand.of_body B)
    exact ⟨t, o, a1, b1, b2, ⟨b3.1, b3.2⟩⟩
section ZH
variable {p : Program} {l : Launch} {e : Env} {R : Room} {s : State} {m : MethodId} {args : Array Value} {below : List Frame} {meth : Method} {c : Code} {H : Heap} {locs : List Loc} {cells slots : Nat} {Q : State → Prop}
variable {g : zG} {A : Nat → Prop} {X : va_W} {S : zS} {cc bytes : ByteArray} {nL : Nat} {own : String} {pc : Nat} {ls : Array Slot} {rest st0 As : List Value} {rm : Room} {y : MethodName} {maxL index n : Nat} {ret : Option FieldType} {hh : List (Nat × Nat × Nat × Nat)} {Qp : Option Value → zS → Prop}
/-- invokestatic of such a method -/
theorem zc_SH (C : CallFix p m c cc nL s args zc_W own) (I : zh_V g A s X S H locs) (hM : zMH l y bytes maxL ret hh rm g As S Qp) (h1 : Cond.methodLink own index y ∈ zc_W) (h2 : Cond.static y ∈ zc_W) (h4 : Cond.initialized y.cls ∈ zc_W) (h5 : Cond.codeWith y bytes maxL ret hh ∈ zc_W) (hstack : st0 = As.reverse ++ rest) (hl : ls.size = nL) (hdg : decode cc pc = .ok (.invokestatic index, 3))
    (hd : y.cls ≠ "java/lang/invoke/MethodHandle" ∧ y.cls ≠ "java/lang/invoke/VarHandle" ∧ (parseMethodDescriptor y.desc).map (fun d => d.parameters.length) = some n) (hn : As.length = n) (hR : rm.frames + 1 ≤ R.frames ∧ 8 + (maxL + 11) + rm.locals ≤ R.locals) (hr8 : (rest.map fun v => v.category).sum ≤ 8) (hf : cells + rm.cells ≤ R.cells ∧ slots + rm.slots ≤ R.slots)
    (kk : ∀ (v : Option Value) (S' : zS) (H1 : Heap) (locs1 : List Loc), Qp v S' → zh_V g A s X S' H1 locs1 → W p l e R s m args below meth c H1 locs1 (cells + rm.cells) (slots + rm.slots) Q (F0 m (pc + 3) ls (v.toList ++ rest))) : W p l e R s m args below meth c H locs cells slots Q (F0 m pc ls st0) := by
  subst hstack
  exact zc_ret I (vx_runSW (As := As) (rest := rest) C (hM H.size) (vx_cwSW n C.2.2.2.2 (zgoodS h1 h2 h4 h5) rfl rfl rfl hd hR) (I.preS As) rfl hn hl rfl (lv_room hr8) hdg hf) kk
/-- a handler of the class itself catches; those before it in the table do not -/
theorem zr_catch {E : String} {ce : Cell} {q : Addr} (C : CallFix p m c cc nL s args zc_W own) (I : zh_V g A s X S H locs) (htab : c.exceptionTable.toList = tableOf hh) (pre : List ExceptionTableEntry) (x : ExceptionTableEntry) (suf : List ExceptionTableEntry) (hsplit : tableOf hh = pre ++ x :: suf) (hx : covers x pc = true) (h0 : x.catchType ≠ 0)
    (hpass : ∀ z ∈ pre, z.catchType ≠ 0 ∧ ∃ nm : String, Cond.classLink own z.catchType nm ∈ zc_W ∧ (E, nm) ∈ zn_ncs) (hlink : Cond.classLink own x.catchType E ∈ zc_W) (hcast : Cond.castable E E ∈ zn_ws) (hcell : H[q]? = some ce) (hv : ce.vm = .none) (hcl : s.vm.findClass E = some ce.cls)
    (kk : W p l e R s m args below meth c H locs cells slots Q (F0 m x.handlerPc ls [.ref q])) : vx_W p l e R s m args below meth c H locs cells slots Q (F0 m pc ls rest) q := by
  refine vx_catch C.2.2.2.1 pre x suf (htab.trans hsplit) (fun z hz => ?_) hx h0 (C.2.2.2.2 _ hlink) (va_Nw.use rfl (I.O.1 _ hcast)) hcell hv hcl kk
  obtain ⟨k1, nm, k2, k3⟩ := hpass z hz
  exact Or.inr ⟨k1, nm, C.2.2.2.2 _ k2, I.O.2.2.2.1 _ k3⟩
end ZH
