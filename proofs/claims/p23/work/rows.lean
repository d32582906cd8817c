section
-- ===== PART A: goes FIRST, ahead of the names: the tables' words, and 'selects' of the private methods out of them =====
/-- a private method of a class that the tables say can be made, by its rows of tables_1 -/
def lw_okq (q : MethodName × Nat) : Prop := (q.1.cls ≠ "java/lang/invoke/MethodHandle" ∧ q.1.cls ≠ "java/lang/invoke/VarHandle") ∧ Cond.instantiable q.1.cls q.2 ∈ tables_1 ∧ Cond.privateMethod q.1 ∈ tables_1 ∧ Cond.instanceMethod q.1 ∈ tables_1
theorem lw_p0 : lw_okq (⟨"java/lang/Throwable", "fillInStackTrace", "(I)Ljava/lang/Throwable;"⟩, 6) := ⟨⟨by decide +kernel, by decide +kernel⟩, List.mem_of_getElem? (i := 112) (by decide +kernel), List.mem_of_getElem? (i := 110) (by decide +kernel), List.mem_of_getElem? (i := 111) (by decide +kernel)⟩
theorem lw_p1 : lw_okq (⟨"java/util/ArrayList", "add", "(Ljava/lang/Object;[Ljava/lang/Object;I)V"⟩, 3) := ⟨⟨by decide +kernel, by decide +kernel⟩, List.mem_of_getElem? (i := 29) (by decide +kernel), List.mem_of_getElem? (i := 201) (by decide +kernel), List.mem_of_getElem? (i := 202) (by decide +kernel)⟩
theorem lw_p2 : lw_okq (⟨"java/util/ArrayList", "grow", "()[Ljava/lang/Object;"⟩, 3) := ⟨⟨by decide +kernel, by decide +kernel⟩, List.mem_of_getElem? (i := 29) (by decide +kernel), List.mem_of_getElem? (i := 205) (by decide +kernel), List.mem_of_getElem? (i := 206) (by decide +kernel)⟩
theorem lw_p3 : lw_okq (⟨"java/util/ArrayList", "grow", "(I)[Ljava/lang/Object;"⟩, 3) := ⟨⟨by decide +kernel, by decide +kernel⟩, List.mem_of_getElem? (i := 29) (by decide +kernel), List.mem_of_getElem? (i := 209) (by decide +kernel), List.mem_of_getElem? (i := 210) (by decide +kernel)⟩
theorem lw_p4 : lw_okq (⟨"DiceForge", "promiseAt", "(I)LDiceForge$Promise;"⟩, 4) := ⟨⟨by decide +kernel, by decide +kernel⟩, List.mem_of_getElem? (i := 21) (by decide +kernel), List.mem_of_getElem? (i := 294) (by decide +kernel), List.mem_of_getElem? (i := 295) (by decide +kernel)⟩
theorem lw_p5 : lw_okq (⟨"DiceForge$Draws", "nextValue", "(II)I"⟩, 2) := ⟨⟨by decide +kernel, by decide +kernel⟩, List.mem_of_getElem? (i := 168) (by decide +kernel), List.mem_of_getElem? (i := 361) (by decide +kernel), List.mem_of_getElem? (i := 362) (by decide +kernel)⟩
theorem lw_p6 : lw_okq (⟨"DiceForge$Draws", "draw", "(I)V"⟩, 2) := ⟨⟨by decide +kernel, by decide +kernel⟩, List.mem_of_getElem? (i := 168) (by decide +kernel), List.mem_of_getElem? (i := 366) (by decide +kernel), List.mem_of_getElem? (i := 367) (by decide +kernel)⟩
theorem lw_p7 : lw_okq (⟨"DiceForge", "lastSum", "()I"⟩, 4) := ⟨⟨by decide +kernel, by decide +kernel⟩, List.mem_of_getElem? (i := 21) (by decide +kernel), List.mem_of_getElem? (i := 370) (by decide +kernel), List.mem_of_getElem? (i := 371) (by decide +kernel)⟩
theorem lw_p8 : lw_okq (⟨"DiceForge$Entry", "sumAfter", "(I)I"⟩, 8) := ⟨⟨by decide +kernel, by decide +kernel⟩, List.mem_of_getElem? (i := 323) (by decide +kernel), List.mem_of_getElem? (i := 378) (by decide +kernel), List.mem_of_getElem? (i := 379) (by decide +kernel)⟩
theorem lw_p9 : lw_okq (⟨"DiceForge", "entryAt", "(I)LDiceForge$Entry;"⟩, 4) := ⟨⟨by decide +kernel, by decide +kernel⟩, List.mem_of_getElem? (i := 21) (by decide +kernel), List.mem_of_getElem? (i := 387) (by decide +kernel), List.mem_of_getElem? (i := 388) (by decide +kernel)⟩
theorem lw_p10 : lw_okq (⟨"DiceForge", "openedAt", "(I)LDiceForge$Promise;"⟩, 4) := ⟨⟨by decide +kernel, by decide +kernel⟩, List.mem_of_getElem? (i := 21) (by decide +kernel), List.mem_of_getElem? (i := 402) (by decide +kernel), List.mem_of_getElem? (i := 403) (by decide +kernel)⟩
theorem lw_p11 : lw_okq (⟨"DiceForge", "firstWrong", "(II)I"⟩, 4) := ⟨⟨by decide +kernel, by decide +kernel⟩, List.mem_of_getElem? (i := 21) (by decide +kernel), List.mem_of_getElem? (i := 412) (by decide +kernel), List.mem_of_getElem? (i := 413) (by decide +kernel)⟩
theorem lw_p12 : lw_okq (⟨"DiceForge", "strikeFrom", "(II)I"⟩, 4) := ⟨⟨by decide +kernel, by decide +kernel⟩, List.mem_of_getElem? (i := 21) (by decide +kernel), List.mem_of_getElem? (i := 421) (by decide +kernel), List.mem_of_getElem? (i := 422) (by decide +kernel)⟩
theorem lw_p13 : lw_okq (⟨"DiceForge", "tallyValues", "(I)I"⟩, 4) := ⟨⟨by decide +kernel, by decide +kernel⟩, List.mem_of_getElem? (i := 21) (by decide +kernel), List.mem_of_getElem? (i := 492) (by decide +kernel), List.mem_of_getElem? (i := 493) (by decide +kernel)⟩
theorem lw_p14 : lw_okq (⟨"DiceForge$Entry", "countsFor", "(I)Z"⟩, 8) := ⟨⟨by decide +kernel, by decide +kernel⟩, List.mem_of_getElem? (i := 323) (by decide +kernel), List.mem_of_getElem? (i := 499) (by decide +kernel), List.mem_of_getElem? (i := 500) (by decide +kernel)⟩
def lw_privs_1 : List (MethodName × Nat) := [(⟨"java/lang/Throwable", "fillInStackTrace", "(I)Ljava/lang/Throwable;"⟩, 6), (⟨"java/util/ArrayList", "add", "(Ljava/lang/Object;[Ljava/lang/Object;I)V"⟩, 3), (⟨"java/util/ArrayList", "grow", "()[Ljava/lang/Object;"⟩, 3), (⟨"java/util/ArrayList", "grow", "(I)[Ljava/lang/Object;"⟩, 3), (⟨"DiceForge", "promiseAt", "(I)LDiceForge$Promise;"⟩, 4), (⟨"DiceForge$Draws", "nextValue", "(II)I"⟩, 2), (⟨"DiceForge$Draws", "draw", "(I)V"⟩, 2), (⟨"DiceForge", "lastSum", "()I"⟩, 4), (⟨"DiceForge$Entry", "sumAfter", "(I)I"⟩, 8), (⟨"DiceForge", "entryAt", "(I)LDiceForge$Entry;"⟩, 4), (⟨"DiceForge", "openedAt", "(I)LDiceForge$Promise;"⟩, 4), (⟨"DiceForge", "firstWrong", "(II)I"⟩, 4), (⟨"DiceForge", "strikeFrom", "(II)I"⟩, 4), (⟨"DiceForge", "tallyValues", "(I)I"⟩, 4), (⟨"DiceForge$Entry", "countsFor", "(I)Z"⟩, 8)]
theorem lw_r1 : ∀ q ∈ lw_privs_1, lw_okq q := List.forall_mem_cons.mpr ⟨lw_p0, List.forall_mem_cons.mpr ⟨lw_p1, List.forall_mem_cons.mpr ⟨lw_p2, List.forall_mem_cons.mpr ⟨lw_p3, List.forall_mem_cons.mpr ⟨lw_p4, List.forall_mem_cons.mpr ⟨lw_p5, List.forall_mem_cons.mpr ⟨lw_p6, List.forall_mem_cons.mpr ⟨lw_p7, List.forall_mem_cons.mpr ⟨lw_p8, List.forall_mem_cons.mpr ⟨lw_p9, List.forall_mem_cons.mpr ⟨lw_p10, List.forall_mem_cons.mpr ⟨lw_p11, List.forall_mem_cons.mpr ⟨lw_p12, List.forall_mem_cons.mpr ⟨lw_p13, List.forall_mem_cons.mpr ⟨lw_p14, fun _ h => absurd h List.not_mem_nil⟩⟩⟩⟩⟩⟩⟩⟩⟩⟩⟩⟩⟩⟩⟩
def lw_privs : List (MethodName × Nat) := lw_privs_1
def lw_tbl : List Cond := k2_sels lw_privs ++ tables_1
theorem lw_privs_ok : ∀ q ∈ lw_privs, lw_okq q := lw_r1
end
section
/-! ===== BEGIN words of one list among another's, by their places ===== -/
theorem goodIn_r {big : List Cond} (ws : List Cond) (ps : List Nat) (hp : ws = ps.filterMap (fun i => big[i]?)) (h : ws.all goodWord = true) : GoodIn big ws := by
  intro w hw
  have h1 := List.all_eq_true.mp h w hw
  rw [hp] at hw
  obtain ⟨i, -, hi⟩ := List.mem_filterMap.mp hw
  have hm : w ∈ big := by first | exact List.mem_of_getElem? hi | exact List.getElem?_mem hi
  exact ⟨hm, good_of_word h1⟩
theorem goodIn_app {big a b : List Cond} (ha : GoodIn big a) (hb : GoodIn big b) : GoodIn big (a ++ b) := fun w h => (List.mem_append.mp h).elim (ha w) (hb w)
theorem goodIn_ca {big a b : List Cond} {c : Cond} (ha : GoodIn big (c :: a)) (hb : GoodIn big b) : GoodIn big (c :: (a ++ b)) := fun w h => (List.mem_cons.mp h).elim (fun e => ha w (List.mem_cons.mpr (Or.inl e))) (fun h => (List.mem_append.mp h).elim (fun h => ha w (List.mem_cons.mpr (Or.inr h))) (hb w))
theorem goodIn_sub {big ws : List Cond} (hm : ∀ w ∈ ws, w ∈ big) (h : ws.all goodWord = true) : GoodIn big ws := fun w hw => ⟨hm w hw, good_of_word (List.all_eq_true.mp h w hw)⟩
/-! ===== END ===== -/

/-! ===== BEGIN exceptions that leave a method, and their catching by the caller (launches without stack traces) ===== -/
section VXA
/-! The laws vx_back, vx_callV, vx_callS, vx_callSW, vx_throw0, vx_throwS follow proofs of the library, with one case more: JvmDerived/Free/Laws.lean (Back.of_free), Shelf42/LK1.lean (callV, callS), Shelf/KitTraced.lean (throwNew0V, throwNewS). -/
/-- where a method has thrown q: the class by its name, the cell, what was written, the world -/
def vx_T (XC : String → State → State → Prop) (st : State) (q : Addr) (t : State) (mc ms : Nat) (free : Addr → Prop) : Prop :=
  ∃ (E : String) (ce : Cell) (L : List Loc), XC E st t ∧ t.heap[q]? = some ce ∧ ce.vm = .none ∧ st.vm.findClass E = some ce.cls ∧ st.WarmedH t.vm ∧ st.sameButNew ({ t with vm := st.vm } : State) L mc ms ∧ ∀ z ∈ L, free z.base
def vx_Q (Qc : Array Value → State → Outcome → State → Prop) (XC : String → State → State → Prop) (mc ms : Nat) (free : Addr → Prop) : Array Value → State → Outcome → State → Prop := fun a st o t =>
  (Qc a st o t ∧ ∃ L, FrameEnd st o t L mc ms ∧ ∀ q ∈ L, free q.base) ∨ ∃ q, o = .threw q ∧ vx_T XC st q t mc ms free
/-- a callee that returns or throws -/
def vx_Met (l : Launch) (y : MethodName) (ws : List Cond) (rm : Room) (Pc : Array Value → State → Prop) (Qc : Array Value → State → Outcome → State → Prop) (XC : String → State → State → Prop) (mc ms : Nat) (free : Addr → Prop) : Prop :=
  MetFree l y (headSpec ws rm) Pc (fun _ _ _ _ _ => True) (vx_Q Qc XC mc ms free)
def vx_Post (XC : String → State → State → Prop) (mc ms : Nat) (free : Addr → Prop) : Pt → Array Value → Addr → Pt → Prop := fun A a q B =>
  ∃ (g : JFrame) (mk : MethodId) (t : State) (L : List Loc) (E : String) (ce : Cell), B.U.heap = t.heap ∧ B.U.vm = t.vm ∧ XC E (A.U.calling g mk a) t ∧ t.heap[q]? = some ce ∧ ce.vm = .none ∧ A.U.vm.findClass E = some ce.cls ∧ B.locs = A.locs ++ L ∧ (∀ z ∈ L, free z.base) ∧ B.cells = A.cells + mc ∧ B.slots = A.slots + ms
def vx_Back (l : Launch) (R : Room) (p : Program) (e : Env) (below : List Frame) (s : State) (sargs : Array Value) (y : MethodName) (len W9 : Nat)
    (Pre : Pt → Array Value → Prop) (Post : Pt → Array Value → Option Value → Pt → Prop) (PostX : Pt → Array Value → Addr → Pt → Prop) : Prop :=
  ∀ (m : MethodId) (meth : Method) (c : Code) (A : Pt) (g : JFrame) (ig : Instr) (mk : MethodId) (a : Array Value),
    Stand p l e R s m sargs below meth c A.U A.locs A.cells A.slots → g.method = m → g.locals.size = c.maxLocals → decode c.code g.pc = .ok (ig, len) →
    2 * g.monitorRoom + (g.stack.map fun v => v.category).sum ≤ W9 → A.U.methodNamed? y = some mk → Pre A a →
    (∃ (v : Option Value) (B : Pt), Stand p l e R s m sargs below meth c B.U B.locs B.cells B.slots ∧ Post A a v B ∧
      Steps p.tables e below (doInvoke e (A.U.setTop g) [] mk a).1 (B.U.setTop { g with pc := g.pc + len, stack := v.toList ++ g.stack })) ∨
    (∃ (q : Addr) (B : Pt), Stand p l e R s m sargs below meth c B.U B.locs B.cells B.slots ∧ PostX A a q B ∧
      Steps p.tables e below (doInvoke e (A.U.setTop g) [] mk a).1 ((B.U.setTop g).pushFrame (.throwing q)))
section Payer
variable {l : Launch} {R : Room} {p : Program} {e : Env} {below : List Frame} {s : State} {sargs : Array Value} {y : MethodName} {len W9 : Nat}
theorem vx_back {ws : List Cond} {rm : Room} {Pc : Array Value → State → Prop} {Qc : Array Value → State → Outcome → State → Prop} {XC : String → State → State → Prop} {mc ms : Nat} {free : Addr → Prop} {bytes : ByteArray} {maxL : Nat} {ret : Option FieldType}
    (hM : vx_Met l y ws rm Pc Qc XC mc ms free) (hblind : FrameBlind Pc) (hrc : rm.cells = mc) (hrs : rm.slots = ms)
    (hframes : rm.frames + 1 ≤ R.frames) (hlocals : W9 + (maxL + 11) + rm.locals ≤ R.locals)
    (hws : ∀ w ∈ ws, ∀ a' U, s.WarmedH U.vm → w.before a' U = true) (hcode : Cond.code y bytes maxL ret ∈ ws) (hinit : ∀ a' U, s.WarmedH U.vm → (Cond.initialized y.cls).before a' U = true) :
    vx_Back l R p e below s sargs y len W9 (PreOf R mc ms Pc) (PostOf Qc mc ms free) (vx_Post XC mc ms free) := by
  intro m meth c A g ig mk a X hg hsize hdg hW hn hp
  have h1 : (headSpec ws rm).pre.before a A.U = true := atoms_intro fun w hw => hws w hw _ _ X.warmed
  have h2 : (Cond.code y bytes maxL ret).before a A.U = true := hws _ hcode _ _ X.warmed
  have h3 : (Cond.initialized y.cls).before a A.U = true := hinit _ _ X.warmed
  have h4 : A.cells + (headSpec ws rm).room.cells ≤ R.cells := by rw [show (headSpec ws rm).room.cells = mc from hrc]; exact hp.1
  have h5 : A.slots + (headSpec ws rm).room.slots ≤ R.slots := by rw [show (headSpec ws rm).room.slots = ms from hrs]; exact hp.2.1
  have hPc : Pc a (A.U.calling g mk a) := hblind _ _ _ _ hp.2.2
  obtain ⟨U, Ls, c0, s0⟩ := A
  dsimp only [Pt.U, Pt.locs, Pt.cells, Pt.slots] at h1 h2 h3 h4 h5 X hn hPc ⊢
  obtain ⟨methY, cY, hmY, hcY, -, hlY, -, -, -, -⟩ := Cond.code_spec hn h2
  obtain ⟨kY, hkY, -⟩ := className_of_methodNamed hn
  have hinitY : kY.init = .initialized := Cond.initialized_spec (findClass_of_methodNamed hn) hkY h3
  have h : At U g.method c below := by rw [hg]; exact X.here
  have hlocals9 : W9 + (maxL + 11) + (headSpec ws rm).room.locals ≤ R.locals := hlocals
  have happ : (headSpec ws rm).appliesLoose y e.platform (U.calling g mk a) = true :=
    Spec.appliesLoose_calling (g := g) h hdg hn hkY hinitY
      (X.room_calling (g := g) (R' := (headSpec ws rm).room) hsize hmY hcY hframes (by rw [hlY]; omega) h4 h5) h1
  obtain ⟨mid, hmid⟩ := h.above
  have hfr : (U.setTop g).frames = (.java g :: mid) ++ below := by rw [State.frames_setTop' g h.top, hmid]; rfl
  obtain ⟨o, s₂, hsteps, -, hend, hq⟩ := Steps.callFree hM p X.admits X.cas X.clock (acts := []) hfr happ hPc trivial
  have hq' : vx_Q Qc XC mc ms free a (U.calling g mk a) o s₂ := hq
  rw [State.frames_setTop' g h.top] at hend
  obtain ⟨g₀, hg0⟩ := Option.isSome_iff_exists.mp h.top
  obtain ⟨r, hr⟩ := State.topJava?_eq_some.mp hg0
  have hr' : (({ U with heap := s₂.heap, slotsUsed := s₂.slotsUsed } : State).setVm s₂.vm).frames = .java g₀ :: r := hr
  rcases hq' with ⟨hqc, L, hfe, hL⟩ | ⟨q, rfl, E, ce, L, hx, hce, hcv, hcl, hW₂, hsm, hL⟩
  · obtain ⟨⟨v, rfl⟩, hW₂, e2, q2, q3, q4, q5, q6⟩ := id hfe
    have e3 : s₂ = ({ (U.calling g mk a).setFrames s₂.frames with heap := s₂.heap, slotsUsed := s₂.slotsUsed } : State).setVm s₂.vm := by
      have : s₂ = ({ s₂ with vm := (U.calling g mk a).vm } : State).setVm s₂.vm := rfl
      rw [e2] at this
      exact this
    obtain ⟨c₂, i₂, len₂, hc₂, hd₂, hf₂⟩ := hend
    have hW' : U.WarmedH s₂.vm := hW₂
    have hcc : c₂ = c := by
      have h1 : s₂.code? g.method = U.code? g.method := by
        rw [State.code?_eq, State.code?_eq, hW'.alike.method?]
      exact Option.some.inj (hc₂.symm.trans (h1.trans h.code))
    subst hcc
    have hlen : len₂ = len := by rw [hdg] at hd₂; cases hd₂; rfl
    subst hlen
    have hs₂ : s₂ = (({ U with heap := s₂.heap, slotsUsed := s₂.slotsUsed } : State).setVm s₂.vm).setTop { g with pc := g.pc + len₂, stack := v.toList ++ g.stack } := by
      refine e3.trans ?_
      rw [hf₂, State.calling_eq h.top, State.setFrames_setFrames, State.setTop_of_frames _ hr', hr]
      rfl
    have hsame : U.sameButNew ({ U with heap := s₂.heap, slotsUsed := s₂.slotsUsed } : State) L mc ms := by
      refine ⟨?_, q2, q3, q4, q5, q6⟩
      obtain ⟨t, ht, -⟩ := State.frames_cons hr
      show ({ U with heap := s₂.heap, slotsUsed := s₂.slotsUsed } : State) = { U.setFrames U.frames with heap := s₂.heap, slotsUsed := s₂.slotsUsed }
      rw [State.setFrames_self ht]
    subst hg
    refine Or.inl ⟨v, ⟨(({ U with heap := s₂.heap, slotsUsed := s₂.slotsUsed } : State).setVm s₂.vm), Ls ++ L, c0 + mc, s0 + ms⟩,
      ⟨X.admits, X.cas, X.clock, X.frames, X.room, X.hears, X.method, X.code, (X.here.setHeapUsed s₂.heap s₂.slotsUsed).setVm hW'.alike, X.tail, State.WarmedH.trans X.warmed hW', X.limits, X.bytes, X.same.trans (hsame.setVm s.vm)⟩,
      ⟨g, mk, s₂, L, rfl, rfl, hqc, rfl, hL, rfl, rfl⟩, ?_⟩
    show Steps p.tables e below _ ((({ U with heap := s₂.heap, slotsUsed := s₂.slotsUsed } : State).setVm s₂.vm).setTop { g with pc := g.pc + len₂, stack := v.toList ++ g.stack })
    rw [← hs₂]
    exact hsteps
  · obtain ⟨e2, q2, q3, q4, q5, q6⟩ := id hsm
    have e3 : s₂ = ({ (U.calling g mk a).setFrames s₂.frames with heap := s₂.heap, slotsUsed := s₂.slotsUsed } : State).setVm s₂.vm := by
      have : s₂ = ({ s₂ with vm := (U.calling g mk a).vm } : State).setVm s₂.vm := rfl
      rw [e2] at this
      exact this
    have hf₂ : s₂.frames = .throwing q :: .java g :: U.frames.tail := hend
    have hW' : U.WarmedH s₂.vm := hW₂
    have hs₂ : s₂ = ((({ U with heap := s₂.heap, slotsUsed := s₂.slotsUsed } : State).setVm s₂.vm).setTop g).pushFrame (.throwing q) := by
      refine e3.trans ?_
      rw [hf₂, State.calling_eq h.top, State.setFrames_setFrames, State.pushFrame, State.frames_setTop _ hr', State.setTop_of_frames _ hr', State.setFrames_setFrames, hr]
      rfl
    have hsame : U.sameButNew ({ U with heap := s₂.heap, slotsUsed := s₂.slotsUsed } : State) L mc ms := by
      refine ⟨?_, q2, q3, q4, q5, q6⟩
      obtain ⟨t, ht, -⟩ := State.frames_cons hr
      show ({ U with heap := s₂.heap, slotsUsed := s₂.slotsUsed } : State) = { U.setFrames U.frames with heap := s₂.heap, slotsUsed := s₂.slotsUsed }
      rw [State.setFrames_self ht]
    subst hg
    refine Or.inr ⟨q, ⟨(({ U with heap := s₂.heap, slotsUsed := s₂.slotsUsed } : State).setVm s₂.vm), Ls ++ L, c0 + mc, s0 + ms⟩,
      ⟨X.admits, X.cas, X.clock, X.frames, X.room, X.hears, X.method, X.code, (X.here.setHeapUsed s₂.heap s₂.slotsUsed).setVm hW'.alike, X.tail, State.WarmedH.trans X.warmed hW', X.limits, X.bytes, X.same.trans (hsame.setVm s.vm)⟩,
      ⟨g, mk, s₂, L, E, ce, rfl, rfl, hx, hce, hcv, hcl, rfl, hL, rfl, rfl⟩, ?_⟩
    show Steps p.tables e below _ (((({ U with heap := s₂.heap, slotsUsed := s₂.slotsUsed } : State).setVm s₂.vm).setTop g).pushFrame (.throwing q))
    rw [← hs₂]
    exact hsteps
end Payer
section Calls
variable {p : Program} {l : Launch} {e : Env} {R : Room} {s : State} {m : MethodId} {args : Array Value} {below : List Frame} {meth : Method} {c : Code} {T : State} {locs : List Loc} {cells slots : Nat}
theorem vx_callV (X : Stand p l e R s m args below meth c T locs cells slots) (hexec : p.tables.exec = Jvm.exec) {own C : String} {index : Nat} {y : MethodName} {bytes : ByteArray} {maxL : Nat} {ret : Option FieldType}
    (hown : s.vm.findClass own = some m.cls) (hlink : (Cond.methodLink own index y).before args s = true) (hinst : (Cond.instanceMethod y).before args s = true) (hsel : (Cond.selects C y y).before args s = true)
    (hcode : (Cond.code y bytes maxL ret).before args s = true) (hy : y.cls ≠ "java/lang/invoke/MethodHandle" ∧ y.cls ≠ "java/lang/invoke/VarHandle")
    {W9 : Nat} {Pre : Pt → Array Value → Prop} {Post : Pt → Array Value → Option Value → Pt → Prop} {PostX : Pt → Array Value → Addr → Pt → Prop} (hK : vx_Back l R p e below s args y 3 W9 Pre Post PostX)
    {b : Addr} {cellB : Cell} (hcell : T.heap[b]? = some cellB) (hobj : cellB.vm.isStatics = false) (hcls : s.vm.findClass C = some cellB.cls)
    {g : JFrame} (hg : g.method = m) (hsize : g.locals.size = c.maxLocals) {argsL rest : List Value} (hlen : ∀ sig, parseMethodDescriptor y.desc = some sig → argsL.length = sig.parameters.length)
    (hstack : g.stack = argsL.reverse ++ .ref b :: rest) (hW : 2 * g.monitorRoom + (rest.map fun v => v.category).sum ≤ W9) (hdg : decode c.code g.pc = .ok (.invokevirtual index, 3))
    (hpre : ∀ vm₁, s.WarmedH vm₁ → Pre ⟨T.setVm vm₁, locs, cells, slots⟩ (Value.ref b :: argsL).toArray) :
    (∃ (v : Option Value) (vm₁ : Vm) (B : Pt), s.WarmedH vm₁ ∧ Stand p l e R s m args below meth c B.U B.locs B.cells B.slots ∧ Post ⟨T.setVm vm₁, locs, cells, slots⟩ (Value.ref b :: argsL).toArray v B ∧
      ∀ target, Steps p.tables e below (B.U.setTop { g with pc := g.pc + 3, stack := v.toList ++ rest }) target → Steps p.tables e below (T.setTop g) target) ∨
    (∃ (q : Addr) (vm₁ : Vm) (B : Pt), s.WarmedH vm₁ ∧ Stand p l e R s m args below meth c B.U B.locs B.cells B.slots ∧ PostX ⟨T.setVm vm₁, locs, cells, slots⟩ (Value.ref b :: argsL).toArray q B ∧
      Steps p.tables e below (T.setTop g) ((B.U.setTop { g with stack := rest }).pushFrame (.throwing q))) := by
  obtain ⟨mk, methM, hnamed, hmethM, hstM, habM⟩ := Cond.instanceMethod_spec hinst
  obtain ⟨methM', cM, hmethM', -, -, -, -, -, -, hsigM⟩ := Cond.code_spec hnamed hcode
  cases hmethM.symm.trans hmethM'
  obtain ⟨c2, r2, m2, q1, q2, q3, q4, kP, hkP, hkPi⟩ := Cond.selects_spec hsel
  cases hcls.symm.trans q1
  cases (State.methodFound?_of_named hnamed hy).symm.trans q2
  cases hnamed.symm.trans q3
  have hselP : selectMethod e.platform s.vm cellB.cls mk = .method mk := by rw [Launch.admits_selectMethod X.admits]; exact q4
  obtain ⟨vm₁, X₁, hstep₁⟩ := X.invokevirtual hexec hown hlink hnamed hmethM hstM hkP hkPi hy (a := b) (cell := cellB) hcell
    (fun z h => by rw [h] at hobj; cases hobj) hselP hmethM habM hkP hkPi (g := g) hg (argsL := argsL) (rest := rest) (hlen _ hsigM) hstack hdg
  rcases hK m meth c ⟨T.setVm vm₁, locs, cells, slots⟩ { g with stack := rest } (.invokevirtual index) mk (Value.ref b :: argsL).toArray X₁ hg hsize hdg hW (X₁.named hnamed) (hpre vm₁ X₁.warmed) with ⟨v, B, X', hpost, hsteps⟩ | ⟨q, B, X', hpost, hsteps⟩
  · exact Or.inl ⟨v, vm₁, B, X₁.warmed, X', hpost, fun target h => hstep₁ _ fun acts => by rw [doInvoke_state]; exact hsteps.trans h⟩
  · exact Or.inr ⟨q, vm₁, B, X₁.warmed, X', hpost, hstep₁ _ fun acts => by rw [doInvoke_state]; exact hsteps⟩
theorem vx_callS (X : Stand p l e R s m args below meth c T locs cells slots) (hexec : p.tables.exec = Jvm.exec) {own : String} {index : Nat} {y : MethodName} {bytes : ByteArray} {maxL : Nat} {ret : Option FieldType}
    (hown : s.vm.findClass own = some m.cls) (hlink : (Cond.methodLink own index y).before args s = true) (hstat : (Cond.static y).before args s = true) (hinit : (Cond.initialized y.cls).before args s = true)
    (hcode : (Cond.code y bytes maxL ret).before args s = true) (hy : y.cls ≠ "java/lang/invoke/MethodHandle" ∧ y.cls ≠ "java/lang/invoke/VarHandle")
    {W9 : Nat} {Pre : Pt → Array Value → Prop} {Post : Pt → Array Value → Option Value → Pt → Prop} {PostX : Pt → Array Value → Addr → Pt → Prop} (hK : vx_Back l R p e below s args y 3 W9 Pre Post PostX)
    {g : JFrame} (hg : g.method = m) (hsize : g.locals.size = c.maxLocals) {argsL rest : List Value} (hlen : ∀ sig, parseMethodDescriptor y.desc = some sig → argsL.length = sig.parameters.length)
    (hstack : g.stack = argsL.reverse ++ rest) (hW : 2 * g.monitorRoom + (rest.map fun v => v.category).sum ≤ W9) (hdg : decode c.code g.pc = .ok (.invokestatic index, 3))
    (hpre : ∀ vm₁, s.WarmedH vm₁ → Pre ⟨T.setVm vm₁, locs, cells, slots⟩ argsL.toArray) :
    (∃ (v : Option Value) (vm₁ : Vm) (B : Pt), s.WarmedH vm₁ ∧ Stand p l e R s m args below meth c B.U B.locs B.cells B.slots ∧ Post ⟨T.setVm vm₁, locs, cells, slots⟩ argsL.toArray v B ∧
      ∀ target, Steps p.tables e below (B.U.setTop { g with pc := g.pc + 3, stack := v.toList ++ rest }) target → Steps p.tables e below (T.setTop g) target) ∨
    (∃ (q : Addr) (vm₁ : Vm) (B : Pt), s.WarmedH vm₁ ∧ Stand p l e R s m args below meth c B.U B.locs B.cells B.slots ∧ PostX ⟨T.setVm vm₁, locs, cells, slots⟩ argsL.toArray q B ∧
      Steps p.tables e below (T.setTop g) ((B.U.setTop { g with stack := rest }).pushFrame (.throwing q))) := by
  obtain ⟨mk, hnamed⟩ := Cond.code_named hcode
  obtain ⟨methM, cM, hmethM, -, -, -, -, -, -, hsigM⟩ := Cond.code_spec hnamed hcode
  have hstatic : methM.isStatic = true := Cond.static_spec hnamed hmethM hstat
  obtain ⟨kP, hkP, -⟩ := className_of_methodNamed hnamed
  have hinitP : kP.init = .initialized := Cond.initialized_spec (findClass_of_methodNamed hnamed) hkP hinit
  obtain ⟨vm₁, X₁, hstep₁⟩ := X.invokestatic hexec hown hlink hnamed hmethM hstatic hkP hinitP hy (g := g) hg (argsL := argsL) (rest := rest) (hlen _ hsigM) hstack hdg
  rcases hK m meth c ⟨T.setVm vm₁, locs, cells, slots⟩ { g with stack := rest } (.invokestatic index) mk argsL.toArray X₁ hg hsize hdg hW (X₁.named hnamed) (hpre vm₁ X₁.warmed) with ⟨v, B, X', hpost, hsteps⟩ | ⟨q, B, X', hpost, hsteps⟩
  · exact Or.inl ⟨v, vm₁, B, X₁.warmed, X', hpost, fun target h => hstep₁ _ fun acts => by rw [doInvoke_state]; exact hsteps.trans h⟩
  · exact Or.inr ⟨q, vm₁, B, X₁.warmed, X', hpost, hstep₁ _ fun acts => by rw [doInvoke_state]; exact hsteps⟩
end Calls
theorem vx_cls {s : State} {T : State} {vm₁ : Vm} {E : String} {k : ClassId} (hW : s.WarmedH vm₁) (h : (T.setVm vm₁).vm.findClass E = some k) : s.vm.findClass E = some k := by
  have h1 : vm₁.findClass E = some k := h
  rw [hW.alike.findClass] at h1
  exact h1
/-- the method's frame g, with q thrown over it -/
def vx_W (p : Program) (l : Launch) (e : Env) (R : Room) (s : State) (m : MethodId) (args : Array Value) (below : List Frame) (meth : Method) (c : Code) (H : Heap) (locs : List Loc) (cells slots : Nat) (Q : State → Prop) (g : JFrame) (q : Addr) : Prop :=
  ∀ T : State, T.heap = H → Stand p l e R s m args below meth c T locs cells slots → ∃ t, Steps p.tables e below ((T.setTop g).pushFrame (.throwing q)) t ∧ Q t
def vx_Run (p : Program) (l : Launch) (e : Env) (R : Room) (s : State) (m : MethodId) (args : Array Value) (below : List Frame) (meth : Method) (c : Code) (H : Heap) (locs : List Loc) (cells slots mc ms : Nat) (g : JFrame) (rest : List Value) (Qa : State → Outcome → State → Prop) (XC : String → State → State → Prop) (free : Addr → Prop) : Prop :=
  ∀ T : State, T.heap = H → Stand p l e R s m args below meth c T locs cells slots →
    (∃ (v : Option Value) (st₀ t T' : State) (L : List Loc), st₀.heap = H ∧ Stand p l e R s m args below meth c T' (locs ++ L) (cells + mc) (slots + ms) ∧ (∀ q ∈ L, free q.base) ∧ T'.heap = t.heap ∧ T'.vm = t.vm ∧ Qa st₀ (.returned v) t ∧
      Goes p e below T g T' { g with pc := g.pc + 3, stack := v.toList ++ rest }) ∨
    (∃ (q : Addr) (st₀ t T' : State) (L : List Loc) (E : String) (ce : Cell), st₀.heap = H ∧ Stand p l e R s m args below meth c T' (locs ++ L) (cells + mc) (slots + ms) ∧ (∀ z ∈ L, free z.base) ∧ T'.heap = t.heap ∧ T'.vm = t.vm ∧ XC E st₀ t ∧ t.heap[q]? = some ce ∧ ce.vm = .none ∧ s.vm.findClass E = some ce.cls ∧
      Steps p.tables e below (T.setTop g) ((T'.setTop { g with stack := rest }).pushFrame (.throwing q)))
def vx_X {S : Type} (px : S → Prop) (B : String → S → State → Prop) (A : Nat → Prop) : String → State → State → Prop := fun E st t => ∃ u : S, px u ∧ B E u t ∧ va_F A st t
section Runs
variable {p : Program} {l : Launch} {e : Env} {R : Room} {s : State} {m : MethodId} {args : Array Value} {below : List Frame} {meth : Method} {c : Code} {H : Heap} {locs : List Loc} {cells slots : Nat}
variable {y : MethodName} {bytes cc : ByteArray} {maxL nL mc ms n index : Nat} {ret : Option FieldType} {ws : List Cond} {rm : Room} {Pc : Array Value → State → Prop} {Qc : Array Value → State → Outcome → State → Prop} {XC : String → State → State → Prop} {free : Addr → Prop} {Ts : List Cond} {own C : String} {b : Addr} {As rest : List Value} {g : JFrame}
theorem vx_callBack (cb : CallB R s args own index y bytes maxL ret ws rm mc ms n) (hM : vx_Met l y ws rm Pc Qc XC mc ms free) (hbl : FrameBlind Pc) : vx_Back l R p e below s args y 3 8 (PreOf R mc ms Pc) (PostOf Qc mc ms free) (vx_Post XC mc ms free) := by
  obtain ⟨hrc, hrs, hfr, hlo, hws, hcw, -, hini, -⟩ := cb
  exact vx_back (bytes := bytes) (maxL := maxL) (ret := ret) hM hbl hrc hrs hfr hlo hws hcw (fun a' U hW => word_at hW (Or.inl (by first | rfl | simp [Cond.onTables, Cond.keeps, Cond.steady])) hini)
theorem vx_runV (S : CallFix p m c cc nL s args Ts own) (hM : vx_Met l y ws rm Pc Qc XC mc ms free) (cw : CallW R s args own C index y bytes maxL ret ws rm mc ms n) (hp : PreV s H C b Pc As)
    (hg : g.method = m) (hn : As.length = n) (hsize : g.locals.size = nL) (hstack : g.stack = As.reverse ++ .ref b :: rest) (hW : 2 * g.monitorRoom + (rest.map fun v => v.category).sum ≤ 8) (hdg : decode cc g.pc = .ok (.invokevirtual index, 3)) (hf : cells + mc ≤ R.cells ∧ slots + ms ≤ R.slots) :
    vx_Run p l e R s m args below meth c H locs cells slots mc ms g rest (Qc (Value.ref b :: As).toArray) XC free := by
  have hK : vx_Back l R p e below s args y 3 8 (PreOf R mc ms Pc) (PostOf Qc mc ms free) (vx_Post XC mc ms free) := vx_callBack cw.1 hM hp.1
  obtain ⟨⟨-, -, -, -, -, -, hcode, -, hy, hlen, hl⟩, hin, hse⟩ := cw
  obtain ⟨hx, hb, hml, ho, -⟩ := S
  obtain ⟨-, ⟨cellB, hcB, hoB, hclB⟩, hPc⟩ := hp
  intro T hT X
  rcases vx_callV X hx (C := C) (bytes := bytes) (maxL := maxL) (ret := ret) ho hl hin hse hcode hy hK (by rw [hT]; exact hcB) hoB hclB hg (hsize.trans hml.symm) (argsL := As) (rest := rest) (fun sig h => hn.trans (hlen sig h)) hstack hW (by rw [hb]; exact hdg)
    (fun vm₁ hW₁ => ⟨hf.1, hf.2, hPc (T.setVm vm₁) hT hW₁⟩) with ⟨v, vm₁, ⟨U', l2, c2, s2⟩, hW₁, X', ⟨g', mk, t, L, e1, e2, hq, h1, hL, h2, h3⟩, st⟩ | ⟨q, vm₁, ⟨U', l2, c2, s2⟩, hW₁, X', ⟨g', mk, t, L, E, ce, e1, e2, hq, hce, hcv, hcl, h1, hL, h2, h3⟩, st⟩
  · dsimp only [Pt.U, Pt.locs, Pt.cells, Pt.slots] at X' e1 e2 h1 h2 h3 st
    subst h1; subst h2; subst h3
    exact Or.inl ⟨v, (T.setVm vm₁).calling g' mk (Value.ref b :: As).toArray, t, U', L, hT, X', hL, e1, e2, hq, st⟩
  · dsimp only [Pt.U, Pt.locs, Pt.cells, Pt.slots] at X' e1 e2 h1 h2 h3 st hcl
    subst h1; subst h2; subst h3
    exact Or.inr ⟨q, (T.setVm vm₁).calling g' mk (Value.ref b :: As).toArray, t, U', L, E, ce, hT, X', hL, e1, e2, hq, hce, hcv, vx_cls hW₁ hcl, st⟩
theorem vx_runS (S : CallFix p m c cc nL s args Ts own) (hM : vx_Met l y ws rm Pc Qc XC mc ms free) (cw : CallB R s args own index y bytes maxL ret ws rm mc ms n ∧ (Cond.static y).before args s = true) (hp : PreS s H Pc As)
    (hg : g.method = m) (hn : As.length = n) (hsize : g.locals.size = nL) (hstack : g.stack = As.reverse ++ rest) (hW : 2 * g.monitorRoom + (rest.map fun v => v.category).sum ≤ 8) (hdg : decode cc g.pc = .ok (.invokestatic index, 3)) (hf : cells + mc ≤ R.cells ∧ slots + ms ≤ R.slots) :
    vx_Run p l e R s m args below meth c H locs cells slots mc ms g rest (Qc As.toArray) XC free := by
  have hK : vx_Back l R p e below s args y 3 8 (PreOf R mc ms Pc) (PostOf Qc mc ms free) (vx_Post XC mc ms free) := vx_callBack cw.1 hM hp.1
  obtain ⟨⟨-, -, -, -, -, -, hcode, hini, hy, hlen, hl⟩, hstt⟩ := cw
  obtain ⟨hx, hb, hml, ho, -⟩ := S
  intro T hT X
  rcases vx_callS X hx (bytes := bytes) (maxL := maxL) (ret := ret) ho hl hstt hini hcode hy hK hg (hsize.trans hml.symm) (argsL := As) (rest := rest) (fun sig h => hn.trans (hlen sig h)) hstack hW (by rw [hb]; exact hdg)
    (fun vm₁ hW₁ => ⟨hf.1, hf.2, hp.2 (T.setVm vm₁) hT hW₁⟩) with ⟨v, vm₁, ⟨U', l2, c2, s2⟩, hW₁, X', ⟨g', mk, t, L, e1, e2, hq, h1, hL, h2, h3⟩, st⟩ | ⟨q, vm₁, ⟨U', l2, c2, s2⟩, hW₁, X', ⟨g', mk, t, L, E, ce, e1, e2, hq, hce, hcv, hcl, h1, hL, h2, h3⟩, st⟩
  · dsimp only [Pt.U, Pt.locs, Pt.cells, Pt.slots] at X' e1 e2 h1 h2 h3 st
    subst h1; subst h2; subst h3
    exact Or.inl ⟨v, (T.setVm vm₁).calling g' mk As.toArray, t, U', L, hT, X', hL, e1, e2, hq, st⟩
  · dsimp only [Pt.U, Pt.locs, Pt.cells, Pt.slots] at X' e1 e2 h1 h2 h3 st hcl
    subst h1; subst h2; subst h3
    exact Or.inr ⟨q, (T.setVm vm₁).calling g' mk As.toArray, t, U', L, E, ce, hT, X', hL, e1, e2, hq, hce, hcv, vx_cls hW₁ hcl, st⟩
end Runs
section Rows
variable {p : Program} {l : Launch} {e : Env} {R : Room} {s : State} {m : MethodId} {args : Array Value} {below : List Frame} {meth : Method} {c : Code} {H : Heap} {locs : List Loc} {cells slots : Nat} {Q : State → Prop}
variable {mc ms : Nat} {free : Addr → Prop} {A0 A1 : Nat → Prop} {H0 : Heap} {a : Array Value} {pc : Nat} {ls : Array Slot} {st0 rest : List Value}
theorem vx_keep {st₀ t T' : State} {L : List Loc} (h0 : st₀.heap = H) (e1 : T'.heap = t.heap) (hS : va_S A0 H0 H locs) (hA : ∀ q, q < H.size → A1 q → A0 q) (hf : ∀ q, free q → A0 q) (hL : ∀ q ∈ L, free q.base) (hF : va_F A1 st₀ t) :
    H.size ≤ T'.heap.size ∧ (∀ q : Nat, q < H.size → ¬ A1 q → T'.heap[q]? = H[q]?) ∧ va_S A0 H0 T'.heap (locs ++ L) := by
  obtain ⟨hz, hk⟩ := hF
  rw [h0] at hz hk
  exact ⟨by rw [e1]; exact hz, fun q h1 h2 => by rw [e1]; exact hk q h1 h2,
    ⟨Nat.le_trans hS.1 (by rw [e1]; exact hz), fun q h1 h2 => by rw [e1, hk q (Nat.lt_of_lt_of_le h1 hS.1) (fun z => h2 (hA q (Nat.lt_of_lt_of_le h1 hS.1) z))]; exact hS.2.1 q h1 h2, fun q hq => by
      rcases List.mem_append.mp hq with h | h
      · exact hS.2.2 q h
      · exact hf _ (hL q h)⟩⟩
theorem vx_calli {S SX : Type} {post : Int32 → S → Prop} {px : SX → Prop} {B : S → State → Prop} {BX : String → SX → State → Prop} {AX : Nat → Prop} (hr : vx_Run p l e R s m args below meth c H locs cells slots mc ms (F0 m pc ls st0) rest (va_Qi post B A1 a) (vx_X px BX AX) free) (hS : va_S A0 H0 H locs) (hA : ∀ q, q < H.size → A1 q → A0 q) (hf : ∀ q, free q → A0 q) (hAX : ∀ q, q < H.size → AX q → A0 q)
    (kx : ∀ (E : String) (ce : Cell) (q9 : Addr) (u : SX) (t : State) (H1 : Heap) (locs1 : List Loc), t.heap = H1 → s.vm.Alike t.vm → px u → BX E u t → H.size ≤ H1.size → (∀ q : Nat, q < H.size → ¬ AX q → H1[q]? = H[q]?) → va_S A0 H0 H1 locs1 → H1[q9]? = some ce → ce.vm = .none → s.vm.findClass E = some ce.cls → vx_W p l e R s m args below meth c H1 locs1 (cells + mc) (slots + ms) Q (F0 m pc ls rest) q9)
    (kk : ∀ (r : Int32) (u : S) (t : State) (H1 : Heap) (locs1 : List Loc), t.heap = H1 → s.vm.Alike t.vm → post r u → B u t → H.size ≤ H1.size → (∀ q : Nat, q < H.size → ¬ A1 q → H1[q]? = H[q]?) → va_S A0 H0 H1 locs1 → W p l e R s m args below meth c H1 locs1 (cells + mc) (slots + ms) Q (F0 m (pc + 3) ls (.int r :: rest))) : W p l e R s m args below meth c H locs cells slots Q (F0 m pc ls st0) := by
  intro T hT X
  rcases hr T hT X with ⟨v, st₀, t, T', L, h0, X', hL, e1, e2, ⟨⟨r, u, hv, hp, hb⟩, hF⟩, st⟩ | ⟨q, st₀, t, T', L, E, ce, h0, X', hL, e1, e2, ⟨u, hp, hb, hF⟩, hce, hcv, hcl, st⟩
  · cases hv
    obtain ⟨k1, k2, k3⟩ := vx_keep h0 e1 hS hA hf hL hF
    obtain ⟨t2, a1, b1⟩ := kk r u t T'.heap (locs ++ L) e1.symm (by rw [← e2]; exact X'.warmed.alike) hp hb k1 k2 k3 T' rfl X'
    exact ⟨t2, st t2 a1, b1⟩
  · obtain ⟨k1, k2, k3⟩ := vx_keep h0 e1 hS hAX hf hL hF
    obtain ⟨t2, a1, b1⟩ := kx E ce q u t T'.heap (locs ++ L) e1.symm (by rw [← e2]; exact X'.warmed.alike) hp hb k1 k2 k3 (by rw [e1]; exact hce) hcv hcl T' rfl X'
    exact ⟨t2, st.trans a1, b1⟩
theorem vx_calll {S SX : Type} {post : Int64 → S → Prop} {px : SX → Prop} {B : S → State → Prop} {BX : String → SX → State → Prop} {AX : Nat → Prop} (hr : vx_Run p l e R s m args below meth c H locs cells slots mc ms (F0 m pc ls st0) rest (va_Ql post B A1 a) (vx_X px BX AX) free) (hS : va_S A0 H0 H locs) (hA : ∀ q, q < H.size → A1 q → A0 q) (hf : ∀ q, free q → A0 q) (hAX : ∀ q, q < H.size → AX q → A0 q)
    (kx : ∀ (E : String) (ce : Cell) (q9 : Addr) (u : SX) (t : State) (H1 : Heap) (locs1 : List Loc), t.heap = H1 → s.vm.Alike t.vm → px u → BX E u t → H.size ≤ H1.size → (∀ q : Nat, q < H.size → ¬ AX q → H1[q]? = H[q]?) → va_S A0 H0 H1 locs1 → H1[q9]? = some ce → ce.vm = .none → s.vm.findClass E = some ce.cls → vx_W p l e R s m args below meth c H1 locs1 (cells + mc) (slots + ms) Q (F0 m pc ls rest) q9)
    (kk : ∀ (r : Int64) (u : S) (t : State) (H1 : Heap) (locs1 : List Loc), t.heap = H1 → s.vm.Alike t.vm → post r u → B u t → H.size ≤ H1.size → (∀ q : Nat, q < H.size → ¬ A1 q → H1[q]? = H[q]?) → va_S A0 H0 H1 locs1 → W p l e R s m args below meth c H1 locs1 (cells + mc) (slots + ms) Q (F0 m (pc + 3) ls (.long r :: rest))) : W p l e R s m args below meth c H locs cells slots Q (F0 m pc ls st0) := by
  intro T hT X
  rcases hr T hT X with ⟨v, st₀, t, T', L, h0, X', hL, e1, e2, ⟨⟨r, u, hv, hp, hb⟩, hF⟩, st⟩ | ⟨q, st₀, t, T', L, E, ce, h0, X', hL, e1, e2, ⟨u, hp, hb, hF⟩, hce, hcv, hcl, st⟩
  · cases hv
    obtain ⟨k1, k2, k3⟩ := vx_keep h0 e1 hS hA hf hL hF
    obtain ⟨t2, a1, b1⟩ := kk r u t T'.heap (locs ++ L) e1.symm (by rw [← e2]; exact X'.warmed.alike) hp hb k1 k2 k3 T' rfl X'
    exact ⟨t2, st t2 a1, b1⟩
  · obtain ⟨k1, k2, k3⟩ := vx_keep h0 e1 hS hAX hf hL hF
    obtain ⟨t2, a1, b1⟩ := kx E ce q u t T'.heap (locs ++ L) e1.symm (by rw [← e2]; exact X'.warmed.alike) hp hb k1 k2 k3 (by rw [e1]; exact hce) hcv hcl T' rfl X'
    exact ⟨t2, st.trans a1, b1⟩
theorem vx_callf {S SX : Type} {post : UInt32 → S → Prop} {px : SX → Prop} {B : S → State → Prop} {BX : String → SX → State → Prop} {AX : Nat → Prop} (hr : vx_Run p l e R s m args below meth c H locs cells slots mc ms (F0 m pc ls st0) rest (va_Qf post B A1 a) (vx_X px BX AX) free) (hS : va_S A0 H0 H locs) (hA : ∀ q, q < H.size → A1 q → A0 q) (hf : ∀ q, free q → A0 q) (hAX : ∀ q, q < H.size → AX q → A0 q)
    (kx : ∀ (E : String) (ce : Cell) (q9 : Addr) (u : SX) (t : State) (H1 : Heap) (locs1 : List Loc), t.heap = H1 → s.vm.Alike t.vm → px u → BX E u t → H.size ≤ H1.size → (∀ q : Nat, q < H.size → ¬ AX q → H1[q]? = H[q]?) → va_S A0 H0 H1 locs1 → H1[q9]? = some ce → ce.vm = .none → s.vm.findClass E = some ce.cls → vx_W p l e R s m args below meth c H1 locs1 (cells + mc) (slots + ms) Q (F0 m pc ls rest) q9)
    (kk : ∀ (r : UInt32) (u : S) (t : State) (H1 : Heap) (locs1 : List Loc), t.heap = H1 → s.vm.Alike t.vm → post r u → B u t → H.size ≤ H1.size → (∀ q : Nat, q < H.size → ¬ A1 q → H1[q]? = H[q]?) → va_S A0 H0 H1 locs1 → W p l e R s m args below meth c H1 locs1 (cells + mc) (slots + ms) Q (F0 m (pc + 3) ls (.float r :: rest))) : W p l e R s m args below meth c H locs cells slots Q (F0 m pc ls st0) := by
  intro T hT X
  rcases hr T hT X with ⟨v, st₀, t, T', L, h0, X', hL, e1, e2, ⟨⟨r, u, hv, hp, hb⟩, hF⟩, st⟩ | ⟨q, st₀, t, T', L, E, ce, h0, X', hL, e1, e2, ⟨u, hp, hb, hF⟩, hce, hcv, hcl, st⟩
  · cases hv
    obtain ⟨k1, k2, k3⟩ := vx_keep h0 e1 hS hA hf hL hF
    obtain ⟨t2, a1, b1⟩ := kk r u t T'.heap (locs ++ L) e1.symm (by rw [← e2]; exact X'.warmed.alike) hp hb k1 k2 k3 T' rfl X'
    exact ⟨t2, st t2 a1, b1⟩
  · obtain ⟨k1, k2, k3⟩ := vx_keep h0 e1 hS hAX hf hL hF
    obtain ⟨t2, a1, b1⟩ := kx E ce q u t T'.heap (locs ++ L) e1.symm (by rw [← e2]; exact X'.warmed.alike) hp hb k1 k2 k3 (by rw [e1]; exact hce) hcv hcl T' rfl X'
    exact ⟨t2, st.trans a1, b1⟩
theorem vx_calld {S SX : Type} {post : UInt64 → S → Prop} {px : SX → Prop} {B : S → State → Prop} {BX : String → SX → State → Prop} {AX : Nat → Prop} (hr : vx_Run p l e R s m args below meth c H locs cells slots mc ms (F0 m pc ls st0) rest (va_Qd post B A1 a) (vx_X px BX AX) free) (hS : va_S A0 H0 H locs) (hA : ∀ q, q < H.size → A1 q → A0 q) (hf : ∀ q, free q → A0 q) (hAX : ∀ q, q < H.size → AX q → A0 q)
    (kx : ∀ (E : String) (ce : Cell) (q9 : Addr) (u : SX) (t : State) (H1 : Heap) (locs1 : List Loc), t.heap = H1 → s.vm.Alike t.vm → px u → BX E u t → H.size ≤ H1.size → (∀ q : Nat, q < H.size → ¬ AX q → H1[q]? = H[q]?) → va_S A0 H0 H1 locs1 → H1[q9]? = some ce → ce.vm = .none → s.vm.findClass E = some ce.cls → vx_W p l e R s m args below meth c H1 locs1 (cells + mc) (slots + ms) Q (F0 m pc ls rest) q9)
    (kk : ∀ (r : UInt64) (u : S) (t : State) (H1 : Heap) (locs1 : List Loc), t.heap = H1 → s.vm.Alike t.vm → post r u → B u t → H.size ≤ H1.size → (∀ q : Nat, q < H.size → ¬ A1 q → H1[q]? = H[q]?) → va_S A0 H0 H1 locs1 → W p l e R s m args below meth c H1 locs1 (cells + mc) (slots + ms) Q (F0 m (pc + 3) ls (.double r :: rest))) : W p l e R s m args below meth c H locs cells slots Q (F0 m pc ls st0) := by
  intro T hT X
  rcases hr T hT X with ⟨v, st₀, t, T', L, h0, X', hL, e1, e2, ⟨⟨r, u, hv, hp, hb⟩, hF⟩, st⟩ | ⟨q, st₀, t, T', L, E, ce, h0, X', hL, e1, e2, ⟨u, hp, hb, hF⟩, hce, hcv, hcl, st⟩
  · cases hv
    obtain ⟨k1, k2, k3⟩ := vx_keep h0 e1 hS hA hf hL hF
    obtain ⟨t2, a1, b1⟩ := kk r u t T'.heap (locs ++ L) e1.symm (by rw [← e2]; exact X'.warmed.alike) hp hb k1 k2 k3 T' rfl X'
    exact ⟨t2, st t2 a1, b1⟩
  · obtain ⟨k1, k2, k3⟩ := vx_keep h0 e1 hS hAX hf hL hF
    obtain ⟨t2, a1, b1⟩ := kx E ce q u t T'.heap (locs ++ L) e1.symm (by rw [← e2]; exact X'.warmed.alike) hp hb k1 k2 k3 (by rw [e1]; exact hce) hcv hcl T' rfl X'
    exact ⟨t2, st.trans a1, b1⟩
theorem vx_callv {S SX : Type} {post : S → Prop} {px : SX → Prop} {B : S → State → Prop} {BX : String → SX → State → Prop} {AX : Nat → Prop} (hr : vx_Run p l e R s m args below meth c H locs cells slots mc ms (F0 m pc ls st0) rest (va_Qv post B A1 a) (vx_X px BX AX) free) (hS : va_S A0 H0 H locs) (hA : ∀ q, q < H.size → A1 q → A0 q) (hf : ∀ q, free q → A0 q) (hAX : ∀ q, q < H.size → AX q → A0 q)
    (kx : ∀ (E : String) (ce : Cell) (q9 : Addr) (u : SX) (t : State) (H1 : Heap) (locs1 : List Loc), t.heap = H1 → s.vm.Alike t.vm → px u → BX E u t → H.size ≤ H1.size → (∀ q : Nat, q < H.size → ¬ AX q → H1[q]? = H[q]?) → va_S A0 H0 H1 locs1 → H1[q9]? = some ce → ce.vm = .none → s.vm.findClass E = some ce.cls → vx_W p l e R s m args below meth c H1 locs1 (cells + mc) (slots + ms) Q (F0 m pc ls rest) q9)
    (kk : ∀ (u : S) (t : State) (H1 : Heap) (locs1 : List Loc), t.heap = H1 → s.vm.Alike t.vm → post u → B u t → H.size ≤ H1.size → (∀ q : Nat, q < H.size → ¬ A1 q → H1[q]? = H[q]?) → va_S A0 H0 H1 locs1 → W p l e R s m args below meth c H1 locs1 (cells + mc) (slots + ms) Q (F0 m (pc + 3) ls (rest))) : W p l e R s m args below meth c H locs cells slots Q (F0 m pc ls st0) := by
  intro T hT X
  rcases hr T hT X with ⟨v, st₀, t, T', L, h0, X', hL, e1, e2, ⟨⟨u, hv, hp, hb⟩, hF⟩, st⟩ | ⟨q, st₀, t, T', L, E, ce, h0, X', hL, e1, e2, ⟨u, hp, hb, hF⟩, hce, hcv, hcl, st⟩
  · cases hv
    obtain ⟨k1, k2, k3⟩ := vx_keep h0 e1 hS hA hf hL hF
    obtain ⟨t2, a1, b1⟩ := kk u t T'.heap (locs ++ L) e1.symm (by rw [← e2]; exact X'.warmed.alike) hp hb k1 k2 k3 T' rfl X'
    exact ⟨t2, st t2 a1, b1⟩
  · obtain ⟨k1, k2, k3⟩ := vx_keep h0 e1 hS hAX hf hL hF
    obtain ⟨t2, a1, b1⟩ := kx E ce q u t T'.heap (locs ++ L) e1.symm (by rw [← e2]; exact X'.warmed.alike) hp hb k1 k2 k3 (by rw [e1]; exact hce) hcv hcl T' rfl X'
    exact ⟨t2, st.trans a1, b1⟩
/-- caught by the row x of this method's table; the rows ahead don't take it -/
theorem vx_catch {own name : String} {E : String} {ce : Cell} {q : Addr} (hown : s.vm.findClass own = some m.cls) (pre : List ExceptionTableEntry) (x : ExceptionTableEntry) (suf : List ExceptionTableEntry) (hsplit : c.exceptionTable.toList = pre ++ x :: suf)
    (hpass : ∀ z ∈ pre, covers z pc = false ∨ (z.catchType ≠ 0 ∧ ∃ nm : String, (Cond.classLink own z.catchType nm).before args s = true ∧ va_Nc E nm s)) (hx : covers x pc = true) (h0 : x.catchType ≠ 0)
    (hlink : (Cond.classLink own x.catchType name).before args s = true) (hcast : (Cond.castable E name).before args s = true) (hcell : H[q]? = some ce) (hv : ce.vm = .none) (hcl : s.vm.findClass E = some ce.cls)
    (kk : W p l e R s m args below meth c H locs cells slots Q (F0 m x.handlerPc ls [.ref q])) : vx_W p l e R s m args below meth c H locs cells slots Q (F0 m pc ls rest) q := by
  intro T hT X
  have hpl : e.platform.magicAccessors = ({} : Platform).magicAccessors := by rw [X.admits.platform]
  obtain ⟨c3, c4, hc3, hc4, hasg⟩ := Cond.castable_spec hcast
  cases Option.some.inj (hc3.symm.trans hcl)
  obtain ⟨c5, hc5, hcl5⟩ := Cond.classLink_spec hown hlink e.platform hpl
  cases Option.some.inj (hc4.symm.trans hc5)
  obtain ⟨vm', X', st⟩ := X.thenCaughtThrough q (g := F0 m pc ls rest) rfl (Steps.refl _) (by rw [hT]; exact hcell) (by rw [hv]; rfl) (by obtain ⟨k9, h9, -⟩ := Vm.findClass_spec hcl; exact ⟨k9, h9⟩) pre x suf hsplit
    (fun z hz => by
      rcases hpass z hz with h | ⟨hz0, nm, hl1, hn1⟩
      · exact Or.inl h
      · obtain ⟨c6, hc6, hcl6⟩ := Cond.classLink_spec hown hl1 e.platform hpl
        obtain ⟨a8, b8, h1, h2, h3⟩ := hn1
        cases Option.some.inj (h1.symm.trans hcl)
        cases Option.some.inj (h2.symm.trans hc6)
        exact Or.inr ⟨hz0, _, hcl6, h3⟩) hx (Or.inr ⟨h0, c4, hcl5, hasg⟩)
  obtain ⟨t, a1, b1⟩ := kk (T.setVm vm') hT X'
  exact ⟨t, st.trans a1, b1⟩
end Rows
section Ends
variable {p : Program} {l : Launch} {e : Env} {R : Room} {s : State} {m : MethodId} {args : Array Value} {below : List Frame} {meth : Method} {c : Code} {H : Heap} {locs : List Loc} {cells slots : Nat} {Q : State → Prop}
variable {mc ms : Nat} {free : Addr → Prop} {A0 A1 : Nat → Prop} {H0 : Heap} {a : Array Value} {ls : Array Slot} {st0 rest : List Value}
variable {Qc : Array Value → State → Outcome → State → Prop} {XC : String → State → State → Prop}
/-- what a body that may throw owes at its end -/
def vx_MQ (below : List Frame) (Qc : Array Value → State → Outcome → State → Prop) (XC : String → State → State → Prop) (a : Array Value) (s : State) (mc ms : Nat) (free : Addr → Prop) : State → Prop := fun t =>
  ∃ o, t.status = .running ∧ Ended t below o ∧ vx_Q Qc XC mc ms free a s o t
theorem vx_ret {g : JFrame} {mc ms : Nat} (k : W p l e R s m args below meth c H locs cells slots (MQ below Qc args s mc ms free) g) : W p l e R s m args below meth c H locs cells slots (vx_MQ below Qc XC args s mc ms free) g := by
  intro T hT X
  obtain ⟨t, a1, o, b1, b2, b3, b4⟩ := k T hT X
  exact ⟨t, a1, o, b1, b2, Or.inl ⟨b3, b4⟩⟩
/-- not caught here: it goes on to the caller -/
theorem vx_widen {g : JFrame} {q : Addr} {k n : Nat} (h1 : cells ≤ k) (h2 : slots ≤ n) (kk : vx_W p l e R s m args below meth c H locs k n Q g q) : vx_W p l e R s m args below meth c H locs cells slots Q g q := fun T hT X => kk T hT (stand_widen X h1 h2)
theorem vx_out {pc : Nat} {E : String} {ce : Cell} {q : Addr} {mc ms : Nat} (hout : ∀ x ∈ c.exceptionTable.toList, covers x pc = false) (hlocks : meth.locks = false) (hcell : H[q]? = some ce) (hv : ce.vm = .none) (hcl : s.vm.findClass E = some ce.cls)
    (hx : ∀ t : State, t.heap = H → s.vm.Alike t.vm → XC E s t) (hf : ∀ z ∈ locs, free z.base) (hc : cells ≤ mc) (hs : slots ≤ ms) :
    vx_W p l e R s m args below meth c H locs cells slots (vx_MQ below Qc XC args s mc ms free) (F0 m pc ls rest) q := by
  intro T hT X
  obtain ⟨st1, hrun, hend, hW, hsm⟩ := X.leaveThrown q (g := F0 m pc ls rest) rfl rfl rfl hout hlocks
  have hcell9 : (T.setFrames (.throwing q :: below)).heap[q]? = some ce := by
    show T.heap[q]? = some ce
    rw [hT]; exact hcell
  exact ⟨_, st1, .threw q, hrun, hend, Or.inr ⟨q, rfl, E, ce, locs, hx _ hT hW.alike, hcell9, hv, hcl, hW, hsm.mono hc hs, hf⟩⟩
theorem vx_frame {U : State} {k n : Nat} (h : s.sameButNew ({ U with vm := s.vm } : State) locs k n) : s.heap.size ≤ U.heap.size ∧ ∀ q : Nat, q < s.heap.size → (∀ z ∈ locs, z.base ≠ q) → U.heap[q]? = s.heap[q]? := by
  obtain ⟨-, h2, -, -, -, h6⟩ := h
  refine ⟨h2, fun q hq hz => ?_⟩
  obtain ⟨c9, e1, e2, e3, e4⟩ := h6 q _ (Array.getElem?_eq_getElem hq)
  have hs : c9.slots = (s.heap[q]).slots := Array.ext_getElem? fun i => e4 i fun hm => hz _ hm rfl
  have h9 : c9 = s.heap[q] := by
    rw [hs] at e2
    exact e2
  have e5 : U.heap[q]? = some c9 := e1
  rw [e5, h9, Array.getElem?_eq_getElem hq]
/-- the words of a throw but the four that speak of the heap -/
def vx_no (w : Cond) : Bool := decide (w ≠ .isRef (.static Bundle.tN "UNASSIGNED_STACK" Bundle.steD)) && decide (w ≠ .isRef (.static Bundle.tN "SUPPRESSED_SENTINEL" Bundle.listD)) && decide (w ≠ .laysStatic Bundle.tN "UNASSIGNED_STACK" Bundle.steD) && decide (w ≠ .laysStatic Bundle.tN "SUPPRESSED_SENTINEL" Bundle.listD)
def vx_at0 (own : String) (ic : Nat) (X : String) (names : List String) : List Cond := (Bundle.ownAtoms0 own ic X names).filter vx_no
def vx_atS (own : String) (ic : Nat) (X : String) (names : List String) : List Cond := (Bundle.ownAtoms own ic X names).filter vx_no
/-- a word that the tables alone decide, or a good one -/
def vx_ot (w : Cond) : Bool := w.onTables || goodWord w
theorem vx_ot_at {args a' : Array Value} {s U : State} {w : Cond} (hW : s.WarmedH U.vm) (hvm : s.vm = U.vm) (hg : vx_ot w = true) (h : w.before args s = true) : w.before a' U = true := by
  simp only [vx_ot, Bool.or_eq_true] at hg
  rcases hg with hg | hg
  · exact va_tabs hg hvm h
  · exact word_at hW (good_of_word hg) h
/-- a list's words: the good ones out of the method's own list, the others by premises of their own -/
theorem vx_hat {args : Array Value} {s : State} {L B : List Cond} (h1 : ∀ w ∈ L.filter goodWord, w.before args s = true) (h2 : ∀ w ∈ L.filter (fun w => !goodWord w), w ∈ B) (h3 : ∀ w ∈ B, w.before args s = true) : ∀ w ∈ L, w.before args s = true := by
  intro w hw
  by_cases g : goodWord w = true
  · exact h1 w (List.mem_filter.mpr ⟨hw, g⟩)
  · refine h3 w (h2 w (List.mem_filter.mpr ⟨hw, ?_⟩))
    show (!goodWord w) = true
    cases hgw : goodWord w
    · rfl
    · exact absurd hgw g
theorem vx_c {args : Array Value} {s : State} {w : Cond} {B : List Cond} (h : w.before args s = true) (t : ∀ w ∈ B, w.before args s = true) : ∀ w' ∈ w :: B, w'.before args s = true := fun w' h' => (List.mem_cons.mp h').elim (fun e => by rw [e]; exact h) (t w')
theorem vx_n {args : Array Value} {s : State} : ∀ w ∈ ([] : List Cond), w.before args s = true := fun _ h => nomatch h
theorem vx_own {args : Array Value} {s : State} {L : List Cond} (h1 : ∀ w ∈ L.filter vx_no, w.before args s = true)
    (hU : (Cond.isRef (.static Bundle.tN "UNASSIGNED_STACK" Bundle.steD)).before args s = true) (hN : (Cond.isRef (.static Bundle.tN "SUPPRESSED_SENTINEL" Bundle.listD)).before args s = true)
    (lU : (Cond.laysStatic Bundle.tN "UNASSIGNED_STACK" Bundle.steD).before args s = true) (lN : (Cond.laysStatic Bundle.tN "SUPPRESSED_SENTINEL" Bundle.listD).before args s = true) : ∀ w ∈ L, w.before args s = true := by
  intro w hw
  by_cases e1 : w = .isRef (.static Bundle.tN "UNASSIGNED_STACK" Bundle.steD)
  · rw [e1]; exact hU
  · by_cases e2 : w = .isRef (.static Bundle.tN "SUPPRESSED_SENTINEL" Bundle.listD)
    · rw [e2]; exact hN
    · by_cases e3 : w = .laysStatic Bundle.tN "UNASSIGNED_STACK" Bundle.steD
      · rw [e3]; exact lU
      · by_cases e4 : w = .laysStatic Bundle.tN "SUPPRESSED_SENTINEL" Bundle.listD
        · rw [e4]; exact lN
        · exact h1 w (List.mem_filter.mpr ⟨hw, by unfold vx_no; rw [decide_eq_true e1, decide_eq_true e2, decide_eq_true e3, decide_eq_true e4]; rfl⟩)
/-- where a static field lies, its class's statics cell in H -/
def vx_L (C n d : String) (A : Nat → Prop) (U : State) (H : Heap) : Prop := ∃ (c : ClassId) (k : Class) (i : Nat) (f : Field) (a : Nat) (cell : Cell), U.vm.findClass C = some c ∧ U.fieldFound? C n d = some (c, k, i, f) ∧ f.isStatic = true ∧ k.statics = some a ∧ H[a]? = some cell ∧ cell.vm.isStatics = true ∧ cell.cls = c ∧ f.slot < cell.slots.size ∧ k.staticTypes[f.slot]? = some f.type ∧ ¬ A a
theorem vx_L.moved {C n d : String} {A : Nat → Prop} {u U : State} {H : Heap} (hvm : u.vm.Alike U.vm) (h : vx_L C n d A u H) : vx_L C n d A U H := by
  obtain ⟨c, k, i, f, a, cell, h1, h2, h3, h4, h5, h6, h7, h8, h9, h10⟩ := h
  obtain ⟨k', hi', he⟩ := State.fieldFound?_setVm hvm h2
  exact ⟨c, k', i, f, a, cell, by rw [hvm.findClass]; exact h1, hi', h3, by rw [he]; exact h4, h5, h6, h7, h8, by rw [he]; exact h9, h10⟩
theorem vx_L.kept {C n d : String} {A : Nat → Prop} {U : State} {H H1 : Heap} (h : vx_L C n d A U H) (hq : ∀ a : Nat, a < H.size → ¬ A a → H1[a]? = H[a]?) : vx_L C n d A U H1 := by
  obtain ⟨c, k, i, f, a, cell, h1, h2, h3, h4, h5, h6, h7, h8, h9, h10⟩ := h
  exact ⟨c, k, i, f, a, cell, h1, h2, h3, h4, by rw [hq a (Array.getElem?_eq_some_iff.mp h5).1 h10]; exact h5, h6, h7, h8, h9, h10⟩
theorem vx_L.narrow {C n d : String} {A B : Nat → Prop} {U : State} {H : Heap} (h : vx_L C n d A U H) (hAB : ∀ q, B q → A q) : vx_L C n d B U H := by
  obtain ⟨c, k, i, f, a, cell, h1, h2, h3, h4, h5, h6, h7, h8, h9, h10⟩ := h
  exact ⟨c, k, i, f, a, cell, h1, h2, h3, h4, h5, h6, h7, h8, h9, fun z => h10 (hAB _ z)⟩
theorem vx_L.word {C n d : String} {A : Nat → Prop} {s : State} {args : Array Value} (h : vx_L C n d A s s.heap) : (Cond.laysStatic C n d).before args s = true := by
  obtain ⟨c, k, i, f, a, cell, h1, h2, h3, h4, h5, h6, h7, h8, h9, -⟩ := h
  show (Cond.laysStatic C n d).holds args s none s [] = true
  exact Cond.laysStatic_of h1 h2 h3 h4 h5 h6 h7 h8 h9
/-- .. and what it holds: null or some reference -/
def vx_Zq (C n d : String) (A : Nat → Prop) (U : State) (H : Heap) : Prop := va_Zq C n d A U H ∧ vx_L C n d A U H
theorem vx_Zq.moved {C n d : String} {A : Nat → Prop} {u U : State} {H : Heap} (hvm : u.vm.Alike U.vm) (h : vx_Zq C n d A u H) : vx_Zq C n d A U H := ⟨va_Zq.moved hvm h.1, vx_L.moved hvm h.2⟩
theorem vx_Zq.kept {C n d : String} {A : Nat → Prop} {U : State} {H H1 : Heap} (h : vx_Zq C n d A U H) (hq : ∀ a : Nat, a < H.size → ¬ A a → H1[a]? = H[a]?) : vx_Zq C n d A U H1 := ⟨va_Zq.kept h.1 hq, vx_L.kept h.2 hq⟩
theorem vx_Zq.narrow {C n d : String} {A B : Nat → Prop} {U : State} {H : Heap} (h : vx_Zq C n d A U H) (hAB : ∀ q, B q → A q) : vx_Zq C n d B U H := ⟨va_Zq.narrow h.1 hAB, vx_L.narrow h.2 hAB⟩
theorem vx_Zqof {args : Array Value} {s : State} {C n d : String} {A : Nat → Prop} (hl : (Cond.laysStatic C n d).before args s = true) (hini : (Cond.initialized C).before args s = true) (h : (Cond.isRef (.static C n d)).before args s = true) (hA : ∀ a : Nat, a < s.heap.size → ¬ A a) : vx_Zq C n d A s s.heap := by
  refine ⟨va_Zqof hl hini h hA, ?_⟩
  obtain ⟨c, k, i, f, a, cell, h1, h2, h3, h4, h5, h6, h7, h8, h9⟩ := Cond.laysStatic_spec hl
  exact ⟨c, k, i, f, a, cell, h1, h2, h3, h4, h5, h6, h7, h8, h9, hA a (Array.getElem?_eq_some_iff.mp h5).1⟩
theorem vx_isRef {C n d : String} {v : Value} {A : Nat → Prop} {s : State} {args : Array Value} (h : va_Z C n d v A s s.heap) (hv : v.isRef = true) : (Cond.isRef (.static C n d)).before args s = true := by
  obtain ⟨cf, kf, fi, f, a, cell, h1, h2, h3, h4, h5, h6, h7, -⟩ := h
  have he : (Term.static C n d).eval args s none [] s = some v := by
    simp [Term.eval, State.fieldNamed?, h1, h2, h4, h5, h6, h7]
  simp only [Cond.before, Cond.holds, Cond.value, he]
  cases v <;> simp_all [Value.isRef]
theorem vx_isRefq {C n d : String} {A : Nat → Prop} {s : State} {args : Array Value} (h : va_Zq C n d A s s.heap) : (Cond.isRef (.static C n d)).before args s = true := by
  rcases h with h | ⟨t, h⟩
  · exact vx_isRef h rfl
  · exact vx_isRef h rfl
/-- the same frame, seen from here: as if the method were called anew in this heap -/
theorem vx_rebase {T : State} (X : Stand p l e R s m args below meth c T locs cells slots) {R' : Room} (hf : R'.frames ≤ R.frames) (hl : R'.locals ≤ R.locals) (hc : cells + R'.cells ≤ R.cells) (hs : slots + R'.slots ≤ R.slots) :
    Stand p l e R' ((T.setVm s.vm).setFrames (.invoking m args :: below)) m args below meth c T [] 0 0 := by
  have htop : (T.setVm s.vm).topJava?.isSome := X.here.top
  have hF : ((T.setVm s.vm).setFrames (.invoking m args :: below)).frames = .invoking m args :: below := State.frames_setFrames _ (State.cur_lt_of_top htop)
  obtain ⟨g₀, hg0⟩ := Option.isSome_iff_exists.mp htop
  obtain ⟨r, hr⟩ := State.topJava?_eq_some.mp hg0
  have hl9 : e.platform.stackLimits (T.setVm s.vm).me = e.platform.stackLimits s.me := X.limits
  have hb9 : (T.setVm s.vm).me.stackBytes = s.me.stackBytes := X.bytes
  refine ⟨X.admits, X.cas, X.clock, hF, ?_, X.hears, X.method, X.code, X.here, X.tail, X.warmed, ?_, ?_, ?_⟩
  · have h := X.room
    have hU : ((T.setVm s.vm).setFrames (.invoking m args :: below)).localsInUse = s.localsInUse := by
      rw [State.localsInUse_invoking hF (meth := meth) (c := c) X.method X.code, State.localsInUse_invoking X.frames X.method X.code]
    simp only [State.hasRoom, Bool.and_eq_true, decide_eq_true_eq] at h ⊢
    obtain ⟨⟨⟨⟨h1, h2, h3, h4, h5, h6⟩, h7⟩, h8⟩, h9⟩ := h
    rw [X.frames, List.length_cons] at h2 h3
    have q1 := X.heapSize
    have q2 := X.used
    simp only [hF, hU, List.length_cons, State.stackLimits_setFrames, State.stackBytes_setFrames, hl9, hb9]
    refine ⟨⟨⟨⟨by omega, by omega, by omega, by omega, by omega, h6⟩, ?_⟩, ?_⟩, X.book⟩
    · show T.heap.size + R'.cells ≤ e.platform.maxCells
      omega
    · show T.slotsUsed + R'.slots ≤ e.platform.maxSlots
      omega
  · rw [State.stackLimits_setFrames]; rfl
  · rw [State.stackBytes_setFrames]; rfl
  · refine ⟨?_, Nat.le_refl _, Nat.le_refl _, ?_, ?_, fun a c9 h9 => ⟨c9, h9, rfl, rfl, fun _ _ => rfl⟩⟩
    · obtain ⟨t, ht, -⟩ := State.frames_cons hr
      show T.setVm s.vm = { ((T.setVm s.vm).setFrames (.invoking m args :: below)).setFrames (T.setVm s.vm).frames with heap := T.heap, slotsUsed := T.slotsUsed }
      rw [State.setFrames_setFrames, State.setFrames_self ht]
      rfl
    · show T.slotsUsed = T.slotsUsed + ((T.heap.toList.drop T.heap.size).map (·.slots.size)).sum
      rw [List.drop_eq_nil_of_le (Nat.le_of_eq Array.length_toList)]
      rfl
    · show ((T.heap.toList.drop T.heap.size).map (·.slots.size)).sum ≤ 0
      rw [List.drop_eq_nil_of_le (Nat.le_of_eq Array.length_toList)]
      exact Nat.le_refl _
/-- 'throw new E()': new; dup; invokespecial; athrow -/
theorem vx_throw0 {cc : ByteArray} {pc : Nat} (hexec : p.tables.exec = Jvm.exec) (hb : c.code = cc) (hl : l.stackTraces = false) {own cls : String} {names : List String} {ik ic mc ms : Nat} {A : Nat → Prop}
    (hown : s.vm.findClass own = some m.cls) (hcls : Bundle.fit cls = true) (hnames : ∀ n ∈ names, Bundle.fit n = true)
    (hk : (Cond.classLink own ik cls).before args s = true) (hini : (Cond.initialized cls).before args s = true) (hat : ∀ w ∈ vx_at0 own ic cls names, w.before args s = true)
    (hgood : ∀ w ∈ Cond.classLink own ik cls :: Cond.initialized cls :: vx_at0 own ic cls names, vx_ot w = true)
    (hU : vx_Zq Bundle.tN "UNASSIGNED_STACK" Bundle.steD A s s.heap) (hN : vx_Zq Bundle.tN "SUPPRESSED_SENTINEL" Bundle.listD A s s.heap) (hS : va_S A s.heap H locs) (hsize : ls.size = c.maxLocals)
    (d0 : decode cc pc = .ok (.new ik, 3)) (d3 : decode cc (pc + 3) = .ok (.dup, 1)) (d4 : decode cc (pc + 4) = .ok (.invokespecial ic, 3)) (d7 : decode cc (pc + 7) = .ok (.athrow, 1))
    (hout : ∀ x ∈ c.exceptionTable.toList, covers x (pc + 7) = false)
    (hRframes : names.length + 3 < R.frames) (hRlocals : (rest.map fun v => v.category).sum + (13 * (names.length + 1) + 42) ≤ R.locals) (hRcells : cells + 1 ≤ R.cells) (hRslots : slots + 6 ≤ R.slots) (hlocks : meth.locks = false)
    (hx : ∀ t : State, s.vm.Alike t.vm → H.size ≤ t.heap.size → (∀ q : Nat, q < H.size → t.heap[q]? = H[q]?) → XC cls s t)
    (hf : ∀ z ∈ locs, free z.base) (hc : cells + 1 ≤ mc) (hs : slots + 6 ≤ ms) :
    W p l e R s m args below meth c H locs cells slots (vx_MQ below Qc XC args s mc ms free) (F0 m pc ls rest) := by
  intro T hT X
  have htr : e.platform.stackTraces = false := (show e.platform.stackTraces = l.stackTraces by rw [X.admits.platform]).trans hl
  have Y := vx_rebase X (R' := { frames := R.frames, locals := R.locals, cells := 1, slots := 6 }) (Nat.le_refl _) (Nat.le_refl _) hRcells hRslots
  obtain ⟨s', hA⟩ : ∃ z, z = (T.setVm s.vm).setFrames (.invoking m args :: below) := ⟨_, rfl⟩
  rw [← hA] at Y
  have hvm : s'.vm = s.vm := by rw [hA]; rfl
  have hhp : s'.heap = H := by rw [hA]; exact hT
  have hW0 : s.WarmedH s'.vm := by rw [hvm]; exact State.WarmedH.refl s
  have hat' : ∀ w ∈ vx_at0 own ic cls names, w.before args s' = true := fun w hw => vx_ot_at hW0 hvm.symm (hgood w (List.mem_cons_of_mem _ (List.mem_cons_of_mem _ hw))) (hat w hw)
  have hk' : (Cond.classLink own ik cls).before args s' = true := vx_ot_at hW0 hvm.symm (hgood _ List.mem_cons_self) hk
  have hini' : (Cond.initialized cls).before args s' = true := vx_ot_at hW0 hvm.symm (hgood _ (List.mem_cons_of_mem _ List.mem_cons_self)) hini
  have hU' : vx_Zq Bundle.tN "UNASSIGNED_STACK" Bundle.steD A s' s'.heap := by rw [hhp]; exact vx_Zq.moved hW0.alike (hU.kept hS.2.1)
  have hN' : vx_Zq Bundle.tN "SUPPRESSED_SENTINEL" Bundle.listD A s' s'.heap := by rw [hhp]; exact vx_Zq.moved hW0.alike (hN.kept hS.2.1)
  have h : ∀ w ∈ Bundle.ownAtoms0 own ic cls names, w.before args s' = true := vx_own hat' (vx_isRefq hU'.1) (vx_isRefq hN'.1) hU'.2.word hN'.2.word
  have hown' : s'.vm.findClass own = some m.cls := by rw [hvm]; exact hown
  have hins : (Cond.instantiable cls 6).before args s' = true := h _ (by simp [Bundle.ownAtoms0])
  obtain ⟨vm₁, cX, kX, hfX, hkX, -, -, X₁, st1⟩ := Y.newCold hexec (own := own) (C := cls) (index := ik) (n := 6) hown' hk' hins hini'
    (g := F0 m pc ls rest) rfl (by rw [hb]; exact d0) (Nat.le_refl _) (Nat.le_refl _)
  generalize hT1 : (T.setVm vm₁).pushCell { cls := cX, slots := kX.instanceTypes.map defaultValue, vm := .none } = T1 at X₁ st1
  have hcat : (Value.ref T.heap.size).category = 1 := rfl
  have hcellA : T1.heap[T.heap.size]? = some (freshCell cX kX) := by rw [← hT1]; exact State.heap_pushCell_size _ _
  have d3' : decode c.code (pc + 3) = .ok (.dup, 1) := by rw [hb]; exact d3
  obtain ⟨U, hsteps, hrun, hend, hW, hsame, ce, hce, hO⟩ := X₁.ctorThrow0 hexec htr (own := own) (cls := cls) (names := names) (ic := ic) hown' hcls hnames h (fun x hx => nomatch hx) hfX hkX hcellA (by rw [hhp, hT]; exact Nat.le_refl _)
    (g := { method := m, pc := pc + 4, locals := ls, stack := .ref T.heap.size :: .ref T.heap.size :: rest, locked := none }) rfl hsize rfl rfl (rest := rest) rfl
    (by rw [hb]; exact d4) (by rw [hb]; exact d7) hout hRframes (by simp only [List.map_cons, List.sum_cons, hcat]; omega) hlocks
  obtain ⟨f1, f2⟩ := vx_frame hsame
  rw [hhp] at f1 f2
  have hWs : s.WarmedH U.vm := State.WarmedH.trans hW0 hW
  have hcl : s.vm.findClass cls = some ce.cls := by
    have h9 := hO.cls
    rw [hvm] at h9
    exact h9
  have hall : s.sameButNew ({ U with vm := s.vm } : State) locs mc ms := by
    subst hA
    obtain ⟨e1, e2⟩ := hsame
    rw [State.setFrames_setFrames] at e1
    have h2 : (T.setVm s.vm).sameButNew ({ U with vm := s.vm } : State) [] (0 + 1) (0 + 6) := ⟨e1, e2⟩
    have h3 := X.same.trans h2
    rw [List.append_nil] at h3
    exact h3.mono hc hs
  refine ⟨U, ?_, .threw T.heap.size, hrun, hend, Or.inr ⟨T.heap.size, rfl, cls, ce, locs, hx U hWs.alike f1 (fun q hq => f2 q hq (fun z hz => nomatch hz)), hce, hO.vm, hcl, hWs, hall, hf⟩⟩
  refine st1 _ ?_
  show Steps p.tables e below (T1.setTop { method := m, pc := pc + 3, locals := ls, stack := .ref T.heap.size :: rest, locked := none }) _
  jvm_step X₁.here [X₁.here.top, hexec, d3', Value.category]
  exact hsteps
/-- 'throw new E("text")': new; dup; ldc; invokespecial; athrow -/
theorem vx_throwS {cc : ByteArray} {pc : Nat} (hexec : p.tables.exec = Jvm.exec) (hb : c.code = cc) (hl : l.stackTraces = false) {own cls text : String} {names : List String} {ik is ic mc ms sa : Nat} {A : Nat → Prop}
    (hown : s.vm.findClass own = some m.cls) (hcls : Bundle.fit cls = true) (hnames : ∀ n ∈ names, Bundle.fit n = true)
    (hk : (Cond.classLink own ik cls).before args s = true) (hini : (Cond.initialized cls).before args s = true) (hstr : vk_R own is text sa s) (hat : ∀ w ∈ vx_atS own ic cls names, w.before args s = true)
    (hgood : ∀ w ∈ Cond.classLink own ik cls :: Cond.initialized cls :: vx_atS own ic cls names, vx_ot w = true)
    (hU : vx_Zq Bundle.tN "UNASSIGNED_STACK" Bundle.steD A s s.heap) (hN : vx_Zq Bundle.tN "SUPPRESSED_SENTINEL" Bundle.listD A s s.heap) (hS : va_S A s.heap H locs) (hsize : ls.size = c.maxLocals)
    (d0 : decode cc pc = .ok (.new ik, 3)) (d3 : decode cc (pc + 3) = .ok (.dup, 1)) (d4 : decode cc (pc + 4) = .ok (.ldc is, 2)) (d6 : decode cc (pc + 6) = .ok (.invokespecial ic, 3)) (d9 : decode cc (pc + 9) = .ok (.athrow, 1))
    (hout : ∀ x ∈ c.exceptionTable.toList, covers x (pc + 9) = false)
    (hRframes : names.length + 3 < R.frames) (hRlocals : (rest.map fun v => v.category).sum + (13 * (names.length + 1) + 43) ≤ R.locals) (hRcells : cells + 1 ≤ R.cells) (hRslots : slots + 6 ≤ R.slots) (hlocks : meth.locks = false)
    (hx : ∀ t : State, s.vm.Alike t.vm → H.size ≤ t.heap.size → (∀ q : Nat, q < H.size → t.heap[q]? = H[q]?) → XC cls s t)
    (hf : ∀ z ∈ locs, free z.base) (hc : cells + 1 ≤ mc) (hs : slots + 6 ≤ ms) :
    W p l e R s m args below meth c H locs cells slots (vx_MQ below Qc XC args s mc ms free) (F0 m pc ls rest) := by
  intro T hT X
  have htr : e.platform.stackTraces = false := (show e.platform.stackTraces = l.stackTraces by rw [X.admits.platform]).trans hl
  have Y := vx_rebase X (R' := { frames := R.frames, locals := R.locals, cells := 1, slots := 6 }) (Nat.le_refl _) (Nat.le_refl _) hRcells hRslots
  obtain ⟨s', hA⟩ : ∃ z, z = (T.setVm s.vm).setFrames (.invoking m args :: below) := ⟨_, rfl⟩
  rw [← hA] at Y
  have hvm : s'.vm = s.vm := by rw [hA]; rfl
  have hhp : s'.heap = H := by rw [hA]; exact hT
  have hW0 : s.WarmedH s'.vm := by rw [hvm]; exact State.WarmedH.refl s
  have hat' : ∀ w ∈ vx_atS own ic cls names, w.before args s' = true := fun w hw => vx_ot_at hW0 hvm.symm (hgood w (List.mem_cons_of_mem _ (List.mem_cons_of_mem _ hw))) (hat w hw)
  have hk' : (Cond.classLink own ik cls).before args s' = true := vx_ot_at hW0 hvm.symm (hgood _ List.mem_cons_self) hk
  have hini' : (Cond.initialized cls).before args s' = true := vx_ot_at hW0 hvm.symm (hgood _ (List.mem_cons_of_mem _ List.mem_cons_self)) hini
  have hU' : vx_Zq Bundle.tN "UNASSIGNED_STACK" Bundle.steD A s' s'.heap := by rw [hhp]; exact vx_Zq.moved hW0.alike (hU.kept hS.2.1)
  have hN' : vx_Zq Bundle.tN "SUPPRESSED_SENTINEL" Bundle.listD A s' s'.heap := by rw [hhp]; exact vx_Zq.moved hW0.alike (hN.kept hS.2.1)
  have h : ∀ w ∈ Bundle.ownAtoms own ic cls names, w.before args s' = true := vx_own hat' (vx_isRefq hU'.1) (vx_isRefq hN'.1) hU'.2.word hN'.2.word
  have hown' : s'.vm.findClass own = some m.cls := by rw [hvm]; exact hown
  have hins : (Cond.instantiable cls 6).before args s' = true := h _ (by simp [Bundle.ownAtoms])
  obtain ⟨vm₁, cX, kX, hfX, hkX, -, -, X₁, st1⟩ := Y.newCold hexec (own := own) (C := cls) (index := ik) (n := 6) hown' hk' hins hini'
    (g := F0 m pc ls rest) rfl (by rw [hb]; exact d0) (Nat.le_refl _) (Nat.le_refl _)
  generalize hT1 : (T.setVm vm₁).pushCell { cls := cX, slots := kX.instanceTypes.map defaultValue, vm := .none } = T1 at X₁ st1
  have hcat : (Value.ref T.heap.size).category = 1 := rfl
  have hcellA : T1.heap[T.heap.size]? = some (freshCell cX kX) := by rw [← hT1]; exact State.heap_pushCell_size _ _
  have d3' : decode c.code (pc + 3) = .ok (.dup, 1) := by rw [hb]; exact d3
  have d4' : decode c.code (pc + 4) = .ok (.ldc is, 2) := by rw [hb]; exact d4
  have hstr' : vk_R own is text sa s' := vk_R.warm hW0 hstr
  obtain ⟨U, hsteps, hrun, hend, hW, hsame, ce, hce, hO⟩ := X₁.ctorThrowS hexec htr (own := own) (cls := cls) (names := names) (ic := ic) hown' hcls hnames h (fun x hx => nomatch hx) hfX hkX hcellA (by rw [hhp, hT]; exact Nat.le_refl _) (msg := .ref sa) rfl
    (g := { method := m, pc := pc + 6, locals := ls, stack := .ref sa :: .ref T.heap.size :: .ref T.heap.size :: rest, locked := none }) rfl hsize rfl rfl (rest := rest) rfl
    (by rw [hb]; exact d6) (by rw [hb]; exact d9) hout hRframes (by simp only [List.map_cons, List.sum_cons, hcat]; omega) hlocks
  obtain ⟨f1, f2⟩ := vx_frame hsame
  rw [hhp] at f1 f2
  have hWs : s.WarmedH U.vm := State.WarmedH.trans hW0 hW
  have hcl : s.vm.findClass cls = some ce.cls := by
    have h9 := hO.cls
    rw [hvm] at h9
    exact h9
  have hall : s.sameButNew ({ U with vm := s.vm } : State) locs mc ms := by
    subst hA
    obtain ⟨e1, e2⟩ := hsame
    rw [State.setFrames_setFrames] at e1
    have h2 : (T.setVm s.vm).sameButNew ({ U with vm := s.vm } : State) [] (0 + 1) (0 + 6) := ⟨e1, e2⟩
    have h3 := X.same.trans h2
    rw [List.append_nil] at h3
    exact h3.mono hc hs
  refine ⟨U, ?_, .threw T.heap.size, hrun, hend, Or.inr ⟨T.heap.size, rfl, cls, ce, locs, hx U hWs.alike f1 (fun q hq => f2 q hq (fun z hz => nomatch hz)), hce, hO.vm, hcl, hWs, hall, hf⟩⟩
  refine st1 _ ?_
  show Steps p.tables e below (T1.setTop { method := m, pc := pc + 3, locals := ls, stack := .ref T.heap.size :: rest, locked := none }) _
  jvm_step X₁.here [X₁.here.top, hexec, d3', Value.category]
  exact X₁.ldcString hexec (own := own) (text := text) (index := is) (a := sa) hown' hstr'.1 hstr'.2
    (g := { method := m, pc := pc + 4, locals := ls, stack := .ref T.heap.size :: .ref T.heap.size :: rest, locked := none }) rfl d4' _ hsteps
/-- 'throw new E("text")', the text by a wide index -/
theorem vx_throwSW {cc : ByteArray} {pc : Nat} (hexec : p.tables.exec = Jvm.exec) (hb : c.code = cc) (hl : l.stackTraces = false) {own cls text : String} {names : List String} {ik is ic mc ms sa : Nat} {A : Nat → Prop}
    (hown : s.vm.findClass own = some m.cls) (hcls : Bundle.fit cls = true) (hnames : ∀ n ∈ names, Bundle.fit n = true)
    (hk : (Cond.classLink own ik cls).before args s = true) (hini : (Cond.initialized cls).before args s = true) (hstr : vk_R own is text sa s) (hat : ∀ w ∈ vx_atS own ic cls names, w.before args s = true)
    (hgood : ∀ w ∈ Cond.classLink own ik cls :: Cond.initialized cls :: vx_atS own ic cls names, vx_ot w = true)
    (hU : vx_Zq Bundle.tN "UNASSIGNED_STACK" Bundle.steD A s s.heap) (hN : vx_Zq Bundle.tN "SUPPRESSED_SENTINEL" Bundle.listD A s s.heap) (hS : va_S A s.heap H locs) (hsize : ls.size = c.maxLocals)
    (d0 : decode cc pc = .ok (.new ik, 3)) (d3 : decode cc (pc + 3) = .ok (.dup, 1)) (d4 : decode cc (pc + 4) = .ok (.ldc_w is, 3)) (d7 : decode cc (pc + 7) = .ok (.invokespecial ic, 3)) (d10 : decode cc (pc + 10) = .ok (.athrow, 1))
    (hout : ∀ x ∈ c.exceptionTable.toList, covers x (pc + 10) = false)
    (hRframes : names.length + 3 < R.frames) (hRlocals : (rest.map fun v => v.category).sum + (13 * (names.length + 1) + 43) ≤ R.locals) (hRcells : cells + 1 ≤ R.cells) (hRslots : slots + 6 ≤ R.slots) (hlocks : meth.locks = false)
    (hx : ∀ t : State, s.vm.Alike t.vm → H.size ≤ t.heap.size → (∀ q : Nat, q < H.size → t.heap[q]? = H[q]?) → XC cls s t)
    (hf : ∀ z ∈ locs, free z.base) (hc : cells + 1 ≤ mc) (hs : slots + 6 ≤ ms) :
    W p l e R s m args below meth c H locs cells slots (vx_MQ below Qc XC args s mc ms free) (F0 m pc ls rest) := by
  intro T hT X
  have htr : e.platform.stackTraces = false := (show e.platform.stackTraces = l.stackTraces by rw [X.admits.platform]).trans hl
  have Y := vx_rebase X (R' := { frames := R.frames, locals := R.locals, cells := 1, slots := 6 }) (Nat.le_refl _) (Nat.le_refl _) hRcells hRslots
  obtain ⟨s', hA⟩ : ∃ z, z = (T.setVm s.vm).setFrames (.invoking m args :: below) := ⟨_, rfl⟩
  rw [← hA] at Y
  have hvm : s'.vm = s.vm := by rw [hA]; rfl
  have hhp : s'.heap = H := by rw [hA]; exact hT
  have hW0 : s.WarmedH s'.vm := by rw [hvm]; exact State.WarmedH.refl s
  have hat' : ∀ w ∈ vx_atS own ic cls names, w.before args s' = true := fun w hw => vx_ot_at hW0 hvm.symm (hgood w (List.mem_cons_of_mem _ (List.mem_cons_of_mem _ hw))) (hat w hw)
  have hk' : (Cond.classLink own ik cls).before args s' = true := vx_ot_at hW0 hvm.symm (hgood _ List.mem_cons_self) hk
  have hini' : (Cond.initialized cls).before args s' = true := vx_ot_at hW0 hvm.symm (hgood _ (List.mem_cons_of_mem _ List.mem_cons_self)) hini
  have hU' : vx_Zq Bundle.tN "UNASSIGNED_STACK" Bundle.steD A s' s'.heap := by rw [hhp]; exact vx_Zq.moved hW0.alike (hU.kept hS.2.1)
  have hN' : vx_Zq Bundle.tN "SUPPRESSED_SENTINEL" Bundle.listD A s' s'.heap := by rw [hhp]; exact vx_Zq.moved hW0.alike (hN.kept hS.2.1)
  have h : ∀ w ∈ Bundle.ownAtoms own ic cls names, w.before args s' = true := vx_own hat' (vx_isRefq hU'.1) (vx_isRefq hN'.1) hU'.2.word hN'.2.word
  have hown' : s'.vm.findClass own = some m.cls := by rw [hvm]; exact hown
  have hins : (Cond.instantiable cls 6).before args s' = true := h _ (by simp [Bundle.ownAtoms])
  obtain ⟨vm₁, cX, kX, hfX, hkX, -, -, X₁, st1⟩ := Y.newCold hexec (own := own) (C := cls) (index := ik) (n := 6) hown' hk' hins hini'
    (g := F0 m pc ls rest) rfl (by rw [hb]; exact d0) (Nat.le_refl _) (Nat.le_refl _)
  generalize hT1 : (T.setVm vm₁).pushCell { cls := cX, slots := kX.instanceTypes.map defaultValue, vm := .none } = T1 at X₁ st1
  have hcat : (Value.ref T.heap.size).category = 1 := rfl
  have hcellA : T1.heap[T.heap.size]? = some (freshCell cX kX) := by rw [← hT1]; exact State.heap_pushCell_size _ _
  have d3' : decode c.code (pc + 3) = .ok (.dup, 1) := by rw [hb]; exact d3
  have d4' : decode c.code (pc + 4) = .ok (.ldc_w is, 3) := by rw [hb]; exact d4
  have hstr' : vk_R own is text sa s' := vk_R.warm hW0 hstr
  obtain ⟨U, hsteps, hrun, hend, hW, hsame, ce, hce, hO⟩ := X₁.ctorThrowS hexec htr (own := own) (cls := cls) (names := names) (ic := ic) hown' hcls hnames h (fun x hx => nomatch hx) hfX hkX hcellA (by rw [hhp, hT]; exact Nat.le_refl _) (msg := .ref sa) rfl
    (g := { method := m, pc := pc + 7, locals := ls, stack := .ref sa :: .ref T.heap.size :: .ref T.heap.size :: rest, locked := none }) rfl hsize rfl rfl (rest := rest) rfl
    (by rw [hb]; exact d7) (by rw [hb]; exact d10) hout hRframes (by simp only [List.map_cons, List.sum_cons, hcat]; omega) hlocks
  obtain ⟨f1, f2⟩ := vx_frame hsame
  rw [hhp] at f1 f2
  have hWs : s.WarmedH U.vm := State.WarmedH.trans hW0 hW
  have hcl : s.vm.findClass cls = some ce.cls := by
    have h9 := hO.cls
    rw [hvm] at h9
    exact h9
  have hall : s.sameButNew ({ U with vm := s.vm } : State) locs mc ms := by
    subst hA
    obtain ⟨e1, e2⟩ := hsame
    rw [State.setFrames_setFrames] at e1
    have h2 : (T.setVm s.vm).sameButNew ({ U with vm := s.vm } : State) [] (0 + 1) (0 + 6) := ⟨e1, e2⟩
    have h3 := X.same.trans h2
    rw [List.append_nil] at h3
    exact h3.mono hc hs
  refine ⟨U, ?_, .threw T.heap.size, hrun, hend, Or.inr ⟨T.heap.size, rfl, cls, ce, locs, hx U hWs.alike f1 (fun q hq => f2 q hq (fun z hz => nomatch hz)), hce, hO.vm, hcl, hWs, hall, hf⟩⟩
  refine st1 _ ?_
  show Steps p.tables e below (T1.setTop { method := m, pc := pc + 3, locals := ls, stack := .ref T.heap.size :: rest, locked := none }) _
  jvm_step X₁.here [X₁.here.top, hexec, d3', Value.category]
  exact X₁.ldcStringW hexec (own := own) (text := text) (index := is) (a := sa) hown' hstr'.1 hstr'.2
    (g := { method := m, pc := pc + 4, locals := ls, stack := .ref T.heap.size :: .ref T.heap.size :: rest, locked := none }) rfl d4' _ hsteps
end Ends
section Bodies
variable {l : Launch}
theorem vx_ofW {y : MethodName} {ws ws' : List Cond} {rm : Room} {Pc : Array Value → State → Prop} {Qc : Array Value → State → Outcome → State → Prop} {XC : String → State → State → Prop} {mc ms : Nat} {free : Addr → Prop} {cc : ByteArray} {maxL : Nat} {ret : Option FieldType}
    (hy : plainName y.cls = true) (hw : ws = Cond.code y cc maxL ret :: ws')
    (body : ∀ p e s m args below meth c s₁, BodyLoose p l y (headSpec ws rm) cc maxL ret e s m args below meth c s₁ → c.maxLocals = maxL → (∀ x ∈ c.exceptionTable.toList, False) → Pc args s →
      W p l e (headSpec ws rm).room s m args below meth c s.heap [] 0 0 (vx_MQ below Qc XC args s mc ms free) (entryFrame m args maxL)) : vx_Met l y ws rm Pc Qc XC mc ms free := by
  refine MetFree.of_bodyS (code := cc) (maxLocals := maxL) (ret := ret) hy ?_ ?_
  · intro args s m h hn
    obtain ⟨meth, c, h1, h2, h3, h4, h5, h6, -, -⟩ := Cond.code_spec hn (atoms_spec (ws := ws) h _ (by rw [hw]; exact List.mem_cons_self))
    exact ⟨meth, c, h1, h2, h3, h4, h5, h6⟩
  · intro p e s m args below meth c s₁ B hml hP _
    have hh0 : s₁.heap = s.heap := by rw [B.state]; rfl
    have ht : ∀ x ∈ c.exceptionTable.toList, False := by
      obtain ⟨meth9, c9, h1, h2, -, -, -, -, h7, -⟩ := Cond.code_spec B.named (atoms_spec (ws := ws) B.pre _ (by rw [hw]; exact List.mem_cons_self))
      cases Option.some.inj (h1.symm.trans B.method)
      cases Option.some.inj (h2.symm.trans (Stand.of_body B).code)
      intro x hx
      rw [Array.isEmpty_iff.mp h7] at hx
      cases hx
    obtain ⟨t, a1, o, b1, b2, b3⟩ := body p e s m args below meth c s₁ B hml ht hP s₁ hh0 (Stand.of_body B)
    exact ⟨t, o, a1, b1, b2, b3⟩
/-- the table of a body with handlers -/
theorem vx_table {p : Program} {x y : MethodName} {S : Spec} {cc bytes : ByteArray} {maxL maxL' : Nat} {ret ret' : Option FieldType} {e : Env} {s s₁ : State} {m : MethodId} {args : Array Value} {below : List Frame} {meth : Method} {c : Code} {hh : List (Nat × Nat × Nat × Nat)}
    (B : BodyLoose p l y S cc maxL ret e s m args below meth c s₁) (h : (Cond.codeWith y bytes maxL' ret' hh).before args s = true) : c.exceptionTable.toList = tableOf hh := by
  obtain ⟨m9, meth9, c9, hn9, h1, h2, -, -, h6, -⟩ := Cond.codeWith_spec h
  cases Option.some.inj (hn9.symm.trans B.named)
  cases Option.some.inj (h1.symm.trans B.method)
  cases Option.some.inj (h2.symm.trans (Stand.of_body B).code)
  rw [← h6, table_eq]
end Bodies
end VXA
/-! ===== END ===== -/
/-! ===== BEGIN a static call of a method with an exception table ===== -/
section VXS
variable {p : Program} {l : Launch} {e : Env} {R : Room} {s : State} {m : MethodId} {args : Array Value} {below : List Frame} {meth : Method} {c : Code} {T : State} {H : Heap} {locs : List Loc} {cells slots : Nat}
abbrev vx_CSW (R : Room) (s : State) (args : Array Value) (own : String) (index : Nat) (y : MethodName) (bytes : ByteArray) (maxL : Nat) (ret : Option FieldType) (hh : List (Nat × Nat × Nat × Nat)) (ws : List Cond) (rm : Room) (mc ms n : Nat) : Prop :=
  (rm.cells = mc ∧ rm.slots = ms ∧ rm.frames + 1 ≤ R.frames ∧ 8 + (maxL + 11) + rm.locals ≤ R.locals ∧ (∀ w ∈ ws, ∀ (a' : Array Value) (U : State), s.WarmedH U.vm → w.before a' U = true) ∧ Cond.codeWith y bytes maxL ret hh ∈ ws) ∧
  (Cond.codeWith y bytes maxL ret hh).before args s = true ∧ (Cond.initialized y.cls).before args s = true ∧ (y.cls ≠ "java/lang/invoke/MethodHandle" ∧ y.cls ≠ "java/lang/invoke/VarHandle") ∧
  (∀ sig, parseMethodDescriptor y.desc = some sig → n = sig.parameters.length) ∧ (Cond.methodLink own index y).before args s = true ∧ (Cond.static y).before args s = true
theorem vx_cwSW {own : String} {index maxL mc ms : Nat} {y : MethodName} {bytes : ByteArray} {ret : Option FieldType} {hh : List (Nat × Nat × Nat × Nat)} {Ts ws ws' : List Cond} {rm : Room} (n : Nat) (ht : ∀ w ∈ Ts, w.before args s = true) (hT : GoodIn Ts (va_wsS own index y ws)) (hw : ws = Cond.codeWith y bytes maxL ret hh :: ws') (hrc : rm.cells = mc) (hrs : rm.slots = ms)
    (hd : y.cls ≠ "java/lang/invoke/MethodHandle" ∧ y.cls ≠ "java/lang/invoke/VarHandle" ∧ (parseMethodDescriptor y.desc).map (fun d => d.parameters.length) = some n) (hR : rm.frames + 1 ≤ R.frames ∧ 8 + (maxL + 11) + rm.locals ≤ R.locals) :
    vx_CSW R s args own index y bytes maxL ret hh ws rm mc ms n := by
  have ok : ∀ w ∈ va_wsS own index y ws, w.before args s = true := fun w h => ht w (hT w h).1
  have hG : GoodIn Ts ws := fun w h => hT w (by unfold va_wsS; exact List.mem_append_right _ h)
  have hc : Cond.codeWith y bytes maxL ret hh ∈ ws := by rw [hw]; exact List.mem_cons_self
  refine ⟨⟨hrc, hrs, hR.1, hR.2, pay_in ht hG, hc⟩, ht _ (hG _ hc).1, ok _ (by simp [va_wsS]), ⟨hd.1, hd.2.1⟩, fun sig h => ?_, ok _ (by simp [va_wsS]), ok _ (by simp [va_wsS])⟩
  have h2 := hd.2.2
  rw [h] at h2
  exact (Option.some.inj h2).symm
theorem vx_callSW (X : Stand p l e R s m args below meth c T locs cells slots) (hexec : p.tables.exec = Jvm.exec) {own : String} {index : Nat} {y : MethodName} {bytes : ByteArray} {maxL : Nat} {ret : Option FieldType} {hh : List (Nat × Nat × Nat × Nat)}
    (hown : s.vm.findClass own = some m.cls) (hlink : (Cond.methodLink own index y).before args s = true) (hstat : (Cond.static y).before args s = true) (hinit : (Cond.initialized y.cls).before args s = true)
    (hcode : (Cond.codeWith y bytes maxL ret hh).before args s = true) (hy : y.cls ≠ "java/lang/invoke/MethodHandle" ∧ y.cls ≠ "java/lang/invoke/VarHandle")
    {W9 : Nat} {Pre : Pt → Array Value → Prop} {Post : Pt → Array Value → Option Value → Pt → Prop} (hK : Back l R p e below s args y 3 W9 Pre Post)
    {g : JFrame} (hg : g.method = m) (hsize : g.locals.size = c.maxLocals) {argsL rest : List Value} (hlen : ∀ sig, parseMethodDescriptor y.desc = some sig → argsL.length = sig.parameters.length)
    (hstack : g.stack = argsL.reverse ++ rest) (hW : 2 * g.monitorRoom + (rest.map fun v => v.category).sum ≤ W9) (hdg : decode c.code g.pc = .ok (.invokestatic index, 3))
    (hpre : ∀ vm₁, s.WarmedH vm₁ → Pre ⟨T.setVm vm₁, locs, cells, slots⟩ argsL.toArray) :
    ∃ (v : Option Value) (vm₁ : Vm) (B : Pt), s.WarmedH vm₁ ∧ Stand p l e R s m args below meth c B.U B.locs B.cells B.slots ∧ Post ⟨T.setVm vm₁, locs, cells, slots⟩ argsL.toArray v B ∧
      ∀ target, Steps p.tables e below (B.U.setTop { g with pc := g.pc + 3, stack := v.toList ++ rest }) target → Steps p.tables e below (T.setTop g) target := by
  obtain ⟨mk, methM, cM, hnamed, hmethM, -, -, -, -, -, -, hsigM⟩ := Cond.codeWith_spec hcode
  have hstatic : methM.isStatic = true := Cond.static_spec hnamed hmethM hstat
  obtain ⟨kP, hkP, -⟩ := className_of_methodNamed hnamed
  have hinitP : kP.init = .initialized := Cond.initialized_spec (findClass_of_methodNamed hnamed) hkP hinit
  obtain ⟨vm₁, X₁, hstep₁⟩ := X.invokestatic hexec hown hlink hnamed hmethM hstatic hkP hinitP hy (g := g) hg (argsL := argsL) (rest := rest) (hlen _ hsigM) hstack hdg
  obtain ⟨v, B, X', hpost, hsteps⟩ := hK m meth c ⟨T.setVm vm₁, locs, cells, slots⟩ { g with stack := rest } (.invokestatic index) mk argsL.toArray X₁ hg hsize hdg hW (X₁.named hnamed) (hpre vm₁ X₁.warmed)
  exact ⟨v, vm₁, B, X₁.warmed, X', hpost, fun target h => hstep₁ _ fun acts => by rw [doInvoke_state]; exact hsteps.trans h⟩
theorem vx_runSW {y : MethodName} {bytes cc : ByteArray} {maxL nL mc ms n index : Nat} {ret : Option FieldType} {hh : List (Nat × Nat × Nat × Nat)} {ws : List Cond} {rm : Room} {Pc : Array Value → State → Prop} {Qc : Array Value → State → Outcome → State → Prop} {free : Addr → Prop} {Ts : List Cond} {own : String} {As rest : List Value} {g : JFrame}
    (S : CallFix p m c cc nL s args Ts own) (hM : Met l y ws rm Pc Qc mc ms free) (cw : vx_CSW R s args own index y bytes maxL ret hh ws rm mc ms n) (hp : PreS s H Pc As)
    (hg : g.method = m) (hn : As.length = n) (hsize : g.locals.size = nL) (hstack : g.stack = As.reverse ++ rest) (hW : 2 * g.monitorRoom + (rest.map fun v => v.category).sum ≤ 8) (hdg : decode cc g.pc = .ok (.invokestatic index, 3)) (hf : cells + mc ≤ R.cells ∧ slots + ms ≤ R.slots) :
    va_Run p l e R s m args below meth c H locs cells slots mc ms g rest (Qc As.toArray) (free) := by
  obtain ⟨⟨hrc, hrs, hfr, hlo, hws, hcw⟩, hcode, hini, hy, hlen, hl, hstt⟩ := cw
  have hK : Back l R p e below s args y 3 8 (PreOf R mc ms Pc) (PostOf Qc mc ms free) := va_backW (hh := hh) (bytes := bytes) (maxL := maxL) (ret := ret) hM hp.1 hrc hrs hfr hlo hws hcw (fun a' U hW => word_at hW (Or.inl (by first | rfl | simp [Cond.onTables, Cond.keeps, Cond.steady])) hini)
  obtain ⟨hx, hb, hml, ho, -⟩ := S
  intro T hT X
  obtain ⟨v, vm₁, ⟨U', l2, c2, s2⟩, hW₁, X', ⟨g', mk, t, L, e1, e2, hq, h1, hL, h2, h3⟩, st⟩ := vx_callSW X hx (hh := hh) (bytes := bytes) (maxL := maxL) (ret := ret) ho hl hstt hini hcode hy hK hg (hsize.trans hml.symm) (argsL := As) (rest := rest) (fun sig h => hn.trans (hlen sig h)) hstack hW (by rw [hb]; exact hdg)
    (fun vm₁ hW₁ => ⟨hf.1, hf.2, hp.2 (T.setVm vm₁) hT hW₁⟩)
  dsimp only [Pt.U, Pt.locs, Pt.cells, Pt.slots] at X' e1 e2 h1 h2 h3 st
  subst h1; subst h2; subst h3
  exact ⟨v, (T.setVm vm₁).calling g' mk As.toArray, t, U', L, hT, X', hL, e1, e2, hq, st⟩
/-- not caught here, past rows that name other classes: it goes on to the caller -/
theorem vx_outP {p : Program} {l : Launch} {e : Env} {R : Room} {s : State} {m : MethodId} {args : Array Value} {below : List Frame} {meth : Method} {c : Code} {H : Heap} {locs : List Loc} {cells slots : Nat} {free : Addr → Prop} {ls : Array Slot} {rest : List Value} {Qc : Array Value → State → Outcome → State → Prop} {XC : String → State → State → Prop}
    {pc : Nat} {own E : String} {ce : Cell} {q : Addr} {mc ms : Nat} (hown : s.vm.findClass own = some m.cls) (hlocks : meth.locks = false)
    (hpass : ∀ z ∈ c.exceptionTable.toList, covers z pc = false ∨ (z.catchType ≠ 0 ∧ ∃ nm : String, (Cond.classLink own z.catchType nm).before args s = true ∧ va_Nc E nm s)) (hcell : H[q]? = some ce) (hv : ce.vm = .none) (hcl : s.vm.findClass E = some ce.cls)
    (hx : ∀ t : State, t.heap = H → s.vm.Alike t.vm → XC E s t) (hf : ∀ z ∈ locs, free z.base) (hc : cells ≤ mc) (hs : slots ≤ ms) :
    vx_W p l e R s m args below meth c H locs cells slots (vx_MQ below Qc XC args s mc ms free) (F0 m pc ls rest) q := by
  intro T hT X
  have hpl : e.platform.magicAccessors = ({} : Platform).magicAccessors := by rw [X.admits.platform]
  obtain ⟨vm', hW', X', st⟩ := X.outThrough hlocks q (g := F0 m pc ls rest) rfl rfl rfl (cell := ce) (by rw [hT]; exact hcell) (by rw [hv]; rfl)
    (by obtain ⟨k9, h9, -⟩ := Vm.findClass_spec hcl; exact ⟨k9, h9⟩) (fun z hz => by
      rcases hpass z hz with h | ⟨hz0, nm, hl1, hn1⟩
      · exact Or.inl h
      · obtain ⟨c6, hc6, hcl6⟩ := Cond.classLink_spec hown hl1 e.platform hpl
        obtain ⟨a8, b8, h1, h2, h3⟩ := hn1
        cases Option.some.inj (h1.symm.trans hcl)
        cases Option.some.inj (h2.symm.trans hc6)
        exact Or.inr ⟨hz0, _, hcl6, h3⟩)
  obtain ⟨g₀, hfr⟩ := X'.frames_eq
  have hcell9 : ((T.setVm vm').setFrames (.throwing q :: below)).heap[q]? = some ce := by
    show T.heap[q]? = some ce
    rw [hT]; exact hcell
  have hend : Ended ((T.setVm vm').setFrames (.throwing q :: below)) below (.threw q) := State.frames_setFrames _ (State.cur_lt_of_frames hfr)
  refine ⟨(T.setVm vm').setFrames (.throwing q :: below), ?_, .threw q, X'.here.running, hend, Or.inr ⟨q, rfl, E, ce, locs, hx _ hT (X'.ends _).1.alike, hcell9, hv, hcl, (X'.ends _).1, (X'.ends _).2.mono hc hs, hf⟩⟩
  rw [X.pushThrowing_eq]
  exact st
/-- a thing of a world lies in the heap -/
theorem vx_lt {D : va_G} {cl : List vw_C} {ws : va_W} {H1 : Heap} (h : va_P D cl ws H1) {k : Nat} {q : Nat × va_E} (hk : ws[k]? = some q) : q.1 < H1.size := (h k q hk).lt
end VXS
/-! ===== END ===== -/
/-! ===== BEGIN methods with a table of their own: called by a name, returning or throwing ===== -/
section VXH
/-! vx_backW, vx_callVX, vx_callSX, vx_callVW, vx_runVW, vx_runVX, vx_runSX, vx_ofWH follow the same proofs as their sisters above (Free/Laws.lean, Shelf42/LK1.lean); vx_outP calls Shelf42/NT130.lean (outThrough). -/
section
variable {l : Launch} {R : Room} {p : Program} {e : Env} {below : List Frame} {s : State} {sargs : Array Value} {y : MethodName} {len W9 : Nat}
theorem vx_backW {ws : List Cond} {rm : Room} {Pc : Array Value → State → Prop} {Qc : Array Value → State → Outcome → State → Prop} {XC : String → State → State → Prop} {mc ms : Nat} {free : Addr → Prop} {bytes : ByteArray} {maxL : Nat} {ret : Option FieldType} {hh : List (Nat × Nat × Nat × Nat)}
    (hM : vx_Met l y ws rm Pc Qc XC mc ms free) (hblind : FrameBlind Pc) (hrc : rm.cells = mc) (hrs : rm.slots = ms)
    (hframes : rm.frames + 1 ≤ R.frames) (hlocals : W9 + (maxL + 11) + rm.locals ≤ R.locals)
    (hws : ∀ w ∈ ws, ∀ a' U, s.WarmedH U.vm → w.before a' U = true) (hcode : Cond.codeWith y bytes maxL ret hh ∈ ws) (hinit : ∀ a' U, s.WarmedH U.vm → (Cond.initialized y.cls).before a' U = true) :
    vx_Back l R p e below s sargs y len W9 (PreOf R mc ms Pc) (PostOf Qc mc ms free) (vx_Post XC mc ms free) := by
  intro m meth c A g ig mk a X hg hsize hdg hW hn hp
  have h1 : (headSpec ws rm).pre.before a A.U = true := atoms_intro fun w hw => hws w hw _ _ X.warmed
  have h2 : (Cond.codeWith y bytes maxL ret hh).before a A.U = true := hws _ hcode _ _ X.warmed
  have h3 : (Cond.initialized y.cls).before a A.U = true := hinit _ _ X.warmed
  have h4 : A.cells + (headSpec ws rm).room.cells ≤ R.cells := by rw [show (headSpec ws rm).room.cells = mc from hrc]; exact hp.1
  have h5 : A.slots + (headSpec ws rm).room.slots ≤ R.slots := by rw [show (headSpec ws rm).room.slots = ms from hrs]; exact hp.2.1
  have hPc : Pc a (A.U.calling g mk a) := hblind _ _ _ _ hp.2.2
  obtain ⟨U, Ls, c0, s0⟩ := A
  dsimp only [Pt.U, Pt.locs, Pt.cells, Pt.slots] at h1 h2 h3 h4 h5 X hn hPc ⊢
  obtain ⟨m9, methY, cY, hn9, hmY, hcY, -, hlY, -⟩ := Cond.codeWith_spec h2
  cases Option.some.inj (hn9.symm.trans hn)
  obtain ⟨kY, hkY, -⟩ := className_of_methodNamed hn
  have hinitY : kY.init = .initialized := Cond.initialized_spec (findClass_of_methodNamed hn) hkY h3
  have h : At U g.method c below := by rw [hg]; exact X.here
  have hlocals9 : W9 + (maxL + 11) + (headSpec ws rm).room.locals ≤ R.locals := hlocals
  have happ : (headSpec ws rm).appliesLoose y e.platform (U.calling g mk a) = true :=
    Spec.appliesLoose_calling (g := g) h hdg hn hkY hinitY
      (X.room_calling (g := g) (R' := (headSpec ws rm).room) hsize hmY hcY hframes (by rw [hlY]; omega) h4 h5) h1
  obtain ⟨mid, hmid⟩ := h.above
  have hfr : (U.setTop g).frames = (.java g :: mid) ++ below := by rw [State.frames_setTop' g h.top, hmid]; rfl
  obtain ⟨o, s₂, hsteps, -, hend, hq⟩ := Steps.callFree hM p X.admits X.cas X.clock (acts := []) hfr happ hPc trivial
  have hq' : vx_Q Qc XC mc ms free a (U.calling g mk a) o s₂ := hq
  rw [State.frames_setTop' g h.top] at hend
  obtain ⟨g₀, hg0⟩ := Option.isSome_iff_exists.mp h.top
  obtain ⟨r, hr⟩ := State.topJava?_eq_some.mp hg0
  have hr' : (({ U with heap := s₂.heap, slotsUsed := s₂.slotsUsed } : State).setVm s₂.vm).frames = .java g₀ :: r := hr
  rcases hq' with ⟨hqc, L, hfe, hL⟩ | ⟨q, rfl, E, ce, L, hx, hce, hcv, hcl, hW₂, hsm, hL⟩
  · obtain ⟨⟨v, rfl⟩, hW₂, e2, q2, q3, q4, q5, q6⟩ := id hfe
    have e3 : s₂ = ({ (U.calling g mk a).setFrames s₂.frames with heap := s₂.heap, slotsUsed := s₂.slotsUsed } : State).setVm s₂.vm := by
      have : s₂ = ({ s₂ with vm := (U.calling g mk a).vm } : State).setVm s₂.vm := rfl
      rw [e2] at this
      exact this
    obtain ⟨c₂, i₂, len₂, hc₂, hd₂, hf₂⟩ := hend
    have hW' : U.WarmedH s₂.vm := hW₂
    have hcc : c₂ = c := by
      have h1 : s₂.code? g.method = U.code? g.method := by
        rw [State.code?_eq, State.code?_eq, hW'.alike.method?]
      exact Option.some.inj (hc₂.symm.trans (h1.trans h.code))
    subst hcc
    have hlen : len₂ = len := by rw [hdg] at hd₂; cases hd₂; rfl
    subst hlen
    have hs₂ : s₂ = (({ U with heap := s₂.heap, slotsUsed := s₂.slotsUsed } : State).setVm s₂.vm).setTop { g with pc := g.pc + len₂, stack := v.toList ++ g.stack } := by
      refine e3.trans ?_
      rw [hf₂, State.calling_eq h.top, State.setFrames_setFrames, State.setTop_of_frames _ hr', hr]
      rfl
    have hsame : U.sameButNew ({ U with heap := s₂.heap, slotsUsed := s₂.slotsUsed } : State) L mc ms := by
      refine ⟨?_, q2, q3, q4, q5, q6⟩
      obtain ⟨t, ht, -⟩ := State.frames_cons hr
      show ({ U with heap := s₂.heap, slotsUsed := s₂.slotsUsed } : State) = { U.setFrames U.frames with heap := s₂.heap, slotsUsed := s₂.slotsUsed }
      rw [State.setFrames_self ht]
    subst hg
    refine Or.inl ⟨v, ⟨(({ U with heap := s₂.heap, slotsUsed := s₂.slotsUsed } : State).setVm s₂.vm), Ls ++ L, c0 + mc, s0 + ms⟩,
      ⟨X.admits, X.cas, X.clock, X.frames, X.room, X.hears, X.method, X.code, (X.here.setHeapUsed s₂.heap s₂.slotsUsed).setVm hW'.alike, X.tail, State.WarmedH.trans X.warmed hW', X.limits, X.bytes, X.same.trans (hsame.setVm s.vm)⟩,
      ⟨g, mk, s₂, L, rfl, rfl, hqc, rfl, hL, rfl, rfl⟩, ?_⟩
    show Steps p.tables e below _ ((({ U with heap := s₂.heap, slotsUsed := s₂.slotsUsed } : State).setVm s₂.vm).setTop { g with pc := g.pc + len₂, stack := v.toList ++ g.stack })
    rw [← hs₂]
    exact hsteps
  · obtain ⟨e2, q2, q3, q4, q5, q6⟩ := id hsm
    have e3 : s₂ = ({ (U.calling g mk a).setFrames s₂.frames with heap := s₂.heap, slotsUsed := s₂.slotsUsed } : State).setVm s₂.vm := by
      have : s₂ = ({ s₂ with vm := (U.calling g mk a).vm } : State).setVm s₂.vm := rfl
      rw [e2] at this
      exact this
    have hf₂ : s₂.frames = .throwing q :: .java g :: U.frames.tail := hend
    have hW' : U.WarmedH s₂.vm := hW₂
    have hs₂ : s₂ = ((({ U with heap := s₂.heap, slotsUsed := s₂.slotsUsed } : State).setVm s₂.vm).setTop g).pushFrame (.throwing q) := by
      refine e3.trans ?_
      rw [hf₂, State.calling_eq h.top, State.setFrames_setFrames, State.pushFrame, State.frames_setTop _ hr', State.setTop_of_frames _ hr', State.setFrames_setFrames, hr]
      rfl
    have hsame : U.sameButNew ({ U with heap := s₂.heap, slotsUsed := s₂.slotsUsed } : State) L mc ms := by
      refine ⟨?_, q2, q3, q4, q5, q6⟩
      obtain ⟨t, ht, -⟩ := State.frames_cons hr
      show ({ U with heap := s₂.heap, slotsUsed := s₂.slotsUsed } : State) = { U.setFrames U.frames with heap := s₂.heap, slotsUsed := s₂.slotsUsed }
      rw [State.setFrames_self ht]
    subst hg
    refine Or.inr ⟨q, ⟨(({ U with heap := s₂.heap, slotsUsed := s₂.slotsUsed } : State).setVm s₂.vm), Ls ++ L, c0 + mc, s0 + ms⟩,
      ⟨X.admits, X.cas, X.clock, X.frames, X.room, X.hears, X.method, X.code, (X.here.setHeapUsed s₂.heap s₂.slotsUsed).setVm hW'.alike, X.tail, State.WarmedH.trans X.warmed hW', X.limits, X.bytes, X.same.trans (hsame.setVm s.vm)⟩,
      ⟨g, mk, s₂, L, E, ce, rfl, rfl, hx, hce, hcv, hcl, rfl, hL, rfl, rfl⟩, ?_⟩
    show Steps p.tables e below _ (((({ U with heap := s₂.heap, slotsUsed := s₂.slotsUsed } : State).setVm s₂.vm).setTop g).pushFrame (.throwing q))
    rw [← hs₂]
    exact hsteps
end
variable {p : Program} {l : Launch} {e : Env} {R : Room} {s : State} {m : MethodId} {args : Array Value} {below : List Frame} {meth : Method} {c : Code} {T : State} {H : Heap} {locs : List Loc} {cells slots : Nat}
theorem vx_callVX (X : Stand p l e R s m args below meth c T locs cells slots) (hexec : p.tables.exec = Jvm.exec) {own C : String} {index : Nat} {y : MethodName} {bytes : ByteArray} {maxL : Nat} {ret : Option FieldType} {hh : List (Nat × Nat × Nat × Nat)}
    (hown : s.vm.findClass own = some m.cls) (hlink : (Cond.methodLink own index y).before args s = true) (hinst : (Cond.instanceMethod y).before args s = true) (hsel : (Cond.selects C y y).before args s = true)
    (hcode : (Cond.codeWith y bytes maxL ret hh).before args s = true) (hy : y.cls ≠ "java/lang/invoke/MethodHandle" ∧ y.cls ≠ "java/lang/invoke/VarHandle")
    {W9 : Nat} {Pre : Pt → Array Value → Prop} {Post : Pt → Array Value → Option Value → Pt → Prop} {PostX : Pt → Array Value → Addr → Pt → Prop} (hK : vx_Back l R p e below s args y 3 W9 Pre Post PostX)
    {b : Addr} {cellB : Cell} (hcell : T.heap[b]? = some cellB) (hobj : cellB.vm.isStatics = false) (hcls : s.vm.findClass C = some cellB.cls)
    {g : JFrame} (hg : g.method = m) (hsize : g.locals.size = c.maxLocals) {argsL rest : List Value} (hlen : ∀ sig, parseMethodDescriptor y.desc = some sig → argsL.length = sig.parameters.length)
    (hstack : g.stack = argsL.reverse ++ .ref b :: rest) (hW : 2 * g.monitorRoom + (rest.map fun v => v.category).sum ≤ W9) (hdg : decode c.code g.pc = .ok (.invokevirtual index, 3))
    (hpre : ∀ vm₁, s.WarmedH vm₁ → Pre ⟨T.setVm vm₁, locs, cells, slots⟩ (Value.ref b :: argsL).toArray) :
    (∃ (v : Option Value) (vm₁ : Vm) (B : Pt), s.WarmedH vm₁ ∧ Stand p l e R s m args below meth c B.U B.locs B.cells B.slots ∧ Post ⟨T.setVm vm₁, locs, cells, slots⟩ (Value.ref b :: argsL).toArray v B ∧
      ∀ target, Steps p.tables e below (B.U.setTop { g with pc := g.pc + 3, stack := v.toList ++ rest }) target → Steps p.tables e below (T.setTop g) target) ∨
    (∃ (q : Addr) (vm₁ : Vm) (B : Pt), s.WarmedH vm₁ ∧ Stand p l e R s m args below meth c B.U B.locs B.cells B.slots ∧ PostX ⟨T.setVm vm₁, locs, cells, slots⟩ (Value.ref b :: argsL).toArray q B ∧
      Steps p.tables e below (T.setTop g) ((B.U.setTop { g with stack := rest }).pushFrame (.throwing q))) := by
  obtain ⟨mk, methM, hnamed, hmethM, hstM, habM⟩ := Cond.instanceMethod_spec hinst
  obtain ⟨m8, methM', cM, hn8, hmethM', -, -, -, -, -, -, hsigM⟩ := Cond.codeWith_spec hcode
  cases Option.some.inj (hn8.symm.trans hnamed)
  cases hmethM.symm.trans hmethM'
  obtain ⟨c2, r2, m2, q1, q2, q3, q4, kP, hkP, hkPi⟩ := Cond.selects_spec hsel
  cases hcls.symm.trans q1
  cases (State.methodFound?_of_named hnamed hy).symm.trans q2
  cases hnamed.symm.trans q3
  have hselP : selectMethod e.platform s.vm cellB.cls mk = .method mk := by rw [Launch.admits_selectMethod X.admits]; exact q4
  obtain ⟨vm₁, X₁, hstep₁⟩ := X.invokevirtual hexec hown hlink hnamed hmethM hstM hkP hkPi hy (a := b) (cell := cellB) hcell
    (fun z h => by rw [h] at hobj; cases hobj) hselP hmethM habM hkP hkPi (g := g) hg (argsL := argsL) (rest := rest) (hlen _ hsigM) hstack hdg
  rcases hK m meth c ⟨T.setVm vm₁, locs, cells, slots⟩ { g with stack := rest } (.invokevirtual index) mk (Value.ref b :: argsL).toArray X₁ hg hsize hdg hW (X₁.named hnamed) (hpre vm₁ X₁.warmed) with ⟨v, B, X', hpost, hsteps⟩ | ⟨q, B, X', hpost, hsteps⟩
  · exact Or.inl ⟨v, vm₁, B, X₁.warmed, X', hpost, fun target h => hstep₁ _ fun acts => by rw [doInvoke_state]; exact hsteps.trans h⟩
  · exact Or.inr ⟨q, vm₁, B, X₁.warmed, X', hpost, hstep₁ _ fun acts => by rw [doInvoke_state]; exact hsteps⟩
theorem vx_callSX (X : Stand p l e R s m args below meth c T locs cells slots) (hexec : p.tables.exec = Jvm.exec) {own : String} {index : Nat} {y : MethodName} {bytes : ByteArray} {maxL : Nat} {ret : Option FieldType} {hh : List (Nat × Nat × Nat × Nat)}
    (hown : s.vm.findClass own = some m.cls) (hlink : (Cond.methodLink own index y).before args s = true) (hstat : (Cond.static y).before args s = true) (hinit : (Cond.initialized y.cls).before args s = true)
    (hcode : (Cond.codeWith y bytes maxL ret hh).before args s = true) (hy : y.cls ≠ "java/lang/invoke/MethodHandle" ∧ y.cls ≠ "java/lang/invoke/VarHandle")
    {W9 : Nat} {Pre : Pt → Array Value → Prop} {Post : Pt → Array Value → Option Value → Pt → Prop} {PostX : Pt → Array Value → Addr → Pt → Prop} (hK : vx_Back l R p e below s args y 3 W9 Pre Post PostX)
    {g : JFrame} (hg : g.method = m) (hsize : g.locals.size = c.maxLocals) {argsL rest : List Value} (hlen : ∀ sig, parseMethodDescriptor y.desc = some sig → argsL.length = sig.parameters.length)
    (hstack : g.stack = argsL.reverse ++ rest) (hW : 2 * g.monitorRoom + (rest.map fun v => v.category).sum ≤ W9) (hdg : decode c.code g.pc = .ok (.invokestatic index, 3))
    (hpre : ∀ vm₁, s.WarmedH vm₁ → Pre ⟨T.setVm vm₁, locs, cells, slots⟩ argsL.toArray) :
    (∃ (v : Option Value) (vm₁ : Vm) (B : Pt), s.WarmedH vm₁ ∧ Stand p l e R s m args below meth c B.U B.locs B.cells B.slots ∧ Post ⟨T.setVm vm₁, locs, cells, slots⟩ argsL.toArray v B ∧
      ∀ target, Steps p.tables e below (B.U.setTop { g with pc := g.pc + 3, stack := v.toList ++ rest }) target → Steps p.tables e below (T.setTop g) target) ∨
    (∃ (q : Addr) (vm₁ : Vm) (B : Pt), s.WarmedH vm₁ ∧ Stand p l e R s m args below meth c B.U B.locs B.cells B.slots ∧ PostX ⟨T.setVm vm₁, locs, cells, slots⟩ argsL.toArray q B ∧
      Steps p.tables e below (T.setTop g) ((B.U.setTop { g with stack := rest }).pushFrame (.throwing q))) := by
  obtain ⟨mk, methM, cM, hnamed, hmethM, -, -, -, -, -, -, hsigM⟩ := Cond.codeWith_spec hcode
  have hstatic : methM.isStatic = true := Cond.static_spec hnamed hmethM hstat
  obtain ⟨kP, hkP, -⟩ := className_of_methodNamed hnamed
  have hinitP : kP.init = .initialized := Cond.initialized_spec (findClass_of_methodNamed hnamed) hkP hinit
  obtain ⟨vm₁, X₁, hstep₁⟩ := X.invokestatic hexec hown hlink hnamed hmethM hstatic hkP hinitP hy (g := g) hg (argsL := argsL) (rest := rest) (hlen _ hsigM) hstack hdg
  rcases hK m meth c ⟨T.setVm vm₁, locs, cells, slots⟩ { g with stack := rest } (.invokestatic index) mk argsL.toArray X₁ hg hsize hdg hW (X₁.named hnamed) (hpre vm₁ X₁.warmed) with ⟨v, B, X', hpost, hsteps⟩ | ⟨q, B, X', hpost, hsteps⟩
  · exact Or.inl ⟨v, vm₁, B, X₁.warmed, X', hpost, fun target h => hstep₁ _ fun acts => by rw [doInvoke_state]; exact hsteps.trans h⟩
  · exact Or.inr ⟨q, vm₁, B, X₁.warmed, X', hpost, hstep₁ _ fun acts => by rw [doInvoke_state]; exact hsteps⟩
theorem vx_callVW (X : Stand p l e R s m args below meth c T locs cells slots) (hexec : p.tables.exec = Jvm.exec) {own C : String} {index : Nat} {y : MethodName} {bytes : ByteArray} {maxL : Nat} {ret : Option FieldType} {hh : List (Nat × Nat × Nat × Nat)}
    (hown : s.vm.findClass own = some m.cls) (hlink : (Cond.methodLink own index y).before args s = true) (hinst : (Cond.instanceMethod y).before args s = true) (hsel : (Cond.selects C y y).before args s = true)
    (hcode : (Cond.codeWith y bytes maxL ret hh).before args s = true) (hy : y.cls ≠ "java/lang/invoke/MethodHandle" ∧ y.cls ≠ "java/lang/invoke/VarHandle")
    {W9 : Nat} {Pre : Pt → Array Value → Prop} {Post : Pt → Array Value → Option Value → Pt → Prop} (hK : Back l R p e below s args y 3 W9 Pre Post)
    {b : Addr} {cellB : Cell} (hcell : T.heap[b]? = some cellB) (hobj : cellB.vm.isStatics = false) (hcls : s.vm.findClass C = some cellB.cls)
    {g : JFrame} (hg : g.method = m) (hsize : g.locals.size = c.maxLocals) {argsL rest : List Value} (hlen : ∀ sig, parseMethodDescriptor y.desc = some sig → argsL.length = sig.parameters.length)
    (hstack : g.stack = argsL.reverse ++ .ref b :: rest) (hW : 2 * g.monitorRoom + (rest.map fun v => v.category).sum ≤ W9) (hdg : decode c.code g.pc = .ok (.invokevirtual index, 3))
    (hpre : ∀ vm₁, s.WarmedH vm₁ → Pre ⟨T.setVm vm₁, locs, cells, slots⟩ (Value.ref b :: argsL).toArray) :
    ∃ (v : Option Value) (vm₁ : Vm) (B : Pt), s.WarmedH vm₁ ∧ Stand p l e R s m args below meth c B.U B.locs B.cells B.slots ∧ Post ⟨T.setVm vm₁, locs, cells, slots⟩ (Value.ref b :: argsL).toArray v B ∧
      ∀ target, Steps p.tables e below (B.U.setTop { g with pc := g.pc + 3, stack := v.toList ++ rest }) target → Steps p.tables e below (T.setTop g) target := by
  obtain ⟨mk, methM, hnamed, hmethM, hstM, habM⟩ := Cond.instanceMethod_spec hinst
  obtain ⟨m8, methM', cM, hn8, hmethM', -, -, -, -, -, -, hsigM⟩ := Cond.codeWith_spec hcode
  cases Option.some.inj (hn8.symm.trans hnamed)
  cases hmethM.symm.trans hmethM'
  obtain ⟨c2, r2, m2, q1, q2, q3, q4, kP, hkP, hkPi⟩ := Cond.selects_spec hsel
  cases hcls.symm.trans q1
  cases (State.methodFound?_of_named hnamed hy).symm.trans q2
  cases hnamed.symm.trans q3
  have hselP : selectMethod e.platform s.vm cellB.cls mk = .method mk := by rw [Launch.admits_selectMethod X.admits]; exact q4
  obtain ⟨vm₁, X₁, hstep₁⟩ := X.invokevirtual hexec hown hlink hnamed hmethM hstM hkP hkPi hy (a := b) (cell := cellB) hcell
    (fun z h => by rw [h] at hobj; cases hobj) hselP hmethM habM hkP hkPi (g := g) hg (argsL := argsL) (rest := rest) (hlen _ hsigM) hstack hdg
  obtain ⟨v, B, X', hpost, hsteps⟩ := hK m meth c ⟨T.setVm vm₁, locs, cells, slots⟩ { g with stack := rest } (.invokevirtual index) mk (Value.ref b :: argsL).toArray X₁ hg hsize hdg hW (X₁.named hnamed) (hpre vm₁ X₁.warmed)
  exact ⟨v, vm₁, B, X₁.warmed, X', hpost, fun target h => hstep₁ _ fun acts => by rw [doInvoke_state]; exact hsteps.trans h⟩
abbrev vx_CVW (R : Room) (s : State) (args : Array Value) (own C : String) (index : Nat) (y : MethodName) (bytes : ByteArray) (maxL : Nat) (ret : Option FieldType) (hh : List (Nat × Nat × Nat × Nat)) (ws : List Cond) (rm : Room) (mc ms n : Nat) : Prop :=
  (rm.cells = mc ∧ rm.slots = ms ∧ rm.frames + 1 ≤ R.frames ∧ 8 + (maxL + 11) + rm.locals ≤ R.locals ∧ (∀ w ∈ ws, ∀ (a' : Array Value) (U : State), s.WarmedH U.vm → w.before a' U = true) ∧ Cond.codeWith y bytes maxL ret hh ∈ ws) ∧
  (Cond.codeWith y bytes maxL ret hh).before args s = true ∧ (Cond.initialized y.cls).before args s = true ∧ (y.cls ≠ "java/lang/invoke/MethodHandle" ∧ y.cls ≠ "java/lang/invoke/VarHandle") ∧
  (∀ sig, parseMethodDescriptor y.desc = some sig → n = sig.parameters.length) ∧ (Cond.methodLink own index y).before args s = true ∧ (Cond.instanceMethod y).before args s = true ∧ (Cond.selects C y y).before args s = true
theorem vx_cwVW {own C : String} {index maxL mc ms : Nat} {y : MethodName} {bytes : ByteArray} {ret : Option FieldType} {hh : List (Nat × Nat × Nat × Nat)} {Ts ws ws' : List Cond} {rm : Room} (n : Nat) (ht : ∀ w ∈ Ts, w.before args s = true) (hT : GoodIn Ts (wsV own index C y ws)) (hw : ws = Cond.codeWith y bytes maxL ret hh :: ws') (hrc : rm.cells = mc) (hrs : rm.slots = ms)
    (hd : y.cls = C ∧ y.cls ≠ "java/lang/invoke/MethodHandle" ∧ y.cls ≠ "java/lang/invoke/VarHandle" ∧ (parseMethodDescriptor y.desc).map (fun d => d.parameters.length) = some n) (hR : rm.frames + 1 ≤ R.frames ∧ 8 + (maxL + 11) + rm.locals ≤ R.locals) :
    vx_CVW R s args own C index y bytes maxL ret hh ws rm mc ms n := by
  obtain ⟨hC, hd⟩ := hd
  subst hC
  have ok : ∀ w ∈ wsV own index y.cls y ws, w.before args s = true := fun w h => ht w (hT w h).1
  have hG : GoodIn Ts ws := fun w h => hT w (by unfold wsV; exact List.mem_append_right _ h)
  have hc : Cond.codeWith y bytes maxL ret hh ∈ ws := by rw [hw]; exact List.mem_cons_self
  refine ⟨⟨hrc, hrs, hR.1, hR.2, pay_in ht hG, hc⟩, ht _ (hG _ hc).1, ok _ (by simp [wsV]), ⟨hd.1, hd.2.1⟩, fun sig h => ?_, ok _ (by simp [wsV]), ok _ (by simp [wsV]), ok _ (by simp [wsV])⟩
  have h2 := hd.2.2
  rw [h] at h2
  exact (Option.some.inj h2).symm
theorem vx_runVW {y : MethodName} {bytes cc : ByteArray} {maxL nL mc ms n index : Nat} {ret : Option FieldType} {hh : List (Nat × Nat × Nat × Nat)} {ws : List Cond} {rm : Room} {Pc : Array Value → State → Prop} {Qc : Array Value → State → Outcome → State → Prop} {free : Addr → Prop} {Ts : List Cond} {own C : String} {b : Addr} {As rest : List Value} {g : JFrame}
    (S : CallFix p m c cc nL s args Ts own) (hM : Met l y ws rm Pc Qc mc ms free) (cw : vx_CVW R s args own C index y bytes maxL ret hh ws rm mc ms n) (hp : PreV s H C b Pc As)
    (hg : g.method = m) (hn : As.length = n) (hsize : g.locals.size = nL) (hstack : g.stack = As.reverse ++ .ref b :: rest) (hW : 2 * g.monitorRoom + (rest.map fun v => v.category).sum ≤ 8) (hdg : decode cc g.pc = .ok (.invokevirtual index, 3)) (hf : cells + mc ≤ R.cells ∧ slots + ms ≤ R.slots) :
    va_Run p l e R s m args below meth c H locs cells slots mc ms g rest (Qc (Value.ref b :: As).toArray) free := by
  obtain ⟨⟨hrc, hrs, hfr, hlo, hws, hcw⟩, hcode, hini, hy, hlen, hl, hin, hse⟩ := cw
  have hK : Back l R p e below s args y 3 8 (PreOf R mc ms Pc) (PostOf Qc mc ms free) := va_backW (hh := hh) (bytes := bytes) (maxL := maxL) (ret := ret) hM hp.1 hrc hrs hfr hlo hws hcw (fun a' U hW => word_at hW (Or.inl (by first | rfl | simp [Cond.onTables, Cond.keeps, Cond.steady])) hini)
  obtain ⟨hx, hb, hml, ho, -⟩ := S
  obtain ⟨-, ⟨cellB, hcB, hoB, hclB⟩, hPc⟩ := hp
  intro T hT X
  obtain ⟨v, vm₁, ⟨U', l2, c2, s2⟩, hW₁, X', ⟨g', mk, t, L, e1, e2, hq, h1, hL, h2, h3⟩, st⟩ := vx_callVW X hx (C := C) (hh := hh) (bytes := bytes) (maxL := maxL) (ret := ret) ho hl hin hse hcode hy hK (by rw [hT]; exact hcB) hoB hclB hg (hsize.trans hml.symm) (argsL := As) (rest := rest) (fun sig h => hn.trans (hlen sig h)) hstack hW (by rw [hb]; exact hdg)
    (fun vm₁ hW₁ => ⟨hf.1, hf.2, hPc (T.setVm vm₁) hT hW₁⟩)
  dsimp only [Pt.U, Pt.locs, Pt.cells, Pt.slots] at X' e1 e2 h1 h2 h3 st
  subst h1; subst h2; subst h3
  exact ⟨v, (T.setVm vm₁).calling g' mk (Value.ref b :: As).toArray, t, U', L, hT, X', hL, e1, e2, hq, st⟩
section
variable {y : MethodName} {bytes cc : ByteArray} {maxL nL mc ms n index : Nat} {ret : Option FieldType} {ws : List Cond} {rm : Room} {Pc : Array Value → State → Prop} {Qc : Array Value → State → Outcome → State → Prop} {XC : String → State → State → Prop} {free : Addr → Prop} {Ts : List Cond} {own C : String} {b : Addr} {As rest : List Value} {g : JFrame}
theorem vx_runVX {hh : List (Nat × Nat × Nat × Nat)} (S : CallFix p m c cc nL s args Ts own) (hM : vx_Met l y ws rm Pc Qc XC mc ms free) (cw : vx_CVW R s args own C index y bytes maxL ret hh ws rm mc ms n) (hp : PreV s H C b Pc As)
    (hg : g.method = m) (hn : As.length = n) (hsize : g.locals.size = nL) (hstack : g.stack = As.reverse ++ .ref b :: rest) (hW : 2 * g.monitorRoom + (rest.map fun v => v.category).sum ≤ 8) (hdg : decode cc g.pc = .ok (.invokevirtual index, 3)) (hf : cells + mc ≤ R.cells ∧ slots + ms ≤ R.slots) :
    vx_Run p l e R s m args below meth c H locs cells slots mc ms g rest (Qc (Value.ref b :: As).toArray) XC free := by
  obtain ⟨⟨hrc, hrs, hfr, hlo, hws, hcw⟩, hcode, hini, hy, hlen, hl, hin, hse⟩ := cw
  have hK : vx_Back l R p e below s args y 3 8 (PreOf R mc ms Pc) (PostOf Qc mc ms free) (vx_Post XC mc ms free) := vx_backW (hh := hh) (bytes := bytes) (maxL := maxL) (ret := ret) hM hp.1 hrc hrs hfr hlo hws hcw (fun a' U hW => word_at hW (Or.inl (by first | rfl | simp [Cond.onTables, Cond.keeps, Cond.steady])) hini)
  obtain ⟨hx, hb, hml, ho, -⟩ := S
  obtain ⟨-, ⟨cellB, hcB, hoB, hclB⟩, hPc⟩ := hp
  intro T hT X
  rcases vx_callVX X hx (C := C) (hh := hh) (bytes := bytes) (maxL := maxL) (ret := ret) ho hl hin hse hcode hy hK (by rw [hT]; exact hcB) hoB hclB hg (hsize.trans hml.symm) (argsL := As) (rest := rest) (fun sig h => hn.trans (hlen sig h)) hstack hW (by rw [hb]; exact hdg)
    (fun vm₁ hW₁ => ⟨hf.1, hf.2, hPc (T.setVm vm₁) hT hW₁⟩) with ⟨v, vm₁, ⟨U', l2, c2, s2⟩, hW₁, X', ⟨g', mk, t, L, e1, e2, hq, h1, hL, h2, h3⟩, st⟩ | ⟨q, vm₁, ⟨U', l2, c2, s2⟩, hW₁, X', ⟨g', mk, t, L, E, ce, e1, e2, hq, hce, hcv, hcl, h1, hL, h2, h3⟩, st⟩
  · dsimp only [Pt.U, Pt.locs, Pt.cells, Pt.slots] at X' e1 e2 h1 h2 h3 st
    subst h1; subst h2; subst h3
    exact Or.inl ⟨v, (T.setVm vm₁).calling g' mk (Value.ref b :: As).toArray, t, U', L, hT, X', hL, e1, e2, hq, st⟩
  · dsimp only [Pt.U, Pt.locs, Pt.cells, Pt.slots] at X' e1 e2 h1 h2 h3 st hcl
    subst h1; subst h2; subst h3
    exact Or.inr ⟨q, (T.setVm vm₁).calling g' mk (Value.ref b :: As).toArray, t, U', L, E, ce, hT, X', hL, e1, e2, hq, hce, hcv, vx_cls hW₁ hcl, st⟩
theorem vx_runSX {hh : List (Nat × Nat × Nat × Nat)} (S : CallFix p m c cc nL s args Ts own) (hM : vx_Met l y ws rm Pc Qc XC mc ms free) (cw : vx_CSW R s args own index y bytes maxL ret hh ws rm mc ms n) (hp : PreS s H Pc As)
    (hg : g.method = m) (hn : As.length = n) (hsize : g.locals.size = nL) (hstack : g.stack = As.reverse ++ rest) (hW : 2 * g.monitorRoom + (rest.map fun v => v.category).sum ≤ 8) (hdg : decode cc g.pc = .ok (.invokestatic index, 3)) (hf : cells + mc ≤ R.cells ∧ slots + ms ≤ R.slots) :
    vx_Run p l e R s m args below meth c H locs cells slots mc ms g rest (Qc As.toArray) XC free := by
  obtain ⟨⟨hrc, hrs, hfr, hlo, hws, hcw⟩, hcode, hini, hy, hlen, hl, hstt⟩ := cw
  have hK : vx_Back l R p e below s args y 3 8 (PreOf R mc ms Pc) (PostOf Qc mc ms free) (vx_Post XC mc ms free) := vx_backW (hh := hh) (bytes := bytes) (maxL := maxL) (ret := ret) hM hp.1 hrc hrs hfr hlo hws hcw (fun a' U hW => word_at hW (Or.inl (by first | rfl | simp [Cond.onTables, Cond.keeps, Cond.steady])) hini)
  obtain ⟨hx, hb, hml, ho, -⟩ := S
  intro T hT X
  rcases vx_callSX X hx (hh := hh) (bytes := bytes) (maxL := maxL) (ret := ret) ho hl hstt hini hcode hy hK hg (hsize.trans hml.symm) (argsL := As) (rest := rest) (fun sig h => hn.trans (hlen sig h)) hstack hW (by rw [hb]; exact hdg)
    (fun vm₁ hW₁ => ⟨hf.1, hf.2, hp.2 (T.setVm vm₁) hT hW₁⟩) with ⟨v, vm₁, ⟨U', l2, c2, s2⟩, hW₁, X', ⟨g', mk, t, L, e1, e2, hq, h1, hL, h2, h3⟩, st⟩ | ⟨q, vm₁, ⟨U', l2, c2, s2⟩, hW₁, X', ⟨g', mk, t, L, E, ce, e1, e2, hq, hce, hcv, hcl, h1, hL, h2, h3⟩, st⟩
  · dsimp only [Pt.U, Pt.locs, Pt.cells, Pt.slots] at X' e1 e2 h1 h2 h3 st
    subst h1; subst h2; subst h3
    exact Or.inl ⟨v, (T.setVm vm₁).calling g' mk As.toArray, t, U', L, hT, X', hL, e1, e2, hq, st⟩
  · dsimp only [Pt.U, Pt.locs, Pt.cells, Pt.slots] at X' e1 e2 h1 h2 h3 st hcl
    subst h1; subst h2; subst h3
    exact Or.inr ⟨q, (T.setVm vm₁).calling g' mk As.toArray, t, U', L, E, ce, hT, X', hL, e1, e2, hq, hce, hcv, vx_cls hW₁ hcl, st⟩
end
end VXH
theorem vx_ofWH {l : Launch} {y : MethodName} {ws ws' : List Cond} {rm : Room} {Pc : Array Value → State → Prop} {Qc : Array Value → State → Outcome → State → Prop} {XC : String → State → State → Prop} {mc ms : Nat} {free : Addr → Prop} {cc : ByteArray} {maxL : Nat} {ret : Option FieldType} {hh : List (Nat × Nat × Nat × Nat)}
    (hy : plainName y.cls = true) (hw : ws = Cond.codeWith y cc maxL ret hh :: ws')
    (body : ∀ p e s m args below meth c s₁, BodyLoose p l y (headSpec ws rm) cc maxL ret e s m args below meth c s₁ → c.maxLocals = maxL → Pc args s →
      W p l e (headSpec ws rm).room s m args below meth c s.heap [] 0 0 (vx_MQ below Qc XC args s mc ms free) (entryFrame m args maxL)) : vx_Met l y ws rm Pc Qc XC mc ms free := by
  refine MetFree.of_bodyS (code := cc) (maxLocals := maxL) (ret := ret) hy ?_ ?_
  · intro args s m h hn
    obtain ⟨m9, meth, c, hn9, h1, h2, h3, h4, -, h5, h6, -⟩ := Cond.codeWith_spec (atoms_spec (ws := ws) h _ (by rw [hw]; exact List.mem_cons_self))
    cases hn.symm.trans hn9
    exact ⟨meth, c, h1, h2, h3, h4, h5, h6⟩
  · intro p e s m args below meth c s₁ B hml hP _
    have hh0 : s₁.heap = s.heap := by rw [B.state]; rfl
    obtain ⟨t, a1, o, b1, b2, b3⟩ := body p e s m args below meth c s₁ B hml hP s₁ hh0 (Stand.of_body B)
    exact ⟨t, o, a1, b1, b2, b3⟩
/-! ===== END ===== -/
end
section
/-! ===== BEGIN printed: names, fields, word lists, decode rows ===== -/
def RX0 : String := "DiceForge$Draws"
def TX0 : u_T := fun k => match k with
  | 0 => ("DiceForge$Draws", "state", "I", false)
  | _ => ("DiceForge$Draws", "rejected", "I", false)
def tyX0 : Nat → FieldType := fun k => match k with
  | 0 => .int
  | _ => .int
abbrev wsX00 : List Cond := u_ws RX0 TX0 2
theorem nmX0 : ∀ a, a < 2 → ∀ b, b < 2 → a ≠ b → (TX0 a).2.1 ≠ (TX0 b).2.1 := by decide +kernel
theorem tyX0_ok : ∀ k, k < 2 → parseFieldDescriptor (TX0 k).2.2.1 = some (tyX0 k) := by decide +kernel
abbrev cX0_init : ByteArray := prog_2_method_1_code
def yX0_init : MethodName := ⟨RX0, "<init>", "(I)V"⟩
abbrev cX0_nextValue : ByteArray := prog_2_method_2_code
def yX0_nextValue : MethodName := ⟨RX0, "nextValue", "(II)I"⟩
abbrev cX0_draw : ByteArray := prog_2_method_3_code
def yX0_draw : MethodName := ⟨RX0, "draw", "(I)V"⟩
def RX1 : String := "DiceForge$Entry"
def TX1 : u_T := fun k => match k with
  | 0 => ("DiceForge$Entry", "promise", "I", true)
  | 1 => ("DiceForge$Entry", "table", "I", true)
  | 2 => ("DiceForge$Entry", "part", "I", true)
  | 3 => ("DiceForge$Entry", "faces", "I", true)
  | 4 => ("DiceForge$Entry", "value", "I", false)
  | 5 => ("DiceForge$Entry", "rejected", "I", false)
  | 6 => ("DiceForge$Entry", "sum", "I", false)
  | _ => ("DiceForge$Entry", "struck", "Z", false)
def tyX1 : Nat → FieldType := fun k => match k with
  | 0 => .int
  | 1 => .int
  | 2 => .int
  | 3 => .int
  | 4 => .int
  | 5 => .int
  | 6 => .int
  | _ => .boolean
abbrev wsX10 : List Cond := u_ws RX1 TX1 8
theorem nmX1 : ∀ a, a < 8 → ∀ b, b < 8 → a ≠ b → (TX1 a).2.1 ≠ (TX1 b).2.1 := by decide +kernel
theorem tyX1_ok : ∀ k, k < 8 → parseFieldDescriptor (TX1 k).2.2.1 = some (tyX1 k) := by decide +kernel
abbrev cX1_init : ByteArray := prog_3_method_1_code
def yX1_init : MethodName := ⟨RX1, "<init>", "(IIII)V"⟩
abbrev cX1_sumAfter : ByteArray := prog_3_method_2_code
def yX1_sumAfter : MethodName := ⟨RX1, "sumAfter", "(I)I"⟩
abbrev cX1_countsFor : ByteArray := prog_3_method_3_code
def yX1_countsFor : MethodName := ⟨RX1, "countsFor", "(I)Z"⟩
def RX2 : String := "DiceForge$Promise"
def TX2 : u_T := fun k => match k with
  | 0 => ("DiceForge$Promise", "seed", "I", true)
  | 1 => ("DiceForge$Promise", "draws", "LDiceForge$Draws;", true)
  | 2 => ("DiceForge$Promise", "opened", "Z", false)
  | _ => ("DiceForge$Promise", "disputed", "Z", false)
def tyX2 : Nat → FieldType := fun k => match k with
  | 0 => .int
  | 1 => .object "DiceForge$Draws"
  | 2 => .boolean
  | _ => .boolean
abbrev wsX20 : List Cond := u_ws RX2 TX2 4
theorem nmX2 : ∀ a, a < 4 → ∀ b, b < 4 → a ≠ b → (TX2 a).2.1 ≠ (TX2 b).2.1 := by decide +kernel
theorem tyX2_ok : ∀ k, k < 4 → parseFieldDescriptor (TX2 k).2.2.1 = some (tyX2 k) := by decide +kernel
abbrev cX2_init : ByteArray := prog_4_method_1_code
def yX2_init : MethodName := ⟨RX2, "<init>", "(I)V"⟩
def RX3 : String := "DiceForge"
def TX3 : u_T := fun k => match k with
  | 0 => ("DiceForge", "promises", "Ljava/util/ArrayList;", true)
  | 1 => ("DiceForge", "log", "Ljava/util/ArrayList;", true)
  | 2 => ("DiceForge", "parts", "[I", true)
  | _ => ("DiceForge", "tally", "[I", true)
def tyX3 : Nat → FieldType := fun k => match k with
  | 0 => .object "java/util/ArrayList"
  | 1 => .object "java/util/ArrayList"
  | 2 => .array .int
  | _ => .array .int
abbrev wsX30 : List Cond := u_ws RX3 TX3 4
theorem nmX3 : ∀ a, a < 4 → ∀ b, b < 4 → a ≠ b → (TX3 a).2.1 ≠ (TX3 b).2.1 := by decide +kernel
theorem tyX3_ok : ∀ k, k < 4 → parseFieldDescriptor (TX3 k).2.2.1 = some (tyX3 k) := by decide +kernel
abbrev cX3_init : ByteArray := prog_1_method_1_code
def yX3_init : MethodName := ⟨RX3, "<init>", "()V"⟩
abbrev cX3_promise : ByteArray := prog_1_method_2_code
def yX3_promise : MethodName := ⟨RX3, "promise", "(I)I"⟩
abbrev cX3_sign : ByteArray := prog_1_method_3_code
def yX3_sign : MethodName := ⟨RX3, "sign", "(I)I"⟩
abbrev cX3_seedsOf : ByteArray := prog_1_method_4_code
def yX3_seedsOf : MethodName := ⟨RX3, "seedsOf", "(I)I"⟩
abbrev cX3_open : ByteArray := prog_1_method_5_code
def yX3_open : MethodName := ⟨RX3, "open", "(I)I"⟩
abbrev cX3_isOpened : ByteArray := prog_1_method_6_code
def yX3_isOpened : MethodName := ⟨RX3, "isOpened", "(I)Z"⟩
abbrev cX3_setPart : ByteArray := prog_1_method_7_code
def yX3_setPart : MethodName := ⟨RX3, "setPart", "(II)I"⟩
abbrev cX3_roll : ByteArray := prog_1_method_8_code
def yX3_roll : MethodName := ⟨RX3, "roll", "(III)I"⟩
abbrev cX3_entries : ByteArray := prog_1_method_9_code
def yX3_entries : MethodName := ⟨RX3, "entries", "()I"⟩
abbrev cX3_value : ByteArray := prog_1_method_10_code
def yX3_value : MethodName := ⟨RX3, "value", "(I)I"⟩
abbrev cX3_rejected : ByteArray := prog_1_method_11_code
def yX3_rejected : MethodName := ⟨RX3, "rejected", "(I)I"⟩
abbrev cX3_sum : ByteArray := prog_1_method_12_code
def yX3_sum : MethodName := ⟨RX3, "sum", "(I)I"⟩
abbrev cX3_alter : ByteArray := prog_1_method_13_code
def yX3_alter : MethodName := ⟨RX3, "alter", "(II)I"⟩
abbrev cX3_broken : ByteArray := prog_1_method_14_code
def yX3_broken : MethodName := ⟨RX3, "broken", "()I"⟩
abbrev cX3_found : ByteArray := prog_1_method_15_code
def yX3_found : MethodName := ⟨RX3, "found", "(I)I"⟩
abbrev cX3_wrong : ByteArray := prog_1_method_16_code
def yX3_wrong : MethodName := ⟨RX3, "wrong", "(I)I"⟩
abbrev cX3_dispute : ByteArray := prog_1_method_17_code
def yX3_dispute : MethodName := ⟨RX3, "dispute", "(I)I"⟩
abbrev cX3_isStruck : ByteArray := prog_1_method_18_code
def yX3_isStruck : MethodName := ⟨RX3, "isStruck", "(I)Z"⟩
abbrev cX3_count : ByteArray := prog_1_method_19_code
def yX3_count : MethodName := ⟨RX3, "count", "(II)I"⟩
abbrev cX3_uneven : ByteArray := prog_1_method_20_code
def yX3_uneven : MethodName := ⟨RX3, "uneven", "(I)J"⟩
abbrev cX3_total : ByteArray := prog_1_method_21_code
def yX3_total : MethodName := ⟨RX3, "total", "(I)I"⟩
abbrev cX3_promiseAt : ByteArray := prog_1_method_22_code
def yX3_promiseAt : MethodName := ⟨RX3, "promiseAt", "(I)LDiceForge$Promise;"⟩
abbrev cX3_openedAt : ByteArray := prog_1_method_23_code
def yX3_openedAt : MethodName := ⟨RX3, "openedAt", "(I)LDiceForge$Promise;"⟩
abbrev cX3_entryAt : ByteArray := prog_1_method_24_code
def yX3_entryAt : MethodName := ⟨RX3, "entryAt", "(I)LDiceForge$Entry;"⟩
abbrev cX3_requireTable : ByteArray := prog_1_method_25_code
def yX3_requireTable : MethodName := ⟨RX3, "requireTable", "(I)V"⟩
abbrev cX3_requireFaces : ByteArray := prog_1_method_26_code
def yX3_requireFaces : MethodName := ⟨RX3, "requireFaces", "(I)V"⟩
abbrev cX3_requireValue : ByteArray := prog_1_method_27_code
def yX3_requireValue : MethodName := ⟨RX3, "requireValue", "(II)V"⟩
abbrev cX3_seedsWithRemainder : ByteArray := prog_1_method_28_code
def yX3_seedsWithRemainder : MethodName := ⟨RX3, "seedsWithRemainder", "(I)I"⟩
abbrev cX3_lastSum : ByteArray := prog_1_method_29_code
def yX3_lastSum : MethodName := ⟨RX3, "lastSum", "()I"⟩
abbrev cX3_firstWrong : ByteArray := prog_1_method_30_code
def yX3_firstWrong : MethodName := ⟨RX3, "firstWrong", "(II)I"⟩
abbrev cX3_strikeFrom : ByteArray := prog_1_method_31_code
def yX3_strikeFrom : MethodName := ⟨RX3, "strikeFrom", "(II)I"⟩
abbrev cX3_tallyValues : ByteArray := prog_1_method_32_code
def yX3_tallyValues : MethodName := ⟨RX3, "tallyValues", "(I)I"⟩
def RX4 : String := "DiceForgeModel"
def TX4 : u_T := fun k => match k with
  | _ => ("", "", "", false)
def tyX4 : Nat → FieldType := fun k => match k with
  | _ => .int
abbrev wsX40 : List Cond := u_ws RX4 TX4 0
theorem nmX4 : ∀ a, a < 0 → ∀ b, b < 0 → a ≠ b → (TX4 a).2.1 ≠ (TX4 b).2.1 := by decide +kernel
theorem tyX4_ok : ∀ k, k < 0 → parseFieldDescriptor (TX4 k).2.2.1 = some (tyX4 k) := by decide +kernel
def RJx145de : String := "java/io/Serializable"
def TJx145de : u_T := fun k => match k with
  | _ => ("", "", "", false)
def tyJx145de : Nat → FieldType := fun k => match k with
  | _ => .int
abbrev wsJx145de0 : List Cond := u_ws RJx145de TJx145de 0
theorem nmJx145de : ∀ a, a < 0 → ∀ b, b < 0 → a ≠ b → (TJx145de a).2.1 ≠ (TJx145de b).2.1 := by decide +kernel
theorem tyJx145de_ok : ∀ k, k < 0 → parseFieldDescriptor (TJx145de k).2.2.1 = some (tyJx145de k) := by decide +kernel
def RJx8e188 : String := "java/lang/Cloneable"
def TJx8e188 : u_T := fun k => match k with
  | _ => ("", "", "", false)
def tyJx8e188 : Nat → FieldType := fun k => match k with
  | _ => .int
abbrev wsJx8e1880 : List Cond := u_ws RJx8e188 TJx8e188 0
theorem nmJx8e188 : ∀ a, a < 0 → ∀ b, b < 0 → a ≠ b → (TJx8e188 a).2.1 ≠ (TJx8e188 b).2.1 := by decide +kernel
theorem tyJx8e188_ok : ∀ k, k < 0 → parseFieldDescriptor (TJx8e188 k).2.2.1 = some (tyJx8e188 k) := by decide +kernel
def RJxab1ab : String := "java/lang/Iterable"
def TJxab1ab : u_T := fun k => match k with
  | _ => ("", "", "", false)
def tyJxab1ab : Nat → FieldType := fun k => match k with
  | _ => .int
abbrev wsJxab1ab0 : List Cond := u_ws RJxab1ab TJxab1ab 0
theorem nmJxab1ab : ∀ a, a < 0 → ∀ b, b < 0 → a ≠ b → (TJxab1ab a).2.1 ≠ (TJxab1ab b).2.1 := by decide +kernel
theorem tyJxab1ab_ok : ∀ k, k < 0 → parseFieldDescriptor (TJxab1ab k).2.2.1 = some (tyJxab1ab k) := by decide +kernel
def RJ9 : String := "java/lang/Math"
def TJ9 : u_T := fun k => match k with
  | _ => ("", "", "", false)
def tyJ9 : Nat → FieldType := fun k => match k with
  | _ => .int
abbrev wsJ90 : List Cond := u_ws RJ9 TJ9 0
theorem nmJ9 : ∀ a, a < 0 → ∀ b, b < 0 → a ≠ b → (TJ9 a).2.1 ≠ (TJ9 b).2.1 := by decide +kernel
theorem tyJ9_ok : ∀ k, k < 0 → parseFieldDescriptor (TJ9 k).2.2.1 = some (tyJ9 k) := by decide +kernel
abbrev cJ9_floorMod_7cf53 : ByteArray := prog_14_method_50_code
def yJ9_floorMod_7cf53 : MethodName := ⟨RJ9, "floorMod", "(II)I"⟩
abbrev cJ9_max_7cf53 : ByteArray := prog_14_method_65_code
def yJ9_max_7cf53 : MethodName := ⟨RJ9, "max", "(II)I"⟩
abbrev cJ9_min_7cf53 : ByteArray := prog_14_method_69_code
def yJ9_min_7cf53 : MethodName := ⟨RJ9, "min", "(II)I"⟩
def RJ0 : String := "java/lang/String"
def TJ0 : u_T := fun k => match k with
  | _ => ("", "", "", false)
def tyJ0 : Nat → FieldType := fun k => match k with
  | _ => .int
abbrev wsJ00 : List Cond := u_ws RJ0 TJ0 0
theorem nmJ0 : ∀ a, a < 0 → ∀ b, b < 0 → a ≠ b → (TJ0 a).2.1 ≠ (TJ0 b).2.1 := by decide +kernel
theorem tyJ0_ok : ∀ k, k < 0 → parseFieldDescriptor (TJ0 k).2.2.1 = some (tyJ0 k) := by decide +kernel
def RJ10 : String := "java/lang/System"
def TJ10 : u_T := fun k => match k with
  | _ => ("", "", "", false)
def tyJ10 : Nat → FieldType := fun k => match k with
  | _ => .int
abbrev wsJ100 : List Cond := u_ws RJ10 TJ10 0
theorem nmJ10 : ∀ a, a < 0 → ∀ b, b < 0 → a ≠ b → (TJ10 a).2.1 ≠ (TJ10 b).2.1 := by decide +kernel
theorem tyJ10_ok : ∀ k, k < 0 → parseFieldDescriptor (TJ10 k).2.2.1 = some (tyJ10 k) := by decide +kernel
def RJxa1e45 : String := "java/util/AbstractCollection"
def TJxa1e45 : u_T := fun k => match k with
  | _ => ("", "", "", false)
def tyJxa1e45 : Nat → FieldType := fun k => match k with
  | _ => .int
abbrev wsJxa1e450 : List Cond := u_ws RJxa1e45 TJxa1e45 0
theorem nmJxa1e45 : ∀ a, a < 0 → ∀ b, b < 0 → a ≠ b → (TJxa1e45 a).2.1 ≠ (TJxa1e45 b).2.1 := by decide +kernel
theorem tyJxa1e45_ok : ∀ k, k < 0 → parseFieldDescriptor (TJxa1e45 k).2.2.1 = some (tyJxa1e45 k) := by decide +kernel
abbrev cJxa1e45_init_da8c8 : ByteArray := prog_19_method_1_code
def yJxa1e45_init_da8c8 : MethodName := ⟨RJxa1e45, "<init>", "()V"⟩
def RJxc12de : String := "java/util/AbstractList"
def TJxc12de : u_T := fun k => match k with
  | _ => ("", "", "", false)
def tyJxc12de : Nat → FieldType := fun k => match k with
  | _ => .int
abbrev wsJxc12de0 : List Cond := u_ws RJxc12de TJxc12de 0
theorem nmJxc12de : ∀ a, a < 0 → ∀ b, b < 0 → a ≠ b → (TJxc12de a).2.1 ≠ (TJxc12de b).2.1 := by decide +kernel
theorem tyJxc12de_ok : ∀ k, k < 0 → parseFieldDescriptor (TJxc12de k).2.2.1 = some (tyJxc12de k) := by decide +kernel
abbrev cJxc12de_init_da8c8 : ByteArray := prog_20_method_1_code
def yJxc12de_init_da8c8 : MethodName := ⟨RJxc12de, "<init>", "()V"⟩
def RJx4a65c : String := "java/util/ArrayList"
def TJx4a65c : u_T := fun k => match k with
  | 0 => ("java/util/AbstractList", "modCount", "I", false)
  | 1 => ("java/util/ArrayList", "elementData", "[Ljava/lang/Object;", false)
  | _ => ("java/util/ArrayList", "size", "I", false)
def tyJx4a65c : Nat → FieldType := fun k => match k with
  | 0 => .int
  | 1 => .array (.object "java/lang/Object")
  | _ => .int
abbrev wsJx4a65c0 : List Cond := u_ws RJx4a65c TJx4a65c 3
theorem nmJx4a65c : ∀ a, a < 3 → ∀ b, b < 3 → a ≠ b → (TJx4a65c a).2.1 ≠ (TJx4a65c b).2.1 := by decide +kernel
theorem tyJx4a65c_ok : ∀ k, k < 3 → parseFieldDescriptor (TJx4a65c k).2.2.1 = some (tyJx4a65c k) := by decide +kernel
abbrev cJx4a65c_init_da8c8 : ByteArray := prog_21_method_2_code
def yJx4a65c_init_da8c8 : MethodName := ⟨RJx4a65c, "<init>", "()V"⟩
abbrev cJx4a65c_grow_92f84 : ByteArray := prog_21_method_6_code
def yJx4a65c_grow_92f84 : MethodName := ⟨RJx4a65c, "grow", "(I)[Ljava/lang/Object;"⟩
abbrev cJx4a65c_grow_d5877 : ByteArray := prog_21_method_7_code
def yJx4a65c_grow_d5877 : MethodName := ⟨RJx4a65c, "grow", "()[Ljava/lang/Object;"⟩
abbrev cJx4a65c_size_8abf5 : ByteArray := prog_21_method_8_code
def yJx4a65c_size_8abf5 : MethodName := ⟨RJx4a65c, "size", "()I"⟩
abbrev cJx4a65c_isEmpty_aae02 : ByteArray := prog_21_method_9_code
def yJx4a65c_isEmpty_aae02 : MethodName := ⟨RJx4a65c, "isEmpty", "()Z"⟩
abbrev cJx4a65c_elementData_915e3 : ByteArray := prog_21_method_18_code
def yJx4a65c_elementData_915e3 : MethodName := ⟨RJx4a65c, "elementData", "(I)Ljava/lang/Object;"⟩
abbrev cJx4a65c_get_915e3 : ByteArray := prog_21_method_20_code
def yJx4a65c_get_915e3 : MethodName := ⟨RJx4a65c, "get", "(I)Ljava/lang/Object;"⟩
abbrev cJx4a65c_add_72be8 : ByteArray := prog_21_method_24_code
def yJx4a65c_add_72be8 : MethodName := ⟨RJx4a65c, "add", "(Ljava/lang/Object;[Ljava/lang/Object;I)V"⟩
abbrev cJx4a65c_add_9ea2d : ByteArray := prog_21_method_25_code
def yJx4a65c_add_9ea2d : MethodName := ⟨RJx4a65c, "add", "(Ljava/lang/Object;)Z"⟩
def RJ7 : String := "java/util/Arrays"
def TJ7 : u_T := fun k => match k with
  | _ => ("", "", "", false)
def tyJ7 : Nat → FieldType := fun k => match k with
  | _ => .int
abbrev wsJ70 : List Cond := u_ws RJ7 TJ7 0
theorem nmJ7 : ∀ a, a < 0 → ∀ b, b < 0 → a ≠ b → (TJ7 a).2.1 ≠ (TJ7 b).2.1 := by decide +kernel
theorem tyJ7_ok : ∀ k, k < 0 → parseFieldDescriptor (TJ7 k).2.2.1 = some (tyJ7 k) := by decide +kernel
abbrev cJ7_fill_53178 : ByteArray := prog_22_method_103_code
def yJ7_fill_53178 : MethodName := ⟨RJ7, "fill", "([II)V"⟩
abbrev cJ7_copyOf_1904c : ByteArray := prog_22_method_119_code
def yJ7_copyOf_1904c : MethodName := ⟨RJ7, "copyOf", "([Ljava/lang/Object;I)[Ljava/lang/Object;"⟩
abbrev cJ7_copyOf_6403c : ByteArray := prog_22_method_120_code
def yJ7_copyOf_6403c : MethodName := ⟨RJ7, "copyOf", "([Ljava/lang/Object;ILjava/lang/Class;)[Ljava/lang/Object;"⟩
def RJx5ef63 : String := "java/util/Collection"
def TJx5ef63 : u_T := fun k => match k with
  | _ => ("", "", "", false)
def tyJx5ef63 : Nat → FieldType := fun k => match k with
  | _ => .int
abbrev wsJx5ef630 : List Cond := u_ws RJx5ef63 TJx5ef63 0
theorem nmJx5ef63 : ∀ a, a < 0 → ∀ b, b < 0 → a ≠ b → (TJx5ef63 a).2.1 ≠ (TJx5ef63 b).2.1 := by decide +kernel
theorem tyJx5ef63_ok : ∀ k, k < 0 → parseFieldDescriptor (TJx5ef63 k).2.2.1 = some (tyJx5ef63 k) := by decide +kernel
def RJxbd725 : String := "java/util/List"
def TJxbd725 : u_T := fun k => match k with
  | _ => ("", "", "", false)
def tyJxbd725 : Nat → FieldType := fun k => match k with
  | _ => .int
abbrev wsJxbd7250 : List Cond := u_ws RJxbd725 TJxbd725 0
theorem nmJxbd725 : ∀ a, a < 0 → ∀ b, b < 0 → a ≠ b → (TJxbd725 a).2.1 ≠ (TJxbd725 b).2.1 := by decide +kernel
theorem tyJxbd725_ok : ∀ k, k < 0 → parseFieldDescriptor (TJxbd725 k).2.2.1 = some (tyJxbd725 k) := by decide +kernel
def RJ15 : String := "java/util/Objects"
def TJ15 : u_T := fun k => match k with
  | _ => ("", "", "", false)
def tyJ15 : Nat → FieldType := fun k => match k with
  | _ => .int
abbrev wsJ150 : List Cond := u_ws RJ15 TJ15 0
theorem nmJ15 : ∀ a, a < 0 → ∀ b, b < 0 → a ≠ b → (TJ15 a).2.1 ≠ (TJ15 b).2.1 := by decide +kernel
theorem tyJ15_ok : ∀ k, k < 0 → parseFieldDescriptor (TJ15 k).2.2.1 = some (tyJ15 k) := by decide +kernel
abbrev cJ15_checkIndex_7cf53 : ByteArray := prog_25_method_17_code
def yJ15_checkIndex_7cf53 : MethodName := ⟨RJ15, "checkIndex", "(II)I"⟩
def RJxf0a74 : String := "java/util/RandomAccess"
def TJxf0a74 : u_T := fun k => match k with
  | _ => ("", "", "", false)
def tyJxf0a74 : Nat → FieldType := fun k => match k with
  | _ => .int
abbrev wsJxf0a740 : List Cond := u_ws RJxf0a74 TJxf0a74 0
theorem nmJxf0a74 : ∀ a, a < 0 → ∀ b, b < 0 → a ≠ b → (TJxf0a74 a).2.1 ≠ (TJxf0a74 b).2.1 := by decide +kernel
theorem tyJxf0a74_ok : ∀ k, k < 0 → parseFieldDescriptor (TJxf0a74 k).2.2.1 = some (tyJxf0a74 k) := by decide +kernel
def RJxa66e6 : String := "java/util/SequencedCollection"
def TJxa66e6 : u_T := fun k => match k with
  | _ => ("", "", "", false)
def tyJxa66e6 : Nat → FieldType := fun k => match k with
  | _ => .int
abbrev wsJxa66e60 : List Cond := u_ws RJxa66e6 TJxa66e6 0
theorem nmJxa66e6 : ∀ a, a < 0 → ∀ b, b < 0 → a ≠ b → (TJxa66e6 a).2.1 ≠ (TJxa66e6 b).2.1 := by decide +kernel
theorem tyJxa66e6_ok : ∀ k, k < 0 → parseFieldDescriptor (TJxa66e6 k).2.2.1 = some (tyJxa66e6 k) := by decide +kernel
def RJ8 : String := "jdk/internal/util/ArraysSupport"
def TJ8 : u_T := fun k => match k with
  | _ => ("", "", "", false)
def tyJ8 : Nat → FieldType := fun k => match k with
  | _ => .int
abbrev wsJ80 : List Cond := u_ws RJ8 TJ8 0
theorem nmJ8 : ∀ a, a < 0 → ∀ b, b < 0 → a ≠ b → (TJ8 a).2.1 ≠ (TJ8 b).2.1 := by decide +kernel
theorem tyJ8_ok : ∀ k, k < 0 → parseFieldDescriptor (TJ8 k).2.2.1 = some (tyJ8 k) := by decide +kernel
abbrev cJ8_newLength_cabcc : ByteArray := prog_28_method_27_code
def yJ8_newLength_cabcc : MethodName := ⟨RJ8, "newLength", "(III)I"⟩
abbrev cJ8_hugeLength_7cf53 : ByteArray := prog_28_method_28_code
def yJ8_hugeLength_7cf53 : MethodName := ⟨RJ8, "hugeLength", "(II)I"⟩
def RJ3 : String := "jdk/internal/util/Preconditions"
def TJ3 : u_T := fun k => match k with
  | _ => ("", "", "", false)
def tyJ3 : Nat → FieldType := fun k => match k with
  | _ => .int
abbrev wsJ30 : List Cond := u_ws RJ3 TJ3 0
theorem nmJ3 : ∀ a, a < 0 → ∀ b, b < 0 → a ≠ b → (TJ3 a).2.1 ≠ (TJ3 b).2.1 := by decide +kernel
theorem tyJ3_ok : ∀ k, k < 0 → parseFieldDescriptor (TJ3 k).2.2.1 = some (tyJ3 k) := by decide +kernel
abbrev cJ3_checkIndex_8e157 : ByteArray := prog_29_method_11_code
def yJ3_checkIndex_8e157 : MethodName := ⟨RJ3, "checkIndex", "(IILjava/util/function/BiFunction;)I"⟩
def RL : String := "DiceForgeLaw"
abbrev cL_cell : ByteArray := method_2_code
def yL_cell : MethodName := ⟨RL, "cell", "([II)I"⟩
abbrev cL_low : ByteArray := method_3_code
def yL_low : MethodName := ⟨RL, "low", "(II)I"⟩
abbrev cL_calls : ByteArray := method_4_code
def yL_calls : MethodName := ⟨RL, "calls", "(LDiceForge;IIII)I"⟩
abbrev cL_sign : ByteArray := method_5_code
def yL_sign : MethodName := ⟨RL, "sign", "(I)I"⟩
abbrev cL_rolls : ByteArray := method_6_code
def yL_rolls : MethodName := ⟨RL, "rolls", "(III[I)I"⟩
abbrev cL_sum : ByteArray := method_7_code
def yL_sum : MethodName := ⟨RL, "sum", "(I[I[I[I[I[I)I"⟩
abbrev cL_again : ByteArray := method_8_code
def yL_again : MethodName := ⟨RL, "again", "(I[I[I[I[I[I)I"⟩
abbrev cL_wrong : ByteArray := method_9_code
def yL_wrong : MethodName := ⟨RL, "wrong", "(I[I[I[I[I[I[I)I"⟩
abbrev cL_uneven : ByteArray := method_10_code
def yL_uneven : MethodName := ⟨RL, "uneven", "(I[I[I[I)J"⟩
abbrev cL_count : ByteArray := method_11_code
def yL_count : MethodName := ⟨RL, "count", "(II[I[I[I)I"⟩
abbrev cL_isSo : ByteArray := method_12_code
def yL_isSo : MethodName := ⟨RL, "isSo", "(LDiceForge;I[I[I[I[I[I[I[I[I)Z"⟩
abbrev cL_seeds : ByteArray := method_13_code
def yL_seeds : MethodName := ⟨RL, "seeds", "(LDiceForge;I[I)Z"⟩
abbrev cL_law : ByteArray := code
def yL_law : MethodName := ⟨RL, "law", "([I)Z"⟩
abbrev vwCl : List vw_C := [(RJx4a65c, TJx4a65c, 3), (RX0, TX0, 2), (RX1, TX1, 8), (RX2, TX2, 4), (RX3, TX3, 4)]
end
section
/-! MY OWN LAYER, 0: one list of words for all contracts: the good words of the tables, and each by its place (written by wip/p23/gen_names.py) -/
def zc_W0 : List Cond := [(Jvm.Cond.selects "java/lang/Throwable" ⟨"java/lang/Throwable", "fillInStackTrace", "(I)Ljava/lang/Throwable;"⟩ ⟨"java/lang/Throwable", "fillInStackTrace", "(I)Ljava/lang/Throwable;"⟩), (Jvm.Cond.selects "java/util/ArrayList" ⟨"java/util/ArrayList", "add", "(Ljava/lang/Object;[Ljava/lang/Object;I)V"⟩ ⟨"java/util/ArrayList", "add", "(Ljava/lang/Object;[Ljava/lang/Object;I)V"⟩), (Jvm.Cond.selects "java/util/ArrayList" ⟨"java/util/ArrayList", "grow", "()[Ljava/lang/Object;"⟩ ⟨"java/util/ArrayList", "grow", "()[Ljava/lang/Object;"⟩), (Jvm.Cond.selects "java/util/ArrayList" ⟨"java/util/ArrayList", "grow", "(I)[Ljava/lang/Object;"⟩ ⟨"java/util/ArrayList", "grow", "(I)[Ljava/lang/Object;"⟩), (Jvm.Cond.selects "DiceForge" ⟨"DiceForge", "promiseAt", "(I)LDiceForge$Promise;"⟩ ⟨"DiceForge", "promiseAt", "(I)LDiceForge$Promise;"⟩), (Jvm.Cond.selects "DiceForge$Draws" ⟨"DiceForge$Draws", "nextValue", "(II)I"⟩ ⟨"DiceForge$Draws", "nextValue", "(II)I"⟩), (Jvm.Cond.selects "DiceForge$Draws" ⟨"DiceForge$Draws", "draw", "(I)V"⟩ ⟨"DiceForge$Draws", "draw", "(I)V"⟩), (Jvm.Cond.selects "DiceForge" ⟨"DiceForge", "lastSum", "()I"⟩ ⟨"DiceForge", "lastSum", "()I"⟩), (Jvm.Cond.selects "DiceForge$Entry" ⟨"DiceForge$Entry", "sumAfter", "(I)I"⟩ ⟨"DiceForge$Entry", "sumAfter", "(I)I"⟩), (Jvm.Cond.selects "DiceForge" ⟨"DiceForge", "entryAt", "(I)LDiceForge$Entry;"⟩ ⟨"DiceForge", "entryAt", "(I)LDiceForge$Entry;"⟩), (Jvm.Cond.selects "DiceForge" ⟨"DiceForge", "openedAt", "(I)LDiceForge$Promise;"⟩ ⟨"DiceForge", "openedAt", "(I)LDiceForge$Promise;"⟩), (Jvm.Cond.selects "DiceForge" ⟨"DiceForge", "firstWrong", "(II)I"⟩ ⟨"DiceForge", "firstWrong", "(II)I"⟩), (Jvm.Cond.selects "DiceForge" ⟨"DiceForge", "strikeFrom", "(II)I"⟩ ⟨"DiceForge", "strikeFrom", "(II)I"⟩), (Jvm.Cond.selects "DiceForge" ⟨"DiceForge", "tallyValues", "(I)I"⟩ ⟨"DiceForge", "tallyValues", "(I)I"⟩), (Jvm.Cond.selects "DiceForge$Entry" ⟨"DiceForge$Entry", "countsFor", "(I)Z"⟩ ⟨"DiceForge$Entry", "countsFor", "(I)Z"⟩), (Jvm.Cond.initialized "DiceForgeLaw"), (Jvm.Cond.initialized "DiceForge"), (Jvm.Cond.initialized "java/util/AbstractCollection"), (Jvm.Cond.initialized "java/util/AbstractList"), (Jvm.Cond.initialized "java/util/ArrayList"), (Jvm.Cond.initialized "java/lang/Throwable"), (Jvm.Cond.initialized "java/lang/Exception"), (Jvm.Cond.initialized "java/lang/RuntimeException"), (Jvm.Cond.initialized "java/lang/IllegalArgumentException"), (Jvm.Cond.initialized "java/lang/IllegalStateException"), (Jvm.Cond.initialized "DiceForge$Promise"), (Jvm.Cond.initialized "DiceForge$Draws"), (Jvm.Cond.initialized "jdk/internal/util/ArraysSupport"), (Jvm.Cond.initialized "java/lang/Math"), (Jvm.Cond.initialized "java/util/Arrays"), (Jvm.Cond.initialized "java/lang/System"), (Jvm.Cond.initialized "java/lang/IndexOutOfBoundsException"), (Jvm.Cond.initialized "java/util/Objects"), (Jvm.Cond.initialized "jdk/internal/util/Preconditions"), (Jvm.Cond.initialized "DiceForge$Entry"), (Jvm.Cond.classLink "DiceForgeLaw" (11 : Nat) "DiceForge"), (Jvm.Cond.instantiable "DiceForge" (4 : Nat)), (Jvm.Cond.methodLink "DiceForgeLaw" (113 : Nat) ({ cls := "DiceForge", name := "<init>", desc := "()V" } : Jvm.MethodName)), (Jvm.Cond.instanceMethod ({ cls := "DiceForge", name := "<init>", desc := "()V" } : Jvm.MethodName)), (Jvm.Cond.code ({ cls := "DiceForge", name := "<init>", desc := "()V" } : Jvm.MethodName) prog_1_method_1_code (1 : Nat) (Option.none : Option Jvm.ClassFile.FieldType)), (Jvm.Cond.methodLink "DiceForge" (1 : Nat) ({ cls := "java/lang/Object", name := "<init>", desc := "()V" } : Jvm.MethodName)), (Jvm.Cond.instanceMethod ({ cls := "java/lang/Object", name := "<init>", desc := "()V" } : Jvm.MethodName)), (Jvm.Cond.code ({ cls := "java/lang/Object", name := "<init>", desc := "()V" } : Jvm.MethodName) object_method_1_code (1 : Nat) (Option.none : Option Jvm.ClassFile.FieldType)), (Jvm.Cond.classLink "DiceForge" (7 : Nat) "java/util/ArrayList"), (Jvm.Cond.instantiable "java/util/ArrayList" (3 : Nat)), (Jvm.Cond.methodLink "DiceForge" (9 : Nat) ({ cls := "java/util/ArrayList", name := "<init>", desc := "()V" } : Jvm.MethodName)), (Jvm.Cond.instanceMethod ({ cls := "java/util/ArrayList", name := "<init>", desc := "()V" } : Jvm.MethodName)), (Jvm.Cond.code ({ cls := "java/util/ArrayList", name := "<init>", desc := "()V" } : Jvm.MethodName) prog_21_method_2_code (1 : Nat) (Option.none : Option Jvm.ClassFile.FieldType)), (Jvm.Cond.methodLink "java/util/ArrayList" (1 : Nat) ({ cls := "java/util/AbstractList", name := "<init>", desc := "()V" } : Jvm.MethodName)), (Jvm.Cond.instanceMethod ({ cls := "java/util/AbstractList", name := "<init>", desc := "()V" } : Jvm.MethodName)), (Jvm.Cond.code ({ cls := "java/util/AbstractList", name := "<init>", desc := "()V" } : Jvm.MethodName) prog_20_method_1_code (1 : Nat) (Option.none : Option Jvm.ClassFile.FieldType)), (Jvm.Cond.methodLink "java/util/AbstractList" (1 : Nat) ({ cls := "java/util/AbstractCollection", name := "<init>", desc := "()V" } : Jvm.MethodName)), (Jvm.Cond.instanceMethod ({ cls := "java/util/AbstractCollection", name := "<init>", desc := "()V" } : Jvm.MethodName)), (Jvm.Cond.code ({ cls := "java/util/AbstractCollection", name := "<init>", desc := "()V" } : Jvm.MethodName) prog_19_method_1_code (1 : Nat) (Option.none : Option Jvm.ClassFile.FieldType)), (Jvm.Cond.methodLink "java/util/AbstractCollection" (1 : Nat) ({ cls := "java/lang/Object", name := "<init>", desc := "()V" } : Jvm.MethodName)), (Jvm.Cond.fieldLink "java/util/ArrayList" (39 : Nat) "java/util/ArrayList" "DEFAULTCAPACITY_EMPTY_ELEMENTDATA" "[Ljava/lang/Object;"), (Jvm.Cond.fieldLink "java/util/ArrayList" (9 : Nat) "java/util/ArrayList" "elementData" "[Ljava/lang/Object;"), (Jvm.Cond.fieldLink "java/util/ArrayList" (48 : Nat) "java/util/ArrayList" "size" "I"), (Jvm.Cond.fieldLink "java/util/AbstractList" (7 : Nat) "java/util/AbstractList" "modCount" "I"), (Jvm.Cond.fieldLink "java/util/ArrayList" (63 : Nat) "java/util/ArrayList" "modCount" "I"), (Jvm.Cond.sameField "java/util/ArrayList" "java/util/AbstractList" "modCount" "I"), (Jvm.Cond.lays "java/util/ArrayList" "java/util/ArrayList" "elementData" "[Ljava/lang/Object;"), (Jvm.Cond.soleField "java/util/ArrayList" "elementData"), (Jvm.Cond.lays "java/util/ArrayList" "java/util/ArrayList" "size" "I"), (Jvm.Cond.soleField "java/util/ArrayList" "size"), (Jvm.Cond.lays "java/util/ArrayList" "java/util/AbstractList" "modCount" "I"), (Jvm.Cond.soleField "java/util/AbstractList" "modCount"), (Jvm.Cond.superclass "java/util/ArrayList" "java/util/AbstractList"), (Jvm.Cond.fieldLink "DiceForge" (10 : Nat) "DiceForge" "promises" "Ljava/util/ArrayList;"), (Jvm.Cond.fieldLink "DiceForge" (16 : Nat) "DiceForge" "log" "Ljava/util/ArrayList;"), (Jvm.Cond.fieldLink "DiceForge" (19 : Nat) "DiceForge" "parts" "[I"), (Jvm.Cond.fieldLink "DiceForge" (23 : Nat) "DiceForge" "tally" "[I"), (Jvm.Cond.laysFinal "DiceForge" "DiceForge" "promises" "Ljava/util/ArrayList;"), (Jvm.Cond.soleField "DiceForge" "promises"), (Jvm.Cond.laysFinal "DiceForge" "DiceForge" "log" "Ljava/util/ArrayList;"), (Jvm.Cond.soleField "DiceForge" "log"), (Jvm.Cond.laysFinal "DiceForge" "DiceForge" "parts" "[I"), (Jvm.Cond.soleField "DiceForge" "parts"), (Jvm.Cond.laysFinal "DiceForge" "DiceForge" "tally" "[I"), (Jvm.Cond.soleField "DiceForge" "tally")]
def zc_W1 : List Cond := [(Jvm.Cond.superclass "DiceForge" "java/lang/Object"), (Jvm.Cond.arrayClass Jvm.ClassFile.FieldType.int), (Jvm.Cond.methodLink "DiceForgeLaw" (118 : Nat) ({ cls := "DiceForge", name := "promise", desc := "(I)I" } : Jvm.MethodName)), (Jvm.Cond.instanceMethod ({ cls := "DiceForge", name := "promise", desc := "(I)I" } : Jvm.MethodName)), (Jvm.Cond.selects "DiceForge" ({ cls := "DiceForge", name := "promise", desc := "(I)I" } : Jvm.MethodName) ({ cls := "DiceForge", name := "promise", desc := "(I)I" } : Jvm.MethodName)), (Jvm.Cond.code ({ cls := "DiceForge", name := "promise", desc := "(I)I" } : Jvm.MethodName) prog_1_method_2_code (2 : Nat) (Option.some Jvm.ClassFile.FieldType.int)), (Jvm.Cond.constant "DiceForge" (26 : Nat) (65536 : Int32)), (Jvm.Cond.classLink "DiceForge" (27 : Nat) "java/lang/IllegalArgumentException"), (Jvm.Cond.instantiable "java/lang/IllegalArgumentException" (6 : Nat)), (Jvm.Cond.selects "java/lang/IllegalArgumentException" ({ cls := "java/lang/Throwable", name := "fillInStackTrace", desc := "(I)Ljava/lang/Throwable;" } : Jvm.MethodName) ({ cls := "java/lang/Throwable", name := "fillInStackTrace", desc := "(I)Ljava/lang/Throwable;" } : Jvm.MethodName)), (Jvm.Cond.selects "java/lang/IllegalArgumentException" ({ cls := "java/lang/Throwable", name := "fillInStackTrace", desc := "()Ljava/lang/Throwable;" } : Jvm.MethodName) ({ cls := "java/lang/Throwable", name := "fillInStackTrace", desc := "()Ljava/lang/Throwable;" } : Jvm.MethodName)), (Jvm.Cond.lays "java/lang/IllegalArgumentException" "java/lang/Throwable" "cause" "Ljava/lang/Throwable;"), (Jvm.Cond.lays "java/lang/Throwable" "java/lang/Throwable" "cause" "Ljava/lang/Throwable;"), (Jvm.Cond.lays "java/lang/IllegalArgumentException" "java/lang/Throwable" "stackTrace" "[Ljava/lang/StackTraceElement;"), (Jvm.Cond.lays "java/lang/Throwable" "java/lang/Throwable" "stackTrace" "[Ljava/lang/StackTraceElement;"), (Jvm.Cond.lays "java/lang/IllegalArgumentException" "java/lang/Throwable" "suppressedExceptions" "Ljava/util/List;"), (Jvm.Cond.lays "java/lang/Throwable" "java/lang/Throwable" "suppressedExceptions" "Ljava/util/List;"), (Jvm.Cond.lays "java/lang/IllegalArgumentException" "java/lang/Throwable" "detailMessage" "Ljava/lang/String;"), (Jvm.Cond.lays "java/lang/Throwable" "java/lang/Throwable" "detailMessage" "Ljava/lang/String;"), (Jvm.Cond.lays "java/lang/IllegalArgumentException" "java/lang/Throwable" "backtrace" "Ljava/lang/Object;"), (Jvm.Cond.lays "java/lang/Throwable" "java/lang/Throwable" "backtrace" "Ljava/lang/Object;"), (Jvm.Cond.fieldLink "java/lang/Throwable" (198 : Nat) "java/lang/Throwable" "backtrace" "Ljava/lang/Object;"), (Jvm.Cond.superclass "java/lang/Throwable" "java/lang/Object"), (Jvm.Cond.instanceMethod ({ cls := "java/lang/Throwable", name := "<init>", desc := "()V" } : Jvm.MethodName)), (Jvm.Cond.code ({ cls := "java/lang/Throwable", name := "<init>", desc := "()V" } : Jvm.MethodName) prog_18_method_1_code (1 : Nat) (Option.none : Option Jvm.ClassFile.FieldType)), (Jvm.Cond.methodLink "java/lang/Throwable" (1 : Nat) ({ cls := "java/lang/Object", name := "<init>", desc := "()V" } : Jvm.MethodName)), (Jvm.Cond.fieldLink "java/lang/Throwable" (13 : Nat) "java/lang/Throwable" "UNASSIGNED_STACK" "[Ljava/lang/StackTraceElement;"), (Jvm.Cond.fieldLink "java/lang/Throwable" (20 : Nat) "java/lang/Throwable" "SUPPRESSED_SENTINEL" "Ljava/util/List;"), (Jvm.Cond.methodLink "java/lang/Throwable" (27 : Nat) ({ cls := "java/lang/Throwable", name := "fillInStackTrace", desc := "()Ljava/lang/Throwable;" } : Jvm.MethodName)), (Jvm.Cond.instanceMethod ({ cls := "java/lang/Throwable", name := "fillInStackTrace", desc := "()Ljava/lang/Throwable;" } : Jvm.MethodName)), (Jvm.Cond.sameMethod "java/lang/Throwable" "java/lang/Throwable" "fillInStackTrace" "()Ljava/lang/Throwable;"), (Jvm.Cond.selects "java/lang/IllegalStateException" ({ cls := "java/lang/Throwable", name := "fillInStackTrace", desc := "()Ljava/lang/Throwable;" } : Jvm.MethodName) ({ cls := "java/lang/Throwable", name := "fillInStackTrace", desc := "()Ljava/lang/Throwable;" } : Jvm.MethodName)), (Jvm.Cond.selects "java/lang/IndexOutOfBoundsException" ({ cls := "java/lang/Throwable", name := "fillInStackTrace", desc := "()Ljava/lang/Throwable;" } : Jvm.MethodName) ({ cls := "java/lang/Throwable", name := "fillInStackTrace", desc := "()Ljava/lang/Throwable;" } : Jvm.MethodName)), (Jvm.Cond.codeSync ({ cls := "java/lang/Throwable", name := "fillInStackTrace", desc := "()Ljava/lang/Throwable;" } : Jvm.MethodName) prog_18_method_18_code (1 : Nat) (Option.some (Jvm.ClassFile.FieldType.object "java/lang/Throwable"))), (Jvm.Cond.methodLink "java/lang/Throwable" (202 : Nat) ({ cls := "java/lang/Throwable", name := "fillInStackTrace", desc := "(I)Ljava/lang/Throwable;" } : Jvm.MethodName)), (Jvm.Cond.instanceMethod ({ cls := "java/lang/Throwable", name := "fillInStackTrace", desc := "(I)Ljava/lang/Throwable;" } : Jvm.MethodName)), (Jvm.Cond.instantiable "java/lang/Throwable" (6 : Nat)), (Jvm.Cond.native ({ cls := "java/lang/Throwable", name := "fillInStackTrace", desc := "(I)Ljava/lang/Throwable;" } : Jvm.MethodName)), (Jvm.Cond.methodLink "DiceForge" (31 : Nat) ({ cls := "java/lang/IllegalArgumentException", name := "<init>", desc := "(Ljava/lang/String;)V" } : Jvm.MethodName)), (Jvm.Cond.instanceMethod ({ cls := "java/lang/IllegalArgumentException", name := "<init>", desc := "(Ljava/lang/String;)V" } : Jvm.MethodName)), (Jvm.Cond.code ({ cls := "java/lang/IllegalArgumentException", name := "<init>", desc := "(Ljava/lang/String;)V" } : Jvm.MethodName) prog_10_method_2_code (2 : Nat) (Option.none : Option Jvm.ClassFile.FieldType)), (Jvm.Cond.methodLink "java/lang/IllegalArgumentException" (7 : Nat) ({ cls := "java/lang/RuntimeException", name := "<init>", desc := "(Ljava/lang/String;)V" } : Jvm.MethodName)), (Jvm.Cond.instanceMethod ({ cls := "java/lang/RuntimeException", name := "<init>", desc := "(Ljava/lang/String;)V" } : Jvm.MethodName)), (Jvm.Cond.code ({ cls := "java/lang/RuntimeException", name := "<init>", desc := "(Ljava/lang/String;)V" } : Jvm.MethodName) prog_15_method_2_code (2 : Nat) (Option.none : Option Jvm.ClassFile.FieldType)), (Jvm.Cond.methodLink "java/lang/RuntimeException" (7 : Nat) ({ cls := "java/lang/Exception", name := "<init>", desc := "(Ljava/lang/String;)V" } : Jvm.MethodName)), (Jvm.Cond.instanceMethod ({ cls := "java/lang/Exception", name := "<init>", desc := "(Ljava/lang/String;)V" } : Jvm.MethodName)), (Jvm.Cond.code ({ cls := "java/lang/Exception", name := "<init>", desc := "(Ljava/lang/String;)V" } : Jvm.MethodName) prog_9_method_2_code (2 : Nat) (Option.none : Option Jvm.ClassFile.FieldType)), (Jvm.Cond.methodLink "java/lang/Exception" (7 : Nat) ({ cls := "java/lang/Throwable", name := "<init>", desc := "(Ljava/lang/String;)V" } : Jvm.MethodName)), (Jvm.Cond.instanceMethod ({ cls := "java/lang/Throwable", name := "<init>", desc := "(Ljava/lang/String;)V" } : Jvm.MethodName)), (Jvm.Cond.code ({ cls := "java/lang/Throwable", name := "<init>", desc := "(Ljava/lang/String;)V" } : Jvm.MethodName) prog_18_method_2_code (2 : Nat) (Option.none : Option Jvm.ClassFile.FieldType)), (Jvm.Cond.fieldLink "java/lang/Throwable" (198 : Nat) "java/lang/Throwable" "backtrace" "Ljava/lang/Object;"), (Jvm.Cond.fieldLink "java/lang/Throwable" (31 : Nat) "java/lang/Throwable" "detailMessage" "Ljava/lang/String;"), (Jvm.Cond.fieldLink "java/lang/Throwable" (7 : Nat) "java/lang/Throwable" "cause" "Ljava/lang/Throwable;"), (Jvm.Cond.fieldLink "java/lang/Throwable" (17 : Nat) "java/lang/Throwable" "stackTrace" "[Ljava/lang/StackTraceElement;"), (Jvm.Cond.fieldLink "java/lang/Throwable" (24 : Nat) "java/lang/Throwable" "suppressedExceptions" "Ljava/util/List;"), (Jvm.Cond.soleField "java/lang/Throwable" "backtrace"), (Jvm.Cond.soleField "java/lang/Throwable" "detailMessage"), (Jvm.Cond.soleField "java/lang/Throwable" "cause"), (Jvm.Cond.soleField "java/lang/Throwable" "stackTrace"), (Jvm.Cond.lays "java/lang/IllegalArgumentException" "java/lang/Throwable" "depth" "I"), (Jvm.Cond.soleField "java/lang/Throwable" "depth"), (Jvm.Cond.soleField "java/lang/Throwable" "suppressedExceptions"), (Jvm.Cond.superclass "java/lang/IllegalArgumentException" "java/lang/RuntimeException"), (Jvm.Cond.arrayClass Jvm.ClassFile.FieldType.byte), (Jvm.Cond.methodLink "DiceForge" (34 : Nat) ({ cls := "java/util/ArrayList", name := "size", desc := "()I" } : Jvm.MethodName)), (Jvm.Cond.instanceMethod ({ cls := "java/util/ArrayList", name := "size", desc := "()I" } : Jvm.MethodName)), (Jvm.Cond.selects "java/util/ArrayList" ({ cls := "java/util/ArrayList", name := "size", desc := "()I" } : Jvm.MethodName) ({ cls := "java/util/ArrayList", name := "size", desc := "()I" } : Jvm.MethodName)), (Jvm.Cond.code ({ cls := "java/util/ArrayList", name := "size", desc := "()I" } : Jvm.MethodName) prog_21_method_8_code (1 : Nat) (Option.some Jvm.ClassFile.FieldType.int)), (Jvm.Cond.classLink "DiceForge" (38 : Nat) "java/lang/IllegalStateException"), (Jvm.Cond.instantiable "java/lang/IllegalStateException" (6 : Nat)), (Jvm.Cond.selects "java/lang/IllegalStateException" ({ cls := "java/lang/Throwable", name := "fillInStackTrace", desc := "(I)Ljava/lang/Throwable;" } : Jvm.MethodName) ({ cls := "java/lang/Throwable", name := "fillInStackTrace", desc := "(I)Ljava/lang/Throwable;" } : Jvm.MethodName)), (Jvm.Cond.lays "java/lang/IllegalStateException" "java/lang/Throwable" "cause" "Ljava/lang/Throwable;"), (Jvm.Cond.lays "java/lang/IllegalStateException" "java/lang/Throwable" "stackTrace" "[Ljava/lang/StackTraceElement;"), (Jvm.Cond.lays "java/lang/IllegalStateException" "java/lang/Throwable" "suppressedExceptions" "Ljava/util/List;"), (Jvm.Cond.lays "java/lang/IllegalStateException" "java/lang/Throwable" "detailMessage" "Ljava/lang/String;"), (Jvm.Cond.lays "java/lang/IllegalStateException" "java/lang/Throwable" "backtrace" "Ljava/lang/Object;"), (Jvm.Cond.methodLink "DiceForge" (42 : Nat) ({ cls := "java/lang/IllegalStateException", name := "<init>", desc := "(Ljava/lang/String;)V" } : Jvm.MethodName)), (Jvm.Cond.instanceMethod ({ cls := "java/lang/IllegalStateException", name := "<init>", desc := "(Ljava/lang/String;)V" } : Jvm.MethodName)), (Jvm.Cond.code ({ cls := "java/lang/IllegalStateException", name := "<init>", desc := "(Ljava/lang/String;)V" } : Jvm.MethodName) prog_11_method_2_code (2 : Nat) (Option.none : Option Jvm.ClassFile.FieldType)), (Jvm.Cond.methodLink "java/lang/IllegalStateException" (7 : Nat) ({ cls := "java/lang/RuntimeException", name := "<init>", desc := "(Ljava/lang/String;)V" } : Jvm.MethodName))]
def zc_W2 : List Cond := [(Jvm.Cond.lays "java/lang/IllegalStateException" "java/lang/Throwable" "depth" "I"), (Jvm.Cond.superclass "java/lang/IllegalStateException" "java/lang/RuntimeException"), (Jvm.Cond.classLink "DiceForge" (43 : Nat) "DiceForge$Promise"), (Jvm.Cond.instantiable "DiceForge$Promise" (4 : Nat)), (Jvm.Cond.instanceMethod ({ cls := "DiceForge$Promise", name := "<init>", desc := "(I)V" } : Jvm.MethodName)), (Jvm.Cond.code ({ cls := "DiceForge$Promise", name := "<init>", desc := "(I)V" } : Jvm.MethodName) prog_4_method_1_code (2 : Nat) (Option.none : Option Jvm.ClassFile.FieldType)), (Jvm.Cond.methodLink "DiceForge$Promise" (1 : Nat) ({ cls := "java/lang/Object", name := "<init>", desc := "()V" } : Jvm.MethodName)), (Jvm.Cond.classLink "DiceForge$Promise" (13 : Nat) "DiceForge$Draws"), (Jvm.Cond.instantiable "DiceForge$Draws" (2 : Nat)), (Jvm.Cond.instanceMethod ({ cls := "DiceForge$Draws", name := "<init>", desc := "(I)V" } : Jvm.MethodName)), (Jvm.Cond.code ({ cls := "DiceForge$Draws", name := "<init>", desc := "(I)V" } : Jvm.MethodName) prog_2_method_1_code (2 : Nat) (Option.none : Option Jvm.ClassFile.FieldType)), (Jvm.Cond.methodLink "DiceForge$Draws" (3 : Nat) ({ cls := "java/lang/Object", name := "<init>", desc := "()V" } : Jvm.MethodName)), (Jvm.Cond.fieldLink "DiceForge$Draws" (9 : Nat) "DiceForge$Draws" "state" "I"), (Jvm.Cond.fieldLink "DiceForge$Draws" (15 : Nat) "DiceForge$Draws" "rejected" "I"), (Jvm.Cond.lays "DiceForge$Draws" "DiceForge$Draws" "state" "I"), (Jvm.Cond.soleField "DiceForge$Draws" "state"), (Jvm.Cond.lays "DiceForge$Draws" "DiceForge$Draws" "rejected" "I"), (Jvm.Cond.soleField "DiceForge$Draws" "rejected"), (Jvm.Cond.superclass "DiceForge$Draws" "java/lang/Object"), (Jvm.Cond.fieldLink "DiceForge$Promise" (7 : Nat) "DiceForge$Promise" "seed" "I"), (Jvm.Cond.fieldLink "DiceForge$Promise" (18 : Nat) "DiceForge$Promise" "draws" "LDiceForge$Draws;"), (Jvm.Cond.laysFinal "DiceForge$Promise" "DiceForge$Promise" "seed" "I"), (Jvm.Cond.soleField "DiceForge$Promise" "seed"), (Jvm.Cond.laysFinal "DiceForge$Promise" "DiceForge$Promise" "draws" "LDiceForge$Draws;"), (Jvm.Cond.soleField "DiceForge$Promise" "draws"), (Jvm.Cond.lays "DiceForge$Promise" "DiceForge$Promise" "opened" "Z"), (Jvm.Cond.soleField "DiceForge$Promise" "opened"), (Jvm.Cond.lays "DiceForge$Promise" "DiceForge$Promise" "disputed" "Z"), (Jvm.Cond.soleField "DiceForge$Promise" "disputed"), (Jvm.Cond.superclass "DiceForge$Promise" "java/lang/Object"), (Jvm.Cond.methodLink "DiceForge" (48 : Nat) ({ cls := "java/util/ArrayList", name := "add", desc := "(Ljava/lang/Object;)Z" } : Jvm.MethodName)), (Jvm.Cond.instanceMethod ({ cls := "java/util/ArrayList", name := "add", desc := "(Ljava/lang/Object;)Z" } : Jvm.MethodName)), (Jvm.Cond.selects "java/util/ArrayList" ({ cls := "java/util/ArrayList", name := "add", desc := "(Ljava/lang/Object;)Z" } : Jvm.MethodName) ({ cls := "java/util/ArrayList", name := "add", desc := "(Ljava/lang/Object;)Z" } : Jvm.MethodName)), (Jvm.Cond.code ({ cls := "java/util/ArrayList", name := "add", desc := "(Ljava/lang/Object;)Z" } : Jvm.MethodName) prog_21_method_25_code (2 : Nat) (Option.some Jvm.ClassFile.FieldType.boolean)), (Jvm.Cond.methodLink "java/util/ArrayList" (131 : Nat) ({ cls := "java/util/ArrayList", name := "add", desc := "(Ljava/lang/Object;[Ljava/lang/Object;I)V" } : Jvm.MethodName)), (Jvm.Cond.instanceMethod ({ cls := "java/util/ArrayList", name := "add", desc := "(Ljava/lang/Object;[Ljava/lang/Object;I)V" } : Jvm.MethodName)), (Jvm.Cond.code ({ cls := "java/util/ArrayList", name := "add", desc := "(Ljava/lang/Object;[Ljava/lang/Object;I)V" } : Jvm.MethodName) prog_21_method_24_code (4 : Nat) (Option.none : Option Jvm.ClassFile.FieldType)), (Jvm.Cond.methodLink "java/util/ArrayList" (129 : Nat) ({ cls := "java/util/ArrayList", name := "grow", desc := "()[Ljava/lang/Object;" } : Jvm.MethodName)), (Jvm.Cond.instanceMethod ({ cls := "java/util/ArrayList", name := "grow", desc := "()[Ljava/lang/Object;" } : Jvm.MethodName)), (Jvm.Cond.code ({ cls := "java/util/ArrayList", name := "grow", desc := "()[Ljava/lang/Object;" } : Jvm.MethodName) prog_21_method_7_code (1 : Nat) (Option.some (Jvm.ClassFile.FieldType.array (Jvm.ClassFile.FieldType.object "java/lang/Object")))), (Jvm.Cond.methodLink "java/util/ArrayList" (69 : Nat) ({ cls := "java/util/ArrayList", name := "grow", desc := "(I)[Ljava/lang/Object;" } : Jvm.MethodName)), (Jvm.Cond.instanceMethod ({ cls := "java/util/ArrayList", name := "grow", desc := "(I)[Ljava/lang/Object;" } : Jvm.MethodName)), (Jvm.Cond.code ({ cls := "java/util/ArrayList", name := "grow", desc := "(I)[Ljava/lang/Object;" } : Jvm.MethodName) prog_21_method_6_code (4 : Nat) (Option.some (Jvm.ClassFile.FieldType.array (Jvm.ClassFile.FieldType.object "java/lang/Object")))), (Jvm.Cond.methodLink "java/util/ArrayList" (73 : Nat) ({ cls := "jdk/internal/util/ArraysSupport", name := "newLength", desc := "(III)I" } : Jvm.MethodName)), (Jvm.Cond.static ({ cls := "jdk/internal/util/ArraysSupport", name := "newLength", desc := "(III)I" } : Jvm.MethodName)), (Jvm.Cond.code ({ cls := "jdk/internal/util/ArraysSupport", name := "newLength", desc := "(III)I" } : Jvm.MethodName) prog_28_method_27_code (4 : Nat) (Option.some Jvm.ClassFile.FieldType.int)), (Jvm.Cond.methodLink "jdk/internal/util/ArraysSupport" (194 : Nat) ({ cls := "java/lang/Math", name := "max", desc := "(II)I" } : Jvm.MethodName)), (Jvm.Cond.static ({ cls := "java/lang/Math", name := "max", desc := "(II)I" } : Jvm.MethodName)), (Jvm.Cond.code ({ cls := "java/lang/Math", name := "max", desc := "(II)I" } : Jvm.MethodName) prog_14_method_65_code (2 : Nat) (Option.some Jvm.ClassFile.FieldType.int)), (Jvm.Cond.constant "jdk/internal/util/ArraysSupport" (200 : Nat) (2147483639 : Int32)), (Jvm.Cond.methodLink "jdk/internal/util/ArraysSupport" (201 : Nat) ({ cls := "jdk/internal/util/ArraysSupport", name := "hugeLength", desc := "(II)I" } : Jvm.MethodName)), (Jvm.Cond.static ({ cls := "jdk/internal/util/ArraysSupport", name := "hugeLength", desc := "(II)I" } : Jvm.MethodName)), (Jvm.Cond.code ({ cls := "jdk/internal/util/ArraysSupport", name := "hugeLength", desc := "(II)I" } : Jvm.MethodName) prog_28_method_28_code (3 : Nat) (Option.some Jvm.ClassFile.FieldType.int)), (Jvm.Cond.methodLink "java/util/ArrayList" (66 : Nat) ({ cls := "java/util/Arrays", name := "copyOf", desc := "([Ljava/lang/Object;I)[Ljava/lang/Object;" } : Jvm.MethodName)), (Jvm.Cond.static ({ cls := "java/util/Arrays", name := "copyOf", desc := "([Ljava/lang/Object;I)[Ljava/lang/Object;" } : Jvm.MethodName)), (Jvm.Cond.code ({ cls := "java/util/Arrays", name := "copyOf", desc := "([Ljava/lang/Object;I)[Ljava/lang/Object;" } : Jvm.MethodName) prog_22_method_119_code (2 : Nat) (Option.some (Jvm.ClassFile.FieldType.array (Jvm.ClassFile.FieldType.object "java/lang/Object")))), (Jvm.Cond.methodLink "java/util/Arrays" (86 : Nat) ({ cls := "java/lang/Object", name := "getClass", desc := "()Ljava/lang/Class;" } : Jvm.MethodName)), (Jvm.Cond.instanceMethod ({ cls := "java/lang/Object", name := "getClass", desc := "()Ljava/lang/Class;" } : Jvm.MethodName)), (Jvm.Cond.sameMethod "java/lang/Object" "java/lang/Object" "getClass" "()Ljava/lang/Class;"), (Jvm.Cond.selects "DiceForge" ({ cls := "java/lang/Object", name := "getClass", desc := "()Ljava/lang/Class;" } : Jvm.MethodName) ({ cls := "java/lang/Object", name := "getClass", desc := "()Ljava/lang/Class;" } : Jvm.MethodName)), (Jvm.Cond.selects "DiceForge$Draws" ({ cls := "java/lang/Object", name := "getClass", desc := "()Ljava/lang/Class;" } : Jvm.MethodName) ({ cls := "java/lang/Object", name := "getClass", desc := "()Ljava/lang/Class;" } : Jvm.MethodName)), (Jvm.Cond.selects "DiceForge$Entry" ({ cls := "java/lang/Object", name := "getClass", desc := "()Ljava/lang/Class;" } : Jvm.MethodName) ({ cls := "java/lang/Object", name := "getClass", desc := "()Ljava/lang/Class;" } : Jvm.MethodName)), (Jvm.Cond.selects "DiceForge$Promise" ({ cls := "java/lang/Object", name := "getClass", desc := "()Ljava/lang/Class;" } : Jvm.MethodName) ({ cls := "java/lang/Object", name := "getClass", desc := "()Ljava/lang/Class;" } : Jvm.MethodName)), (Jvm.Cond.selects "java/lang/IllegalArgumentException" ({ cls := "java/lang/Object", name := "getClass", desc := "()Ljava/lang/Class;" } : Jvm.MethodName) ({ cls := "java/lang/Object", name := "getClass", desc := "()Ljava/lang/Class;" } : Jvm.MethodName)), (Jvm.Cond.selects "java/lang/IllegalStateException" ({ cls := "java/lang/Object", name := "getClass", desc := "()Ljava/lang/Class;" } : Jvm.MethodName) ({ cls := "java/lang/Object", name := "getClass", desc := "()Ljava/lang/Class;" } : Jvm.MethodName)), (Jvm.Cond.selects "java/lang/IndexOutOfBoundsException" ({ cls := "java/lang/Object", name := "getClass", desc := "()Ljava/lang/Class;" } : Jvm.MethodName) ({ cls := "java/lang/Object", name := "getClass", desc := "()Ljava/lang/Class;" } : Jvm.MethodName)), (Jvm.Cond.selects "java/util/ArrayList" ({ cls := "java/lang/Object", name := "getClass", desc := "()Ljava/lang/Class;" } : Jvm.MethodName) ({ cls := "java/lang/Object", name := "getClass", desc := "()Ljava/lang/Class;" } : Jvm.MethodName)), (Jvm.Cond.native ({ cls := "java/lang/Object", name := "getClass", desc := "()Ljava/lang/Class;" } : Jvm.MethodName)), (Jvm.Cond.methodLink "java/util/Arrays" (300 : Nat) ({ cls := "java/util/Arrays", name := "copyOf", desc := "([Ljava/lang/Object;ILjava/lang/Class;)[Ljava/lang/Object;" } : Jvm.MethodName)), (Jvm.Cond.static ({ cls := "java/util/Arrays", name := "copyOf", desc := "([Ljava/lang/Object;ILjava/lang/Class;)[Ljava/lang/Object;" } : Jvm.MethodName)), (Jvm.Cond.code ({ cls := "java/util/Arrays", name := "copyOf", desc := "([Ljava/lang/Object;ILjava/lang/Class;)[Ljava/lang/Object;" } : Jvm.MethodName) prog_22_method_120_code (4 : Nat) (Option.some (Jvm.ClassFile.FieldType.array (Jvm.ClassFile.FieldType.object "java/lang/Object")))), (Jvm.Cond.classLink "java/util/Arrays" (110 : Nat) "[Ljava/lang/Object;"), (Jvm.Cond.classLink "java/util/Arrays" (2 : Nat) "java/lang/Object"), (Jvm.Cond.methodLink "java/util/Arrays" (304 : Nat) ({ cls := "java/lang/Math", name := "min", desc := "(II)I" } : Jvm.MethodName)), (Jvm.Cond.static ({ cls := "java/lang/Math", name := "min", desc := "(II)I" } : Jvm.MethodName)), (Jvm.Cond.code ({ cls := "java/lang/Math", name := "min", desc := "(II)I" } : Jvm.MethodName) prog_14_method_69_code (2 : Nat) (Option.some Jvm.ClassFile.FieldType.int)), (Jvm.Cond.methodLink "java/util/Arrays" (150 : Nat) ({ cls := "java/lang/System", name := "arraycopy", desc := "(Ljava/lang/Object;ILjava/lang/Object;II)V" } : Jvm.MethodName)), (Jvm.Cond.static ({ cls := "java/lang/System", name := "arraycopy", desc := "(Ljava/lang/Object;ILjava/lang/Object;II)V" } : Jvm.MethodName)), (Jvm.Cond.native ({ cls := "java/lang/System", name := "arraycopy", desc := "(Ljava/lang/Object;ILjava/lang/Object;II)V" } : Jvm.MethodName)), (Jvm.Cond.methodLink "java/util/ArrayList" (79 : Nat) ({ cls := "java/lang/Math", name := "max", desc := "(II)I" } : Jvm.MethodName))]
def zc_W3 : List Cond := [(Jvm.Cond.classLink "java/util/ArrayList" (7 : Nat) "java/lang/Object"), (Jvm.Cond.methodLink "DiceForgeLaw" (121 : Nat) ({ cls := "DiceForge", name := "setPart", desc := "(II)I" } : Jvm.MethodName)), (Jvm.Cond.instanceMethod ({ cls := "DiceForge", name := "setPart", desc := "(II)I" } : Jvm.MethodName)), (Jvm.Cond.selects "DiceForge" ({ cls := "DiceForge", name := "setPart", desc := "(II)I" } : Jvm.MethodName) ({ cls := "DiceForge", name := "setPart", desc := "(II)I" } : Jvm.MethodName)), (Jvm.Cond.code ({ cls := "DiceForge", name := "setPart", desc := "(II)I" } : Jvm.MethodName) prog_1_method_7_code (4 : Nat) (Option.some Jvm.ClassFile.FieldType.int)), (Jvm.Cond.methodLink "DiceForge" (82 : Nat) ({ cls := "DiceForge", name := "requireTable", desc := "(I)V" } : Jvm.MethodName)), (Jvm.Cond.static ({ cls := "DiceForge", name := "requireTable", desc := "(I)V" } : Jvm.MethodName)), (Jvm.Cond.code ({ cls := "DiceForge", name := "requireTable", desc := "(I)V" } : Jvm.MethodName) prog_1_method_25_code (1 : Nat) (Option.none : Option Jvm.ClassFile.FieldType)), (Jvm.Cond.classLink "DiceForge" (173 : Nat) "java/lang/IndexOutOfBoundsException"), (Jvm.Cond.instantiable "java/lang/IndexOutOfBoundsException" (6 : Nat)), (Jvm.Cond.selects "java/lang/IndexOutOfBoundsException" ({ cls := "java/lang/Throwable", name := "fillInStackTrace", desc := "(I)Ljava/lang/Throwable;" } : Jvm.MethodName) ({ cls := "java/lang/Throwable", name := "fillInStackTrace", desc := "(I)Ljava/lang/Throwable;" } : Jvm.MethodName)), (Jvm.Cond.lays "java/lang/IndexOutOfBoundsException" "java/lang/Throwable" "cause" "Ljava/lang/Throwable;"), (Jvm.Cond.lays "java/lang/IndexOutOfBoundsException" "java/lang/Throwable" "stackTrace" "[Ljava/lang/StackTraceElement;"), (Jvm.Cond.lays "java/lang/IndexOutOfBoundsException" "java/lang/Throwable" "suppressedExceptions" "Ljava/util/List;"), (Jvm.Cond.lays "java/lang/IndexOutOfBoundsException" "java/lang/Throwable" "detailMessage" "Ljava/lang/String;"), (Jvm.Cond.lays "java/lang/IndexOutOfBoundsException" "java/lang/Throwable" "backtrace" "Ljava/lang/Object;"), (Jvm.Cond.methodLink "DiceForge" (177 : Nat) ({ cls := "java/lang/IndexOutOfBoundsException", name := "<init>", desc := "(Ljava/lang/String;)V" } : Jvm.MethodName)), (Jvm.Cond.instanceMethod ({ cls := "java/lang/IndexOutOfBoundsException", name := "<init>", desc := "(Ljava/lang/String;)V" } : Jvm.MethodName)), (Jvm.Cond.code ({ cls := "java/lang/IndexOutOfBoundsException", name := "<init>", desc := "(Ljava/lang/String;)V" } : Jvm.MethodName) prog_12_method_2_code (2 : Nat) (Option.none : Option Jvm.ClassFile.FieldType)), (Jvm.Cond.methodLink "java/lang/IndexOutOfBoundsException" (7 : Nat) ({ cls := "java/lang/RuntimeException", name := "<init>", desc := "(Ljava/lang/String;)V" } : Jvm.MethodName)), (Jvm.Cond.lays "java/lang/IndexOutOfBoundsException" "java/lang/Throwable" "depth" "I"), (Jvm.Cond.superclass "java/lang/IndexOutOfBoundsException" "java/lang/RuntimeException"), (Jvm.Cond.methodLink "DiceForgeLaw" (114 : Nat) ({ cls := "DiceForgeLaw", name := "cell", desc := "([II)I" } : Jvm.MethodName)), (Jvm.Cond.static ({ cls := "DiceForgeLaw", name := "cell", desc := "([II)I" } : Jvm.MethodName)), (Jvm.Cond.code ({ cls := "DiceForgeLaw", name := "cell", desc := "([II)I" } : Jvm.MethodName) method_2_code (2 : Nat) (Option.some Jvm.ClassFile.FieldType.int)), (Jvm.Cond.constant "DiceForgeLaw" (7 : Nat) (51829 : Int32)), (Jvm.Cond.constant "DiceForgeLaw" (8 : Nat) (3096791 : Int32)), (Jvm.Cond.methodLink "DiceForgeLaw" (91 : Nat) ({ cls := "DiceForgeLaw", name := "low", desc := "(II)I" } : Jvm.MethodName)), (Jvm.Cond.static ({ cls := "DiceForgeLaw", name := "low", desc := "(II)I" } : Jvm.MethodName)), (Jvm.Cond.code ({ cls := "DiceForgeLaw", name := "low", desc := "(II)I" } : Jvm.MethodName) method_3_code (2 : Nat) (Option.some Jvm.ClassFile.FieldType.int)), (Jvm.Cond.constant "DiceForgeLaw" (9 : Nat) (2147483647 : Int32)), (Jvm.Cond.methodLink "DiceForgeLaw" (74 : Nat) ({ cls := "DiceForgeLaw", name := "calls", desc := "(LDiceForge;IIII)I" } : Jvm.MethodName)), (Jvm.Cond.static ({ cls := "DiceForgeLaw", name := "calls", desc := "(LDiceForge;IIII)I" } : Jvm.MethodName)), (Jvm.Cond.codeWith ({ cls := "DiceForgeLaw", name := "calls", desc := "(LDiceForge;IIII)I" } : Jvm.MethodName) method_4_code (6 : Nat) (Option.some Jvm.ClassFile.FieldType.int) [((0 : Nat), (73 : Nat), (74 : Nat), (33 : Nat)), ((0 : Nat), (73 : Nat), (79 : Nat), (35 : Nat))]), (Jvm.Cond.classLink "DiceForgeLaw" (33 : Nat) "java/lang/IllegalArgumentException"), (Jvm.Cond.classLink "DiceForgeLaw" (35 : Nat) "java/lang/IllegalStateException"), (Jvm.Cond.methodLink "DiceForgeLaw" (10 : Nat) ({ cls := "DiceForge", name := "open", desc := "(I)I" } : Jvm.MethodName)), (Jvm.Cond.instanceMethod ({ cls := "DiceForge", name := "open", desc := "(I)I" } : Jvm.MethodName)), (Jvm.Cond.selects "DiceForge" ({ cls := "DiceForge", name := "open", desc := "(I)I" } : Jvm.MethodName) ({ cls := "DiceForge", name := "open", desc := "(I)I" } : Jvm.MethodName)), (Jvm.Cond.code ({ cls := "DiceForge", name := "open", desc := "(I)I" } : Jvm.MethodName) prog_1_method_5_code (3 : Nat) (Option.some Jvm.ClassFile.FieldType.int)), (Jvm.Cond.methodLink "DiceForge" (52 : Nat) ({ cls := "DiceForge", name := "promiseAt", desc := "(I)LDiceForge$Promise;" } : Jvm.MethodName)), (Jvm.Cond.instanceMethod ({ cls := "DiceForge", name := "promiseAt", desc := "(I)LDiceForge$Promise;" } : Jvm.MethodName)), (Jvm.Cond.code ({ cls := "DiceForge", name := "promiseAt", desc := "(I)LDiceForge$Promise;" } : Jvm.MethodName) prog_1_method_22_code (2 : Nat) (Option.some (Jvm.ClassFile.FieldType.object "DiceForge$Promise"))), (Jvm.Cond.methodLink "DiceForge" (141 : Nat) ({ cls := "java/util/ArrayList", name := "get", desc := "(I)Ljava/lang/Object;" } : Jvm.MethodName)), (Jvm.Cond.instanceMethod ({ cls := "java/util/ArrayList", name := "get", desc := "(I)Ljava/lang/Object;" } : Jvm.MethodName)), (Jvm.Cond.selects "java/util/ArrayList" ({ cls := "java/util/ArrayList", name := "get", desc := "(I)Ljava/lang/Object;" } : Jvm.MethodName) ({ cls := "java/util/ArrayList", name := "get", desc := "(I)Ljava/lang/Object;" } : Jvm.MethodName)), (Jvm.Cond.code ({ cls := "java/util/ArrayList", name := "get", desc := "(I)Ljava/lang/Object;" } : Jvm.MethodName) prog_21_method_20_code (2 : Nat) (Option.some (Jvm.ClassFile.FieldType.object "java/lang/Object"))), (Jvm.Cond.methodLink "java/util/ArrayList" (118 : Nat) ({ cls := "java/util/Objects", name := "checkIndex", desc := "(II)I" } : Jvm.MethodName)), (Jvm.Cond.static ({ cls := "java/util/Objects", name := "checkIndex", desc := "(II)I" } : Jvm.MethodName)), (Jvm.Cond.code ({ cls := "java/util/Objects", name := "checkIndex", desc := "(II)I" } : Jvm.MethodName) prog_25_method_17_code (2 : Nat) (Option.some Jvm.ClassFile.FieldType.int)), (Jvm.Cond.methodLink "java/util/Objects" (105 : Nat) ({ cls := "jdk/internal/util/Preconditions", name := "checkIndex", desc := "(IILjava/util/function/BiFunction;)I" } : Jvm.MethodName)), (Jvm.Cond.static ({ cls := "jdk/internal/util/Preconditions", name := "checkIndex", desc := "(IILjava/util/function/BiFunction;)I" } : Jvm.MethodName)), (Jvm.Cond.code ({ cls := "jdk/internal/util/Preconditions", name := "checkIndex", desc := "(IILjava/util/function/BiFunction;)I" } : Jvm.MethodName) prog_29_method_11_code (3 : Nat) (Option.some Jvm.ClassFile.FieldType.int)), (Jvm.Cond.methodLink "java/util/ArrayList" (123 : Nat) ({ cls := "java/util/ArrayList", name := "elementData", desc := "(I)Ljava/lang/Object;" } : Jvm.MethodName)), (Jvm.Cond.instanceMethod ({ cls := "java/util/ArrayList", name := "elementData", desc := "(I)Ljava/lang/Object;" } : Jvm.MethodName)), (Jvm.Cond.selects "java/util/ArrayList" ({ cls := "java/util/ArrayList", name := "elementData", desc := "(I)Ljava/lang/Object;" } : Jvm.MethodName) ({ cls := "java/util/ArrayList", name := "elementData", desc := "(I)Ljava/lang/Object;" } : Jvm.MethodName)), (Jvm.Cond.code ({ cls := "java/util/ArrayList", name := "elementData", desc := "(I)Ljava/lang/Object;" } : Jvm.MethodName) prog_21_method_18_code (2 : Nat) (Option.some (Jvm.ClassFile.FieldType.object "java/lang/Object"))), (Jvm.Cond.methodLink "DiceForgeLaw" (16 : Nat) ({ cls := "DiceForge", name := "roll", desc := "(III)I" } : Jvm.MethodName)), (Jvm.Cond.instanceMethod ({ cls := "DiceForge", name := "roll", desc := "(III)I" } : Jvm.MethodName)), (Jvm.Cond.selects "DiceForge" ({ cls := "DiceForge", name := "roll", desc := "(III)I" } : Jvm.MethodName) ({ cls := "DiceForge", name := "roll", desc := "(III)I" } : Jvm.MethodName)), (Jvm.Cond.code ({ cls := "DiceForge", name := "roll", desc := "(III)I" } : Jvm.MethodName) prog_1_method_8_code (6 : Nat) (Option.some Jvm.ClassFile.FieldType.int)), (Jvm.Cond.methodLink "DiceForge" (87 : Nat) ({ cls := "DiceForge", name := "requireFaces", desc := "(I)V" } : Jvm.MethodName)), (Jvm.Cond.static ({ cls := "DiceForge", name := "requireFaces", desc := "(I)V" } : Jvm.MethodName)), (Jvm.Cond.code ({ cls := "DiceForge", name := "requireFaces", desc := "(I)V" } : Jvm.MethodName) prog_1_method_26_code (1 : Nat) (Option.none : Option Jvm.ClassFile.FieldType)), (Jvm.Cond.classLink "DiceForge" (92 : Nat) "DiceForge$Entry"), (Jvm.Cond.instantiable "DiceForge$Entry" (8 : Nat)), (Jvm.Cond.instanceMethod ({ cls := "DiceForge$Entry", name := "<init>", desc := "(IIII)V" } : Jvm.MethodName)), (Jvm.Cond.code ({ cls := "DiceForge$Entry", name := "<init>", desc := "(IIII)V" } : Jvm.MethodName) prog_3_method_1_code (5 : Nat) (Option.none : Option Jvm.ClassFile.FieldType)), (Jvm.Cond.methodLink "DiceForge$Entry" (3 : Nat) ({ cls := "java/lang/Object", name := "<init>", desc := "()V" } : Jvm.MethodName)), (Jvm.Cond.fieldLink "DiceForge$Entry" (9 : Nat) "DiceForge$Entry" "promise" "I"), (Jvm.Cond.fieldLink "DiceForge$Entry" (15 : Nat) "DiceForge$Entry" "table" "I"), (Jvm.Cond.fieldLink "DiceForge$Entry" (18 : Nat) "DiceForge$Entry" "part" "I"), (Jvm.Cond.fieldLink "DiceForge$Entry" (21 : Nat) "DiceForge$Entry" "faces" "I"), (Jvm.Cond.fieldLink "DiceForge$Entry" (24 : Nat) "DiceForge$Entry" "value" "I"), (Jvm.Cond.fieldLink "DiceForge$Entry" (27 : Nat) "DiceForge$Entry" "rejected" "I"), (Jvm.Cond.fieldLink "DiceForge$Entry" (31 : Nat) "DiceForge$Entry" "struck" "Z"), (Jvm.Cond.laysFinal "DiceForge$Entry" "DiceForge$Entry" "promise" "I"), (Jvm.Cond.soleField "DiceForge$Entry" "promise"), (Jvm.Cond.laysFinal "DiceForge$Entry" "DiceForge$Entry" "table" "I"), (Jvm.Cond.soleField "DiceForge$Entry" "table")]
def zc_W4 : List Cond := [(Jvm.Cond.laysFinal "DiceForge$Entry" "DiceForge$Entry" "part" "I"), (Jvm.Cond.soleField "DiceForge$Entry" "part"), (Jvm.Cond.laysFinal "DiceForge$Entry" "DiceForge$Entry" "faces" "I"), (Jvm.Cond.soleField "DiceForge$Entry" "faces"), (Jvm.Cond.lays "DiceForge$Entry" "DiceForge$Entry" "value" "I"), (Jvm.Cond.soleField "DiceForge$Entry" "value"), (Jvm.Cond.lays "DiceForge$Entry" "DiceForge$Entry" "rejected" "I"), (Jvm.Cond.soleField "DiceForge$Entry" "rejected"), (Jvm.Cond.lays "DiceForge$Entry" "DiceForge$Entry" "sum" "I"), (Jvm.Cond.soleField "DiceForge$Entry" "sum"), (Jvm.Cond.lays "DiceForge$Entry" "DiceForge$Entry" "struck" "Z"), (Jvm.Cond.soleField "DiceForge$Entry" "struck"), (Jvm.Cond.superclass "DiceForge$Entry" "java/lang/Object"), (Jvm.Cond.instanceMethod ({ cls := "DiceForge$Draws", name := "nextValue", desc := "(II)I" } : Jvm.MethodName)), (Jvm.Cond.code ({ cls := "DiceForge$Draws", name := "nextValue", desc := "(II)I" } : Jvm.MethodName) prog_2_method_2_code (4 : Nat) (Option.some Jvm.ClassFile.FieldType.int)), (Jvm.Cond.constant "DiceForge$Draws" (18 : Nat) (65536 : Int32)), (Jvm.Cond.methodLink "DiceForge$Draws" (19 : Nat) ({ cls := "DiceForge$Draws", name := "draw", desc := "(I)V" } : Jvm.MethodName)), (Jvm.Cond.instanceMethod ({ cls := "DiceForge$Draws", name := "draw", desc := "(I)V" } : Jvm.MethodName)), (Jvm.Cond.code ({ cls := "DiceForge$Draws", name := "draw", desc := "(I)V" } : Jvm.MethodName) prog_2_method_3_code (2 : Nat) (Option.none : Option Jvm.ClassFile.FieldType)), (Jvm.Cond.methodLink "DiceForge" (116 : Nat) ({ cls := "DiceForge", name := "lastSum", desc := "()I" } : Jvm.MethodName)), (Jvm.Cond.instanceMethod ({ cls := "DiceForge", name := "lastSum", desc := "()I" } : Jvm.MethodName)), (Jvm.Cond.code ({ cls := "DiceForge", name := "lastSum", desc := "()I" } : Jvm.MethodName) prog_1_method_29_code (1 : Nat) (Option.some Jvm.ClassFile.FieldType.int)), (Jvm.Cond.methodLink "DiceForge" (189 : Nat) ({ cls := "java/util/ArrayList", name := "isEmpty", desc := "()Z" } : Jvm.MethodName)), (Jvm.Cond.instanceMethod ({ cls := "java/util/ArrayList", name := "isEmpty", desc := "()Z" } : Jvm.MethodName)), (Jvm.Cond.selects "java/util/ArrayList" ({ cls := "java/util/ArrayList", name := "isEmpty", desc := "()Z" } : Jvm.MethodName) ({ cls := "java/util/ArrayList", name := "isEmpty", desc := "()Z" } : Jvm.MethodName)), (Jvm.Cond.code ({ cls := "java/util/ArrayList", name := "isEmpty", desc := "()Z" } : Jvm.MethodName) prog_21_method_9_code (1 : Nat) (Option.some Jvm.ClassFile.FieldType.boolean)), (Jvm.Cond.instanceMethod ({ cls := "DiceForge$Entry", name := "sumAfter", desc := "(I)I" } : Jvm.MethodName)), (Jvm.Cond.code ({ cls := "DiceForge$Entry", name := "sumAfter", desc := "(I)I" } : Jvm.MethodName) prog_3_method_2_code (3 : Nat) (Option.some Jvm.ClassFile.FieldType.int)), (Jvm.Cond.constant "DiceForge$Entry" (30 : Nat) (1000003 : Int32)), (Jvm.Cond.methodLink "DiceForgeLaw" (20 : Nat) ({ cls := "DiceForge", name := "alter", desc := "(II)I" } : Jvm.MethodName)), (Jvm.Cond.instanceMethod ({ cls := "DiceForge", name := "alter", desc := "(II)I" } : Jvm.MethodName)), (Jvm.Cond.selects "DiceForge" ({ cls := "DiceForge", name := "alter", desc := "(II)I" } : Jvm.MethodName) ({ cls := "DiceForge", name := "alter", desc := "(II)I" } : Jvm.MethodName)), (Jvm.Cond.code ({ cls := "DiceForge", name := "alter", desc := "(II)I" } : Jvm.MethodName) prog_1_method_13_code (5 : Nat) (Option.some Jvm.ClassFile.FieldType.int)), (Jvm.Cond.methodLink "DiceForge" (125 : Nat) ({ cls := "DiceForge", name := "entryAt", desc := "(I)LDiceForge$Entry;" } : Jvm.MethodName)), (Jvm.Cond.instanceMethod ({ cls := "DiceForge", name := "entryAt", desc := "(I)LDiceForge$Entry;" } : Jvm.MethodName)), (Jvm.Cond.code ({ cls := "DiceForge", name := "entryAt", desc := "(I)LDiceForge$Entry;" } : Jvm.MethodName) prog_1_method_24_code (2 : Nat) (Option.some (Jvm.ClassFile.FieldType.object "DiceForge$Entry"))), (Jvm.Cond.methodLink "DiceForge" (132 : Nat) ({ cls := "DiceForge", name := "requireValue", desc := "(II)V" } : Jvm.MethodName)), (Jvm.Cond.static ({ cls := "DiceForge", name := "requireValue", desc := "(II)V" } : Jvm.MethodName)), (Jvm.Cond.code ({ cls := "DiceForge", name := "requireValue", desc := "(II)V" } : Jvm.MethodName) prog_1_method_27_code (2 : Nat) (Option.none : Option Jvm.ClassFile.FieldType)), (Jvm.Cond.methodLink "DiceForgeLaw" (24 : Nat) ({ cls := "DiceForge", name := "found", desc := "(I)I" } : Jvm.MethodName)), (Jvm.Cond.instanceMethod ({ cls := "DiceForge", name := "found", desc := "(I)I" } : Jvm.MethodName)), (Jvm.Cond.selects "DiceForge" ({ cls := "DiceForge", name := "found", desc := "(I)I" } : Jvm.MethodName) ({ cls := "DiceForge", name := "found", desc := "(I)I" } : Jvm.MethodName)), (Jvm.Cond.code ({ cls := "DiceForge", name := "found", desc := "(I)I" } : Jvm.MethodName) prog_1_method_15_code (7 : Nat) (Option.some Jvm.ClassFile.FieldType.int)), (Jvm.Cond.classLink "DiceForge" (105 : Nat) "DiceForge$Draws"), (Jvm.Cond.methodLink "DiceForge" (148 : Nat) ({ cls := "DiceForge", name := "openedAt", desc := "(I)LDiceForge$Promise;" } : Jvm.MethodName)), (Jvm.Cond.instanceMethod ({ cls := "DiceForge", name := "openedAt", desc := "(I)LDiceForge$Promise;" } : Jvm.MethodName)), (Jvm.Cond.code ({ cls := "DiceForge", name := "openedAt", desc := "(I)LDiceForge$Promise;" } : Jvm.MethodName) prog_1_method_23_code (3 : Nat) (Option.some (Jvm.ClassFile.FieldType.object "DiceForge$Promise"))), (Jvm.Cond.methodLink "DiceForgeLaw" (27 : Nat) ({ cls := "DiceForge", name := "wrong", desc := "(I)I" } : Jvm.MethodName)), (Jvm.Cond.instanceMethod ({ cls := "DiceForge", name := "wrong", desc := "(I)I" } : Jvm.MethodName)), (Jvm.Cond.selects "DiceForge" ({ cls := "DiceForge", name := "wrong", desc := "(I)I" } : Jvm.MethodName) ({ cls := "DiceForge", name := "wrong", desc := "(I)I" } : Jvm.MethodName)), (Jvm.Cond.code ({ cls := "DiceForge", name := "wrong", desc := "(I)I" } : Jvm.MethodName) prog_1_method_16_code (2 : Nat) (Option.some Jvm.ClassFile.FieldType.int)), (Jvm.Cond.methodLink "DiceForge" (152 : Nat) ({ cls := "DiceForge", name := "firstWrong", desc := "(II)I" } : Jvm.MethodName)), (Jvm.Cond.instanceMethod ({ cls := "DiceForge", name := "firstWrong", desc := "(II)I" } : Jvm.MethodName)), (Jvm.Cond.code ({ cls := "DiceForge", name := "firstWrong", desc := "(II)I" } : Jvm.MethodName) prog_1_method_30_code (6 : Nat) (Option.some Jvm.ClassFile.FieldType.int)), (Jvm.Cond.methodLink "DiceForgeLaw" (30 : Nat) ({ cls := "DiceForge", name := "dispute", desc := "(I)I" } : Jvm.MethodName)), (Jvm.Cond.instanceMethod ({ cls := "DiceForge", name := "dispute", desc := "(I)I" } : Jvm.MethodName)), (Jvm.Cond.selects "DiceForge" ({ cls := "DiceForge", name := "dispute", desc := "(I)I" } : Jvm.MethodName) ({ cls := "DiceForge", name := "dispute", desc := "(I)I" } : Jvm.MethodName)), (Jvm.Cond.code ({ cls := "DiceForge", name := "dispute", desc := "(I)I" } : Jvm.MethodName) prog_1_method_17_code (4 : Nat) (Option.some Jvm.ClassFile.FieldType.int)), (Jvm.Cond.methodLink "DiceForge" (160 : Nat) ({ cls := "DiceForge", name := "strikeFrom", desc := "(II)I" } : Jvm.MethodName)), (Jvm.Cond.instanceMethod ({ cls := "DiceForge", name := "strikeFrom", desc := "(II)I" } : Jvm.MethodName)), (Jvm.Cond.code ({ cls := "DiceForge", name := "strikeFrom", desc := "(II)I" } : Jvm.MethodName) prog_1_method_31_code (6 : Nat) (Option.some Jvm.ClassFile.FieldType.int)), (Jvm.Cond.methodLink "DiceForge" (193 : Nat) ({ cls := "java/lang/Math", name := "max", desc := "(II)I" } : Jvm.MethodName)), (Jvm.Cond.methodLink "DiceForgeLaw" (45 : Nat) ({ cls := "DiceForgeLaw", name := "rolls", desc := "(III[I)I" } : Jvm.MethodName)), (Jvm.Cond.static ({ cls := "DiceForgeLaw", name := "rolls", desc := "(III[I)I" } : Jvm.MethodName)), (Jvm.Cond.code ({ cls := "DiceForgeLaw", name := "rolls", desc := "(III[I)I" } : Jvm.MethodName) method_6_code (5 : Nat) (Option.some Jvm.ClassFile.FieldType.int)), (Jvm.Cond.constant "DiceForgeLaw" (43 : Nat) (65536 : Int32)), (Jvm.Cond.methodLink "DiceForgeLaw" (59 : Nat) ({ cls := "DiceForgeLaw", name := "sum", desc := "(I[I[I[I[I[I)I" } : Jvm.MethodName)), (Jvm.Cond.static ({ cls := "DiceForgeLaw", name := "sum", desc := "(I[I[I[I[I[I)I" } : Jvm.MethodName)), (Jvm.Cond.code ({ cls := "DiceForgeLaw", name := "sum", desc := "(I[I[I[I[I[I)I" } : Jvm.MethodName) method_7_code (7 : Nat) (Option.some Jvm.ClassFile.FieldType.int)), (Jvm.Cond.constant "DiceForgeLaw" (44 : Nat) (1000003 : Int32)), (Jvm.Cond.methodLink "DiceForgeLaw" (85 : Nat) ({ cls := "DiceForgeLaw", name := "wrong", desc := "(I[I[I[I[I[I[I)I" } : Jvm.MethodName)), (Jvm.Cond.static ({ cls := "DiceForgeLaw", name := "wrong", desc := "(I[I[I[I[I[I[I)I" } : Jvm.MethodName)), (Jvm.Cond.code ({ cls := "DiceForgeLaw", name := "wrong", desc := "(I[I[I[I[I[I[I)I" } : Jvm.MethodName) method_9_code (8 : Nat) (Option.some Jvm.ClassFile.FieldType.int)), (Jvm.Cond.methodLink "DiceForgeLaw" (51 : Nat) ({ cls := "DiceForgeLaw", name := "again", desc := "(I[I[I[I[I[I)I" } : Jvm.MethodName)), (Jvm.Cond.static ({ cls := "DiceForgeLaw", name := "again", desc := "(I[I[I[I[I[I)I" } : Jvm.MethodName)), (Jvm.Cond.code ({ cls := "DiceForgeLaw", name := "again", desc := "(I[I[I[I[I[I)I" } : Jvm.MethodName) method_8_code (9 : Nat) (Option.some Jvm.ClassFile.FieldType.int)), (Jvm.Cond.methodLink "DiceForgeLaw" (124 : Nat) ({ cls := "DiceForgeLaw", name := "isSo", desc := "(LDiceForge;I[I[I[I[I[I[I[I[I)Z" } : Jvm.MethodName)), (Jvm.Cond.static ({ cls := "DiceForgeLaw", name := "isSo", desc := "(LDiceForge;I[I[I[I[I[I[I[I[I)Z" } : Jvm.MethodName)), (Jvm.Cond.code ({ cls := "DiceForgeLaw", name := "isSo", desc := "(LDiceForge;I[I[I[I[I[I[I[I[I)Z" } : Jvm.MethodName) method_12_code (15 : Nat) (Option.some Jvm.ClassFile.FieldType.boolean)), (Jvm.Cond.methodLink "DiceForgeLaw" (55 : Nat) ({ cls := "DiceForge", name := "entries", desc := "()I" } : Jvm.MethodName))]
def zc_W5 : List Cond := [(Jvm.Cond.instanceMethod ({ cls := "DiceForge", name := "entries", desc := "()I" } : Jvm.MethodName)), (Jvm.Cond.selects "DiceForge" ({ cls := "DiceForge", name := "entries", desc := "()I" } : Jvm.MethodName) ({ cls := "DiceForge", name := "entries", desc := "()I" } : Jvm.MethodName)), (Jvm.Cond.code ({ cls := "DiceForge", name := "entries", desc := "()I" } : Jvm.MethodName) prog_1_method_9_code (1 : Nat) (Option.some Jvm.ClassFile.FieldType.int)), (Jvm.Cond.methodLink "DiceForgeLaw" (62 : Nat) ({ cls := "DiceForge", name := "value", desc := "(I)I" } : Jvm.MethodName)), (Jvm.Cond.instanceMethod ({ cls := "DiceForge", name := "value", desc := "(I)I" } : Jvm.MethodName)), (Jvm.Cond.selects "DiceForge" ({ cls := "DiceForge", name := "value", desc := "(I)I" } : Jvm.MethodName) ({ cls := "DiceForge", name := "value", desc := "(I)I" } : Jvm.MethodName)), (Jvm.Cond.code ({ cls := "DiceForge", name := "value", desc := "(I)I" } : Jvm.MethodName) prog_1_method_10_code (2 : Nat) (Option.some Jvm.ClassFile.FieldType.int)), (Jvm.Cond.methodLink "DiceForgeLaw" (65 : Nat) ({ cls := "DiceForge", name := "rejected", desc := "(I)I" } : Jvm.MethodName)), (Jvm.Cond.instanceMethod ({ cls := "DiceForge", name := "rejected", desc := "(I)I" } : Jvm.MethodName)), (Jvm.Cond.selects "DiceForge" ({ cls := "DiceForge", name := "rejected", desc := "(I)I" } : Jvm.MethodName) ({ cls := "DiceForge", name := "rejected", desc := "(I)I" } : Jvm.MethodName)), (Jvm.Cond.code ({ cls := "DiceForge", name := "rejected", desc := "(I)I" } : Jvm.MethodName) prog_1_method_11_code (2 : Nat) (Option.some Jvm.ClassFile.FieldType.int)), (Jvm.Cond.methodLink "DiceForgeLaw" (68 : Nat) ({ cls := "DiceForge", name := "sum", desc := "(I)I" } : Jvm.MethodName)), (Jvm.Cond.instanceMethod ({ cls := "DiceForge", name := "sum", desc := "(I)I" } : Jvm.MethodName)), (Jvm.Cond.selects "DiceForge" ({ cls := "DiceForge", name := "sum", desc := "(I)I" } : Jvm.MethodName) ({ cls := "DiceForge", name := "sum", desc := "(I)I" } : Jvm.MethodName)), (Jvm.Cond.code ({ cls := "DiceForge", name := "sum", desc := "(I)I" } : Jvm.MethodName) prog_1_method_12_code (2 : Nat) (Option.some Jvm.ClassFile.FieldType.int)), (Jvm.Cond.methodLink "DiceForgeLaw" (70 : Nat) ({ cls := "DiceForge", name := "isStruck", desc := "(I)Z" } : Jvm.MethodName)), (Jvm.Cond.instanceMethod ({ cls := "DiceForge", name := "isStruck", desc := "(I)Z" } : Jvm.MethodName)), (Jvm.Cond.selects "DiceForge" ({ cls := "DiceForge", name := "isStruck", desc := "(I)Z" } : Jvm.MethodName) ({ cls := "DiceForge", name := "isStruck", desc := "(I)Z" } : Jvm.MethodName)), (Jvm.Cond.code ({ cls := "DiceForge", name := "isStruck", desc := "(I)Z" } : Jvm.MethodName) prog_1_method_18_code (2 : Nat) (Option.some Jvm.ClassFile.FieldType.boolean)), (Jvm.Cond.methodLink "DiceForgeLaw" (78 : Nat) ({ cls := "DiceForge", name := "sign", desc := "(I)I" } : Jvm.MethodName)), (Jvm.Cond.instanceMethod ({ cls := "DiceForge", name := "sign", desc := "(I)I" } : Jvm.MethodName)), (Jvm.Cond.selects "DiceForge" ({ cls := "DiceForge", name := "sign", desc := "(I)I" } : Jvm.MethodName) ({ cls := "DiceForge", name := "sign", desc := "(I)I" } : Jvm.MethodName)), (Jvm.Cond.code ({ cls := "DiceForge", name := "sign", desc := "(I)I" } : Jvm.MethodName) prog_1_method_3_code (4 : Nat) (Option.some Jvm.ClassFile.FieldType.int)), (Jvm.Cond.constantLong "DiceForge" (60 : Nat) (31 : Int64)), (Jvm.Cond.constantLong "DiceForge" (62 : Nat) (7 : Int64)), (Jvm.Cond.constantLong "DiceForge" (64 : Nat) (10007 : Int64)), (Jvm.Cond.methodLink "DiceForgeLaw" (81 : Nat) ({ cls := "DiceForgeLaw", name := "sign", desc := "(I)I" } : Jvm.MethodName)), (Jvm.Cond.static ({ cls := "DiceForgeLaw", name := "sign", desc := "(I)I" } : Jvm.MethodName)), (Jvm.Cond.code ({ cls := "DiceForgeLaw", name := "sign", desc := "(I)I" } : Jvm.MethodName) method_5_code (2 : Nat) (Option.some Jvm.ClassFile.FieldType.int)), (Jvm.Cond.constantLong "DiceForgeLaw" (37 : Nat) (31 : Int64)), (Jvm.Cond.constantLong "DiceForgeLaw" (39 : Nat) (7 : Int64)), (Jvm.Cond.constantLong "DiceForgeLaw" (41 : Nat) (10007 : Int64)), (Jvm.Cond.methodLink "DiceForgeLaw" (82 : Nat) ({ cls := "DiceForge", name := "isOpened", desc := "(I)Z" } : Jvm.MethodName)), (Jvm.Cond.instanceMethod ({ cls := "DiceForge", name := "isOpened", desc := "(I)Z" } : Jvm.MethodName)), (Jvm.Cond.selects "DiceForge" ({ cls := "DiceForge", name := "isOpened", desc := "(I)Z" } : Jvm.MethodName) ({ cls := "DiceForge", name := "isOpened", desc := "(I)Z" } : Jvm.MethodName)), (Jvm.Cond.code ({ cls := "DiceForge", name := "isOpened", desc := "(I)Z" } : Jvm.MethodName) prog_1_method_6_code (2 : Nat) (Option.some Jvm.ClassFile.FieldType.boolean)), (Jvm.Cond.methodLink "DiceForgeLaw" (88 : Nat) ({ cls := "DiceForge", name := "total", desc := "(I)I" } : Jvm.MethodName)), (Jvm.Cond.instanceMethod ({ cls := "DiceForge", name := "total", desc := "(I)I" } : Jvm.MethodName)), (Jvm.Cond.selects "DiceForge" ({ cls := "DiceForge", name := "total", desc := "(I)I" } : Jvm.MethodName) ({ cls := "DiceForge", name := "total", desc := "(I)I" } : Jvm.MethodName)), (Jvm.Cond.code ({ cls := "DiceForge", name := "total", desc := "(I)I" } : Jvm.MethodName) prog_1_method_21_code (5 : Nat) (Option.some Jvm.ClassFile.FieldType.int)), (Jvm.Cond.methodLink "DiceForgeLaw" (94 : Nat) ({ cls := "DiceForge", name := "broken", desc := "()I" } : Jvm.MethodName)), (Jvm.Cond.instanceMethod ({ cls := "DiceForge", name := "broken", desc := "()I" } : Jvm.MethodName)), (Jvm.Cond.selects "DiceForge" ({ cls := "DiceForge", name := "broken", desc := "()I" } : Jvm.MethodName) ({ cls := "DiceForge", name := "broken", desc := "()I" } : Jvm.MethodName)), (Jvm.Cond.code ({ cls := "DiceForge", name := "broken", desc := "()I" } : Jvm.MethodName) prog_1_method_14_code (4 : Nat) (Option.some Jvm.ClassFile.FieldType.int)), (Jvm.Cond.methodLink "DiceForgeLaw" (97 : Nat) ({ cls := "DiceForge", name := "uneven", desc := "(I)J" } : Jvm.MethodName)), (Jvm.Cond.instanceMethod ({ cls := "DiceForge", name := "uneven", desc := "(I)J" } : Jvm.MethodName)), (Jvm.Cond.selects "DiceForge" ({ cls := "DiceForge", name := "uneven", desc := "(I)J" } : Jvm.MethodName) ({ cls := "DiceForge", name := "uneven", desc := "(I)J" } : Jvm.MethodName)), (Jvm.Cond.code ({ cls := "DiceForge", name := "uneven", desc := "(I)J" } : Jvm.MethodName) prog_1_method_20_code (8 : Nat) (Option.some Jvm.ClassFile.FieldType.long)), (Jvm.Cond.methodLink "DiceForge" (167 : Nat) ({ cls := "DiceForge", name := "tallyValues", desc := "(I)I" } : Jvm.MethodName)), (Jvm.Cond.instanceMethod ({ cls := "DiceForge", name := "tallyValues", desc := "(I)I" } : Jvm.MethodName)), (Jvm.Cond.code ({ cls := "DiceForge", name := "tallyValues", desc := "(I)I" } : Jvm.MethodName) prog_1_method_32_code (5 : Nat) (Option.some Jvm.ClassFile.FieldType.int)), (Jvm.Cond.methodLink "DiceForge" (196 : Nat) ({ cls := "java/util/Arrays", name := "fill", desc := "([II)V" } : Jvm.MethodName)), (Jvm.Cond.static ({ cls := "java/util/Arrays", name := "fill", desc := "([II)V" } : Jvm.MethodName)), (Jvm.Cond.code ({ cls := "java/util/Arrays", name := "fill", desc := "([II)V" } : Jvm.MethodName) prog_22_method_103_code (4 : Nat) (Option.none : Option Jvm.ClassFile.FieldType)), (Jvm.Cond.instanceMethod ({ cls := "DiceForge$Entry", name := "countsFor", desc := "(I)Z" } : Jvm.MethodName)), (Jvm.Cond.code ({ cls := "DiceForge$Entry", name := "countsFor", desc := "(I)Z" } : Jvm.MethodName) prog_3_method_3_code (2 : Nat) (Option.some Jvm.ClassFile.FieldType.boolean)), (Jvm.Cond.methodLink "DiceForgeLaw" (101 : Nat) ({ cls := "DiceForgeLaw", name := "uneven", desc := "(I[I[I[I)J" } : Jvm.MethodName)), (Jvm.Cond.static ({ cls := "DiceForgeLaw", name := "uneven", desc := "(I[I[I[I)J" } : Jvm.MethodName)), (Jvm.Cond.code ({ cls := "DiceForgeLaw", name := "uneven", desc := "(I[I[I[I)J" } : Jvm.MethodName) method_10_code (10 : Nat) (Option.some Jvm.ClassFile.FieldType.long)), (Jvm.Cond.methodLink "DiceForgeLaw" (104 : Nat) ({ cls := "DiceForge", name := "count", desc := "(II)I" } : Jvm.MethodName)), (Jvm.Cond.instanceMethod ({ cls := "DiceForge", name := "count", desc := "(II)I" } : Jvm.MethodName)), (Jvm.Cond.selects "DiceForge" ({ cls := "DiceForge", name := "count", desc := "(II)I" } : Jvm.MethodName) ({ cls := "DiceForge", name := "count", desc := "(II)I" } : Jvm.MethodName)), (Jvm.Cond.code ({ cls := "DiceForge", name := "count", desc := "(II)I" } : Jvm.MethodName) prog_1_method_19_code (6 : Nat) (Option.some Jvm.ClassFile.FieldType.int)), (Jvm.Cond.methodLink "DiceForgeLaw" (107 : Nat) ({ cls := "DiceForgeLaw", name := "count", desc := "(II[I[I[I)I" } : Jvm.MethodName)), (Jvm.Cond.static ({ cls := "DiceForgeLaw", name := "count", desc := "(II[I[I[I)I" } : Jvm.MethodName)), (Jvm.Cond.code ({ cls := "DiceForgeLaw", name := "count", desc := "(II[I[I[I)I" } : Jvm.MethodName) method_11_code (7 : Nat) (Option.some Jvm.ClassFile.FieldType.int)), (Jvm.Cond.methodLink "DiceForgeLaw" (128 : Nat) ({ cls := "DiceForgeLaw", name := "seeds", desc := "(LDiceForge;I[I)Z" } : Jvm.MethodName)), (Jvm.Cond.static ({ cls := "DiceForgeLaw", name := "seeds", desc := "(LDiceForge;I[I)Z" } : Jvm.MethodName)), (Jvm.Cond.code ({ cls := "DiceForgeLaw", name := "seeds", desc := "(LDiceForge;I[I)Z" } : Jvm.MethodName) method_13_code (5 : Nat) (Option.some Jvm.ClassFile.FieldType.boolean)), (Jvm.Cond.methodLink "DiceForgeLaw" (110 : Nat) ({ cls := "DiceForge", name := "seedsOf", desc := "(I)I" } : Jvm.MethodName)), (Jvm.Cond.instanceMethod ({ cls := "DiceForge", name := "seedsOf", desc := "(I)I" } : Jvm.MethodName)), (Jvm.Cond.selects "DiceForge" ({ cls := "DiceForge", name := "seedsOf", desc := "(I)I" } : Jvm.MethodName) ({ cls := "DiceForge", name := "seedsOf", desc := "(I)I" } : Jvm.MethodName)), (Jvm.Cond.code ({ cls := "DiceForge", name := "seedsOf", desc := "(I)I" } : Jvm.MethodName) prog_1_method_4_code (6 : Nat) (Option.some Jvm.ClassFile.FieldType.int)), (Jvm.Cond.methodLink "DiceForge" (66 : Nat) ({ cls := "java/lang/Math", name := "floorMod", desc := "(II)I" } : Jvm.MethodName)), (Jvm.Cond.static ({ cls := "java/lang/Math", name := "floorMod", desc := "(II)I" } : Jvm.MethodName)), (Jvm.Cond.code ({ cls := "java/lang/Math", name := "floorMod", desc := "(II)I" } : Jvm.MethodName) prog_14_method_50_code (3 : Nat) (Option.some Jvm.ClassFile.FieldType.int)), (Jvm.Cond.methodLink "DiceForge" (72 : Nat) ({ cls := "DiceForge", name := "seedsWithRemainder", desc := "(I)I" } : Jvm.MethodName)), (Jvm.Cond.static ({ cls := "DiceForge", name := "seedsWithRemainder", desc := "(I)I" } : Jvm.MethodName)), (Jvm.Cond.code ({ cls := "DiceForge", name := "seedsWithRemainder", desc := "(I)I" } : Jvm.MethodName) prog_1_method_28_code (1 : Nat) (Option.some Jvm.ClassFile.FieldType.int)), (Jvm.Cond.constant "DiceForge" (188 : Nat) (65535 : Int32))]
def zc_W6 : List Cond := [(Jvm.Cond.sameMethod "java/lang/Throwable" "java/lang/Throwable" "fillInStackTrace" "(I)Ljava/lang/Throwable;"), (Jvm.Cond.sameMethod "[Ljava/lang/Object;" "java/lang/Object" "getClass" "()Ljava/lang/Class;"), (Jvm.Cond.selects "[Ljava/lang/Object;" ({ cls := "java/lang/Object", name := "getClass", desc := "()Ljava/lang/Class;" } : Jvm.MethodName) ({ cls := "java/lang/Object", name := "getClass", desc := "()Ljava/lang/Class;" } : Jvm.MethodName))]
def zc_W : List Cond := zc_W0 ++ (zc_W1 ++ (zc_W2 ++ (zc_W3 ++ (zc_W4 ++ (zc_W5 ++ (zc_W6))))))
theorem zc_good0 : zc_W0.all goodWord = true := by decide +kernel
set_option maxRecDepth 20000 in
theorem zc_tbl0 : ∀ w ∈ zc_W0, w ∈ lw_tbl := fun w hw => by
  have hp : zc_W0 = [0, 1, 2, 3, 4, 5, 6, 7, 8, 9, 10, 11, 12, 13, 14, 15, 16, 17, 18, 19, 20, 21, 22, 23, 24, 25, 26, 27, 28, 29, 30, 31, 32, 33, 34, 35, 36, 37, 38, 39, 40, 41, 42, 43, 44, 45, 46, 47, 48, 49, 50, 51, 52, 53, 54, 55, 57, 58, 59, 60, 61, 62, 63, 64, 65, 66, 67, 68, 69, 70, 71, 72, 73, 74, 75, 76, 77, 78, 79, 80].filterMap (fun i => lw_tbl[i]?) := rfl
  rw [hp] at hw
  obtain ⟨i, -, hi⟩ := List.mem_filterMap.mp hw
  exact List.mem_of_getElem? hi
theorem zc_good1 : zc_W1.all goodWord = true := by decide +kernel
set_option maxRecDepth 20000 in
theorem zc_tbl1 : ∀ w ∈ zc_W1, w ∈ lw_tbl := fun w hw => by
  have hp : zc_W1 = [81, 82, 83, 84, 85, 86, 87, 88, 89, 97, 98, 99, 100, 101, 102, 103, 104, 105, 106, 107, 108, 109, 110, 111, 112, 113, 114, 116, 118, 119, 120, 121, 122, 123, 124, 126, 127, 128, 130, 131, 132, 133, 134, 135, 136, 137, 138, 139, 140, 141, 142, 143, 144, 145, 146, 147, 148, 149, 150, 151, 152, 153, 154, 155, 156, 157, 158, 159, 160, 161, 163, 164, 165, 166, 167, 168, 170, 171, 172, 173].filterMap (fun i => lw_tbl[i]?) := rfl
  rw [hp] at hw
  obtain ⟨i, -, hi⟩ := List.mem_filterMap.mp hw
  exact List.mem_of_getElem? hi
theorem zc_good2 : zc_W2.all goodWord = true := by decide +kernel
set_option maxRecDepth 20000 in
theorem zc_tbl2 : ∀ w ∈ zc_W2, w ∈ lw_tbl := fun w hw => by
  have hp : zc_W2 = [174, 175, 176, 177, 179, 180, 181, 182, 183, 185, 186, 187, 188, 189, 191, 192, 193, 194, 195, 196, 198, 202, 203, 204, 205, 206, 207, 208, 209, 210, 211, 212, 213, 214, 215, 217, 218, 219, 221, 222, 223, 225, 226, 227, 228, 229, 230, 231, 232, 233, 234, 235, 236, 237, 238, 239, 240, 241, 242, 243, 244, 245, 246, 247, 248, 249, 250, 251, 252, 253, 254, 255, 257, 258, 259, 260, 261, 262, 263, 264].filterMap (fun i => lw_tbl[i]?) := rfl
  rw [hp] at hw
  obtain ⟨i, -, hi⟩ := List.mem_filterMap.mp hw
  exact List.mem_of_getElem? hi
theorem zc_good3 : zc_W3.all goodWord = true := by decide +kernel
set_option maxRecDepth 20000 in
theorem zc_tbl3 : ∀ w ∈ zc_W3, w ∈ lw_tbl := fun w hw => by
  have hp : zc_W3 = [265, 266, 267, 268, 269, 270, 271, 272, 273, 274, 276, 277, 278, 279, 280, 281, 283, 284, 285, 286, 287, 288, 290, 291, 292, 293, 294, 295, 296, 297, 298, 299, 300, 301, 302, 303, 304, 305, 306, 307, 308, 310, 311, 313, 314, 315, 316, 317, 318, 319, 320, 321, 322, 323, 324, 325, 326, 328, 329, 330, 331, 332, 333, 334, 337, 338, 340, 341, 342, 343, 345, 347, 349, 351, 353, 356, 358, 359, 360, 361].filterMap (fun i => lw_tbl[i]?) := rfl
  rw [hp] at hw
  obtain ⟨i, -, hi⟩ := List.mem_filterMap.mp hw
  exact List.mem_of_getElem? hi
theorem zc_good4 : zc_W4.all goodWord = true := by decide +kernel
set_option maxRecDepth 20000 in
theorem zc_tbl4 : ∀ w ∈ zc_W4, w ∈ lw_tbl := fun w hw => by
  have hp : zc_W4 = [362, 363, 364, 365, 366, 367, 368, 369, 370, 371, 372, 373, 374, 377, 378, 379, 380, 382, 383, 384, 386, 387, 388, 389, 390, 391, 394, 395, 396, 397, 398, 399, 400, 401, 403, 404, 406, 407, 408, 411, 412, 413, 414, 415, 416, 418, 419, 422, 423, 424, 425, 426, 428, 429, 430, 431, 432, 433, 435, 437, 438, 439, 440, 441, 442, 443, 444, 445, 446, 447, 448, 449, 450, 451, 452, 453, 454, 455, 456, 457].filterMap (fun i => lw_tbl[i]?) := rfl
  rw [hp] at hw
  obtain ⟨i, -, hi⟩ := List.mem_filterMap.mp hw
  exact List.mem_of_getElem? hi
theorem zc_good5 : zc_W5.all goodWord = true := by decide +kernel
set_option maxRecDepth 20000 in
theorem zc_tbl5 : ∀ w ∈ zc_W5, w ∈ lw_tbl := fun w hw => by
  have hp : zc_W5 = [458, 459, 460, 461, 462, 463, 464, 465, 466, 467, 468, 469, 470, 471, 472, 473, 474, 475, 476, 477, 478, 479, 480, 481, 482, 483, 484, 485, 486, 487, 488, 489, 490, 491, 492, 493, 494, 495, 496, 497, 498, 499, 500, 501, 502, 503, 504, 505, 506, 508, 509, 510, 511, 512, 515, 516, 517, 518, 519, 520, 521, 522, 523, 524, 525, 526, 527, 528, 529, 530, 531, 532, 533, 534, 535, 536, 537, 538, 539, 540].filterMap (fun i => lw_tbl[i]?) := rfl
  rw [hp] at hw
  obtain ⟨i, -, hi⟩ := List.mem_filterMap.mp hw
  exact List.mem_of_getElem? hi
theorem zc_good6 : zc_W6.all goodWord = true := by decide +kernel
set_option maxRecDepth 20000 in
theorem zc_tbl6 : ∀ w ∈ zc_W6, w ∈ lw_tbl := fun w hw => by
  have hp : zc_W6 = [541, 552, 553].filterMap (fun i => lw_tbl[i]?) := rfl
  rw [hp] at hw
  obtain ⟨i, -, hi⟩ := List.mem_filterMap.mp hw
  exact List.mem_of_getElem? hi
theorem zk_0 : ∀ w ∈ zc_W0, w ∈ zc_W := fun w h => List.mem_append_left _ h
theorem zk_1 : ∀ w ∈ zc_W1, w ∈ zc_W := fun w h => List.mem_append_right _ (List.mem_append_left _ h)
theorem zk_2 : ∀ w ∈ zc_W2, w ∈ zc_W := fun w h => List.mem_append_right _ (List.mem_append_right _ (List.mem_append_left _ h))
theorem zk_3 : ∀ w ∈ zc_W3, w ∈ zc_W := fun w h => List.mem_append_right _ (List.mem_append_right _ (List.mem_append_right _ (List.mem_append_left _ h)))
theorem zk_4 : ∀ w ∈ zc_W4, w ∈ zc_W := fun w h => List.mem_append_right _ (List.mem_append_right _ (List.mem_append_right _ (List.mem_append_right _ (List.mem_append_left _ h))))
theorem zk_5 : ∀ w ∈ zc_W5, w ∈ zc_W := fun w h => List.mem_append_right _ (List.mem_append_right _ (List.mem_append_right _ (List.mem_append_right _ (List.mem_append_right _ (List.mem_append_left _ h)))))
theorem zk_6 : ∀ w ∈ zc_W6, w ∈ zc_W := fun w h => List.mem_append_right _ (List.mem_append_right _ (List.mem_append_right _ (List.mem_append_right _ (List.mem_append_right _ (List.mem_append_right _ (h))))))
theorem zc_tbl : ∀ w ∈ zc_W, w ∈ lw_tbl := fun w h => (List.mem_append.mp h).elim (fun h => zc_tbl0 w h) (fun h => (List.mem_append.mp h).elim (fun h => zc_tbl1 w h) (fun h => (List.mem_append.mp h).elim (fun h => zc_tbl2 w h) (fun h => (List.mem_append.mp h).elim (fun h => zc_tbl3 w h) (fun h => (List.mem_append.mp h).elim (fun h => zc_tbl4 w h) (fun h => (List.mem_append.mp h).elim (fun h => zc_tbl5 w h) (fun h => zc_tbl6 w h))))))
theorem zc_gw0 : ∀ w ∈ zc_W0, goodWord w = true := fun w h => List.all_eq_true.mp zc_good0 w h
theorem zc_gw1 : ∀ w ∈ zc_W1, goodWord w = true := fun w h => List.all_eq_true.mp zc_good1 w h
theorem zc_gw2 : ∀ w ∈ zc_W2, goodWord w = true := fun w h => List.all_eq_true.mp zc_good2 w h
theorem zc_gw3 : ∀ w ∈ zc_W3, goodWord w = true := fun w h => List.all_eq_true.mp zc_good3 w h
theorem zc_gw4 : ∀ w ∈ zc_W4, goodWord w = true := fun w h => List.all_eq_true.mp zc_good4 w h
theorem zc_gw5 : ∀ w ∈ zc_W5, goodWord w = true := fun w h => List.all_eq_true.mp zc_good5 w h
theorem zc_gw6 : ∀ w ∈ zc_W6, goodWord w = true := fun w h => List.all_eq_true.mp zc_good6 w h
theorem zc_gw : ∀ w ∈ zc_W, goodWord w = true := fun w h => (List.mem_append.mp h).elim (fun h => zc_gw0 w h) (fun h => (List.mem_append.mp h).elim (fun h => zc_gw1 w h) (fun h => (List.mem_append.mp h).elim (fun h => zc_gw2 w h) (fun h => (List.mem_append.mp h).elim (fun h => zc_gw3 w h) (fun h => (List.mem_append.mp h).elim (fun h => zc_gw4 w h) (fun h => (List.mem_append.mp h).elim (fun h => zc_gw5 w h) (fun h => zc_gw6 w h))))))
theorem zgood {c1 c2 : Cond} (h : c2 ∈ zc_W) : GoodIn (c1 :: zc_W) (c2 :: zc_W) := fun w hw => (List.mem_cons.mp hw).elim (fun e => by rw [e]; exact ⟨List.mem_cons_of_mem _ h, good_of_word (zc_gw _ h)⟩) (fun h9 => ⟨List.mem_cons_of_mem _ h9, good_of_word (zc_gw _ h9)⟩)
theorem zgood0 {c2 : Cond} (h : c2 ∈ zc_W) : GoodIn lw_tbl (c2 :: zc_W) := fun w hw => (List.mem_cons.mp hw).elim (fun e => by rw [e]; exact ⟨zc_tbl _ h, good_of_word (zc_gw _ h)⟩) (fun h9 => ⟨zc_tbl _ h9, good_of_word (zc_gw _ h9)⟩)
theorem zm_0 : (Jvm.Cond.selects "java/lang/Throwable" ⟨"java/lang/Throwable", "fillInStackTrace", "(I)Ljava/lang/Throwable;"⟩ ⟨"java/lang/Throwable", "fillInStackTrace", "(I)Ljava/lang/Throwable;"⟩) ∈ zc_W := zk_0 _ (List.mem_of_getElem? (i := 0) rfl)
theorem zm_1 : (Jvm.Cond.selects "java/util/ArrayList" ⟨"java/util/ArrayList", "add", "(Ljava/lang/Object;[Ljava/lang/Object;I)V"⟩ ⟨"java/util/ArrayList", "add", "(Ljava/lang/Object;[Ljava/lang/Object;I)V"⟩) ∈ zc_W := zk_0 _ (List.mem_of_getElem? (i := 1) rfl)
theorem zm_2 : (Jvm.Cond.selects "java/util/ArrayList" ⟨"java/util/ArrayList", "grow", "()[Ljava/lang/Object;"⟩ ⟨"java/util/ArrayList", "grow", "()[Ljava/lang/Object;"⟩) ∈ zc_W := zk_0 _ (List.mem_of_getElem? (i := 2) rfl)
theorem zm_3 : (Jvm.Cond.selects "java/util/ArrayList" ⟨"java/util/ArrayList", "grow", "(I)[Ljava/lang/Object;"⟩ ⟨"java/util/ArrayList", "grow", "(I)[Ljava/lang/Object;"⟩) ∈ zc_W := zk_0 _ (List.mem_of_getElem? (i := 3) rfl)
theorem zm_4 : (Jvm.Cond.selects "DiceForge" ⟨"DiceForge", "promiseAt", "(I)LDiceForge$Promise;"⟩ ⟨"DiceForge", "promiseAt", "(I)LDiceForge$Promise;"⟩) ∈ zc_W := zk_0 _ (List.mem_of_getElem? (i := 4) rfl)
theorem zm_5 : (Jvm.Cond.selects "DiceForge$Draws" ⟨"DiceForge$Draws", "nextValue", "(II)I"⟩ ⟨"DiceForge$Draws", "nextValue", "(II)I"⟩) ∈ zc_W := zk_0 _ (List.mem_of_getElem? (i := 5) rfl)
theorem zm_6 : (Jvm.Cond.selects "DiceForge$Draws" ⟨"DiceForge$Draws", "draw", "(I)V"⟩ ⟨"DiceForge$Draws", "draw", "(I)V"⟩) ∈ zc_W := zk_0 _ (List.mem_of_getElem? (i := 6) rfl)
theorem zm_7 : (Jvm.Cond.selects "DiceForge" ⟨"DiceForge", "lastSum", "()I"⟩ ⟨"DiceForge", "lastSum", "()I"⟩) ∈ zc_W := zk_0 _ (List.mem_of_getElem? (i := 7) rfl)
theorem zm_8 : (Jvm.Cond.selects "DiceForge$Entry" ⟨"DiceForge$Entry", "sumAfter", "(I)I"⟩ ⟨"DiceForge$Entry", "sumAfter", "(I)I"⟩) ∈ zc_W := zk_0 _ (List.mem_of_getElem? (i := 8) rfl)
theorem zm_9 : (Jvm.Cond.selects "DiceForge" ⟨"DiceForge", "entryAt", "(I)LDiceForge$Entry;"⟩ ⟨"DiceForge", "entryAt", "(I)LDiceForge$Entry;"⟩) ∈ zc_W := zk_0 _ (List.mem_of_getElem? (i := 9) rfl)
theorem zm_10 : (Jvm.Cond.selects "DiceForge" ⟨"DiceForge", "openedAt", "(I)LDiceForge$Promise;"⟩ ⟨"DiceForge", "openedAt", "(I)LDiceForge$Promise;"⟩) ∈ zc_W := zk_0 _ (List.mem_of_getElem? (i := 10) rfl)
theorem zm_11 : (Jvm.Cond.selects "DiceForge" ⟨"DiceForge", "firstWrong", "(II)I"⟩ ⟨"DiceForge", "firstWrong", "(II)I"⟩) ∈ zc_W := zk_0 _ (List.mem_of_getElem? (i := 11) rfl)
theorem zm_12 : (Jvm.Cond.selects "DiceForge" ⟨"DiceForge", "strikeFrom", "(II)I"⟩ ⟨"DiceForge", "strikeFrom", "(II)I"⟩) ∈ zc_W := zk_0 _ (List.mem_of_getElem? (i := 12) rfl)
theorem zm_13 : (Jvm.Cond.selects "DiceForge" ⟨"DiceForge", "tallyValues", "(I)I"⟩ ⟨"DiceForge", "tallyValues", "(I)I"⟩) ∈ zc_W := zk_0 _ (List.mem_of_getElem? (i := 13) rfl)
theorem zm_14 : (Jvm.Cond.selects "DiceForge$Entry" ⟨"DiceForge$Entry", "countsFor", "(I)Z"⟩ ⟨"DiceForge$Entry", "countsFor", "(I)Z"⟩) ∈ zc_W := zk_0 _ (List.mem_of_getElem? (i := 14) rfl)
theorem zm_15 : (Jvm.Cond.initialized "DiceForgeLaw") ∈ zc_W := zk_0 _ (List.mem_of_getElem? (i := 15) rfl)
theorem zm_16 : (Jvm.Cond.initialized "DiceForge") ∈ zc_W := zk_0 _ (List.mem_of_getElem? (i := 16) rfl)
theorem zm_17 : (Jvm.Cond.initialized "java/util/AbstractCollection") ∈ zc_W := zk_0 _ (List.mem_of_getElem? (i := 17) rfl)
theorem zm_18 : (Jvm.Cond.initialized "java/util/AbstractList") ∈ zc_W := zk_0 _ (List.mem_of_getElem? (i := 18) rfl)
theorem zm_19 : (Jvm.Cond.initialized "java/util/ArrayList") ∈ zc_W := zk_0 _ (List.mem_of_getElem? (i := 19) rfl)
theorem zm_20 : (Jvm.Cond.initialized "java/lang/Throwable") ∈ zc_W := zk_0 _ (List.mem_of_getElem? (i := 20) rfl)
theorem zm_21 : (Jvm.Cond.initialized "java/lang/Exception") ∈ zc_W := zk_0 _ (List.mem_of_getElem? (i := 21) rfl)
theorem zm_22 : (Jvm.Cond.initialized "java/lang/RuntimeException") ∈ zc_W := zk_0 _ (List.mem_of_getElem? (i := 22) rfl)
theorem zm_23 : (Jvm.Cond.initialized "java/lang/IllegalArgumentException") ∈ zc_W := zk_0 _ (List.mem_of_getElem? (i := 23) rfl)
theorem zm_24 : (Jvm.Cond.initialized "java/lang/IllegalStateException") ∈ zc_W := zk_0 _ (List.mem_of_getElem? (i := 24) rfl)
theorem zm_25 : (Jvm.Cond.initialized "DiceForge$Promise") ∈ zc_W := zk_0 _ (List.mem_of_getElem? (i := 25) rfl)
theorem zm_26 : (Jvm.Cond.initialized "DiceForge$Draws") ∈ zc_W := zk_0 _ (List.mem_of_getElem? (i := 26) rfl)
theorem zm_27 : (Jvm.Cond.initialized "jdk/internal/util/ArraysSupport") ∈ zc_W := zk_0 _ (List.mem_of_getElem? (i := 27) rfl)
theorem zm_28 : (Jvm.Cond.initialized "java/lang/Math") ∈ zc_W := zk_0 _ (List.mem_of_getElem? (i := 28) rfl)
theorem zm_29 : (Jvm.Cond.initialized "java/util/Arrays") ∈ zc_W := zk_0 _ (List.mem_of_getElem? (i := 29) rfl)
theorem zm_30 : (Jvm.Cond.initialized "java/lang/System") ∈ zc_W := zk_0 _ (List.mem_of_getElem? (i := 30) rfl)
theorem zm_31 : (Jvm.Cond.initialized "java/lang/IndexOutOfBoundsException") ∈ zc_W := zk_0 _ (List.mem_of_getElem? (i := 31) rfl)
theorem zm_32 : (Jvm.Cond.initialized "java/util/Objects") ∈ zc_W := zk_0 _ (List.mem_of_getElem? (i := 32) rfl)
theorem zm_33 : (Jvm.Cond.initialized "jdk/internal/util/Preconditions") ∈ zc_W := zk_0 _ (List.mem_of_getElem? (i := 33) rfl)
theorem zm_34 : (Jvm.Cond.initialized "DiceForge$Entry") ∈ zc_W := zk_0 _ (List.mem_of_getElem? (i := 34) rfl)
theorem zm_35 : (Jvm.Cond.classLink "DiceForgeLaw" (11 : Nat) "DiceForge") ∈ zc_W := zk_0 _ (List.mem_of_getElem? (i := 35) rfl)
theorem zm_36 : (Jvm.Cond.instantiable "DiceForge" (4 : Nat)) ∈ zc_W := zk_0 _ (List.mem_of_getElem? (i := 36) rfl)
theorem zm_37 : (Jvm.Cond.methodLink "DiceForgeLaw" (113 : Nat) ({ cls := "DiceForge", name := "<init>", desc := "()V" } : Jvm.MethodName)) ∈ zc_W := zk_0 _ (List.mem_of_getElem? (i := 37) rfl)
theorem zm_38 : (Jvm.Cond.instanceMethod ({ cls := "DiceForge", name := "<init>", desc := "()V" } : Jvm.MethodName)) ∈ zc_W := zk_0 _ (List.mem_of_getElem? (i := 38) rfl)
theorem zm_39 : (Jvm.Cond.code ({ cls := "DiceForge", name := "<init>", desc := "()V" } : Jvm.MethodName) prog_1_method_1_code (1 : Nat) (Option.none : Option Jvm.ClassFile.FieldType)) ∈ zc_W := zk_0 _ (List.mem_of_getElem? (i := 39) rfl)
theorem zm_40 : (Jvm.Cond.methodLink "DiceForge" (1 : Nat) ({ cls := "java/lang/Object", name := "<init>", desc := "()V" } : Jvm.MethodName)) ∈ zc_W := zk_0 _ (List.mem_of_getElem? (i := 40) rfl)
theorem zm_41 : (Jvm.Cond.instanceMethod ({ cls := "java/lang/Object", name := "<init>", desc := "()V" } : Jvm.MethodName)) ∈ zc_W := zk_0 _ (List.mem_of_getElem? (i := 41) rfl)
theorem zm_42 : (Jvm.Cond.code ({ cls := "java/lang/Object", name := "<init>", desc := "()V" } : Jvm.MethodName) object_method_1_code (1 : Nat) (Option.none : Option Jvm.ClassFile.FieldType)) ∈ zc_W := zk_0 _ (List.mem_of_getElem? (i := 42) rfl)
theorem zm_43 : (Jvm.Cond.classLink "DiceForge" (7 : Nat) "java/util/ArrayList") ∈ zc_W := zk_0 _ (List.mem_of_getElem? (i := 43) rfl)
theorem zm_44 : (Jvm.Cond.instantiable "java/util/ArrayList" (3 : Nat)) ∈ zc_W := zk_0 _ (List.mem_of_getElem? (i := 44) rfl)
theorem zm_45 : (Jvm.Cond.methodLink "DiceForge" (9 : Nat) ({ cls := "java/util/ArrayList", name := "<init>", desc := "()V" } : Jvm.MethodName)) ∈ zc_W := zk_0 _ (List.mem_of_getElem? (i := 45) rfl)
theorem zm_46 : (Jvm.Cond.instanceMethod ({ cls := "java/util/ArrayList", name := "<init>", desc := "()V" } : Jvm.MethodName)) ∈ zc_W := zk_0 _ (List.mem_of_getElem? (i := 46) rfl)
theorem zm_47 : (Jvm.Cond.code ({ cls := "java/util/ArrayList", name := "<init>", desc := "()V" } : Jvm.MethodName) prog_21_method_2_code (1 : Nat) (Option.none : Option Jvm.ClassFile.FieldType)) ∈ zc_W := zk_0 _ (List.mem_of_getElem? (i := 47) rfl)
theorem zm_48 : (Jvm.Cond.methodLink "java/util/ArrayList" (1 : Nat) ({ cls := "java/util/AbstractList", name := "<init>", desc := "()V" } : Jvm.MethodName)) ∈ zc_W := zk_0 _ (List.mem_of_getElem? (i := 48) rfl)
theorem zm_49 : (Jvm.Cond.instanceMethod ({ cls := "java/util/AbstractList", name := "<init>", desc := "()V" } : Jvm.MethodName)) ∈ zc_W := zk_0 _ (List.mem_of_getElem? (i := 49) rfl)
theorem zm_50 : (Jvm.Cond.code ({ cls := "java/util/AbstractList", name := "<init>", desc := "()V" } : Jvm.MethodName) prog_20_method_1_code (1 : Nat) (Option.none : Option Jvm.ClassFile.FieldType)) ∈ zc_W := zk_0 _ (List.mem_of_getElem? (i := 50) rfl)
theorem zm_51 : (Jvm.Cond.methodLink "java/util/AbstractList" (1 : Nat) ({ cls := "java/util/AbstractCollection", name := "<init>", desc := "()V" } : Jvm.MethodName)) ∈ zc_W := zk_0 _ (List.mem_of_getElem? (i := 51) rfl)
theorem zm_52 : (Jvm.Cond.instanceMethod ({ cls := "java/util/AbstractCollection", name := "<init>", desc := "()V" } : Jvm.MethodName)) ∈ zc_W := zk_0 _ (List.mem_of_getElem? (i := 52) rfl)
theorem zm_53 : (Jvm.Cond.code ({ cls := "java/util/AbstractCollection", name := "<init>", desc := "()V" } : Jvm.MethodName) prog_19_method_1_code (1 : Nat) (Option.none : Option Jvm.ClassFile.FieldType)) ∈ zc_W := zk_0 _ (List.mem_of_getElem? (i := 53) rfl)
theorem zm_54 : (Jvm.Cond.methodLink "java/util/AbstractCollection" (1 : Nat) ({ cls := "java/lang/Object", name := "<init>", desc := "()V" } : Jvm.MethodName)) ∈ zc_W := zk_0 _ (List.mem_of_getElem? (i := 54) rfl)
theorem zm_55 : (Jvm.Cond.fieldLink "java/util/ArrayList" (39 : Nat) "java/util/ArrayList" "DEFAULTCAPACITY_EMPTY_ELEMENTDATA" "[Ljava/lang/Object;") ∈ zc_W := zk_0 _ (List.mem_of_getElem? (i := 55) rfl)
theorem zm_56 : (Jvm.Cond.fieldLink "java/util/ArrayList" (9 : Nat) "java/util/ArrayList" "elementData" "[Ljava/lang/Object;") ∈ zc_W := zk_0 _ (List.mem_of_getElem? (i := 56) rfl)
theorem zm_57 : (Jvm.Cond.fieldLink "java/util/ArrayList" (48 : Nat) "java/util/ArrayList" "size" "I") ∈ zc_W := zk_0 _ (List.mem_of_getElem? (i := 57) rfl)
theorem zm_58 : (Jvm.Cond.fieldLink "java/util/AbstractList" (7 : Nat) "java/util/AbstractList" "modCount" "I") ∈ zc_W := zk_0 _ (List.mem_of_getElem? (i := 58) rfl)
theorem zm_59 : (Jvm.Cond.fieldLink "java/util/ArrayList" (63 : Nat) "java/util/ArrayList" "modCount" "I") ∈ zc_W := zk_0 _ (List.mem_of_getElem? (i := 59) rfl)
theorem zm_60 : (Jvm.Cond.sameField "java/util/ArrayList" "java/util/AbstractList" "modCount" "I") ∈ zc_W := zk_0 _ (List.mem_of_getElem? (i := 60) rfl)
theorem zm_61 : (Jvm.Cond.lays "java/util/ArrayList" "java/util/ArrayList" "elementData" "[Ljava/lang/Object;") ∈ zc_W := zk_0 _ (List.mem_of_getElem? (i := 61) rfl)
theorem zm_62 : (Jvm.Cond.soleField "java/util/ArrayList" "elementData") ∈ zc_W := zk_0 _ (List.mem_of_getElem? (i := 62) rfl)
theorem zm_63 : (Jvm.Cond.lays "java/util/ArrayList" "java/util/ArrayList" "size" "I") ∈ zc_W := zk_0 _ (List.mem_of_getElem? (i := 63) rfl)
theorem zm_64 : (Jvm.Cond.soleField "java/util/ArrayList" "size") ∈ zc_W := zk_0 _ (List.mem_of_getElem? (i := 64) rfl)
theorem zm_65 : (Jvm.Cond.lays "java/util/ArrayList" "java/util/AbstractList" "modCount" "I") ∈ zc_W := zk_0 _ (List.mem_of_getElem? (i := 65) rfl)
theorem zm_66 : (Jvm.Cond.soleField "java/util/AbstractList" "modCount") ∈ zc_W := zk_0 _ (List.mem_of_getElem? (i := 66) rfl)
theorem zm_67 : (Jvm.Cond.superclass "java/util/ArrayList" "java/util/AbstractList") ∈ zc_W := zk_0 _ (List.mem_of_getElem? (i := 67) rfl)
theorem zm_68 : (Jvm.Cond.fieldLink "DiceForge" (10 : Nat) "DiceForge" "promises" "Ljava/util/ArrayList;") ∈ zc_W := zk_0 _ (List.mem_of_getElem? (i := 68) rfl)
theorem zm_69 : (Jvm.Cond.fieldLink "DiceForge" (16 : Nat) "DiceForge" "log" "Ljava/util/ArrayList;") ∈ zc_W := zk_0 _ (List.mem_of_getElem? (i := 69) rfl)
theorem zm_70 : (Jvm.Cond.fieldLink "DiceForge" (19 : Nat) "DiceForge" "parts" "[I") ∈ zc_W := zk_0 _ (List.mem_of_getElem? (i := 70) rfl)
theorem zm_71 : (Jvm.Cond.fieldLink "DiceForge" (23 : Nat) "DiceForge" "tally" "[I") ∈ zc_W := zk_0 _ (List.mem_of_getElem? (i := 71) rfl)
theorem zm_72 : (Jvm.Cond.laysFinal "DiceForge" "DiceForge" "promises" "Ljava/util/ArrayList;") ∈ zc_W := zk_0 _ (List.mem_of_getElem? (i := 72) rfl)
theorem zm_73 : (Jvm.Cond.soleField "DiceForge" "promises") ∈ zc_W := zk_0 _ (List.mem_of_getElem? (i := 73) rfl)
theorem zm_74 : (Jvm.Cond.laysFinal "DiceForge" "DiceForge" "log" "Ljava/util/ArrayList;") ∈ zc_W := zk_0 _ (List.mem_of_getElem? (i := 74) rfl)
theorem zm_75 : (Jvm.Cond.soleField "DiceForge" "log") ∈ zc_W := zk_0 _ (List.mem_of_getElem? (i := 75) rfl)
theorem zm_76 : (Jvm.Cond.laysFinal "DiceForge" "DiceForge" "parts" "[I") ∈ zc_W := zk_0 _ (List.mem_of_getElem? (i := 76) rfl)
theorem zm_77 : (Jvm.Cond.soleField "DiceForge" "parts") ∈ zc_W := zk_0 _ (List.mem_of_getElem? (i := 77) rfl)
theorem zm_78 : (Jvm.Cond.laysFinal "DiceForge" "DiceForge" "tally" "[I") ∈ zc_W := zk_0 _ (List.mem_of_getElem? (i := 78) rfl)
theorem zm_79 : (Jvm.Cond.soleField "DiceForge" "tally") ∈ zc_W := zk_0 _ (List.mem_of_getElem? (i := 79) rfl)
theorem zm_80 : (Jvm.Cond.superclass "DiceForge" "java/lang/Object") ∈ zc_W := zk_1 _ (List.mem_of_getElem? (i := 0) rfl)
theorem zm_81 : (Jvm.Cond.arrayClass Jvm.ClassFile.FieldType.int) ∈ zc_W := zk_1 _ (List.mem_of_getElem? (i := 1) rfl)
theorem zm_82 : (Jvm.Cond.methodLink "DiceForgeLaw" (118 : Nat) ({ cls := "DiceForge", name := "promise", desc := "(I)I" } : Jvm.MethodName)) ∈ zc_W := zk_1 _ (List.mem_of_getElem? (i := 2) rfl)
theorem zm_83 : (Jvm.Cond.instanceMethod ({ cls := "DiceForge", name := "promise", desc := "(I)I" } : Jvm.MethodName)) ∈ zc_W := zk_1 _ (List.mem_of_getElem? (i := 3) rfl)
theorem zm_84 : (Jvm.Cond.selects "DiceForge" ({ cls := "DiceForge", name := "promise", desc := "(I)I" } : Jvm.MethodName) ({ cls := "DiceForge", name := "promise", desc := "(I)I" } : Jvm.MethodName)) ∈ zc_W := zk_1 _ (List.mem_of_getElem? (i := 4) rfl)
theorem zm_85 : (Jvm.Cond.code ({ cls := "DiceForge", name := "promise", desc := "(I)I" } : Jvm.MethodName) prog_1_method_2_code (2 : Nat) (Option.some Jvm.ClassFile.FieldType.int)) ∈ zc_W := zk_1 _ (List.mem_of_getElem? (i := 5) rfl)
theorem zm_86 : (Jvm.Cond.constant "DiceForge" (26 : Nat) (65536 : Int32)) ∈ zc_W := zk_1 _ (List.mem_of_getElem? (i := 6) rfl)
theorem zm_87 : (Jvm.Cond.classLink "DiceForge" (27 : Nat) "java/lang/IllegalArgumentException") ∈ zc_W := zk_1 _ (List.mem_of_getElem? (i := 7) rfl)
theorem zm_88 : (Jvm.Cond.instantiable "java/lang/IllegalArgumentException" (6 : Nat)) ∈ zc_W := zk_1 _ (List.mem_of_getElem? (i := 8) rfl)
theorem zm_89 : (Jvm.Cond.selects "java/lang/IllegalArgumentException" ({ cls := "java/lang/Throwable", name := "fillInStackTrace", desc := "(I)Ljava/lang/Throwable;" } : Jvm.MethodName) ({ cls := "java/lang/Throwable", name := "fillInStackTrace", desc := "(I)Ljava/lang/Throwable;" } : Jvm.MethodName)) ∈ zc_W := zk_1 _ (List.mem_of_getElem? (i := 9) rfl)
theorem zm_90 : (Jvm.Cond.selects "java/lang/IllegalArgumentException" ({ cls := "java/lang/Throwable", name := "fillInStackTrace", desc := "()Ljava/lang/Throwable;" } : Jvm.MethodName) ({ cls := "java/lang/Throwable", name := "fillInStackTrace", desc := "()Ljava/lang/Throwable;" } : Jvm.MethodName)) ∈ zc_W := zk_1 _ (List.mem_of_getElem? (i := 10) rfl)
theorem zm_91 : (Jvm.Cond.lays "java/lang/IllegalArgumentException" "java/lang/Throwable" "cause" "Ljava/lang/Throwable;") ∈ zc_W := zk_1 _ (List.mem_of_getElem? (i := 11) rfl)
theorem zm_92 : (Jvm.Cond.lays "java/lang/Throwable" "java/lang/Throwable" "cause" "Ljava/lang/Throwable;") ∈ zc_W := zk_1 _ (List.mem_of_getElem? (i := 12) rfl)
theorem zm_93 : (Jvm.Cond.lays "java/lang/IllegalArgumentException" "java/lang/Throwable" "stackTrace" "[Ljava/lang/StackTraceElement;") ∈ zc_W := zk_1 _ (List.mem_of_getElem? (i := 13) rfl)
theorem zm_94 : (Jvm.Cond.lays "java/lang/Throwable" "java/lang/Throwable" "stackTrace" "[Ljava/lang/StackTraceElement;") ∈ zc_W := zk_1 _ (List.mem_of_getElem? (i := 14) rfl)
theorem zm_95 : (Jvm.Cond.lays "java/lang/IllegalArgumentException" "java/lang/Throwable" "suppressedExceptions" "Ljava/util/List;") ∈ zc_W := zk_1 _ (List.mem_of_getElem? (i := 15) rfl)
theorem zm_96 : (Jvm.Cond.lays "java/lang/Throwable" "java/lang/Throwable" "suppressedExceptions" "Ljava/util/List;") ∈ zc_W := zk_1 _ (List.mem_of_getElem? (i := 16) rfl)
theorem zm_97 : (Jvm.Cond.lays "java/lang/IllegalArgumentException" "java/lang/Throwable" "detailMessage" "Ljava/lang/String;") ∈ zc_W := zk_1 _ (List.mem_of_getElem? (i := 17) rfl)
theorem zm_98 : (Jvm.Cond.lays "java/lang/Throwable" "java/lang/Throwable" "detailMessage" "Ljava/lang/String;") ∈ zc_W := zk_1 _ (List.mem_of_getElem? (i := 18) rfl)
theorem zm_99 : (Jvm.Cond.lays "java/lang/IllegalArgumentException" "java/lang/Throwable" "backtrace" "Ljava/lang/Object;") ∈ zc_W := zk_1 _ (List.mem_of_getElem? (i := 19) rfl)
theorem zm_100 : (Jvm.Cond.lays "java/lang/Throwable" "java/lang/Throwable" "backtrace" "Ljava/lang/Object;") ∈ zc_W := zk_1 _ (List.mem_of_getElem? (i := 20) rfl)
theorem zm_101 : (Jvm.Cond.fieldLink "java/lang/Throwable" (198 : Nat) "java/lang/Throwable" "backtrace" "Ljava/lang/Object;") ∈ zc_W := zk_1 _ (List.mem_of_getElem? (i := 21) rfl)
theorem zm_102 : (Jvm.Cond.superclass "java/lang/Throwable" "java/lang/Object") ∈ zc_W := zk_1 _ (List.mem_of_getElem? (i := 22) rfl)
theorem zm_103 : (Jvm.Cond.instanceMethod ({ cls := "java/lang/Throwable", name := "<init>", desc := "()V" } : Jvm.MethodName)) ∈ zc_W := zk_1 _ (List.mem_of_getElem? (i := 23) rfl)
theorem zm_104 : (Jvm.Cond.code ({ cls := "java/lang/Throwable", name := "<init>", desc := "()V" } : Jvm.MethodName) prog_18_method_1_code (1 : Nat) (Option.none : Option Jvm.ClassFile.FieldType)) ∈ zc_W := zk_1 _ (List.mem_of_getElem? (i := 24) rfl)
theorem zm_105 : (Jvm.Cond.methodLink "java/lang/Throwable" (1 : Nat) ({ cls := "java/lang/Object", name := "<init>", desc := "()V" } : Jvm.MethodName)) ∈ zc_W := zk_1 _ (List.mem_of_getElem? (i := 25) rfl)
theorem zm_106 : (Jvm.Cond.fieldLink "java/lang/Throwable" (13 : Nat) "java/lang/Throwable" "UNASSIGNED_STACK" "[Ljava/lang/StackTraceElement;") ∈ zc_W := zk_1 _ (List.mem_of_getElem? (i := 26) rfl)
theorem zm_107 : (Jvm.Cond.fieldLink "java/lang/Throwable" (20 : Nat) "java/lang/Throwable" "SUPPRESSED_SENTINEL" "Ljava/util/List;") ∈ zc_W := zk_1 _ (List.mem_of_getElem? (i := 27) rfl)
theorem zm_108 : (Jvm.Cond.methodLink "java/lang/Throwable" (27 : Nat) ({ cls := "java/lang/Throwable", name := "fillInStackTrace", desc := "()Ljava/lang/Throwable;" } : Jvm.MethodName)) ∈ zc_W := zk_1 _ (List.mem_of_getElem? (i := 28) rfl)
theorem zm_109 : (Jvm.Cond.instanceMethod ({ cls := "java/lang/Throwable", name := "fillInStackTrace", desc := "()Ljava/lang/Throwable;" } : Jvm.MethodName)) ∈ zc_W := zk_1 _ (List.mem_of_getElem? (i := 29) rfl)
theorem zm_110 : (Jvm.Cond.sameMethod "java/lang/Throwable" "java/lang/Throwable" "fillInStackTrace" "()Ljava/lang/Throwable;") ∈ zc_W := zk_1 _ (List.mem_of_getElem? (i := 30) rfl)
theorem zm_111 : (Jvm.Cond.selects "java/lang/IllegalStateException" ({ cls := "java/lang/Throwable", name := "fillInStackTrace", desc := "()Ljava/lang/Throwable;" } : Jvm.MethodName) ({ cls := "java/lang/Throwable", name := "fillInStackTrace", desc := "()Ljava/lang/Throwable;" } : Jvm.MethodName)) ∈ zc_W := zk_1 _ (List.mem_of_getElem? (i := 31) rfl)
theorem zm_112 : (Jvm.Cond.selects "java/lang/IndexOutOfBoundsException" ({ cls := "java/lang/Throwable", name := "fillInStackTrace", desc := "()Ljava/lang/Throwable;" } : Jvm.MethodName) ({ cls := "java/lang/Throwable", name := "fillInStackTrace", desc := "()Ljava/lang/Throwable;" } : Jvm.MethodName)) ∈ zc_W := zk_1 _ (List.mem_of_getElem? (i := 32) rfl)
theorem zm_113 : (Jvm.Cond.codeSync ({ cls := "java/lang/Throwable", name := "fillInStackTrace", desc := "()Ljava/lang/Throwable;" } : Jvm.MethodName) prog_18_method_18_code (1 : Nat) (Option.some (Jvm.ClassFile.FieldType.object "java/lang/Throwable"))) ∈ zc_W := zk_1 _ (List.mem_of_getElem? (i := 33) rfl)
theorem zm_114 : (Jvm.Cond.methodLink "java/lang/Throwable" (202 : Nat) ({ cls := "java/lang/Throwable", name := "fillInStackTrace", desc := "(I)Ljava/lang/Throwable;" } : Jvm.MethodName)) ∈ zc_W := zk_1 _ (List.mem_of_getElem? (i := 34) rfl)
theorem zm_115 : (Jvm.Cond.instanceMethod ({ cls := "java/lang/Throwable", name := "fillInStackTrace", desc := "(I)Ljava/lang/Throwable;" } : Jvm.MethodName)) ∈ zc_W := zk_1 _ (List.mem_of_getElem? (i := 35) rfl)
theorem zm_116 : (Jvm.Cond.instantiable "java/lang/Throwable" (6 : Nat)) ∈ zc_W := zk_1 _ (List.mem_of_getElem? (i := 36) rfl)
theorem zm_117 : (Jvm.Cond.native ({ cls := "java/lang/Throwable", name := "fillInStackTrace", desc := "(I)Ljava/lang/Throwable;" } : Jvm.MethodName)) ∈ zc_W := zk_1 _ (List.mem_of_getElem? (i := 37) rfl)
theorem zm_118 : (Jvm.Cond.methodLink "DiceForge" (31 : Nat) ({ cls := "java/lang/IllegalArgumentException", name := "<init>", desc := "(Ljava/lang/String;)V" } : Jvm.MethodName)) ∈ zc_W := zk_1 _ (List.mem_of_getElem? (i := 38) rfl)
theorem zm_119 : (Jvm.Cond.instanceMethod ({ cls := "java/lang/IllegalArgumentException", name := "<init>", desc := "(Ljava/lang/String;)V" } : Jvm.MethodName)) ∈ zc_W := zk_1 _ (List.mem_of_getElem? (i := 39) rfl)
theorem zm_120 : (Jvm.Cond.code ({ cls := "java/lang/IllegalArgumentException", name := "<init>", desc := "(Ljava/lang/String;)V" } : Jvm.MethodName) prog_10_method_2_code (2 : Nat) (Option.none : Option Jvm.ClassFile.FieldType)) ∈ zc_W := zk_1 _ (List.mem_of_getElem? (i := 40) rfl)
theorem zm_121 : (Jvm.Cond.methodLink "java/lang/IllegalArgumentException" (7 : Nat) ({ cls := "java/lang/RuntimeException", name := "<init>", desc := "(Ljava/lang/String;)V" } : Jvm.MethodName)) ∈ zc_W := zk_1 _ (List.mem_of_getElem? (i := 41) rfl)
theorem zm_122 : (Jvm.Cond.instanceMethod ({ cls := "java/lang/RuntimeException", name := "<init>", desc := "(Ljava/lang/String;)V" } : Jvm.MethodName)) ∈ zc_W := zk_1 _ (List.mem_of_getElem? (i := 42) rfl)
theorem zm_123 : (Jvm.Cond.code ({ cls := "java/lang/RuntimeException", name := "<init>", desc := "(Ljava/lang/String;)V" } : Jvm.MethodName) prog_15_method_2_code (2 : Nat) (Option.none : Option Jvm.ClassFile.FieldType)) ∈ zc_W := zk_1 _ (List.mem_of_getElem? (i := 43) rfl)
theorem zm_124 : (Jvm.Cond.methodLink "java/lang/RuntimeException" (7 : Nat) ({ cls := "java/lang/Exception", name := "<init>", desc := "(Ljava/lang/String;)V" } : Jvm.MethodName)) ∈ zc_W := zk_1 _ (List.mem_of_getElem? (i := 44) rfl)
theorem zm_125 : (Jvm.Cond.instanceMethod ({ cls := "java/lang/Exception", name := "<init>", desc := "(Ljava/lang/String;)V" } : Jvm.MethodName)) ∈ zc_W := zk_1 _ (List.mem_of_getElem? (i := 45) rfl)
theorem zm_126 : (Jvm.Cond.code ({ cls := "java/lang/Exception", name := "<init>", desc := "(Ljava/lang/String;)V" } : Jvm.MethodName) prog_9_method_2_code (2 : Nat) (Option.none : Option Jvm.ClassFile.FieldType)) ∈ zc_W := zk_1 _ (List.mem_of_getElem? (i := 46) rfl)
theorem zm_127 : (Jvm.Cond.methodLink "java/lang/Exception" (7 : Nat) ({ cls := "java/lang/Throwable", name := "<init>", desc := "(Ljava/lang/String;)V" } : Jvm.MethodName)) ∈ zc_W := zk_1 _ (List.mem_of_getElem? (i := 47) rfl)
theorem zm_128 : (Jvm.Cond.instanceMethod ({ cls := "java/lang/Throwable", name := "<init>", desc := "(Ljava/lang/String;)V" } : Jvm.MethodName)) ∈ zc_W := zk_1 _ (List.mem_of_getElem? (i := 48) rfl)
theorem zm_129 : (Jvm.Cond.code ({ cls := "java/lang/Throwable", name := "<init>", desc := "(Ljava/lang/String;)V" } : Jvm.MethodName) prog_18_method_2_code (2 : Nat) (Option.none : Option Jvm.ClassFile.FieldType)) ∈ zc_W := zk_1 _ (List.mem_of_getElem? (i := 49) rfl)
theorem zm_130 : (Jvm.Cond.fieldLink "java/lang/Throwable" (198 : Nat) "java/lang/Throwable" "backtrace" "Ljava/lang/Object;") ∈ zc_W := zk_1 _ (List.mem_of_getElem? (i := 50) rfl)
theorem zm_131 : (Jvm.Cond.fieldLink "java/lang/Throwable" (31 : Nat) "java/lang/Throwable" "detailMessage" "Ljava/lang/String;") ∈ zc_W := zk_1 _ (List.mem_of_getElem? (i := 51) rfl)
theorem zm_132 : (Jvm.Cond.fieldLink "java/lang/Throwable" (7 : Nat) "java/lang/Throwable" "cause" "Ljava/lang/Throwable;") ∈ zc_W := zk_1 _ (List.mem_of_getElem? (i := 52) rfl)
theorem zm_133 : (Jvm.Cond.fieldLink "java/lang/Throwable" (17 : Nat) "java/lang/Throwable" "stackTrace" "[Ljava/lang/StackTraceElement;") ∈ zc_W := zk_1 _ (List.mem_of_getElem? (i := 53) rfl)
theorem zm_134 : (Jvm.Cond.fieldLink "java/lang/Throwable" (24 : Nat) "java/lang/Throwable" "suppressedExceptions" "Ljava/util/List;") ∈ zc_W := zk_1 _ (List.mem_of_getElem? (i := 54) rfl)
theorem zm_135 : (Jvm.Cond.soleField "java/lang/Throwable" "backtrace") ∈ zc_W := zk_1 _ (List.mem_of_getElem? (i := 55) rfl)
theorem zm_136 : (Jvm.Cond.soleField "java/lang/Throwable" "detailMessage") ∈ zc_W := zk_1 _ (List.mem_of_getElem? (i := 56) rfl)
theorem zm_137 : (Jvm.Cond.soleField "java/lang/Throwable" "cause") ∈ zc_W := zk_1 _ (List.mem_of_getElem? (i := 57) rfl)
theorem zm_138 : (Jvm.Cond.soleField "java/lang/Throwable" "stackTrace") ∈ zc_W := zk_1 _ (List.mem_of_getElem? (i := 58) rfl)
theorem zm_139 : (Jvm.Cond.lays "java/lang/IllegalArgumentException" "java/lang/Throwable" "depth" "I") ∈ zc_W := zk_1 _ (List.mem_of_getElem? (i := 59) rfl)
theorem zm_140 : (Jvm.Cond.soleField "java/lang/Throwable" "depth") ∈ zc_W := zk_1 _ (List.mem_of_getElem? (i := 60) rfl)
theorem zm_141 : (Jvm.Cond.soleField "java/lang/Throwable" "suppressedExceptions") ∈ zc_W := zk_1 _ (List.mem_of_getElem? (i := 61) rfl)
theorem zm_142 : (Jvm.Cond.superclass "java/lang/IllegalArgumentException" "java/lang/RuntimeException") ∈ zc_W := zk_1 _ (List.mem_of_getElem? (i := 62) rfl)
theorem zm_143 : (Jvm.Cond.arrayClass Jvm.ClassFile.FieldType.byte) ∈ zc_W := zk_1 _ (List.mem_of_getElem? (i := 63) rfl)
theorem zm_144 : (Jvm.Cond.methodLink "DiceForge" (34 : Nat) ({ cls := "java/util/ArrayList", name := "size", desc := "()I" } : Jvm.MethodName)) ∈ zc_W := zk_1 _ (List.mem_of_getElem? (i := 64) rfl)
theorem zm_145 : (Jvm.Cond.instanceMethod ({ cls := "java/util/ArrayList", name := "size", desc := "()I" } : Jvm.MethodName)) ∈ zc_W := zk_1 _ (List.mem_of_getElem? (i := 65) rfl)
theorem zm_146 : (Jvm.Cond.selects "java/util/ArrayList" ({ cls := "java/util/ArrayList", name := "size", desc := "()I" } : Jvm.MethodName) ({ cls := "java/util/ArrayList", name := "size", desc := "()I" } : Jvm.MethodName)) ∈ zc_W := zk_1 _ (List.mem_of_getElem? (i := 66) rfl)
theorem zm_147 : (Jvm.Cond.code ({ cls := "java/util/ArrayList", name := "size", desc := "()I" } : Jvm.MethodName) prog_21_method_8_code (1 : Nat) (Option.some Jvm.ClassFile.FieldType.int)) ∈ zc_W := zk_1 _ (List.mem_of_getElem? (i := 67) rfl)
theorem zm_148 : (Jvm.Cond.classLink "DiceForge" (38 : Nat) "java/lang/IllegalStateException") ∈ zc_W := zk_1 _ (List.mem_of_getElem? (i := 68) rfl)
theorem zm_149 : (Jvm.Cond.instantiable "java/lang/IllegalStateException" (6 : Nat)) ∈ zc_W := zk_1 _ (List.mem_of_getElem? (i := 69) rfl)
theorem zm_150 : (Jvm.Cond.selects "java/lang/IllegalStateException" ({ cls := "java/lang/Throwable", name := "fillInStackTrace", desc := "(I)Ljava/lang/Throwable;" } : Jvm.MethodName) ({ cls := "java/lang/Throwable", name := "fillInStackTrace", desc := "(I)Ljava/lang/Throwable;" } : Jvm.MethodName)) ∈ zc_W := zk_1 _ (List.mem_of_getElem? (i := 70) rfl)
theorem zm_151 : (Jvm.Cond.lays "java/lang/IllegalStateException" "java/lang/Throwable" "cause" "Ljava/lang/Throwable;") ∈ zc_W := zk_1 _ (List.mem_of_getElem? (i := 71) rfl)
theorem zm_152 : (Jvm.Cond.lays "java/lang/IllegalStateException" "java/lang/Throwable" "stackTrace" "[Ljava/lang/StackTraceElement;") ∈ zc_W := zk_1 _ (List.mem_of_getElem? (i := 72) rfl)
theorem zm_153 : (Jvm.Cond.lays "java/lang/IllegalStateException" "java/lang/Throwable" "suppressedExceptions" "Ljava/util/List;") ∈ zc_W := zk_1 _ (List.mem_of_getElem? (i := 73) rfl)
theorem zm_154 : (Jvm.Cond.lays "java/lang/IllegalStateException" "java/lang/Throwable" "detailMessage" "Ljava/lang/String;") ∈ zc_W := zk_1 _ (List.mem_of_getElem? (i := 74) rfl)
theorem zm_155 : (Jvm.Cond.lays "java/lang/IllegalStateException" "java/lang/Throwable" "backtrace" "Ljava/lang/Object;") ∈ zc_W := zk_1 _ (List.mem_of_getElem? (i := 75) rfl)
theorem zm_156 : (Jvm.Cond.methodLink "DiceForge" (42 : Nat) ({ cls := "java/lang/IllegalStateException", name := "<init>", desc := "(Ljava/lang/String;)V" } : Jvm.MethodName)) ∈ zc_W := zk_1 _ (List.mem_of_getElem? (i := 76) rfl)
theorem zm_157 : (Jvm.Cond.instanceMethod ({ cls := "java/lang/IllegalStateException", name := "<init>", desc := "(Ljava/lang/String;)V" } : Jvm.MethodName)) ∈ zc_W := zk_1 _ (List.mem_of_getElem? (i := 77) rfl)
theorem zm_158 : (Jvm.Cond.code ({ cls := "java/lang/IllegalStateException", name := "<init>", desc := "(Ljava/lang/String;)V" } : Jvm.MethodName) prog_11_method_2_code (2 : Nat) (Option.none : Option Jvm.ClassFile.FieldType)) ∈ zc_W := zk_1 _ (List.mem_of_getElem? (i := 78) rfl)
theorem zm_159 : (Jvm.Cond.methodLink "java/lang/IllegalStateException" (7 : Nat) ({ cls := "java/lang/RuntimeException", name := "<init>", desc := "(Ljava/lang/String;)V" } : Jvm.MethodName)) ∈ zc_W := zk_1 _ (List.mem_of_getElem? (i := 79) rfl)
theorem zm_160 : (Jvm.Cond.lays "java/lang/IllegalStateException" "java/lang/Throwable" "depth" "I") ∈ zc_W := zk_2 _ (List.mem_of_getElem? (i := 0) rfl)
theorem zm_161 : (Jvm.Cond.superclass "java/lang/IllegalStateException" "java/lang/RuntimeException") ∈ zc_W := zk_2 _ (List.mem_of_getElem? (i := 1) rfl)
theorem zm_162 : (Jvm.Cond.classLink "DiceForge" (43 : Nat) "DiceForge$Promise") ∈ zc_W := zk_2 _ (List.mem_of_getElem? (i := 2) rfl)
theorem zm_163 : (Jvm.Cond.instantiable "DiceForge$Promise" (4 : Nat)) ∈ zc_W := zk_2 _ (List.mem_of_getElem? (i := 3) rfl)
theorem zm_164 : (Jvm.Cond.instanceMethod ({ cls := "DiceForge$Promise", name := "<init>", desc := "(I)V" } : Jvm.MethodName)) ∈ zc_W := zk_2 _ (List.mem_of_getElem? (i := 4) rfl)
theorem zm_165 : (Jvm.Cond.code ({ cls := "DiceForge$Promise", name := "<init>", desc := "(I)V" } : Jvm.MethodName) prog_4_method_1_code (2 : Nat) (Option.none : Option Jvm.ClassFile.FieldType)) ∈ zc_W := zk_2 _ (List.mem_of_getElem? (i := 5) rfl)
theorem zm_166 : (Jvm.Cond.methodLink "DiceForge$Promise" (1 : Nat) ({ cls := "java/lang/Object", name := "<init>", desc := "()V" } : Jvm.MethodName)) ∈ zc_W := zk_2 _ (List.mem_of_getElem? (i := 6) rfl)
theorem zm_167 : (Jvm.Cond.classLink "DiceForge$Promise" (13 : Nat) "DiceForge$Draws") ∈ zc_W := zk_2 _ (List.mem_of_getElem? (i := 7) rfl)
theorem zm_168 : (Jvm.Cond.instantiable "DiceForge$Draws" (2 : Nat)) ∈ zc_W := zk_2 _ (List.mem_of_getElem? (i := 8) rfl)
theorem zm_169 : (Jvm.Cond.instanceMethod ({ cls := "DiceForge$Draws", name := "<init>", desc := "(I)V" } : Jvm.MethodName)) ∈ zc_W := zk_2 _ (List.mem_of_getElem? (i := 9) rfl)
theorem zm_170 : (Jvm.Cond.code ({ cls := "DiceForge$Draws", name := "<init>", desc := "(I)V" } : Jvm.MethodName) prog_2_method_1_code (2 : Nat) (Option.none : Option Jvm.ClassFile.FieldType)) ∈ zc_W := zk_2 _ (List.mem_of_getElem? (i := 10) rfl)
theorem zm_171 : (Jvm.Cond.methodLink "DiceForge$Draws" (3 : Nat) ({ cls := "java/lang/Object", name := "<init>", desc := "()V" } : Jvm.MethodName)) ∈ zc_W := zk_2 _ (List.mem_of_getElem? (i := 11) rfl)
theorem zm_172 : (Jvm.Cond.fieldLink "DiceForge$Draws" (9 : Nat) "DiceForge$Draws" "state" "I") ∈ zc_W := zk_2 _ (List.mem_of_getElem? (i := 12) rfl)
theorem zm_173 : (Jvm.Cond.fieldLink "DiceForge$Draws" (15 : Nat) "DiceForge$Draws" "rejected" "I") ∈ zc_W := zk_2 _ (List.mem_of_getElem? (i := 13) rfl)
theorem zm_174 : (Jvm.Cond.lays "DiceForge$Draws" "DiceForge$Draws" "state" "I") ∈ zc_W := zk_2 _ (List.mem_of_getElem? (i := 14) rfl)
theorem zm_175 : (Jvm.Cond.soleField "DiceForge$Draws" "state") ∈ zc_W := zk_2 _ (List.mem_of_getElem? (i := 15) rfl)
theorem zm_176 : (Jvm.Cond.lays "DiceForge$Draws" "DiceForge$Draws" "rejected" "I") ∈ zc_W := zk_2 _ (List.mem_of_getElem? (i := 16) rfl)
theorem zm_177 : (Jvm.Cond.soleField "DiceForge$Draws" "rejected") ∈ zc_W := zk_2 _ (List.mem_of_getElem? (i := 17) rfl)
theorem zm_178 : (Jvm.Cond.superclass "DiceForge$Draws" "java/lang/Object") ∈ zc_W := zk_2 _ (List.mem_of_getElem? (i := 18) rfl)
theorem zm_179 : (Jvm.Cond.fieldLink "DiceForge$Promise" (7 : Nat) "DiceForge$Promise" "seed" "I") ∈ zc_W := zk_2 _ (List.mem_of_getElem? (i := 19) rfl)
theorem zm_180 : (Jvm.Cond.fieldLink "DiceForge$Promise" (18 : Nat) "DiceForge$Promise" "draws" "LDiceForge$Draws;") ∈ zc_W := zk_2 _ (List.mem_of_getElem? (i := 20) rfl)
theorem zm_181 : (Jvm.Cond.laysFinal "DiceForge$Promise" "DiceForge$Promise" "seed" "I") ∈ zc_W := zk_2 _ (List.mem_of_getElem? (i := 21) rfl)
theorem zm_182 : (Jvm.Cond.soleField "DiceForge$Promise" "seed") ∈ zc_W := zk_2 _ (List.mem_of_getElem? (i := 22) rfl)
theorem zm_183 : (Jvm.Cond.laysFinal "DiceForge$Promise" "DiceForge$Promise" "draws" "LDiceForge$Draws;") ∈ zc_W := zk_2 _ (List.mem_of_getElem? (i := 23) rfl)
theorem zm_184 : (Jvm.Cond.soleField "DiceForge$Promise" "draws") ∈ zc_W := zk_2 _ (List.mem_of_getElem? (i := 24) rfl)
theorem zm_185 : (Jvm.Cond.lays "DiceForge$Promise" "DiceForge$Promise" "opened" "Z") ∈ zc_W := zk_2 _ (List.mem_of_getElem? (i := 25) rfl)
theorem zm_186 : (Jvm.Cond.soleField "DiceForge$Promise" "opened") ∈ zc_W := zk_2 _ (List.mem_of_getElem? (i := 26) rfl)
theorem zm_187 : (Jvm.Cond.lays "DiceForge$Promise" "DiceForge$Promise" "disputed" "Z") ∈ zc_W := zk_2 _ (List.mem_of_getElem? (i := 27) rfl)
theorem zm_188 : (Jvm.Cond.soleField "DiceForge$Promise" "disputed") ∈ zc_W := zk_2 _ (List.mem_of_getElem? (i := 28) rfl)
theorem zm_189 : (Jvm.Cond.superclass "DiceForge$Promise" "java/lang/Object") ∈ zc_W := zk_2 _ (List.mem_of_getElem? (i := 29) rfl)
theorem zm_190 : (Jvm.Cond.methodLink "DiceForge" (48 : Nat) ({ cls := "java/util/ArrayList", name := "add", desc := "(Ljava/lang/Object;)Z" } : Jvm.MethodName)) ∈ zc_W := zk_2 _ (List.mem_of_getElem? (i := 30) rfl)
theorem zm_191 : (Jvm.Cond.instanceMethod ({ cls := "java/util/ArrayList", name := "add", desc := "(Ljava/lang/Object;)Z" } : Jvm.MethodName)) ∈ zc_W := zk_2 _ (List.mem_of_getElem? (i := 31) rfl)
theorem zm_192 : (Jvm.Cond.selects "java/util/ArrayList" ({ cls := "java/util/ArrayList", name := "add", desc := "(Ljava/lang/Object;)Z" } : Jvm.MethodName) ({ cls := "java/util/ArrayList", name := "add", desc := "(Ljava/lang/Object;)Z" } : Jvm.MethodName)) ∈ zc_W := zk_2 _ (List.mem_of_getElem? (i := 32) rfl)
theorem zm_193 : (Jvm.Cond.code ({ cls := "java/util/ArrayList", name := "add", desc := "(Ljava/lang/Object;)Z" } : Jvm.MethodName) prog_21_method_25_code (2 : Nat) (Option.some Jvm.ClassFile.FieldType.boolean)) ∈ zc_W := zk_2 _ (List.mem_of_getElem? (i := 33) rfl)
theorem zm_194 : (Jvm.Cond.methodLink "java/util/ArrayList" (131 : Nat) ({ cls := "java/util/ArrayList", name := "add", desc := "(Ljava/lang/Object;[Ljava/lang/Object;I)V" } : Jvm.MethodName)) ∈ zc_W := zk_2 _ (List.mem_of_getElem? (i := 34) rfl)
theorem zm_195 : (Jvm.Cond.instanceMethod ({ cls := "java/util/ArrayList", name := "add", desc := "(Ljava/lang/Object;[Ljava/lang/Object;I)V" } : Jvm.MethodName)) ∈ zc_W := zk_2 _ (List.mem_of_getElem? (i := 35) rfl)
theorem zm_196 : (Jvm.Cond.code ({ cls := "java/util/ArrayList", name := "add", desc := "(Ljava/lang/Object;[Ljava/lang/Object;I)V" } : Jvm.MethodName) prog_21_method_24_code (4 : Nat) (Option.none : Option Jvm.ClassFile.FieldType)) ∈ zc_W := zk_2 _ (List.mem_of_getElem? (i := 36) rfl)
theorem zm_197 : (Jvm.Cond.methodLink "java/util/ArrayList" (129 : Nat) ({ cls := "java/util/ArrayList", name := "grow", desc := "()[Ljava/lang/Object;" } : Jvm.MethodName)) ∈ zc_W := zk_2 _ (List.mem_of_getElem? (i := 37) rfl)
theorem zm_198 : (Jvm.Cond.instanceMethod ({ cls := "java/util/ArrayList", name := "grow", desc := "()[Ljava/lang/Object;" } : Jvm.MethodName)) ∈ zc_W := zk_2 _ (List.mem_of_getElem? (i := 38) rfl)
theorem zm_199 : (Jvm.Cond.code ({ cls := "java/util/ArrayList", name := "grow", desc := "()[Ljava/lang/Object;" } : Jvm.MethodName) prog_21_method_7_code (1 : Nat) (Option.some (Jvm.ClassFile.FieldType.array (Jvm.ClassFile.FieldType.object "java/lang/Object")))) ∈ zc_W := zk_2 _ (List.mem_of_getElem? (i := 39) rfl)
theorem zm_200 : (Jvm.Cond.methodLink "java/util/ArrayList" (69 : Nat) ({ cls := "java/util/ArrayList", name := "grow", desc := "(I)[Ljava/lang/Object;" } : Jvm.MethodName)) ∈ zc_W := zk_2 _ (List.mem_of_getElem? (i := 40) rfl)
theorem zm_201 : (Jvm.Cond.instanceMethod ({ cls := "java/util/ArrayList", name := "grow", desc := "(I)[Ljava/lang/Object;" } : Jvm.MethodName)) ∈ zc_W := zk_2 _ (List.mem_of_getElem? (i := 41) rfl)
theorem zm_202 : (Jvm.Cond.code ({ cls := "java/util/ArrayList", name := "grow", desc := "(I)[Ljava/lang/Object;" } : Jvm.MethodName) prog_21_method_6_code (4 : Nat) (Option.some (Jvm.ClassFile.FieldType.array (Jvm.ClassFile.FieldType.object "java/lang/Object")))) ∈ zc_W := zk_2 _ (List.mem_of_getElem? (i := 42) rfl)
theorem zm_203 : (Jvm.Cond.methodLink "java/util/ArrayList" (73 : Nat) ({ cls := "jdk/internal/util/ArraysSupport", name := "newLength", desc := "(III)I" } : Jvm.MethodName)) ∈ zc_W := zk_2 _ (List.mem_of_getElem? (i := 43) rfl)
theorem zm_204 : (Jvm.Cond.static ({ cls := "jdk/internal/util/ArraysSupport", name := "newLength", desc := "(III)I" } : Jvm.MethodName)) ∈ zc_W := zk_2 _ (List.mem_of_getElem? (i := 44) rfl)
theorem zm_205 : (Jvm.Cond.code ({ cls := "jdk/internal/util/ArraysSupport", name := "newLength", desc := "(III)I" } : Jvm.MethodName) prog_28_method_27_code (4 : Nat) (Option.some Jvm.ClassFile.FieldType.int)) ∈ zc_W := zk_2 _ (List.mem_of_getElem? (i := 45) rfl)
theorem zm_206 : (Jvm.Cond.methodLink "jdk/internal/util/ArraysSupport" (194 : Nat) ({ cls := "java/lang/Math", name := "max", desc := "(II)I" } : Jvm.MethodName)) ∈ zc_W := zk_2 _ (List.mem_of_getElem? (i := 46) rfl)
theorem zm_207 : (Jvm.Cond.static ({ cls := "java/lang/Math", name := "max", desc := "(II)I" } : Jvm.MethodName)) ∈ zc_W := zk_2 _ (List.mem_of_getElem? (i := 47) rfl)
theorem zm_208 : (Jvm.Cond.code ({ cls := "java/lang/Math", name := "max", desc := "(II)I" } : Jvm.MethodName) prog_14_method_65_code (2 : Nat) (Option.some Jvm.ClassFile.FieldType.int)) ∈ zc_W := zk_2 _ (List.mem_of_getElem? (i := 48) rfl)
theorem zm_209 : (Jvm.Cond.constant "jdk/internal/util/ArraysSupport" (200 : Nat) (2147483639 : Int32)) ∈ zc_W := zk_2 _ (List.mem_of_getElem? (i := 49) rfl)
theorem zm_210 : (Jvm.Cond.methodLink "jdk/internal/util/ArraysSupport" (201 : Nat) ({ cls := "jdk/internal/util/ArraysSupport", name := "hugeLength", desc := "(II)I" } : Jvm.MethodName)) ∈ zc_W := zk_2 _ (List.mem_of_getElem? (i := 50) rfl)
theorem zm_211 : (Jvm.Cond.static ({ cls := "jdk/internal/util/ArraysSupport", name := "hugeLength", desc := "(II)I" } : Jvm.MethodName)) ∈ zc_W := zk_2 _ (List.mem_of_getElem? (i := 51) rfl)
theorem zm_212 : (Jvm.Cond.code ({ cls := "jdk/internal/util/ArraysSupport", name := "hugeLength", desc := "(II)I" } : Jvm.MethodName) prog_28_method_28_code (3 : Nat) (Option.some Jvm.ClassFile.FieldType.int)) ∈ zc_W := zk_2 _ (List.mem_of_getElem? (i := 52) rfl)
theorem zm_213 : (Jvm.Cond.methodLink "java/util/ArrayList" (66 : Nat) ({ cls := "java/util/Arrays", name := "copyOf", desc := "([Ljava/lang/Object;I)[Ljava/lang/Object;" } : Jvm.MethodName)) ∈ zc_W := zk_2 _ (List.mem_of_getElem? (i := 53) rfl)
theorem zm_214 : (Jvm.Cond.static ({ cls := "java/util/Arrays", name := "copyOf", desc := "([Ljava/lang/Object;I)[Ljava/lang/Object;" } : Jvm.MethodName)) ∈ zc_W := zk_2 _ (List.mem_of_getElem? (i := 54) rfl)
theorem zm_215 : (Jvm.Cond.code ({ cls := "java/util/Arrays", name := "copyOf", desc := "([Ljava/lang/Object;I)[Ljava/lang/Object;" } : Jvm.MethodName) prog_22_method_119_code (2 : Nat) (Option.some (Jvm.ClassFile.FieldType.array (Jvm.ClassFile.FieldType.object "java/lang/Object")))) ∈ zc_W := zk_2 _ (List.mem_of_getElem? (i := 55) rfl)
theorem zm_216 : (Jvm.Cond.methodLink "java/util/Arrays" (86 : Nat) ({ cls := "java/lang/Object", name := "getClass", desc := "()Ljava/lang/Class;" } : Jvm.MethodName)) ∈ zc_W := zk_2 _ (List.mem_of_getElem? (i := 56) rfl)
theorem zm_217 : (Jvm.Cond.instanceMethod ({ cls := "java/lang/Object", name := "getClass", desc := "()Ljava/lang/Class;" } : Jvm.MethodName)) ∈ zc_W := zk_2 _ (List.mem_of_getElem? (i := 57) rfl)
theorem zm_218 : (Jvm.Cond.sameMethod "java/lang/Object" "java/lang/Object" "getClass" "()Ljava/lang/Class;") ∈ zc_W := zk_2 _ (List.mem_of_getElem? (i := 58) rfl)
theorem zm_219 : (Jvm.Cond.selects "DiceForge" ({ cls := "java/lang/Object", name := "getClass", desc := "()Ljava/lang/Class;" } : Jvm.MethodName) ({ cls := "java/lang/Object", name := "getClass", desc := "()Ljava/lang/Class;" } : Jvm.MethodName)) ∈ zc_W := zk_2 _ (List.mem_of_getElem? (i := 59) rfl)
theorem zm_220 : (Jvm.Cond.selects "DiceForge$Draws" ({ cls := "java/lang/Object", name := "getClass", desc := "()Ljava/lang/Class;" } : Jvm.MethodName) ({ cls := "java/lang/Object", name := "getClass", desc := "()Ljava/lang/Class;" } : Jvm.MethodName)) ∈ zc_W := zk_2 _ (List.mem_of_getElem? (i := 60) rfl)
theorem zm_221 : (Jvm.Cond.selects "DiceForge$Entry" ({ cls := "java/lang/Object", name := "getClass", desc := "()Ljava/lang/Class;" } : Jvm.MethodName) ({ cls := "java/lang/Object", name := "getClass", desc := "()Ljava/lang/Class;" } : Jvm.MethodName)) ∈ zc_W := zk_2 _ (List.mem_of_getElem? (i := 61) rfl)
theorem zm_222 : (Jvm.Cond.selects "DiceForge$Promise" ({ cls := "java/lang/Object", name := "getClass", desc := "()Ljava/lang/Class;" } : Jvm.MethodName) ({ cls := "java/lang/Object", name := "getClass", desc := "()Ljava/lang/Class;" } : Jvm.MethodName)) ∈ zc_W := zk_2 _ (List.mem_of_getElem? (i := 62) rfl)
theorem zm_223 : (Jvm.Cond.selects "java/lang/IllegalArgumentException" ({ cls := "java/lang/Object", name := "getClass", desc := "()Ljava/lang/Class;" } : Jvm.MethodName) ({ cls := "java/lang/Object", name := "getClass", desc := "()Ljava/lang/Class;" } : Jvm.MethodName)) ∈ zc_W := zk_2 _ (List.mem_of_getElem? (i := 63) rfl)
theorem zm_224 : (Jvm.Cond.selects "java/lang/IllegalStateException" ({ cls := "java/lang/Object", name := "getClass", desc := "()Ljava/lang/Class;" } : Jvm.MethodName) ({ cls := "java/lang/Object", name := "getClass", desc := "()Ljava/lang/Class;" } : Jvm.MethodName)) ∈ zc_W := zk_2 _ (List.mem_of_getElem? (i := 64) rfl)
theorem zm_225 : (Jvm.Cond.selects "java/lang/IndexOutOfBoundsException" ({ cls := "java/lang/Object", name := "getClass", desc := "()Ljava/lang/Class;" } : Jvm.MethodName) ({ cls := "java/lang/Object", name := "getClass", desc := "()Ljava/lang/Class;" } : Jvm.MethodName)) ∈ zc_W := zk_2 _ (List.mem_of_getElem? (i := 65) rfl)
theorem zm_226 : (Jvm.Cond.selects "java/util/ArrayList" ({ cls := "java/lang/Object", name := "getClass", desc := "()Ljava/lang/Class;" } : Jvm.MethodName) ({ cls := "java/lang/Object", name := "getClass", desc := "()Ljava/lang/Class;" } : Jvm.MethodName)) ∈ zc_W := zk_2 _ (List.mem_of_getElem? (i := 66) rfl)
theorem zm_227 : (Jvm.Cond.native ({ cls := "java/lang/Object", name := "getClass", desc := "()Ljava/lang/Class;" } : Jvm.MethodName)) ∈ zc_W := zk_2 _ (List.mem_of_getElem? (i := 67) rfl)
theorem zm_228 : (Jvm.Cond.methodLink "java/util/Arrays" (300 : Nat) ({ cls := "java/util/Arrays", name := "copyOf", desc := "([Ljava/lang/Object;ILjava/lang/Class;)[Ljava/lang/Object;" } : Jvm.MethodName)) ∈ zc_W := zk_2 _ (List.mem_of_getElem? (i := 68) rfl)
theorem zm_229 : (Jvm.Cond.static ({ cls := "java/util/Arrays", name := "copyOf", desc := "([Ljava/lang/Object;ILjava/lang/Class;)[Ljava/lang/Object;" } : Jvm.MethodName)) ∈ zc_W := zk_2 _ (List.mem_of_getElem? (i := 69) rfl)
theorem zm_230 : (Jvm.Cond.code ({ cls := "java/util/Arrays", name := "copyOf", desc := "([Ljava/lang/Object;ILjava/lang/Class;)[Ljava/lang/Object;" } : Jvm.MethodName) prog_22_method_120_code (4 : Nat) (Option.some (Jvm.ClassFile.FieldType.array (Jvm.ClassFile.FieldType.object "java/lang/Object")))) ∈ zc_W := zk_2 _ (List.mem_of_getElem? (i := 70) rfl)
theorem zm_231 : (Jvm.Cond.classLink "java/util/Arrays" (110 : Nat) "[Ljava/lang/Object;") ∈ zc_W := zk_2 _ (List.mem_of_getElem? (i := 71) rfl)
theorem zm_232 : (Jvm.Cond.classLink "java/util/Arrays" (2 : Nat) "java/lang/Object") ∈ zc_W := zk_2 _ (List.mem_of_getElem? (i := 72) rfl)
theorem zm_233 : (Jvm.Cond.methodLink "java/util/Arrays" (304 : Nat) ({ cls := "java/lang/Math", name := "min", desc := "(II)I" } : Jvm.MethodName)) ∈ zc_W := zk_2 _ (List.mem_of_getElem? (i := 73) rfl)
theorem zm_234 : (Jvm.Cond.static ({ cls := "java/lang/Math", name := "min", desc := "(II)I" } : Jvm.MethodName)) ∈ zc_W := zk_2 _ (List.mem_of_getElem? (i := 74) rfl)
theorem zm_235 : (Jvm.Cond.code ({ cls := "java/lang/Math", name := "min", desc := "(II)I" } : Jvm.MethodName) prog_14_method_69_code (2 : Nat) (Option.some Jvm.ClassFile.FieldType.int)) ∈ zc_W := zk_2 _ (List.mem_of_getElem? (i := 75) rfl)
theorem zm_236 : (Jvm.Cond.methodLink "java/util/Arrays" (150 : Nat) ({ cls := "java/lang/System", name := "arraycopy", desc := "(Ljava/lang/Object;ILjava/lang/Object;II)V" } : Jvm.MethodName)) ∈ zc_W := zk_2 _ (List.mem_of_getElem? (i := 76) rfl)
theorem zm_237 : (Jvm.Cond.static ({ cls := "java/lang/System", name := "arraycopy", desc := "(Ljava/lang/Object;ILjava/lang/Object;II)V" } : Jvm.MethodName)) ∈ zc_W := zk_2 _ (List.mem_of_getElem? (i := 77) rfl)
theorem zm_238 : (Jvm.Cond.native ({ cls := "java/lang/System", name := "arraycopy", desc := "(Ljava/lang/Object;ILjava/lang/Object;II)V" } : Jvm.MethodName)) ∈ zc_W := zk_2 _ (List.mem_of_getElem? (i := 78) rfl)
theorem zm_239 : (Jvm.Cond.methodLink "java/util/ArrayList" (79 : Nat) ({ cls := "java/lang/Math", name := "max", desc := "(II)I" } : Jvm.MethodName)) ∈ zc_W := zk_2 _ (List.mem_of_getElem? (i := 79) rfl)
theorem zm_240 : (Jvm.Cond.classLink "java/util/ArrayList" (7 : Nat) "java/lang/Object") ∈ zc_W := zk_3 _ (List.mem_of_getElem? (i := 0) rfl)
theorem zm_241 : (Jvm.Cond.methodLink "DiceForgeLaw" (121 : Nat) ({ cls := "DiceForge", name := "setPart", desc := "(II)I" } : Jvm.MethodName)) ∈ zc_W := zk_3 _ (List.mem_of_getElem? (i := 1) rfl)
theorem zm_242 : (Jvm.Cond.instanceMethod ({ cls := "DiceForge", name := "setPart", desc := "(II)I" } : Jvm.MethodName)) ∈ zc_W := zk_3 _ (List.mem_of_getElem? (i := 2) rfl)
theorem zm_243 : (Jvm.Cond.selects "DiceForge" ({ cls := "DiceForge", name := "setPart", desc := "(II)I" } : Jvm.MethodName) ({ cls := "DiceForge", name := "setPart", desc := "(II)I" } : Jvm.MethodName)) ∈ zc_W := zk_3 _ (List.mem_of_getElem? (i := 3) rfl)
theorem zm_244 : (Jvm.Cond.code ({ cls := "DiceForge", name := "setPart", desc := "(II)I" } : Jvm.MethodName) prog_1_method_7_code (4 : Nat) (Option.some Jvm.ClassFile.FieldType.int)) ∈ zc_W := zk_3 _ (List.mem_of_getElem? (i := 4) rfl)
theorem zm_245 : (Jvm.Cond.methodLink "DiceForge" (82 : Nat) ({ cls := "DiceForge", name := "requireTable", desc := "(I)V" } : Jvm.MethodName)) ∈ zc_W := zk_3 _ (List.mem_of_getElem? (i := 5) rfl)
theorem zm_246 : (Jvm.Cond.static ({ cls := "DiceForge", name := "requireTable", desc := "(I)V" } : Jvm.MethodName)) ∈ zc_W := zk_3 _ (List.mem_of_getElem? (i := 6) rfl)
theorem zm_247 : (Jvm.Cond.code ({ cls := "DiceForge", name := "requireTable", desc := "(I)V" } : Jvm.MethodName) prog_1_method_25_code (1 : Nat) (Option.none : Option Jvm.ClassFile.FieldType)) ∈ zc_W := zk_3 _ (List.mem_of_getElem? (i := 7) rfl)
theorem zm_248 : (Jvm.Cond.classLink "DiceForge" (173 : Nat) "java/lang/IndexOutOfBoundsException") ∈ zc_W := zk_3 _ (List.mem_of_getElem? (i := 8) rfl)
theorem zm_249 : (Jvm.Cond.instantiable "java/lang/IndexOutOfBoundsException" (6 : Nat)) ∈ zc_W := zk_3 _ (List.mem_of_getElem? (i := 9) rfl)
theorem zm_250 : (Jvm.Cond.selects "java/lang/IndexOutOfBoundsException" ({ cls := "java/lang/Throwable", name := "fillInStackTrace", desc := "(I)Ljava/lang/Throwable;" } : Jvm.MethodName) ({ cls := "java/lang/Throwable", name := "fillInStackTrace", desc := "(I)Ljava/lang/Throwable;" } : Jvm.MethodName)) ∈ zc_W := zk_3 _ (List.mem_of_getElem? (i := 10) rfl)
theorem zm_251 : (Jvm.Cond.lays "java/lang/IndexOutOfBoundsException" "java/lang/Throwable" "cause" "Ljava/lang/Throwable;") ∈ zc_W := zk_3 _ (List.mem_of_getElem? (i := 11) rfl)
theorem zm_252 : (Jvm.Cond.lays "java/lang/IndexOutOfBoundsException" "java/lang/Throwable" "stackTrace" "[Ljava/lang/StackTraceElement;") ∈ zc_W := zk_3 _ (List.mem_of_getElem? (i := 12) rfl)
theorem zm_253 : (Jvm.Cond.lays "java/lang/IndexOutOfBoundsException" "java/lang/Throwable" "suppressedExceptions" "Ljava/util/List;") ∈ zc_W := zk_3 _ (List.mem_of_getElem? (i := 13) rfl)
theorem zm_254 : (Jvm.Cond.lays "java/lang/IndexOutOfBoundsException" "java/lang/Throwable" "detailMessage" "Ljava/lang/String;") ∈ zc_W := zk_3 _ (List.mem_of_getElem? (i := 14) rfl)
theorem zm_255 : (Jvm.Cond.lays "java/lang/IndexOutOfBoundsException" "java/lang/Throwable" "backtrace" "Ljava/lang/Object;") ∈ zc_W := zk_3 _ (List.mem_of_getElem? (i := 15) rfl)
theorem zm_256 : (Jvm.Cond.methodLink "DiceForge" (177 : Nat) ({ cls := "java/lang/IndexOutOfBoundsException", name := "<init>", desc := "(Ljava/lang/String;)V" } : Jvm.MethodName)) ∈ zc_W := zk_3 _ (List.mem_of_getElem? (i := 16) rfl)
theorem zm_257 : (Jvm.Cond.instanceMethod ({ cls := "java/lang/IndexOutOfBoundsException", name := "<init>", desc := "(Ljava/lang/String;)V" } : Jvm.MethodName)) ∈ zc_W := zk_3 _ (List.mem_of_getElem? (i := 17) rfl)
theorem zm_258 : (Jvm.Cond.code ({ cls := "java/lang/IndexOutOfBoundsException", name := "<init>", desc := "(Ljava/lang/String;)V" } : Jvm.MethodName) prog_12_method_2_code (2 : Nat) (Option.none : Option Jvm.ClassFile.FieldType)) ∈ zc_W := zk_3 _ (List.mem_of_getElem? (i := 18) rfl)
theorem zm_259 : (Jvm.Cond.methodLink "java/lang/IndexOutOfBoundsException" (7 : Nat) ({ cls := "java/lang/RuntimeException", name := "<init>", desc := "(Ljava/lang/String;)V" } : Jvm.MethodName)) ∈ zc_W := zk_3 _ (List.mem_of_getElem? (i := 19) rfl)
theorem zm_260 : (Jvm.Cond.lays "java/lang/IndexOutOfBoundsException" "java/lang/Throwable" "depth" "I") ∈ zc_W := zk_3 _ (List.mem_of_getElem? (i := 20) rfl)
theorem zm_261 : (Jvm.Cond.superclass "java/lang/IndexOutOfBoundsException" "java/lang/RuntimeException") ∈ zc_W := zk_3 _ (List.mem_of_getElem? (i := 21) rfl)
theorem zm_262 : (Jvm.Cond.methodLink "DiceForgeLaw" (114 : Nat) ({ cls := "DiceForgeLaw", name := "cell", desc := "([II)I" } : Jvm.MethodName)) ∈ zc_W := zk_3 _ (List.mem_of_getElem? (i := 22) rfl)
theorem zm_263 : (Jvm.Cond.static ({ cls := "DiceForgeLaw", name := "cell", desc := "([II)I" } : Jvm.MethodName)) ∈ zc_W := zk_3 _ (List.mem_of_getElem? (i := 23) rfl)
theorem zm_264 : (Jvm.Cond.code ({ cls := "DiceForgeLaw", name := "cell", desc := "([II)I" } : Jvm.MethodName) method_2_code (2 : Nat) (Option.some Jvm.ClassFile.FieldType.int)) ∈ zc_W := zk_3 _ (List.mem_of_getElem? (i := 24) rfl)
theorem zm_265 : (Jvm.Cond.constant "DiceForgeLaw" (7 : Nat) (51829 : Int32)) ∈ zc_W := zk_3 _ (List.mem_of_getElem? (i := 25) rfl)
theorem zm_266 : (Jvm.Cond.constant "DiceForgeLaw" (8 : Nat) (3096791 : Int32)) ∈ zc_W := zk_3 _ (List.mem_of_getElem? (i := 26) rfl)
theorem zm_267 : (Jvm.Cond.methodLink "DiceForgeLaw" (91 : Nat) ({ cls := "DiceForgeLaw", name := "low", desc := "(II)I" } : Jvm.MethodName)) ∈ zc_W := zk_3 _ (List.mem_of_getElem? (i := 27) rfl)
theorem zm_268 : (Jvm.Cond.static ({ cls := "DiceForgeLaw", name := "low", desc := "(II)I" } : Jvm.MethodName)) ∈ zc_W := zk_3 _ (List.mem_of_getElem? (i := 28) rfl)
theorem zm_269 : (Jvm.Cond.code ({ cls := "DiceForgeLaw", name := "low", desc := "(II)I" } : Jvm.MethodName) method_3_code (2 : Nat) (Option.some Jvm.ClassFile.FieldType.int)) ∈ zc_W := zk_3 _ (List.mem_of_getElem? (i := 29) rfl)
theorem zm_270 : (Jvm.Cond.constant "DiceForgeLaw" (9 : Nat) (2147483647 : Int32)) ∈ zc_W := zk_3 _ (List.mem_of_getElem? (i := 30) rfl)
theorem zm_271 : (Jvm.Cond.methodLink "DiceForgeLaw" (74 : Nat) ({ cls := "DiceForgeLaw", name := "calls", desc := "(LDiceForge;IIII)I" } : Jvm.MethodName)) ∈ zc_W := zk_3 _ (List.mem_of_getElem? (i := 31) rfl)
theorem zm_272 : (Jvm.Cond.static ({ cls := "DiceForgeLaw", name := "calls", desc := "(LDiceForge;IIII)I" } : Jvm.MethodName)) ∈ zc_W := zk_3 _ (List.mem_of_getElem? (i := 32) rfl)
theorem zm_273 : (Jvm.Cond.codeWith ({ cls := "DiceForgeLaw", name := "calls", desc := "(LDiceForge;IIII)I" } : Jvm.MethodName) method_4_code (6 : Nat) (Option.some Jvm.ClassFile.FieldType.int) [((0 : Nat), (73 : Nat), (74 : Nat), (33 : Nat)), ((0 : Nat), (73 : Nat), (79 : Nat), (35 : Nat))]) ∈ zc_W := zk_3 _ (List.mem_of_getElem? (i := 33) rfl)
theorem zm_274 : (Jvm.Cond.classLink "DiceForgeLaw" (33 : Nat) "java/lang/IllegalArgumentException") ∈ zc_W := zk_3 _ (List.mem_of_getElem? (i := 34) rfl)
theorem zm_275 : (Jvm.Cond.classLink "DiceForgeLaw" (35 : Nat) "java/lang/IllegalStateException") ∈ zc_W := zk_3 _ (List.mem_of_getElem? (i := 35) rfl)
theorem zm_276 : (Jvm.Cond.methodLink "DiceForgeLaw" (10 : Nat) ({ cls := "DiceForge", name := "open", desc := "(I)I" } : Jvm.MethodName)) ∈ zc_W := zk_3 _ (List.mem_of_getElem? (i := 36) rfl)
theorem zm_277 : (Jvm.Cond.instanceMethod ({ cls := "DiceForge", name := "open", desc := "(I)I" } : Jvm.MethodName)) ∈ zc_W := zk_3 _ (List.mem_of_getElem? (i := 37) rfl)
theorem zm_278 : (Jvm.Cond.selects "DiceForge" ({ cls := "DiceForge", name := "open", desc := "(I)I" } : Jvm.MethodName) ({ cls := "DiceForge", name := "open", desc := "(I)I" } : Jvm.MethodName)) ∈ zc_W := zk_3 _ (List.mem_of_getElem? (i := 38) rfl)
theorem zm_279 : (Jvm.Cond.code ({ cls := "DiceForge", name := "open", desc := "(I)I" } : Jvm.MethodName) prog_1_method_5_code (3 : Nat) (Option.some Jvm.ClassFile.FieldType.int)) ∈ zc_W := zk_3 _ (List.mem_of_getElem? (i := 39) rfl)
theorem zm_280 : (Jvm.Cond.methodLink "DiceForge" (52 : Nat) ({ cls := "DiceForge", name := "promiseAt", desc := "(I)LDiceForge$Promise;" } : Jvm.MethodName)) ∈ zc_W := zk_3 _ (List.mem_of_getElem? (i := 40) rfl)
theorem zm_281 : (Jvm.Cond.instanceMethod ({ cls := "DiceForge", name := "promiseAt", desc := "(I)LDiceForge$Promise;" } : Jvm.MethodName)) ∈ zc_W := zk_3 _ (List.mem_of_getElem? (i := 41) rfl)
theorem zm_282 : (Jvm.Cond.code ({ cls := "DiceForge", name := "promiseAt", desc := "(I)LDiceForge$Promise;" } : Jvm.MethodName) prog_1_method_22_code (2 : Nat) (Option.some (Jvm.ClassFile.FieldType.object "DiceForge$Promise"))) ∈ zc_W := zk_3 _ (List.mem_of_getElem? (i := 42) rfl)
theorem zm_283 : (Jvm.Cond.methodLink "DiceForge" (141 : Nat) ({ cls := "java/util/ArrayList", name := "get", desc := "(I)Ljava/lang/Object;" } : Jvm.MethodName)) ∈ zc_W := zk_3 _ (List.mem_of_getElem? (i := 43) rfl)
theorem zm_284 : (Jvm.Cond.instanceMethod ({ cls := "java/util/ArrayList", name := "get", desc := "(I)Ljava/lang/Object;" } : Jvm.MethodName)) ∈ zc_W := zk_3 _ (List.mem_of_getElem? (i := 44) rfl)
theorem zm_285 : (Jvm.Cond.selects "java/util/ArrayList" ({ cls := "java/util/ArrayList", name := "get", desc := "(I)Ljava/lang/Object;" } : Jvm.MethodName) ({ cls := "java/util/ArrayList", name := "get", desc := "(I)Ljava/lang/Object;" } : Jvm.MethodName)) ∈ zc_W := zk_3 _ (List.mem_of_getElem? (i := 45) rfl)
theorem zm_286 : (Jvm.Cond.code ({ cls := "java/util/ArrayList", name := "get", desc := "(I)Ljava/lang/Object;" } : Jvm.MethodName) prog_21_method_20_code (2 : Nat) (Option.some (Jvm.ClassFile.FieldType.object "java/lang/Object"))) ∈ zc_W := zk_3 _ (List.mem_of_getElem? (i := 46) rfl)
theorem zm_287 : (Jvm.Cond.methodLink "java/util/ArrayList" (118 : Nat) ({ cls := "java/util/Objects", name := "checkIndex", desc := "(II)I" } : Jvm.MethodName)) ∈ zc_W := zk_3 _ (List.mem_of_getElem? (i := 47) rfl)
theorem zm_288 : (Jvm.Cond.static ({ cls := "java/util/Objects", name := "checkIndex", desc := "(II)I" } : Jvm.MethodName)) ∈ zc_W := zk_3 _ (List.mem_of_getElem? (i := 48) rfl)
theorem zm_289 : (Jvm.Cond.code ({ cls := "java/util/Objects", name := "checkIndex", desc := "(II)I" } : Jvm.MethodName) prog_25_method_17_code (2 : Nat) (Option.some Jvm.ClassFile.FieldType.int)) ∈ zc_W := zk_3 _ (List.mem_of_getElem? (i := 49) rfl)
theorem zm_290 : (Jvm.Cond.methodLink "java/util/Objects" (105 : Nat) ({ cls := "jdk/internal/util/Preconditions", name := "checkIndex", desc := "(IILjava/util/function/BiFunction;)I" } : Jvm.MethodName)) ∈ zc_W := zk_3 _ (List.mem_of_getElem? (i := 50) rfl)
theorem zm_291 : (Jvm.Cond.static ({ cls := "jdk/internal/util/Preconditions", name := "checkIndex", desc := "(IILjava/util/function/BiFunction;)I" } : Jvm.MethodName)) ∈ zc_W := zk_3 _ (List.mem_of_getElem? (i := 51) rfl)
theorem zm_292 : (Jvm.Cond.code ({ cls := "jdk/internal/util/Preconditions", name := "checkIndex", desc := "(IILjava/util/function/BiFunction;)I" } : Jvm.MethodName) prog_29_method_11_code (3 : Nat) (Option.some Jvm.ClassFile.FieldType.int)) ∈ zc_W := zk_3 _ (List.mem_of_getElem? (i := 52) rfl)
theorem zm_293 : (Jvm.Cond.methodLink "java/util/ArrayList" (123 : Nat) ({ cls := "java/util/ArrayList", name := "elementData", desc := "(I)Ljava/lang/Object;" } : Jvm.MethodName)) ∈ zc_W := zk_3 _ (List.mem_of_getElem? (i := 53) rfl)
theorem zm_294 : (Jvm.Cond.instanceMethod ({ cls := "java/util/ArrayList", name := "elementData", desc := "(I)Ljava/lang/Object;" } : Jvm.MethodName)) ∈ zc_W := zk_3 _ (List.mem_of_getElem? (i := 54) rfl)
theorem zm_295 : (Jvm.Cond.selects "java/util/ArrayList" ({ cls := "java/util/ArrayList", name := "elementData", desc := "(I)Ljava/lang/Object;" } : Jvm.MethodName) ({ cls := "java/util/ArrayList", name := "elementData", desc := "(I)Ljava/lang/Object;" } : Jvm.MethodName)) ∈ zc_W := zk_3 _ (List.mem_of_getElem? (i := 55) rfl)
theorem zm_296 : (Jvm.Cond.code ({ cls := "java/util/ArrayList", name := "elementData", desc := "(I)Ljava/lang/Object;" } : Jvm.MethodName) prog_21_method_18_code (2 : Nat) (Option.some (Jvm.ClassFile.FieldType.object "java/lang/Object"))) ∈ zc_W := zk_3 _ (List.mem_of_getElem? (i := 56) rfl)
theorem zm_297 : (Jvm.Cond.methodLink "DiceForgeLaw" (16 : Nat) ({ cls := "DiceForge", name := "roll", desc := "(III)I" } : Jvm.MethodName)) ∈ zc_W := zk_3 _ (List.mem_of_getElem? (i := 57) rfl)
theorem zm_298 : (Jvm.Cond.instanceMethod ({ cls := "DiceForge", name := "roll", desc := "(III)I" } : Jvm.MethodName)) ∈ zc_W := zk_3 _ (List.mem_of_getElem? (i := 58) rfl)
theorem zm_299 : (Jvm.Cond.selects "DiceForge" ({ cls := "DiceForge", name := "roll", desc := "(III)I" } : Jvm.MethodName) ({ cls := "DiceForge", name := "roll", desc := "(III)I" } : Jvm.MethodName)) ∈ zc_W := zk_3 _ (List.mem_of_getElem? (i := 59) rfl)
theorem zm_300 : (Jvm.Cond.code ({ cls := "DiceForge", name := "roll", desc := "(III)I" } : Jvm.MethodName) prog_1_method_8_code (6 : Nat) (Option.some Jvm.ClassFile.FieldType.int)) ∈ zc_W := zk_3 _ (List.mem_of_getElem? (i := 60) rfl)
theorem zm_301 : (Jvm.Cond.methodLink "DiceForge" (87 : Nat) ({ cls := "DiceForge", name := "requireFaces", desc := "(I)V" } : Jvm.MethodName)) ∈ zc_W := zk_3 _ (List.mem_of_getElem? (i := 61) rfl)
theorem zm_302 : (Jvm.Cond.static ({ cls := "DiceForge", name := "requireFaces", desc := "(I)V" } : Jvm.MethodName)) ∈ zc_W := zk_3 _ (List.mem_of_getElem? (i := 62) rfl)
theorem zm_303 : (Jvm.Cond.code ({ cls := "DiceForge", name := "requireFaces", desc := "(I)V" } : Jvm.MethodName) prog_1_method_26_code (1 : Nat) (Option.none : Option Jvm.ClassFile.FieldType)) ∈ zc_W := zk_3 _ (List.mem_of_getElem? (i := 63) rfl)
theorem zm_304 : (Jvm.Cond.classLink "DiceForge" (92 : Nat) "DiceForge$Entry") ∈ zc_W := zk_3 _ (List.mem_of_getElem? (i := 64) rfl)
theorem zm_305 : (Jvm.Cond.instantiable "DiceForge$Entry" (8 : Nat)) ∈ zc_W := zk_3 _ (List.mem_of_getElem? (i := 65) rfl)
theorem zm_306 : (Jvm.Cond.instanceMethod ({ cls := "DiceForge$Entry", name := "<init>", desc := "(IIII)V" } : Jvm.MethodName)) ∈ zc_W := zk_3 _ (List.mem_of_getElem? (i := 66) rfl)
theorem zm_307 : (Jvm.Cond.code ({ cls := "DiceForge$Entry", name := "<init>", desc := "(IIII)V" } : Jvm.MethodName) prog_3_method_1_code (5 : Nat) (Option.none : Option Jvm.ClassFile.FieldType)) ∈ zc_W := zk_3 _ (List.mem_of_getElem? (i := 67) rfl)
theorem zm_308 : (Jvm.Cond.methodLink "DiceForge$Entry" (3 : Nat) ({ cls := "java/lang/Object", name := "<init>", desc := "()V" } : Jvm.MethodName)) ∈ zc_W := zk_3 _ (List.mem_of_getElem? (i := 68) rfl)
theorem zm_309 : (Jvm.Cond.fieldLink "DiceForge$Entry" (9 : Nat) "DiceForge$Entry" "promise" "I") ∈ zc_W := zk_3 _ (List.mem_of_getElem? (i := 69) rfl)
theorem zm_310 : (Jvm.Cond.fieldLink "DiceForge$Entry" (15 : Nat) "DiceForge$Entry" "table" "I") ∈ zc_W := zk_3 _ (List.mem_of_getElem? (i := 70) rfl)
theorem zm_311 : (Jvm.Cond.fieldLink "DiceForge$Entry" (18 : Nat) "DiceForge$Entry" "part" "I") ∈ zc_W := zk_3 _ (List.mem_of_getElem? (i := 71) rfl)
theorem zm_312 : (Jvm.Cond.fieldLink "DiceForge$Entry" (21 : Nat) "DiceForge$Entry" "faces" "I") ∈ zc_W := zk_3 _ (List.mem_of_getElem? (i := 72) rfl)
theorem zm_313 : (Jvm.Cond.fieldLink "DiceForge$Entry" (24 : Nat) "DiceForge$Entry" "value" "I") ∈ zc_W := zk_3 _ (List.mem_of_getElem? (i := 73) rfl)
theorem zm_314 : (Jvm.Cond.fieldLink "DiceForge$Entry" (27 : Nat) "DiceForge$Entry" "rejected" "I") ∈ zc_W := zk_3 _ (List.mem_of_getElem? (i := 74) rfl)
theorem zm_315 : (Jvm.Cond.fieldLink "DiceForge$Entry" (31 : Nat) "DiceForge$Entry" "struck" "Z") ∈ zc_W := zk_3 _ (List.mem_of_getElem? (i := 75) rfl)
theorem zm_316 : (Jvm.Cond.laysFinal "DiceForge$Entry" "DiceForge$Entry" "promise" "I") ∈ zc_W := zk_3 _ (List.mem_of_getElem? (i := 76) rfl)
theorem zm_317 : (Jvm.Cond.soleField "DiceForge$Entry" "promise") ∈ zc_W := zk_3 _ (List.mem_of_getElem? (i := 77) rfl)
theorem zm_318 : (Jvm.Cond.laysFinal "DiceForge$Entry" "DiceForge$Entry" "table" "I") ∈ zc_W := zk_3 _ (List.mem_of_getElem? (i := 78) rfl)
theorem zm_319 : (Jvm.Cond.soleField "DiceForge$Entry" "table") ∈ zc_W := zk_3 _ (List.mem_of_getElem? (i := 79) rfl)
theorem zm_320 : (Jvm.Cond.laysFinal "DiceForge$Entry" "DiceForge$Entry" "part" "I") ∈ zc_W := zk_4 _ (List.mem_of_getElem? (i := 0) rfl)
theorem zm_321 : (Jvm.Cond.soleField "DiceForge$Entry" "part") ∈ zc_W := zk_4 _ (List.mem_of_getElem? (i := 1) rfl)
theorem zm_322 : (Jvm.Cond.laysFinal "DiceForge$Entry" "DiceForge$Entry" "faces" "I") ∈ zc_W := zk_4 _ (List.mem_of_getElem? (i := 2) rfl)
theorem zm_323 : (Jvm.Cond.soleField "DiceForge$Entry" "faces") ∈ zc_W := zk_4 _ (List.mem_of_getElem? (i := 3) rfl)
theorem zm_324 : (Jvm.Cond.lays "DiceForge$Entry" "DiceForge$Entry" "value" "I") ∈ zc_W := zk_4 _ (List.mem_of_getElem? (i := 4) rfl)
theorem zm_325 : (Jvm.Cond.soleField "DiceForge$Entry" "value") ∈ zc_W := zk_4 _ (List.mem_of_getElem? (i := 5) rfl)
theorem zm_326 : (Jvm.Cond.lays "DiceForge$Entry" "DiceForge$Entry" "rejected" "I") ∈ zc_W := zk_4 _ (List.mem_of_getElem? (i := 6) rfl)
theorem zm_327 : (Jvm.Cond.soleField "DiceForge$Entry" "rejected") ∈ zc_W := zk_4 _ (List.mem_of_getElem? (i := 7) rfl)
theorem zm_328 : (Jvm.Cond.lays "DiceForge$Entry" "DiceForge$Entry" "sum" "I") ∈ zc_W := zk_4 _ (List.mem_of_getElem? (i := 8) rfl)
theorem zm_329 : (Jvm.Cond.soleField "DiceForge$Entry" "sum") ∈ zc_W := zk_4 _ (List.mem_of_getElem? (i := 9) rfl)
theorem zm_330 : (Jvm.Cond.lays "DiceForge$Entry" "DiceForge$Entry" "struck" "Z") ∈ zc_W := zk_4 _ (List.mem_of_getElem? (i := 10) rfl)
theorem zm_331 : (Jvm.Cond.soleField "DiceForge$Entry" "struck") ∈ zc_W := zk_4 _ (List.mem_of_getElem? (i := 11) rfl)
theorem zm_332 : (Jvm.Cond.superclass "DiceForge$Entry" "java/lang/Object") ∈ zc_W := zk_4 _ (List.mem_of_getElem? (i := 12) rfl)
theorem zm_333 : (Jvm.Cond.instanceMethod ({ cls := "DiceForge$Draws", name := "nextValue", desc := "(II)I" } : Jvm.MethodName)) ∈ zc_W := zk_4 _ (List.mem_of_getElem? (i := 13) rfl)
theorem zm_334 : (Jvm.Cond.code ({ cls := "DiceForge$Draws", name := "nextValue", desc := "(II)I" } : Jvm.MethodName) prog_2_method_2_code (4 : Nat) (Option.some Jvm.ClassFile.FieldType.int)) ∈ zc_W := zk_4 _ (List.mem_of_getElem? (i := 14) rfl)
theorem zm_335 : (Jvm.Cond.constant "DiceForge$Draws" (18 : Nat) (65536 : Int32)) ∈ zc_W := zk_4 _ (List.mem_of_getElem? (i := 15) rfl)
theorem zm_336 : (Jvm.Cond.methodLink "DiceForge$Draws" (19 : Nat) ({ cls := "DiceForge$Draws", name := "draw", desc := "(I)V" } : Jvm.MethodName)) ∈ zc_W := zk_4 _ (List.mem_of_getElem? (i := 16) rfl)
theorem zm_337 : (Jvm.Cond.instanceMethod ({ cls := "DiceForge$Draws", name := "draw", desc := "(I)V" } : Jvm.MethodName)) ∈ zc_W := zk_4 _ (List.mem_of_getElem? (i := 17) rfl)
theorem zm_338 : (Jvm.Cond.code ({ cls := "DiceForge$Draws", name := "draw", desc := "(I)V" } : Jvm.MethodName) prog_2_method_3_code (2 : Nat) (Option.none : Option Jvm.ClassFile.FieldType)) ∈ zc_W := zk_4 _ (List.mem_of_getElem? (i := 18) rfl)
theorem zm_339 : (Jvm.Cond.methodLink "DiceForge" (116 : Nat) ({ cls := "DiceForge", name := "lastSum", desc := "()I" } : Jvm.MethodName)) ∈ zc_W := zk_4 _ (List.mem_of_getElem? (i := 19) rfl)
theorem zm_340 : (Jvm.Cond.instanceMethod ({ cls := "DiceForge", name := "lastSum", desc := "()I" } : Jvm.MethodName)) ∈ zc_W := zk_4 _ (List.mem_of_getElem? (i := 20) rfl)
theorem zm_341 : (Jvm.Cond.code ({ cls := "DiceForge", name := "lastSum", desc := "()I" } : Jvm.MethodName) prog_1_method_29_code (1 : Nat) (Option.some Jvm.ClassFile.FieldType.int)) ∈ zc_W := zk_4 _ (List.mem_of_getElem? (i := 21) rfl)
theorem zm_342 : (Jvm.Cond.methodLink "DiceForge" (189 : Nat) ({ cls := "java/util/ArrayList", name := "isEmpty", desc := "()Z" } : Jvm.MethodName)) ∈ zc_W := zk_4 _ (List.mem_of_getElem? (i := 22) rfl)
theorem zm_343 : (Jvm.Cond.instanceMethod ({ cls := "java/util/ArrayList", name := "isEmpty", desc := "()Z" } : Jvm.MethodName)) ∈ zc_W := zk_4 _ (List.mem_of_getElem? (i := 23) rfl)
theorem zm_344 : (Jvm.Cond.selects "java/util/ArrayList" ({ cls := "java/util/ArrayList", name := "isEmpty", desc := "()Z" } : Jvm.MethodName) ({ cls := "java/util/ArrayList", name := "isEmpty", desc := "()Z" } : Jvm.MethodName)) ∈ zc_W := zk_4 _ (List.mem_of_getElem? (i := 24) rfl)
theorem zm_345 : (Jvm.Cond.code ({ cls := "java/util/ArrayList", name := "isEmpty", desc := "()Z" } : Jvm.MethodName) prog_21_method_9_code (1 : Nat) (Option.some Jvm.ClassFile.FieldType.boolean)) ∈ zc_W := zk_4 _ (List.mem_of_getElem? (i := 25) rfl)
theorem zm_346 : (Jvm.Cond.instanceMethod ({ cls := "DiceForge$Entry", name := "sumAfter", desc := "(I)I" } : Jvm.MethodName)) ∈ zc_W := zk_4 _ (List.mem_of_getElem? (i := 26) rfl)
theorem zm_347 : (Jvm.Cond.code ({ cls := "DiceForge$Entry", name := "sumAfter", desc := "(I)I" } : Jvm.MethodName) prog_3_method_2_code (3 : Nat) (Option.some Jvm.ClassFile.FieldType.int)) ∈ zc_W := zk_4 _ (List.mem_of_getElem? (i := 27) rfl)
theorem zm_348 : (Jvm.Cond.constant "DiceForge$Entry" (30 : Nat) (1000003 : Int32)) ∈ zc_W := zk_4 _ (List.mem_of_getElem? (i := 28) rfl)
theorem zm_349 : (Jvm.Cond.methodLink "DiceForgeLaw" (20 : Nat) ({ cls := "DiceForge", name := "alter", desc := "(II)I" } : Jvm.MethodName)) ∈ zc_W := zk_4 _ (List.mem_of_getElem? (i := 29) rfl)
theorem zm_350 : (Jvm.Cond.instanceMethod ({ cls := "DiceForge", name := "alter", desc := "(II)I" } : Jvm.MethodName)) ∈ zc_W := zk_4 _ (List.mem_of_getElem? (i := 30) rfl)
theorem zm_351 : (Jvm.Cond.selects "DiceForge" ({ cls := "DiceForge", name := "alter", desc := "(II)I" } : Jvm.MethodName) ({ cls := "DiceForge", name := "alter", desc := "(II)I" } : Jvm.MethodName)) ∈ zc_W := zk_4 _ (List.mem_of_getElem? (i := 31) rfl)
theorem zm_352 : (Jvm.Cond.code ({ cls := "DiceForge", name := "alter", desc := "(II)I" } : Jvm.MethodName) prog_1_method_13_code (5 : Nat) (Option.some Jvm.ClassFile.FieldType.int)) ∈ zc_W := zk_4 _ (List.mem_of_getElem? (i := 32) rfl)
theorem zm_353 : (Jvm.Cond.methodLink "DiceForge" (125 : Nat) ({ cls := "DiceForge", name := "entryAt", desc := "(I)LDiceForge$Entry;" } : Jvm.MethodName)) ∈ zc_W := zk_4 _ (List.mem_of_getElem? (i := 33) rfl)
theorem zm_354 : (Jvm.Cond.instanceMethod ({ cls := "DiceForge", name := "entryAt", desc := "(I)LDiceForge$Entry;" } : Jvm.MethodName)) ∈ zc_W := zk_4 _ (List.mem_of_getElem? (i := 34) rfl)
theorem zm_355 : (Jvm.Cond.code ({ cls := "DiceForge", name := "entryAt", desc := "(I)LDiceForge$Entry;" } : Jvm.MethodName) prog_1_method_24_code (2 : Nat) (Option.some (Jvm.ClassFile.FieldType.object "DiceForge$Entry"))) ∈ zc_W := zk_4 _ (List.mem_of_getElem? (i := 35) rfl)
theorem zm_356 : (Jvm.Cond.methodLink "DiceForge" (132 : Nat) ({ cls := "DiceForge", name := "requireValue", desc := "(II)V" } : Jvm.MethodName)) ∈ zc_W := zk_4 _ (List.mem_of_getElem? (i := 36) rfl)
theorem zm_357 : (Jvm.Cond.static ({ cls := "DiceForge", name := "requireValue", desc := "(II)V" } : Jvm.MethodName)) ∈ zc_W := zk_4 _ (List.mem_of_getElem? (i := 37) rfl)
theorem zm_358 : (Jvm.Cond.code ({ cls := "DiceForge", name := "requireValue", desc := "(II)V" } : Jvm.MethodName) prog_1_method_27_code (2 : Nat) (Option.none : Option Jvm.ClassFile.FieldType)) ∈ zc_W := zk_4 _ (List.mem_of_getElem? (i := 38) rfl)
theorem zm_359 : (Jvm.Cond.methodLink "DiceForgeLaw" (24 : Nat) ({ cls := "DiceForge", name := "found", desc := "(I)I" } : Jvm.MethodName)) ∈ zc_W := zk_4 _ (List.mem_of_getElem? (i := 39) rfl)
theorem zm_360 : (Jvm.Cond.instanceMethod ({ cls := "DiceForge", name := "found", desc := "(I)I" } : Jvm.MethodName)) ∈ zc_W := zk_4 _ (List.mem_of_getElem? (i := 40) rfl)
theorem zm_361 : (Jvm.Cond.selects "DiceForge" ({ cls := "DiceForge", name := "found", desc := "(I)I" } : Jvm.MethodName) ({ cls := "DiceForge", name := "found", desc := "(I)I" } : Jvm.MethodName)) ∈ zc_W := zk_4 _ (List.mem_of_getElem? (i := 41) rfl)
theorem zm_362 : (Jvm.Cond.code ({ cls := "DiceForge", name := "found", desc := "(I)I" } : Jvm.MethodName) prog_1_method_15_code (7 : Nat) (Option.some Jvm.ClassFile.FieldType.int)) ∈ zc_W := zk_4 _ (List.mem_of_getElem? (i := 42) rfl)
theorem zm_363 : (Jvm.Cond.classLink "DiceForge" (105 : Nat) "DiceForge$Draws") ∈ zc_W := zk_4 _ (List.mem_of_getElem? (i := 43) rfl)
theorem zm_364 : (Jvm.Cond.methodLink "DiceForge" (148 : Nat) ({ cls := "DiceForge", name := "openedAt", desc := "(I)LDiceForge$Promise;" } : Jvm.MethodName)) ∈ zc_W := zk_4 _ (List.mem_of_getElem? (i := 44) rfl)
theorem zm_365 : (Jvm.Cond.instanceMethod ({ cls := "DiceForge", name := "openedAt", desc := "(I)LDiceForge$Promise;" } : Jvm.MethodName)) ∈ zc_W := zk_4 _ (List.mem_of_getElem? (i := 45) rfl)
theorem zm_366 : (Jvm.Cond.code ({ cls := "DiceForge", name := "openedAt", desc := "(I)LDiceForge$Promise;" } : Jvm.MethodName) prog_1_method_23_code (3 : Nat) (Option.some (Jvm.ClassFile.FieldType.object "DiceForge$Promise"))) ∈ zc_W := zk_4 _ (List.mem_of_getElem? (i := 46) rfl)
theorem zm_367 : (Jvm.Cond.methodLink "DiceForgeLaw" (27 : Nat) ({ cls := "DiceForge", name := "wrong", desc := "(I)I" } : Jvm.MethodName)) ∈ zc_W := zk_4 _ (List.mem_of_getElem? (i := 47) rfl)
theorem zm_368 : (Jvm.Cond.instanceMethod ({ cls := "DiceForge", name := "wrong", desc := "(I)I" } : Jvm.MethodName)) ∈ zc_W := zk_4 _ (List.mem_of_getElem? (i := 48) rfl)
theorem zm_369 : (Jvm.Cond.selects "DiceForge" ({ cls := "DiceForge", name := "wrong", desc := "(I)I" } : Jvm.MethodName) ({ cls := "DiceForge", name := "wrong", desc := "(I)I" } : Jvm.MethodName)) ∈ zc_W := zk_4 _ (List.mem_of_getElem? (i := 49) rfl)
theorem zm_370 : (Jvm.Cond.code ({ cls := "DiceForge", name := "wrong", desc := "(I)I" } : Jvm.MethodName) prog_1_method_16_code (2 : Nat) (Option.some Jvm.ClassFile.FieldType.int)) ∈ zc_W := zk_4 _ (List.mem_of_getElem? (i := 50) rfl)
theorem zm_371 : (Jvm.Cond.methodLink "DiceForge" (152 : Nat) ({ cls := "DiceForge", name := "firstWrong", desc := "(II)I" } : Jvm.MethodName)) ∈ zc_W := zk_4 _ (List.mem_of_getElem? (i := 51) rfl)
theorem zm_372 : (Jvm.Cond.instanceMethod ({ cls := "DiceForge", name := "firstWrong", desc := "(II)I" } : Jvm.MethodName)) ∈ zc_W := zk_4 _ (List.mem_of_getElem? (i := 52) rfl)
theorem zm_373 : (Jvm.Cond.code ({ cls := "DiceForge", name := "firstWrong", desc := "(II)I" } : Jvm.MethodName) prog_1_method_30_code (6 : Nat) (Option.some Jvm.ClassFile.FieldType.int)) ∈ zc_W := zk_4 _ (List.mem_of_getElem? (i := 53) rfl)
theorem zm_374 : (Jvm.Cond.methodLink "DiceForgeLaw" (30 : Nat) ({ cls := "DiceForge", name := "dispute", desc := "(I)I" } : Jvm.MethodName)) ∈ zc_W := zk_4 _ (List.mem_of_getElem? (i := 54) rfl)
theorem zm_375 : (Jvm.Cond.instanceMethod ({ cls := "DiceForge", name := "dispute", desc := "(I)I" } : Jvm.MethodName)) ∈ zc_W := zk_4 _ (List.mem_of_getElem? (i := 55) rfl)
theorem zm_376 : (Jvm.Cond.selects "DiceForge" ({ cls := "DiceForge", name := "dispute", desc := "(I)I" } : Jvm.MethodName) ({ cls := "DiceForge", name := "dispute", desc := "(I)I" } : Jvm.MethodName)) ∈ zc_W := zk_4 _ (List.mem_of_getElem? (i := 56) rfl)
theorem zm_377 : (Jvm.Cond.code ({ cls := "DiceForge", name := "dispute", desc := "(I)I" } : Jvm.MethodName) prog_1_method_17_code (4 : Nat) (Option.some Jvm.ClassFile.FieldType.int)) ∈ zc_W := zk_4 _ (List.mem_of_getElem? (i := 57) rfl)
theorem zm_378 : (Jvm.Cond.methodLink "DiceForge" (160 : Nat) ({ cls := "DiceForge", name := "strikeFrom", desc := "(II)I" } : Jvm.MethodName)) ∈ zc_W := zk_4 _ (List.mem_of_getElem? (i := 58) rfl)
theorem zm_379 : (Jvm.Cond.instanceMethod ({ cls := "DiceForge", name := "strikeFrom", desc := "(II)I" } : Jvm.MethodName)) ∈ zc_W := zk_4 _ (List.mem_of_getElem? (i := 59) rfl)
theorem zm_380 : (Jvm.Cond.code ({ cls := "DiceForge", name := "strikeFrom", desc := "(II)I" } : Jvm.MethodName) prog_1_method_31_code (6 : Nat) (Option.some Jvm.ClassFile.FieldType.int)) ∈ zc_W := zk_4 _ (List.mem_of_getElem? (i := 60) rfl)
theorem zm_381 : (Jvm.Cond.methodLink "DiceForge" (193 : Nat) ({ cls := "java/lang/Math", name := "max", desc := "(II)I" } : Jvm.MethodName)) ∈ zc_W := zk_4 _ (List.mem_of_getElem? (i := 61) rfl)
theorem zm_382 : (Jvm.Cond.methodLink "DiceForgeLaw" (45 : Nat) ({ cls := "DiceForgeLaw", name := "rolls", desc := "(III[I)I" } : Jvm.MethodName)) ∈ zc_W := zk_4 _ (List.mem_of_getElem? (i := 62) rfl)
theorem zm_383 : (Jvm.Cond.static ({ cls := "DiceForgeLaw", name := "rolls", desc := "(III[I)I" } : Jvm.MethodName)) ∈ zc_W := zk_4 _ (List.mem_of_getElem? (i := 63) rfl)
theorem zm_384 : (Jvm.Cond.code ({ cls := "DiceForgeLaw", name := "rolls", desc := "(III[I)I" } : Jvm.MethodName) method_6_code (5 : Nat) (Option.some Jvm.ClassFile.FieldType.int)) ∈ zc_W := zk_4 _ (List.mem_of_getElem? (i := 64) rfl)
theorem zm_385 : (Jvm.Cond.constant "DiceForgeLaw" (43 : Nat) (65536 : Int32)) ∈ zc_W := zk_4 _ (List.mem_of_getElem? (i := 65) rfl)
theorem zm_386 : (Jvm.Cond.methodLink "DiceForgeLaw" (59 : Nat) ({ cls := "DiceForgeLaw", name := "sum", desc := "(I[I[I[I[I[I)I" } : Jvm.MethodName)) ∈ zc_W := zk_4 _ (List.mem_of_getElem? (i := 66) rfl)
theorem zm_387 : (Jvm.Cond.static ({ cls := "DiceForgeLaw", name := "sum", desc := "(I[I[I[I[I[I)I" } : Jvm.MethodName)) ∈ zc_W := zk_4 _ (List.mem_of_getElem? (i := 67) rfl)
theorem zm_388 : (Jvm.Cond.code ({ cls := "DiceForgeLaw", name := "sum", desc := "(I[I[I[I[I[I)I" } : Jvm.MethodName) method_7_code (7 : Nat) (Option.some Jvm.ClassFile.FieldType.int)) ∈ zc_W := zk_4 _ (List.mem_of_getElem? (i := 68) rfl)
theorem zm_389 : (Jvm.Cond.constant "DiceForgeLaw" (44 : Nat) (1000003 : Int32)) ∈ zc_W := zk_4 _ (List.mem_of_getElem? (i := 69) rfl)
theorem zm_390 : (Jvm.Cond.methodLink "DiceForgeLaw" (85 : Nat) ({ cls := "DiceForgeLaw", name := "wrong", desc := "(I[I[I[I[I[I[I)I" } : Jvm.MethodName)) ∈ zc_W := zk_4 _ (List.mem_of_getElem? (i := 70) rfl)
theorem zm_391 : (Jvm.Cond.static ({ cls := "DiceForgeLaw", name := "wrong", desc := "(I[I[I[I[I[I[I)I" } : Jvm.MethodName)) ∈ zc_W := zk_4 _ (List.mem_of_getElem? (i := 71) rfl)
theorem zm_392 : (Jvm.Cond.code ({ cls := "DiceForgeLaw", name := "wrong", desc := "(I[I[I[I[I[I[I)I" } : Jvm.MethodName) method_9_code (8 : Nat) (Option.some Jvm.ClassFile.FieldType.int)) ∈ zc_W := zk_4 _ (List.mem_of_getElem? (i := 72) rfl)
theorem zm_393 : (Jvm.Cond.methodLink "DiceForgeLaw" (51 : Nat) ({ cls := "DiceForgeLaw", name := "again", desc := "(I[I[I[I[I[I)I" } : Jvm.MethodName)) ∈ zc_W := zk_4 _ (List.mem_of_getElem? (i := 73) rfl)
theorem zm_394 : (Jvm.Cond.static ({ cls := "DiceForgeLaw", name := "again", desc := "(I[I[I[I[I[I)I" } : Jvm.MethodName)) ∈ zc_W := zk_4 _ (List.mem_of_getElem? (i := 74) rfl)
theorem zm_395 : (Jvm.Cond.code ({ cls := "DiceForgeLaw", name := "again", desc := "(I[I[I[I[I[I)I" } : Jvm.MethodName) method_8_code (9 : Nat) (Option.some Jvm.ClassFile.FieldType.int)) ∈ zc_W := zk_4 _ (List.mem_of_getElem? (i := 75) rfl)
theorem zm_396 : (Jvm.Cond.methodLink "DiceForgeLaw" (124 : Nat) ({ cls := "DiceForgeLaw", name := "isSo", desc := "(LDiceForge;I[I[I[I[I[I[I[I[I)Z" } : Jvm.MethodName)) ∈ zc_W := zk_4 _ (List.mem_of_getElem? (i := 76) rfl)
theorem zm_397 : (Jvm.Cond.static ({ cls := "DiceForgeLaw", name := "isSo", desc := "(LDiceForge;I[I[I[I[I[I[I[I[I)Z" } : Jvm.MethodName)) ∈ zc_W := zk_4 _ (List.mem_of_getElem? (i := 77) rfl)
theorem zm_398 : (Jvm.Cond.code ({ cls := "DiceForgeLaw", name := "isSo", desc := "(LDiceForge;I[I[I[I[I[I[I[I[I)Z" } : Jvm.MethodName) method_12_code (15 : Nat) (Option.some Jvm.ClassFile.FieldType.boolean)) ∈ zc_W := zk_4 _ (List.mem_of_getElem? (i := 78) rfl)
theorem zm_399 : (Jvm.Cond.methodLink "DiceForgeLaw" (55 : Nat) ({ cls := "DiceForge", name := "entries", desc := "()I" } : Jvm.MethodName)) ∈ zc_W := zk_4 _ (List.mem_of_getElem? (i := 79) rfl)
theorem zm_400 : (Jvm.Cond.instanceMethod ({ cls := "DiceForge", name := "entries", desc := "()I" } : Jvm.MethodName)) ∈ zc_W := zk_5 _ (List.mem_of_getElem? (i := 0) rfl)
theorem zm_401 : (Jvm.Cond.selects "DiceForge" ({ cls := "DiceForge", name := "entries", desc := "()I" } : Jvm.MethodName) ({ cls := "DiceForge", name := "entries", desc := "()I" } : Jvm.MethodName)) ∈ zc_W := zk_5 _ (List.mem_of_getElem? (i := 1) rfl)
theorem zm_402 : (Jvm.Cond.code ({ cls := "DiceForge", name := "entries", desc := "()I" } : Jvm.MethodName) prog_1_method_9_code (1 : Nat) (Option.some Jvm.ClassFile.FieldType.int)) ∈ zc_W := zk_5 _ (List.mem_of_getElem? (i := 2) rfl)
theorem zm_403 : (Jvm.Cond.methodLink "DiceForgeLaw" (62 : Nat) ({ cls := "DiceForge", name := "value", desc := "(I)I" } : Jvm.MethodName)) ∈ zc_W := zk_5 _ (List.mem_of_getElem? (i := 3) rfl)
theorem zm_404 : (Jvm.Cond.instanceMethod ({ cls := "DiceForge", name := "value", desc := "(I)I" } : Jvm.MethodName)) ∈ zc_W := zk_5 _ (List.mem_of_getElem? (i := 4) rfl)
theorem zm_405 : (Jvm.Cond.selects "DiceForge" ({ cls := "DiceForge", name := "value", desc := "(I)I" } : Jvm.MethodName) ({ cls := "DiceForge", name := "value", desc := "(I)I" } : Jvm.MethodName)) ∈ zc_W := zk_5 _ (List.mem_of_getElem? (i := 5) rfl)
theorem zm_406 : (Jvm.Cond.code ({ cls := "DiceForge", name := "value", desc := "(I)I" } : Jvm.MethodName) prog_1_method_10_code (2 : Nat) (Option.some Jvm.ClassFile.FieldType.int)) ∈ zc_W := zk_5 _ (List.mem_of_getElem? (i := 6) rfl)
theorem zm_407 : (Jvm.Cond.methodLink "DiceForgeLaw" (65 : Nat) ({ cls := "DiceForge", name := "rejected", desc := "(I)I" } : Jvm.MethodName)) ∈ zc_W := zk_5 _ (List.mem_of_getElem? (i := 7) rfl)
theorem zm_408 : (Jvm.Cond.instanceMethod ({ cls := "DiceForge", name := "rejected", desc := "(I)I" } : Jvm.MethodName)) ∈ zc_W := zk_5 _ (List.mem_of_getElem? (i := 8) rfl)
theorem zm_409 : (Jvm.Cond.selects "DiceForge" ({ cls := "DiceForge", name := "rejected", desc := "(I)I" } : Jvm.MethodName) ({ cls := "DiceForge", name := "rejected", desc := "(I)I" } : Jvm.MethodName)) ∈ zc_W := zk_5 _ (List.mem_of_getElem? (i := 9) rfl)
theorem zm_410 : (Jvm.Cond.code ({ cls := "DiceForge", name := "rejected", desc := "(I)I" } : Jvm.MethodName) prog_1_method_11_code (2 : Nat) (Option.some Jvm.ClassFile.FieldType.int)) ∈ zc_W := zk_5 _ (List.mem_of_getElem? (i := 10) rfl)
theorem zm_411 : (Jvm.Cond.methodLink "DiceForgeLaw" (68 : Nat) ({ cls := "DiceForge", name := "sum", desc := "(I)I" } : Jvm.MethodName)) ∈ zc_W := zk_5 _ (List.mem_of_getElem? (i := 11) rfl)
theorem zm_412 : (Jvm.Cond.instanceMethod ({ cls := "DiceForge", name := "sum", desc := "(I)I" } : Jvm.MethodName)) ∈ zc_W := zk_5 _ (List.mem_of_getElem? (i := 12) rfl)
theorem zm_413 : (Jvm.Cond.selects "DiceForge" ({ cls := "DiceForge", name := "sum", desc := "(I)I" } : Jvm.MethodName) ({ cls := "DiceForge", name := "sum", desc := "(I)I" } : Jvm.MethodName)) ∈ zc_W := zk_5 _ (List.mem_of_getElem? (i := 13) rfl)
theorem zm_414 : (Jvm.Cond.code ({ cls := "DiceForge", name := "sum", desc := "(I)I" } : Jvm.MethodName) prog_1_method_12_code (2 : Nat) (Option.some Jvm.ClassFile.FieldType.int)) ∈ zc_W := zk_5 _ (List.mem_of_getElem? (i := 14) rfl)
theorem zm_415 : (Jvm.Cond.methodLink "DiceForgeLaw" (70 : Nat) ({ cls := "DiceForge", name := "isStruck", desc := "(I)Z" } : Jvm.MethodName)) ∈ zc_W := zk_5 _ (List.mem_of_getElem? (i := 15) rfl)
theorem zm_416 : (Jvm.Cond.instanceMethod ({ cls := "DiceForge", name := "isStruck", desc := "(I)Z" } : Jvm.MethodName)) ∈ zc_W := zk_5 _ (List.mem_of_getElem? (i := 16) rfl)
theorem zm_417 : (Jvm.Cond.selects "DiceForge" ({ cls := "DiceForge", name := "isStruck", desc := "(I)Z" } : Jvm.MethodName) ({ cls := "DiceForge", name := "isStruck", desc := "(I)Z" } : Jvm.MethodName)) ∈ zc_W := zk_5 _ (List.mem_of_getElem? (i := 17) rfl)
theorem zm_418 : (Jvm.Cond.code ({ cls := "DiceForge", name := "isStruck", desc := "(I)Z" } : Jvm.MethodName) prog_1_method_18_code (2 : Nat) (Option.some Jvm.ClassFile.FieldType.boolean)) ∈ zc_W := zk_5 _ (List.mem_of_getElem? (i := 18) rfl)
theorem zm_419 : (Jvm.Cond.methodLink "DiceForgeLaw" (78 : Nat) ({ cls := "DiceForge", name := "sign", desc := "(I)I" } : Jvm.MethodName)) ∈ zc_W := zk_5 _ (List.mem_of_getElem? (i := 19) rfl)
theorem zm_420 : (Jvm.Cond.instanceMethod ({ cls := "DiceForge", name := "sign", desc := "(I)I" } : Jvm.MethodName)) ∈ zc_W := zk_5 _ (List.mem_of_getElem? (i := 20) rfl)
theorem zm_421 : (Jvm.Cond.selects "DiceForge" ({ cls := "DiceForge", name := "sign", desc := "(I)I" } : Jvm.MethodName) ({ cls := "DiceForge", name := "sign", desc := "(I)I" } : Jvm.MethodName)) ∈ zc_W := zk_5 _ (List.mem_of_getElem? (i := 21) rfl)
theorem zm_422 : (Jvm.Cond.code ({ cls := "DiceForge", name := "sign", desc := "(I)I" } : Jvm.MethodName) prog_1_method_3_code (4 : Nat) (Option.some Jvm.ClassFile.FieldType.int)) ∈ zc_W := zk_5 _ (List.mem_of_getElem? (i := 22) rfl)
theorem zm_423 : (Jvm.Cond.constantLong "DiceForge" (60 : Nat) (31 : Int64)) ∈ zc_W := zk_5 _ (List.mem_of_getElem? (i := 23) rfl)
theorem zm_424 : (Jvm.Cond.constantLong "DiceForge" (62 : Nat) (7 : Int64)) ∈ zc_W := zk_5 _ (List.mem_of_getElem? (i := 24) rfl)
theorem zm_425 : (Jvm.Cond.constantLong "DiceForge" (64 : Nat) (10007 : Int64)) ∈ zc_W := zk_5 _ (List.mem_of_getElem? (i := 25) rfl)
theorem zm_426 : (Jvm.Cond.methodLink "DiceForgeLaw" (81 : Nat) ({ cls := "DiceForgeLaw", name := "sign", desc := "(I)I" } : Jvm.MethodName)) ∈ zc_W := zk_5 _ (List.mem_of_getElem? (i := 26) rfl)
theorem zm_427 : (Jvm.Cond.static ({ cls := "DiceForgeLaw", name := "sign", desc := "(I)I" } : Jvm.MethodName)) ∈ zc_W := zk_5 _ (List.mem_of_getElem? (i := 27) rfl)
theorem zm_428 : (Jvm.Cond.code ({ cls := "DiceForgeLaw", name := "sign", desc := "(I)I" } : Jvm.MethodName) method_5_code (2 : Nat) (Option.some Jvm.ClassFile.FieldType.int)) ∈ zc_W := zk_5 _ (List.mem_of_getElem? (i := 28) rfl)
theorem zm_429 : (Jvm.Cond.constantLong "DiceForgeLaw" (37 : Nat) (31 : Int64)) ∈ zc_W := zk_5 _ (List.mem_of_getElem? (i := 29) rfl)
theorem zm_430 : (Jvm.Cond.constantLong "DiceForgeLaw" (39 : Nat) (7 : Int64)) ∈ zc_W := zk_5 _ (List.mem_of_getElem? (i := 30) rfl)
theorem zm_431 : (Jvm.Cond.constantLong "DiceForgeLaw" (41 : Nat) (10007 : Int64)) ∈ zc_W := zk_5 _ (List.mem_of_getElem? (i := 31) rfl)
theorem zm_432 : (Jvm.Cond.methodLink "DiceForgeLaw" (82 : Nat) ({ cls := "DiceForge", name := "isOpened", desc := "(I)Z" } : Jvm.MethodName)) ∈ zc_W := zk_5 _ (List.mem_of_getElem? (i := 32) rfl)
theorem zm_433 : (Jvm.Cond.instanceMethod ({ cls := "DiceForge", name := "isOpened", desc := "(I)Z" } : Jvm.MethodName)) ∈ zc_W := zk_5 _ (List.mem_of_getElem? (i := 33) rfl)
theorem zm_434 : (Jvm.Cond.selects "DiceForge" ({ cls := "DiceForge", name := "isOpened", desc := "(I)Z" } : Jvm.MethodName) ({ cls := "DiceForge", name := "isOpened", desc := "(I)Z" } : Jvm.MethodName)) ∈ zc_W := zk_5 _ (List.mem_of_getElem? (i := 34) rfl)
theorem zm_435 : (Jvm.Cond.code ({ cls := "DiceForge", name := "isOpened", desc := "(I)Z" } : Jvm.MethodName) prog_1_method_6_code (2 : Nat) (Option.some Jvm.ClassFile.FieldType.boolean)) ∈ zc_W := zk_5 _ (List.mem_of_getElem? (i := 35) rfl)
theorem zm_436 : (Jvm.Cond.methodLink "DiceForgeLaw" (88 : Nat) ({ cls := "DiceForge", name := "total", desc := "(I)I" } : Jvm.MethodName)) ∈ zc_W := zk_5 _ (List.mem_of_getElem? (i := 36) rfl)
theorem zm_437 : (Jvm.Cond.instanceMethod ({ cls := "DiceForge", name := "total", desc := "(I)I" } : Jvm.MethodName)) ∈ zc_W := zk_5 _ (List.mem_of_getElem? (i := 37) rfl)
theorem zm_438 : (Jvm.Cond.selects "DiceForge" ({ cls := "DiceForge", name := "total", desc := "(I)I" } : Jvm.MethodName) ({ cls := "DiceForge", name := "total", desc := "(I)I" } : Jvm.MethodName)) ∈ zc_W := zk_5 _ (List.mem_of_getElem? (i := 38) rfl)
theorem zm_439 : (Jvm.Cond.code ({ cls := "DiceForge", name := "total", desc := "(I)I" } : Jvm.MethodName) prog_1_method_21_code (5 : Nat) (Option.some Jvm.ClassFile.FieldType.int)) ∈ zc_W := zk_5 _ (List.mem_of_getElem? (i := 39) rfl)
theorem zm_440 : (Jvm.Cond.methodLink "DiceForgeLaw" (94 : Nat) ({ cls := "DiceForge", name := "broken", desc := "()I" } : Jvm.MethodName)) ∈ zc_W := zk_5 _ (List.mem_of_getElem? (i := 40) rfl)
theorem zm_441 : (Jvm.Cond.instanceMethod ({ cls := "DiceForge", name := "broken", desc := "()I" } : Jvm.MethodName)) ∈ zc_W := zk_5 _ (List.mem_of_getElem? (i := 41) rfl)
theorem zm_442 : (Jvm.Cond.selects "DiceForge" ({ cls := "DiceForge", name := "broken", desc := "()I" } : Jvm.MethodName) ({ cls := "DiceForge", name := "broken", desc := "()I" } : Jvm.MethodName)) ∈ zc_W := zk_5 _ (List.mem_of_getElem? (i := 42) rfl)
theorem zm_443 : (Jvm.Cond.code ({ cls := "DiceForge", name := "broken", desc := "()I" } : Jvm.MethodName) prog_1_method_14_code (4 : Nat) (Option.some Jvm.ClassFile.FieldType.int)) ∈ zc_W := zk_5 _ (List.mem_of_getElem? (i := 43) rfl)
theorem zm_444 : (Jvm.Cond.methodLink "DiceForgeLaw" (97 : Nat) ({ cls := "DiceForge", name := "uneven", desc := "(I)J" } : Jvm.MethodName)) ∈ zc_W := zk_5 _ (List.mem_of_getElem? (i := 44) rfl)
theorem zm_445 : (Jvm.Cond.instanceMethod ({ cls := "DiceForge", name := "uneven", desc := "(I)J" } : Jvm.MethodName)) ∈ zc_W := zk_5 _ (List.mem_of_getElem? (i := 45) rfl)
theorem zm_446 : (Jvm.Cond.selects "DiceForge" ({ cls := "DiceForge", name := "uneven", desc := "(I)J" } : Jvm.MethodName) ({ cls := "DiceForge", name := "uneven", desc := "(I)J" } : Jvm.MethodName)) ∈ zc_W := zk_5 _ (List.mem_of_getElem? (i := 46) rfl)
theorem zm_447 : (Jvm.Cond.code ({ cls := "DiceForge", name := "uneven", desc := "(I)J" } : Jvm.MethodName) prog_1_method_20_code (8 : Nat) (Option.some Jvm.ClassFile.FieldType.long)) ∈ zc_W := zk_5 _ (List.mem_of_getElem? (i := 47) rfl)
theorem zm_448 : (Jvm.Cond.methodLink "DiceForge" (167 : Nat) ({ cls := "DiceForge", name := "tallyValues", desc := "(I)I" } : Jvm.MethodName)) ∈ zc_W := zk_5 _ (List.mem_of_getElem? (i := 48) rfl)
theorem zm_449 : (Jvm.Cond.instanceMethod ({ cls := "DiceForge", name := "tallyValues", desc := "(I)I" } : Jvm.MethodName)) ∈ zc_W := zk_5 _ (List.mem_of_getElem? (i := 49) rfl)
theorem zm_450 : (Jvm.Cond.code ({ cls := "DiceForge", name := "tallyValues", desc := "(I)I" } : Jvm.MethodName) prog_1_method_32_code (5 : Nat) (Option.some Jvm.ClassFile.FieldType.int)) ∈ zc_W := zk_5 _ (List.mem_of_getElem? (i := 50) rfl)
theorem zm_451 : (Jvm.Cond.methodLink "DiceForge" (196 : Nat) ({ cls := "java/util/Arrays", name := "fill", desc := "([II)V" } : Jvm.MethodName)) ∈ zc_W := zk_5 _ (List.mem_of_getElem? (i := 51) rfl)
theorem zm_452 : (Jvm.Cond.static ({ cls := "java/util/Arrays", name := "fill", desc := "([II)V" } : Jvm.MethodName)) ∈ zc_W := zk_5 _ (List.mem_of_getElem? (i := 52) rfl)
theorem zm_453 : (Jvm.Cond.code ({ cls := "java/util/Arrays", name := "fill", desc := "([II)V" } : Jvm.MethodName) prog_22_method_103_code (4 : Nat) (Option.none : Option Jvm.ClassFile.FieldType)) ∈ zc_W := zk_5 _ (List.mem_of_getElem? (i := 53) rfl)
theorem zm_454 : (Jvm.Cond.instanceMethod ({ cls := "DiceForge$Entry", name := "countsFor", desc := "(I)Z" } : Jvm.MethodName)) ∈ zc_W := zk_5 _ (List.mem_of_getElem? (i := 54) rfl)
theorem zm_455 : (Jvm.Cond.code ({ cls := "DiceForge$Entry", name := "countsFor", desc := "(I)Z" } : Jvm.MethodName) prog_3_method_3_code (2 : Nat) (Option.some Jvm.ClassFile.FieldType.boolean)) ∈ zc_W := zk_5 _ (List.mem_of_getElem? (i := 55) rfl)
theorem zm_456 : (Jvm.Cond.methodLink "DiceForgeLaw" (101 : Nat) ({ cls := "DiceForgeLaw", name := "uneven", desc := "(I[I[I[I)J" } : Jvm.MethodName)) ∈ zc_W := zk_5 _ (List.mem_of_getElem? (i := 56) rfl)
theorem zm_457 : (Jvm.Cond.static ({ cls := "DiceForgeLaw", name := "uneven", desc := "(I[I[I[I)J" } : Jvm.MethodName)) ∈ zc_W := zk_5 _ (List.mem_of_getElem? (i := 57) rfl)
theorem zm_458 : (Jvm.Cond.code ({ cls := "DiceForgeLaw", name := "uneven", desc := "(I[I[I[I)J" } : Jvm.MethodName) method_10_code (10 : Nat) (Option.some Jvm.ClassFile.FieldType.long)) ∈ zc_W := zk_5 _ (List.mem_of_getElem? (i := 58) rfl)
theorem zm_459 : (Jvm.Cond.methodLink "DiceForgeLaw" (104 : Nat) ({ cls := "DiceForge", name := "count", desc := "(II)I" } : Jvm.MethodName)) ∈ zc_W := zk_5 _ (List.mem_of_getElem? (i := 59) rfl)
theorem zm_460 : (Jvm.Cond.instanceMethod ({ cls := "DiceForge", name := "count", desc := "(II)I" } : Jvm.MethodName)) ∈ zc_W := zk_5 _ (List.mem_of_getElem? (i := 60) rfl)
theorem zm_461 : (Jvm.Cond.selects "DiceForge" ({ cls := "DiceForge", name := "count", desc := "(II)I" } : Jvm.MethodName) ({ cls := "DiceForge", name := "count", desc := "(II)I" } : Jvm.MethodName)) ∈ zc_W := zk_5 _ (List.mem_of_getElem? (i := 61) rfl)
theorem zm_462 : (Jvm.Cond.code ({ cls := "DiceForge", name := "count", desc := "(II)I" } : Jvm.MethodName) prog_1_method_19_code (6 : Nat) (Option.some Jvm.ClassFile.FieldType.int)) ∈ zc_W := zk_5 _ (List.mem_of_getElem? (i := 62) rfl)
theorem zm_463 : (Jvm.Cond.methodLink "DiceForgeLaw" (107 : Nat) ({ cls := "DiceForgeLaw", name := "count", desc := "(II[I[I[I)I" } : Jvm.MethodName)) ∈ zc_W := zk_5 _ (List.mem_of_getElem? (i := 63) rfl)
theorem zm_464 : (Jvm.Cond.static ({ cls := "DiceForgeLaw", name := "count", desc := "(II[I[I[I)I" } : Jvm.MethodName)) ∈ zc_W := zk_5 _ (List.mem_of_getElem? (i := 64) rfl)
theorem zm_465 : (Jvm.Cond.code ({ cls := "DiceForgeLaw", name := "count", desc := "(II[I[I[I)I" } : Jvm.MethodName) method_11_code (7 : Nat) (Option.some Jvm.ClassFile.FieldType.int)) ∈ zc_W := zk_5 _ (List.mem_of_getElem? (i := 65) rfl)
theorem zm_466 : (Jvm.Cond.methodLink "DiceForgeLaw" (128 : Nat) ({ cls := "DiceForgeLaw", name := "seeds", desc := "(LDiceForge;I[I)Z" } : Jvm.MethodName)) ∈ zc_W := zk_5 _ (List.mem_of_getElem? (i := 66) rfl)
theorem zm_467 : (Jvm.Cond.static ({ cls := "DiceForgeLaw", name := "seeds", desc := "(LDiceForge;I[I)Z" } : Jvm.MethodName)) ∈ zc_W := zk_5 _ (List.mem_of_getElem? (i := 67) rfl)
theorem zm_468 : (Jvm.Cond.code ({ cls := "DiceForgeLaw", name := "seeds", desc := "(LDiceForge;I[I)Z" } : Jvm.MethodName) method_13_code (5 : Nat) (Option.some Jvm.ClassFile.FieldType.boolean)) ∈ zc_W := zk_5 _ (List.mem_of_getElem? (i := 68) rfl)
theorem zm_469 : (Jvm.Cond.methodLink "DiceForgeLaw" (110 : Nat) ({ cls := "DiceForge", name := "seedsOf", desc := "(I)I" } : Jvm.MethodName)) ∈ zc_W := zk_5 _ (List.mem_of_getElem? (i := 69) rfl)
theorem zm_470 : (Jvm.Cond.instanceMethod ({ cls := "DiceForge", name := "seedsOf", desc := "(I)I" } : Jvm.MethodName)) ∈ zc_W := zk_5 _ (List.mem_of_getElem? (i := 70) rfl)
theorem zm_471 : (Jvm.Cond.selects "DiceForge" ({ cls := "DiceForge", name := "seedsOf", desc := "(I)I" } : Jvm.MethodName) ({ cls := "DiceForge", name := "seedsOf", desc := "(I)I" } : Jvm.MethodName)) ∈ zc_W := zk_5 _ (List.mem_of_getElem? (i := 71) rfl)
theorem zm_472 : (Jvm.Cond.code ({ cls := "DiceForge", name := "seedsOf", desc := "(I)I" } : Jvm.MethodName) prog_1_method_4_code (6 : Nat) (Option.some Jvm.ClassFile.FieldType.int)) ∈ zc_W := zk_5 _ (List.mem_of_getElem? (i := 72) rfl)
theorem zm_473 : (Jvm.Cond.methodLink "DiceForge" (66 : Nat) ({ cls := "java/lang/Math", name := "floorMod", desc := "(II)I" } : Jvm.MethodName)) ∈ zc_W := zk_5 _ (List.mem_of_getElem? (i := 73) rfl)
theorem zm_474 : (Jvm.Cond.static ({ cls := "java/lang/Math", name := "floorMod", desc := "(II)I" } : Jvm.MethodName)) ∈ zc_W := zk_5 _ (List.mem_of_getElem? (i := 74) rfl)
theorem zm_475 : (Jvm.Cond.code ({ cls := "java/lang/Math", name := "floorMod", desc := "(II)I" } : Jvm.MethodName) prog_14_method_50_code (3 : Nat) (Option.some Jvm.ClassFile.FieldType.int)) ∈ zc_W := zk_5 _ (List.mem_of_getElem? (i := 75) rfl)
theorem zm_476 : (Jvm.Cond.methodLink "DiceForge" (72 : Nat) ({ cls := "DiceForge", name := "seedsWithRemainder", desc := "(I)I" } : Jvm.MethodName)) ∈ zc_W := zk_5 _ (List.mem_of_getElem? (i := 76) rfl)
theorem zm_477 : (Jvm.Cond.static ({ cls := "DiceForge", name := "seedsWithRemainder", desc := "(I)I" } : Jvm.MethodName)) ∈ zc_W := zk_5 _ (List.mem_of_getElem? (i := 77) rfl)
theorem zm_478 : (Jvm.Cond.code ({ cls := "DiceForge", name := "seedsWithRemainder", desc := "(I)I" } : Jvm.MethodName) prog_1_method_28_code (1 : Nat) (Option.some Jvm.ClassFile.FieldType.int)) ∈ zc_W := zk_5 _ (List.mem_of_getElem? (i := 78) rfl)
theorem zm_479 : (Jvm.Cond.constant "DiceForge" (188 : Nat) (65535 : Int32)) ∈ zc_W := zk_5 _ (List.mem_of_getElem? (i := 79) rfl)
theorem zm_480 : (Jvm.Cond.sameMethod "java/lang/Throwable" "java/lang/Throwable" "fillInStackTrace" "(I)Ljava/lang/Throwable;") ∈ zc_W := zk_6 _ (List.mem_of_getElem? (i := 0) rfl)
theorem zm_481 : (Jvm.Cond.sameMethod "[Ljava/lang/Object;" "java/lang/Object" "getClass" "()Ljava/lang/Class;") ∈ zc_W := zk_6 _ (List.mem_of_getElem? (i := 1) rfl)
theorem zm_482 : (Jvm.Cond.selects "[Ljava/lang/Object;" ({ cls := "java/lang/Object", name := "getClass", desc := "()Ljava/lang/Class;" } : Jvm.MethodName) ({ cls := "java/lang/Object", name := "getClass", desc := "()Ljava/lang/Class;" } : Jvm.MethodName)) ∈ zc_W := zk_6 _ (List.mem_of_getElem? (i := 2) rfl)
end
section
theorem dX0_init_0 : decode cX0_init 0 = .ok (.aload_n 0, 1) := by decide +kernel
theorem dX0_init_1 : decode cX0_init 1 = .ok (.invokespecial 3, 3) := by decide +kernel
theorem dX0_init_4 : decode cX0_init 4 = .ok (.aload_n 0, 1) := by decide +kernel
theorem dX0_init_5 : decode cX0_init 5 = .ok (.iload_n 1, 1) := by decide +kernel
theorem dX0_init_6 : decode cX0_init 6 = .ok (.putfield 9, 3) := by decide +kernel
theorem dX0_init_9 : decode cX0_init 9 = .ok (.return_, 1) := by decide +kernel
theorem dX0_nextValue_0 : decode cX0_nextValue 0 = .ok (.aload_n 0, 1) := by decide +kernel
theorem dX0_nextValue_1 : decode cX0_nextValue 1 = .ok (.iconst 0, 1) := by decide +kernel
theorem dX0_nextValue_2 : decode cX0_nextValue 2 = .ok (.putfield 15, 3) := by decide +kernel
theorem dX0_nextValue_5 : decode cX0_nextValue 5 = .ok (.iload_n 2, 1) := by decide +kernel
theorem dX0_nextValue_6 : decode cX0_nextValue 6 = .ok (.iconst 2, 1) := by decide +kernel
theorem dX0_nextValue_7 : decode cX0_nextValue 7 = .ok (.if_icmp .ge 5, 3) := by decide +kernel
theorem dX0_nextValue_10 : decode cX0_nextValue 10 = .ok (.iconst (-1), 1) := by decide +kernel
theorem dX0_nextValue_11 : decode cX0_nextValue 11 = .ok (.ireturn, 1) := by decide +kernel
theorem dX0_nextValue_12 : decode cX0_nextValue 12 = .ok (.ldc 18, 2) := by decide +kernel
theorem dX0_nextValue_14 : decode cX0_nextValue 14 = .ok (.ldc 18, 2) := by decide +kernel
theorem dX0_nextValue_16 : decode cX0_nextValue 16 = .ok (.iload_n 2, 1) := by decide +kernel
theorem dX0_nextValue_17 : decode cX0_nextValue 17 = .ok (.irem, 1) := by decide +kernel
theorem dX0_nextValue_18 : decode cX0_nextValue 18 = .ok (.isub, 1) := by decide +kernel
theorem dX0_nextValue_19 : decode cX0_nextValue 19 = .ok (.istore_n 3, 1) := by decide +kernel
theorem dX0_nextValue_20 : decode cX0_nextValue 20 = .ok (.aload_n 0, 1) := by decide +kernel
theorem dX0_nextValue_21 : decode cX0_nextValue 21 = .ok (.iload_n 1, 1) := by decide +kernel
theorem dX0_nextValue_22 : decode cX0_nextValue 22 = .ok (.invokevirtual 19, 3) := by decide +kernel
theorem dX0_nextValue_25 : decode cX0_nextValue 25 = .ok (.aload_n 0, 1) := by decide +kernel
theorem dX0_nextValue_26 : decode cX0_nextValue 26 = .ok (.getfield 9, 3) := by decide +kernel
theorem dX0_nextValue_29 : decode cX0_nextValue 29 = .ok (.iload_n 3, 1) := by decide +kernel
theorem dX0_nextValue_30 : decode cX0_nextValue 30 = .ok (.if_icmp .lt 30, 3) := by decide +kernel
theorem dX0_nextValue_33 : decode cX0_nextValue 33 = .ok (.aload_n 0, 1) := by decide +kernel
theorem dX0_nextValue_34 : decode cX0_nextValue 34 = .ok (.getfield 15, 3) := by decide +kernel
theorem dX0_nextValue_37 : decode cX0_nextValue 37 = .ok (.ldc 18, 2) := by decide +kernel
theorem dX0_nextValue_39 : decode cX0_nextValue 39 = .ok (.if_icmp .ge 21, 3) := by decide +kernel
theorem dX0_nextValue_42 : decode cX0_nextValue 42 = .ok (.aload_n 0, 1) := by decide +kernel
theorem dX0_nextValue_43 : decode cX0_nextValue 43 = .ok (.dup, 1) := by decide +kernel
theorem dX0_nextValue_44 : decode cX0_nextValue 44 = .ok (.getfield 15, 3) := by decide +kernel
theorem dX0_nextValue_47 : decode cX0_nextValue 47 = .ok (.iconst 1, 1) := by decide +kernel
theorem dX0_nextValue_48 : decode cX0_nextValue 48 = .ok (.iadd, 1) := by decide +kernel
theorem dX0_nextValue_49 : decode cX0_nextValue 49 = .ok (.putfield 15, 3) := by decide +kernel
theorem dX0_nextValue_52 : decode cX0_nextValue 52 = .ok (.aload_n 0, 1) := by decide +kernel
theorem dX0_nextValue_53 : decode cX0_nextValue 53 = .ok (.iload_n 1, 1) := by decide +kernel
theorem dX0_nextValue_54 : decode cX0_nextValue 54 = .ok (.invokevirtual 19, 3) := by decide +kernel
theorem dX0_nextValue_57 : decode cX0_nextValue 57 = .ok (.goto (-32), 3) := by decide +kernel
theorem dX0_nextValue_60 : decode cX0_nextValue 60 = .ok (.aload_n 0, 1) := by decide +kernel
theorem dX0_nextValue_61 : decode cX0_nextValue 61 = .ok (.getfield 9, 3) := by decide +kernel
theorem dX0_nextValue_64 : decode cX0_nextValue 64 = .ok (.iload_n 2, 1) := by decide +kernel
theorem dX0_nextValue_65 : decode cX0_nextValue 65 = .ok (.irem, 1) := by decide +kernel
theorem dX0_nextValue_66 : decode cX0_nextValue 66 = .ok (.iconst 1, 1) := by decide +kernel
theorem dX0_nextValue_67 : decode cX0_nextValue 67 = .ok (.iadd, 1) := by decide +kernel
theorem dX0_nextValue_68 : decode cX0_nextValue 68 = .ok (.ireturn, 1) := by decide +kernel
theorem dX0_draw_0 : decode cX0_draw 0 = .ok (.aload_n 0, 1) := by decide +kernel
theorem dX0_draw_1 : decode cX0_draw 1 = .ok (.sipush 1105, 3) := by decide +kernel
theorem dX0_draw_4 : decode cX0_draw 4 = .ok (.aload_n 0, 1) := by decide +kernel
theorem dX0_draw_5 : decode cX0_draw 5 = .ok (.getfield 9, 3) := by decide +kernel
theorem dX0_draw_8 : decode cX0_draw 8 = .ok (.imul, 1) := by decide +kernel
theorem dX0_draw_9 : decode cX0_draw 9 = .ok (.sipush 12345, 3) := by decide +kernel
theorem dX0_draw_12 : decode cX0_draw 12 = .ok (.iadd, 1) := by decide +kernel
theorem dX0_draw_13 : decode cX0_draw 13 = .ok (.iconst 2, 1) := by decide +kernel
theorem dX0_draw_14 : decode cX0_draw 14 = .ok (.iload_n 1, 1) := by decide +kernel
theorem dX0_draw_15 : decode cX0_draw 15 = .ok (.imul, 1) := by decide +kernel
theorem dX0_draw_16 : decode cX0_draw 16 = .ok (.iadd, 1) := by decide +kernel
theorem dX0_draw_17 : decode cX0_draw 17 = .ok (.ldc 18, 2) := by decide +kernel
theorem dX0_draw_19 : decode cX0_draw 19 = .ok (.irem, 1) := by decide +kernel
theorem dX0_draw_20 : decode cX0_draw 20 = .ok (.putfield 9, 3) := by decide +kernel
theorem dX0_draw_23 : decode cX0_draw 23 = .ok (.return_, 1) := by decide +kernel
theorem dX1_init_0 : decode cX1_init 0 = .ok (.aload_n 0, 1) := by decide +kernel
theorem dX1_init_1 : decode cX1_init 1 = .ok (.invokespecial 3, 3) := by decide +kernel
theorem dX1_init_4 : decode cX1_init 4 = .ok (.aload_n 0, 1) := by decide +kernel
theorem dX1_init_5 : decode cX1_init 5 = .ok (.iload_n 1, 1) := by decide +kernel
theorem dX1_init_6 : decode cX1_init 6 = .ok (.putfield 9, 3) := by decide +kernel
theorem dX1_init_9 : decode cX1_init 9 = .ok (.aload_n 0, 1) := by decide +kernel
theorem dX1_init_10 : decode cX1_init 10 = .ok (.iload_n 2, 1) := by decide +kernel
theorem dX1_init_11 : decode cX1_init 11 = .ok (.putfield 15, 3) := by decide +kernel
theorem dX1_init_14 : decode cX1_init 14 = .ok (.aload_n 0, 1) := by decide +kernel
theorem dX1_init_15 : decode cX1_init 15 = .ok (.iload_n 3, 1) := by decide +kernel
theorem dX1_init_16 : decode cX1_init 16 = .ok (.putfield 18, 3) := by decide +kernel
theorem dX1_init_19 : decode cX1_init 19 = .ok (.aload_n 0, 1) := by decide +kernel
theorem dX1_init_20 : decode cX1_init 20 = .ok (.iload 4, 2) := by decide +kernel
theorem dX1_init_22 : decode cX1_init 22 = .ok (.putfield 21, 3) := by decide +kernel
theorem dX1_init_25 : decode cX1_init 25 = .ok (.return_, 1) := by decide +kernel
theorem dX1_sumAfter_0 : decode cX1_sumAfter 0 = .ok (.bipush 7, 2) := by decide +kernel
theorem dX1_sumAfter_2 : decode cX1_sumAfter 2 = .ok (.aload_n 0, 1) := by decide +kernel
theorem dX1_sumAfter_3 : decode cX1_sumAfter 3 = .ok (.getfield 9, 3) := by decide +kernel
theorem dX1_sumAfter_6 : decode cX1_sumAfter 6 = .ok (.imul, 1) := by decide +kernel
theorem dX1_sumAfter_7 : decode cX1_sumAfter 7 = .ok (.iconst 5, 1) := by decide +kernel
theorem dX1_sumAfter_8 : decode cX1_sumAfter 8 = .ok (.aload_n 0, 1) := by decide +kernel
theorem dX1_sumAfter_9 : decode cX1_sumAfter 9 = .ok (.getfield 15, 3) := by decide +kernel
theorem dX1_sumAfter_12 : decode cX1_sumAfter 12 = .ok (.imul, 1) := by decide +kernel
theorem dX1_sumAfter_13 : decode cX1_sumAfter 13 = .ok (.iadd, 1) := by decide +kernel
theorem dX1_sumAfter_14 : decode cX1_sumAfter 14 = .ok (.iconst 3, 1) := by decide +kernel
theorem dX1_sumAfter_15 : decode cX1_sumAfter 15 = .ok (.aload_n 0, 1) := by decide +kernel
theorem dX1_sumAfter_16 : decode cX1_sumAfter 16 = .ok (.getfield 21, 3) := by decide +kernel
theorem dX1_sumAfter_19 : decode cX1_sumAfter 19 = .ok (.imul, 1) := by decide +kernel
theorem dX1_sumAfter_20 : decode cX1_sumAfter 20 = .ok (.iadd, 1) := by decide +kernel
theorem dX1_sumAfter_21 : decode cX1_sumAfter 21 = .ok (.bipush 11, 2) := by decide +kernel
theorem dX1_sumAfter_23 : decode cX1_sumAfter 23 = .ok (.aload_n 0, 1) := by decide +kernel
theorem dX1_sumAfter_24 : decode cX1_sumAfter 24 = .ok (.getfield 24, 3) := by decide +kernel
theorem dX1_sumAfter_27 : decode cX1_sumAfter 27 = .ok (.imul, 1) := by decide +kernel
theorem dX1_sumAfter_28 : decode cX1_sumAfter 28 = .ok (.iadd, 1) := by decide +kernel
theorem dX1_sumAfter_29 : decode cX1_sumAfter 29 = .ok (.aload_n 0, 1) := by decide +kernel
theorem dX1_sumAfter_30 : decode cX1_sumAfter 30 = .ok (.getfield 27, 3) := by decide +kernel
theorem dX1_sumAfter_33 : decode cX1_sumAfter 33 = .ok (.iadd, 1) := by decide +kernel
theorem dX1_sumAfter_34 : decode cX1_sumAfter 34 = .ok (.istore_n 2, 1) := by decide +kernel
theorem dX1_sumAfter_35 : decode cX1_sumAfter 35 = .ok (.bipush 31, 2) := by decide +kernel
theorem dX1_sumAfter_37 : decode cX1_sumAfter 37 = .ok (.iload_n 1, 1) := by decide +kernel
theorem dX1_sumAfter_38 : decode cX1_sumAfter 38 = .ok (.imul, 1) := by decide +kernel
theorem dX1_sumAfter_39 : decode cX1_sumAfter 39 = .ok (.iload_n 2, 1) := by decide +kernel
theorem dX1_sumAfter_40 : decode cX1_sumAfter 40 = .ok (.iadd, 1) := by decide +kernel
theorem dX1_sumAfter_41 : decode cX1_sumAfter 41 = .ok (.ldc 30, 2) := by decide +kernel
theorem dX1_sumAfter_43 : decode cX1_sumAfter 43 = .ok (.irem, 1) := by decide +kernel
theorem dX1_sumAfter_44 : decode cX1_sumAfter 44 = .ok (.ireturn, 1) := by decide +kernel
theorem dX1_countsFor_0 : decode cX1_countsFor 0 = .ok (.aload_n 0, 1) := by decide +kernel
theorem dX1_countsFor_1 : decode cX1_countsFor 1 = .ok (.getfield 21, 3) := by decide +kernel
theorem dX1_countsFor_4 : decode cX1_countsFor 4 = .ok (.iload_n 1, 1) := by decide +kernel
theorem dX1_countsFor_5 : decode cX1_countsFor 5 = .ok (.if_icmp .ne 14, 3) := by decide +kernel
theorem dX1_countsFor_8 : decode cX1_countsFor 8 = .ok (.aload_n 0, 1) := by decide +kernel
theorem dX1_countsFor_9 : decode cX1_countsFor 9 = .ok (.getfield 31, 3) := by decide +kernel
theorem dX1_countsFor_12 : decode cX1_countsFor 12 = .ok (.ifCond .ne 7, 3) := by decide +kernel
theorem dX1_countsFor_15 : decode cX1_countsFor 15 = .ok (.iconst 1, 1) := by decide +kernel
theorem dX1_countsFor_16 : decode cX1_countsFor 16 = .ok (.goto 4, 3) := by decide +kernel
theorem dX1_countsFor_19 : decode cX1_countsFor 19 = .ok (.iconst 0, 1) := by decide +kernel
theorem dX1_countsFor_20 : decode cX1_countsFor 20 = .ok (.ireturn, 1) := by decide +kernel
theorem dX2_init_0 : decode cX2_init 0 = .ok (.aload_n 0, 1) := by decide +kernel
theorem dX2_init_1 : decode cX2_init 1 = .ok (.invokespecial 1, 3) := by decide +kernel
theorem dX2_init_4 : decode cX2_init 4 = .ok (.aload_n 0, 1) := by decide +kernel
theorem dX2_init_5 : decode cX2_init 5 = .ok (.iload_n 1, 1) := by decide +kernel
theorem dX2_init_6 : decode cX2_init 6 = .ok (.putfield 7, 3) := by decide +kernel
theorem dX2_init_9 : decode cX2_init 9 = .ok (.aload_n 0, 1) := by decide +kernel
theorem dX2_init_10 : decode cX2_init 10 = .ok (.new 13, 3) := by decide +kernel
theorem dX2_init_13 : decode cX2_init 13 = .ok (.dup, 1) := by decide +kernel
theorem dX2_init_14 : decode cX2_init 14 = .ok (.iload_n 1, 1) := by decide +kernel
theorem dX2_init_15 : decode cX2_init 15 = .ok (.invokespecial 15, 3) := by decide +kernel
theorem dX2_init_18 : decode cX2_init 18 = .ok (.putfield 18, 3) := by decide +kernel
theorem dX2_init_21 : decode cX2_init 21 = .ok (.return_, 1) := by decide +kernel
theorem dX3_init_0 : decode cX3_init 0 = .ok (.aload_n 0, 1) := by decide +kernel
theorem dX3_init_1 : decode cX3_init 1 = .ok (.invokespecial 1, 3) := by decide +kernel
theorem dX3_init_4 : decode cX3_init 4 = .ok (.aload_n 0, 1) := by decide +kernel
theorem dX3_init_5 : decode cX3_init 5 = .ok (.new 7, 3) := by decide +kernel
theorem dX3_init_8 : decode cX3_init 8 = .ok (.dup, 1) := by decide +kernel
theorem dX3_init_9 : decode cX3_init 9 = .ok (.invokespecial 9, 3) := by decide +kernel
theorem dX3_init_12 : decode cX3_init 12 = .ok (.putfield 10, 3) := by decide +kernel
theorem dX3_init_15 : decode cX3_init 15 = .ok (.aload_n 0, 1) := by decide +kernel
theorem dX3_init_16 : decode cX3_init 16 = .ok (.new 7, 3) := by decide +kernel
theorem dX3_init_19 : decode cX3_init 19 = .ok (.dup, 1) := by decide +kernel
theorem dX3_init_20 : decode cX3_init 20 = .ok (.invokespecial 9, 3) := by decide +kernel
theorem dX3_init_23 : decode cX3_init 23 = .ok (.putfield 16, 3) := by decide +kernel
theorem dX3_init_26 : decode cX3_init 26 = .ok (.aload_n 0, 1) := by decide +kernel
theorem dX3_init_27 : decode cX3_init 27 = .ok (.iconst 4, 1) := by decide +kernel
theorem dX3_init_28 : decode cX3_init 28 = .ok (.newarray .int, 2) := by decide +kernel
theorem dX3_init_30 : decode cX3_init 30 = .ok (.putfield 19, 3) := by decide +kernel
theorem dX3_init_33 : decode cX3_init 33 = .ok (.aload_n 0, 1) := by decide +kernel
theorem dX3_init_34 : decode cX3_init 34 = .ok (.sipush 1001, 3) := by decide +kernel
theorem dX3_init_37 : decode cX3_init 37 = .ok (.newarray .int, 2) := by decide +kernel
theorem dX3_init_39 : decode cX3_init 39 = .ok (.putfield 23, 3) := by decide +kernel
theorem dX3_init_42 : decode cX3_init 42 = .ok (.return_, 1) := by decide +kernel
theorem dX3_promise_0 : decode cX3_promise 0 = .ok (.iload_n 1, 1) := by decide +kernel
theorem dX3_promise_1 : decode cX3_promise 1 = .ok (.ifCond .lt 9, 3) := by decide +kernel
theorem dX3_promise_4 : decode cX3_promise 4 = .ok (.iload_n 1, 1) := by decide +kernel
theorem dX3_promise_5 : decode cX3_promise 5 = .ok (.ldc 26, 2) := by decide +kernel
theorem dX3_promise_7 : decode cX3_promise 7 = .ok (.if_icmp .lt 13, 3) := by decide +kernel
theorem dX3_promise_10 : decode cX3_promise 10 = .ok (.new 27, 3) := by decide +kernel
theorem dX3_promise_13 : decode cX3_promise 13 = .ok (.dup, 1) := by decide +kernel
theorem dX3_promise_14 : decode cX3_promise 14 = .ok (.ldc 29, 2) := by decide +kernel
theorem dX3_promise_16 : decode cX3_promise 16 = .ok (.invokespecial 31, 3) := by decide +kernel
theorem dX3_promise_19 : decode cX3_promise 19 = .ok (.athrow, 1) := by decide +kernel
theorem dX3_promise_20 : decode cX3_promise 20 = .ok (.aload_n 0, 1) := by decide +kernel
theorem dX3_promise_21 : decode cX3_promise 21 = .ok (.getfield 10, 3) := by decide +kernel
theorem dX3_promise_24 : decode cX3_promise 24 = .ok (.invokevirtual 34, 3) := by decide +kernel
theorem dX3_promise_27 : decode cX3_promise 27 = .ok (.bipush 16, 2) := by decide +kernel
theorem dX3_promise_29 : decode cX3_promise 29 = .ok (.if_icmp .lt 13, 3) := by decide +kernel
theorem dX3_promise_32 : decode cX3_promise 32 = .ok (.new 38, 3) := by decide +kernel
theorem dX3_promise_35 : decode cX3_promise 35 = .ok (.dup, 1) := by decide +kernel
theorem dX3_promise_36 : decode cX3_promise 36 = .ok (.ldc 40, 2) := by decide +kernel
theorem dX3_promise_38 : decode cX3_promise 38 = .ok (.invokespecial 42, 3) := by decide +kernel
theorem dX3_promise_41 : decode cX3_promise 41 = .ok (.athrow, 1) := by decide +kernel
theorem dX3_promise_42 : decode cX3_promise 42 = .ok (.aload_n 0, 1) := by decide +kernel
theorem dX3_promise_43 : decode cX3_promise 43 = .ok (.getfield 10, 3) := by decide +kernel
theorem dX3_promise_46 : decode cX3_promise 46 = .ok (.new 43, 3) := by decide +kernel
theorem dX3_promise_49 : decode cX3_promise 49 = .ok (.dup, 1) := by decide +kernel
theorem dX3_promise_50 : decode cX3_promise 50 = .ok (.iload_n 1, 1) := by decide +kernel
theorem dX3_promise_51 : decode cX3_promise 51 = .ok (.invokespecial 45, 3) := by decide +kernel
theorem dX3_promise_54 : decode cX3_promise 54 = .ok (.invokevirtual 48, 3) := by decide +kernel
theorem dX3_promise_57 : decode cX3_promise 57 = .ok (.pop, 1) := by decide +kernel
theorem dX3_promise_58 : decode cX3_promise 58 = .ok (.aload_n 0, 1) := by decide +kernel
theorem dX3_promise_59 : decode cX3_promise 59 = .ok (.getfield 10, 3) := by decide +kernel
theorem dX3_promise_62 : decode cX3_promise 62 = .ok (.invokevirtual 34, 3) := by decide +kernel
theorem dX3_promise_65 : decode cX3_promise 65 = .ok (.iconst 1, 1) := by decide +kernel
theorem dX3_promise_66 : decode cX3_promise 66 = .ok (.isub, 1) := by decide +kernel
theorem dX3_promise_67 : decode cX3_promise 67 = .ok (.ireturn, 1) := by decide +kernel
theorem dX3_sign_0 : decode cX3_sign 0 = .ok (.aload_n 0, 1) := by decide +kernel
theorem dX3_sign_1 : decode cX3_sign 1 = .ok (.iload_n 1, 1) := by decide +kernel
theorem dX3_sign_2 : decode cX3_sign 2 = .ok (.invokevirtual 52, 3) := by decide +kernel
theorem dX3_sign_5 : decode cX3_sign 5 = .ok (.getfield 56, 3) := by decide +kernel
theorem dX3_sign_8 : decode cX3_sign 8 = .ok (.i2l, 1) := by decide +kernel
theorem dX3_sign_9 : decode cX3_sign 9 = .ok (.lstore_n 2, 1) := by decide +kernel
theorem dX3_sign_10 : decode cX3_sign 10 = .ok (.lload_n 2, 1) := by decide +kernel
theorem dX3_sign_11 : decode cX3_sign 11 = .ok (.lload_n 2, 1) := by decide +kernel
theorem dX3_sign_12 : decode cX3_sign 12 = .ok (.lmul, 1) := by decide +kernel
theorem dX3_sign_13 : decode cX3_sign 13 = .ok (.ldc2_w 60, 3) := by decide +kernel
theorem dX3_sign_16 : decode cX3_sign 16 = .ok (.lload_n 2, 1) := by decide +kernel
theorem dX3_sign_17 : decode cX3_sign 17 = .ok (.lmul, 1) := by decide +kernel
theorem dX3_sign_18 : decode cX3_sign 18 = .ok (.ladd, 1) := by decide +kernel
theorem dX3_sign_19 : decode cX3_sign 19 = .ok (.ldc2_w 62, 3) := by decide +kernel
theorem dX3_sign_22 : decode cX3_sign 22 = .ok (.ladd, 1) := by decide +kernel
theorem dX3_sign_23 : decode cX3_sign 23 = .ok (.ldc2_w 64, 3) := by decide +kernel
theorem dX3_sign_26 : decode cX3_sign 26 = .ok (.lrem, 1) := by decide +kernel
theorem dX3_sign_27 : decode cX3_sign 27 = .ok (.l2i, 1) := by decide +kernel
theorem dX3_sign_28 : decode cX3_sign 28 = .ok (.ireturn, 1) := by decide +kernel
theorem dX3_seedsOf_0 : decode cX3_seedsOf 0 = .ok (.aload_n 0, 1) := by decide +kernel
theorem dX3_seedsOf_1 : decode cX3_seedsOf 1 = .ok (.iload_n 1, 1) := by decide +kernel
theorem dX3_seedsOf_2 : decode cX3_seedsOf 2 = .ok (.invokevirtual 52, 3) := by decide +kernel
theorem dX3_seedsOf_5 : decode cX3_seedsOf 5 = .ok (.getfield 56, 3) := by decide +kernel
theorem dX3_seedsOf_8 : decode cX3_seedsOf 8 = .ok (.istore_n 2, 1) := by decide +kernel
theorem dX3_seedsOf_9 : decode cX3_seedsOf 9 = .ok (.iload_n 2, 1) := by decide +kernel
theorem dX3_seedsOf_10 : decode cX3_seedsOf 10 = .ok (.sipush 10007, 3) := by decide +kernel
theorem dX3_seedsOf_13 : decode cX3_seedsOf 13 = .ok (.irem, 1) := by decide +kernel
theorem dX3_seedsOf_14 : decode cX3_seedsOf 14 = .ok (.istore_n 3, 1) := by decide +kernel
theorem dX3_seedsOf_15 : decode cX3_seedsOf 15 = .ok (.bipush (-31), 2) := by decide +kernel
theorem dX3_seedsOf_17 : decode cX3_seedsOf 17 = .ok (.iload_n 2, 1) := by decide +kernel
theorem dX3_seedsOf_18 : decode cX3_seedsOf 18 = .ok (.isub, 1) := by decide +kernel
theorem dX3_seedsOf_19 : decode cX3_seedsOf 19 = .ok (.sipush 10007, 3) := by decide +kernel
theorem dX3_seedsOf_22 : decode cX3_seedsOf 22 = .ok (.invokestatic 66, 3) := by decide +kernel
theorem dX3_seedsOf_25 : decode cX3_seedsOf 25 = .ok (.istore 4, 2) := by decide +kernel
theorem dX3_seedsOf_27 : decode cX3_seedsOf 27 = .ok (.iload_n 3, 1) := by decide +kernel
theorem dX3_seedsOf_28 : decode cX3_seedsOf 28 = .ok (.invokestatic 72, 3) := by decide +kernel
theorem dX3_seedsOf_31 : decode cX3_seedsOf 31 = .ok (.istore 5, 2) := by decide +kernel
theorem dX3_seedsOf_33 : decode cX3_seedsOf 33 = .ok (.iload 4, 2) := by decide +kernel
theorem dX3_seedsOf_35 : decode cX3_seedsOf 35 = .ok (.iload_n 3, 1) := by decide +kernel
theorem dX3_seedsOf_36 : decode cX3_seedsOf 36 = .ok (.if_icmp .ne 8, 3) := by decide +kernel
theorem dX3_seedsOf_39 : decode cX3_seedsOf 39 = .ok (.iload 5, 2) := by decide +kernel
theorem dX3_seedsOf_41 : decode cX3_seedsOf 41 = .ok (.goto 11, 3) := by decide +kernel
theorem dX3_seedsOf_44 : decode cX3_seedsOf 44 = .ok (.iload 5, 2) := by decide +kernel
theorem dX3_seedsOf_46 : decode cX3_seedsOf 46 = .ok (.iload 4, 2) := by decide +kernel
theorem dX3_seedsOf_48 : decode cX3_seedsOf 48 = .ok (.invokestatic 72, 3) := by decide +kernel
theorem dX3_seedsOf_51 : decode cX3_seedsOf 51 = .ok (.iadd, 1) := by decide +kernel
theorem dX3_seedsOf_52 : decode cX3_seedsOf 52 = .ok (.ireturn, 1) := by decide +kernel
theorem dX3_open_0 : decode cX3_open 0 = .ok (.aload_n 0, 1) := by decide +kernel
theorem dX3_open_1 : decode cX3_open 1 = .ok (.iload_n 1, 1) := by decide +kernel
theorem dX3_open_2 : decode cX3_open 2 = .ok (.invokevirtual 52, 3) := by decide +kernel
theorem dX3_open_5 : decode cX3_open 5 = .ok (.astore_n 2, 1) := by decide +kernel
theorem dX3_open_6 : decode cX3_open 6 = .ok (.aload_n 2, 1) := by decide +kernel
theorem dX3_open_7 : decode cX3_open 7 = .ok (.getfield 76, 3) := by decide +kernel
theorem dX3_open_10 : decode cX3_open 10 = .ok (.ifCond .eq 13, 3) := by decide +kernel
theorem dX3_open_13 : decode cX3_open 13 = .ok (.new 38, 3) := by decide +kernel
theorem dX3_open_16 : decode cX3_open 16 = .ok (.dup, 1) := by decide +kernel
theorem dX3_open_17 : decode cX3_open 17 = .ok (.ldc 80, 2) := by decide +kernel
theorem dX3_open_19 : decode cX3_open 19 = .ok (.invokespecial 42, 3) := by decide +kernel
theorem dX3_open_22 : decode cX3_open 22 = .ok (.athrow, 1) := by decide +kernel
theorem dX3_open_23 : decode cX3_open 23 = .ok (.aload_n 2, 1) := by decide +kernel
theorem dX3_open_24 : decode cX3_open 24 = .ok (.iconst 1, 1) := by decide +kernel
theorem dX3_open_25 : decode cX3_open 25 = .ok (.putfield 76, 3) := by decide +kernel
theorem dX3_open_28 : decode cX3_open 28 = .ok (.aload_n 2, 1) := by decide +kernel
theorem dX3_open_29 : decode cX3_open 29 = .ok (.getfield 56, 3) := by decide +kernel
theorem dX3_open_32 : decode cX3_open 32 = .ok (.ireturn, 1) := by decide +kernel
theorem dX3_isOpened_0 : decode cX3_isOpened 0 = .ok (.aload_n 0, 1) := by decide +kernel
theorem dX3_isOpened_1 : decode cX3_isOpened 1 = .ok (.iload_n 1, 1) := by decide +kernel
theorem dX3_isOpened_2 : decode cX3_isOpened 2 = .ok (.invokevirtual 52, 3) := by decide +kernel
theorem dX3_isOpened_5 : decode cX3_isOpened 5 = .ok (.getfield 76, 3) := by decide +kernel
theorem dX3_isOpened_8 : decode cX3_isOpened 8 = .ok (.ireturn, 1) := by decide +kernel
theorem dX3_setPart_0 : decode cX3_setPart 0 = .ok (.iload_n 1, 1) := by decide +kernel
theorem dX3_setPart_1 : decode cX3_setPart 1 = .ok (.invokestatic 82, 3) := by decide +kernel
theorem dX3_setPart_4 : decode cX3_setPart 4 = .ok (.iload_n 2, 1) := by decide +kernel
theorem dX3_setPart_5 : decode cX3_setPart 5 = .ok (.ifCond .lt 10, 3) := by decide +kernel
theorem dX3_setPart_8 : decode cX3_setPart 8 = .ok (.iload_n 2, 1) := by decide +kernel
theorem dX3_setPart_9 : decode cX3_setPart 9 = .ok (.sipush 999, 3) := by decide +kernel
theorem dX3_setPart_12 : decode cX3_setPart 12 = .ok (.if_icmp .le 13, 3) := by decide +kernel
theorem dX3_setPart_15 : decode cX3_setPart 15 = .ok (.new 27, 3) := by decide +kernel
theorem dX3_setPart_18 : decode cX3_setPart 18 = .ok (.dup, 1) := by decide +kernel
theorem dX3_setPart_19 : decode cX3_setPart 19 = .ok (.ldc 85, 2) := by decide +kernel
theorem dX3_setPart_21 : decode cX3_setPart 21 = .ok (.invokespecial 31, 3) := by decide +kernel
theorem dX3_setPart_24 : decode cX3_setPart 24 = .ok (.athrow, 1) := by decide +kernel
theorem dX3_setPart_25 : decode cX3_setPart 25 = .ok (.aload_n 0, 1) := by decide +kernel
theorem dX3_setPart_26 : decode cX3_setPart 26 = .ok (.getfield 19, 3) := by decide +kernel
theorem dX3_setPart_29 : decode cX3_setPart 29 = .ok (.iload_n 1, 1) := by decide +kernel
theorem dX3_setPart_30 : decode cX3_setPart 30 = .ok (.iaload, 1) := by decide +kernel
theorem dX3_setPart_31 : decode cX3_setPart 31 = .ok (.istore_n 3, 1) := by decide +kernel
theorem dX3_setPart_32 : decode cX3_setPart 32 = .ok (.aload_n 0, 1) := by decide +kernel
theorem dX3_setPart_33 : decode cX3_setPart 33 = .ok (.getfield 19, 3) := by decide +kernel
theorem dX3_setPart_36 : decode cX3_setPart 36 = .ok (.iload_n 1, 1) := by decide +kernel
theorem dX3_setPart_37 : decode cX3_setPart 37 = .ok (.iload_n 2, 1) := by decide +kernel
theorem dX3_setPart_38 : decode cX3_setPart 38 = .ok (.iastore, 1) := by decide +kernel
theorem dX3_setPart_39 : decode cX3_setPart 39 = .ok (.iload_n 3, 1) := by decide +kernel
theorem dX3_setPart_40 : decode cX3_setPart 40 = .ok (.ireturn, 1) := by decide +kernel
theorem dX3_roll_0 : decode cX3_roll 0 = .ok (.aload_n 0, 1) := by decide +kernel
theorem dX3_roll_1 : decode cX3_roll 1 = .ok (.iload_n 1, 1) := by decide +kernel
theorem dX3_roll_2 : decode cX3_roll 2 = .ok (.invokevirtual 52, 3) := by decide +kernel
theorem dX3_roll_5 : decode cX3_roll 5 = .ok (.astore 4, 2) := by decide +kernel
theorem dX3_roll_7 : decode cX3_roll 7 = .ok (.iload_n 2, 1) := by decide +kernel
theorem dX3_roll_8 : decode cX3_roll 8 = .ok (.invokestatic 82, 3) := by decide +kernel
theorem dX3_roll_11 : decode cX3_roll 11 = .ok (.iload_n 3, 1) := by decide +kernel
theorem dX3_roll_12 : decode cX3_roll 12 = .ok (.invokestatic 87, 3) := by decide +kernel
theorem dX3_roll_15 : decode cX3_roll 15 = .ok (.aload 4, 2) := by decide +kernel
theorem dX3_roll_17 : decode cX3_roll 17 = .ok (.getfield 76, 3) := by decide +kernel
theorem dX3_roll_20 : decode cX3_roll 20 = .ok (.ifCond .eq 13, 3) := by decide +kernel
theorem dX3_roll_23 : decode cX3_roll 23 = .ok (.new 38, 3) := by decide +kernel
theorem dX3_roll_26 : decode cX3_roll 26 = .ok (.dup, 1) := by decide +kernel
theorem dX3_roll_27 : decode cX3_roll 27 = .ok (.ldc 80, 2) := by decide +kernel
theorem dX3_roll_29 : decode cX3_roll 29 = .ok (.invokespecial 42, 3) := by decide +kernel
theorem dX3_roll_32 : decode cX3_roll 32 = .ok (.athrow, 1) := by decide +kernel
theorem dX3_roll_33 : decode cX3_roll 33 = .ok (.aload_n 0, 1) := by decide +kernel
theorem dX3_roll_34 : decode cX3_roll 34 = .ok (.getfield 16, 3) := by decide +kernel
theorem dX3_roll_37 : decode cX3_roll 37 = .ok (.invokevirtual 34, 3) := by decide +kernel
theorem dX3_roll_40 : decode cX3_roll 40 = .ok (.bipush 100, 2) := by decide +kernel
theorem dX3_roll_42 : decode cX3_roll 42 = .ok (.if_icmp .lt 13, 3) := by decide +kernel
theorem dX3_roll_45 : decode cX3_roll 45 = .ok (.new 38, 3) := by decide +kernel
theorem dX3_roll_48 : decode cX3_roll 48 = .ok (.dup, 1) := by decide +kernel
theorem dX3_roll_49 : decode cX3_roll 49 = .ok (.ldc 90, 2) := by decide +kernel
theorem dX3_roll_51 : decode cX3_roll 51 = .ok (.invokespecial 42, 3) := by decide +kernel
theorem dX3_roll_54 : decode cX3_roll 54 = .ok (.athrow, 1) := by decide +kernel
theorem dX3_roll_55 : decode cX3_roll 55 = .ok (.new 92, 3) := by decide +kernel
theorem dX3_roll_58 : decode cX3_roll 58 = .ok (.dup, 1) := by decide +kernel
theorem dX3_roll_59 : decode cX3_roll 59 = .ok (.iload_n 1, 1) := by decide +kernel
theorem dX3_roll_60 : decode cX3_roll 60 = .ok (.iload_n 2, 1) := by decide +kernel
theorem dX3_roll_61 : decode cX3_roll 61 = .ok (.aload_n 0, 1) := by decide +kernel
theorem dX3_roll_62 : decode cX3_roll 62 = .ok (.getfield 19, 3) := by decide +kernel
theorem dX3_roll_65 : decode cX3_roll 65 = .ok (.iload_n 2, 1) := by decide +kernel
theorem dX3_roll_66 : decode cX3_roll 66 = .ok (.iaload, 1) := by decide +kernel
theorem dX3_roll_67 : decode cX3_roll 67 = .ok (.iload_n 3, 1) := by decide +kernel
theorem dX3_roll_68 : decode cX3_roll 68 = .ok (.invokespecial 94, 3) := by decide +kernel
theorem dX3_roll_71 : decode cX3_roll 71 = .ok (.astore 5, 2) := by decide +kernel
theorem dX3_roll_73 : decode cX3_roll 73 = .ok (.aload 5, 2) := by decide +kernel
theorem dX3_roll_75 : decode cX3_roll 75 = .ok (.aload 4, 2) := by decide +kernel
theorem dX3_roll_77 : decode cX3_roll 77 = .ok (.getfield 97, 3) := by decide +kernel
theorem dX3_roll_80 : decode cX3_roll 80 = .ok (.aload 5, 2) := by decide +kernel
theorem dX3_roll_82 : decode cX3_roll 82 = .ok (.getfield 101, 3) := by decide +kernel
theorem dX3_roll_85 : decode cX3_roll 85 = .ok (.iload_n 3, 1) := by decide +kernel
theorem dX3_roll_86 : decode cX3_roll 86 = .ok (.invokevirtual 104, 3) := by decide +kernel
theorem dX3_roll_89 : decode cX3_roll 89 = .ok (.putfield 109, 3) := by decide +kernel
theorem dX3_roll_92 : decode cX3_roll 92 = .ok (.aload 5, 2) := by decide +kernel
theorem dX3_roll_94 : decode cX3_roll 94 = .ok (.aload 4, 2) := by decide +kernel
theorem dX3_roll_96 : decode cX3_roll 96 = .ok (.getfield 97, 3) := by decide +kernel
theorem dX3_roll_99 : decode cX3_roll 99 = .ok (.getfield 112, 3) := by decide +kernel
theorem dX3_roll_102 : decode cX3_roll 102 = .ok (.putfield 115, 3) := by decide +kernel
theorem dX3_roll_105 : decode cX3_roll 105 = .ok (.aload 5, 2) := by decide +kernel
theorem dX3_roll_107 : decode cX3_roll 107 = .ok (.aload 5, 2) := by decide +kernel
theorem dX3_roll_109 : decode cX3_roll 109 = .ok (.aload_n 0, 1) := by decide +kernel
theorem dX3_roll_110 : decode cX3_roll 110 = .ok (.invokevirtual 116, 3) := by decide +kernel
theorem dX3_roll_113 : decode cX3_roll 113 = .ok (.invokevirtual 119, 3) := by decide +kernel
theorem dX3_roll_116 : decode cX3_roll 116 = .ok (.putfield 122, 3) := by decide +kernel
theorem dX3_roll_119 : decode cX3_roll 119 = .ok (.aload_n 0, 1) := by decide +kernel
theorem dX3_roll_120 : decode cX3_roll 120 = .ok (.getfield 16, 3) := by decide +kernel
theorem dX3_roll_123 : decode cX3_roll 123 = .ok (.aload 5, 2) := by decide +kernel
theorem dX3_roll_125 : decode cX3_roll 125 = .ok (.invokevirtual 48, 3) := by decide +kernel
theorem dX3_roll_128 : decode cX3_roll 128 = .ok (.pop, 1) := by decide +kernel
theorem dX3_roll_129 : decode cX3_roll 129 = .ok (.aload 5, 2) := by decide +kernel
theorem dX3_roll_131 : decode cX3_roll 131 = .ok (.getfield 109, 3) := by decide +kernel
theorem dX3_roll_134 : decode cX3_roll 134 = .ok (.ireturn, 1) := by decide +kernel
theorem dX3_entries_0 : decode cX3_entries 0 = .ok (.aload_n 0, 1) := by decide +kernel
theorem dX3_entries_1 : decode cX3_entries 1 = .ok (.getfield 16, 3) := by decide +kernel
theorem dX3_entries_4 : decode cX3_entries 4 = .ok (.invokevirtual 34, 3) := by decide +kernel
theorem dX3_entries_7 : decode cX3_entries 7 = .ok (.ireturn, 1) := by decide +kernel
theorem dX3_value_0 : decode cX3_value 0 = .ok (.aload_n 0, 1) := by decide +kernel
theorem dX3_value_1 : decode cX3_value 1 = .ok (.iload_n 1, 1) := by decide +kernel
theorem dX3_value_2 : decode cX3_value 2 = .ok (.invokevirtual 125, 3) := by decide +kernel
theorem dX3_value_5 : decode cX3_value 5 = .ok (.getfield 109, 3) := by decide +kernel
theorem dX3_value_8 : decode cX3_value 8 = .ok (.ireturn, 1) := by decide +kernel
theorem dX3_rejected_0 : decode cX3_rejected 0 = .ok (.aload_n 0, 1) := by decide +kernel
theorem dX3_rejected_1 : decode cX3_rejected 1 = .ok (.iload_n 1, 1) := by decide +kernel
theorem dX3_rejected_2 : decode cX3_rejected 2 = .ok (.invokevirtual 125, 3) := by decide +kernel
theorem dX3_rejected_5 : decode cX3_rejected 5 = .ok (.getfield 115, 3) := by decide +kernel
theorem dX3_rejected_8 : decode cX3_rejected 8 = .ok (.ireturn, 1) := by decide +kernel
theorem dX3_sum_0 : decode cX3_sum 0 = .ok (.aload_n 0, 1) := by decide +kernel
theorem dX3_sum_1 : decode cX3_sum 1 = .ok (.iload_n 1, 1) := by decide +kernel
theorem dX3_sum_2 : decode cX3_sum 2 = .ok (.invokevirtual 125, 3) := by decide +kernel
theorem dX3_sum_5 : decode cX3_sum 5 = .ok (.getfield 122, 3) := by decide +kernel
theorem dX3_sum_8 : decode cX3_sum 8 = .ok (.ireturn, 1) := by decide +kernel
theorem dX3_alter_0 : decode cX3_alter 0 = .ok (.aload_n 0, 1) := by decide +kernel
theorem dX3_alter_1 : decode cX3_alter 1 = .ok (.iload_n 1, 1) := by decide +kernel
theorem dX3_alter_2 : decode cX3_alter 2 = .ok (.invokevirtual 125, 3) := by decide +kernel
theorem dX3_alter_5 : decode cX3_alter 5 = .ok (.astore_n 3, 1) := by decide +kernel
theorem dX3_alter_6 : decode cX3_alter 6 = .ok (.iload_n 2, 1) := by decide +kernel
theorem dX3_alter_7 : decode cX3_alter 7 = .ok (.aload_n 3, 1) := by decide +kernel
theorem dX3_alter_8 : decode cX3_alter 8 = .ok (.getfield 129, 3) := by decide +kernel
theorem dX3_alter_11 : decode cX3_alter 11 = .ok (.invokestatic 132, 3) := by decide +kernel
theorem dX3_alter_14 : decode cX3_alter 14 = .ok (.aload_n 3, 1) := by decide +kernel
theorem dX3_alter_15 : decode cX3_alter 15 = .ok (.getfield 136, 3) := by decide +kernel
theorem dX3_alter_18 : decode cX3_alter 18 = .ok (.ifCond .eq 13, 3) := by decide +kernel
theorem dX3_alter_21 : decode cX3_alter 21 = .ok (.new 38, 3) := by decide +kernel
theorem dX3_alter_24 : decode cX3_alter 24 = .ok (.dup, 1) := by decide +kernel
theorem dX3_alter_25 : decode cX3_alter 25 = .ok (.ldc 139, 2) := by decide +kernel
theorem dX3_alter_27 : decode cX3_alter 27 = .ok (.invokespecial 42, 3) := by decide +kernel
theorem dX3_alter_30 : decode cX3_alter 30 = .ok (.athrow, 1) := by decide +kernel
theorem dX3_alter_31 : decode cX3_alter 31 = .ok (.aload_n 3, 1) := by decide +kernel
theorem dX3_alter_32 : decode cX3_alter 32 = .ok (.getfield 109, 3) := by decide +kernel
theorem dX3_alter_35 : decode cX3_alter 35 = .ok (.istore 4, 2) := by decide +kernel
theorem dX3_alter_37 : decode cX3_alter 37 = .ok (.aload_n 3, 1) := by decide +kernel
theorem dX3_alter_38 : decode cX3_alter 38 = .ok (.iload_n 2, 1) := by decide +kernel
theorem dX3_alter_39 : decode cX3_alter 39 = .ok (.putfield 109, 3) := by decide +kernel
theorem dX3_alter_42 : decode cX3_alter 42 = .ok (.iload 4, 2) := by decide +kernel
theorem dX3_alter_44 : decode cX3_alter 44 = .ok (.ireturn, 1) := by decide +kernel
theorem dX3_broken_0 : decode cX3_broken 0 = .ok (.bipush 17, 2) := by decide +kernel
theorem dX3_broken_2 : decode cX3_broken 2 = .ok (.istore_n 1, 1) := by decide +kernel
theorem dX3_broken_3 : decode cX3_broken 3 = .ok (.iconst 0, 1) := by decide +kernel
theorem dX3_broken_4 : decode cX3_broken 4 = .ok (.istore_n 2, 1) := by decide +kernel
theorem dX3_broken_5 : decode cX3_broken 5 = .ok (.iload_n 2, 1) := by decide +kernel
theorem dX3_broken_6 : decode cX3_broken 6 = .ok (.aload_n 0, 1) := by decide +kernel
theorem dX3_broken_7 : decode cX3_broken 7 = .ok (.getfield 16, 3) := by decide +kernel
theorem dX3_broken_10 : decode cX3_broken 10 = .ok (.invokevirtual 34, 3) := by decide +kernel
theorem dX3_broken_13 : decode cX3_broken 13 = .ok (.if_icmp .ge 40, 3) := by decide +kernel
theorem dX3_broken_16 : decode cX3_broken 16 = .ok (.aload_n 0, 1) := by decide +kernel
theorem dX3_broken_17 : decode cX3_broken 17 = .ok (.getfield 16, 3) := by decide +kernel
theorem dX3_broken_20 : decode cX3_broken 20 = .ok (.iload_n 2, 1) := by decide +kernel
theorem dX3_broken_21 : decode cX3_broken 21 = .ok (.invokevirtual 141, 3) := by decide +kernel
theorem dX3_broken_24 : decode cX3_broken 24 = .ok (.checkcast 92, 3) := by decide +kernel
theorem dX3_broken_27 : decode cX3_broken 27 = .ok (.astore_n 3, 1) := by decide +kernel
theorem dX3_broken_28 : decode cX3_broken 28 = .ok (.aload_n 3, 1) := by decide +kernel
theorem dX3_broken_29 : decode cX3_broken 29 = .ok (.getfield 122, 3) := by decide +kernel
theorem dX3_broken_32 : decode cX3_broken 32 = .ok (.aload_n 3, 1) := by decide +kernel
theorem dX3_broken_33 : decode cX3_broken 33 = .ok (.iload_n 1, 1) := by decide +kernel
theorem dX3_broken_34 : decode cX3_broken 34 = .ok (.invokevirtual 119, 3) := by decide +kernel
theorem dX3_broken_37 : decode cX3_broken 37 = .ok (.if_icmp .eq 5, 3) := by decide +kernel
theorem dX3_broken_40 : decode cX3_broken 40 = .ok (.iload_n 2, 1) := by decide +kernel
theorem dX3_broken_41 : decode cX3_broken 41 = .ok (.ireturn, 1) := by decide +kernel
theorem dX3_broken_42 : decode cX3_broken 42 = .ok (.aload_n 3, 1) := by decide +kernel
theorem dX3_broken_43 : decode cX3_broken 43 = .ok (.getfield 122, 3) := by decide +kernel
theorem dX3_broken_46 : decode cX3_broken 46 = .ok (.istore_n 1, 1) := by decide +kernel
theorem dX3_broken_47 : decode cX3_broken 47 = .ok (.iinc 2 1, 3) := by decide +kernel
theorem dX3_broken_50 : decode cX3_broken 50 = .ok (.goto (-45), 3) := by decide +kernel
theorem dX3_broken_53 : decode cX3_broken 53 = .ok (.iconst (-1), 1) := by decide +kernel
theorem dX3_broken_54 : decode cX3_broken 54 = .ok (.ireturn, 1) := by decide +kernel
theorem dX3_found_0 : decode cX3_found 0 = .ok (.aload_n 0, 1) := by decide +kernel
theorem dX3_found_1 : decode cX3_found 1 = .ok (.iload_n 1, 1) := by decide +kernel
theorem dX3_found_2 : decode cX3_found 2 = .ok (.invokevirtual 125, 3) := by decide +kernel
theorem dX3_found_5 : decode cX3_found 5 = .ok (.getfield 145, 3) := by decide +kernel
theorem dX3_found_8 : decode cX3_found 8 = .ok (.istore_n 2, 1) := by decide +kernel
theorem dX3_found_9 : decode cX3_found 9 = .ok (.new 105, 3) := by decide +kernel
theorem dX3_found_12 : decode cX3_found 12 = .ok (.dup, 1) := by decide +kernel
theorem dX3_found_13 : decode cX3_found 13 = .ok (.aload_n 0, 1) := by decide +kernel
theorem dX3_found_14 : decode cX3_found 14 = .ok (.iload_n 2, 1) := by decide +kernel
theorem dX3_found_15 : decode cX3_found 15 = .ok (.invokevirtual 148, 3) := by decide +kernel
theorem dX3_found_18 : decode cX3_found 18 = .ok (.getfield 56, 3) := by decide +kernel
theorem dX3_found_21 : decode cX3_found 21 = .ok (.invokespecial 151, 3) := by decide +kernel
theorem dX3_found_24 : decode cX3_found 24 = .ok (.astore_n 3, 1) := by decide +kernel
theorem dX3_found_25 : decode cX3_found 25 = .ok (.iconst (-1), 1) := by decide +kernel
theorem dX3_found_26 : decode cX3_found 26 = .ok (.istore 4, 2) := by decide +kernel
theorem dX3_found_28 : decode cX3_found 28 = .ok (.iconst 0, 1) := by decide +kernel
theorem dX3_found_29 : decode cX3_found 29 = .ok (.istore 5, 2) := by decide +kernel
theorem dX3_found_31 : decode cX3_found 31 = .ok (.iload 5, 2) := by decide +kernel
theorem dX3_found_33 : decode cX3_found 33 = .ok (.iload_n 1, 1) := by decide +kernel
theorem dX3_found_34 : decode cX3_found 34 = .ok (.if_icmp .gt 60, 3) := by decide +kernel
theorem dX3_found_37 : decode cX3_found 37 = .ok (.iload 5, 2) := by decide +kernel
theorem dX3_found_39 : decode cX3_found 39 = .ok (.aload_n 0, 1) := by decide +kernel
theorem dX3_found_40 : decode cX3_found 40 = .ok (.getfield 16, 3) := by decide +kernel
theorem dX3_found_43 : decode cX3_found 43 = .ok (.invokevirtual 34, 3) := by decide +kernel
theorem dX3_found_46 : decode cX3_found 46 = .ok (.if_icmp .ge 48, 3) := by decide +kernel
theorem dX3_found_49 : decode cX3_found 49 = .ok (.aload_n 0, 1) := by decide +kernel
theorem dX3_found_50 : decode cX3_found 50 = .ok (.getfield 16, 3) := by decide +kernel
theorem dX3_found_53 : decode cX3_found 53 = .ok (.iload 5, 2) := by decide +kernel
theorem dX3_found_55 : decode cX3_found 55 = .ok (.invokevirtual 141, 3) := by decide +kernel
theorem dX3_found_58 : decode cX3_found 58 = .ok (.checkcast 92, 3) := by decide +kernel
theorem dX3_found_61 : decode cX3_found 61 = .ok (.astore 6, 2) := by decide +kernel
theorem dX3_found_63 : decode cX3_found 63 = .ok (.aload 6, 2) := by decide +kernel
theorem dX3_found_65 : decode cX3_found 65 = .ok (.getfield 145, 3) := by decide +kernel
theorem dX3_found_68 : decode cX3_found 68 = .ok (.iload_n 2, 1) := by decide +kernel
theorem dX3_found_69 : decode cX3_found 69 = .ok (.if_icmp .ne 19, 3) := by decide +kernel
theorem dX3_found_72 : decode cX3_found 72 = .ok (.aload_n 3, 1) := by decide +kernel
theorem dX3_found_73 : decode cX3_found 73 = .ok (.aload 6, 2) := by decide +kernel
theorem dX3_found_75 : decode cX3_found 75 = .ok (.getfield 101, 3) := by decide +kernel
theorem dX3_found_78 : decode cX3_found 78 = .ok (.aload 6, 2) := by decide +kernel
theorem dX3_found_80 : decode cX3_found 80 = .ok (.getfield 129, 3) := by decide +kernel
theorem dX3_found_83 : decode cX3_found 83 = .ok (.invokevirtual 104, 3) := by decide +kernel
theorem dX3_found_86 : decode cX3_found 86 = .ok (.istore 4, 2) := by decide +kernel
theorem dX3_found_88 : decode cX3_found 88 = .ok (.iinc 5 1, 3) := by decide +kernel
theorem dX3_found_91 : decode cX3_found 91 = .ok (.goto (-60), 3) := by decide +kernel
theorem dX3_found_94 : decode cX3_found 94 = .ok (.iload 4, 2) := by decide +kernel
theorem dX3_found_96 : decode cX3_found 96 = .ok (.ireturn, 1) := by decide +kernel
theorem dX3_wrong_0 : decode cX3_wrong 0 = .ok (.aload_n 0, 1) := by decide +kernel
theorem dX3_wrong_1 : decode cX3_wrong 1 = .ok (.iload_n 1, 1) := by decide +kernel
theorem dX3_wrong_2 : decode cX3_wrong 2 = .ok (.aload_n 0, 1) := by decide +kernel
theorem dX3_wrong_3 : decode cX3_wrong 3 = .ok (.iload_n 1, 1) := by decide +kernel
theorem dX3_wrong_4 : decode cX3_wrong 4 = .ok (.invokevirtual 148, 3) := by decide +kernel
theorem dX3_wrong_7 : decode cX3_wrong 7 = .ok (.getfield 56, 3) := by decide +kernel
theorem dX3_wrong_10 : decode cX3_wrong 10 = .ok (.invokevirtual 152, 3) := by decide +kernel
theorem dX3_wrong_13 : decode cX3_wrong 13 = .ok (.ireturn, 1) := by decide +kernel
theorem dX3_dispute_0 : decode cX3_dispute 0 = .ok (.aload_n 0, 1) := by decide +kernel
theorem dX3_dispute_1 : decode cX3_dispute 1 = .ok (.iload_n 1, 1) := by decide +kernel
theorem dX3_dispute_2 : decode cX3_dispute 2 = .ok (.invokevirtual 148, 3) := by decide +kernel
theorem dX3_dispute_5 : decode cX3_dispute 5 = .ok (.astore_n 2, 1) := by decide +kernel
theorem dX3_dispute_6 : decode cX3_dispute 6 = .ok (.aload_n 2, 1) := by decide +kernel
theorem dX3_dispute_7 : decode cX3_dispute 7 = .ok (.getfield 155, 3) := by decide +kernel
theorem dX3_dispute_10 : decode cX3_dispute 10 = .ok (.ifCond .eq 13, 3) := by decide +kernel
theorem dX3_dispute_13 : decode cX3_dispute 13 = .ok (.new 38, 3) := by decide +kernel
theorem dX3_dispute_16 : decode cX3_dispute 16 = .ok (.dup, 1) := by decide +kernel
theorem dX3_dispute_17 : decode cX3_dispute 17 = .ok (.ldc 158, 2) := by decide +kernel
theorem dX3_dispute_19 : decode cX3_dispute 19 = .ok (.invokespecial 42, 3) := by decide +kernel
theorem dX3_dispute_22 : decode cX3_dispute 22 = .ok (.athrow, 1) := by decide +kernel
theorem dX3_dispute_23 : decode cX3_dispute 23 = .ok (.aload_n 2, 1) := by decide +kernel
theorem dX3_dispute_24 : decode cX3_dispute 24 = .ok (.iconst 1, 1) := by decide +kernel
theorem dX3_dispute_25 : decode cX3_dispute 25 = .ok (.putfield 155, 3) := by decide +kernel
theorem dX3_dispute_28 : decode cX3_dispute 28 = .ok (.aload_n 0, 1) := by decide +kernel
theorem dX3_dispute_29 : decode cX3_dispute 29 = .ok (.iload_n 1, 1) := by decide +kernel
theorem dX3_dispute_30 : decode cX3_dispute 30 = .ok (.aload_n 2, 1) := by decide +kernel
theorem dX3_dispute_31 : decode cX3_dispute 31 = .ok (.getfield 56, 3) := by decide +kernel
theorem dX3_dispute_34 : decode cX3_dispute 34 = .ok (.invokevirtual 152, 3) := by decide +kernel
theorem dX3_dispute_37 : decode cX3_dispute 37 = .ok (.istore_n 3, 1) := by decide +kernel
theorem dX3_dispute_38 : decode cX3_dispute 38 = .ok (.iload_n 3, 1) := by decide +kernel
theorem dX3_dispute_39 : decode cX3_dispute 39 = .ok (.iconst (-1), 1) := by decide +kernel
theorem dX3_dispute_40 : decode cX3_dispute 40 = .ok (.if_icmp .ne 7, 3) := by decide +kernel
theorem dX3_dispute_43 : decode cX3_dispute 43 = .ok (.iconst 0, 1) := by decide +kernel
theorem dX3_dispute_44 : decode cX3_dispute 44 = .ok (.goto 9, 3) := by decide +kernel
theorem dX3_dispute_47 : decode cX3_dispute 47 = .ok (.aload_n 0, 1) := by decide +kernel
theorem dX3_dispute_48 : decode cX3_dispute 48 = .ok (.iload_n 3, 1) := by decide +kernel
theorem dX3_dispute_49 : decode cX3_dispute 49 = .ok (.iload_n 1, 1) := by decide +kernel
theorem dX3_dispute_50 : decode cX3_dispute 50 = .ok (.invokevirtual 160, 3) := by decide +kernel
theorem dX3_dispute_53 : decode cX3_dispute 53 = .ok (.ireturn, 1) := by decide +kernel
theorem dX3_isStruck_0 : decode cX3_isStruck 0 = .ok (.aload_n 0, 1) := by decide +kernel
theorem dX3_isStruck_1 : decode cX3_isStruck 1 = .ok (.iload_n 1, 1) := by decide +kernel
theorem dX3_isStruck_2 : decode cX3_isStruck 2 = .ok (.invokevirtual 125, 3) := by decide +kernel
theorem dX3_isStruck_5 : decode cX3_isStruck 5 = .ok (.getfield 136, 3) := by decide +kernel
theorem dX3_isStruck_8 : decode cX3_isStruck 8 = .ok (.ireturn, 1) := by decide +kernel
theorem dX3_count_0 : decode cX3_count 0 = .ok (.iload_n 1, 1) := by decide +kernel
theorem dX3_count_1 : decode cX3_count 1 = .ok (.invokestatic 87, 3) := by decide +kernel
theorem dX3_count_4 : decode cX3_count 4 = .ok (.iload_n 2, 1) := by decide +kernel
theorem dX3_count_5 : decode cX3_count 5 = .ok (.iload_n 1, 1) := by decide +kernel
theorem dX3_count_6 : decode cX3_count 6 = .ok (.invokestatic 132, 3) := by decide +kernel
theorem dX3_count_9 : decode cX3_count 9 = .ok (.iconst 0, 1) := by decide +kernel
theorem dX3_count_10 : decode cX3_count 10 = .ok (.istore_n 3, 1) := by decide +kernel
theorem dX3_count_11 : decode cX3_count 11 = .ok (.iconst 0, 1) := by decide +kernel
theorem dX3_count_12 : decode cX3_count 12 = .ok (.istore 4, 2) := by decide +kernel
theorem dX3_count_14 : decode cX3_count 14 = .ok (.iload 4, 2) := by decide +kernel
theorem dX3_count_16 : decode cX3_count 16 = .ok (.aload_n 0, 1) := by decide +kernel
theorem dX3_count_17 : decode cX3_count 17 = .ok (.getfield 16, 3) := by decide +kernel
theorem dX3_count_20 : decode cX3_count 20 = .ok (.invokevirtual 34, 3) := by decide +kernel
theorem dX3_count_23 : decode cX3_count 23 = .ok (.if_icmp .ge 44, 3) := by decide +kernel
theorem dX3_count_26 : decode cX3_count 26 = .ok (.aload_n 0, 1) := by decide +kernel
theorem dX3_count_27 : decode cX3_count 27 = .ok (.getfield 16, 3) := by decide +kernel
theorem dX3_count_30 : decode cX3_count 30 = .ok (.iload 4, 2) := by decide +kernel
theorem dX3_count_32 : decode cX3_count 32 = .ok (.invokevirtual 141, 3) := by decide +kernel
theorem dX3_count_35 : decode cX3_count 35 = .ok (.checkcast 92, 3) := by decide +kernel
theorem dX3_count_38 : decode cX3_count 38 = .ok (.astore 5, 2) := by decide +kernel
theorem dX3_count_40 : decode cX3_count 40 = .ok (.aload 5, 2) := by decide +kernel
theorem dX3_count_42 : decode cX3_count 42 = .ok (.iload_n 1, 1) := by decide +kernel
theorem dX3_count_43 : decode cX3_count 43 = .ok (.invokevirtual 163, 3) := by decide +kernel
theorem dX3_count_46 : decode cX3_count 46 = .ok (.ifCond .eq 15, 3) := by decide +kernel
theorem dX3_count_49 : decode cX3_count 49 = .ok (.aload 5, 2) := by decide +kernel
theorem dX3_count_51 : decode cX3_count 51 = .ok (.getfield 109, 3) := by decide +kernel
theorem dX3_count_54 : decode cX3_count 54 = .ok (.iload_n 2, 1) := by decide +kernel
theorem dX3_count_55 : decode cX3_count 55 = .ok (.if_icmp .ne 6, 3) := by decide +kernel
theorem dX3_count_58 : decode cX3_count 58 = .ok (.iinc 3 1, 3) := by decide +kernel
theorem dX3_count_61 : decode cX3_count 61 = .ok (.iinc 4 1, 3) := by decide +kernel
theorem dX3_count_64 : decode cX3_count 64 = .ok (.goto (-50), 3) := by decide +kernel
theorem dX3_count_67 : decode cX3_count 67 = .ok (.iload_n 3, 1) := by decide +kernel
theorem dX3_count_68 : decode cX3_count 68 = .ok (.ireturn, 1) := by decide +kernel
theorem dX3_uneven_0 : decode cX3_uneven 0 = .ok (.iload_n 1, 1) := by decide +kernel
theorem dX3_uneven_1 : decode cX3_uneven 1 = .ok (.invokestatic 87, 3) := by decide +kernel
theorem dX3_uneven_4 : decode cX3_uneven 4 = .ok (.aload_n 0, 1) := by decide +kernel
theorem dX3_uneven_5 : decode cX3_uneven 5 = .ok (.iload_n 1, 1) := by decide +kernel
theorem dX3_uneven_6 : decode cX3_uneven 6 = .ok (.invokevirtual 167, 3) := by decide +kernel
theorem dX3_uneven_9 : decode cX3_uneven 9 = .ok (.istore_n 2, 1) := by decide +kernel
theorem dX3_uneven_10 : decode cX3_uneven 10 = .ok (.lconst 0, 1) := by decide +kernel
theorem dX3_uneven_11 : decode cX3_uneven 11 = .ok (.lstore_n 3, 1) := by decide +kernel
theorem dX3_uneven_12 : decode cX3_uneven 12 = .ok (.iconst 1, 1) := by decide +kernel
theorem dX3_uneven_13 : decode cX3_uneven 13 = .ok (.istore 5, 2) := by decide +kernel
theorem dX3_uneven_15 : decode cX3_uneven 15 = .ok (.iload 5, 2) := by decide +kernel
theorem dX3_uneven_17 : decode cX3_uneven 17 = .ok (.iload_n 1, 1) := by decide +kernel
theorem dX3_uneven_18 : decode cX3_uneven 18 = .ok (.if_icmp .gt 43, 3) := by decide +kernel
theorem dX3_uneven_21 : decode cX3_uneven 21 = .ok (.iload 5, 2) := by decide +kernel
theorem dX3_uneven_23 : decode cX3_uneven 23 = .ok (.aload_n 0, 1) := by decide +kernel
theorem dX3_uneven_24 : decode cX3_uneven 24 = .ok (.getfield 23, 3) := by decide +kernel
theorem dX3_uneven_27 : decode cX3_uneven 27 = .ok (.arraylength, 1) := by decide +kernel
theorem dX3_uneven_28 : decode cX3_uneven 28 = .ok (.if_icmp .ge 33, 3) := by decide +kernel
theorem dX3_uneven_31 : decode cX3_uneven 31 = .ok (.iload_n 1, 1) := by decide +kernel
theorem dX3_uneven_32 : decode cX3_uneven 32 = .ok (.i2l, 1) := by decide +kernel
theorem dX3_uneven_33 : decode cX3_uneven 33 = .ok (.aload_n 0, 1) := by decide +kernel
theorem dX3_uneven_34 : decode cX3_uneven 34 = .ok (.getfield 23, 3) := by decide +kernel
theorem dX3_uneven_37 : decode cX3_uneven 37 = .ok (.iload 5, 2) := by decide +kernel
theorem dX3_uneven_39 : decode cX3_uneven 39 = .ok (.iaload, 1) := by decide +kernel
theorem dX3_uneven_40 : decode cX3_uneven 40 = .ok (.i2l, 1) := by decide +kernel
theorem dX3_uneven_41 : decode cX3_uneven 41 = .ok (.lmul, 1) := by decide +kernel
theorem dX3_uneven_42 : decode cX3_uneven 42 = .ok (.iload_n 2, 1) := by decide +kernel
theorem dX3_uneven_43 : decode cX3_uneven 43 = .ok (.i2l, 1) := by decide +kernel
theorem dX3_uneven_44 : decode cX3_uneven 44 = .ok (.lsub, 1) := by decide +kernel
theorem dX3_uneven_45 : decode cX3_uneven 45 = .ok (.lstore 6, 2) := by decide +kernel
theorem dX3_uneven_47 : decode cX3_uneven 47 = .ok (.lload_n 3, 1) := by decide +kernel
theorem dX3_uneven_48 : decode cX3_uneven 48 = .ok (.lload 6, 2) := by decide +kernel
theorem dX3_uneven_50 : decode cX3_uneven 50 = .ok (.lload 6, 2) := by decide +kernel
theorem dX3_uneven_52 : decode cX3_uneven 52 = .ok (.lmul, 1) := by decide +kernel
theorem dX3_uneven_53 : decode cX3_uneven 53 = .ok (.ladd, 1) := by decide +kernel
theorem dX3_uneven_54 : decode cX3_uneven 54 = .ok (.lstore_n 3, 1) := by decide +kernel
theorem dX3_uneven_55 : decode cX3_uneven 55 = .ok (.iinc 5 1, 3) := by decide +kernel
theorem dX3_uneven_58 : decode cX3_uneven 58 = .ok (.goto (-43), 3) := by decide +kernel
theorem dX3_uneven_61 : decode cX3_uneven 61 = .ok (.lload_n 3, 1) := by decide +kernel
theorem dX3_uneven_62 : decode cX3_uneven 62 = .ok (.lreturn, 1) := by decide +kernel
theorem dX3_total_0 : decode cX3_total 0 = .ok (.iload_n 1, 1) := by decide +kernel
theorem dX3_total_1 : decode cX3_total 1 = .ok (.invokestatic 82, 3) := by decide +kernel
theorem dX3_total_4 : decode cX3_total 4 = .ok (.iconst 0, 1) := by decide +kernel
theorem dX3_total_5 : decode cX3_total 5 = .ok (.istore_n 2, 1) := by decide +kernel
theorem dX3_total_6 : decode cX3_total 6 = .ok (.iconst 0, 1) := by decide +kernel
theorem dX3_total_7 : decode cX3_total 7 = .ok (.istore_n 3, 1) := by decide +kernel
theorem dX3_total_8 : decode cX3_total 8 = .ok (.iload_n 3, 1) := by decide +kernel
theorem dX3_total_9 : decode cX3_total 9 = .ok (.aload_n 0, 1) := by decide +kernel
theorem dX3_total_10 : decode cX3_total 10 = .ok (.getfield 16, 3) := by decide +kernel
theorem dX3_total_13 : decode cX3_total 13 = .ok (.invokevirtual 34, 3) := by decide +kernel
theorem dX3_total_16 : decode cX3_total 16 = .ok (.if_icmp .ge 47, 3) := by decide +kernel
theorem dX3_total_19 : decode cX3_total 19 = .ok (.aload_n 0, 1) := by decide +kernel
theorem dX3_total_20 : decode cX3_total 20 = .ok (.getfield 16, 3) := by decide +kernel
theorem dX3_total_23 : decode cX3_total 23 = .ok (.iload_n 3, 1) := by decide +kernel
theorem dX3_total_24 : decode cX3_total 24 = .ok (.invokevirtual 141, 3) := by decide +kernel
theorem dX3_total_27 : decode cX3_total 27 = .ok (.checkcast 92, 3) := by decide +kernel
theorem dX3_total_30 : decode cX3_total 30 = .ok (.astore 4, 2) := by decide +kernel
theorem dX3_total_32 : decode cX3_total 32 = .ok (.aload 4, 2) := by decide +kernel
theorem dX3_total_34 : decode cX3_total 34 = .ok (.getfield 170, 3) := by decide +kernel
theorem dX3_total_37 : decode cX3_total 37 = .ok (.iload_n 1, 1) := by decide +kernel
theorem dX3_total_38 : decode cX3_total 38 = .ok (.if_icmp .ne 19, 3) := by decide +kernel
theorem dX3_total_41 : decode cX3_total 41 = .ok (.aload 4, 2) := by decide +kernel
theorem dX3_total_43 : decode cX3_total 43 = .ok (.getfield 136, 3) := by decide +kernel
theorem dX3_total_46 : decode cX3_total 46 = .ok (.ifCond .ne 11, 3) := by decide +kernel
theorem dX3_total_49 : decode cX3_total 49 = .ok (.iload_n 2, 1) := by decide +kernel
theorem dX3_total_50 : decode cX3_total 50 = .ok (.aload 4, 2) := by decide +kernel
theorem dX3_total_52 : decode cX3_total 52 = .ok (.getfield 109, 3) := by decide +kernel
theorem dX3_total_55 : decode cX3_total 55 = .ok (.iadd, 1) := by decide +kernel
theorem dX3_total_56 : decode cX3_total 56 = .ok (.istore_n 2, 1) := by decide +kernel
theorem dX3_total_57 : decode cX3_total 57 = .ok (.iinc 3 1, 3) := by decide +kernel
theorem dX3_total_60 : decode cX3_total 60 = .ok (.goto (-52), 3) := by decide +kernel
theorem dX3_total_63 : decode cX3_total 63 = .ok (.iload_n 2, 1) := by decide +kernel
theorem dX3_total_64 : decode cX3_total 64 = .ok (.ireturn, 1) := by decide +kernel
theorem dX3_promiseAt_0 : decode cX3_promiseAt 0 = .ok (.iload_n 1, 1) := by decide +kernel
theorem dX3_promiseAt_1 : decode cX3_promiseAt 1 = .ok (.ifCond .lt 14, 3) := by decide +kernel
theorem dX3_promiseAt_4 : decode cX3_promiseAt 4 = .ok (.iload_n 1, 1) := by decide +kernel
theorem dX3_promiseAt_5 : decode cX3_promiseAt 5 = .ok (.aload_n 0, 1) := by decide +kernel
theorem dX3_promiseAt_6 : decode cX3_promiseAt 6 = .ok (.getfield 10, 3) := by decide +kernel
theorem dX3_promiseAt_9 : decode cX3_promiseAt 9 = .ok (.invokevirtual 34, 3) := by decide +kernel
theorem dX3_promiseAt_12 : decode cX3_promiseAt 12 = .ok (.if_icmp .lt 13, 3) := by decide +kernel
theorem dX3_promiseAt_15 : decode cX3_promiseAt 15 = .ok (.new 173, 3) := by decide +kernel
theorem dX3_promiseAt_18 : decode cX3_promiseAt 18 = .ok (.dup, 1) := by decide +kernel
theorem dX3_promiseAt_19 : decode cX3_promiseAt 19 = .ok (.ldc 175, 2) := by decide +kernel
theorem dX3_promiseAt_21 : decode cX3_promiseAt 21 = .ok (.invokespecial 177, 3) := by decide +kernel
theorem dX3_promiseAt_24 : decode cX3_promiseAt 24 = .ok (.athrow, 1) := by decide +kernel
theorem dX3_promiseAt_25 : decode cX3_promiseAt 25 = .ok (.aload_n 0, 1) := by decide +kernel
theorem dX3_promiseAt_26 : decode cX3_promiseAt 26 = .ok (.getfield 10, 3) := by decide +kernel
theorem dX3_promiseAt_29 : decode cX3_promiseAt 29 = .ok (.iload_n 1, 1) := by decide +kernel
theorem dX3_promiseAt_30 : decode cX3_promiseAt 30 = .ok (.invokevirtual 141, 3) := by decide +kernel
theorem dX3_promiseAt_33 : decode cX3_promiseAt 33 = .ok (.checkcast 43, 3) := by decide +kernel
theorem dX3_promiseAt_36 : decode cX3_promiseAt 36 = .ok (.areturn, 1) := by decide +kernel
theorem dX3_openedAt_0 : decode cX3_openedAt 0 = .ok (.aload_n 0, 1) := by decide +kernel
theorem dX3_openedAt_1 : decode cX3_openedAt 1 = .ok (.iload_n 1, 1) := by decide +kernel
theorem dX3_openedAt_2 : decode cX3_openedAt 2 = .ok (.invokevirtual 52, 3) := by decide +kernel
theorem dX3_openedAt_5 : decode cX3_openedAt 5 = .ok (.astore_n 2, 1) := by decide +kernel
theorem dX3_openedAt_6 : decode cX3_openedAt 6 = .ok (.aload_n 2, 1) := by decide +kernel
theorem dX3_openedAt_7 : decode cX3_openedAt 7 = .ok (.getfield 76, 3) := by decide +kernel
theorem dX3_openedAt_10 : decode cX3_openedAt 10 = .ok (.ifCond .ne 13, 3) := by decide +kernel
theorem dX3_openedAt_13 : decode cX3_openedAt 13 = .ok (.new 38, 3) := by decide +kernel
theorem dX3_openedAt_16 : decode cX3_openedAt 16 = .ok (.dup, 1) := by decide +kernel
theorem dX3_openedAt_17 : decode cX3_openedAt 17 = .ok (.ldc 178, 2) := by decide +kernel
theorem dX3_openedAt_19 : decode cX3_openedAt 19 = .ok (.invokespecial 42, 3) := by decide +kernel
theorem dX3_openedAt_22 : decode cX3_openedAt 22 = .ok (.athrow, 1) := by decide +kernel
theorem dX3_openedAt_23 : decode cX3_openedAt 23 = .ok (.aload_n 2, 1) := by decide +kernel
theorem dX3_openedAt_24 : decode cX3_openedAt 24 = .ok (.areturn, 1) := by decide +kernel
theorem dX3_entryAt_0 : decode cX3_entryAt 0 = .ok (.iload_n 1, 1) := by decide +kernel
theorem dX3_entryAt_1 : decode cX3_entryAt 1 = .ok (.ifCond .lt 14, 3) := by decide +kernel
theorem dX3_entryAt_4 : decode cX3_entryAt 4 = .ok (.iload_n 1, 1) := by decide +kernel
theorem dX3_entryAt_5 : decode cX3_entryAt 5 = .ok (.aload_n 0, 1) := by decide +kernel
theorem dX3_entryAt_6 : decode cX3_entryAt 6 = .ok (.getfield 16, 3) := by decide +kernel
theorem dX3_entryAt_9 : decode cX3_entryAt 9 = .ok (.invokevirtual 34, 3) := by decide +kernel
theorem dX3_entryAt_12 : decode cX3_entryAt 12 = .ok (.if_icmp .lt 13, 3) := by decide +kernel
theorem dX3_entryAt_15 : decode cX3_entryAt 15 = .ok (.new 173, 3) := by decide +kernel
theorem dX3_entryAt_18 : decode cX3_entryAt 18 = .ok (.dup, 1) := by decide +kernel
theorem dX3_entryAt_19 : decode cX3_entryAt 19 = .ok (.ldc 180, 2) := by decide +kernel
theorem dX3_entryAt_21 : decode cX3_entryAt 21 = .ok (.invokespecial 177, 3) := by decide +kernel
theorem dX3_entryAt_24 : decode cX3_entryAt 24 = .ok (.athrow, 1) := by decide +kernel
theorem dX3_entryAt_25 : decode cX3_entryAt 25 = .ok (.aload_n 0, 1) := by decide +kernel
theorem dX3_entryAt_26 : decode cX3_entryAt 26 = .ok (.getfield 16, 3) := by decide +kernel
theorem dX3_entryAt_29 : decode cX3_entryAt 29 = .ok (.iload_n 1, 1) := by decide +kernel
theorem dX3_entryAt_30 : decode cX3_entryAt 30 = .ok (.invokevirtual 141, 3) := by decide +kernel
theorem dX3_entryAt_33 : decode cX3_entryAt 33 = .ok (.checkcast 92, 3) := by decide +kernel
theorem dX3_entryAt_36 : decode cX3_entryAt 36 = .ok (.areturn, 1) := by decide +kernel
theorem dX3_requireTable_0 : decode cX3_requireTable 0 = .ok (.iload_n 0, 1) := by decide +kernel
theorem dX3_requireTable_1 : decode cX3_requireTable 1 = .ok (.ifCond .lt 8, 3) := by decide +kernel
theorem dX3_requireTable_4 : decode cX3_requireTable 4 = .ok (.iload_n 0, 1) := by decide +kernel
theorem dX3_requireTable_5 : decode cX3_requireTable 5 = .ok (.iconst 4, 1) := by decide +kernel
theorem dX3_requireTable_6 : decode cX3_requireTable 6 = .ok (.if_icmp .lt 13, 3) := by decide +kernel
theorem dX3_requireTable_9 : decode cX3_requireTable 9 = .ok (.new 173, 3) := by decide +kernel
theorem dX3_requireTable_12 : decode cX3_requireTable 12 = .ok (.dup, 1) := by decide +kernel
theorem dX3_requireTable_13 : decode cX3_requireTable 13 = .ok (.ldc 182, 2) := by decide +kernel
theorem dX3_requireTable_15 : decode cX3_requireTable 15 = .ok (.invokespecial 177, 3) := by decide +kernel
theorem dX3_requireTable_18 : decode cX3_requireTable 18 = .ok (.athrow, 1) := by decide +kernel
theorem dX3_requireTable_19 : decode cX3_requireTable 19 = .ok (.return_, 1) := by decide +kernel
theorem dX3_requireFaces_0 : decode cX3_requireFaces 0 = .ok (.iload_n 0, 1) := by decide +kernel
theorem dX3_requireFaces_1 : decode cX3_requireFaces 1 = .ok (.iconst 2, 1) := by decide +kernel
theorem dX3_requireFaces_2 : decode cX3_requireFaces 2 = .ok (.if_icmp .lt 10, 3) := by decide +kernel
theorem dX3_requireFaces_5 : decode cX3_requireFaces 5 = .ok (.iload_n 0, 1) := by decide +kernel
theorem dX3_requireFaces_6 : decode cX3_requireFaces 6 = .ok (.sipush 1000, 3) := by decide +kernel
theorem dX3_requireFaces_9 : decode cX3_requireFaces 9 = .ok (.if_icmp .le 13, 3) := by decide +kernel
theorem dX3_requireFaces_12 : decode cX3_requireFaces 12 = .ok (.new 27, 3) := by decide +kernel
theorem dX3_requireFaces_15 : decode cX3_requireFaces 15 = .ok (.dup, 1) := by decide +kernel
theorem dX3_requireFaces_16 : decode cX3_requireFaces 16 = .ok (.ldc 184, 2) := by decide +kernel
theorem dX3_requireFaces_18 : decode cX3_requireFaces 18 = .ok (.invokespecial 31, 3) := by decide +kernel
theorem dX3_requireFaces_21 : decode cX3_requireFaces 21 = .ok (.athrow, 1) := by decide +kernel
theorem dX3_requireFaces_22 : decode cX3_requireFaces 22 = .ok (.return_, 1) := by decide +kernel
theorem dX3_requireValue_0 : decode cX3_requireValue 0 = .ok (.iload_n 0, 1) := by decide +kernel
theorem dX3_requireValue_1 : decode cX3_requireValue 1 = .ok (.iconst 1, 1) := by decide +kernel
theorem dX3_requireValue_2 : decode cX3_requireValue 2 = .ok (.if_icmp .lt 8, 3) := by decide +kernel
theorem dX3_requireValue_5 : decode cX3_requireValue 5 = .ok (.iload_n 0, 1) := by decide +kernel
theorem dX3_requireValue_6 : decode cX3_requireValue 6 = .ok (.iload_n 1, 1) := by decide +kernel
theorem dX3_requireValue_7 : decode cX3_requireValue 7 = .ok (.if_icmp .le 13, 3) := by decide +kernel
theorem dX3_requireValue_10 : decode cX3_requireValue 10 = .ok (.new 27, 3) := by decide +kernel
theorem dX3_requireValue_13 : decode cX3_requireValue 13 = .ok (.dup, 1) := by decide +kernel
theorem dX3_requireValue_14 : decode cX3_requireValue 14 = .ok (.ldc 186, 2) := by decide +kernel
theorem dX3_requireValue_16 : decode cX3_requireValue 16 = .ok (.invokespecial 31, 3) := by decide +kernel
theorem dX3_requireValue_19 : decode cX3_requireValue 19 = .ok (.athrow, 1) := by decide +kernel
theorem dX3_requireValue_20 : decode cX3_requireValue 20 = .ok (.return_, 1) := by decide +kernel
theorem dX3_seedsWithRemainder_0 : decode cX3_seedsWithRemainder 0 = .ok (.ldc 188, 2) := by decide +kernel
end
section
theorem dX3_seedsWithRemainder_2 : decode cX3_seedsWithRemainder 2 = .ok (.iload_n 0, 1) := by decide +kernel
theorem dX3_seedsWithRemainder_3 : decode cX3_seedsWithRemainder 3 = .ok (.isub, 1) := by decide +kernel
theorem dX3_seedsWithRemainder_4 : decode cX3_seedsWithRemainder 4 = .ok (.sipush 10007, 3) := by decide +kernel
theorem dX3_seedsWithRemainder_7 : decode cX3_seedsWithRemainder 7 = .ok (.idiv, 1) := by decide +kernel
theorem dX3_seedsWithRemainder_8 : decode cX3_seedsWithRemainder 8 = .ok (.iconst 1, 1) := by decide +kernel
theorem dX3_seedsWithRemainder_9 : decode cX3_seedsWithRemainder 9 = .ok (.iadd, 1) := by decide +kernel
theorem dX3_seedsWithRemainder_10 : decode cX3_seedsWithRemainder 10 = .ok (.ireturn, 1) := by decide +kernel
theorem dX3_lastSum_0 : decode cX3_lastSum 0 = .ok (.aload_n 0, 1) := by decide +kernel
theorem dX3_lastSum_1 : decode cX3_lastSum 1 = .ok (.getfield 16, 3) := by decide +kernel
theorem dX3_lastSum_4 : decode cX3_lastSum 4 = .ok (.invokevirtual 189, 3) := by decide +kernel
theorem dX3_lastSum_7 : decode cX3_lastSum 7 = .ok (.ifCond .eq 8, 3) := by decide +kernel
theorem dX3_lastSum_10 : decode cX3_lastSum 10 = .ok (.bipush 17, 2) := by decide +kernel
theorem dX3_lastSum_12 : decode cX3_lastSum 12 = .ok (.goto 25, 3) := by decide +kernel
theorem dX3_lastSum_15 : decode cX3_lastSum 15 = .ok (.aload_n 0, 1) := by decide +kernel
theorem dX3_lastSum_16 : decode cX3_lastSum 16 = .ok (.getfield 16, 3) := by decide +kernel
theorem dX3_lastSum_19 : decode cX3_lastSum 19 = .ok (.aload_n 0, 1) := by decide +kernel
theorem dX3_lastSum_20 : decode cX3_lastSum 20 = .ok (.getfield 16, 3) := by decide +kernel
theorem dX3_lastSum_23 : decode cX3_lastSum 23 = .ok (.invokevirtual 34, 3) := by decide +kernel
theorem dX3_lastSum_26 : decode cX3_lastSum 26 = .ok (.iconst 1, 1) := by decide +kernel
theorem dX3_lastSum_27 : decode cX3_lastSum 27 = .ok (.isub, 1) := by decide +kernel
theorem dX3_lastSum_28 : decode cX3_lastSum 28 = .ok (.invokevirtual 141, 3) := by decide +kernel
theorem dX3_lastSum_31 : decode cX3_lastSum 31 = .ok (.checkcast 92, 3) := by decide +kernel
theorem dX3_lastSum_34 : decode cX3_lastSum 34 = .ok (.getfield 122, 3) := by decide +kernel
theorem dX3_lastSum_37 : decode cX3_lastSum 37 = .ok (.ireturn, 1) := by decide +kernel
theorem dX3_firstWrong_0 : decode cX3_firstWrong 0 = .ok (.new 105, 3) := by decide +kernel
theorem dX3_firstWrong_3 : decode cX3_firstWrong 3 = .ok (.dup, 1) := by decide +kernel
theorem dX3_firstWrong_4 : decode cX3_firstWrong 4 = .ok (.iload_n 2, 1) := by decide +kernel
theorem dX3_firstWrong_5 : decode cX3_firstWrong 5 = .ok (.invokespecial 151, 3) := by decide +kernel
theorem dX3_firstWrong_8 : decode cX3_firstWrong 8 = .ok (.astore_n 3, 1) := by decide +kernel
theorem dX3_firstWrong_9 : decode cX3_firstWrong 9 = .ok (.iconst 0, 1) := by decide +kernel
theorem dX3_firstWrong_10 : decode cX3_firstWrong 10 = .ok (.istore 4, 2) := by decide +kernel
theorem dX3_firstWrong_12 : decode cX3_firstWrong 12 = .ok (.iload 4, 2) := by decide +kernel
theorem dX3_firstWrong_14 : decode cX3_firstWrong 14 = .ok (.aload_n 0, 1) := by decide +kernel
theorem dX3_firstWrong_15 : decode cX3_firstWrong 15 = .ok (.getfield 16, 3) := by decide +kernel
theorem dX3_firstWrong_18 : decode cX3_firstWrong 18 = .ok (.invokevirtual 34, 3) := by decide +kernel
theorem dX3_firstWrong_21 : decode cX3_firstWrong 21 = .ok (.if_icmp .ge 57, 3) := by decide +kernel
theorem dX3_firstWrong_24 : decode cX3_firstWrong 24 = .ok (.aload_n 0, 1) := by decide +kernel
theorem dX3_firstWrong_25 : decode cX3_firstWrong 25 = .ok (.getfield 16, 3) := by decide +kernel
theorem dX3_firstWrong_28 : decode cX3_firstWrong 28 = .ok (.iload 4, 2) := by decide +kernel
theorem dX3_firstWrong_30 : decode cX3_firstWrong 30 = .ok (.invokevirtual 141, 3) := by decide +kernel
theorem dX3_firstWrong_33 : decode cX3_firstWrong 33 = .ok (.checkcast 92, 3) := by decide +kernel
theorem dX3_firstWrong_36 : decode cX3_firstWrong 36 = .ok (.astore 5, 2) := by decide +kernel
theorem dX3_firstWrong_38 : decode cX3_firstWrong 38 = .ok (.aload 5, 2) := by decide +kernel
theorem dX3_firstWrong_40 : decode cX3_firstWrong 40 = .ok (.getfield 145, 3) := by decide +kernel
theorem dX3_firstWrong_43 : decode cX3_firstWrong 43 = .ok (.iload_n 1, 1) := by decide +kernel
theorem dX3_firstWrong_44 : decode cX3_firstWrong 44 = .ok (.if_icmp .ne 28, 3) := by decide +kernel
theorem dX3_firstWrong_47 : decode cX3_firstWrong 47 = .ok (.aload 5, 2) := by decide +kernel
theorem dX3_firstWrong_49 : decode cX3_firstWrong 49 = .ok (.getfield 109, 3) := by decide +kernel
theorem dX3_firstWrong_52 : decode cX3_firstWrong 52 = .ok (.aload_n 3, 1) := by decide +kernel
theorem dX3_firstWrong_53 : decode cX3_firstWrong 53 = .ok (.aload 5, 2) := by decide +kernel
theorem dX3_firstWrong_55 : decode cX3_firstWrong 55 = .ok (.getfield 101, 3) := by decide +kernel
theorem dX3_firstWrong_58 : decode cX3_firstWrong 58 = .ok (.aload 5, 2) := by decide +kernel
theorem dX3_firstWrong_60 : decode cX3_firstWrong 60 = .ok (.getfield 129, 3) := by decide +kernel
theorem dX3_firstWrong_63 : decode cX3_firstWrong 63 = .ok (.invokevirtual 104, 3) := by decide +kernel
theorem dX3_firstWrong_66 : decode cX3_firstWrong 66 = .ok (.if_icmp .eq 6, 3) := by decide +kernel
theorem dX3_firstWrong_69 : decode cX3_firstWrong 69 = .ok (.iload 4, 2) := by decide +kernel
theorem dX3_firstWrong_71 : decode cX3_firstWrong 71 = .ok (.ireturn, 1) := by decide +kernel
theorem dX3_firstWrong_72 : decode cX3_firstWrong 72 = .ok (.iinc 4 1, 3) := by decide +kernel
theorem dX3_firstWrong_75 : decode cX3_firstWrong 75 = .ok (.goto (-63), 3) := by decide +kernel
theorem dX3_firstWrong_78 : decode cX3_firstWrong 78 = .ok (.iconst (-1), 1) := by decide +kernel
theorem dX3_firstWrong_79 : decode cX3_firstWrong 79 = .ok (.ireturn, 1) := by decide +kernel
theorem dX3_strikeFrom_0 : decode cX3_strikeFrom 0 = .ok (.iconst 0, 1) := by decide +kernel
theorem dX3_strikeFrom_1 : decode cX3_strikeFrom 1 = .ok (.istore_n 3, 1) := by decide +kernel
theorem dX3_strikeFrom_2 : decode cX3_strikeFrom 2 = .ok (.iload_n 1, 1) := by decide +kernel
theorem dX3_strikeFrom_3 : decode cX3_strikeFrom 3 = .ok (.iconst 0, 1) := by decide +kernel
theorem dX3_strikeFrom_4 : decode cX3_strikeFrom 4 = .ok (.invokestatic 193, 3) := by decide +kernel
theorem dX3_strikeFrom_7 : decode cX3_strikeFrom 7 = .ok (.istore 4, 2) := by decide +kernel
theorem dX3_strikeFrom_9 : decode cX3_strikeFrom 9 = .ok (.iload 4, 2) := by decide +kernel
theorem dX3_strikeFrom_11 : decode cX3_strikeFrom 11 = .ok (.aload_n 0, 1) := by decide +kernel
theorem dX3_strikeFrom_12 : decode cX3_strikeFrom 12 = .ok (.getfield 16, 3) := by decide +kernel
theorem dX3_strikeFrom_15 : decode cX3_strikeFrom 15 = .ok (.invokevirtual 34, 3) := by decide +kernel
theorem dX3_strikeFrom_18 : decode cX3_strikeFrom 18 = .ok (.if_icmp .ge 41, 3) := by decide +kernel
theorem dX3_strikeFrom_21 : decode cX3_strikeFrom 21 = .ok (.aload_n 0, 1) := by decide +kernel
theorem dX3_strikeFrom_22 : decode cX3_strikeFrom 22 = .ok (.getfield 16, 3) := by decide +kernel
theorem dX3_strikeFrom_25 : decode cX3_strikeFrom 25 = .ok (.iload 4, 2) := by decide +kernel
theorem dX3_strikeFrom_27 : decode cX3_strikeFrom 27 = .ok (.invokevirtual 141, 3) := by decide +kernel
theorem dX3_strikeFrom_30 : decode cX3_strikeFrom 30 = .ok (.checkcast 92, 3) := by decide +kernel
theorem dX3_strikeFrom_33 : decode cX3_strikeFrom 33 = .ok (.astore 5, 2) := by decide +kernel
theorem dX3_strikeFrom_35 : decode cX3_strikeFrom 35 = .ok (.aload 5, 2) := by decide +kernel
theorem dX3_strikeFrom_37 : decode cX3_strikeFrom 37 = .ok (.getfield 145, 3) := by decide +kernel
theorem dX3_strikeFrom_40 : decode cX3_strikeFrom 40 = .ok (.iload_n 2, 1) := by decide +kernel
theorem dX3_strikeFrom_41 : decode cX3_strikeFrom 41 = .ok (.if_icmp .ne 12, 3) := by decide +kernel
theorem dX3_strikeFrom_44 : decode cX3_strikeFrom 44 = .ok (.aload 5, 2) := by decide +kernel
theorem dX3_strikeFrom_46 : decode cX3_strikeFrom 46 = .ok (.iconst 1, 1) := by decide +kernel
theorem dX3_strikeFrom_47 : decode cX3_strikeFrom 47 = .ok (.putfield 136, 3) := by decide +kernel
theorem dX3_strikeFrom_50 : decode cX3_strikeFrom 50 = .ok (.iinc 3 1, 3) := by decide +kernel
theorem dX3_strikeFrom_53 : decode cX3_strikeFrom 53 = .ok (.iinc 4 1, 3) := by decide +kernel
theorem dX3_strikeFrom_56 : decode cX3_strikeFrom 56 = .ok (.goto (-47), 3) := by decide +kernel
theorem dX3_strikeFrom_59 : decode cX3_strikeFrom 59 = .ok (.iload_n 3, 1) := by decide +kernel
theorem dX3_strikeFrom_60 : decode cX3_strikeFrom 60 = .ok (.ireturn, 1) := by decide +kernel
theorem dX3_tallyValues_0 : decode cX3_tallyValues 0 = .ok (.aload_n 0, 1) := by decide +kernel
theorem dX3_tallyValues_1 : decode cX3_tallyValues 1 = .ok (.getfield 23, 3) := by decide +kernel
theorem dX3_tallyValues_4 : decode cX3_tallyValues 4 = .ok (.iconst 0, 1) := by decide +kernel
theorem dX3_tallyValues_5 : decode cX3_tallyValues 5 = .ok (.invokestatic 196, 3) := by decide +kernel
theorem dX3_tallyValues_8 : decode cX3_tallyValues 8 = .ok (.iconst 0, 1) := by decide +kernel
theorem dX3_tallyValues_9 : decode cX3_tallyValues 9 = .ok (.istore_n 2, 1) := by decide +kernel
theorem dX3_tallyValues_10 : decode cX3_tallyValues 10 = .ok (.iconst 0, 1) := by decide +kernel
theorem dX3_tallyValues_11 : decode cX3_tallyValues 11 = .ok (.istore_n 3, 1) := by decide +kernel
theorem dX3_tallyValues_12 : decode cX3_tallyValues 12 = .ok (.iload_n 3, 1) := by decide +kernel
theorem dX3_tallyValues_13 : decode cX3_tallyValues 13 = .ok (.aload_n 0, 1) := by decide +kernel
theorem dX3_tallyValues_14 : decode cX3_tallyValues 14 = .ok (.getfield 16, 3) := by decide +kernel
theorem dX3_tallyValues_17 : decode cX3_tallyValues 17 = .ok (.invokevirtual 34, 3) := by decide +kernel
theorem dX3_tallyValues_20 : decode cX3_tallyValues 20 = .ok (.if_icmp .ge 69, 3) := by decide +kernel
theorem dX3_tallyValues_23 : decode cX3_tallyValues 23 = .ok (.aload_n 0, 1) := by decide +kernel
theorem dX3_tallyValues_24 : decode cX3_tallyValues 24 = .ok (.getfield 16, 3) := by decide +kernel
theorem dX3_tallyValues_27 : decode cX3_tallyValues 27 = .ok (.iload_n 3, 1) := by decide +kernel
theorem dX3_tallyValues_28 : decode cX3_tallyValues 28 = .ok (.invokevirtual 141, 3) := by decide +kernel
theorem dX3_tallyValues_31 : decode cX3_tallyValues 31 = .ok (.checkcast 92, 3) := by decide +kernel
theorem dX3_tallyValues_34 : decode cX3_tallyValues 34 = .ok (.astore 4, 2) := by decide +kernel
theorem dX3_tallyValues_36 : decode cX3_tallyValues 36 = .ok (.aload 4, 2) := by decide +kernel
theorem dX3_tallyValues_38 : decode cX3_tallyValues 38 = .ok (.iload_n 1, 1) := by decide +kernel
theorem dX3_tallyValues_39 : decode cX3_tallyValues 39 = .ok (.invokevirtual 163, 3) := by decide +kernel
theorem dX3_tallyValues_42 : decode cX3_tallyValues 42 = .ok (.ifCond .eq 41, 3) := by decide +kernel
theorem dX3_tallyValues_45 : decode cX3_tallyValues 45 = .ok (.aload 4, 2) := by decide +kernel
theorem dX3_tallyValues_47 : decode cX3_tallyValues 47 = .ok (.getfield 109, 3) := by decide +kernel
theorem dX3_tallyValues_50 : decode cX3_tallyValues 50 = .ok (.ifCond .lt 33, 3) := by decide +kernel
theorem dX3_tallyValues_53 : decode cX3_tallyValues 53 = .ok (.aload 4, 2) := by decide +kernel
theorem dX3_tallyValues_55 : decode cX3_tallyValues 55 = .ok (.getfield 109, 3) := by decide +kernel
theorem dX3_tallyValues_58 : decode cX3_tallyValues 58 = .ok (.aload_n 0, 1) := by decide +kernel
theorem dX3_tallyValues_59 : decode cX3_tallyValues 59 = .ok (.getfield 23, 3) := by decide +kernel
theorem dX3_tallyValues_62 : decode cX3_tallyValues 62 = .ok (.arraylength, 1) := by decide +kernel
theorem dX3_tallyValues_63 : decode cX3_tallyValues 63 = .ok (.if_icmp .ge 20, 3) := by decide +kernel
theorem dX3_tallyValues_66 : decode cX3_tallyValues 66 = .ok (.aload_n 0, 1) := by decide +kernel
theorem dX3_tallyValues_67 : decode cX3_tallyValues 67 = .ok (.getfield 23, 3) := by decide +kernel
theorem dX3_tallyValues_70 : decode cX3_tallyValues 70 = .ok (.aload 4, 2) := by decide +kernel
theorem dX3_tallyValues_72 : decode cX3_tallyValues 72 = .ok (.getfield 109, 3) := by decide +kernel
theorem dX3_tallyValues_75 : decode cX3_tallyValues 75 = .ok (.dup2, 1) := by decide +kernel
theorem dX3_tallyValues_76 : decode cX3_tallyValues 76 = .ok (.iaload, 1) := by decide +kernel
theorem dX3_tallyValues_77 : decode cX3_tallyValues 77 = .ok (.iconst 1, 1) := by decide +kernel
theorem dX3_tallyValues_78 : decode cX3_tallyValues 78 = .ok (.iadd, 1) := by decide +kernel
theorem dX3_tallyValues_79 : decode cX3_tallyValues 79 = .ok (.iastore, 1) := by decide +kernel
theorem dX3_tallyValues_80 : decode cX3_tallyValues 80 = .ok (.iinc 2 1, 3) := by decide +kernel
theorem dX3_tallyValues_83 : decode cX3_tallyValues 83 = .ok (.iinc 3 1, 3) := by decide +kernel
theorem dX3_tallyValues_86 : decode cX3_tallyValues 86 = .ok (.goto (-74), 3) := by decide +kernel
theorem dX3_tallyValues_89 : decode cX3_tallyValues 89 = .ok (.iload_n 2, 1) := by decide +kernel
theorem dX3_tallyValues_90 : decode cX3_tallyValues 90 = .ok (.ireturn, 1) := by decide +kernel
theorem dJ9_floorMod_7cf53_0 : decode cJ9_floorMod_7cf53 0 = .ok (.iload_n 0, 1) := by decide +kernel
theorem dJ9_floorMod_7cf53_1 : decode cJ9_floorMod_7cf53 1 = .ok (.iload_n 1, 1) := by decide +kernel
theorem dJ9_floorMod_7cf53_2 : decode cJ9_floorMod_7cf53 2 = .ok (.irem, 1) := by decide +kernel
theorem dJ9_floorMod_7cf53_3 : decode cJ9_floorMod_7cf53 3 = .ok (.istore_n 2, 1) := by decide +kernel
theorem dJ9_floorMod_7cf53_4 : decode cJ9_floorMod_7cf53 4 = .ok (.iload_n 0, 1) := by decide +kernel
theorem dJ9_floorMod_7cf53_5 : decode cJ9_floorMod_7cf53 5 = .ok (.iload_n 1, 1) := by decide +kernel
theorem dJ9_floorMod_7cf53_6 : decode cJ9_floorMod_7cf53 6 = .ok (.ixor, 1) := by decide +kernel
theorem dJ9_floorMod_7cf53_7 : decode cJ9_floorMod_7cf53 7 = .ok (.ifCond .ge 11, 3) := by decide +kernel
theorem dJ9_floorMod_7cf53_10 : decode cJ9_floorMod_7cf53 10 = .ok (.iload_n 2, 1) := by decide +kernel
theorem dJ9_floorMod_7cf53_11 : decode cJ9_floorMod_7cf53 11 = .ok (.ifCond .eq 7, 3) := by decide +kernel
theorem dJ9_floorMod_7cf53_14 : decode cJ9_floorMod_7cf53 14 = .ok (.iload_n 2, 1) := by decide +kernel
theorem dJ9_floorMod_7cf53_15 : decode cJ9_floorMod_7cf53 15 = .ok (.iload_n 1, 1) := by decide +kernel
theorem dJ9_floorMod_7cf53_16 : decode cJ9_floorMod_7cf53 16 = .ok (.iadd, 1) := by decide +kernel
theorem dJ9_floorMod_7cf53_17 : decode cJ9_floorMod_7cf53 17 = .ok (.ireturn, 1) := by decide +kernel
theorem dJ9_floorMod_7cf53_18 : decode cJ9_floorMod_7cf53 18 = .ok (.iload_n 2, 1) := by decide +kernel
theorem dJ9_floorMod_7cf53_19 : decode cJ9_floorMod_7cf53 19 = .ok (.ireturn, 1) := by decide +kernel
theorem dJ9_max_7cf53_0 : decode cJ9_max_7cf53 0 = .ok (.iload_n 0, 1) := by decide +kernel
theorem dJ9_max_7cf53_1 : decode cJ9_max_7cf53 1 = .ok (.iload_n 1, 1) := by decide +kernel
theorem dJ9_max_7cf53_2 : decode cJ9_max_7cf53 2 = .ok (.if_icmp .lt 7, 3) := by decide +kernel
theorem dJ9_max_7cf53_5 : decode cJ9_max_7cf53 5 = .ok (.iload_n 0, 1) := by decide +kernel
theorem dJ9_max_7cf53_6 : decode cJ9_max_7cf53 6 = .ok (.goto 4, 3) := by decide +kernel
theorem dJ9_max_7cf53_9 : decode cJ9_max_7cf53 9 = .ok (.iload_n 1, 1) := by decide +kernel
theorem dJ9_max_7cf53_10 : decode cJ9_max_7cf53 10 = .ok (.ireturn, 1) := by decide +kernel
theorem dJ9_min_7cf53_0 : decode cJ9_min_7cf53 0 = .ok (.iload_n 0, 1) := by decide +kernel
theorem dJ9_min_7cf53_1 : decode cJ9_min_7cf53 1 = .ok (.iload_n 1, 1) := by decide +kernel
theorem dJ9_min_7cf53_2 : decode cJ9_min_7cf53 2 = .ok (.if_icmp .gt 7, 3) := by decide +kernel
theorem dJ9_min_7cf53_5 : decode cJ9_min_7cf53 5 = .ok (.iload_n 0, 1) := by decide +kernel
theorem dJ9_min_7cf53_6 : decode cJ9_min_7cf53 6 = .ok (.goto 4, 3) := by decide +kernel
theorem dJ9_min_7cf53_9 : decode cJ9_min_7cf53 9 = .ok (.iload_n 1, 1) := by decide +kernel
theorem dJ9_min_7cf53_10 : decode cJ9_min_7cf53 10 = .ok (.ireturn, 1) := by decide +kernel
theorem dJxa1e45_init_da8c8_0 : decode cJxa1e45_init_da8c8 0 = .ok (.aload_n 0, 1) := by decide +kernel
theorem dJxa1e45_init_da8c8_1 : decode cJxa1e45_init_da8c8 1 = .ok (.invokespecial 1, 3) := by decide +kernel
theorem dJxa1e45_init_da8c8_4 : decode cJxa1e45_init_da8c8 4 = .ok (.return_, 1) := by decide +kernel
theorem dJxc12de_init_da8c8_0 : decode cJxc12de_init_da8c8 0 = .ok (.aload_n 0, 1) := by decide +kernel
theorem dJxc12de_init_da8c8_1 : decode cJxc12de_init_da8c8 1 = .ok (.invokespecial 1, 3) := by decide +kernel
theorem dJxc12de_init_da8c8_4 : decode cJxc12de_init_da8c8 4 = .ok (.aload_n 0, 1) := by decide +kernel
theorem dJxc12de_init_da8c8_5 : decode cJxc12de_init_da8c8 5 = .ok (.iconst 0, 1) := by decide +kernel
theorem dJxc12de_init_da8c8_6 : decode cJxc12de_init_da8c8 6 = .ok (.putfield 7, 3) := by decide +kernel
theorem dJxc12de_init_da8c8_9 : decode cJxc12de_init_da8c8 9 = .ok (.return_, 1) := by decide +kernel
theorem dJx4a65c_init_da8c8_0 : decode cJx4a65c_init_da8c8 0 = .ok (.aload_n 0, 1) := by decide +kernel
theorem dJx4a65c_init_da8c8_1 : decode cJx4a65c_init_da8c8 1 = .ok (.invokespecial 1, 3) := by decide +kernel
theorem dJx4a65c_init_da8c8_4 : decode cJx4a65c_init_da8c8 4 = .ok (.aload_n 0, 1) := by decide +kernel
theorem dJx4a65c_init_da8c8_5 : decode cJx4a65c_init_da8c8 5 = .ok (.getstatic 39, 3) := by decide +kernel
theorem dJx4a65c_init_da8c8_8 : decode cJx4a65c_init_da8c8 8 = .ok (.putfield 9, 3) := by decide +kernel
theorem dJx4a65c_init_da8c8_11 : decode cJx4a65c_init_da8c8 11 = .ok (.return_, 1) := by decide +kernel
theorem dJx4a65c_grow_92f84_0 : decode cJx4a65c_grow_92f84 0 = .ok (.aload_n 0, 1) := by decide +kernel
theorem dJx4a65c_grow_92f84_1 : decode cJx4a65c_grow_92f84 1 = .ok (.getfield 9, 3) := by decide +kernel
theorem dJx4a65c_grow_92f84_4 : decode cJx4a65c_grow_92f84 4 = .ok (.arraylength, 1) := by decide +kernel
theorem dJx4a65c_grow_92f84_5 : decode cJx4a65c_grow_92f84 5 = .ok (.istore_n 2, 1) := by decide +kernel
theorem dJx4a65c_grow_92f84_6 : decode cJx4a65c_grow_92f84 6 = .ok (.iload_n 2, 1) := by decide +kernel
theorem dJx4a65c_grow_92f84_7 : decode cJx4a65c_grow_92f84 7 = .ok (.ifCond .gt 13, 3) := by decide +kernel
theorem dJx4a65c_grow_92f84_10 : decode cJx4a65c_grow_92f84 10 = .ok (.aload_n 0, 1) := by decide +kernel
theorem dJx4a65c_grow_92f84_11 : decode cJx4a65c_grow_92f84 11 = .ok (.getfield 9, 3) := by decide +kernel
theorem dJx4a65c_grow_92f84_14 : decode cJx4a65c_grow_92f84 14 = .ok (.getstatic 39, 3) := by decide +kernel
theorem dJx4a65c_grow_92f84_17 : decode cJx4a65c_grow_92f84 17 = .ok (.if_acmp .eq 28, 3) := by decide +kernel
theorem dJx4a65c_grow_92f84_20 : decode cJx4a65c_grow_92f84 20 = .ok (.iload_n 2, 1) := by decide +kernel
theorem dJx4a65c_grow_92f84_21 : decode cJx4a65c_grow_92f84 21 = .ok (.iload_n 1, 1) := by decide +kernel
theorem dJx4a65c_grow_92f84_22 : decode cJx4a65c_grow_92f84 22 = .ok (.iload_n 2, 1) := by decide +kernel
theorem dJx4a65c_grow_92f84_23 : decode cJx4a65c_grow_92f84 23 = .ok (.isub, 1) := by decide +kernel
theorem dJx4a65c_grow_92f84_24 : decode cJx4a65c_grow_92f84 24 = .ok (.iload_n 2, 1) := by decide +kernel
theorem dJx4a65c_grow_92f84_25 : decode cJx4a65c_grow_92f84 25 = .ok (.iconst 1, 1) := by decide +kernel
theorem dJx4a65c_grow_92f84_26 : decode cJx4a65c_grow_92f84 26 = .ok (.ishr, 1) := by decide +kernel
theorem dJx4a65c_grow_92f84_27 : decode cJx4a65c_grow_92f84 27 = .ok (.invokestatic 73, 3) := by decide +kernel
theorem dJx4a65c_grow_92f84_30 : decode cJx4a65c_grow_92f84 30 = .ok (.istore_n 3, 1) := by decide +kernel
theorem dJx4a65c_grow_92f84_31 : decode cJx4a65c_grow_92f84 31 = .ok (.aload_n 0, 1) := by decide +kernel
theorem dJx4a65c_grow_92f84_32 : decode cJx4a65c_grow_92f84 32 = .ok (.aload_n 0, 1) := by decide +kernel
theorem dJx4a65c_grow_92f84_33 : decode cJx4a65c_grow_92f84 33 = .ok (.getfield 9, 3) := by decide +kernel
theorem dJx4a65c_grow_92f84_36 : decode cJx4a65c_grow_92f84 36 = .ok (.iload_n 3, 1) := by decide +kernel
theorem dJx4a65c_grow_92f84_37 : decode cJx4a65c_grow_92f84 37 = .ok (.invokestatic 66, 3) := by decide +kernel
theorem dJx4a65c_grow_92f84_40 : decode cJx4a65c_grow_92f84 40 = .ok (.dup_x1, 1) := by decide +kernel
theorem dJx4a65c_grow_92f84_41 : decode cJx4a65c_grow_92f84 41 = .ok (.putfield 9, 3) := by decide +kernel
theorem dJx4a65c_grow_92f84_44 : decode cJx4a65c_grow_92f84 44 = .ok (.areturn, 1) := by decide +kernel
theorem dJx4a65c_grow_92f84_45 : decode cJx4a65c_grow_92f84 45 = .ok (.aload_n 0, 1) := by decide +kernel
theorem dJx4a65c_grow_92f84_46 : decode cJx4a65c_grow_92f84 46 = .ok (.bipush 10, 2) := by decide +kernel
theorem dJx4a65c_grow_92f84_48 : decode cJx4a65c_grow_92f84 48 = .ok (.iload_n 1, 1) := by decide +kernel
theorem dJx4a65c_grow_92f84_49 : decode cJx4a65c_grow_92f84 49 = .ok (.invokestatic 79, 3) := by decide +kernel
theorem dJx4a65c_grow_92f84_52 : decode cJx4a65c_grow_92f84 52 = .ok (.anewarray 7, 3) := by decide +kernel
theorem dJx4a65c_grow_92f84_55 : decode cJx4a65c_grow_92f84 55 = .ok (.dup_x1, 1) := by decide +kernel
theorem dJx4a65c_grow_92f84_56 : decode cJx4a65c_grow_92f84 56 = .ok (.putfield 9, 3) := by decide +kernel
theorem dJx4a65c_grow_92f84_59 : decode cJx4a65c_grow_92f84 59 = .ok (.areturn, 1) := by decide +kernel
theorem dJx4a65c_grow_d5877_0 : decode cJx4a65c_grow_d5877 0 = .ok (.aload_n 0, 1) := by decide +kernel
theorem dJx4a65c_grow_d5877_1 : decode cJx4a65c_grow_d5877 1 = .ok (.aload_n 0, 1) := by decide +kernel
theorem dJx4a65c_grow_d5877_2 : decode cJx4a65c_grow_d5877 2 = .ok (.getfield 48, 3) := by decide +kernel
theorem dJx4a65c_grow_d5877_5 : decode cJx4a65c_grow_d5877 5 = .ok (.iconst 1, 1) := by decide +kernel
theorem dJx4a65c_grow_d5877_6 : decode cJx4a65c_grow_d5877 6 = .ok (.iadd, 1) := by decide +kernel
theorem dJx4a65c_grow_d5877_7 : decode cJx4a65c_grow_d5877 7 = .ok (.invokevirtual 69, 3) := by decide +kernel
theorem dJx4a65c_grow_d5877_10 : decode cJx4a65c_grow_d5877 10 = .ok (.areturn, 1) := by decide +kernel
theorem dJx4a65c_size_8abf5_0 : decode cJx4a65c_size_8abf5 0 = .ok (.aload_n 0, 1) := by decide +kernel
theorem dJx4a65c_size_8abf5_1 : decode cJx4a65c_size_8abf5 1 = .ok (.getfield 48, 3) := by decide +kernel
theorem dJx4a65c_size_8abf5_4 : decode cJx4a65c_size_8abf5 4 = .ok (.ireturn, 1) := by decide +kernel
theorem dJx4a65c_isEmpty_aae02_0 : decode cJx4a65c_isEmpty_aae02 0 = .ok (.aload_n 0, 1) := by decide +kernel
theorem dJx4a65c_isEmpty_aae02_1 : decode cJx4a65c_isEmpty_aae02 1 = .ok (.getfield 48, 3) := by decide +kernel
theorem dJx4a65c_isEmpty_aae02_4 : decode cJx4a65c_isEmpty_aae02 4 = .ok (.ifCond .ne 7, 3) := by decide +kernel
theorem dJx4a65c_isEmpty_aae02_7 : decode cJx4a65c_isEmpty_aae02 7 = .ok (.iconst 1, 1) := by decide +kernel
theorem dJx4a65c_isEmpty_aae02_8 : decode cJx4a65c_isEmpty_aae02 8 = .ok (.goto 4, 3) := by decide +kernel
theorem dJx4a65c_isEmpty_aae02_11 : decode cJx4a65c_isEmpty_aae02 11 = .ok (.iconst 0, 1) := by decide +kernel
theorem dJx4a65c_isEmpty_aae02_12 : decode cJx4a65c_isEmpty_aae02 12 = .ok (.ireturn, 1) := by decide +kernel
theorem dJx4a65c_elementData_915e3_0 : decode cJx4a65c_elementData_915e3 0 = .ok (.aload_n 0, 1) := by decide +kernel
theorem dJx4a65c_elementData_915e3_1 : decode cJx4a65c_elementData_915e3 1 = .ok (.getfield 9, 3) := by decide +kernel
theorem dJx4a65c_elementData_915e3_4 : decode cJx4a65c_elementData_915e3 4 = .ok (.iload_n 1, 1) := by decide +kernel
theorem dJx4a65c_elementData_915e3_5 : decode cJx4a65c_elementData_915e3 5 = .ok (.aaload, 1) := by decide +kernel
theorem dJx4a65c_elementData_915e3_6 : decode cJx4a65c_elementData_915e3 6 = .ok (.areturn, 1) := by decide +kernel
theorem dJx4a65c_get_915e3_0 : decode cJx4a65c_get_915e3 0 = .ok (.iload_n 1, 1) := by decide +kernel
theorem dJx4a65c_get_915e3_1 : decode cJx4a65c_get_915e3 1 = .ok (.aload_n 0, 1) := by decide +kernel
theorem dJx4a65c_get_915e3_2 : decode cJx4a65c_get_915e3 2 = .ok (.getfield 48, 3) := by decide +kernel
theorem dJx4a65c_get_915e3_5 : decode cJx4a65c_get_915e3 5 = .ok (.invokestatic 118, 3) := by decide +kernel
theorem dJx4a65c_get_915e3_8 : decode cJx4a65c_get_915e3 8 = .ok (.pop, 1) := by decide +kernel
theorem dJx4a65c_get_915e3_9 : decode cJx4a65c_get_915e3 9 = .ok (.aload_n 0, 1) := by decide +kernel
theorem dJx4a65c_get_915e3_10 : decode cJx4a65c_get_915e3 10 = .ok (.iload_n 1, 1) := by decide +kernel
theorem dJx4a65c_get_915e3_11 : decode cJx4a65c_get_915e3 11 = .ok (.invokevirtual 123, 3) := by decide +kernel
theorem dJx4a65c_get_915e3_14 : decode cJx4a65c_get_915e3 14 = .ok (.areturn, 1) := by decide +kernel
theorem dJx4a65c_add_72be8_0 : decode cJx4a65c_add_72be8 0 = .ok (.iload_n 3, 1) := by decide +kernel
theorem dJx4a65c_add_72be8_1 : decode cJx4a65c_add_72be8 1 = .ok (.aload_n 2, 1) := by decide +kernel
theorem dJx4a65c_add_72be8_2 : decode cJx4a65c_add_72be8 2 = .ok (.arraylength, 1) := by decide +kernel
theorem dJx4a65c_add_72be8_3 : decode cJx4a65c_add_72be8 3 = .ok (.if_icmp .ne 8, 3) := by decide +kernel
theorem dJx4a65c_add_72be8_6 : decode cJx4a65c_add_72be8 6 = .ok (.aload_n 0, 1) := by decide +kernel
theorem dJx4a65c_add_72be8_7 : decode cJx4a65c_add_72be8 7 = .ok (.invokevirtual 129, 3) := by decide +kernel
theorem dJx4a65c_add_72be8_10 : decode cJx4a65c_add_72be8 10 = .ok (.astore_n 2, 1) := by decide +kernel
theorem dJx4a65c_add_72be8_11 : decode cJx4a65c_add_72be8 11 = .ok (.aload_n 2, 1) := by decide +kernel
theorem dJx4a65c_add_72be8_12 : decode cJx4a65c_add_72be8 12 = .ok (.iload_n 3, 1) := by decide +kernel
theorem dJx4a65c_add_72be8_13 : decode cJx4a65c_add_72be8 13 = .ok (.aload_n 1, 1) := by decide +kernel
theorem dJx4a65c_add_72be8_14 : decode cJx4a65c_add_72be8 14 = .ok (.aastore, 1) := by decide +kernel
theorem dJx4a65c_add_72be8_15 : decode cJx4a65c_add_72be8 15 = .ok (.aload_n 0, 1) := by decide +kernel
theorem dJx4a65c_add_72be8_16 : decode cJx4a65c_add_72be8 16 = .ok (.iload_n 3, 1) := by decide +kernel
theorem dJx4a65c_add_72be8_17 : decode cJx4a65c_add_72be8 17 = .ok (.iconst 1, 1) := by decide +kernel
theorem dJx4a65c_add_72be8_18 : decode cJx4a65c_add_72be8 18 = .ok (.iadd, 1) := by decide +kernel
theorem dJx4a65c_add_72be8_19 : decode cJx4a65c_add_72be8 19 = .ok (.putfield 48, 3) := by decide +kernel
theorem dJx4a65c_add_72be8_22 : decode cJx4a65c_add_72be8 22 = .ok (.return_, 1) := by decide +kernel
theorem dJx4a65c_add_9ea2d_0 : decode cJx4a65c_add_9ea2d 0 = .ok (.aload_n 0, 1) := by decide +kernel
theorem dJx4a65c_add_9ea2d_1 : decode cJx4a65c_add_9ea2d 1 = .ok (.dup, 1) := by decide +kernel
theorem dJx4a65c_add_9ea2d_2 : decode cJx4a65c_add_9ea2d 2 = .ok (.getfield 63, 3) := by decide +kernel
theorem dJx4a65c_add_9ea2d_5 : decode cJx4a65c_add_9ea2d 5 = .ok (.iconst 1, 1) := by decide +kernel
theorem dJx4a65c_add_9ea2d_6 : decode cJx4a65c_add_9ea2d 6 = .ok (.iadd, 1) := by decide +kernel
theorem dJx4a65c_add_9ea2d_7 : decode cJx4a65c_add_9ea2d 7 = .ok (.putfield 63, 3) := by decide +kernel
theorem dJx4a65c_add_9ea2d_10 : decode cJx4a65c_add_9ea2d 10 = .ok (.aload_n 0, 1) := by decide +kernel
theorem dJx4a65c_add_9ea2d_11 : decode cJx4a65c_add_9ea2d 11 = .ok (.aload_n 1, 1) := by decide +kernel
theorem dJx4a65c_add_9ea2d_12 : decode cJx4a65c_add_9ea2d 12 = .ok (.aload_n 0, 1) := by decide +kernel
theorem dJx4a65c_add_9ea2d_13 : decode cJx4a65c_add_9ea2d 13 = .ok (.getfield 9, 3) := by decide +kernel
theorem dJx4a65c_add_9ea2d_16 : decode cJx4a65c_add_9ea2d 16 = .ok (.aload_n 0, 1) := by decide +kernel
theorem dJx4a65c_add_9ea2d_17 : decode cJx4a65c_add_9ea2d 17 = .ok (.getfield 48, 3) := by decide +kernel
theorem dJx4a65c_add_9ea2d_20 : decode cJx4a65c_add_9ea2d 20 = .ok (.invokevirtual 131, 3) := by decide +kernel
theorem dJx4a65c_add_9ea2d_23 : decode cJx4a65c_add_9ea2d 23 = .ok (.iconst 1, 1) := by decide +kernel
theorem dJx4a65c_add_9ea2d_24 : decode cJx4a65c_add_9ea2d 24 = .ok (.ireturn, 1) := by decide +kernel
theorem dJ7_fill_53178_0 : decode cJ7_fill_53178 0 = .ok (.iconst 0, 1) := by decide +kernel
theorem dJ7_fill_53178_1 : decode cJ7_fill_53178 1 = .ok (.istore_n 2, 1) := by decide +kernel
theorem dJ7_fill_53178_2 : decode cJ7_fill_53178 2 = .ok (.aload_n 0, 1) := by decide +kernel
theorem dJ7_fill_53178_3 : decode cJ7_fill_53178 3 = .ok (.arraylength, 1) := by decide +kernel
theorem dJ7_fill_53178_4 : decode cJ7_fill_53178 4 = .ok (.istore_n 3, 1) := by decide +kernel
theorem dJ7_fill_53178_5 : decode cJ7_fill_53178 5 = .ok (.iload_n 2, 1) := by decide +kernel
theorem dJ7_fill_53178_6 : decode cJ7_fill_53178 6 = .ok (.iload_n 3, 1) := by decide +kernel
theorem dJ7_fill_53178_7 : decode cJ7_fill_53178 7 = .ok (.if_icmp .ge 13, 3) := by decide +kernel
theorem dJ7_fill_53178_10 : decode cJ7_fill_53178 10 = .ok (.aload_n 0, 1) := by decide +kernel
theorem dJ7_fill_53178_11 : decode cJ7_fill_53178 11 = .ok (.iload_n 2, 1) := by decide +kernel
theorem dJ7_fill_53178_12 : decode cJ7_fill_53178 12 = .ok (.iload_n 1, 1) := by decide +kernel
theorem dJ7_fill_53178_13 : decode cJ7_fill_53178 13 = .ok (.iastore, 1) := by decide +kernel
theorem dJ7_fill_53178_14 : decode cJ7_fill_53178 14 = .ok (.iinc 2 1, 3) := by decide +kernel
theorem dJ7_fill_53178_17 : decode cJ7_fill_53178 17 = .ok (.goto (-12), 3) := by decide +kernel
theorem dJ7_fill_53178_20 : decode cJ7_fill_53178 20 = .ok (.return_, 1) := by decide +kernel
theorem dJ7_copyOf_1904c_0 : decode cJ7_copyOf_1904c 0 = .ok (.aload_n 0, 1) := by decide +kernel
theorem dJ7_copyOf_1904c_1 : decode cJ7_copyOf_1904c 1 = .ok (.iload_n 1, 1) := by decide +kernel
theorem dJ7_copyOf_1904c_2 : decode cJ7_copyOf_1904c 2 = .ok (.aload_n 0, 1) := by decide +kernel
theorem dJ7_copyOf_1904c_3 : decode cJ7_copyOf_1904c 3 = .ok (.invokevirtual 86, 3) := by decide +kernel
theorem dJ7_copyOf_1904c_6 : decode cJ7_copyOf_1904c 6 = .ok (.invokestatic 300, 3) := by decide +kernel
theorem dJ7_copyOf_1904c_9 : decode cJ7_copyOf_1904c 9 = .ok (.areturn, 1) := by decide +kernel
theorem dJ7_copyOf_6403c_0 : decode cJ7_copyOf_6403c 0 = .ok (.aload_n 2, 1) := by decide +kernel
theorem dJ7_copyOf_6403c_1 : decode cJ7_copyOf_6403c 1 = .ok (.ldc 110, 2) := by decide +kernel
theorem dJ7_copyOf_6403c_3 : decode cJ7_copyOf_6403c 3 = .ok (.if_acmp .ne 10, 3) := by decide +kernel
theorem dJ7_copyOf_6403c_6 : decode cJ7_copyOf_6403c 6 = .ok (.iload_n 1, 1) := by decide +kernel
theorem dJ7_copyOf_6403c_7 : decode cJ7_copyOf_6403c 7 = .ok (.anewarray 2, 3) := by decide +kernel
theorem dJ7_copyOf_6403c_10 : decode cJ7_copyOf_6403c 10 = .ok (.goto 14, 3) := by decide +kernel
theorem dJ7_copyOf_6403c_13 : decode cJ7_copyOf_6403c 13 = .ok (.aload_n 2, 1) := by decide +kernel
theorem dJ7_copyOf_6403c_14 : decode cJ7_copyOf_6403c 14 = .ok (.invokevirtual 90, 3) := by decide +kernel
theorem dJ7_copyOf_6403c_17 : decode cJ7_copyOf_6403c 17 = .ok (.iload_n 1, 1) := by decide +kernel
theorem dJ7_copyOf_6403c_18 : decode cJ7_copyOf_6403c 18 = .ok (.invokestatic 95, 3) := by decide +kernel
theorem dJ7_copyOf_6403c_21 : decode cJ7_copyOf_6403c 21 = .ok (.checkcast 110, 3) := by decide +kernel
theorem dJ7_copyOf_6403c_24 : decode cJ7_copyOf_6403c 24 = .ok (.astore_n 3, 1) := by decide +kernel
theorem dJ7_copyOf_6403c_25 : decode cJ7_copyOf_6403c 25 = .ok (.aload_n 0, 1) := by decide +kernel
theorem dJ7_copyOf_6403c_26 : decode cJ7_copyOf_6403c 26 = .ok (.iconst 0, 1) := by decide +kernel
theorem dJ7_copyOf_6403c_27 : decode cJ7_copyOf_6403c 27 = .ok (.aload_n 3, 1) := by decide +kernel
theorem dJ7_copyOf_6403c_28 : decode cJ7_copyOf_6403c 28 = .ok (.iconst 0, 1) := by decide +kernel
theorem dJ7_copyOf_6403c_29 : decode cJ7_copyOf_6403c 29 = .ok (.aload_n 0, 1) := by decide +kernel
theorem dJ7_copyOf_6403c_30 : decode cJ7_copyOf_6403c 30 = .ok (.arraylength, 1) := by decide +kernel
theorem dJ7_copyOf_6403c_31 : decode cJ7_copyOf_6403c 31 = .ok (.iload_n 1, 1) := by decide +kernel
theorem dJ7_copyOf_6403c_32 : decode cJ7_copyOf_6403c 32 = .ok (.invokestatic 304, 3) := by decide +kernel
theorem dJ7_copyOf_6403c_35 : decode cJ7_copyOf_6403c 35 = .ok (.invokestatic 150, 3) := by decide +kernel
theorem dJ7_copyOf_6403c_38 : decode cJ7_copyOf_6403c 38 = .ok (.aload_n 3, 1) := by decide +kernel
theorem dJ7_copyOf_6403c_39 : decode cJ7_copyOf_6403c 39 = .ok (.areturn, 1) := by decide +kernel
theorem dJ15_checkIndex_7cf53_0 : decode cJ15_checkIndex_7cf53 0 = .ok (.iload_n 0, 1) := by decide +kernel
theorem dJ15_checkIndex_7cf53_1 : decode cJ15_checkIndex_7cf53 1 = .ok (.iload_n 1, 1) := by decide +kernel
theorem dJ15_checkIndex_7cf53_2 : decode cJ15_checkIndex_7cf53 2 = .ok (.aconst_null, 1) := by decide +kernel
theorem dJ15_checkIndex_7cf53_3 : decode cJ15_checkIndex_7cf53 3 = .ok (.invokestatic 105, 3) := by decide +kernel
theorem dJ15_checkIndex_7cf53_6 : decode cJ15_checkIndex_7cf53 6 = .ok (.ireturn, 1) := by decide +kernel
theorem dJ8_newLength_cabcc_0 : decode cJ8_newLength_cabcc 0 = .ok (.iload_n 0, 1) := by decide +kernel
theorem dJ8_newLength_cabcc_1 : decode cJ8_newLength_cabcc 1 = .ok (.iload_n 1, 1) := by decide +kernel
theorem dJ8_newLength_cabcc_2 : decode cJ8_newLength_cabcc 2 = .ok (.iload_n 2, 1) := by decide +kernel
theorem dJ8_newLength_cabcc_3 : decode cJ8_newLength_cabcc 3 = .ok (.invokestatic 194, 3) := by decide +kernel
theorem dJ8_newLength_cabcc_6 : decode cJ8_newLength_cabcc 6 = .ok (.iadd, 1) := by decide +kernel
theorem dJ8_newLength_cabcc_7 : decode cJ8_newLength_cabcc 7 = .ok (.istore_n 3, 1) := by decide +kernel
theorem dJ8_newLength_cabcc_8 : decode cJ8_newLength_cabcc 8 = .ok (.iconst 0, 1) := by decide +kernel
theorem dJ8_newLength_cabcc_9 : decode cJ8_newLength_cabcc 9 = .ok (.iload_n 3, 1) := by decide +kernel
theorem dJ8_newLength_cabcc_10 : decode cJ8_newLength_cabcc 10 = .ok (.if_icmp .ge 11, 3) := by decide +kernel
theorem dJ8_newLength_cabcc_13 : decode cJ8_newLength_cabcc 13 = .ok (.iload_n 3, 1) := by decide +kernel
theorem dJ8_newLength_cabcc_14 : decode cJ8_newLength_cabcc 14 = .ok (.ldc 200, 2) := by decide +kernel
theorem dJ8_newLength_cabcc_16 : decode cJ8_newLength_cabcc 16 = .ok (.if_icmp .gt 5, 3) := by decide +kernel
theorem dJ8_newLength_cabcc_19 : decode cJ8_newLength_cabcc 19 = .ok (.iload_n 3, 1) := by decide +kernel
theorem dJ8_newLength_cabcc_20 : decode cJ8_newLength_cabcc 20 = .ok (.ireturn, 1) := by decide +kernel
theorem dJ8_newLength_cabcc_21 : decode cJ8_newLength_cabcc 21 = .ok (.iload_n 0, 1) := by decide +kernel
theorem dJ8_newLength_cabcc_22 : decode cJ8_newLength_cabcc 22 = .ok (.iload_n 1, 1) := by decide +kernel
theorem dJ8_newLength_cabcc_23 : decode cJ8_newLength_cabcc 23 = .ok (.invokestatic 201, 3) := by decide +kernel
theorem dJ8_newLength_cabcc_26 : decode cJ8_newLength_cabcc 26 = .ok (.ireturn, 1) := by decide +kernel
theorem dJ8_hugeLength_7cf53_0 : decode cJ8_hugeLength_7cf53 0 = .ok (.iload_n 0, 1) := by decide +kernel
theorem dJ8_hugeLength_7cf53_1 : decode cJ8_hugeLength_7cf53 1 = .ok (.iload_n 1, 1) := by decide +kernel
theorem dJ8_hugeLength_7cf53_2 : decode cJ8_hugeLength_7cf53 2 = .ok (.iadd, 1) := by decide +kernel
theorem dJ8_hugeLength_7cf53_3 : decode cJ8_hugeLength_7cf53 3 = .ok (.istore_n 2, 1) := by decide +kernel
theorem dJ8_hugeLength_7cf53_4 : decode cJ8_hugeLength_7cf53 4 = .ok (.iload_n 2, 1) := by decide +kernel
theorem dJ8_hugeLength_7cf53_5 : decode cJ8_hugeLength_7cf53 5 = .ok (.ifCond .ge 44, 3) := by decide +kernel
theorem dJ8_hugeLength_7cf53_8 : decode cJ8_hugeLength_7cf53 8 = .ok (.new 204, 3) := by decide +kernel
theorem dJ8_hugeLength_7cf53_11 : decode cJ8_hugeLength_7cf53 11 = .ok (.dup, 1) := by decide +kernel
theorem dJ8_hugeLength_7cf53_12 : decode cJ8_hugeLength_7cf53 12 = .ok (.new 89, 3) := by decide +kernel
theorem dJ8_hugeLength_7cf53_15 : decode cJ8_hugeLength_7cf53 15 = .ok (.dup, 1) := by decide +kernel
theorem dJ8_hugeLength_7cf53_16 : decode cJ8_hugeLength_7cf53 16 = .ok (.invokespecial 91, 3) := by decide +kernel
theorem dJ8_hugeLength_7cf53_19 : decode cJ8_hugeLength_7cf53 19 = .ok (.ldc 206, 2) := by decide +kernel
theorem dJ8_hugeLength_7cf53_21 : decode cJ8_hugeLength_7cf53 21 = .ok (.invokevirtual 94, 3) := by decide +kernel
theorem dJ8_hugeLength_7cf53_24 : decode cJ8_hugeLength_7cf53 24 = .ok (.iload_n 0, 1) := by decide +kernel
theorem dJ8_hugeLength_7cf53_25 : decode cJ8_hugeLength_7cf53 25 = .ok (.invokevirtual 98, 3) := by decide +kernel
theorem dJ8_hugeLength_7cf53_28 : decode cJ8_hugeLength_7cf53 28 = .ok (.ldc 208, 2) := by decide +kernel
theorem dJ8_hugeLength_7cf53_30 : decode cJ8_hugeLength_7cf53 30 = .ok (.invokevirtual 94, 3) := by decide +kernel
theorem dJ8_hugeLength_7cf53_33 : decode cJ8_hugeLength_7cf53 33 = .ok (.iload_n 1, 1) := by decide +kernel
theorem dJ8_hugeLength_7cf53_34 : decode cJ8_hugeLength_7cf53 34 = .ok (.invokevirtual 98, 3) := by decide +kernel
theorem dJ8_hugeLength_7cf53_37 : decode cJ8_hugeLength_7cf53 37 = .ok (.ldc 210, 2) := by decide +kernel
theorem dJ8_hugeLength_7cf53_39 : decode cJ8_hugeLength_7cf53 39 = .ok (.invokevirtual 94, 3) := by decide +kernel
theorem dJ8_hugeLength_7cf53_42 : decode cJ8_hugeLength_7cf53 42 = .ok (.invokevirtual 101, 3) := by decide +kernel
theorem dJ8_hugeLength_7cf53_45 : decode cJ8_hugeLength_7cf53 45 = .ok (.invokespecial 212, 3) := by decide +kernel
theorem dJ8_hugeLength_7cf53_48 : decode cJ8_hugeLength_7cf53 48 = .ok (.athrow, 1) := by decide +kernel
theorem dJ8_hugeLength_7cf53_49 : decode cJ8_hugeLength_7cf53 49 = .ok (.iload_n 2, 1) := by decide +kernel
theorem dJ8_hugeLength_7cf53_50 : decode cJ8_hugeLength_7cf53 50 = .ok (.ldc 200, 2) := by decide +kernel
theorem dJ8_hugeLength_7cf53_52 : decode cJ8_hugeLength_7cf53 52 = .ok (.if_icmp .gt 6, 3) := by decide +kernel
theorem dJ8_hugeLength_7cf53_55 : decode cJ8_hugeLength_7cf53 55 = .ok (.ldc 200, 2) := by decide +kernel
theorem dJ8_hugeLength_7cf53_57 : decode cJ8_hugeLength_7cf53 57 = .ok (.ireturn, 1) := by decide +kernel
theorem dJ8_hugeLength_7cf53_58 : decode cJ8_hugeLength_7cf53 58 = .ok (.iload_n 2, 1) := by decide +kernel
theorem dJ8_hugeLength_7cf53_59 : decode cJ8_hugeLength_7cf53 59 = .ok (.ireturn, 1) := by decide +kernel
theorem dJ3_checkIndex_8e157_0 : decode cJ3_checkIndex_8e157 0 = .ok (.iload_n 0, 1) := by decide +kernel
theorem dJ3_checkIndex_8e157_1 : decode cJ3_checkIndex_8e157 1 = .ok (.ifCond .lt 8, 3) := by decide +kernel
theorem dJ3_checkIndex_8e157_4 : decode cJ3_checkIndex_8e157 4 = .ok (.iload_n 0, 1) := by decide +kernel
theorem dJ3_checkIndex_8e157_5 : decode cJ3_checkIndex_8e157 5 = .ok (.iload_n 1, 1) := by decide +kernel
theorem dJ3_checkIndex_8e157_6 : decode cJ3_checkIndex_8e157 6 = .ok (.if_icmp .lt 10, 3) := by decide +kernel
theorem dJ3_checkIndex_8e157_9 : decode cJ3_checkIndex_8e157 9 = .ok (.aload_n 2, 1) := by decide +kernel
theorem dJ3_checkIndex_8e157_10 : decode cJ3_checkIndex_8e157 10 = .ok (.iload_n 0, 1) := by decide +kernel
theorem dJ3_checkIndex_8e157_11 : decode cJ3_checkIndex_8e157 11 = .ok (.iload_n 1, 1) := by decide +kernel
theorem dJ3_checkIndex_8e157_12 : decode cJ3_checkIndex_8e157 12 = .ok (.invokestatic 95, 3) := by decide +kernel
theorem dJ3_checkIndex_8e157_15 : decode cJ3_checkIndex_8e157 15 = .ok (.athrow, 1) := by decide +kernel
theorem dJ3_checkIndex_8e157_16 : decode cJ3_checkIndex_8e157 16 = .ok (.iload_n 0, 1) := by decide +kernel
theorem dJ3_checkIndex_8e157_17 : decode cJ3_checkIndex_8e157 17 = .ok (.ireturn, 1) := by decide +kernel
theorem dL_cell_0 : decode cL_cell 0 = .ok (.iload_n 1, 1) := by decide +kernel
theorem dL_cell_1 : decode cL_cell 1 = .ok (.aload_n 0, 1) := by decide +kernel
theorem dL_cell_2 : decode cL_cell 2 = .ok (.arraylength, 1) := by decide +kernel
theorem dL_cell_3 : decode cL_cell 3 = .ok (.if_icmp .ge 9, 3) := by decide +kernel
theorem dL_cell_6 : decode cL_cell 6 = .ok (.aload_n 0, 1) := by decide +kernel
theorem dL_cell_7 : decode cL_cell 7 = .ok (.iload_n 1, 1) := by decide +kernel
theorem dL_cell_8 : decode cL_cell 8 = .ok (.iaload, 1) := by decide +kernel
theorem dL_cell_9 : decode cL_cell 9 = .ok (.goto 13, 3) := by decide +kernel
theorem dL_cell_12 : decode cL_cell 12 = .ok (.ldc 7, 2) := by decide +kernel
theorem dL_cell_14 : decode cL_cell 14 = .ok (.iload_n 1, 1) := by decide +kernel
theorem dL_cell_15 : decode cL_cell 15 = .ok (.bipush 11, 2) := by decide +kernel
theorem dL_cell_17 : decode cL_cell 17 = .ok (.iadd, 1) := by decide +kernel
theorem dL_cell_18 : decode cL_cell 18 = .ok (.imul, 1) := by decide +kernel
theorem dL_cell_19 : decode cL_cell 19 = .ok (.ldc 8, 2) := by decide +kernel
theorem dL_cell_21 : decode cL_cell 21 = .ok (.iadd, 1) := by decide +kernel
theorem dL_cell_22 : decode cL_cell 22 = .ok (.ireturn, 1) := by decide +kernel
theorem dL_low_0 : decode cL_low 0 = .ok (.iload_n 0, 1) := by decide +kernel
theorem dL_low_1 : decode cL_low 1 = .ok (.ldc 9, 2) := by decide +kernel
theorem dL_low_3 : decode cL_low 3 = .ok (.iand, 1) := by decide +kernel
theorem dL_low_4 : decode cL_low 4 = .ok (.iload_n 1, 1) := by decide +kernel
theorem dL_low_5 : decode cL_low 5 = .ok (.irem, 1) := by decide +kernel
theorem dL_low_6 : decode cL_low 6 = .ok (.ireturn, 1) := by decide +kernel
theorem dL_calls_0 : decode cL_calls 0 = .ok (.iload_n 1, 1) := by decide +kernel
theorem dL_calls_1 : decode cL_calls 1 = .ok (.ifCond .ne 11, 3) := by decide +kernel
theorem dL_calls_4 : decode cL_calls 4 = .ok (.aload_n 0, 1) := by decide +kernel
theorem dL_calls_5 : decode cL_calls 5 = .ok (.iload_n 2, 1) := by decide +kernel
theorem dL_calls_6 : decode cL_calls 6 = .ok (.invokevirtual 10, 3) := by decide +kernel
theorem dL_calls_9 : decode cL_calls 9 = .ok (.goto 64, 3) := by decide +kernel
theorem dL_calls_12 : decode cL_calls 12 = .ok (.iload_n 1, 1) := by decide +kernel
theorem dL_calls_13 : decode cL_calls 13 = .ok (.iconst 1, 1) := by decide +kernel
theorem dL_calls_14 : decode cL_calls 14 = .ok (.if_icmp .ne 14, 3) := by decide +kernel
theorem dL_calls_17 : decode cL_calls 17 = .ok (.aload_n 0, 1) := by decide +kernel
theorem dL_calls_18 : decode cL_calls 18 = .ok (.iload_n 2, 1) := by decide +kernel
theorem dL_calls_19 : decode cL_calls 19 = .ok (.iload_n 3, 1) := by decide +kernel
theorem dL_calls_20 : decode cL_calls 20 = .ok (.iload 4, 2) := by decide +kernel
theorem dL_calls_22 : decode cL_calls 22 = .ok (.invokevirtual 16, 3) := by decide +kernel
theorem dL_calls_25 : decode cL_calls 25 = .ok (.goto 48, 3) := by decide +kernel
theorem dL_calls_28 : decode cL_calls 28 = .ok (.iload_n 1, 1) := by decide +kernel
theorem dL_calls_29 : decode cL_calls 29 = .ok (.iconst 2, 1) := by decide +kernel
theorem dL_calls_30 : decode cL_calls 30 = .ok (.if_icmp .ne 12, 3) := by decide +kernel
theorem dL_calls_33 : decode cL_calls 33 = .ok (.aload_n 0, 1) := by decide +kernel
theorem dL_calls_34 : decode cL_calls 34 = .ok (.iload_n 2, 1) := by decide +kernel
theorem dL_calls_35 : decode cL_calls 35 = .ok (.iload_n 3, 1) := by decide +kernel
theorem dL_calls_36 : decode cL_calls 36 = .ok (.invokevirtual 20, 3) := by decide +kernel
theorem dL_calls_39 : decode cL_calls 39 = .ok (.goto 34, 3) := by decide +kernel
theorem dL_calls_42 : decode cL_calls 42 = .ok (.iload_n 1, 1) := by decide +kernel
theorem dL_calls_43 : decode cL_calls 43 = .ok (.iconst 3, 1) := by decide +kernel
theorem dL_calls_44 : decode cL_calls 44 = .ok (.if_icmp .ne 11, 3) := by decide +kernel
theorem dL_calls_47 : decode cL_calls 47 = .ok (.aload_n 0, 1) := by decide +kernel
theorem dL_calls_48 : decode cL_calls 48 = .ok (.iload_n 2, 1) := by decide +kernel
theorem dL_calls_49 : decode cL_calls 49 = .ok (.invokevirtual 24, 3) := by decide +kernel
theorem dL_calls_52 : decode cL_calls 52 = .ok (.goto 21, 3) := by decide +kernel
theorem dL_calls_55 : decode cL_calls 55 = .ok (.iload_n 1, 1) := by decide +kernel
theorem dL_calls_56 : decode cL_calls 56 = .ok (.iconst 4, 1) := by decide +kernel
theorem dL_calls_57 : decode cL_calls 57 = .ok (.if_icmp .ne 11, 3) := by decide +kernel
theorem dL_calls_60 : decode cL_calls 60 = .ok (.aload_n 0, 1) := by decide +kernel
theorem dL_calls_61 : decode cL_calls 61 = .ok (.iload_n 2, 1) := by decide +kernel
theorem dL_calls_62 : decode cL_calls 62 = .ok (.invokevirtual 27, 3) := by decide +kernel
theorem dL_calls_65 : decode cL_calls 65 = .ok (.goto 8, 3) := by decide +kernel
theorem dL_calls_68 : decode cL_calls 68 = .ok (.aload_n 0, 1) := by decide +kernel
theorem dL_calls_69 : decode cL_calls 69 = .ok (.iload_n 2, 1) := by decide +kernel
theorem dL_calls_70 : decode cL_calls 70 = .ok (.invokevirtual 30, 3) := by decide +kernel
theorem dL_calls_73 : decode cL_calls 73 = .ok (.ireturn, 1) := by decide +kernel
theorem dL_calls_74 : decode cL_calls 74 = .ok (.astore 5, 2) := by decide +kernel
theorem dL_calls_76 : decode cL_calls 76 = .ok (.bipush (-2), 2) := by decide +kernel
theorem dL_calls_78 : decode cL_calls 78 = .ok (.ireturn, 1) := by decide +kernel
theorem dL_calls_79 : decode cL_calls 79 = .ok (.astore 5, 2) := by decide +kernel
theorem dL_calls_81 : decode cL_calls 81 = .ok (.bipush (-3), 2) := by decide +kernel
theorem dL_calls_83 : decode cL_calls 83 = .ok (.ireturn, 1) := by decide +kernel
theorem dL_sign_0 : decode cL_sign 0 = .ok (.iload_n 0, 1) := by decide +kernel
theorem dL_sign_1 : decode cL_sign 1 = .ok (.sipush 10007, 3) := by decide +kernel
theorem dL_sign_4 : decode cL_sign 4 = .ok (.irem, 1) := by decide +kernel
theorem dL_sign_5 : decode cL_sign 5 = .ok (.istore_n 1, 1) := by decide +kernel
theorem dL_sign_6 : decode cL_sign 6 = .ok (.iload_n 1, 1) := by decide +kernel
theorem dL_sign_7 : decode cL_sign 7 = .ok (.i2l, 1) := by decide +kernel
theorem dL_sign_8 : decode cL_sign 8 = .ok (.iload_n 1, 1) := by decide +kernel
theorem dL_sign_9 : decode cL_sign 9 = .ok (.i2l, 1) := by decide +kernel
theorem dL_sign_10 : decode cL_sign 10 = .ok (.ldc2_w 37, 3) := by decide +kernel
theorem dL_sign_13 : decode cL_sign 13 = .ok (.ladd, 1) := by decide +kernel
theorem dL_sign_14 : decode cL_sign 14 = .ok (.lmul, 1) := by decide +kernel
theorem dL_sign_15 : decode cL_sign 15 = .ok (.ldc2_w 39, 3) := by decide +kernel
theorem dL_sign_18 : decode cL_sign 18 = .ok (.ladd, 1) := by decide +kernel
theorem dL_sign_19 : decode cL_sign 19 = .ok (.ldc2_w 41, 3) := by decide +kernel
theorem dL_sign_22 : decode cL_sign 22 = .ok (.lrem, 1) := by decide +kernel
theorem dL_sign_23 : decode cL_sign 23 = .ok (.l2i, 1) := by decide +kernel
theorem dL_sign_24 : decode cL_sign 24 = .ok (.ireturn, 1) := by decide +kernel
theorem dL_rolls_0 : decode cL_rolls 0 = .ok (.iload_n 0, 1) := by decide +kernel
theorem dL_rolls_1 : decode cL_rolls 1 = .ok (.istore 4, 2) := by decide +kernel
theorem dL_rolls_3 : decode cL_rolls 3 = .ok (.aload_n 3, 1) := by decide +kernel
theorem dL_rolls_4 : decode cL_rolls 4 = .ok (.bipush 10, 2) := by decide +kernel
theorem dL_rolls_6 : decode cL_rolls 6 = .ok (.iconst (-1), 1) := by decide +kernel
theorem dL_rolls_7 : decode cL_rolls 7 = .ok (.iastore, 1) := by decide +kernel
theorem dL_rolls_8 : decode cL_rolls 8 = .ok (.iload 4, 2) := by decide +kernel
theorem dL_rolls_10 : decode cL_rolls 10 = .ok (.sipush 1105, 3) := by decide +kernel
theorem dL_rolls_13 : decode cL_rolls 13 = .ok (.imul, 1) := by decide +kernel
theorem dL_rolls_14 : decode cL_rolls 14 = .ok (.sipush 12345, 3) := by decide +kernel
theorem dL_rolls_17 : decode cL_rolls 17 = .ok (.iadd, 1) := by decide +kernel
theorem dL_rolls_18 : decode cL_rolls 18 = .ok (.iload_n 1, 1) := by decide +kernel
theorem dL_rolls_19 : decode cL_rolls 19 = .ok (.iadd, 1) := by decide +kernel
theorem dL_rolls_20 : decode cL_rolls 20 = .ok (.iload_n 1, 1) := by decide +kernel
theorem dL_rolls_21 : decode cL_rolls 21 = .ok (.iadd, 1) := by decide +kernel
theorem dL_rolls_22 : decode cL_rolls 22 = .ok (.ldc 43, 2) := by decide +kernel
theorem dL_rolls_24 : decode cL_rolls 24 = .ok (.irem, 1) := by decide +kernel
theorem dL_rolls_25 : decode cL_rolls 25 = .ok (.istore 4, 2) := by decide +kernel
theorem dL_rolls_27 : decode cL_rolls 27 = .ok (.aload_n 3, 1) := by decide +kernel
theorem dL_rolls_28 : decode cL_rolls 28 = .ok (.bipush 10, 2) := by decide +kernel
theorem dL_rolls_30 : decode cL_rolls 30 = .ok (.dup2, 1) := by decide +kernel
theorem dL_rolls_31 : decode cL_rolls 31 = .ok (.iaload, 1) := by decide +kernel
theorem dL_rolls_32 : decode cL_rolls 32 = .ok (.iconst 1, 1) := by decide +kernel
theorem dL_rolls_33 : decode cL_rolls 33 = .ok (.iadd, 1) := by decide +kernel
theorem dL_rolls_34 : decode cL_rolls 34 = .ok (.iastore, 1) := by decide +kernel
theorem dL_rolls_35 : decode cL_rolls 35 = .ok (.iload 4, 2) := by decide +kernel
theorem dL_rolls_37 : decode cL_rolls 37 = .ok (.ldc 43, 2) := by decide +kernel
theorem dL_rolls_39 : decode cL_rolls 39 = .ok (.ldc 43, 2) := by decide +kernel
theorem dL_rolls_41 : decode cL_rolls 41 = .ok (.iload_n 2, 1) := by decide +kernel
theorem dL_rolls_42 : decode cL_rolls 42 = .ok (.irem, 1) := by decide +kernel
theorem dL_rolls_43 : decode cL_rolls 43 = .ok (.isub, 1) := by decide +kernel
theorem dL_rolls_44 : decode cL_rolls 44 = .ok (.if_icmp .ge (-36), 3) := by decide +kernel
theorem dL_rolls_47 : decode cL_rolls 47 = .ok (.aload_n 3, 1) := by decide +kernel
theorem dL_rolls_48 : decode cL_rolls 48 = .ok (.bipush 9, 2) := by decide +kernel
theorem dL_rolls_50 : decode cL_rolls 50 = .ok (.iload 4, 2) := by decide +kernel
theorem dL_rolls_52 : decode cL_rolls 52 = .ok (.iastore, 1) := by decide +kernel
theorem dL_rolls_53 : decode cL_rolls 53 = .ok (.iconst 1, 1) := by decide +kernel
theorem dL_rolls_54 : decode cL_rolls 54 = .ok (.iload 4, 2) := by decide +kernel
theorem dL_rolls_56 : decode cL_rolls 56 = .ok (.iload_n 2, 1) := by decide +kernel
theorem dL_rolls_57 : decode cL_rolls 57 = .ok (.irem, 1) := by decide +kernel
theorem dL_rolls_58 : decode cL_rolls 58 = .ok (.iadd, 1) := by decide +kernel
theorem dL_rolls_59 : decode cL_rolls 59 = .ok (.ireturn, 1) := by decide +kernel
theorem dL_sum_0 : decode cL_sum 0 = .ok (.iload_n 0, 1) := by decide +kernel
theorem dL_sum_1 : decode cL_sum 1 = .ok (.ifCond .le 12, 3) := by decide +kernel
theorem dL_sum_4 : decode cL_sum 4 = .ok (.aload 5, 2) := by decide +kernel
theorem dL_sum_6 : decode cL_sum 6 = .ok (.iload_n 0, 1) := by decide +kernel
theorem dL_sum_7 : decode cL_sum 7 = .ok (.iconst 1, 1) := by decide +kernel
theorem dL_sum_8 : decode cL_sum 8 = .ok (.isub, 1) := by decide +kernel
theorem dL_sum_9 : decode cL_sum 9 = .ok (.iaload, 1) := by decide +kernel
theorem dL_sum_10 : decode cL_sum 10 = .ok (.goto 5, 3) := by decide +kernel
theorem dL_sum_13 : decode cL_sum 13 = .ok (.bipush 17, 2) := by decide +kernel
theorem dL_sum_15 : decode cL_sum 15 = .ok (.istore 6, 2) := by decide +kernel
theorem dL_sum_17 : decode cL_sum 17 = .ok (.iload 6, 2) := by decide +kernel
theorem dL_sum_19 : decode cL_sum 19 = .ok (.bipush 31, 2) := by decide +kernel
theorem dL_sum_21 : decode cL_sum 21 = .ok (.imul, 1) := by decide +kernel
theorem dL_sum_22 : decode cL_sum 22 = .ok (.aload_n 1, 1) := by decide +kernel
theorem dL_sum_23 : decode cL_sum 23 = .ok (.iload_n 0, 1) := by decide +kernel
theorem dL_sum_24 : decode cL_sum 24 = .ok (.iaload, 1) := by decide +kernel
theorem dL_sum_25 : decode cL_sum 25 = .ok (.iconst 4, 1) := by decide +kernel
theorem dL_sum_26 : decode cL_sum 26 = .ok (.idiv, 1) := by decide +kernel
theorem dL_sum_27 : decode cL_sum 27 = .ok (.bipush 7, 2) := by decide +kernel
theorem dL_sum_29 : decode cL_sum 29 = .ok (.imul, 1) := by decide +kernel
theorem dL_sum_30 : decode cL_sum 30 = .ok (.iadd, 1) := by decide +kernel
theorem dL_sum_31 : decode cL_sum 31 = .ok (.aload_n 1, 1) := by decide +kernel
theorem dL_sum_32 : decode cL_sum 32 = .ok (.iload_n 0, 1) := by decide +kernel
theorem dL_sum_33 : decode cL_sum 33 = .ok (.iaload, 1) := by decide +kernel
theorem dL_sum_34 : decode cL_sum 34 = .ok (.iconst 4, 1) := by decide +kernel
theorem dL_sum_35 : decode cL_sum 35 = .ok (.irem, 1) := by decide +kernel
theorem dL_sum_36 : decode cL_sum 36 = .ok (.iconst 5, 1) := by decide +kernel
theorem dL_sum_37 : decode cL_sum 37 = .ok (.imul, 1) := by decide +kernel
theorem dL_sum_38 : decode cL_sum 38 = .ok (.iadd, 1) := by decide +kernel
theorem dL_sum_39 : decode cL_sum 39 = .ok (.aload_n 2, 1) := by decide +kernel
theorem dL_sum_40 : decode cL_sum 40 = .ok (.iload_n 0, 1) := by decide +kernel
theorem dL_sum_41 : decode cL_sum 41 = .ok (.iaload, 1) := by decide +kernel
theorem dL_sum_42 : decode cL_sum 42 = .ok (.iconst 3, 1) := by decide +kernel
theorem dL_sum_43 : decode cL_sum 43 = .ok (.imul, 1) := by decide +kernel
theorem dL_sum_44 : decode cL_sum 44 = .ok (.iadd, 1) := by decide +kernel
theorem dL_sum_45 : decode cL_sum 45 = .ok (.aload_n 3, 1) := by decide +kernel
theorem dL_sum_46 : decode cL_sum 46 = .ok (.iload_n 0, 1) := by decide +kernel
theorem dL_sum_47 : decode cL_sum 47 = .ok (.iaload, 1) := by decide +kernel
theorem dL_sum_48 : decode cL_sum 48 = .ok (.bipush 11, 2) := by decide +kernel
theorem dL_sum_50 : decode cL_sum 50 = .ok (.imul, 1) := by decide +kernel
theorem dL_sum_51 : decode cL_sum 51 = .ok (.iadd, 1) := by decide +kernel
theorem dL_sum_52 : decode cL_sum 52 = .ok (.aload 4, 2) := by decide +kernel
theorem dL_sum_54 : decode cL_sum 54 = .ok (.iload_n 0, 1) := by decide +kernel
theorem dL_sum_55 : decode cL_sum 55 = .ok (.iaload, 1) := by decide +kernel
theorem dL_sum_56 : decode cL_sum 56 = .ok (.iadd, 1) := by decide +kernel
theorem dL_sum_57 : decode cL_sum 57 = .ok (.ldc 44, 2) := by decide +kernel
theorem dL_sum_59 : decode cL_sum 59 = .ok (.irem, 1) := by decide +kernel
theorem dL_sum_60 : decode cL_sum 60 = .ok (.ireturn, 1) := by decide +kernel
theorem dL_again_0 : decode cL_again 0 = .ok (.aload 4, 2) := by decide +kernel
theorem dL_again_2 : decode cL_again 2 = .ok (.aload_n 1, 1) := by decide +kernel
theorem dL_again_3 : decode cL_again 3 = .ok (.iload_n 0, 1) := by decide +kernel
theorem dL_again_4 : decode cL_again 4 = .ok (.iaload, 1) := by decide +kernel
theorem dL_again_5 : decode cL_again 5 = .ok (.iconst 4, 1) := by decide +kernel
theorem dL_again_6 : decode cL_again 6 = .ok (.idiv, 1) := by decide +kernel
theorem dL_again_7 : decode cL_again 7 = .ok (.iaload, 1) := by decide +kernel
theorem dL_again_8 : decode cL_again 8 = .ok (.istore 6, 2) := by decide +kernel
theorem dL_again_10 : decode cL_again 10 = .ok (.iconst 0, 1) := by decide +kernel
theorem dL_again_11 : decode cL_again 11 = .ok (.istore 7, 2) := by decide +kernel
theorem dL_again_13 : decode cL_again 13 = .ok (.iconst 0, 1) := by decide +kernel
theorem dL_again_14 : decode cL_again 14 = .ok (.istore 8, 2) := by decide +kernel
theorem dL_again_16 : decode cL_again 16 = .ok (.iload 8, 2) := by decide +kernel
theorem dL_again_18 : decode cL_again 18 = .ok (.iload_n 0, 1) := by decide +kernel
theorem dL_again_19 : decode cL_again 19 = .ok (.if_icmp .gt 47, 3) := by decide +kernel
theorem dL_again_22 : decode cL_again 22 = .ok (.aload_n 1, 1) := by decide +kernel
theorem dL_again_23 : decode cL_again 23 = .ok (.iload 8, 2) := by decide +kernel
theorem dL_again_25 : decode cL_again 25 = .ok (.iaload, 1) := by decide +kernel
theorem dL_again_26 : decode cL_again 26 = .ok (.iconst 4, 1) := by decide +kernel
theorem dL_again_27 : decode cL_again 27 = .ok (.idiv, 1) := by decide +kernel
theorem dL_again_28 : decode cL_again 28 = .ok (.aload_n 1, 1) := by decide +kernel
theorem dL_again_29 : decode cL_again 29 = .ok (.iload_n 0, 1) := by decide +kernel
theorem dL_again_30 : decode cL_again 30 = .ok (.iaload, 1) := by decide +kernel
theorem dL_again_31 : decode cL_again 31 = .ok (.iconst 4, 1) := by decide +kernel
theorem dL_again_32 : decode cL_again 32 = .ok (.idiv, 1) := by decide +kernel
theorem dL_again_33 : decode cL_again 33 = .ok (.if_icmp .ne 27, 3) := by decide +kernel
theorem dL_again_36 : decode cL_again 36 = .ok (.iload 6, 2) := by decide +kernel
theorem dL_again_38 : decode cL_again 38 = .ok (.aload_n 2, 1) := by decide +kernel
theorem dL_again_39 : decode cL_again 39 = .ok (.iload 8, 2) := by decide +kernel
theorem dL_again_41 : decode cL_again 41 = .ok (.iaload, 1) := by decide +kernel
theorem dL_again_42 : decode cL_again 42 = .ok (.aload_n 3, 1) := by decide +kernel
theorem dL_again_43 : decode cL_again 43 = .ok (.iload 8, 2) := by decide +kernel
theorem dL_again_45 : decode cL_again 45 = .ok (.iaload, 1) := by decide +kernel
theorem dL_again_46 : decode cL_again 46 = .ok (.aload 5, 2) := by decide +kernel
theorem dL_again_48 : decode cL_again 48 = .ok (.invokestatic 45, 3) := by decide +kernel
theorem dL_again_51 : decode cL_again 51 = .ok (.istore 7, 2) := by decide +kernel
theorem dL_again_53 : decode cL_again 53 = .ok (.aload 5, 2) := by decide +kernel
theorem dL_again_55 : decode cL_again 55 = .ok (.bipush 9, 2) := by decide +kernel
theorem dL_again_57 : decode cL_again 57 = .ok (.iaload, 1) := by decide +kernel
theorem dL_again_58 : decode cL_again 58 = .ok (.istore 6, 2) := by decide +kernel
theorem dL_again_60 : decode cL_again 60 = .ok (.iinc 8 1, 3) := by decide +kernel
theorem dL_again_63 : decode cL_again 63 = .ok (.goto (-47), 3) := by decide +kernel
theorem dL_again_66 : decode cL_again 66 = .ok (.iload 7, 2) := by decide +kernel
theorem dL_again_68 : decode cL_again 68 = .ok (.ireturn, 1) := by decide +kernel
theorem dL_wrong_0 : decode cL_wrong 0 = .ok (.iconst 0, 1) := by decide +kernel
theorem dL_wrong_1 : decode cL_wrong 1 = .ok (.istore 7, 2) := by decide +kernel
theorem dL_wrong_3 : decode cL_wrong 3 = .ok (.iload 7, 2) := by decide +kernel
theorem dL_wrong_5 : decode cL_wrong 5 = .ok (.aload 6, 2) := by decide +kernel
theorem dL_wrong_7 : decode cL_wrong 7 = .ok (.iconst 1, 1) := by decide +kernel
theorem dL_wrong_8 : decode cL_wrong 8 = .ok (.iaload, 1) := by decide +kernel
theorem dL_wrong_9 : decode cL_wrong 9 = .ok (.if_icmp .ge 42, 3) := by decide +kernel
theorem dL_wrong_12 : decode cL_wrong 12 = .ok (.aload_n 1, 1) := by decide +kernel
theorem dL_wrong_13 : decode cL_wrong 13 = .ok (.iload 7, 2) := by decide +kernel
theorem dL_wrong_15 : decode cL_wrong 15 = .ok (.iaload, 1) := by decide +kernel
theorem dL_wrong_16 : decode cL_wrong 16 = .ok (.iconst 4, 1) := by decide +kernel
theorem dL_wrong_17 : decode cL_wrong 17 = .ok (.idiv, 1) := by decide +kernel
theorem dL_wrong_18 : decode cL_wrong 18 = .ok (.iload_n 0, 1) := by decide +kernel
theorem dL_wrong_19 : decode cL_wrong 19 = .ok (.if_icmp .ne 26, 3) := by decide +kernel
theorem dL_wrong_22 : decode cL_wrong 22 = .ok (.iload 7, 2) := by decide +kernel
theorem dL_wrong_24 : decode cL_wrong 24 = .ok (.aload_n 1, 1) := by decide +kernel
theorem dL_wrong_25 : decode cL_wrong 25 = .ok (.aload_n 2, 1) := by decide +kernel
theorem dL_wrong_26 : decode cL_wrong 26 = .ok (.aload_n 3, 1) := by decide +kernel
theorem dL_wrong_27 : decode cL_wrong 27 = .ok (.aload 5, 2) := by decide +kernel
theorem dL_wrong_29 : decode cL_wrong 29 = .ok (.aload 6, 2) := by decide +kernel
theorem dL_wrong_31 : decode cL_wrong 31 = .ok (.invokestatic 51, 3) := by decide +kernel
theorem dL_wrong_34 : decode cL_wrong 34 = .ok (.aload 4, 2) := by decide +kernel
theorem dL_wrong_36 : decode cL_wrong 36 = .ok (.iload 7, 2) := by decide +kernel
theorem dL_wrong_38 : decode cL_wrong 38 = .ok (.iaload, 1) := by decide +kernel
theorem dL_wrong_39 : decode cL_wrong 39 = .ok (.if_icmp .eq 6, 3) := by decide +kernel
theorem dL_wrong_42 : decode cL_wrong 42 = .ok (.iload 7, 2) := by decide +kernel
theorem dL_wrong_44 : decode cL_wrong 44 = .ok (.ireturn, 1) := by decide +kernel
theorem dL_wrong_45 : decode cL_wrong 45 = .ok (.iinc 7 1, 3) := by decide +kernel
theorem dL_wrong_48 : decode cL_wrong 48 = .ok (.goto (-45), 3) := by decide +kernel
theorem dL_wrong_51 : decode cL_wrong 51 = .ok (.iconst (-1), 1) := by decide +kernel
theorem dL_wrong_52 : decode cL_wrong 52 = .ok (.ireturn, 1) := by decide +kernel
theorem dL_uneven_0 : decode cL_uneven 0 = .ok (.lconst 0, 1) := by decide +kernel
theorem dL_uneven_1 : decode cL_uneven 1 = .ok (.lstore 4, 2) := by decide +kernel
theorem dL_uneven_3 : decode cL_uneven 3 = .ok (.lconst 0, 1) := by decide +kernel
theorem dL_uneven_4 : decode cL_uneven 4 = .ok (.lstore 6, 2) := by decide +kernel
theorem dL_uneven_6 : decode cL_uneven 6 = .ok (.iconst 0, 1) := by decide +kernel
theorem dL_uneven_7 : decode cL_uneven 7 = .ok (.istore 8, 2) := by decide +kernel
theorem dL_uneven_9 : decode cL_uneven 9 = .ok (.iload 8, 2) := by decide +kernel
theorem dL_uneven_11 : decode cL_uneven 11 = .ok (.aload_n 3, 1) := by decide +kernel
theorem dL_uneven_12 : decode cL_uneven 12 = .ok (.iconst 1, 1) := by decide +kernel
theorem dL_uneven_13 : decode cL_uneven 13 = .ok (.iaload, 1) := by decide +kernel
theorem dL_uneven_14 : decode cL_uneven 14 = .ok (.if_icmp .ge 114, 3) := by decide +kernel
theorem dL_uneven_17 : decode cL_uneven 17 = .ok (.iconst 0, 1) := by decide +kernel
theorem dL_uneven_18 : decode cL_uneven 18 = .ok (.istore 9, 2) := by decide +kernel
theorem dL_uneven_20 : decode cL_uneven 20 = .ok (.iload 9, 2) := by decide +kernel
theorem dL_uneven_22 : decode cL_uneven 22 = .ok (.aload_n 3, 1) := by decide +kernel
theorem dL_uneven_23 : decode cL_uneven 23 = .ok (.iconst 1, 1) := by decide +kernel
theorem dL_uneven_24 : decode cL_uneven 24 = .ok (.iaload, 1) := by decide +kernel
theorem dL_uneven_25 : decode cL_uneven 25 = .ok (.if_icmp .ge 68, 3) := by decide +kernel
theorem dL_uneven_28 : decode cL_uneven 28 = .ok (.aload_n 3, 1) := by decide +kernel
theorem dL_uneven_29 : decode cL_uneven 29 = .ok (.iconst 4, 1) := by decide +kernel
theorem dL_uneven_30 : decode cL_uneven 30 = .ok (.iaload, 1) := by decide +kernel
theorem dL_uneven_31 : decode cL_uneven 31 = .ok (.iload 8, 2) := by decide +kernel
theorem dL_uneven_33 : decode cL_uneven 33 = .ok (.ishr, 1) := by decide +kernel
theorem dL_uneven_34 : decode cL_uneven 34 = .ok (.iconst 1, 1) := by decide +kernel
theorem dL_uneven_35 : decode cL_uneven 35 = .ok (.iand, 1) := by decide +kernel
theorem dL_uneven_36 : decode cL_uneven 36 = .ok (.ifCond .ne 57, 3) := by decide +kernel
theorem dL_uneven_39 : decode cL_uneven 39 = .ok (.aload_n 1, 1) := by decide +kernel
theorem dL_uneven_40 : decode cL_uneven 40 = .ok (.iload 8, 2) := by decide +kernel
theorem dL_uneven_42 : decode cL_uneven 42 = .ok (.iaload, 1) := by decide +kernel
theorem dL_uneven_43 : decode cL_uneven 43 = .ok (.iload_n 0, 1) := by decide +kernel
theorem dL_uneven_44 : decode cL_uneven 44 = .ok (.if_icmp .ne 49, 3) := by decide +kernel
theorem dL_uneven_47 : decode cL_uneven 47 = .ok (.lload 6, 2) := by decide +kernel
theorem dL_uneven_49 : decode cL_uneven 49 = .ok (.aload_n 3, 1) := by decide +kernel
theorem dL_uneven_50 : decode cL_uneven 50 = .ok (.iconst 4, 1) := by decide +kernel
theorem dL_uneven_51 : decode cL_uneven 51 = .ok (.iaload, 1) := by decide +kernel
theorem dL_uneven_52 : decode cL_uneven 52 = .ok (.iload 9, 2) := by decide +kernel
theorem dL_uneven_54 : decode cL_uneven 54 = .ok (.ishr, 1) := by decide +kernel
theorem dL_uneven_55 : decode cL_uneven 55 = .ok (.iconst 1, 1) := by decide +kernel
theorem dL_uneven_56 : decode cL_uneven 56 = .ok (.iand, 1) := by decide +kernel
theorem dL_uneven_57 : decode cL_uneven 57 = .ok (.ifCond .ne 26, 3) := by decide +kernel
theorem dL_uneven_60 : decode cL_uneven 60 = .ok (.aload_n 1, 1) := by decide +kernel
theorem dL_uneven_61 : decode cL_uneven 61 = .ok (.iload 9, 2) := by decide +kernel
theorem dL_uneven_63 : decode cL_uneven 63 = .ok (.iaload, 1) := by decide +kernel
theorem dL_uneven_64 : decode cL_uneven 64 = .ok (.iload_n 0, 1) := by decide +kernel
theorem dL_uneven_65 : decode cL_uneven 65 = .ok (.if_icmp .ne 18, 3) := by decide +kernel
theorem dL_uneven_68 : decode cL_uneven 68 = .ok (.aload_n 2, 1) := by decide +kernel
theorem dL_uneven_69 : decode cL_uneven 69 = .ok (.iload 9, 2) := by decide +kernel
theorem dL_uneven_71 : decode cL_uneven 71 = .ok (.iaload, 1) := by decide +kernel
theorem dL_uneven_72 : decode cL_uneven 72 = .ok (.aload_n 2, 1) := by decide +kernel
theorem dL_uneven_73 : decode cL_uneven 73 = .ok (.iload 8, 2) := by decide +kernel
theorem dL_uneven_75 : decode cL_uneven 75 = .ok (.iaload, 1) := by decide +kernel
theorem dL_uneven_76 : decode cL_uneven 76 = .ok (.if_icmp .ne 7, 3) := by decide +kernel
theorem dL_uneven_79 : decode cL_uneven 79 = .ok (.lconst 1, 1) := by decide +kernel
theorem dL_uneven_80 : decode cL_uneven 80 = .ok (.goto 4, 3) := by decide +kernel
theorem dL_uneven_83 : decode cL_uneven 83 = .ok (.lconst 0, 1) := by decide +kernel
theorem dL_uneven_84 : decode cL_uneven 84 = .ok (.ladd, 1) := by decide +kernel
theorem dL_uneven_85 : decode cL_uneven 85 = .ok (.lstore 6, 2) := by decide +kernel
theorem dL_uneven_87 : decode cL_uneven 87 = .ok (.iinc 9 1, 3) := by decide +kernel
theorem dL_uneven_90 : decode cL_uneven 90 = .ok (.goto (-70), 3) := by decide +kernel
theorem dL_uneven_93 : decode cL_uneven 93 = .ok (.lload 4, 2) := by decide +kernel
end
section
theorem dL_uneven_95 : decode cL_uneven 95 = .ok (.aload_n 3, 1) := by decide +kernel
theorem dL_uneven_96 : decode cL_uneven 96 = .ok (.iconst 4, 1) := by decide +kernel
theorem dL_uneven_97 : decode cL_uneven 97 = .ok (.iaload, 1) := by decide +kernel
theorem dL_uneven_98 : decode cL_uneven 98 = .ok (.iload 8, 2) := by decide +kernel
theorem dL_uneven_100 : decode cL_uneven 100 = .ok (.ishr, 1) := by decide +kernel
theorem dL_uneven_101 : decode cL_uneven 101 = .ok (.iconst 1, 1) := by decide +kernel
theorem dL_uneven_102 : decode cL_uneven 102 = .ok (.iand, 1) := by decide +kernel
theorem dL_uneven_103 : decode cL_uneven 103 = .ok (.ifCond .ne 15, 3) := by decide +kernel
theorem dL_uneven_106 : decode cL_uneven 106 = .ok (.aload_n 1, 1) := by decide +kernel
theorem dL_uneven_107 : decode cL_uneven 107 = .ok (.iload 8, 2) := by decide +kernel
theorem dL_uneven_109 : decode cL_uneven 109 = .ok (.iaload, 1) := by decide +kernel
theorem dL_uneven_110 : decode cL_uneven 110 = .ok (.iload_n 0, 1) := by decide +kernel
theorem dL_uneven_111 : decode cL_uneven 111 = .ok (.if_icmp .ne 7, 3) := by decide +kernel
theorem dL_uneven_114 : decode cL_uneven 114 = .ok (.lconst 1, 1) := by decide +kernel
theorem dL_uneven_115 : decode cL_uneven 115 = .ok (.goto 4, 3) := by decide +kernel
theorem dL_uneven_118 : decode cL_uneven 118 = .ok (.lconst 0, 1) := by decide +kernel
theorem dL_uneven_119 : decode cL_uneven 119 = .ok (.ladd, 1) := by decide +kernel
theorem dL_uneven_120 : decode cL_uneven 120 = .ok (.lstore 4, 2) := by decide +kernel
theorem dL_uneven_122 : decode cL_uneven 122 = .ok (.iinc 8 1, 3) := by decide +kernel
theorem dL_uneven_125 : decode cL_uneven 125 = .ok (.goto (-116), 3) := by decide +kernel
theorem dL_uneven_128 : decode cL_uneven 128 = .ok (.iload_n 0, 1) := by decide +kernel
theorem dL_uneven_129 : decode cL_uneven 129 = .ok (.i2l, 1) := by decide +kernel
theorem dL_uneven_130 : decode cL_uneven 130 = .ok (.iload_n 0, 1) := by decide +kernel
theorem dL_uneven_131 : decode cL_uneven 131 = .ok (.i2l, 1) := by decide +kernel
theorem dL_uneven_132 : decode cL_uneven 132 = .ok (.lload 6, 2) := by decide +kernel
theorem dL_uneven_134 : decode cL_uneven 134 = .ok (.lmul, 1) := by decide +kernel
theorem dL_uneven_135 : decode cL_uneven 135 = .ok (.lload 4, 2) := by decide +kernel
theorem dL_uneven_137 : decode cL_uneven 137 = .ok (.lload 4, 2) := by decide +kernel
theorem dL_uneven_139 : decode cL_uneven 139 = .ok (.lmul, 1) := by decide +kernel
theorem dL_uneven_140 : decode cL_uneven 140 = .ok (.lsub, 1) := by decide +kernel
theorem dL_uneven_141 : decode cL_uneven 141 = .ok (.lmul, 1) := by decide +kernel
theorem dL_uneven_142 : decode cL_uneven 142 = .ok (.lreturn, 1) := by decide +kernel
theorem dL_count_0 : decode cL_count 0 = .ok (.iconst 0, 1) := by decide +kernel
theorem dL_count_1 : decode cL_count 1 = .ok (.istore 5, 2) := by decide +kernel
theorem dL_count_3 : decode cL_count 3 = .ok (.iconst 0, 1) := by decide +kernel
theorem dL_count_4 : decode cL_count 4 = .ok (.istore 6, 2) := by decide +kernel
theorem dL_count_6 : decode cL_count 6 = .ok (.iload 6, 2) := by decide +kernel
theorem dL_count_8 : decode cL_count 8 = .ok (.aload 4, 2) := by decide +kernel
theorem dL_count_10 : decode cL_count 10 = .ok (.iconst 1, 1) := by decide +kernel
theorem dL_count_11 : decode cL_count 11 = .ok (.iaload, 1) := by decide +kernel
theorem dL_count_12 : decode cL_count 12 = .ok (.if_icmp .ge 47, 3) := by decide +kernel
theorem dL_count_15 : decode cL_count 15 = .ok (.iload 5, 2) := by decide +kernel
theorem dL_count_17 : decode cL_count 17 = .ok (.aload 4, 2) := by decide +kernel
theorem dL_count_19 : decode cL_count 19 = .ok (.iconst 4, 1) := by decide +kernel
theorem dL_count_20 : decode cL_count 20 = .ok (.iaload, 1) := by decide +kernel
theorem dL_count_21 : decode cL_count 21 = .ok (.iload 6, 2) := by decide +kernel
theorem dL_count_23 : decode cL_count 23 = .ok (.ishr, 1) := by decide +kernel
theorem dL_count_24 : decode cL_count 24 = .ok (.iconst 1, 1) := by decide +kernel
theorem dL_count_25 : decode cL_count 25 = .ok (.iand, 1) := by decide +kernel
theorem dL_count_26 : decode cL_count 26 = .ok (.ifCond .ne 23, 3) := by decide +kernel
theorem dL_count_29 : decode cL_count 29 = .ok (.aload_n 2, 1) := by decide +kernel
theorem dL_count_30 : decode cL_count 30 = .ok (.iload 6, 2) := by decide +kernel
theorem dL_count_32 : decode cL_count 32 = .ok (.iaload, 1) := by decide +kernel
theorem dL_count_33 : decode cL_count 33 = .ok (.iload_n 0, 1) := by decide +kernel
theorem dL_count_34 : decode cL_count 34 = .ok (.if_icmp .ne 15, 3) := by decide +kernel
theorem dL_count_37 : decode cL_count 37 = .ok (.aload_n 3, 1) := by decide +kernel
theorem dL_count_38 : decode cL_count 38 = .ok (.iload 6, 2) := by decide +kernel
theorem dL_count_40 : decode cL_count 40 = .ok (.iaload, 1) := by decide +kernel
theorem dL_count_41 : decode cL_count 41 = .ok (.iload_n 1, 1) := by decide +kernel
theorem dL_count_42 : decode cL_count 42 = .ok (.if_icmp .ne 7, 3) := by decide +kernel
theorem dL_count_45 : decode cL_count 45 = .ok (.iconst 1, 1) := by decide +kernel
theorem dL_count_46 : decode cL_count 46 = .ok (.goto 4, 3) := by decide +kernel
theorem dL_count_49 : decode cL_count 49 = .ok (.iconst 0, 1) := by decide +kernel
theorem dL_count_50 : decode cL_count 50 = .ok (.iadd, 1) := by decide +kernel
theorem dL_count_51 : decode cL_count 51 = .ok (.istore 5, 2) := by decide +kernel
theorem dL_count_53 : decode cL_count 53 = .ok (.iinc 6 1, 3) := by decide +kernel
theorem dL_count_56 : decode cL_count 56 = .ok (.goto (-50), 3) := by decide +kernel
theorem dL_count_59 : decode cL_count 59 = .ok (.iload 5, 2) := by decide +kernel
theorem dL_count_61 : decode cL_count 61 = .ok (.ireturn, 1) := by decide +kernel
theorem dL_isSo_0 : decode cL_isSo 0 = .ok (.iconst (-1), 1) := by decide +kernel
theorem dL_isSo_1 : decode cL_isSo 1 = .ok (.istore 10, 2) := by decide +kernel
theorem dL_isSo_3 : decode cL_isSo 3 = .ok (.aload_n 0, 1) := by decide +kernel
theorem dL_isSo_4 : decode cL_isSo 4 = .ok (.invokevirtual 55, 3) := by decide +kernel
theorem dL_isSo_7 : decode cL_isSo 7 = .ok (.aload 9, 2) := by decide +kernel
theorem dL_isSo_9 : decode cL_isSo 9 = .ok (.iconst 1, 1) := by decide +kernel
theorem dL_isSo_10 : decode cL_isSo 10 = .ok (.iaload, 1) := by decide +kernel
theorem dL_isSo_11 : decode cL_isSo 11 = .ok (.if_icmp .ne 7, 3) := by decide +kernel
theorem dL_isSo_14 : decode cL_isSo 14 = .ok (.iconst 1, 1) := by decide +kernel
theorem dL_isSo_15 : decode cL_isSo 15 = .ok (.goto 4, 3) := by decide +kernel
theorem dL_isSo_18 : decode cL_isSo 18 = .ok (.iconst 0, 1) := by decide +kernel
theorem dL_isSo_19 : decode cL_isSo 19 = .ok (.istore 11, 2) := by decide +kernel
theorem dL_isSo_21 : decode cL_isSo 21 = .ok (.iconst 0, 1) := by decide +kernel
theorem dL_isSo_22 : decode cL_isSo 22 = .ok (.istore 12, 2) := by decide +kernel
theorem dL_isSo_24 : decode cL_isSo 24 = .ok (.iload 12, 2) := by decide +kernel
theorem dL_isSo_26 : decode cL_isSo 26 = .ok (.aload 9, 2) := by decide +kernel
theorem dL_isSo_28 : decode cL_isSo 28 = .ok (.iconst 1, 1) := by decide +kernel
theorem dL_isSo_29 : decode cL_isSo 29 = .ok (.iaload, 1) := by decide +kernel
theorem dL_isSo_30 : decode cL_isSo 30 = .ok (.if_icmp .ge 173, 3) := by decide +kernel
theorem dL_isSo_33 : decode cL_isSo 33 = .ok (.iload 11, 2) := by decide +kernel
theorem dL_isSo_35 : decode cL_isSo 35 = .ok (.ifCond .eq 168, 3) := by decide +kernel
theorem dL_isSo_38 : decode cL_isSo 38 = .ok (.iload 10, 2) := by decide +kernel
theorem dL_isSo_40 : decode cL_isSo 40 = .ok (.ifCond .ge 30, 3) := by decide +kernel
theorem dL_isSo_43 : decode cL_isSo 43 = .ok (.iload 12, 2) := by decide +kernel
theorem dL_isSo_45 : decode cL_isSo 45 = .ok (.aload_n 2, 1) := by decide +kernel
theorem dL_isSo_46 : decode cL_isSo 46 = .ok (.aload 4, 2) := by decide +kernel
theorem dL_isSo_48 : decode cL_isSo 48 = .ok (.aload 5, 2) := by decide +kernel
theorem dL_isSo_50 : decode cL_isSo 50 = .ok (.aload 6, 2) := by decide +kernel
theorem dL_isSo_52 : decode cL_isSo 52 = .ok (.aload 7, 2) := by decide +kernel
theorem dL_isSo_54 : decode cL_isSo 54 = .ok (.invokestatic 59, 3) := by decide +kernel
theorem dL_isSo_57 : decode cL_isSo 57 = .ok (.aload 7, 2) := by decide +kernel
theorem dL_isSo_59 : decode cL_isSo 59 = .ok (.iload 12, 2) := by decide +kernel
theorem dL_isSo_61 : decode cL_isSo 61 = .ok (.iaload, 1) := by decide +kernel
theorem dL_isSo_62 : decode cL_isSo 62 = .ok (.if_icmp .eq 8, 3) := by decide +kernel
theorem dL_isSo_65 : decode cL_isSo 65 = .ok (.iload 12, 2) := by decide +kernel
theorem dL_isSo_67 : decode cL_isSo 67 = .ok (.goto 5, 3) := by decide +kernel
theorem dL_isSo_70 : decode cL_isSo 70 = .ok (.iload 10, 2) := by decide +kernel
theorem dL_isSo_72 : decode cL_isSo 72 = .ok (.istore 10, 2) := by decide +kernel
theorem dL_isSo_74 : decode cL_isSo 74 = .ok (.aload_n 0, 1) := by decide +kernel
theorem dL_isSo_75 : decode cL_isSo 75 = .ok (.iload 12, 2) := by decide +kernel
theorem dL_isSo_77 : decode cL_isSo 77 = .ok (.invokevirtual 62, 3) := by decide +kernel
theorem dL_isSo_80 : decode cL_isSo 80 = .ok (.aload 5, 2) := by decide +kernel
theorem dL_isSo_82 : decode cL_isSo 82 = .ok (.iload 12, 2) := by decide +kernel
theorem dL_isSo_84 : decode cL_isSo 84 = .ok (.iaload, 1) := by decide +kernel
theorem dL_isSo_85 : decode cL_isSo 85 = .ok (.if_icmp .ne 109, 3) := by decide +kernel
theorem dL_isSo_88 : decode cL_isSo 88 = .ok (.aload_n 0, 1) := by decide +kernel
theorem dL_isSo_89 : decode cL_isSo 89 = .ok (.iload 12, 2) := by decide +kernel
theorem dL_isSo_91 : decode cL_isSo 91 = .ok (.invokevirtual 65, 3) := by decide +kernel
theorem dL_isSo_94 : decode cL_isSo 94 = .ok (.aload 6, 2) := by decide +kernel
theorem dL_isSo_96 : decode cL_isSo 96 = .ok (.iload 12, 2) := by decide +kernel
theorem dL_isSo_98 : decode cL_isSo 98 = .ok (.iaload, 1) := by decide +kernel
theorem dL_isSo_99 : decode cL_isSo 99 = .ok (.if_icmp .ne 95, 3) := by decide +kernel
theorem dL_isSo_102 : decode cL_isSo 102 = .ok (.aload_n 0, 1) := by decide +kernel
theorem dL_isSo_103 : decode cL_isSo 103 = .ok (.iload 12, 2) := by decide +kernel
theorem dL_isSo_105 : decode cL_isSo 105 = .ok (.invokevirtual 68, 3) := by decide +kernel
theorem dL_isSo_108 : decode cL_isSo 108 = .ok (.aload 7, 2) := by decide +kernel
theorem dL_isSo_110 : decode cL_isSo 110 = .ok (.iload 12, 2) := by decide +kernel
theorem dL_isSo_112 : decode cL_isSo 112 = .ok (.iaload, 1) := by decide +kernel
theorem dL_isSo_113 : decode cL_isSo 113 = .ok (.if_icmp .ne 81, 3) := by decide +kernel
theorem dL_isSo_116 : decode cL_isSo 116 = .ok (.aload_n 0, 1) := by decide +kernel
theorem dL_isSo_117 : decode cL_isSo 117 = .ok (.iload 12, 2) := by decide +kernel
theorem dL_isSo_119 : decode cL_isSo 119 = .ok (.invokevirtual 70, 3) := by decide +kernel
theorem dL_isSo_122 : decode cL_isSo 122 = .ok (.aload 9, 2) := by decide +kernel
theorem dL_isSo_124 : decode cL_isSo 124 = .ok (.iconst 4, 1) := by decide +kernel
theorem dL_isSo_125 : decode cL_isSo 125 = .ok (.iaload, 1) := by decide +kernel
theorem dL_isSo_126 : decode cL_isSo 126 = .ok (.iload 12, 2) := by decide +kernel
theorem dL_isSo_128 : decode cL_isSo 128 = .ok (.ishr, 1) := by decide +kernel
theorem dL_isSo_129 : decode cL_isSo 129 = .ok (.iconst 1, 1) := by decide +kernel
theorem dL_isSo_130 : decode cL_isSo 130 = .ok (.iand, 1) := by decide +kernel
theorem dL_isSo_131 : decode cL_isSo 131 = .ok (.iconst 1, 1) := by decide +kernel
theorem dL_isSo_132 : decode cL_isSo 132 = .ok (.if_icmp .ne 7, 3) := by decide +kernel
theorem dL_isSo_135 : decode cL_isSo 135 = .ok (.iconst 1, 1) := by decide +kernel
theorem dL_isSo_136 : decode cL_isSo 136 = .ok (.goto 4, 3) := by decide +kernel
theorem dL_isSo_139 : decode cL_isSo 139 = .ok (.iconst 0, 1) := by decide +kernel
theorem dL_isSo_140 : decode cL_isSo 140 = .ok (.if_icmp .ne 54, 3) := by decide +kernel
theorem dL_isSo_143 : decode cL_isSo 143 = .ok (.aload_n 0, 1) := by decide +kernel
theorem dL_isSo_144 : decode cL_isSo 144 = .ok (.iconst 3, 1) := by decide +kernel
theorem dL_isSo_145 : decode cL_isSo 145 = .ok (.iload 12, 2) := by decide +kernel
theorem dL_isSo_147 : decode cL_isSo 147 = .ok (.iconst 0, 1) := by decide +kernel
theorem dL_isSo_148 : decode cL_isSo 148 = .ok (.iconst 0, 1) := by decide +kernel
theorem dL_isSo_149 : decode cL_isSo 149 = .ok (.invokestatic 74, 3) := by decide +kernel
theorem dL_isSo_152 : decode cL_isSo 152 = .ok (.aload 9, 2) := by decide +kernel
theorem dL_isSo_154 : decode cL_isSo 154 = .ok (.iconst 2, 1) := by decide +kernel
theorem dL_isSo_155 : decode cL_isSo 155 = .ok (.iaload, 1) := by decide +kernel
theorem dL_isSo_156 : decode cL_isSo 156 = .ok (.aload_n 2, 1) := by decide +kernel
theorem dL_isSo_157 : decode cL_isSo 157 = .ok (.iload 12, 2) := by decide +kernel
theorem dL_isSo_159 : decode cL_isSo 159 = .ok (.iaload, 1) := by decide +kernel
theorem dL_isSo_160 : decode cL_isSo 160 = .ok (.iconst 4, 1) := by decide +kernel
theorem dL_isSo_161 : decode cL_isSo 161 = .ok (.idiv, 1) := by decide +kernel
theorem dL_isSo_162 : decode cL_isSo 162 = .ok (.ishr, 1) := by decide +kernel
theorem dL_isSo_163 : decode cL_isSo 163 = .ok (.iconst 1, 1) := by decide +kernel
theorem dL_isSo_164 : decode cL_isSo 164 = .ok (.iand, 1) := by decide +kernel
theorem dL_isSo_165 : decode cL_isSo 165 = .ok (.iconst 1, 1) := by decide +kernel
theorem dL_isSo_166 : decode cL_isSo 166 = .ok (.if_icmp .ne 19, 3) := by decide +kernel
theorem dL_isSo_169 : decode cL_isSo 169 = .ok (.iload 12, 2) := by decide +kernel
theorem dL_isSo_171 : decode cL_isSo 171 = .ok (.aload_n 2, 1) := by decide +kernel
theorem dL_isSo_172 : decode cL_isSo 172 = .ok (.aload_n 3, 1) := by decide +kernel
theorem dL_isSo_173 : decode cL_isSo 173 = .ok (.aload 4, 2) := by decide +kernel
theorem dL_isSo_175 : decode cL_isSo 175 = .ok (.aload 8, 2) := by decide +kernel
theorem dL_isSo_177 : decode cL_isSo 177 = .ok (.aload 9, 2) := by decide +kernel
theorem dL_isSo_179 : decode cL_isSo 179 = .ok (.invokestatic 51, 3) := by decide +kernel
theorem dL_isSo_182 : decode cL_isSo 182 = .ok (.goto 5, 3) := by decide +kernel
theorem dL_isSo_185 : decode cL_isSo 185 = .ok (.bipush (-3), 2) := by decide +kernel
theorem dL_isSo_187 : decode cL_isSo 187 = .ok (.if_icmp .ne 7, 3) := by decide +kernel
theorem dL_isSo_190 : decode cL_isSo 190 = .ok (.iconst 1, 1) := by decide +kernel
theorem dL_isSo_191 : decode cL_isSo 191 = .ok (.goto 4, 3) := by decide +kernel
theorem dL_isSo_194 : decode cL_isSo 194 = .ok (.iconst 0, 1) := by decide +kernel
theorem dL_isSo_195 : decode cL_isSo 195 = .ok (.istore 11, 2) := by decide +kernel
theorem dL_isSo_197 : decode cL_isSo 197 = .ok (.iinc 12 1, 3) := by decide +kernel
theorem dL_isSo_200 : decode cL_isSo 200 = .ok (.goto (-176), 3) := by decide +kernel
theorem dL_isSo_203 : decode cL_isSo 203 = .ok (.iconst 0, 1) := by decide +kernel
theorem dL_isSo_204 : decode cL_isSo 204 = .ok (.istore 12, 2) := by decide +kernel
theorem dL_isSo_206 : decode cL_isSo 206 = .ok (.iload 12, 2) := by decide +kernel
theorem dL_isSo_208 : decode cL_isSo 208 = .ok (.aload 9, 2) := by decide +kernel
theorem dL_isSo_210 : decode cL_isSo 210 = .ok (.iconst 0, 1) := by decide +kernel
theorem dL_isSo_211 : decode cL_isSo 211 = .ok (.iaload, 1) := by decide +kernel
theorem dL_isSo_212 : decode cL_isSo 212 = .ok (.if_icmp .ge 106, 3) := by decide +kernel
theorem dL_isSo_215 : decode cL_isSo 215 = .ok (.iload 11, 2) := by decide +kernel
theorem dL_isSo_217 : decode cL_isSo 217 = .ok (.ifCond .eq 101, 3) := by decide +kernel
theorem dL_isSo_220 : decode cL_isSo 220 = .ok (.aload 9, 2) := by decide +kernel
theorem dL_isSo_222 : decode cL_isSo 222 = .ok (.iconst 2, 1) := by decide +kernel
theorem dL_isSo_223 : decode cL_isSo 223 = .ok (.iaload, 1) := by decide +kernel
theorem dL_isSo_224 : decode cL_isSo 224 = .ok (.iload 12, 2) := by decide +kernel
theorem dL_isSo_226 : decode cL_isSo 226 = .ok (.ishr, 1) := by decide +kernel
theorem dL_isSo_227 : decode cL_isSo 227 = .ok (.iconst 1, 1) := by decide +kernel
theorem dL_isSo_228 : decode cL_isSo 228 = .ok (.iand, 1) := by decide +kernel
theorem dL_isSo_229 : decode cL_isSo 229 = .ok (.iconst 1, 1) := by decide +kernel
theorem dL_isSo_230 : decode cL_isSo 230 = .ok (.if_icmp .ne 7, 3) := by decide +kernel
theorem dL_isSo_233 : decode cL_isSo 233 = .ok (.iconst 1, 1) := by decide +kernel
theorem dL_isSo_234 : decode cL_isSo 234 = .ok (.goto 4, 3) := by decide +kernel
theorem dL_isSo_237 : decode cL_isSo 237 = .ok (.iconst 0, 1) := by decide +kernel
theorem dL_isSo_238 : decode cL_isSo 238 = .ok (.istore 13, 2) := by decide +kernel
theorem dL_isSo_240 : decode cL_isSo 240 = .ok (.aload_n 0, 1) := by decide +kernel
theorem dL_isSo_241 : decode cL_isSo 241 = .ok (.iload 12, 2) := by decide +kernel
theorem dL_isSo_243 : decode cL_isSo 243 = .ok (.invokevirtual 78, 3) := by decide +kernel
theorem dL_isSo_246 : decode cL_isSo 246 = .ok (.aload 8, 2) := by decide +kernel
theorem dL_isSo_248 : decode cL_isSo 248 = .ok (.iload 12, 2) := by decide +kernel
theorem dL_isSo_250 : decode cL_isSo 250 = .ok (.iaload, 1) := by decide +kernel
theorem dL_isSo_251 : decode cL_isSo 251 = .ok (.invokestatic 81, 3) := by decide +kernel
theorem dL_isSo_254 : decode cL_isSo 254 = .ok (.if_icmp .ne 55, 3) := by decide +kernel
theorem dL_isSo_257 : decode cL_isSo 257 = .ok (.aload_n 0, 1) := by decide +kernel
theorem dL_isSo_258 : decode cL_isSo 258 = .ok (.iload 12, 2) := by decide +kernel
theorem dL_isSo_260 : decode cL_isSo 260 = .ok (.invokevirtual 82, 3) := by decide +kernel
theorem dL_isSo_263 : decode cL_isSo 263 = .ok (.iload 13, 2) := by decide +kernel
theorem dL_isSo_265 : decode cL_isSo 265 = .ok (.if_icmp .ne 44, 3) := by decide +kernel
theorem dL_isSo_268 : decode cL_isSo 268 = .ok (.aload_n 0, 1) := by decide +kernel
theorem dL_isSo_269 : decode cL_isSo 269 = .ok (.iconst 4, 1) := by decide +kernel
theorem dL_isSo_270 : decode cL_isSo 270 = .ok (.iload 12, 2) := by decide +kernel
theorem dL_isSo_272 : decode cL_isSo 272 = .ok (.iconst 0, 1) := by decide +kernel
theorem dL_isSo_273 : decode cL_isSo 273 = .ok (.iconst 0, 1) := by decide +kernel
theorem dL_isSo_274 : decode cL_isSo 274 = .ok (.invokestatic 74, 3) := by decide +kernel
theorem dL_isSo_277 : decode cL_isSo 277 = .ok (.iload 13, 2) := by decide +kernel
theorem dL_isSo_279 : decode cL_isSo 279 = .ok (.ifCond .eq 21, 3) := by decide +kernel
theorem dL_isSo_282 : decode cL_isSo 282 = .ok (.iload 12, 2) := by decide +kernel
theorem dL_isSo_284 : decode cL_isSo 284 = .ok (.aload_n 2, 1) := by decide +kernel
theorem dL_isSo_285 : decode cL_isSo 285 = .ok (.aload_n 3, 1) := by decide +kernel
theorem dL_isSo_286 : decode cL_isSo 286 = .ok (.aload 4, 2) := by decide +kernel
theorem dL_isSo_288 : decode cL_isSo 288 = .ok (.aload 5, 2) := by decide +kernel
theorem dL_isSo_290 : decode cL_isSo 290 = .ok (.aload 8, 2) := by decide +kernel
theorem dL_isSo_292 : decode cL_isSo 292 = .ok (.aload 9, 2) := by decide +kernel
theorem dL_isSo_294 : decode cL_isSo 294 = .ok (.invokestatic 85, 3) := by decide +kernel
theorem dL_isSo_297 : decode cL_isSo 297 = .ok (.goto 5, 3) := by decide +kernel
theorem dL_isSo_300 : decode cL_isSo 300 = .ok (.bipush (-3), 2) := by decide +kernel
theorem dL_isSo_302 : decode cL_isSo 302 = .ok (.if_icmp .ne 7, 3) := by decide +kernel
theorem dL_isSo_305 : decode cL_isSo 305 = .ok (.iconst 1, 1) := by decide +kernel
theorem dL_isSo_306 : decode cL_isSo 306 = .ok (.goto 4, 3) := by decide +kernel
theorem dL_isSo_309 : decode cL_isSo 309 = .ok (.iconst 0, 1) := by decide +kernel
theorem dL_isSo_310 : decode cL_isSo 310 = .ok (.istore 11, 2) := by decide +kernel
theorem dL_isSo_312 : decode cL_isSo 312 = .ok (.iinc 12 1, 3) := by decide +kernel
theorem dL_isSo_315 : decode cL_isSo 315 = .ok (.goto (-109), 3) := by decide +kernel
theorem dL_isSo_318 : decode cL_isSo 318 = .ok (.iconst 0, 1) := by decide +kernel
theorem dL_isSo_319 : decode cL_isSo 319 = .ok (.istore 12, 2) := by decide +kernel
theorem dL_isSo_321 : decode cL_isSo 321 = .ok (.iload 12, 2) := by decide +kernel
theorem dL_isSo_323 : decode cL_isSo 323 = .ok (.iconst 4, 1) := by decide +kernel
theorem dL_isSo_324 : decode cL_isSo 324 = .ok (.if_icmp .ge 90, 3) := by decide +kernel
theorem dL_isSo_327 : decode cL_isSo 327 = .ok (.iload 11, 2) := by decide +kernel
theorem dL_isSo_329 : decode cL_isSo 329 = .ok (.ifCond .eq 85, 3) := by decide +kernel
theorem dL_isSo_332 : decode cL_isSo 332 = .ok (.iconst 0, 1) := by decide +kernel
theorem dL_isSo_333 : decode cL_isSo 333 = .ok (.istore 13, 2) := by decide +kernel
theorem dL_isSo_335 : decode cL_isSo 335 = .ok (.iconst 0, 1) := by decide +kernel
theorem dL_isSo_336 : decode cL_isSo 336 = .ok (.istore 14, 2) := by decide +kernel
theorem dL_isSo_338 : decode cL_isSo 338 = .ok (.iload 14, 2) := by decide +kernel
theorem dL_isSo_340 : decode cL_isSo 340 = .ok (.aload 9, 2) := by decide +kernel
theorem dL_isSo_342 : decode cL_isSo 342 = .ok (.iconst 1, 1) := by decide +kernel
theorem dL_isSo_343 : decode cL_isSo 343 = .ok (.iaload, 1) := by decide +kernel
theorem dL_isSo_344 : decode cL_isSo 344 = .ok (.if_icmp .ge 46, 3) := by decide +kernel
theorem dL_isSo_347 : decode cL_isSo 347 = .ok (.iload 13, 2) := by decide +kernel
theorem dL_isSo_349 : decode cL_isSo 349 = .ok (.aload_n 2, 1) := by decide +kernel
theorem dL_isSo_350 : decode cL_isSo 350 = .ok (.iload 14, 2) := by decide +kernel
theorem dL_isSo_352 : decode cL_isSo 352 = .ok (.iaload, 1) := by decide +kernel
theorem dL_isSo_353 : decode cL_isSo 353 = .ok (.iconst 4, 1) := by decide +kernel
theorem dL_isSo_354 : decode cL_isSo 354 = .ok (.irem, 1) := by decide +kernel
theorem dL_isSo_355 : decode cL_isSo 355 = .ok (.iload 12, 2) := by decide +kernel
theorem dL_isSo_357 : decode cL_isSo 357 = .ok (.if_icmp .ne 23, 3) := by decide +kernel
theorem dL_isSo_360 : decode cL_isSo 360 = .ok (.aload 9, 2) := by decide +kernel
theorem dL_isSo_362 : decode cL_isSo 362 = .ok (.iconst 4, 1) := by decide +kernel
theorem dL_isSo_363 : decode cL_isSo 363 = .ok (.iaload, 1) := by decide +kernel
theorem dL_isSo_364 : decode cL_isSo 364 = .ok (.iload 14, 2) := by decide +kernel
theorem dL_isSo_366 : decode cL_isSo 366 = .ok (.ishr, 1) := by decide +kernel
theorem dL_isSo_367 : decode cL_isSo 367 = .ok (.iconst 1, 1) := by decide +kernel
theorem dL_isSo_368 : decode cL_isSo 368 = .ok (.iand, 1) := by decide +kernel
theorem dL_isSo_369 : decode cL_isSo 369 = .ok (.ifCond .ne 11, 3) := by decide +kernel
theorem dL_isSo_372 : decode cL_isSo 372 = .ok (.aload 5, 2) := by decide +kernel
theorem dL_isSo_374 : decode cL_isSo 374 = .ok (.iload 14, 2) := by decide +kernel
theorem dL_isSo_376 : decode cL_isSo 376 = .ok (.iaload, 1) := by decide +kernel
theorem dL_isSo_377 : decode cL_isSo 377 = .ok (.goto 4, 3) := by decide +kernel
theorem dL_isSo_380 : decode cL_isSo 380 = .ok (.iconst 0, 1) := by decide +kernel
theorem dL_isSo_381 : decode cL_isSo 381 = .ok (.iadd, 1) := by decide +kernel
theorem dL_isSo_382 : decode cL_isSo 382 = .ok (.istore 13, 2) := by decide +kernel
theorem dL_isSo_384 : decode cL_isSo 384 = .ok (.iinc 14 1, 3) := by decide +kernel
theorem dL_isSo_387 : decode cL_isSo 387 = .ok (.goto (-49), 3) := by decide +kernel
theorem dL_isSo_390 : decode cL_isSo 390 = .ok (.aload_n 0, 1) := by decide +kernel
theorem dL_isSo_391 : decode cL_isSo 391 = .ok (.iload 12, 2) := by decide +kernel
theorem dL_isSo_393 : decode cL_isSo 393 = .ok (.invokevirtual 88, 3) := by decide +kernel
theorem dL_isSo_396 : decode cL_isSo 396 = .ok (.iload 13, 2) := by decide +kernel
theorem dL_isSo_398 : decode cL_isSo 398 = .ok (.if_icmp .ne 7, 3) := by decide +kernel
theorem dL_isSo_401 : decode cL_isSo 401 = .ok (.iconst 1, 1) := by decide +kernel
theorem dL_isSo_402 : decode cL_isSo 402 = .ok (.goto 4, 3) := by decide +kernel
theorem dL_isSo_405 : decode cL_isSo 405 = .ok (.iconst 0, 1) := by decide +kernel
theorem dL_isSo_406 : decode cL_isSo 406 = .ok (.istore 11, 2) := by decide +kernel
theorem dL_isSo_408 : decode cL_isSo 408 = .ok (.iinc 12 1, 3) := by decide +kernel
theorem dL_isSo_411 : decode cL_isSo 411 = .ok (.goto (-90), 3) := by decide +kernel
theorem dL_isSo_414 : decode cL_isSo 414 = .ok (.aload 9, 2) := by decide +kernel
theorem dL_isSo_416 : decode cL_isSo 416 = .ok (.iconst 1, 1) := by decide +kernel
theorem dL_isSo_417 : decode cL_isSo 417 = .ok (.iaload, 1) := by decide +kernel
theorem dL_isSo_418 : decode cL_isSo 418 = .ok (.ifCond .eq 11, 3) := by decide +kernel
theorem dL_isSo_421 : decode cL_isSo 421 = .ok (.iload_n 1, 1) := by decide +kernel
theorem dL_isSo_422 : decode cL_isSo 422 = .ok (.iconst 4, 1) := by decide +kernel
theorem dL_isSo_423 : decode cL_isSo 423 = .ok (.invokestatic 91, 3) := by decide +kernel
theorem dL_isSo_426 : decode cL_isSo 426 = .ok (.ifCond .ne 17, 3) := by decide +kernel
theorem dL_isSo_429 : decode cL_isSo 429 = .ok (.iconst 2, 1) := by decide +kernel
theorem dL_isSo_430 : decode cL_isSo 430 = .ok (.iload_n 1, 1) := by decide +kernel
theorem dL_isSo_431 : decode cL_isSo 431 = .ok (.iconst 2, 1) := by decide +kernel
theorem dL_isSo_432 : decode cL_isSo 432 = .ok (.ishr, 1) := by decide +kernel
theorem dL_isSo_433 : decode cL_isSo 433 = .ok (.sipush 999, 3) := by decide +kernel
theorem dL_isSo_436 : decode cL_isSo 436 = .ok (.invokestatic 91, 3) := by decide +kernel
theorem dL_isSo_439 : decode cL_isSo 439 = .ok (.iadd, 1) := by decide +kernel
theorem dL_isSo_440 : decode cL_isSo 440 = .ok (.goto 16, 3) := by decide +kernel
theorem dL_isSo_443 : decode cL_isSo 443 = .ok (.aload 4, 2) := by decide +kernel
theorem dL_isSo_445 : decode cL_isSo 445 = .ok (.iload_n 1, 1) := by decide +kernel
theorem dL_isSo_446 : decode cL_isSo 446 = .ok (.iconst 3, 1) := by decide +kernel
theorem dL_isSo_447 : decode cL_isSo 447 = .ok (.ishr, 1) := by decide +kernel
theorem dL_isSo_448 : decode cL_isSo 448 = .ok (.aload 9, 2) := by decide +kernel
theorem dL_isSo_450 : decode cL_isSo 450 = .ok (.iconst 1, 1) := by decide +kernel
theorem dL_isSo_451 : decode cL_isSo 451 = .ok (.iaload, 1) := by decide +kernel
theorem dL_isSo_452 : decode cL_isSo 452 = .ok (.invokestatic 91, 3) := by decide +kernel
theorem dL_isSo_455 : decode cL_isSo 455 = .ok (.iaload, 1) := by decide +kernel
theorem dL_isSo_456 : decode cL_isSo 456 = .ok (.istore 12, 2) := by decide +kernel
theorem dL_isSo_458 : decode cL_isSo 458 = .ok (.aload 9, 2) := by decide +kernel
theorem dL_isSo_460 : decode cL_isSo 460 = .ok (.iconst 1, 1) := by decide +kernel
theorem dL_isSo_461 : decode cL_isSo 461 = .ok (.iaload, 1) := by decide +kernel
theorem dL_isSo_462 : decode cL_isSo 462 = .ok (.ifCond .eq 11, 3) := by decide +kernel
theorem dL_isSo_465 : decode cL_isSo 465 = .ok (.iload_n 1, 1) := by decide +kernel
theorem dL_isSo_466 : decode cL_isSo 466 = .ok (.iconst 3, 1) := by decide +kernel
theorem dL_isSo_467 : decode cL_isSo 467 = .ok (.invokestatic 91, 3) := by decide +kernel
theorem dL_isSo_470 : decode cL_isSo 470 = .ok (.ifCond .ne 16, 3) := by decide +kernel
theorem dL_isSo_473 : decode cL_isSo 473 = .ok (.iconst 1, 1) := by decide +kernel
theorem dL_isSo_474 : decode cL_isSo 474 = .ok (.iload_n 1, 1) := by decide +kernel
theorem dL_isSo_475 : decode cL_isSo 475 = .ok (.iconst 4, 1) := by decide +kernel
theorem dL_isSo_476 : decode cL_isSo 476 = .ok (.ishr, 1) := by decide +kernel
theorem dL_isSo_477 : decode cL_isSo 477 = .ok (.iload 12, 2) := by decide +kernel
theorem dL_isSo_479 : decode cL_isSo 479 = .ok (.invokestatic 91, 3) := by decide +kernel
theorem dL_isSo_482 : decode cL_isSo 482 = .ok (.iadd, 1) := by decide +kernel
theorem dL_isSo_483 : decode cL_isSo 483 = .ok (.goto 16, 3) := by decide +kernel
theorem dL_isSo_486 : decode cL_isSo 486 = .ok (.aload 5, 2) := by decide +kernel
theorem dL_isSo_488 : decode cL_isSo 488 = .ok (.iload_n 1, 1) := by decide +kernel
theorem dL_isSo_489 : decode cL_isSo 489 = .ok (.iconst 3, 1) := by decide +kernel
theorem dL_isSo_490 : decode cL_isSo 490 = .ok (.ishr, 1) := by decide +kernel
theorem dL_isSo_491 : decode cL_isSo 491 = .ok (.aload 9, 2) := by decide +kernel
theorem dL_isSo_493 : decode cL_isSo 493 = .ok (.iconst 1, 1) := by decide +kernel
theorem dL_isSo_494 : decode cL_isSo 494 = .ok (.iaload, 1) := by decide +kernel
theorem dL_isSo_495 : decode cL_isSo 495 = .ok (.invokestatic 91, 3) := by decide +kernel
theorem dL_isSo_498 : decode cL_isSo 498 = .ok (.iaload, 1) := by decide +kernel
theorem dL_isSo_499 : decode cL_isSo 499 = .ok (.istore 13, 2) := by decide +kernel
theorem dL_isSo_501 : decode cL_isSo 501 = .ok (.iload 13, 2) := by decide +kernel
theorem dL_isSo_503 : decode cL_isSo 503 = .ok (.iload 12, 2) := by decide +kernel
theorem dL_isSo_505 : decode cL_isSo 505 = .ok (.if_icmp .le 8, 3) := by decide +kernel
theorem dL_isSo_508 : decode cL_isSo 508 = .ok (.iload 12, 2) := by decide +kernel
theorem dL_isSo_510 : decode cL_isSo 510 = .ok (.goto 5, 3) := by decide +kernel
theorem dL_isSo_513 : decode cL_isSo 513 = .ok (.iload 13, 2) := by decide +kernel
theorem dL_isSo_515 : decode cL_isSo 515 = .ok (.istore 13, 2) := by decide +kernel
theorem dL_isSo_517 : decode cL_isSo 517 = .ok (.iload 11, 2) := by decide +kernel
theorem dL_isSo_519 : decode cL_isSo 519 = .ok (.ifCond .eq 61, 3) := by decide +kernel
theorem dL_isSo_522 : decode cL_isSo 522 = .ok (.aload_n 0, 1) := by decide +kernel
theorem dL_isSo_523 : decode cL_isSo 523 = .ok (.invokevirtual 94, 3) := by decide +kernel
theorem dL_isSo_526 : decode cL_isSo 526 = .ok (.iload 10, 2) := by decide +kernel
theorem dL_isSo_528 : decode cL_isSo 528 = .ok (.if_icmp .ne 52, 3) := by decide +kernel
theorem dL_isSo_531 : decode cL_isSo 531 = .ok (.aload_n 0, 1) := by decide +kernel
theorem dL_isSo_532 : decode cL_isSo 532 = .ok (.iload 12, 2) := by decide +kernel
theorem dL_isSo_534 : decode cL_isSo 534 = .ok (.invokevirtual 97, 3) := by decide +kernel
theorem dL_isSo_537 : decode cL_isSo 537 = .ok (.iload 12, 2) := by decide +kernel
theorem dL_isSo_539 : decode cL_isSo 539 = .ok (.aload 4, 2) := by decide +kernel
theorem dL_isSo_541 : decode cL_isSo 541 = .ok (.aload 5, 2) := by decide +kernel
theorem dL_isSo_543 : decode cL_isSo 543 = .ok (.aload 9, 2) := by decide +kernel
theorem dL_isSo_545 : decode cL_isSo 545 = .ok (.invokestatic 101, 3) := by decide +kernel
theorem dL_isSo_548 : decode cL_isSo 548 = .ok (.lcmp, 1) := by decide +kernel
theorem dL_isSo_549 : decode cL_isSo 549 = .ok (.ifCond .ne 31, 3) := by decide +kernel
theorem dL_isSo_552 : decode cL_isSo 552 = .ok (.aload_n 0, 1) := by decide +kernel
theorem dL_isSo_553 : decode cL_isSo 553 = .ok (.iload 12, 2) := by decide +kernel
theorem dL_isSo_555 : decode cL_isSo 555 = .ok (.iload 13, 2) := by decide +kernel
theorem dL_isSo_557 : decode cL_isSo 557 = .ok (.invokevirtual 104, 3) := by decide +kernel
theorem dL_isSo_560 : decode cL_isSo 560 = .ok (.iload 12, 2) := by decide +kernel
theorem dL_isSo_562 : decode cL_isSo 562 = .ok (.iload 13, 2) := by decide +kernel
theorem dL_isSo_564 : decode cL_isSo 564 = .ok (.aload 4, 2) := by decide +kernel
theorem dL_isSo_566 : decode cL_isSo 566 = .ok (.aload 5, 2) := by decide +kernel
theorem dL_isSo_568 : decode cL_isSo 568 = .ok (.aload 9, 2) := by decide +kernel
theorem dL_isSo_570 : decode cL_isSo 570 = .ok (.invokestatic 107, 3) := by decide +kernel
theorem dL_isSo_573 : decode cL_isSo 573 = .ok (.if_icmp .ne 7, 3) := by decide +kernel
theorem dL_isSo_576 : decode cL_isSo 576 = .ok (.iconst 1, 1) := by decide +kernel
theorem dL_isSo_577 : decode cL_isSo 577 = .ok (.goto 4, 3) := by decide +kernel
theorem dL_isSo_580 : decode cL_isSo 580 = .ok (.iconst 0, 1) := by decide +kernel
theorem dL_isSo_581 : decode cL_isSo 581 = .ok (.ireturn, 1) := by decide +kernel
theorem dL_seeds_0 : decode cL_seeds 0 = .ok (.iconst 0, 1) := by decide +kernel
theorem dL_seeds_1 : decode cL_seeds 1 = .ok (.istore_n 3, 1) := by decide +kernel
theorem dL_seeds_2 : decode cL_seeds 2 = .ok (.iconst 0, 1) := by decide +kernel
theorem dL_seeds_3 : decode cL_seeds 3 = .ok (.istore 4, 2) := by decide +kernel
theorem dL_seeds_5 : decode cL_seeds 5 = .ok (.iload 4, 2) := by decide +kernel
theorem dL_seeds_7 : decode cL_seeds 7 = .ok (.sipush 10007, 3) := by decide +kernel
theorem dL_seeds_10 : decode cL_seeds 10 = .ok (.if_icmp .ge 45, 3) := by decide +kernel
theorem dL_seeds_13 : decode cL_seeds 13 = .ok (.iload_n 3, 1) := by decide +kernel
theorem dL_seeds_14 : decode cL_seeds 14 = .ok (.iload 4, 2) := by decide +kernel
theorem dL_seeds_16 : decode cL_seeds 16 = .ok (.invokestatic 81, 3) := by decide +kernel
theorem dL_seeds_19 : decode cL_seeds 19 = .ok (.aload_n 2, 1) := by decide +kernel
theorem dL_seeds_20 : decode cL_seeds 20 = .ok (.iload_n 1, 1) := by decide +kernel
theorem dL_seeds_21 : decode cL_seeds 21 = .ok (.iaload, 1) := by decide +kernel
theorem dL_seeds_22 : decode cL_seeds 22 = .ok (.invokestatic 81, 3) := by decide +kernel
theorem dL_seeds_25 : decode cL_seeds 25 = .ok (.if_icmp .ne 21, 3) := by decide +kernel
theorem dL_seeds_28 : decode cL_seeds 28 = .ok (.iload 4, 2) := by decide +kernel
theorem dL_seeds_30 : decode cL_seeds 30 = .ok (.sipush 5494, 3) := by decide +kernel
theorem dL_seeds_33 : decode cL_seeds 33 = .ok (.if_icmp .ge 8, 3) := by decide +kernel
theorem dL_seeds_36 : decode cL_seeds 36 = .ok (.bipush 7, 2) := by decide +kernel
theorem dL_seeds_38 : decode cL_seeds 38 = .ok (.goto 9, 3) := by decide +kernel
theorem dL_seeds_41 : decode cL_seeds 41 = .ok (.bipush 6, 2) := by decide +kernel
theorem dL_seeds_43 : decode cL_seeds 43 = .ok (.goto 4, 3) := by decide +kernel
theorem dL_seeds_46 : decode cL_seeds 46 = .ok (.iconst 0, 1) := by decide +kernel
theorem dL_seeds_47 : decode cL_seeds 47 = .ok (.iadd, 1) := by decide +kernel
theorem dL_seeds_48 : decode cL_seeds 48 = .ok (.istore_n 3, 1) := by decide +kernel
theorem dL_seeds_49 : decode cL_seeds 49 = .ok (.iinc 4 1, 3) := by decide +kernel
theorem dL_seeds_52 : decode cL_seeds 52 = .ok (.goto (-47), 3) := by decide +kernel
theorem dL_seeds_55 : decode cL_seeds 55 = .ok (.aload_n 0, 1) := by decide +kernel
theorem dL_seeds_56 : decode cL_seeds 56 = .ok (.iload_n 1, 1) := by decide +kernel
theorem dL_seeds_57 : decode cL_seeds 57 = .ok (.invokevirtual 110, 3) := by decide +kernel
theorem dL_seeds_60 : decode cL_seeds 60 = .ok (.iload_n 3, 1) := by decide +kernel
theorem dL_seeds_61 : decode cL_seeds 61 = .ok (.if_icmp .ne 7, 3) := by decide +kernel
theorem dL_seeds_64 : decode cL_seeds 64 = .ok (.iconst 1, 1) := by decide +kernel
theorem dL_seeds_65 : decode cL_seeds 65 = .ok (.goto 4, 3) := by decide +kernel
theorem dL_seeds_68 : decode cL_seeds 68 = .ok (.iconst 0, 1) := by decide +kernel
theorem dL_seeds_69 : decode cL_seeds 69 = .ok (.ireturn, 1) := by decide +kernel
end
section
theorem dL_law_0 : decode cL_law 0 = .ok (.new 11, 3) := by decide +kernel
theorem dL_law_3 : decode cL_law 3 = .ok (.dup, 1) := by decide +kernel
theorem dL_law_4 : decode cL_law 4 = .ok (.invokespecial 113, 3) := by decide +kernel
theorem dL_law_7 : decode cL_law 7 = .ok (.astore_n 1, 1) := by decide +kernel
theorem dL_law_8 : decode cL_law 8 = .ok (.bipush 11, 2) := by decide +kernel
theorem dL_law_10 : decode cL_law 10 = .ok (.newarray .int, 2) := by decide +kernel
theorem dL_law_12 : decode cL_law 12 = .ok (.astore_n 2, 1) := by decide +kernel
theorem dL_law_13 : decode cL_law 13 = .ok (.bipush 12, 2) := by decide +kernel
theorem dL_law_15 : decode cL_law 15 = .ok (.newarray .int, 2) := by decide +kernel
theorem dL_law_17 : decode cL_law 17 = .ok (.astore_n 3, 1) := by decide +kernel
theorem dL_law_18 : decode cL_law 18 = .ok (.bipush 30, 2) := by decide +kernel
theorem dL_law_20 : decode cL_law 20 = .ok (.newarray .int, 2) := by decide +kernel
theorem dL_law_22 : decode cL_law 22 = .ok (.astore 4, 2) := by decide +kernel
theorem dL_law_24 : decode cL_law 24 = .ok (.bipush 30, 2) := by decide +kernel
theorem dL_law_26 : decode cL_law 26 = .ok (.newarray .int, 2) := by decide +kernel
theorem dL_law_28 : decode cL_law 28 = .ok (.astore 5, 2) := by decide +kernel
theorem dL_law_30 : decode cL_law 30 = .ok (.bipush 30, 2) := by decide +kernel
theorem dL_law_32 : decode cL_law 32 = .ok (.newarray .int, 2) := by decide +kernel
theorem dL_law_34 : decode cL_law 34 = .ok (.astore 6, 2) := by decide +kernel
theorem dL_law_36 : decode cL_law 36 = .ok (.bipush 30, 2) := by decide +kernel
theorem dL_law_38 : decode cL_law 38 = .ok (.newarray .int, 2) := by decide +kernel
theorem dL_law_40 : decode cL_law 40 = .ok (.astore 7, 2) := by decide +kernel
theorem dL_law_42 : decode cL_law 42 = .ok (.bipush 30, 2) := by decide +kernel
theorem dL_law_44 : decode cL_law 44 = .ok (.newarray .int, 2) := by decide +kernel
theorem dL_law_46 : decode cL_law 46 = .ok (.astore 8, 2) := by decide +kernel
theorem dL_law_48 : decode cL_law 48 = .ok (.bipush 30, 2) := by decide +kernel
theorem dL_law_50 : decode cL_law 50 = .ok (.newarray .int, 2) := by decide +kernel
theorem dL_law_52 : decode cL_law 52 = .ok (.astore 9, 2) := by decide +kernel
theorem dL_law_54 : decode cL_law 54 = .ok (.iconst 0, 1) := by decide +kernel
theorem dL_law_55 : decode cL_law 55 = .ok (.istore 10, 2) := by decide +kernel
theorem dL_law_57 : decode cL_law 57 = .ok (.iload 10, 2) := by decide +kernel
theorem dL_law_59 : decode cL_law 59 = .ok (.bipush 80, 2) := by decide +kernel
theorem dL_law_61 : decode cL_law 61 = .ok (.if_icmp .ge 897, 3) := by decide +kernel
theorem dL_law_64 : decode cL_law 64 = .ok (.aload_n 0, 1) := by decide +kernel
theorem dL_law_65 : decode cL_law 65 = .ok (.iload 10, 2) := by decide +kernel
theorem dL_law_67 : decode cL_law 67 = .ok (.invokestatic 114, 3) := by decide +kernel
theorem dL_law_70 : decode cL_law 70 = .ok (.istore 11, 2) := by decide +kernel
theorem dL_law_72 : decode cL_law 72 = .ok (.iload 11, 2) := by decide +kernel
theorem dL_law_74 : decode cL_law 74 = .ok (.bipush 16, 2) := by decide +kernel
theorem dL_law_76 : decode cL_law 76 = .ok (.invokestatic 91, 3) := by decide +kernel
theorem dL_law_79 : decode cL_law 79 = .ok (.istore 12, 2) := by decide +kernel
theorem dL_law_81 : decode cL_law 81 = .ok (.aload_n 2, 1) := by decide +kernel
theorem dL_law_82 : decode cL_law 82 = .ok (.iconst 1, 1) := by decide +kernel
theorem dL_law_83 : decode cL_law 83 = .ok (.iaload, 1) := by decide +kernel
theorem dL_law_84 : decode cL_law 84 = .ok (.ifCond .ne 7, 3) := by decide +kernel
theorem dL_law_87 : decode cL_law 87 = .ok (.iconst 0, 1) := by decide +kernel
theorem dL_law_88 : decode cL_law 88 = .ok (.goto 13, 3) := by decide +kernel
theorem dL_law_91 : decode cL_law 91 = .ok (.iload 11, 2) := by decide +kernel
theorem dL_law_93 : decode cL_law 93 = .ok (.iconst 5, 1) := by decide +kernel
theorem dL_law_94 : decode cL_law 94 = .ok (.ishr, 1) := by decide +kernel
theorem dL_law_95 : decode cL_law 95 = .ok (.aload_n 2, 1) := by decide +kernel
theorem dL_law_96 : decode cL_law 96 = .ok (.iconst 1, 1) := by decide +kernel
theorem dL_law_97 : decode cL_law 97 = .ok (.iaload, 1) := by decide +kernel
theorem dL_law_98 : decode cL_law 98 = .ok (.invokestatic 91, 3) := by decide +kernel
theorem dL_law_101 : decode cL_law 101 = .ok (.istore 13, 2) := by decide +kernel
theorem dL_law_103 : decode cL_law 103 = .ok (.iconst 1, 1) := by decide +kernel
theorem dL_law_104 : decode cL_law 104 = .ok (.istore 14, 2) := by decide +kernel
theorem dL_law_106 : decode cL_law 106 = .ok (.aload_n 2, 1) := by decide +kernel
theorem dL_law_107 : decode cL_law 107 = .ok (.iconst 0, 1) := by decide +kernel
theorem dL_law_108 : decode cL_law 108 = .ok (.iaload, 1) := by decide +kernel
theorem dL_law_109 : decode cL_law 109 = .ok (.ifCond .eq 16, 3) := by decide +kernel
theorem dL_law_112 : decode cL_law 112 = .ok (.iload 12, 2) := by decide +kernel
theorem dL_law_114 : decode cL_law 114 = .ok (.ifCond .ne 70, 3) := by decide +kernel
theorem dL_law_117 : decode cL_law 117 = .ok (.aload_n 2, 1) := by decide +kernel
theorem dL_law_118 : decode cL_law 118 = .ok (.iconst 0, 1) := by decide +kernel
theorem dL_law_119 : decode cL_law 119 = .ok (.iaload, 1) := by decide +kernel
theorem dL_law_120 : decode cL_law 120 = .ok (.bipush 6, 2) := by decide +kernel
theorem dL_law_122 : decode cL_law 122 = .ok (.if_icmp .ge 62, 3) := by decide +kernel
theorem dL_law_125 : decode cL_law 125 = .ok (.iload 11, 2) := by decide +kernel
theorem dL_law_127 : decode cL_law 127 = .ok (.iconst 4, 1) := by decide +kernel
theorem dL_law_128 : decode cL_law 128 = .ok (.ishr, 1) := by decide +kernel
theorem dL_law_129 : decode cL_law 129 = .ok (.ldc 43, 2) := by decide +kernel
theorem dL_law_131 : decode cL_law 131 = .ok (.invokestatic 91, 3) := by decide +kernel
theorem dL_law_134 : decode cL_law 134 = .ok (.istore 15, 2) := by decide +kernel
theorem dL_law_136 : decode cL_law 136 = .ok (.aload_n 3, 1) := by decide +kernel
theorem dL_law_137 : decode cL_law 137 = .ok (.aload_n 2, 1) := by decide +kernel
theorem dL_law_138 : decode cL_law 138 = .ok (.iconst 0, 1) := by decide +kernel
theorem dL_law_139 : decode cL_law 139 = .ok (.iaload, 1) := by decide +kernel
theorem dL_law_140 : decode cL_law 140 = .ok (.iload 15, 2) := by decide +kernel
theorem dL_law_142 : decode cL_law 142 = .ok (.iastore, 1) := by decide +kernel
theorem dL_law_143 : decode cL_law 143 = .ok (.aload_n 3, 1) := by decide +kernel
theorem dL_law_144 : decode cL_law 144 = .ok (.bipush 6, 2) := by decide +kernel
theorem dL_law_146 : decode cL_law 146 = .ok (.aload_n 2, 1) := by decide +kernel
theorem dL_law_147 : decode cL_law 147 = .ok (.iconst 0, 1) := by decide +kernel
theorem dL_law_148 : decode cL_law 148 = .ok (.iaload, 1) := by decide +kernel
theorem dL_law_149 : decode cL_law 149 = .ok (.iadd, 1) := by decide +kernel
theorem dL_law_150 : decode cL_law 150 = .ok (.iload 15, 2) := by decide +kernel
theorem dL_law_152 : decode cL_law 152 = .ok (.iastore, 1) := by decide +kernel
theorem dL_law_153 : decode cL_law 153 = .ok (.aload_n 2, 1) := by decide +kernel
theorem dL_law_154 : decode cL_law 154 = .ok (.iconst 0, 1) := by decide +kernel
theorem dL_law_155 : decode cL_law 155 = .ok (.dup2, 1) := by decide +kernel
theorem dL_law_156 : decode cL_law 156 = .ok (.iaload, 1) := by decide +kernel
theorem dL_law_157 : decode cL_law 157 = .ok (.iconst 1, 1) := by decide +kernel
theorem dL_law_158 : decode cL_law 158 = .ok (.iadd, 1) := by decide +kernel
theorem dL_law_159 : decode cL_law 159 = .ok (.iastore, 1) := by decide +kernel
theorem dL_law_160 : decode cL_law 160 = .ok (.aload_n 1, 1) := by decide +kernel
theorem dL_law_161 : decode cL_law 161 = .ok (.iload 15, 2) := by decide +kernel
theorem dL_law_163 : decode cL_law 163 = .ok (.invokevirtual 118, 3) := by decide +kernel
theorem dL_law_166 : decode cL_law 166 = .ok (.aload_n 2, 1) := by decide +kernel
theorem dL_law_167 : decode cL_law 167 = .ok (.iconst 0, 1) := by decide +kernel
theorem dL_law_168 : decode cL_law 168 = .ok (.iaload, 1) := by decide +kernel
theorem dL_law_169 : decode cL_law 169 = .ok (.iconst 1, 1) := by decide +kernel
theorem dL_law_170 : decode cL_law 170 = .ok (.isub, 1) := by decide +kernel
theorem dL_law_171 : decode cL_law 171 = .ok (.if_icmp .ne 7, 3) := by decide +kernel
theorem dL_law_174 : decode cL_law 174 = .ok (.iconst 1, 1) := by decide +kernel
theorem dL_law_175 : decode cL_law 175 = .ok (.goto 4, 3) := by decide +kernel
theorem dL_law_178 : decode cL_law 178 = .ok (.iconst 0, 1) := by decide +kernel
theorem dL_law_179 : decode cL_law 179 = .ok (.istore 14, 2) := by decide +kernel
theorem dL_law_181 : decode cL_law 181 = .ok (.goto 703, 3) := by decide +kernel
theorem dL_law_184 : decode cL_law 184 = .ok (.iload 12, 2) := by decide +kernel
theorem dL_law_186 : decode cL_law 186 = .ok (.bipush 8, 2) := by decide +kernel
theorem dL_law_188 : decode cL_law 188 = .ok (.if_icmp .ge 229, 3) := by decide +kernel
theorem dL_law_191 : decode cL_law 191 = .ok (.aload_n 2, 1) := by decide +kernel
theorem dL_law_192 : decode cL_law 192 = .ok (.iconst 1, 1) := by decide +kernel
theorem dL_law_193 : decode cL_law 193 = .ok (.iaload, 1) := by decide +kernel
theorem dL_law_194 : decode cL_law 194 = .ok (.bipush 30, 2) := by decide +kernel
theorem dL_law_196 : decode cL_law 196 = .ok (.if_icmp .ge 221, 3) := by decide +kernel
theorem dL_law_199 : decode cL_law 199 = .ok (.iload 11, 2) := by decide +kernel
theorem dL_law_201 : decode cL_law 201 = .ok (.iconst 4, 1) := by decide +kernel
theorem dL_law_202 : decode cL_law 202 = .ok (.ishr, 1) := by decide +kernel
theorem dL_law_203 : decode cL_law 203 = .ok (.aload_n 2, 1) := by decide +kernel
theorem dL_law_204 : decode cL_law 204 = .ok (.iconst 0, 1) := by decide +kernel
theorem dL_law_205 : decode cL_law 205 = .ok (.iaload, 1) := by decide +kernel
theorem dL_law_206 : decode cL_law 206 = .ok (.invokestatic 91, 3) := by decide +kernel
theorem dL_law_209 : decode cL_law 209 = .ok (.istore 15, 2) := by decide +kernel
theorem dL_law_211 : decode cL_law 211 = .ok (.iload 11, 2) := by decide +kernel
theorem dL_law_213 : decode cL_law 213 = .ok (.bipush 7, 2) := by decide +kernel
theorem dL_law_215 : decode cL_law 215 = .ok (.ishr, 1) := by decide +kernel
theorem dL_law_216 : decode cL_law 216 = .ok (.iconst 4, 1) := by decide +kernel
theorem dL_law_217 : decode cL_law 217 = .ok (.invokestatic 91, 3) := by decide +kernel
theorem dL_law_220 : decode cL_law 220 = .ok (.istore 16, 2) := by decide +kernel
theorem dL_law_222 : decode cL_law 222 = .ok (.iload 11, 2) := by decide +kernel
theorem dL_law_224 : decode cL_law 224 = .ok (.bipush 13, 2) := by decide +kernel
theorem dL_law_226 : decode cL_law 226 = .ok (.ishr, 1) := by decide +kernel
theorem dL_law_227 : decode cL_law 227 = .ok (.iconst 3, 1) := by decide +kernel
theorem dL_law_228 : decode cL_law 228 = .ok (.invokestatic 91, 3) := by decide +kernel
theorem dL_law_231 : decode cL_law 231 = .ok (.ifCond .ne 19, 3) := by decide +kernel
theorem dL_law_234 : decode cL_law 234 = .ok (.iconst 2, 1) := by decide +kernel
theorem dL_law_235 : decode cL_law 235 = .ok (.iload 11, 2) := by decide +kernel
theorem dL_law_237 : decode cL_law 237 = .ok (.bipush 6, 2) := by decide +kernel
theorem dL_law_239 : decode cL_law 239 = .ok (.ishr, 1) := by decide +kernel
theorem dL_law_240 : decode cL_law 240 = .ok (.sipush 999, 3) := by decide +kernel
theorem dL_law_243 : decode cL_law 243 = .ok (.invokestatic 91, 3) := by decide +kernel
theorem dL_law_246 : decode cL_law 246 = .ok (.iadd, 1) := by decide +kernel
theorem dL_law_247 : decode cL_law 247 = .ok (.goto 15, 3) := by decide +kernel
theorem dL_law_250 : decode cL_law 250 = .ok (.iconst 2, 1) := by decide +kernel
theorem dL_law_251 : decode cL_law 251 = .ok (.iload 11, 2) := by decide +kernel
theorem dL_law_253 : decode cL_law 253 = .ok (.bipush 9, 2) := by decide +kernel
theorem dL_law_255 : decode cL_law 255 = .ok (.ishr, 1) := by decide +kernel
theorem dL_law_256 : decode cL_law 256 = .ok (.bipush 8, 2) := by decide +kernel
theorem dL_law_258 : decode cL_law 258 = .ok (.invokestatic 91, 3) := by decide +kernel
theorem dL_law_261 : decode cL_law 261 = .ok (.iadd, 1) := by decide +kernel
theorem dL_law_262 : decode cL_law 262 = .ok (.istore 17, 2) := by decide +kernel
theorem dL_law_264 : decode cL_law 264 = .ok (.bipush (-3), 2) := by decide +kernel
theorem dL_law_266 : decode cL_law 266 = .ok (.istore 18, 2) := by decide +kernel
theorem dL_law_268 : decode cL_law 268 = .ok (.aload_n 2, 1) := by decide +kernel
theorem dL_law_269 : decode cL_law 269 = .ok (.iconst 2, 1) := by decide +kernel
theorem dL_law_270 : decode cL_law 270 = .ok (.iaload, 1) := by decide +kernel
theorem dL_law_271 : decode cL_law 271 = .ok (.iload 15, 2) := by decide +kernel
theorem dL_law_273 : decode cL_law 273 = .ok (.ishr, 1) := by decide +kernel
theorem dL_law_274 : decode cL_law 274 = .ok (.iconst 1, 1) := by decide +kernel
theorem dL_law_275 : decode cL_law 275 = .ok (.iand, 1) := by decide +kernel
theorem dL_law_276 : decode cL_law 276 = .ok (.ifCond .ne 115, 3) := by decide +kernel
theorem dL_law_279 : decode cL_law 279 = .ok (.aload_n 3, 1) := by decide +kernel
theorem dL_law_280 : decode cL_law 280 = .ok (.bipush 6, 2) := by decide +kernel
theorem dL_law_282 : decode cL_law 282 = .ok (.iload 15, 2) := by decide +kernel
theorem dL_law_284 : decode cL_law 284 = .ok (.iadd, 1) := by decide +kernel
theorem dL_law_285 : decode cL_law 285 = .ok (.iaload, 1) := by decide +kernel
theorem dL_law_286 : decode cL_law 286 = .ok (.aload_n 2, 1) := by decide +kernel
theorem dL_law_287 : decode cL_law 287 = .ok (.iconst 5, 1) := by decide +kernel
theorem dL_law_288 : decode cL_law 288 = .ok (.iload 16, 2) := by decide +kernel
theorem dL_law_290 : decode cL_law 290 = .ok (.iadd, 1) := by decide +kernel
theorem dL_law_291 : decode cL_law 291 = .ok (.iaload, 1) := by decide +kernel
theorem dL_law_292 : decode cL_law 292 = .ok (.iload 17, 2) := by decide +kernel
theorem dL_law_294 : decode cL_law 294 = .ok (.aload_n 2, 1) := by decide +kernel
theorem dL_law_295 : decode cL_law 295 = .ok (.invokestatic 45, 3) := by decide +kernel
theorem dL_law_298 : decode cL_law 298 = .ok (.istore 18, 2) := by decide +kernel
theorem dL_law_300 : decode cL_law 300 = .ok (.aload_n 3, 1) := by decide +kernel
theorem dL_law_301 : decode cL_law 301 = .ok (.bipush 6, 2) := by decide +kernel
theorem dL_law_303 : decode cL_law 303 = .ok (.iload 15, 2) := by decide +kernel
theorem dL_law_305 : decode cL_law 305 = .ok (.iadd, 1) := by decide +kernel
theorem dL_law_306 : decode cL_law 306 = .ok (.aload_n 2, 1) := by decide +kernel
theorem dL_law_307 : decode cL_law 307 = .ok (.bipush 9, 2) := by decide +kernel
theorem dL_law_309 : decode cL_law 309 = .ok (.iaload, 1) := by decide +kernel
theorem dL_law_310 : decode cL_law 310 = .ok (.iastore, 1) := by decide +kernel
theorem dL_law_311 : decode cL_law 311 = .ok (.aload 4, 2) := by decide +kernel
theorem dL_law_313 : decode cL_law 313 = .ok (.aload_n 2, 1) := by decide +kernel
theorem dL_law_314 : decode cL_law 314 = .ok (.iconst 1, 1) := by decide +kernel
theorem dL_law_315 : decode cL_law 315 = .ok (.iaload, 1) := by decide +kernel
theorem dL_law_316 : decode cL_law 316 = .ok (.iconst 4, 1) := by decide +kernel
theorem dL_law_317 : decode cL_law 317 = .ok (.iload 15, 2) := by decide +kernel
theorem dL_law_319 : decode cL_law 319 = .ok (.imul, 1) := by decide +kernel
theorem dL_law_320 : decode cL_law 320 = .ok (.iload 16, 2) := by decide +kernel
theorem dL_law_322 : decode cL_law 322 = .ok (.iadd, 1) := by decide +kernel
theorem dL_law_323 : decode cL_law 323 = .ok (.iastore, 1) := by decide +kernel
theorem dL_law_324 : decode cL_law 324 = .ok (.aload 5, 2) := by decide +kernel
theorem dL_law_326 : decode cL_law 326 = .ok (.aload_n 2, 1) := by decide +kernel
theorem dL_law_327 : decode cL_law 327 = .ok (.iconst 1, 1) := by decide +kernel
theorem dL_law_328 : decode cL_law 328 = .ok (.iaload, 1) := by decide +kernel
theorem dL_law_329 : decode cL_law 329 = .ok (.aload_n 2, 1) := by decide +kernel
theorem dL_law_330 : decode cL_law 330 = .ok (.iconst 5, 1) := by decide +kernel
theorem dL_law_331 : decode cL_law 331 = .ok (.iload 16, 2) := by decide +kernel
theorem dL_law_333 : decode cL_law 333 = .ok (.iadd, 1) := by decide +kernel
theorem dL_law_334 : decode cL_law 334 = .ok (.iaload, 1) := by decide +kernel
theorem dL_law_335 : decode cL_law 335 = .ok (.iastore, 1) := by decide +kernel
theorem dL_law_336 : decode cL_law 336 = .ok (.aload 6, 2) := by decide +kernel
theorem dL_law_338 : decode cL_law 338 = .ok (.aload_n 2, 1) := by decide +kernel
theorem dL_law_339 : decode cL_law 339 = .ok (.iconst 1, 1) := by decide +kernel
theorem dL_law_340 : decode cL_law 340 = .ok (.iaload, 1) := by decide +kernel
theorem dL_law_341 : decode cL_law 341 = .ok (.iload 17, 2) := by decide +kernel
theorem dL_law_343 : decode cL_law 343 = .ok (.iastore, 1) := by decide +kernel
theorem dL_law_344 : decode cL_law 344 = .ok (.aload 7, 2) := by decide +kernel
theorem dL_law_346 : decode cL_law 346 = .ok (.aload_n 2, 1) := by decide +kernel
theorem dL_law_347 : decode cL_law 347 = .ok (.iconst 1, 1) := by decide +kernel
theorem dL_law_348 : decode cL_law 348 = .ok (.iaload, 1) := by decide +kernel
theorem dL_law_349 : decode cL_law 349 = .ok (.iload 18, 2) := by decide +kernel
theorem dL_law_351 : decode cL_law 351 = .ok (.iastore, 1) := by decide +kernel
theorem dL_law_352 : decode cL_law 352 = .ok (.aload 8, 2) := by decide +kernel
theorem dL_law_354 : decode cL_law 354 = .ok (.aload_n 2, 1) := by decide +kernel
theorem dL_law_355 : decode cL_law 355 = .ok (.iconst 1, 1) := by decide +kernel
theorem dL_law_356 : decode cL_law 356 = .ok (.iaload, 1) := by decide +kernel
theorem dL_law_357 : decode cL_law 357 = .ok (.aload_n 2, 1) := by decide +kernel
theorem dL_law_358 : decode cL_law 358 = .ok (.bipush 10, 2) := by decide +kernel
theorem dL_law_360 : decode cL_law 360 = .ok (.iaload, 1) := by decide +kernel
theorem dL_law_361 : decode cL_law 361 = .ok (.iastore, 1) := by decide +kernel
theorem dL_law_362 : decode cL_law 362 = .ok (.aload 9, 2) := by decide +kernel
theorem dL_law_364 : decode cL_law 364 = .ok (.aload_n 2, 1) := by decide +kernel
theorem dL_law_365 : decode cL_law 365 = .ok (.iconst 1, 1) := by decide +kernel
theorem dL_law_366 : decode cL_law 366 = .ok (.iaload, 1) := by decide +kernel
theorem dL_law_367 : decode cL_law 367 = .ok (.aload_n 2, 1) := by decide +kernel
theorem dL_law_368 : decode cL_law 368 = .ok (.iconst 1, 1) := by decide +kernel
theorem dL_law_369 : decode cL_law 369 = .ok (.iaload, 1) := by decide +kernel
theorem dL_law_370 : decode cL_law 370 = .ok (.aload 4, 2) := by decide +kernel
theorem dL_law_372 : decode cL_law 372 = .ok (.aload 6, 2) := by decide +kernel
theorem dL_law_374 : decode cL_law 374 = .ok (.aload 7, 2) := by decide +kernel
theorem dL_law_376 : decode cL_law 376 = .ok (.aload 8, 2) := by decide +kernel
theorem dL_law_378 : decode cL_law 378 = .ok (.aload 9, 2) := by decide +kernel
theorem dL_law_380 : decode cL_law 380 = .ok (.invokestatic 59, 3) := by decide +kernel
theorem dL_law_383 : decode cL_law 383 = .ok (.iastore, 1) := by decide +kernel
theorem dL_law_384 : decode cL_law 384 = .ok (.aload_n 2, 1) := by decide +kernel
theorem dL_law_385 : decode cL_law 385 = .ok (.iconst 1, 1) := by decide +kernel
theorem dL_law_386 : decode cL_law 386 = .ok (.dup2, 1) := by decide +kernel
theorem dL_law_387 : decode cL_law 387 = .ok (.iaload, 1) := by decide +kernel
theorem dL_law_388 : decode cL_law 388 = .ok (.iconst 1, 1) := by decide +kernel
theorem dL_law_389 : decode cL_law 389 = .ok (.iadd, 1) := by decide +kernel
theorem dL_law_390 : decode cL_law 390 = .ok (.iastore, 1) := by decide +kernel
theorem dL_law_391 : decode cL_law 391 = .ok (.aload_n 1, 1) := by decide +kernel
theorem dL_law_392 : decode cL_law 392 = .ok (.iconst 1, 1) := by decide +kernel
theorem dL_law_393 : decode cL_law 393 = .ok (.iload 15, 2) := by decide +kernel
theorem dL_law_395 : decode cL_law 395 = .ok (.iload 16, 2) := by decide +kernel
end
section
theorem dL_law_397 : decode cL_law 397 = .ok (.iload 17, 2) := by decide +kernel
theorem dL_law_399 : decode cL_law 399 = .ok (.invokestatic 74, 3) := by decide +kernel
theorem dL_law_402 : decode cL_law 402 = .ok (.iload 18, 2) := by decide +kernel
theorem dL_law_404 : decode cL_law 404 = .ok (.if_icmp .ne 7, 3) := by decide +kernel
theorem dL_law_407 : decode cL_law 407 = .ok (.iconst 1, 1) := by decide +kernel
theorem dL_law_408 : decode cL_law 408 = .ok (.goto 4, 3) := by decide +kernel
theorem dL_law_411 : decode cL_law 411 = .ok (.iconst 0, 1) := by decide +kernel
theorem dL_law_412 : decode cL_law 412 = .ok (.istore 14, 2) := by decide +kernel
theorem dL_law_414 : decode cL_law 414 = .ok (.goto 470, 3) := by decide +kernel
theorem dL_law_417 : decode cL_law 417 = .ok (.iload 12, 2) := by decide +kernel
theorem dL_law_419 : decode cL_law 419 = .ok (.bipush 10, 2) := by decide +kernel
theorem dL_law_421 : decode cL_law 421 = .ok (.if_icmp .ge 65, 3) := by decide +kernel
theorem dL_law_424 : decode cL_law 424 = .ok (.iload 11, 2) := by decide +kernel
theorem dL_law_426 : decode cL_law 426 = .ok (.iconst 4, 1) := by decide +kernel
theorem dL_law_427 : decode cL_law 427 = .ok (.ishr, 1) := by decide +kernel
theorem dL_law_428 : decode cL_law 428 = .ok (.iconst 4, 1) := by decide +kernel
theorem dL_law_429 : decode cL_law 429 = .ok (.invokestatic 91, 3) := by decide +kernel
theorem dL_law_432 : decode cL_law 432 = .ok (.istore 15, 2) := by decide +kernel
theorem dL_law_434 : decode cL_law 434 = .ok (.aload_n 2, 1) := by decide +kernel
theorem dL_law_435 : decode cL_law 435 = .ok (.iconst 5, 1) := by decide +kernel
theorem dL_law_436 : decode cL_law 436 = .ok (.iload 15, 2) := by decide +kernel
theorem dL_law_438 : decode cL_law 438 = .ok (.iadd, 1) := by decide +kernel
theorem dL_law_439 : decode cL_law 439 = .ok (.iaload, 1) := by decide +kernel
theorem dL_law_440 : decode cL_law 440 = .ok (.istore 16, 2) := by decide +kernel
theorem dL_law_442 : decode cL_law 442 = .ok (.aload_n 2, 1) := by decide +kernel
theorem dL_law_443 : decode cL_law 443 = .ok (.iconst 5, 1) := by decide +kernel
theorem dL_law_444 : decode cL_law 444 = .ok (.iload 15, 2) := by decide +kernel
theorem dL_law_446 : decode cL_law 446 = .ok (.iadd, 1) := by decide +kernel
theorem dL_law_447 : decode cL_law 447 = .ok (.iload 11, 2) := by decide +kernel
theorem dL_law_449 : decode cL_law 449 = .ok (.bipush 6, 2) := by decide +kernel
theorem dL_law_451 : decode cL_law 451 = .ok (.ishr, 1) := by decide +kernel
theorem dL_law_452 : decode cL_law 452 = .ok (.sipush 1000, 3) := by decide +kernel
theorem dL_law_455 : decode cL_law 455 = .ok (.invokestatic 91, 3) := by decide +kernel
theorem dL_law_458 : decode cL_law 458 = .ok (.iastore, 1) := by decide +kernel
theorem dL_law_459 : decode cL_law 459 = .ok (.aload_n 1, 1) := by decide +kernel
theorem dL_law_460 : decode cL_law 460 = .ok (.iload 15, 2) := by decide +kernel
theorem dL_law_462 : decode cL_law 462 = .ok (.aload_n 2, 1) := by decide +kernel
theorem dL_law_463 : decode cL_law 463 = .ok (.iconst 5, 1) := by decide +kernel
theorem dL_law_464 : decode cL_law 464 = .ok (.iload 15, 2) := by decide +kernel
theorem dL_law_466 : decode cL_law 466 = .ok (.iadd, 1) := by decide +kernel
theorem dL_law_467 : decode cL_law 467 = .ok (.iaload, 1) := by decide +kernel
theorem dL_law_468 : decode cL_law 468 = .ok (.invokevirtual 121, 3) := by decide +kernel
theorem dL_law_471 : decode cL_law 471 = .ok (.iload 16, 2) := by decide +kernel
theorem dL_law_473 : decode cL_law 473 = .ok (.if_icmp .ne 7, 3) := by decide +kernel
theorem dL_law_476 : decode cL_law 476 = .ok (.iconst 1, 1) := by decide +kernel
theorem dL_law_477 : decode cL_law 477 = .ok (.goto 4, 3) := by decide +kernel
theorem dL_law_480 : decode cL_law 480 = .ok (.iconst 0, 1) := by decide +kernel
theorem dL_law_481 : decode cL_law 481 = .ok (.istore 14, 2) := by decide +kernel
theorem dL_law_483 : decode cL_law 483 = .ok (.goto 401, 3) := by decide +kernel
theorem dL_law_486 : decode cL_law 486 = .ok (.iload 12, 2) := by decide +kernel
theorem dL_law_488 : decode cL_law 488 = .ok (.bipush 12, 2) := by decide +kernel
theorem dL_law_490 : decode cL_law 490 = .ok (.if_icmp .ge 132, 3) := by decide +kernel
theorem dL_law_493 : decode cL_law 493 = .ok (.aload_n 2, 1) := by decide +kernel
theorem dL_law_494 : decode cL_law 494 = .ok (.iconst 1, 1) := by decide +kernel
theorem dL_law_495 : decode cL_law 495 = .ok (.iaload, 1) := by decide +kernel
theorem dL_law_496 : decode cL_law 496 = .ok (.ifCond .le 126, 3) := by decide +kernel
theorem dL_law_499 : decode cL_law 499 = .ok (.iconst 1, 1) := by decide +kernel
theorem dL_law_500 : decode cL_law 500 = .ok (.iload 11, 2) := by decide +kernel
theorem dL_law_502 : decode cL_law 502 = .ok (.bipush 10, 2) := by decide +kernel
theorem dL_law_504 : decode cL_law 504 = .ok (.ishr, 1) := by decide +kernel
theorem dL_law_505 : decode cL_law 505 = .ok (.iload 11, 2) := by decide +kernel
theorem dL_law_507 : decode cL_law 507 = .ok (.bipush 14, 2) := by decide +kernel
theorem dL_law_509 : decode cL_law 509 = .ok (.ishr, 1) := by decide +kernel
theorem dL_law_510 : decode cL_law 510 = .ok (.iconst 5, 1) := by decide +kernel
theorem dL_law_511 : decode cL_law 511 = .ok (.invokestatic 91, 3) := by decide +kernel
theorem dL_law_514 : decode cL_law 514 = .ok (.ifCond .ne 13, 3) := by decide +kernel
theorem dL_law_517 : decode cL_law 517 = .ok (.aload 6, 2) := by decide +kernel
theorem dL_law_519 : decode cL_law 519 = .ok (.iload 13, 2) := by decide +kernel
theorem dL_law_521 : decode cL_law 521 = .ok (.iaload, 1) := by decide +kernel
theorem dL_law_522 : decode cL_law 522 = .ok (.iconst 1, 1) := by decide +kernel
theorem dL_law_523 : decode cL_law 523 = .ok (.iadd, 1) := by decide +kernel
theorem dL_law_524 : decode cL_law 524 = .ok (.goto 8, 3) := by decide +kernel
theorem dL_law_527 : decode cL_law 527 = .ok (.aload 6, 2) := by decide +kernel
theorem dL_law_529 : decode cL_law 529 = .ok (.iload 13, 2) := by decide +kernel
theorem dL_law_531 : decode cL_law 531 = .ok (.iaload, 1) := by decide +kernel
theorem dL_law_532 : decode cL_law 532 = .ok (.invokestatic 91, 3) := by decide +kernel
theorem dL_law_535 : decode cL_law 535 = .ok (.iadd, 1) := by decide +kernel
theorem dL_law_536 : decode cL_law 536 = .ok (.istore 15, 2) := by decide +kernel
theorem dL_law_538 : decode cL_law 538 = .ok (.iload 15, 2) := by decide +kernel
theorem dL_law_540 : decode cL_law 540 = .ok (.aload 6, 2) := by decide +kernel
theorem dL_law_542 : decode cL_law 542 = .ok (.iload 13, 2) := by decide +kernel
theorem dL_law_544 : decode cL_law 544 = .ok (.iaload, 1) := by decide +kernel
theorem dL_law_545 : decode cL_law 545 = .ok (.if_icmp .le 8, 3) := by decide +kernel
theorem dL_law_548 : decode cL_law 548 = .ok (.bipush (-2), 2) := by decide +kernel
theorem dL_law_550 : decode cL_law 550 = .ok (.goto 25, 3) := by decide +kernel
theorem dL_law_553 : decode cL_law 553 = .ok (.aload_n 2, 1) := by decide +kernel
theorem dL_law_554 : decode cL_law 554 = .ok (.iconst 4, 1) := by decide +kernel
theorem dL_law_555 : decode cL_law 555 = .ok (.iaload, 1) := by decide +kernel
theorem dL_law_556 : decode cL_law 556 = .ok (.iload 13, 2) := by decide +kernel
theorem dL_law_558 : decode cL_law 558 = .ok (.ishr, 1) := by decide +kernel
theorem dL_law_559 : decode cL_law 559 = .ok (.iconst 1, 1) := by decide +kernel
theorem dL_law_560 : decode cL_law 560 = .ok (.iand, 1) := by decide +kernel
theorem dL_law_561 : decode cL_law 561 = .ok (.iconst 1, 1) := by decide +kernel
theorem dL_law_562 : decode cL_law 562 = .ok (.if_icmp .ne 8, 3) := by decide +kernel
theorem dL_law_565 : decode cL_law 565 = .ok (.bipush (-3), 2) := by decide +kernel
theorem dL_law_567 : decode cL_law 567 = .ok (.goto 8, 3) := by decide +kernel
theorem dL_law_570 : decode cL_law 570 = .ok (.aload 7, 2) := by decide +kernel
theorem dL_law_572 : decode cL_law 572 = .ok (.iload 13, 2) := by decide +kernel
theorem dL_law_574 : decode cL_law 574 = .ok (.iaload, 1) := by decide +kernel
theorem dL_law_575 : decode cL_law 575 = .ok (.istore 16, 2) := by decide +kernel
theorem dL_law_577 : decode cL_law 577 = .ok (.aload 7, 2) := by decide +kernel
theorem dL_law_579 : decode cL_law 579 = .ok (.iload 13, 2) := by decide +kernel
theorem dL_law_581 : decode cL_law 581 = .ok (.iload 16, 2) := by decide +kernel
theorem dL_law_583 : decode cL_law 583 = .ok (.ifCond .le 8, 3) := by decide +kernel
theorem dL_law_586 : decode cL_law 586 = .ok (.iload 15, 2) := by decide +kernel
theorem dL_law_588 : decode cL_law 588 = .ok (.goto 8, 3) := by decide +kernel
theorem dL_law_591 : decode cL_law 591 = .ok (.aload 7, 2) := by decide +kernel
theorem dL_law_593 : decode cL_law 593 = .ok (.iload 13, 2) := by decide +kernel
theorem dL_law_595 : decode cL_law 595 = .ok (.iaload, 1) := by decide +kernel
theorem dL_law_596 : decode cL_law 596 = .ok (.iastore, 1) := by decide +kernel
theorem dL_law_597 : decode cL_law 597 = .ok (.aload_n 1, 1) := by decide +kernel
theorem dL_law_598 : decode cL_law 598 = .ok (.iconst 2, 1) := by decide +kernel
theorem dL_law_599 : decode cL_law 599 = .ok (.iload 13, 2) := by decide +kernel
theorem dL_law_601 : decode cL_law 601 = .ok (.iload 15, 2) := by decide +kernel
theorem dL_law_603 : decode cL_law 603 = .ok (.iconst 0, 1) := by decide +kernel
theorem dL_law_604 : decode cL_law 604 = .ok (.invokestatic 74, 3) := by decide +kernel
theorem dL_law_607 : decode cL_law 607 = .ok (.iload 16, 2) := by decide +kernel
theorem dL_law_609 : decode cL_law 609 = .ok (.if_icmp .ne 7, 3) := by decide +kernel
theorem dL_law_612 : decode cL_law 612 = .ok (.iconst 1, 1) := by decide +kernel
theorem dL_law_613 : decode cL_law 613 = .ok (.goto 4, 3) := by decide +kernel
theorem dL_law_616 : decode cL_law 616 = .ok (.iconst 0, 1) := by decide +kernel
theorem dL_law_617 : decode cL_law 617 = .ok (.istore 14, 2) := by decide +kernel
theorem dL_law_619 : decode cL_law 619 = .ok (.goto 265, 3) := by decide +kernel
theorem dL_law_622 : decode cL_law 622 = .ok (.iload 12, 2) := by decide +kernel
theorem dL_law_624 : decode cL_law 624 = .ok (.bipush 14, 2) := by decide +kernel
theorem dL_law_626 : decode cL_law 626 = .ok (.if_icmp .ge 72, 3) := by decide +kernel
theorem dL_law_629 : decode cL_law 629 = .ok (.iload 11, 2) := by decide +kernel
theorem dL_law_631 : decode cL_law 631 = .ok (.iconst 4, 1) := by decide +kernel
theorem dL_law_632 : decode cL_law 632 = .ok (.ishr, 1) := by decide +kernel
theorem dL_law_633 : decode cL_law 633 = .ok (.aload_n 2, 1) := by decide +kernel
theorem dL_law_634 : decode cL_law 634 = .ok (.iconst 0, 1) := by decide +kernel
theorem dL_law_635 : decode cL_law 635 = .ok (.iaload, 1) := by decide +kernel
theorem dL_law_636 : decode cL_law 636 = .ok (.invokestatic 91, 3) := by decide +kernel
theorem dL_law_639 : decode cL_law 639 = .ok (.istore 15, 2) := by decide +kernel
theorem dL_law_641 : decode cL_law 641 = .ok (.aload_n 2, 1) := by decide +kernel
theorem dL_law_642 : decode cL_law 642 = .ok (.iconst 2, 1) := by decide +kernel
theorem dL_law_643 : decode cL_law 643 = .ok (.iaload, 1) := by decide +kernel
theorem dL_law_644 : decode cL_law 644 = .ok (.iload 15, 2) := by decide +kernel
theorem dL_law_646 : decode cL_law 646 = .ok (.ishr, 1) := by decide +kernel
theorem dL_law_647 : decode cL_law 647 = .ok (.iconst 1, 1) := by decide +kernel
theorem dL_law_648 : decode cL_law 648 = .ok (.iand, 1) := by decide +kernel
theorem dL_law_649 : decode cL_law 649 = .ok (.iconst 1, 1) := by decide +kernel
theorem dL_law_650 : decode cL_law 650 = .ok (.if_icmp .ne 8, 3) := by decide +kernel
theorem dL_law_653 : decode cL_law 653 = .ok (.bipush (-3), 2) := by decide +kernel
theorem dL_law_655 : decode cL_law 655 = .ok (.goto 7, 3) := by decide +kernel
theorem dL_law_658 : decode cL_law 658 = .ok (.aload_n 3, 1) := by decide +kernel
theorem dL_law_659 : decode cL_law 659 = .ok (.iload 15, 2) := by decide +kernel
theorem dL_law_661 : decode cL_law 661 = .ok (.iaload, 1) := by decide +kernel
theorem dL_law_662 : decode cL_law 662 = .ok (.istore 16, 2) := by decide +kernel
theorem dL_law_664 : decode cL_law 664 = .ok (.aload_n 2, 1) := by decide +kernel
theorem dL_law_665 : decode cL_law 665 = .ok (.iconst 2, 1) := by decide +kernel
theorem dL_law_666 : decode cL_law 666 = .ok (.dup2, 1) := by decide +kernel
theorem dL_law_667 : decode cL_law 667 = .ok (.iaload, 1) := by decide +kernel
theorem dL_law_668 : decode cL_law 668 = .ok (.iconst 1, 1) := by decide +kernel
theorem dL_law_669 : decode cL_law 669 = .ok (.iload 15, 2) := by decide +kernel
theorem dL_law_671 : decode cL_law 671 = .ok (.ishl, 1) := by decide +kernel
theorem dL_law_672 : decode cL_law 672 = .ok (.ior, 1) := by decide +kernel
theorem dL_law_673 : decode cL_law 673 = .ok (.iastore, 1) := by decide +kernel
theorem dL_law_674 : decode cL_law 674 = .ok (.aload_n 1, 1) := by decide +kernel
theorem dL_law_675 : decode cL_law 675 = .ok (.iconst 0, 1) := by decide +kernel
theorem dL_law_676 : decode cL_law 676 = .ok (.iload 15, 2) := by decide +kernel
theorem dL_law_678 : decode cL_law 678 = .ok (.iconst 0, 1) := by decide +kernel
theorem dL_law_679 : decode cL_law 679 = .ok (.iconst 0, 1) := by decide +kernel
theorem dL_law_680 : decode cL_law 680 = .ok (.invokestatic 74, 3) := by decide +kernel
theorem dL_law_683 : decode cL_law 683 = .ok (.iload 16, 2) := by decide +kernel
theorem dL_law_685 : decode cL_law 685 = .ok (.if_icmp .ne 7, 3) := by decide +kernel
theorem dL_law_688 : decode cL_law 688 = .ok (.iconst 1, 1) := by decide +kernel
theorem dL_law_689 : decode cL_law 689 = .ok (.goto 4, 3) := by decide +kernel
theorem dL_law_692 : decode cL_law 692 = .ok (.iconst 0, 1) := by decide +kernel
theorem dL_law_693 : decode cL_law 693 = .ok (.istore 14, 2) := by decide +kernel
theorem dL_law_695 : decode cL_law 695 = .ok (.goto 189, 3) := by decide +kernel
theorem dL_law_698 : decode cL_law 698 = .ok (.iload 11, 2) := by decide +kernel
theorem dL_law_700 : decode cL_law 700 = .ok (.iconst 4, 1) := by decide +kernel
theorem dL_law_701 : decode cL_law 701 = .ok (.ishr, 1) := by decide +kernel
theorem dL_law_702 : decode cL_law 702 = .ok (.aload_n 2, 1) := by decide +kernel
theorem dL_law_703 : decode cL_law 703 = .ok (.iconst 0, 1) := by decide +kernel
theorem dL_law_704 : decode cL_law 704 = .ok (.iaload, 1) := by decide +kernel
theorem dL_law_705 : decode cL_law 705 = .ok (.invokestatic 91, 3) := by decide +kernel
theorem dL_law_708 : decode cL_law 708 = .ok (.istore 15, 2) := by decide +kernel
theorem dL_law_710 : decode cL_law 710 = .ok (.aload_n 2, 1) := by decide +kernel
theorem dL_law_711 : decode cL_law 711 = .ok (.iconst 2, 1) := by decide +kernel
theorem dL_law_712 : decode cL_law 712 = .ok (.iaload, 1) := by decide +kernel
theorem dL_law_713 : decode cL_law 713 = .ok (.iload 15, 2) := by decide +kernel
theorem dL_law_715 : decode cL_law 715 = .ok (.ishr, 1) := by decide +kernel
theorem dL_law_716 : decode cL_law 716 = .ok (.iconst 1, 1) := by decide +kernel
theorem dL_law_717 : decode cL_law 717 = .ok (.iand, 1) := by decide +kernel
theorem dL_law_718 : decode cL_law 718 = .ok (.ifCond .eq 15, 3) := by decide +kernel
theorem dL_law_721 : decode cL_law 721 = .ok (.aload_n 2, 1) := by decide +kernel
theorem dL_law_722 : decode cL_law 722 = .ok (.iconst 3, 1) := by decide +kernel
theorem dL_law_723 : decode cL_law 723 = .ok (.iaload, 1) := by decide +kernel
theorem dL_law_724 : decode cL_law 724 = .ok (.iload 15, 2) := by decide +kernel
theorem dL_law_726 : decode cL_law 726 = .ok (.ishr, 1) := by decide +kernel
theorem dL_law_727 : decode cL_law 727 = .ok (.iconst 1, 1) := by decide +kernel
theorem dL_law_728 : decode cL_law 728 = .ok (.iand, 1) := by decide +kernel
theorem dL_law_729 : decode cL_law 729 = .ok (.iconst 1, 1) := by decide +kernel
theorem dL_law_730 : decode cL_law 730 = .ok (.if_icmp .ne 8, 3) := by decide +kernel
theorem dL_law_733 : decode cL_law 733 = .ok (.bipush (-3), 2) := by decide +kernel
theorem dL_law_735 : decode cL_law 735 = .ok (.goto 4, 3) := by decide +kernel
theorem dL_law_738 : decode cL_law 738 = .ok (.iconst 0, 1) := by decide +kernel
theorem dL_law_739 : decode cL_law 739 = .ok (.istore 16, 2) := by decide +kernel
theorem dL_law_741 : decode cL_law 741 = .ok (.iload 16, 2) := by decide +kernel
theorem dL_law_743 : decode cL_law 743 = .ok (.ifCond .ge 7, 3) := by decide +kernel
theorem dL_law_746 : decode cL_law 746 = .ok (.iconst (-1), 1) := by decide +kernel
theorem dL_law_747 : decode cL_law 747 = .ok (.goto 18, 3) := by decide +kernel
theorem dL_law_750 : decode cL_law 750 = .ok (.iload 15, 2) := by decide +kernel
theorem dL_law_752 : decode cL_law 752 = .ok (.aload 4, 2) := by decide +kernel
theorem dL_law_754 : decode cL_law 754 = .ok (.aload 5, 2) := by decide +kernel
theorem dL_law_756 : decode cL_law 756 = .ok (.aload 6, 2) := by decide +kernel
theorem dL_law_758 : decode cL_law 758 = .ok (.aload 7, 2) := by decide +kernel
theorem dL_law_760 : decode cL_law 760 = .ok (.aload_n 3, 1) := by decide +kernel
theorem dL_law_761 : decode cL_law 761 = .ok (.aload_n 2, 1) := by decide +kernel
theorem dL_law_762 : decode cL_law 762 = .ok (.invokestatic 85, 3) := by decide +kernel
theorem dL_law_765 : decode cL_law 765 = .ok (.istore 17, 2) := by decide +kernel
theorem dL_law_767 : decode cL_law 767 = .ok (.aload_n 2, 1) := by decide +kernel
theorem dL_law_768 : decode cL_law 768 = .ok (.iconst 3, 1) := by decide +kernel
theorem dL_law_769 : decode cL_law 769 = .ok (.dup2, 1) := by decide +kernel
theorem dL_law_770 : decode cL_law 770 = .ok (.iaload, 1) := by decide +kernel
theorem dL_law_771 : decode cL_law 771 = .ok (.iload 16, 2) := by decide +kernel
theorem dL_law_773 : decode cL_law 773 = .ok (.ifCond .ge 7, 3) := by decide +kernel
theorem dL_law_776 : decode cL_law 776 = .ok (.iconst 0, 1) := by decide +kernel
theorem dL_law_777 : decode cL_law 777 = .ok (.goto 7, 3) := by decide +kernel
theorem dL_law_780 : decode cL_law 780 = .ok (.iconst 1, 1) := by decide +kernel
theorem dL_law_781 : decode cL_law 781 = .ok (.iload 15, 2) := by decide +kernel
theorem dL_law_783 : decode cL_law 783 = .ok (.ishl, 1) := by decide +kernel
theorem dL_law_784 : decode cL_law 784 = .ok (.ior, 1) := by decide +kernel
theorem dL_law_785 : decode cL_law 785 = .ok (.iastore, 1) := by decide +kernel
theorem dL_law_786 : decode cL_law 786 = .ok (.iload 17, 2) := by decide +kernel
theorem dL_law_788 : decode cL_law 788 = .ok (.ifCond .ge 9, 3) := by decide +kernel
theorem dL_law_791 : decode cL_law 791 = .ok (.aload_n 2, 1) := by decide +kernel
theorem dL_law_792 : decode cL_law 792 = .ok (.iconst 1, 1) := by decide +kernel
theorem dL_law_793 : decode cL_law 793 = .ok (.iaload, 1) := by decide +kernel
theorem dL_law_794 : decode cL_law 794 = .ok (.goto 5, 3) := by decide +kernel
theorem dL_law_797 : decode cL_law 797 = .ok (.iload 17, 2) := by decide +kernel
theorem dL_law_799 : decode cL_law 799 = .ok (.istore 18, 2) := by decide +kernel
theorem dL_law_801 : decode cL_law 801 = .ok (.iload 18, 2) := by decide +kernel
theorem dL_law_803 : decode cL_law 803 = .ok (.aload_n 2, 1) := by decide +kernel
theorem dL_law_804 : decode cL_law 804 = .ok (.iconst 1, 1) := by decide +kernel
theorem dL_law_805 : decode cL_law 805 = .ok (.iaload, 1) := by decide +kernel
theorem dL_law_806 : decode cL_law 806 = .ok (.if_icmp .ge 57, 3) := by decide +kernel
theorem dL_law_809 : decode cL_law 809 = .ok (.iload 16, 2) := by decide +kernel
theorem dL_law_811 : decode cL_law 811 = .ok (.aload 4, 2) := by decide +kernel
theorem dL_law_813 : decode cL_law 813 = .ok (.iload 18, 2) := by decide +kernel
theorem dL_law_815 : decode cL_law 815 = .ok (.iaload, 1) := by decide +kernel
theorem dL_law_816 : decode cL_law 816 = .ok (.iconst 4, 1) := by decide +kernel
theorem dL_law_817 : decode cL_law 817 = .ok (.idiv, 1) := by decide +kernel
theorem dL_law_818 : decode cL_law 818 = .ok (.iload 15, 2) := by decide +kernel
theorem dL_law_820 : decode cL_law 820 = .ok (.if_icmp .ne 7, 3) := by decide +kernel
theorem dL_law_823 : decode cL_law 823 = .ok (.iconst 1, 1) := by decide +kernel
theorem dL_law_824 : decode cL_law 824 = .ok (.goto 4, 3) := by decide +kernel
theorem dL_law_827 : decode cL_law 827 = .ok (.iconst 0, 1) := by decide +kernel
end
section
theorem dL_law_828 : decode cL_law 828 = .ok (.iadd, 1) := by decide +kernel
theorem dL_law_829 : decode cL_law 829 = .ok (.istore 16, 2) := by decide +kernel
theorem dL_law_831 : decode cL_law 831 = .ok (.aload_n 2, 1) := by decide +kernel
theorem dL_law_832 : decode cL_law 832 = .ok (.iconst 4, 1) := by decide +kernel
theorem dL_law_833 : decode cL_law 833 = .ok (.dup2, 1) := by decide +kernel
theorem dL_law_834 : decode cL_law 834 = .ok (.iaload, 1) := by decide +kernel
theorem dL_law_835 : decode cL_law 835 = .ok (.aload 4, 2) := by decide +kernel
theorem dL_law_837 : decode cL_law 837 = .ok (.iload 18, 2) := by decide +kernel
theorem dL_law_839 : decode cL_law 839 = .ok (.iaload, 1) := by decide +kernel
theorem dL_law_840 : decode cL_law 840 = .ok (.iconst 4, 1) := by decide +kernel
theorem dL_law_841 : decode cL_law 841 = .ok (.idiv, 1) := by decide +kernel
theorem dL_law_842 : decode cL_law 842 = .ok (.iload 15, 2) := by decide +kernel
theorem dL_law_844 : decode cL_law 844 = .ok (.if_icmp .ne 10, 3) := by decide +kernel
theorem dL_law_847 : decode cL_law 847 = .ok (.iconst 1, 1) := by decide +kernel
theorem dL_law_848 : decode cL_law 848 = .ok (.iload 18, 2) := by decide +kernel
theorem dL_law_850 : decode cL_law 850 = .ok (.ishl, 1) := by decide +kernel
theorem dL_law_851 : decode cL_law 851 = .ok (.goto 4, 3) := by decide +kernel
theorem dL_law_854 : decode cL_law 854 = .ok (.iconst 0, 1) := by decide +kernel
theorem dL_law_855 : decode cL_law 855 = .ok (.ior, 1) := by decide +kernel
theorem dL_law_856 : decode cL_law 856 = .ok (.iastore, 1) := by decide +kernel
theorem dL_law_857 : decode cL_law 857 = .ok (.iinc 18 1, 3) := by decide +kernel
theorem dL_law_860 : decode cL_law 860 = .ok (.goto (-59), 3) := by decide +kernel
theorem dL_law_863 : decode cL_law 863 = .ok (.aload_n 1, 1) := by decide +kernel
theorem dL_law_864 : decode cL_law 864 = .ok (.iconst 5, 1) := by decide +kernel
theorem dL_law_865 : decode cL_law 865 = .ok (.iload 15, 2) := by decide +kernel
theorem dL_law_867 : decode cL_law 867 = .ok (.iconst 0, 1) := by decide +kernel
theorem dL_law_868 : decode cL_law 868 = .ok (.iconst 0, 1) := by decide +kernel
theorem dL_law_869 : decode cL_law 869 = .ok (.invokestatic 74, 3) := by decide +kernel
theorem dL_law_872 : decode cL_law 872 = .ok (.iload 16, 2) := by decide +kernel
theorem dL_law_874 : decode cL_law 874 = .ok (.if_icmp .ne 7, 3) := by decide +kernel
theorem dL_law_877 : decode cL_law 877 = .ok (.iconst 1, 1) := by decide +kernel
theorem dL_law_878 : decode cL_law 878 = .ok (.goto 4, 3) := by decide +kernel
theorem dL_law_881 : decode cL_law 881 = .ok (.iconst 0, 1) := by decide +kernel
theorem dL_law_882 : decode cL_law 882 = .ok (.istore 14, 2) := by decide +kernel
theorem dL_law_884 : decode cL_law 884 = .ok (.iload 14, 2) := by decide +kernel
theorem dL_law_886 : decode cL_law 886 = .ok (.ifCond .eq 64, 3) := by decide +kernel
theorem dL_law_889 : decode cL_law 889 = .ok (.iload 10, 2) := by decide +kernel
theorem dL_law_891 : decode cL_law 891 = .ok (.iconst 4, 1) := by decide +kernel
theorem dL_law_892 : decode cL_law 892 = .ok (.irem, 1) := by decide +kernel
theorem dL_law_893 : decode cL_law 893 = .ok (.iconst 3, 1) := by decide +kernel
theorem dL_law_894 : decode cL_law 894 = .ok (.if_icmp .ne 28, 3) := by decide +kernel
theorem dL_law_897 : decode cL_law 897 = .ok (.aload_n 1, 1) := by decide +kernel
theorem dL_law_898 : decode cL_law 898 = .ok (.iload 11, 2) := by decide +kernel
theorem dL_law_900 : decode cL_law 900 = .ok (.iconst 3, 1) := by decide +kernel
theorem dL_law_901 : decode cL_law 901 = .ok (.ishr, 1) := by decide +kernel
theorem dL_law_902 : decode cL_law 902 = .ok (.aload 4, 2) := by decide +kernel
theorem dL_law_904 : decode cL_law 904 = .ok (.aload 5, 2) := by decide +kernel
theorem dL_law_906 : decode cL_law 906 = .ok (.aload 6, 2) := by decide +kernel
theorem dL_law_908 : decode cL_law 908 = .ok (.aload 7, 2) := by decide +kernel
theorem dL_law_910 : decode cL_law 910 = .ok (.aload 8, 2) := by decide +kernel
theorem dL_law_912 : decode cL_law 912 = .ok (.aload 9, 2) := by decide +kernel
theorem dL_law_914 : decode cL_law 914 = .ok (.aload_n 3, 1) := by decide +kernel
theorem dL_law_915 : decode cL_law 915 = .ok (.aload_n 2, 1) := by decide +kernel
theorem dL_law_916 : decode cL_law 916 = .ok (.invokestatic 124, 3) := by decide +kernel
theorem dL_law_919 : decode cL_law 919 = .ok (.ifCond .eq 31, 3) := by decide +kernel
theorem dL_law_922 : decode cL_law 922 = .ok (.iload 10, 2) := by decide +kernel
theorem dL_law_924 : decode cL_law 924 = .ok (.bipush 40, 2) := by decide +kernel
theorem dL_law_926 : decode cL_law 926 = .ok (.irem, 1) := by decide +kernel
theorem dL_law_927 : decode cL_law 927 = .ok (.bipush 39, 2) := by decide +kernel
theorem dL_law_929 : decode cL_law 929 = .ok (.if_icmp .ne 23, 3) := by decide +kernel
theorem dL_law_932 : decode cL_law 932 = .ok (.aload_n 1, 1) := by decide +kernel
theorem dL_law_933 : decode cL_law 933 = .ok (.iload 11, 2) := by decide +kernel
theorem dL_law_935 : decode cL_law 935 = .ok (.iconst 2, 1) := by decide +kernel
theorem dL_law_936 : decode cL_law 936 = .ok (.ishr, 1) := by decide +kernel
theorem dL_law_937 : decode cL_law 937 = .ok (.aload_n 2, 1) := by decide +kernel
theorem dL_law_938 : decode cL_law 938 = .ok (.iconst 0, 1) := by decide +kernel
theorem dL_law_939 : decode cL_law 939 = .ok (.iaload, 1) := by decide +kernel
theorem dL_law_940 : decode cL_law 940 = .ok (.invokestatic 91, 3) := by decide +kernel
theorem dL_law_943 : decode cL_law 943 = .ok (.aload_n 3, 1) := by decide +kernel
theorem dL_law_944 : decode cL_law 944 = .ok (.invokestatic 128, 3) := by decide +kernel
theorem dL_law_947 : decode cL_law 947 = .ok (.ifCond .ne 5, 3) := by decide +kernel
theorem dL_law_950 : decode cL_law 950 = .ok (.iconst 0, 1) := by decide +kernel
theorem dL_law_951 : decode cL_law 951 = .ok (.ireturn, 1) := by decide +kernel
theorem dL_law_952 : decode cL_law 952 = .ok (.iinc 10 1, 3) := by decide +kernel
theorem dL_law_955 : decode cL_law 955 = .ok (.goto (-898), 3) := by decide +kernel
theorem dL_law_958 : decode cL_law 958 = .ok (.iconst 1, 1) := by decide +kernel
theorem dL_law_959 : decode cL_law 959 = .ok (.ireturn, 1) := by decide +kernel
end
section
/-! MY OWN LAYER, 1: the world as components (one function a field), what lies outside it, the rows over it. -/
abbrev zS : Type := List Nat × (Nat → Nat) × (Nat → Nat → Int32) × (Nat → Nat → Option Nat) × (Nat → Nat) × (Nat → Nat → Int32) × (Nat → Nat → Option Nat) × (Nat → Nat → Int64)
/-- the live addresses -/
def zh_L (S : zS) : List Nat := S.1
/-- the kind of a cell: 0 Draws, 1 Entry, 2 Promise, 3 DiceForge, 4 DiceForgeModel, 5 ArrayList, 6 int[], 7 boolean[], 8 Object[], 9 long[] -/
def zh_K (S : zS) : Nat → Nat := S.2.1
/-- int fields, by number and address -/
def zh_I (S : zS) : Nat → Nat → Int32 := S.2.2.1
/-- reference fields -/
def zh_R (S : zS) : Nat → Nat → Option Nat := S.2.2.2.1
/-- lengths of arrays -/
def zh_N (S : zS) : Nat → Nat := S.2.2.2.2.1
/-- rows of int arrays and boolean arrays -/
def zh_A (S : zS) : Nat → Nat → Int32 := S.2.2.2.2.2.1
/-- rows of reference arrays -/
def zh_Q (S : zS) : Nat → Nat → Option Nat := S.2.2.2.2.2.2.1
/-- rows of long arrays -/
def zh_J (S : zS) : Nat → Nat → Int64 := S.2.2.2.2.2.2.2
def zh_u {α : Type} (f : Nat → Nat → α) (j a : Nat) (v : α) : Nat → Nat → α := fun j' a' => if j' = j ∧ a' = a then v else f j' a'
def zh_sI (S : zS) (j a : Nat) (v : Int32) : zS := (zh_L S, zh_K S, zh_u (zh_I S) j a v, zh_R S, zh_N S, zh_A S, zh_Q S, zh_J S)
def zh_sR (S : zS) (j a : Nat) (v : Option Nat) : zS := (zh_L S, zh_K S, zh_I S, zh_u (zh_R S) j a v, zh_N S, zh_A S, zh_Q S, zh_J S)
def zh_sA (S : zS) (a : Nat) (f : Nat → Int32) : zS := (zh_L S, zh_K S, zh_I S, zh_R S, zh_N S, va_up (zh_A S) a f, zh_Q S, zh_J S)
def zh_sQ (S : zS) (a : Nat) (f : Nat → Option Nat) : zS := (zh_L S, zh_K S, zh_I S, zh_R S, zh_N S, zh_A S, va_up (zh_Q S) a f, zh_J S)
def zh_sJ (S : zS) (a : Nat) (f : Nat → Int64) : zS := (zh_L S, zh_K S, zh_I S, zh_R S, zh_N S, zh_A S, zh_Q S, va_up (zh_J S) a f)
/-- a new object of a kind: fields 0 and null -/
def zh_nO (S : zS) (q k : Nat) : zS := (zh_L S ++ [q], va_up (zh_K S) q k, (fun j a => if a = q then 0 else zh_I S j a), (fun j a => if a = q then none else zh_R S j a), zh_N S, zh_A S, zh_Q S, zh_J S)
/-- a new array of a kind -/
def zh_nA (S : zS) (q k n : Nat) : zS := (zh_L S ++ [q], va_up (zh_K S) q k, zh_I S, zh_R S, va_up (zh_N S) q n, va_up (zh_A S) q (fun _ => 0), va_up (zh_Q S) q (fun _ => none), va_up (zh_J S) q (fun _ => 0))
def zh_at (S : zS) (k a : Nat) : Prop := a ∈ zh_L S ∧ zh_K S a = k
/-- what is fixed for a run: the first address of the law's own cells, the empty list's shared array, the classes, the array classes -/
abbrev zG : Type := Nat × Nat × va_G × (Nat → ClassId)
def zh_e (g : zG) (S : zS) (a : Nat) (k : Nat) : va_E := match k with
  | 0 => .inr (1, [.int (zh_I S 0 a), .int (zh_I S 1 a)])
  | 1 => .inr (2, [.int (zh_I S 2 a), .int (zh_I S 3 a), .int (zh_I S 4 a), .int (zh_I S 5 a), .int (zh_I S 6 a), .int (zh_I S 7 a), .int (zh_I S 8 a), .int (zh_I S 9 a)])
  | 2 => .inr (3, [.int (zh_I S 10 a), va_rf (zh_R S 0 a), .int (zh_I S 11 a), .int (zh_I S 12 a)])
  | 3 => .inr (4, [va_rf (zh_R S 1 a), va_rf (zh_R S 2 a), va_rf (zh_R S 3 a), va_rf (zh_R S 4 a)])
  | 4 => .inr (5, [.int (zh_I S 20 a), .int (zh_I S 21 a), va_rf (zh_R S 10 a), va_rf (zh_R S 11 a), va_rf (zh_R S 12 a), va_rf (zh_R S 13 a), va_rf (zh_R S 14 a), .int (zh_I S 22 a), va_rf (zh_R S 15 a), va_rf (zh_R S 16 a), va_rf (zh_R S 17 a), va_rf (zh_R S 18 a), va_rf (zh_R S 19 a), va_rf (zh_R S 20 a), va_rf (zh_R S 21 a), va_rf (zh_R S 22 a), .int (zh_I S 23 a), .int (zh_I S 24 a)])
  | 5 => .inr (0, [.int (zh_I S 30 a), va_rf (zh_R S 30 a), .int (zh_I S 31 a)])
  | 6 => .inl (g.2.2.2 0, zh_N S a, .inl (zh_A S a))
  | 7 => .inl (g.2.2.2 1, zh_N S a, .inl (zh_A S a))
  | 8 => .inl (g.2.2.2 2, zh_N S a, .inr (.inr (.inr (.inr (zh_Q S a)))))
  | _ => .inl (g.2.2.2 3, zh_N S a, .inr (.inl (zh_J S a)))
def zh_w (g : zG) (S : zS) : va_W := va_pl (zh_L S) (fun a => zh_e g S a (zh_K S a))
def zh_T (g : zG) : List (ClassId × FieldType) := [(g.2.2.2 0, .int), (g.2.2.2 0, .int), (g.2.2.2 2, .object "java/lang/Object")]
-- the components of the setters
section ZC
variable (S : zS) (j a q k n : Nat) (v : Int32) (r : Option Nat) (f : Nat → Int32) (fq : Nat → Option Nat) (fj : Nat → Int64)
theorem zh_I_sI : zh_I (zh_sI S j a v) = zh_u (zh_I S) j a v := rfl
theorem zh_I_sR : zh_I (zh_sR S j a r) = zh_I S := rfl
theorem zh_I_sA : zh_I (zh_sA S a f) = zh_I S := rfl
theorem zh_I_sQ : zh_I (zh_sQ S a fq) = zh_I S := rfl
theorem zh_I_sJ : zh_I (zh_sJ S a fj) = zh_I S := rfl
theorem zh_I_nA : zh_I (zh_nA S q k n) = zh_I S := rfl
theorem zh_R_sI : zh_R (zh_sI S j a v) = zh_R S := rfl
theorem zh_R_sR : zh_R (zh_sR S j a r) = zh_u (zh_R S) j a r := rfl
theorem zh_R_sA : zh_R (zh_sA S a f) = zh_R S := rfl
theorem zh_R_sQ : zh_R (zh_sQ S a fq) = zh_R S := rfl
theorem zh_R_sJ : zh_R (zh_sJ S a fj) = zh_R S := rfl
theorem zh_R_nA : zh_R (zh_nA S q k n) = zh_R S := rfl
theorem zh_A_sI : zh_A (zh_sI S j a v) = zh_A S := rfl
theorem zh_A_sR : zh_A (zh_sR S j a r) = zh_A S := rfl
theorem zh_A_sA : zh_A (zh_sA S a f) = va_up (zh_A S) a f := rfl
theorem zh_A_sQ : zh_A (zh_sQ S a fq) = zh_A S := rfl
theorem zh_A_sJ : zh_A (zh_sJ S a fj) = zh_A S := rfl
theorem zh_A_nO : zh_A (zh_nO S q k) = zh_A S := rfl
theorem zh_Q_sI : zh_Q (zh_sI S j a v) = zh_Q S := rfl
theorem zh_Q_sR : zh_Q (zh_sR S j a r) = zh_Q S := rfl
theorem zh_Q_sA : zh_Q (zh_sA S a f) = zh_Q S := rfl
theorem zh_Q_sQ : zh_Q (zh_sQ S a fq) = va_up (zh_Q S) a fq := rfl
theorem zh_Q_sJ : zh_Q (zh_sJ S a fj) = zh_Q S := rfl
theorem zh_Q_nO : zh_Q (zh_nO S q k) = zh_Q S := rfl
theorem zh_J_sI : zh_J (zh_sI S j a v) = zh_J S := rfl
theorem zh_J_sR : zh_J (zh_sR S j a r) = zh_J S := rfl
theorem zh_J_sA : zh_J (zh_sA S a f) = zh_J S := rfl
theorem zh_J_sQ : zh_J (zh_sQ S a fq) = zh_J S := rfl
theorem zh_J_sJ : zh_J (zh_sJ S a fj) = va_up (zh_J S) a fj := rfl
theorem zh_J_nO : zh_J (zh_nO S q k) = zh_J S := rfl
theorem zh_N_sI : zh_N (zh_sI S j a v) = zh_N S := rfl
theorem zh_N_sR : zh_N (zh_sR S j a r) = zh_N S := rfl
theorem zh_N_sA : zh_N (zh_sA S a f) = zh_N S := rfl
theorem zh_N_sQ : zh_N (zh_sQ S a fq) = zh_N S := rfl
theorem zh_N_sJ : zh_N (zh_sJ S a fj) = zh_N S := rfl
theorem zh_N_nO : zh_N (zh_nO S q k) = zh_N S := rfl
theorem zh_K_sI : zh_K (zh_sI S j a v) = zh_K S := rfl
theorem zh_K_sR : zh_K (zh_sR S j a r) = zh_K S := rfl
theorem zh_K_sA : zh_K (zh_sA S a f) = zh_K S := rfl
theorem zh_K_sQ : zh_K (zh_sQ S a fq) = zh_K S := rfl
theorem zh_K_sJ : zh_K (zh_sJ S a fj) = zh_K S := rfl
theorem zh_L_sI : zh_L (zh_sI S j a v) = zh_L S := rfl
theorem zh_L_sR : zh_L (zh_sR S j a r) = zh_L S := rfl
theorem zh_L_sA : zh_L (zh_sA S a f) = zh_L S := rfl
theorem zh_L_sQ : zh_L (zh_sQ S a fq) = zh_L S := rfl
theorem zh_L_sJ : zh_L (zh_sJ S a fj) = zh_L S := rfl
end ZC
theorem zh_u_s {α : Type} (f : Nat → Nat → α) (j a : Nat) (v : α) : zh_u f j a v j a = v := by simp [zh_u]
theorem zh_u_j {α : Type} (f : Nat → Nat → α) {j j' : Nat} (a a' : Nat) (v : α) (h : j' ≠ j) : zh_u f j a v j' a' = f j' a' := by simp [zh_u, h]
theorem zh_u_a {α : Type} (f : Nat → Nat → α) (j j' : Nat) {a a' : Nat} (v : α) (h : a' ≠ a) : zh_u f j a v j' a' = f j' a' := by simp [zh_u, h]
theorem zh_at_nO {S : zS} {k a : Nat} (h : zh_at S k a) {q k2 : Nat} (hq : q ∉ zh_L S) : zh_at (zh_nO S q k2) k a := by
  have hne : a ≠ q := fun e => hq (e ▸ h.1)
  exact ⟨List.mem_append_left _ h.1, by show va_up (zh_K S) q k2 a = k; rw [va_up_ne _ _ hne]; exact h.2⟩
theorem zh_at_nA {S : zS} {k a : Nat} (h : zh_at S k a) {q k2 n : Nat} (hq : q ∉ zh_L S) : zh_at (zh_nA S q k2 n) k a := by
  have hne : a ≠ q := fun e => hq (e ▸ h.1)
  exact ⟨List.mem_append_left _ h.1, by show va_up (zh_K S) q k2 a = k; rw [va_up_ne _ _ hne]; exact h.2⟩
theorem zh_at_new {S : zS} {q k : Nat} : zh_at (zh_nO S q k) k q := ⟨List.mem_append_right _ (List.mem_singleton.mpr rfl), by show va_up (zh_K S) q k q = k; rw [va_up_self]⟩
theorem zh_at_newA {S : zS} {q k n : Nat} : zh_at (zh_nA S q k n) k q := ⟨List.mem_append_right _ (List.mem_singleton.mpr rfl), by show va_up (zh_K S) q k q = k; rw [va_up_self]⟩
theorem zh_at_ne {S : zS} {k k' a b : Nat} (ha : zh_at S k a) (hb : zh_at S k' b) (h : k ≠ k') : a ≠ b := fun e => h (by rw [← ha.2, e, hb.2])
-- a cell that isn't written keeps its content
theorem zh_e_sI (g : zG) (S : zS) {j a b : Nat} (v : Int32) (h : b ≠ a) (k : Nat) : zh_e g (zh_sI S j a v) b k = zh_e g S b k := by
  unfold zh_e; split <;> simp only [zh_I_sI, zh_R_sI, zh_A_sI, zh_Q_sI, zh_J_sI, zh_N_sI, zh_u_a _ _ _ _ h]
theorem zh_e_sR (g : zG) (S : zS) {j a b : Nat} (v : Option Nat) (h : b ≠ a) (k : Nat) : zh_e g (zh_sR S j a v) b k = zh_e g S b k := by
  unfold zh_e; split <;> simp only [zh_I_sR, zh_R_sR, zh_A_sR, zh_Q_sR, zh_J_sR, zh_N_sR, zh_u_a _ _ _ _ h]
theorem zh_e_sA (g : zG) (S : zS) {a b : Nat} (f : Nat → Int32) (h : b ≠ a) (k : Nat) : zh_e g (zh_sA S a f) b k = zh_e g S b k := by
  unfold zh_e; split <;> simp only [zh_I_sA, zh_R_sA, zh_A_sA, zh_Q_sA, zh_J_sA, zh_N_sA, va_up_ne _ _ h]
theorem zh_e_sQ (g : zG) (S : zS) {a b : Nat} (f : Nat → Option Nat) (h : b ≠ a) (k : Nat) : zh_e g (zh_sQ S a f) b k = zh_e g S b k := by
  unfold zh_e; split <;> simp only [zh_I_sQ, zh_R_sQ, zh_A_sQ, zh_Q_sQ, zh_J_sQ, zh_N_sQ, va_up_ne _ _ h]
theorem zh_e_sJ (g : zG) (S : zS) {a b : Nat} (f : Nat → Int64) (h : b ≠ a) (k : Nat) : zh_e g (zh_sJ S a f) b k = zh_e g S b k := by
  unfold zh_e; split <;> simp only [zh_I_sJ, zh_R_sJ, zh_A_sJ, zh_Q_sJ, zh_J_sJ, zh_N_sJ, va_up_ne _ _ h]
theorem zh_e_nO (g : zG) (S : zS) {q b : Nat} (kq : Nat) (h : b ≠ q) (k : Nat) : zh_e g (zh_nO S q kq) b k = zh_e g S b k := by
  have hI : ∀ j, zh_I (zh_nO S q kq) j b = zh_I S j b := fun j => if_neg h
  have hR : ∀ j, zh_R (zh_nO S q kq) j b = zh_R S j b := fun j => if_neg h
  unfold zh_e; split <;> simp only [hI, hR, zh_A_nO, zh_Q_nO, zh_J_nO, zh_N_nO]
theorem zh_e_nA (g : zG) (S : zS) {q b : Nat} (kq n : Nat) (h : b ≠ q) (k : Nat) : zh_e g (zh_nA S q kq n) b k = zh_e g S b k := by
  have hA : zh_A (zh_nA S q kq n) b = zh_A S b := va_up_ne _ _ h
  have hQ : zh_Q (zh_nA S q kq n) b = zh_Q S b := va_up_ne _ _ h
  have hJ : zh_J (zh_nA S q kq n) b = zh_J S b := va_up_ne _ _ h
  have hN : zh_N (zh_nA S q kq n) b = zh_N S b := va_up_ne _ _ h
  unfold zh_e; split <;> simp only [zh_I_nA, zh_R_nA, hA, hQ, hJ, hN]
theorem zh_get {g : zG} {S : zS} {kd a : Nat} (X : va_W) (h : zh_at S kd a) : ∃ k : Nat, (X ++ zh_w g S)[k]? = some (a, zh_e g S a kd) := by
  obtain ⟨k, hk⟩ := va_pl_get (X := X) (f := fun a => zh_e g S a (zh_K S a)) h.1
  exact ⟨k, by rw [← h.2]; exact hk⟩
/-- a write of one cell: the world's list behind it is the world of the new components -/
theorem zh_set {g : zG} {S S' : zS} {kd a k : Nat} {A : Nat → Prop} {X : va_W} {e0 : va_E} (hD : va_D A (X ++ zh_w g S)) (h : zh_at S kd a) (hk : (X ++ zh_w g S)[k]? = some (a, zh_e g S a kd)) (hL : zh_L S' = zh_L S) (hK : zh_K S' = zh_K S) (he : zh_e g S' a kd = e0) (ho : ∀ b, b ≠ a → ∀ k, zh_e g S' b k = zh_e g S b k) :
    (X ++ zh_w g S).set k (a, e0) = X ++ zh_w g S' := by
  have hk' : (X ++ va_pl (zh_L S) (fun a => zh_e g S a (zh_K S a)))[k]? = some (a, zh_e g S a (zh_K S a)) := by rw [h.2]; exact hk
  refine (va_pl_set (f := fun a => zh_e g S a (zh_K S a)) hD h.1 hk').trans ?_
  show X ++ va_pl (zh_L S) _ = X ++ va_pl (zh_L S') _
  rw [hL]
  refine congrArg (fun l => X ++ l) (va_pl_congr fun b => ?_)
  by_cases hb : b = a
  · subst hb
    rw [va_up_self, hK, h.2, he]
  · rw [va_up_ne _ _ hb, hK, ho b hb]
theorem zh_push {g : zG} {S S' : zS} {q kq : Nat} {X : va_W} {e0 : va_E} (hq : q ∉ zh_L S) (hL : zh_L S' = zh_L S ++ [q]) (hK : zh_K S' = va_up (zh_K S) q kq) (he : zh_e g S' q kq = e0) (ho : ∀ b, b ≠ q → ∀ k, zh_e g S' b k = zh_e g S b k) :
    (X ++ zh_w g S) ++ [(q, e0)] = X ++ zh_w g S' := by
  rw [List.append_assoc]
  refine congrArg (fun l => X ++ l) ?_
  show va_pl (zh_L S) (fun a => zh_e g S a (zh_K S a)) ++ [(q, e0)] = va_pl (zh_L S') _
  rw [va_pl_push hq, hL]
  refine va_pl_congr fun b => ?_
  by_cases hb : b = q
  · subst hb
    rw [va_up_self, hK, va_up_self, he]
  · rw [va_up_ne _ _ hb, hK, va_up_ne _ _ hb, ho b hb]
end
section
/-! MY OWN LAYER, 2: what lies outside the world, the invariant of a walk, contracts over the world's components, calls and ends. -/
/-- words that the tables decide and a warmed machine keeps, but that aren't 'good' -/
def zn_ok : Cond → Bool
  | .fieldLinkNest .. => true
  | .methodLinkNest .. => true
  | .castable .. => true
  | .declares .. => true
  | _ => false
theorem zn_warm {w : Cond} (hw : zn_ok w = true) {s U : State} (hW : s.WarmedH U.vm) (h : va_Nw w s) : va_Nw w U := by
  cases w <;> first | exact va_Nw.warmF hW h | exact va_Nw.warmM hW h | exact va_Nw.warmC hW h | exact va_Nw.warmD hW h | exact absurd hw (by simp [zn_ok])
def zn_ws : List Cond := [
  .fieldLinkNest "DiceForge" 112 "DiceForge$Draws" "rejected" "I" "DiceForge",
  .fieldLinkNest "DiceForge" 56 "DiceForge$Promise" "seed" "I" "DiceForge",
  .fieldLinkNest "DiceForge" 97 "DiceForge$Promise" "draws" "LDiceForge$Draws;" "DiceForge",
  .fieldLinkNest "DiceForge" 76 "DiceForge$Promise" "opened" "Z" "DiceForge",
  .fieldLinkNest "DiceForge" 155 "DiceForge$Promise" "disputed" "Z" "DiceForge",
  .fieldLinkNest "DiceForge" 145 "DiceForge$Entry" "promise" "I" "DiceForge",
  .fieldLinkNest "DiceForge" 170 "DiceForge$Entry" "table" "I" "DiceForge",
  .fieldLinkNest "DiceForge" 101 "DiceForge$Entry" "part" "I" "DiceForge",
  .fieldLinkNest "DiceForge" 129 "DiceForge$Entry" "faces" "I" "DiceForge",
  .fieldLinkNest "DiceForge" 109 "DiceForge$Entry" "value" "I" "DiceForge",
  .fieldLinkNest "DiceForge" 115 "DiceForge$Entry" "rejected" "I" "DiceForge",
  .fieldLinkNest "DiceForge" 122 "DiceForge$Entry" "sum" "I" "DiceForge",
  .fieldLinkNest "DiceForge" 136 "DiceForge$Entry" "struck" "Z" "DiceForge",
  .methodLinkNest "DiceForge" 119 ⟨"DiceForge$Entry", "sumAfter", "(I)I"⟩ "DiceForge",
  .methodLinkNest "DiceForge" 45 ⟨"DiceForge$Promise", "<init>", "(I)V"⟩ "DiceForge",
  .methodLinkNest "DiceForge$Promise" 15 ⟨"DiceForge$Draws", "<init>", "(I)V"⟩ "DiceForge",
  .methodLinkNest "DiceForge" 94 ⟨"DiceForge$Entry", "<init>", "(IIII)V"⟩ "DiceForge",
  .methodLinkNest "DiceForge" 104 ⟨"DiceForge$Draws", "nextValue", "(II)I"⟩ "DiceForge",
  .methodLinkNest "DiceForge" 151 ⟨"DiceForge$Draws", "<init>", "(I)V"⟩ "DiceForge",
  .methodLinkNest "DiceForge" 163 ⟨"DiceForge$Entry", "countsFor", "(I)Z"⟩ "DiceForge",
  .castable "DiceForge$Promise" "java/lang/Object",
  .castable "DiceForge$Entry" "java/lang/Object",
  .castable "java/lang/IllegalArgumentException" "java/lang/IllegalArgumentException",
  .castable "java/lang/IllegalStateException" "java/lang/IllegalStateException",
  .castable "java/lang/IndexOutOfBoundsException" "java/lang/IndexOutOfBoundsException",
  .declares ⟨"java/lang/RuntimeException", "<init>", "(Ljava/lang/String;)V"⟩,
  .declares ⟨"java/lang/Exception", "<init>", "(Ljava/lang/String;)V"⟩,
  .declares ⟨"java/lang/Throwable", "<init>", "(Ljava/lang/String;)V"⟩,
  .declares ⟨"java/lang/Object", "getClass", "()Ljava/lang/Class;"⟩]
theorem zn_ws_ok : ∀ w ∈ zn_ws, zn_ok w = true := by decide +kernel
theorem zn_ws_tbl : ∀ w ∈ zn_ws, w ∈ lw_tbl := by decide +kernel
theorem zn_ws_on : ∀ w ∈ zn_ws, w.onTables = true := by decide +kernel
def zn_strs : List (Nat × String) := [(139, "the entry is struck"), (158, "the promise was disputed"), (175, "there is no such promise"), (178, "the promise is not opened"), (180, "there is no such entry"), (182, "there is no such table"), (184, "a die has 2 to 1000 faces"), (186, "a value is 1 to the faces"), (29, "a seed is 0 to 65535"), (40, "there are 16 promises"), (80, "the promise is opened"), (85, "a part is 0 to 999"), (90, "there are 100 entries")]
abbrev zn_IA : String := "java/lang/IllegalArgumentException"
abbrev zn_IS : String := "java/lang/IllegalStateException"
abbrev zn_IO : String := "java/lang/IndexOutOfBoundsException"
def zn_ncs : List (String × String) := [(zn_IA, zn_IS), (zn_IS, zn_IA), (zn_IO, zn_IA), (zn_IO, zn_IS)]
def zh_O (g : zG) (U : State) (H : Heap) : Prop :=
  (∀ w ∈ zn_ws, va_Nw w U) ∧ va_AO "java/lang/Object" U ∧ (∀ q ∈ zn_strs, ∃ sa : Nat, vk_R "DiceForge" q.1 q.2 sa U) ∧ (∀ q ∈ zn_ncs, va_Nc q.1 q.2 U) ∧ va_Mi "[Ljava/lang/Object;" (g.2.2.1.2 99 0) U ∧
  vx_Zq Bundle.tN "UNASSIGNED_STACK" Bundle.steD (fun q => g.1 ≤ q) U H ∧ vx_Zq Bundle.tN "SUPPRESSED_SENTINEL" Bundle.listD (fun q => g.1 ≤ q) U H ∧
  va_Z "java/util/ArrayList" "DEFAULTCAPACITY_EMPTY_ELEMENTDATA" "[Ljava/lang/Object;" (.ref g.2.1) (fun q => g.1 ≤ q) U H ∧
  (∃ ce : Cell, H[g.2.1]? = some ce ∧ U.isArrayOf ce (.object "java/lang/Object") ∧ ce.slots.size = 0) ∧ g.2.1 < g.1
theorem zh_O.moved {g : zG} {s U : State} {H H1 : Heap} (hW : s.WarmedH U.vm) (h : zh_O g s H) (hg : ∀ a : Nat, a < g.1 → H1[a]? = H[a]?) : zh_O g U H1 := by
  obtain ⟨h1, h2, h3, h4, h5, h6, h7, h8, h9, h10⟩ := h
  have k : ∀ a : Nat, a < H.size → ¬ (fun q : Nat => g.1 ≤ q) a → H1[a]? = H[a]? := fun a _ h => hg a (Nat.not_le.mp h)
  refine ⟨fun w hw => zn_warm (zn_ws_ok w hw) hW (h1 w hw), h2.moved hW.alike, fun q hq => ?_, fun q hq => (h4 q hq).moved hW.alike, h5.moved hW.alike, (h6.moved hW.alike).kept k, (h7.moved hW.alike).kept k, (h8.moved hW.alike).kept k, ?_, h10⟩
  · obtain ⟨sa, hs⟩ := h3 q hq
    exact ⟨sa, hs.warm hW⟩
  · obtain ⟨ce, k1, k2, k3⟩ := h9
    exact ⟨ce, by rw [hg _ h10]; exact k1, State.isArrayOf_alike hW.alike k2, k3⟩
/-- the invariant of a walk: X the cells beside the world -/
def zh_V (g : zG) (A : Nat → Prop) (s : State) (X : va_W) (S : zS) (H : Heap) (locs : List Loc) : Prop :=
  va_K g.2.2.1 vwCl (zh_T g) s ∧ va_P g.2.2.1 vwCl (X ++ zh_w g S) H ∧ va_D A (X ++ zh_w g S) ∧ va_S A s.heap H locs ∧ (∀ q, s.heap.size ≤ q → A q) ∧ (∀ q, A q → g.1 ≤ q) ∧ g.1 ≤ s.heap.size ∧ zh_O g s s.heap
theorem zh_V.K {g : zG} {A : Nat → Prop} {s : State} {X : va_W} {S : zS} {H : Heap} {locs : List Loc} (I : zh_V g A s X S H locs) : va_K g.2.2.1 vwCl (zh_T g) s := I.1
theorem zh_V.P {g : zG} {A : Nat → Prop} {s : State} {X : va_W} {S : zS} {H : Heap} {locs : List Loc} (I : zh_V g A s X S H locs) : va_P g.2.2.1 vwCl (X ++ zh_w g S) H := I.2.1
theorem zh_V.D {g : zG} {A : Nat → Prop} {s : State} {X : va_W} {S : zS} {H : Heap} {locs : List Loc} (I : zh_V g A s X S H locs) : va_D A (X ++ zh_w g S) := I.2.2.1
theorem zh_V.S {g : zG} {A : Nat → Prop} {s : State} {X : va_W} {S : zS} {H : Heap} {locs : List Loc} (I : zh_V g A s X S H locs) : va_S A s.heap H locs := I.2.2.2.1
theorem zh_V.A {g : zG} {A : Nat → Prop} {s : State} {X : va_W} {S : zS} {H : Heap} {locs : List Loc} (I : zh_V g A s X S H locs) : ∀ q, s.heap.size ≤ q → A q := I.2.2.2.2.1
theorem zh_V.lo {g : zG} {A : Nat → Prop} {s : State} {X : va_W} {S : zS} {H : Heap} {locs : List Loc} (I : zh_V g A s X S H locs) : ∀ q, A q → g.1 ≤ q := I.2.2.2.2.2.1
theorem zh_V.N {g : zG} {A : Nat → Prop} {s : State} {X : va_W} {S : zS} {H : Heap} {locs : List Loc} (I : zh_V g A s X S H locs) : g.1 ≤ s.heap.size := I.2.2.2.2.2.2.1
theorem zh_V.O {g : zG} {A : Nat → Prop} {s : State} {X : va_W} {S : zS} {H : Heap} {locs : List Loc} (I : zh_V g A s X S H locs) : zh_O g s s.heap := I.2.2.2.2.2.2.2
theorem zh_V.to {g : zG} {A : Nat → Prop} {s : State} {X : va_W} {S S' : zS} {H H1 : Heap} {locs locs1 : List Loc} (I : zh_V g A s X S H locs) {ws : va_W} (e : ws = X ++ zh_w g S') (hP : va_P g.2.2.1 vwCl ws H1) (hD : va_D A ws) (hS : va_S A s.heap H1 locs1) : zh_V g A s X S' H1 locs1 := by
  subst e
  exact ⟨I.1, hP, hD, hS, I.2.2.2.2⟩
theorem zh_V.out {g : zG} {A : Nat → Prop} {s : State} {X : va_W} {S : zS} {H : Heap} {locs : List Loc} (I : zh_V g A s X S H locs) : ∀ a : Nat, a < g.1 → H[a]? = s.heap[a]? := fun a ha =>
  I.S.2.1 a (Nat.lt_of_lt_of_le ha I.N) (fun z => Nat.not_lt.mpr (I.lo a z) ha)
theorem zh_V.fresh {g : zG} {A : Nat → Prop} {s : State} {X : va_W} {S : zS} {H : Heap} {locs : List Loc} (I : zh_V g A s X S H locs) {q : Nat} (h : H.size ≤ q) : q ∉ zh_L S := va_pl_fresh I.P h
-- what a contract asks of the start, and gives at the end
def zh_Pr (g : zG) (S : zS) (U : State) : Prop := va_K g.2.2.1 vwCl (zh_T g) U ∧ va_P g.2.2.1 vwCl (zh_w g S) U.heap ∧ va_D (fun q => g.1 ≤ q) (zh_w g S) ∧ g.1 ≤ U.heap.size ∧ zh_O g U U.heap
def zh_Po (g : zG) (A : Nat → Prop) (Q : Option Value → zS → Prop) : Array Value → State → Outcome → State → Prop := fun _ st oc t => (∃ (v : Option Value) (S' : zS), oc = .returned v ∧ Q v S' ∧ va_P g.2.2.1 vwCl (zh_w g S') t.heap ∧ va_D A (zh_w g S')) ∧ va_F A st t
def zh_Px (g : zG) (A : Nat → Prop) (QX : String → zS → Prop) : String → State → State → Prop := fun E st t => ∃ S' : zS, QX E S' ∧ va_P g.2.2.1 vwCl (zh_w g S') t.heap ∧ va_D A (zh_w g S') ∧ va_F A st t
abbrev zh_Pc (g : zG) (av : List Value) (S : zS) (sz : Nat) : Array Value → State → Prop := va_Pc av (fun U => U.heap.size = sz ∧ zh_Pr g S U)
/-- a contract: y, called with av in any heap that holds S, returns v and S' with Q -/
def zM (l : Launch) (y : MethodName) (b : ByteArray) (n : Nat) (ret : Option FieldType) (rm : Room) (g : zG) (av : List Value) (S : zS) (Q : Option Value → zS → Prop) : Prop := ∀ sz : Nat, Met l y (Cond.code y b n ret :: zc_W) rm (zh_Pc g av S sz) (zh_Po g (va_A (zh_w g S) sz) Q) rm.cells rm.slots (va_A (zh_w g S) sz)
/-- .. or throws a fresh E, with QX -/
def zX (l : Launch) (y : MethodName) (b : ByteArray) (n : Nat) (ret : Option FieldType) (rm : Room) (g : zG) (av : List Value) (S : zS) (Q : Option Value → zS → Prop) (QX : String → zS → Prop) : Prop := ∀ sz : Nat, vx_Met l y (Cond.code y b n ret :: zc_W) rm (zh_Pc g av S sz) (zh_Po g (va_A (zh_w g S) sz) Q) (zh_Px g (va_A (zh_w g S) sz) QX) rm.cells rm.slots (va_A (zh_w g S) sz)
theorem zh_blind (g : zG) (av : List Value) (S : zS) (sz : Nat) : FrameBlind (zh_Pc g av S sz) := fun a U gg mk h => by
  obtain ⟨h1, h2, hK, hP, hD, hN, hO⟩ := h
  exact ⟨h1, h2, va_K.moved (u := U) (U := U.calling gg mk a) (Vm.Alike.refl U.vm) hK, hP, hD, hN, zh_O.moved (U := U.calling gg mk a) (State.WarmedH.refl U) hO (fun _ _ => rfl)⟩
theorem zh_V.pre {g : zG} {A : Nat → Prop} {s : State} {X : va_W} {S : zS} {H : Heap} {locs : List Loc} (I : zh_V g A s X S H locs) : ∀ U : State, U.heap = H → s.WarmedH U.vm → U.heap.size = H.size ∧ zh_Pr g S U := fun U hU hW => by
  refine ⟨by rw [hU], va_K.moved hW.alike I.K, ?_, ?_, ?_, ?_⟩
  · rw [hU]; exact fun k q hk => I.P (X.length + k) q (by rw [List.getElem?_append_right (Nat.le_add_right _ _), Nat.add_sub_cancel_left]; exact hk)
  · refine ⟨fun i j p q hi hj e => ?_, fun k q hk => I.lo _ (I.D.2 (X.length + k) q (by rw [List.getElem?_append_right (Nat.le_add_right _ _), Nat.add_sub_cancel_left]; exact hk))⟩
    have := I.D.1 (X.length + i) (X.length + j) p q (by rw [List.getElem?_append_right (Nat.le_add_right _ _), Nat.add_sub_cancel_left]; exact hi) (by rw [List.getElem?_append_right (Nat.le_add_right _ _), Nat.add_sub_cancel_left]; exact hj) e
    omega
  · rw [hU]; exact Nat.le_trans I.N I.S.1
  · rw [hU]; exact zh_O.moved hW I.O I.out
theorem zh_V.sub {g : zG} {A : Nat → Prop} {s : State} {X : va_W} {S : zS} {H : Heap} {locs : List Loc} (I : zh_V g A s X S H locs) : ∀ q, va_A (zh_w g S) H.size q → A q := fun q h => by
  rcases h with ⟨k, e, hk⟩ | h
  · exact I.D.2 (X.length + k) (q, e) (by rw [List.getElem?_append_right (Nat.le_add_right _ _), Nat.add_sub_cancel_left]; exact hk)
  · exact I.A q (Nat.le_trans I.S.1 h)
/-- the invariant behind a call that had the world S and gave back S' -/
theorem zh_V.back {g : zG} {A : Nat → Prop} {s : State} {X : va_W} {S S' : zS} {H H1 : Heap} {locs locs1 : List Loc} (I : zh_V g A s X S H locs) (hz : H.size ≤ H1.size) (hk : ∀ q : Nat, q < H.size → ¬ va_A (zh_w g S) H.size q → H1[q]? = H[q]?) (hS : va_S A s.heap H1 locs1) (hP : va_P g.2.2.1 vwCl (zh_w g S') H1) (hD : va_D (va_A (zh_w g S) H.size) (zh_w g S')) : zh_V g A s X S' H1 locs1 := by
  have hX : ∀ (k : Nat) (q : Nat × va_E), X[k]? = some q → (X ++ zh_w g S)[k]? = some q := fun k q h => by
    rw [List.getElem?_append_left (List.getElem?_eq_some_iff.mp h).1]; exact h
  have ap : ∀ (k : Nat) (q : Nat × va_E), X[k]? = some q → q.1 < H.size ∧ ¬ va_A (zh_w g S) H.size q.1 := fun k q h => by
    have hlt := (I.P k q (hX k q h)).lt
    refine ⟨hlt, fun z => ?_⟩
    rcases z with ⟨i, e, hi⟩ | z
    · have h2 : (X ++ zh_w g S)[X.length + i]? = some (q.1, e) := by rw [List.getElem?_append_right (Nat.le_add_right _ _), Nat.add_sub_cancel_left]; exact hi
      have := I.D.1 k (X.length + i) q (q.1, e) (hX k q h) h2 rfl
      have hk2 := (List.getElem?_eq_some_iff.mp h).1
      omega
    · exact Nat.not_lt.mpr z hlt
  refine ⟨I.K, va_P.app (fun k q h => (I.P k q (hX k q h)).kept (hk q.1 (ap k q h).1 (ap k q h).2)) hP, va_D.app ⟨fun i j p q hi hj e => I.D.1 i j p q (hX i p hi) (hX j q hj) e, fun k q h => I.D.2 k q (hX k q h)⟩ (hD.weaken fun _ q _ h => I.sub q.1 h) (fun i j p q hi hj e => ?_), hS, I.2.2.2.2⟩
  exact (ap i p hi).2 (by rw [e]; exact hD.2 j q hj)
theorem zgoodW {c : Cond} (h : c ∈ zc_W) : GoodIn zc_W (c :: zc_W) := fun w hw => (List.mem_cons.mp hw).elim (fun e => by rw [e]; exact ⟨h, good_of_word (zc_gw _ h)⟩) (fun h9 => ⟨h9, good_of_word (zc_gw _ h9)⟩)
theorem zgoodV {own C : String} {index : Nat} {y : MethodName} {c : Cond} (h1 : Cond.methodLink own index y ∈ zc_W) (h2 : Cond.instanceMethod y ∈ zc_W) (h3 : Cond.selects C y y ∈ zc_W) (h4 : Cond.initialized C ∈ zc_W) (h5 : c ∈ zc_W) : GoodIn zc_W (wsV own index C y (c :: zc_W)) := by
  refine goodIn_app (fun w hw => ?_) (zgoodW h5)
  have : w ∈ zc_W := by
    rcases List.mem_cons.mp hw with e | hw
    · rw [e]; exact h1
    · rcases List.mem_cons.mp hw with e | hw
      · rw [e]; exact h2
      · rcases List.mem_cons.mp hw with e | hw
        · rw [e]; exact h3
        · rw [List.mem_singleton.mp hw]; exact h4
  exact ⟨this, good_of_word (zc_gw _ this)⟩
theorem zgoodS {own : String} {index : Nat} {y : MethodName} {c : Cond} (h1 : Cond.methodLink own index y ∈ zc_W) (h2 : Cond.static y ∈ zc_W) (h4 : Cond.initialized y.cls ∈ zc_W) (h5 : c ∈ zc_W) : GoodIn zc_W (va_wsS own index y (c :: zc_W)) := by
  refine goodIn_app (fun w hw => ?_) (zgoodW h5)
  have : w ∈ zc_W := by
    rcases List.mem_cons.mp hw with e | hw
    · rw [e]; exact h1
    · rcases List.mem_cons.mp hw with e | hw
      · rw [e]; exact h2
      · rw [List.mem_singleton.mp hw]; exact h4
  exact ⟨this, good_of_word (zc_gw _ this)⟩
section ZR
variable {p : Program} {l : Launch} {e : Env} {R : Room} {s : State} {m : MethodId} {args : Array Value} {below : List Frame} {meth : Method} {c : Code} {H : Heap} {locs : List Loc} {cells slots : Nat} {Q : State → Prop}
variable {g : zG} {A : Nat → Prop} {X : va_W} {S : zS} {cc bytes : ByteArray} {nL : Nat} {own : String} {pc : Nat} {ls : Array Slot} {rest st0 As : List Value} {rm : Room} {y : MethodName} {maxL index n : Nat} {ret : Option FieldType} {Qp : Option Value → zS → Prop} {QX : String → zS → Prop}
/-- behind a call that returns -/
theorem zc_ret {a : Array Value} {mc ms : Nat} (I : zh_V g A s X S H locs) (hr : va_Run p l e R s m args below meth c H locs cells slots mc ms (F0 m pc ls st0) rest (zh_Po g (va_A (zh_w g S) H.size) Qp a) (va_A (zh_w g S) H.size))
    (kk : ∀ (v : Option Value) (S' : zS) (H1 : Heap) (locs1 : List Loc), Qp v S' → zh_V g A s X S' H1 locs1 → W p l e R s m args below meth c H1 locs1 (cells + mc) (slots + ms) Q (F0 m (pc + 3) ls (v.toList ++ rest))) : W p l e R s m args below meth c H locs cells slots Q (F0 m pc ls st0) := by
  intro T hT Y
  obtain ⟨v, st₀, t, T', L, h0, Y', hL, e1, e2, ⟨⟨v', S', hv, hq, hP, hD⟩, hz, hk⟩, st⟩ := hr T hT Y
  cases hv
  rw [h0] at hz hk
  rw [← e1] at hz hP
  obtain ⟨t2, a1, b1⟩ := kk v S' T'.heap (locs ++ L) hq (I.back hz (fun q h1 h2 => by rw [e1]; exact hk q h1 h2) ⟨Nat.le_trans I.S.1 hz, fun q h1 h2 => by
      rw [e1, hk q (Nat.lt_of_lt_of_le h1 I.S.1) (fun z => h2 (I.sub q z))]; exact I.S.2.1 q h1 h2, fun q hq => by
      rcases List.mem_append.mp hq with h | h
      · exact I.S.2.2 q h
      · exact I.sub _ (hL q h)⟩ hP hD) T' rfl Y'
  exact ⟨t2, st t2 a1, b1⟩
/-- behind a call that returns or throws -/
theorem zc_retX {a : Array Value} {mc ms : Nat} (I : zh_V g A s X S H locs) (hr : vx_Run p l e R s m args below meth c H locs cells slots mc ms (F0 m pc ls st0) rest (zh_Po g (va_A (zh_w g S) H.size) Qp a) (zh_Px g (va_A (zh_w g S) H.size) QX) (va_A (zh_w g S) H.size))
    (kx : ∀ (E : String) (ce : Cell) (q9 : Addr) (S' : zS) (H1 : Heap) (locs1 : List Loc), QX E S' → zh_V g A s X S' H1 locs1 → H1[q9]? = some ce → ce.vm = .none → s.vm.findClass E = some ce.cls → vx_W p l e R s m args below meth c H1 locs1 (cells + mc) (slots + ms) Q (F0 m pc ls rest) q9)
    (kk : ∀ (v : Option Value) (S' : zS) (H1 : Heap) (locs1 : List Loc), Qp v S' → zh_V g A s X S' H1 locs1 → W p l e R s m args below meth c H1 locs1 (cells + mc) (slots + ms) Q (F0 m (pc + 3) ls (v.toList ++ rest))) : W p l e R s m args below meth c H locs cells slots Q (F0 m pc ls st0) := by
  intro T hT Y
  rcases hr T hT Y with ⟨v, st₀, t, T', L, h0, Y', hL, e1, e2, ⟨⟨v', S', hv, hq, hP, hD⟩, hz, hk⟩, st⟩ | ⟨q, st₀, t, T', L, E, ce, h0, Y', hL, e1, e2, ⟨S', hq, hP, hD, hz, hk⟩, hce, hcv, hcl, st⟩
  · cases hv
    rw [h0] at hz hk
    rw [← e1] at hz hP
    obtain ⟨t2, a1, b1⟩ := kk v S' T'.heap (locs ++ L) hq (I.back hz (fun q h1 h2 => by rw [e1]; exact hk q h1 h2) ⟨Nat.le_trans I.S.1 hz, fun q h1 h2 => by
        rw [e1, hk q (Nat.lt_of_lt_of_le h1 I.S.1) (fun z => h2 (I.sub q z))]; exact I.S.2.1 q h1 h2, fun q hq => by
        rcases List.mem_append.mp hq with h | h
        · exact I.S.2.2 q h
        · exact I.sub _ (hL q h)⟩ hP hD) T' rfl Y'
    exact ⟨t2, st t2 a1, b1⟩
  · rw [h0] at hz hk
    rw [← e1] at hz hP
    obtain ⟨t2, a1, b1⟩ := kx E ce q S' T'.heap (locs ++ L) hq (I.back hz (fun q h1 h2 => by rw [e1]; exact hk q h1 h2) ⟨Nat.le_trans I.S.1 hz, fun q h1 h2 => by
        rw [e1, hk q (Nat.lt_of_lt_of_le h1 I.S.1) (fun z => h2 (I.sub q z))]; exact I.S.2.1 q h1 h2, fun q hq => by
        rcases List.mem_append.mp hq with h | h
        · exact I.S.2.2 q h
        · exact I.sub _ (hL q h)⟩ hP hD) (by rw [e1]; exact hce) hcv hcl T' rfl Y'
    exact ⟨t2, st.trans a1, b1⟩
theorem zh_V.preS (I : zh_V g A s X S H locs) (av : List Value) : PreS s H (zh_Pc g av S H.size) av := ⟨zh_blind g av S H.size, fun U hU hW => ⟨rfl, I.pre U hU hW⟩⟩
theorem zh_V.preV (I : zh_V g A s X S H locs) {kd ci b : Nat} {q : vw_C} {fs : List Value} (hb : zh_at S kd b) (he : zh_e g S b kd = .inr (ci, fs)) (hc : vwCl[ci]? = some q) (av : List Value) : PreV s H q.1 b (zh_Pc g (.ref b :: av) S H.size) av := by
  obtain ⟨k, hk⟩ := zh_get X hb
  rw [he] at hk
  exact ⟨zh_blind g _ S H.size, va_recv I.K I.P hc hk, fun U hU hW => ⟨rfl, I.pre U hU hW⟩⟩
/-- invokevirtual of a method that returns -/
theorem zc_V (C : CallFix p m c cc nL s args zc_W own) (I : zh_V g A s X S H locs) {kd ci b : Nat} {q : vw_C} {fs : List Value} (hb : zh_at S kd b) (he : zh_e g S b kd = .inr (ci, fs)) (hc : vwCl[ci]? = some q) (hM : zM l y bytes maxL ret rm g (.ref b :: As) S Qp) (h1 : Cond.methodLink own index y ∈ zc_W) (h2 : Cond.instanceMethod y ∈ zc_W) (h3 : Cond.selects q.1 y y ∈ zc_W) (h4 : Cond.initialized q.1 ∈ zc_W) (h5 : Cond.code y bytes maxL ret ∈ zc_W) (hstack : st0 = As.reverse ++ .ref b :: rest) (hl : ls.size = nL) (hdg : decode cc pc = .ok (.invokevirtual index, 3))
    (hd : y.cls = q.1 ∧ y.cls ≠ "java/lang/invoke/MethodHandle" ∧ y.cls ≠ "java/lang/invoke/VarHandle" ∧ (parseMethodDescriptor y.desc).map (fun d => d.parameters.length) = some n) (hn : As.length = n) (hR : rm.frames + 1 ≤ R.frames ∧ 8 + (maxL + 11) + rm.locals ≤ R.locals) (hr8 : (rest.map fun v => v.category).sum ≤ 8) (hf : cells + rm.cells ≤ R.cells ∧ slots + rm.slots ≤ R.slots)
    (kk : ∀ (v : Option Value) (S' : zS) (H1 : Heap) (locs1 : List Loc), Qp v S' → zh_V g A s X S' H1 locs1 → W p l e R s m args below meth c H1 locs1 (cells + rm.cells) (slots + rm.slots) Q (F0 m (pc + 3) ls (v.toList ++ rest))) : W p l e R s m args below meth c H locs cells slots Q (F0 m pc ls st0) := by
  subst hstack
  exact zc_ret I (va_runV (As := As) (rest := rest) C (hM H.size) (cwV n C.2.2.2.2 (zgoodV h1 h2 h3 h4 h5) rfl rfl rfl hd hR) (I.preV hb he hc As) rfl hn hl rfl (lv_room hr8) hdg hf) kk
/-- .. that returns or throws -/
theorem zc_VX (C : CallFix p m c cc nL s args zc_W own) (I : zh_V g A s X S H locs) {kd ci b : Nat} {q : vw_C} {fs : List Value} (hb : zh_at S kd b) (he : zh_e g S b kd = .inr (ci, fs)) (hc : vwCl[ci]? = some q) (hM : zX l y bytes maxL ret rm g (.ref b :: As) S Qp QX) (h1 : Cond.methodLink own index y ∈ zc_W) (h2 : Cond.instanceMethod y ∈ zc_W) (h3 : Cond.selects q.1 y y ∈ zc_W) (h4 : Cond.initialized q.1 ∈ zc_W) (h5 : Cond.code y bytes maxL ret ∈ zc_W) (hstack : st0 = As.reverse ++ .ref b :: rest) (hl : ls.size = nL) (hdg : decode cc pc = .ok (.invokevirtual index, 3))
    (hd : y.cls = q.1 ∧ y.cls ≠ "java/lang/invoke/MethodHandle" ∧ y.cls ≠ "java/lang/invoke/VarHandle" ∧ (parseMethodDescriptor y.desc).map (fun d => d.parameters.length) = some n) (hn : As.length = n) (hR : rm.frames + 1 ≤ R.frames ∧ 8 + (maxL + 11) + rm.locals ≤ R.locals) (hr8 : (rest.map fun v => v.category).sum ≤ 8) (hf : cells + rm.cells ≤ R.cells ∧ slots + rm.slots ≤ R.slots)
    (kx : ∀ (E : String) (ce : Cell) (q9 : Addr) (S' : zS) (H1 : Heap) (locs1 : List Loc), QX E S' → zh_V g A s X S' H1 locs1 → H1[q9]? = some ce → ce.vm = .none → s.vm.findClass E = some ce.cls → vx_W p l e R s m args below meth c H1 locs1 (cells + rm.cells) (slots + rm.slots) Q (F0 m pc ls rest) q9)
    (kk : ∀ (v : Option Value) (S' : zS) (H1 : Heap) (locs1 : List Loc), Qp v S' → zh_V g A s X S' H1 locs1 → W p l e R s m args below meth c H1 locs1 (cells + rm.cells) (slots + rm.slots) Q (F0 m (pc + 3) ls (v.toList ++ rest))) : W p l e R s m args below meth c H locs cells slots Q (F0 m pc ls st0) := by
  subst hstack
  exact zc_retX I (vx_runV (As := As) (rest := rest) C (hM H.size) (cwV n C.2.2.2.2 (zgoodV h1 h2 h3 h4 h5) rfl rfl rfl hd hR) (I.preV hb he hc As) rfl hn hl rfl (lv_room hr8) hdg hf) kx kk
/-- invokestatic of a method that returns -/
theorem zc_S (C : CallFix p m c cc nL s args zc_W own) (I : zh_V g A s X S H locs) (hM : zM l y bytes maxL ret rm g As S Qp) (h1 : Cond.methodLink own index y ∈ zc_W) (h2 : Cond.static y ∈ zc_W) (h4 : Cond.initialized y.cls ∈ zc_W) (h5 : Cond.code y bytes maxL ret ∈ zc_W) (hstack : st0 = As.reverse ++ rest) (hl : ls.size = nL) (hdg : decode cc pc = .ok (.invokestatic index, 3))
    (hd : y.cls ≠ "java/lang/invoke/MethodHandle" ∧ y.cls ≠ "java/lang/invoke/VarHandle" ∧ (parseMethodDescriptor y.desc).map (fun d => d.parameters.length) = some n) (hn : As.length = n) (hR : rm.frames + 1 ≤ R.frames ∧ 8 + (maxL + 11) + rm.locals ≤ R.locals) (hr8 : (rest.map fun v => v.category).sum ≤ 8) (hf : cells + rm.cells ≤ R.cells ∧ slots + rm.slots ≤ R.slots)
    (kk : ∀ (v : Option Value) (S' : zS) (H1 : Heap) (locs1 : List Loc), Qp v S' → zh_V g A s X S' H1 locs1 → W p l e R s m args below meth c H1 locs1 (cells + rm.cells) (slots + rm.slots) Q (F0 m (pc + 3) ls (v.toList ++ rest))) : W p l e R s m args below meth c H locs cells slots Q (F0 m pc ls st0) := by
  subst hstack
  exact zc_ret I (va_runS (As := As) (rest := rest) C (hM H.size) (va_cwS n C.2.2.2.2 (zgoodS h1 h2 h4 h5) rfl rfl rfl hd hR) (I.preS As) rfl hn hl rfl (lv_room hr8) hdg hf) kk
theorem zc_SX (C : CallFix p m c cc nL s args zc_W own) (I : zh_V g A s X S H locs) (hM : zX l y bytes maxL ret rm g As S Qp QX) (h1 : Cond.methodLink own index y ∈ zc_W) (h2 : Cond.static y ∈ zc_W) (h4 : Cond.initialized y.cls ∈ zc_W) (h5 : Cond.code y bytes maxL ret ∈ zc_W) (hstack : st0 = As.reverse ++ rest) (hl : ls.size = nL) (hdg : decode cc pc = .ok (.invokestatic index, 3))
    (hd : y.cls ≠ "java/lang/invoke/MethodHandle" ∧ y.cls ≠ "java/lang/invoke/VarHandle" ∧ (parseMethodDescriptor y.desc).map (fun d => d.parameters.length) = some n) (hn : As.length = n) (hR : rm.frames + 1 ≤ R.frames ∧ 8 + (maxL + 11) + rm.locals ≤ R.locals) (hr8 : (rest.map fun v => v.category).sum ≤ 8) (hf : cells + rm.cells ≤ R.cells ∧ slots + rm.slots ≤ R.slots)
    (kx : ∀ (E : String) (ce : Cell) (q9 : Addr) (S' : zS) (H1 : Heap) (locs1 : List Loc), QX E S' → zh_V g A s X S' H1 locs1 → H1[q9]? = some ce → ce.vm = .none → s.vm.findClass E = some ce.cls → vx_W p l e R s m args below meth c H1 locs1 (cells + rm.cells) (slots + rm.slots) Q (F0 m pc ls rest) q9)
    (kk : ∀ (v : Option Value) (S' : zS) (H1 : Heap) (locs1 : List Loc), Qp v S' → zh_V g A s X S' H1 locs1 → W p l e R s m args below meth c H1 locs1 (cells + rm.cells) (slots + rm.slots) Q (F0 m (pc + 3) ls (v.toList ++ rest))) : W p l e R s m args below meth c H locs cells slots Q (F0 m pc ls st0) := by
  subst hstack
  exact zc_retX I (vx_runS (As := As) (rest := rest) C (hM H.size) (va_cwS n C.2.2.2.2 (zgoodS h1 h2 h4 h5) rfl rfl rfl hd hR) (I.preS As) rfl hn hl rfl (lv_room hr8) hdg hf) kx kk
/-- invokespecial of a constructor -/
theorem zc_I (C : CallFix p m c cc nL s args zc_W own) (I : zh_V g A s X S H locs) {b : Nat} (hM : zM l y bytes maxL none rm g (.ref b :: As) S Qp) (hlk : Cond.methodLink own index y ∈ zc_W) (hin : Cond.instanceMethod y ∈ zc_W) (hini : Cond.initialized y.cls ∈ zc_W) (h5 : Cond.code y bytes maxL none ∈ zc_W) (hy : y.name = "<init>") (hstack : st0 = As.reverse ++ .ref b :: rest) (hl : ls.size = nL) (hdg : decode cc pc = .ok (.invokespecial index, 3))
    (hd : y.cls ≠ "java/lang/invoke/MethodHandle" ∧ y.cls ≠ "java/lang/invoke/VarHandle" ∧ (parseMethodDescriptor y.desc).map (fun d => d.parameters.length) = some n) (hn : As.length = n) (hR : rm.frames + 1 ≤ R.frames ∧ 8 + (maxL + 11) + rm.locals ≤ R.locals) (hr8 : (rest.map fun v => v.category).sum ≤ 8) (hf : cells + rm.cells ≤ R.cells ∧ slots + rm.slots ≤ R.slots)
    (kk : ∀ (v : Option Value) (S' : zS) (H1 : Heap) (locs1 : List Loc), Qp v S' → zh_V g A s X S' H1 locs1 → W p l e R s m args below meth c H1 locs1 (cells + rm.cells) (slots + rm.slots) Q (F0 m (pc + 3) ls (v.toList ++ rest))) : W p l e R s m args below meth c H locs cells slots Q (F0 m pc ls st0) := by
  subst hstack
  exact zc_ret I (va_runI (As := As) (rest := rest) C (hM H.size) (cwI n C.2.2.2.2 (zgoodW h5) rfl rfl rfl (C.2.2.2.2 _ hini) (C.2.2.2.2 _ hlk) (C.2.2.2.2 _ hin) hy hd hR) (I.preS (.ref b :: As)) rfl hn hl rfl (lv_room hr8) hdg hf) kk
-- ends
theorem zr_iret {v : Int32} {mc ms : Nat} (C : CallFix p m c cc nL s args zc_W own) (I : zh_V g A s [] S H locs) (hr : meth.sig.returnType = some .int) (hlk : meth.locks = false) (hq : Qp (some (.int v)) S) (hc : cells ≤ mc) (hs : slots ≤ ms) (hdg : decode cc pc = .ok (.ireturn, 1)) : W p l e R s m args below meth c H locs cells slots (MQ below (zh_Po g A Qp) args s mc ms A) (F0 m pc ls [.int v]) := by
  refine W.widen hc hs ?_
  exact W.iret (v := v) C.1 C.2.1 hr (fun t ht hW => ⟨⟨_, S, rfl, hq, by rw [ht]; exact I.P, I.D⟩, I.S.F ht⟩) I.S.2.2 hdg hlk
theorem zr_zret {v : Int32} {mc ms : Nat} (C : CallFix p m c cc nL s args zc_W own) (I : zh_V g A s [] S H locs) (hr : meth.sig.returnType = some .boolean) (hn : narrow .boolean (.int v) = .int v) (hlk : meth.locks = false) (hq : Qp (some (.int v)) S) (hc : cells ≤ mc) (hs : slots ≤ ms) (hdg : decode cc pc = .ok (.ireturn, 1)) : W p l e R s m args below meth c H locs cells slots (MQ below (zh_Po g A Qp) args s mc ms A) (F0 m pc ls [.int v]) := by
  refine W.widen hc hs ?_
  exact W.zret (v := v) C.1 C.2.1 hr hn (fun t ht hW => ⟨⟨_, S, rfl, hq, by rw [ht]; exact I.P, I.D⟩, I.S.F ht⟩) I.S.2.2 hdg hlk
theorem zr_lret {v : Int64} {mc ms : Nat} (C : CallFix p m c cc nL s args zc_W own) (I : zh_V g A s [] S H locs) (hr : meth.sig.returnType = some .long) (hlk : meth.locks = false) (hq : Qp (some (.long v)) S) (hc : cells ≤ mc) (hs : slots ≤ ms) (hdg : decode cc pc = .ok (.lreturn, 1)) : W p l e R s m args below meth c H locs cells slots (MQ below (zh_Po g A Qp) args s mc ms A) (F0 m pc ls [.long v]) := by
  refine W.widen hc hs ?_
  exact W.lret (v := v) C.1 C.2.1 hr (fun t ht hW => ⟨⟨_, S, rfl, hq, by rw [ht]; exact I.P, I.D⟩, I.S.F ht⟩) I.S.2.2 hdg hlk
theorem zr_vret {mc ms : Nat} (C : CallFix p m c cc nL s args zc_W own) (I : zh_V g A s [] S H locs) (hr : meth.sig.returnType = none) (hlk : meth.locks = false) (hq : Qp none S) (hc : cells ≤ mc) (hs : slots ≤ ms) (hdg : decode cc pc = .ok (.return_, 1)) : W p l e R s m args below meth c H locs cells slots (MQ below (zh_Po g A Qp) args s mc ms A) (F0 m pc ls []) := by
  refine W.widen hc hs ?_
  exact W.vret C.1 C.2.1 hr (fun t ht hW => ⟨⟨_, S, rfl, hq, by rw [ht]; exact I.P, I.D⟩, I.S.F ht⟩) I.S.2.2 hdg hlk
end ZR
section ZN
variable {p : Program} {l : Launch} {e : Env} {R : Room} {s : State} {m : MethodId} {args : Array Value} {below : List Frame} {meth : Method} {c : Code} {H : Heap} {locs : List Loc} {cells slots : Nat} {Q : State → Prop}
variable {g : zG} {A : Nat → Prop} {X : va_W} {S : zS} {cc bytes : ByteArray} {nL : Nat} {own : String} {pc : Nat} {ls : Array Slot} {rest st0 As : List Value} {rm : Room} {y : MethodName} {maxL index n : Nat} {ret : Option FieldType} {Qp : Option Value → zS → Prop} {QX : String → zS → Prop}
/-- invokespecial of a nest mate's constructor -/
theorem zc_IN {host : String} (C : CallFix p m c cc nL s args zc_W own) (I : zh_V g A s X S H locs) {b : Nat} (hM : zM l y bytes maxL none rm g (.ref b :: As) S Qp) (hlk : Cond.methodLinkNest own index y host ∈ zn_ws) (hin : Cond.instanceMethod y ∈ zc_W) (hini : Cond.initialized y.cls ∈ zc_W) (h5 : Cond.code y bytes maxL none ∈ zc_W) (hy : y.name = "<init>") (hstack : st0 = As.reverse ++ .ref b :: rest) (hl : ls.size = nL) (hdg : decode cc pc = .ok (.invokespecial index, 3))
    (hd : y.cls ≠ "java/lang/invoke/MethodHandle" ∧ y.cls ≠ "java/lang/invoke/VarHandle" ∧ (parseMethodDescriptor y.desc).map (fun d => d.parameters.length) = some n) (hn : As.length = n) (hR : rm.frames + 1 ≤ R.frames ∧ 8 + (maxL + 11) + rm.locals ≤ R.locals) (hr8 : (rest.map fun v => v.category).sum ≤ 8) (hf : cells + rm.cells ≤ R.cells ∧ slots + rm.slots ≤ R.slots)
    (kk : ∀ (v : Option Value) (S' : zS) (H1 : Heap) (locs1 : List Loc), Qp v S' → zh_V g A s X S' H1 locs1 → W p l e R s m args below meth c H1 locs1 (cells + rm.cells) (slots + rm.slots) Q (F0 m (pc + 3) ls (v.toList ++ rest))) : W p l e R s m args below meth c H locs cells slots Q (F0 m pc ls st0) := by
  subst hstack
  exact zc_ret I (va_runIN (As := As) (rest := rest) C (hM H.size) ⟨va_cnB n C.2.2.2.2 (zgoodW h5) rfl rfl rfl (I.O.1 _ hlk) (C.2.2.2.2 _ hini) hd hR, hy, C.2.2.2.2 _ hin⟩ (I.preS (.ref b :: As)) rfl hn hl rfl (lv_room hr8) hdg hf) kk
/-- invokevirtual of a nest mate's private method -/
theorem zc_VN {host : String} (C : CallFix p m c cc nL s args zc_W own) (I : zh_V g A s X S H locs) {kd ci b : Nat} {q : vw_C} {fs : List Value} (hb : zh_at S kd b) (he : zh_e g S b kd = .inr (ci, fs)) (hc : vwCl[ci]? = some q) (hM : zM l y bytes maxL ret rm g (.ref b :: As) S Qp) (hlk : Cond.methodLinkNest own index y host ∈ zn_ws) (hin : Cond.instanceMethod y ∈ zc_W) (hsel : Cond.selects q.1 y y ∈ zc_W) (hini : Cond.initialized y.cls ∈ zc_W) (h5 : Cond.code y bytes maxL ret ∈ zc_W) (hstack : st0 = As.reverse ++ .ref b :: rest) (hl : ls.size = nL) (hdg : decode cc pc = .ok (.invokevirtual index, 3))
    (hd : y.cls ≠ "java/lang/invoke/MethodHandle" ∧ y.cls ≠ "java/lang/invoke/VarHandle" ∧ (parseMethodDescriptor y.desc).map (fun d => d.parameters.length) = some n) (hn : As.length = n) (hR : rm.frames + 1 ≤ R.frames ∧ 8 + (maxL + 11) + rm.locals ≤ R.locals) (hr8 : (rest.map fun v => v.category).sum ≤ 8) (hf : cells + rm.cells ≤ R.cells ∧ slots + rm.slots ≤ R.slots)
    (kk : ∀ (v : Option Value) (S' : zS) (H1 : Heap) (locs1 : List Loc), Qp v S' → zh_V g A s X S' H1 locs1 → W p l e R s m args below meth c H1 locs1 (cells + rm.cells) (slots + rm.slots) Q (F0 m (pc + 3) ls (v.toList ++ rest))) : W p l e R s m args below meth c H locs cells slots Q (F0 m pc ls st0) := by
  subst hstack
  exact zc_ret I (va_runVN (As := As) (rest := rest) C (hM H.size) ⟨va_cnB n C.2.2.2.2 (zgoodW h5) rfl rfl rfl (I.O.1 _ hlk) (C.2.2.2.2 _ hini) hd hR, C.2.2.2.2 _ hin, C.2.2.2.2 _ hsel⟩ (I.preV hb he hc As) rfl hn hl rfl (lv_room hr8) hdg hf) kk
theorem zr_aret {v : Value} {rt : FieldType} {mc ms : Nat} (C : CallFix p m c cc nL s args zc_W own) (I : zh_V g A s [] S H locs) (hr : meth.sig.returnType = some rt) (hrt : (∃ n, rt = .object n) ∨ ∃ t, rt = .array t) (hv : v = .null ∨ ∃ a, v = .ref a) (hlk : meth.locks = false) (hq : Qp (some v) S) (hc : cells ≤ mc) (hs : slots ≤ ms) (hdg : decode cc pc = .ok (.areturn, 1)) : W p l e R s m args below meth c H locs cells slots (MQ below (zh_Po g A Qp) args s mc ms A) (F0 m pc ls [v]) := by
  refine W.widen hc hs ?_
  exact W.aret (v := v) C.1 C.2.1 hr hrt hv (fun t ht hW => ⟨⟨_, S, rfl, hq, by rw [ht]; exact I.P, I.D⟩, I.S.F ht⟩) I.S.2.2 hdg hlk
/-- a method's body -/
theorem zM_of {av : List Value} {nm : String} (hy : plainName y.cls = true) (hnm : y.name = nm) (hlen : (lg_sl av).length ≤ maxL)
    (body : ∀ (p : Program) (e : Env) (s : State) (m : MethodId) (args : Array Value) (below : List Frame) (meth : Method) (c : Code) (A : Nat → Prop) (ls : Array Slot), CallFix p m c cc maxL s args zc_W y.cls → meth.sig.returnType = ret → meth.locks = false → meth.name = nm → zh_V g A s [] S s.heap [] → lv_has ls maxL (lv_args 0 av) →
      W p l e rm s m args below meth c s.heap [] 0 0 (MQ below (zh_Po g A Qp) args s rm.cells rm.slots A) (F0 m 0 ls [])) : zM l y cc maxL ret rm g av S Qp := by
  intro sz
  refine Met.ofW (cc := cc) (maxL := maxL) (ret := ret) hy rfl ?_
  intro p e s m args below meth c s₁ B hml hv
  obtain ⟨rfl, hsz, hK, hP, hD0, hN, hO⟩ := hv
  have hts := atoms_spec (ws := Cond.code y cc maxL ret :: zc_W) B.pre
  subst hsz
  have hl := lv_entry av (n := maxL) hlen
  rw [lg_entry_eq]
  refine body p e s m _ below meth c (va_A (zh_w g S) s.heap.size) _ ⟨B.exec, B.bytes, hml, findClass_of_methodNamed B.named, fun w h => hts w (List.mem_cons_of_mem _ h)⟩ B.returns B.notSynchronized ((name_of_methodNamed B.named B.method).1.trans hnm) ⟨hK, hP, hD0.self, va_S.rf, fun q h => Or.inr h, fun q h => ?_, hN, hO⟩ hl
  rcases h with ⟨k, e, hk⟩ | h
  · exact hD0.2 k _ hk
  · exact Nat.le_trans hN h
theorem zX_of {av : List Value} {nm : String} (hy : plainName y.cls = true) (hnm : y.name = nm) (hlen : (lg_sl av).length ≤ maxL)
    (body : ∀ (p : Program) (e : Env) (s : State) (m : MethodId) (args : Array Value) (below : List Frame) (meth : Method) (c : Code) (A : Nat → Prop) (ls : Array Slot), CallFix p m c cc maxL s args zc_W y.cls → meth.sig.returnType = ret → meth.locks = false → (∀ x ∈ c.exceptionTable.toList, False) → zh_V g A s [] S s.heap [] → lv_has ls maxL (lv_args 0 av) →
      W p l e rm s m args below meth c s.heap [] 0 0 (vx_MQ below (zh_Po g A Qp) (zh_Px g A QX) args s rm.cells rm.slots A) (F0 m 0 ls [])) : zX l y cc maxL ret rm g av S Qp QX := by
  intro sz
  refine vx_ofW (cc := cc) (maxL := maxL) (ret := ret) hy rfl ?_
  intro p e s m args below meth c s₁ B hml hx hv
  obtain ⟨rfl, hsz, hK, hP, hD0, hN, hO⟩ := hv
  have hts := atoms_spec (ws := Cond.code y cc maxL ret :: zc_W) B.pre
  subst hsz
  have hl := lv_entry av (n := maxL) hlen
  rw [lg_entry_eq]
  refine body p e s m _ below meth c (va_A (zh_w g S) s.heap.size) _ ⟨B.exec, B.bytes, hml, findClass_of_methodNamed B.named, fun w h => hts w (List.mem_cons_of_mem _ h)⟩ B.returns B.notSynchronized hx ⟨hK, hP, hD0.self, va_S.rf, fun q h => Or.inr h, fun q h => ?_, hN, hO⟩ hl
  rcases h with ⟨k, e, hk⟩ | h
  · exact hD0.2 k _ hk
  · exact Nat.le_trans hN h
/-- thrown by a callee, not caught here -/
theorem zr_out {E : String} {ce : Cell} {q : Addr} {mc ms : Nat} (I : zh_V g A s [] S H locs) (hx : ∀ x ∈ c.exceptionTable.toList, False) (hlk : meth.locks = false) (hq : QX E S) (hcell : H[q]? = some ce) (hv : ce.vm = .none) (hcl : s.vm.findClass E = some ce.cls) (hc : cells ≤ mc) (hs : slots ≤ ms) : vx_W p l e R s m args below meth c H locs cells slots (vx_MQ below (zh_Po g A Qp) (zh_Px g A QX) args s mc ms A) (F0 m pc ls rest) q :=
  vx_out (fun x h => (hx x h).elim) hlk hcell hv hcl (fun t ht hW => ⟨S, hq, by rw [ht]; exact I.P, I.D, I.S.F ht⟩) I.S.2.2 hc hs
/-- 'throw new E("text")' -/
theorem zr_throw {cls text : String} {ik is ic : Nat} {mc ms : Nat} (C : CallFix p m c cc nL s args zc_W own) (I : zh_V g A s [] S H locs) (hl : l.stackTraces = false) (hx : ∀ x ∈ c.exceptionTable.toList, False) (hlk : meth.locks = false) (hown : own = "DiceForge") (hcls : Bundle.fit cls = true) (hnames : ∀ n ∈ ["java/lang/RuntimeException", "java/lang/Exception"], Bundle.fit n = true)
    (hk : Cond.classLink own ik cls ∈ zc_W) (hini : Cond.initialized cls ∈ zc_W) (hstr : (is, text) ∈ zn_strs) (hat1 : ∀ w ∈ (vx_atS own ic cls ["java/lang/RuntimeException", "java/lang/Exception"]).filter goodWord, w ∈ zc_W) (hat2 : ∀ w ∈ (vx_atS own ic cls ["java/lang/RuntimeException", "java/lang/Exception"]).filter (fun w => !goodWord w), w ∈ zn_ws)
    (hgood : ∀ w ∈ Cond.classLink own ik cls :: Cond.initialized cls :: vx_atS own ic cls ["java/lang/RuntimeException", "java/lang/Exception"], vx_ot w = true) (hsize : ls.size = nL)
    (d0 : decode cc pc = .ok (.new ik, 3)) (d3 : decode cc (pc + 3) = .ok (.dup, 1)) (d4 : decode cc (pc + 4) = .ok (.ldc is, 2)) (d6 : decode cc (pc + 6) = .ok (.invokespecial ic, 3)) (d9 : decode cc (pc + 9) = .ok (.athrow, 1))
    (hRframes : 5 < R.frames) (hRlocals : (rest.map fun v => v.category).sum + 82 ≤ R.locals) (hRcells : cells + 1 ≤ R.cells) (hRslots : slots + 6 ≤ R.slots) (hq : QX cls S) (hc : cells + 1 ≤ mc) (hs : slots + 6 ≤ ms) :
    W p l e R s m args below meth c H locs cells slots (vx_MQ below (zh_Po g A Qp) (zh_Px g A QX) args s mc ms A) (F0 m pc ls rest) := by
  subst hown
  obtain ⟨sa, hsa⟩ := I.O.2.2.1 _ hstr
  refine vx_throwS (sa := sa) (names := ["java/lang/RuntimeException", "java/lang/Exception"]) (A := A) C.1 C.2.1 hl C.2.2.2.1 hcls hnames (C.2.2.2.2 _ hk) (C.2.2.2.2 _ hini) hsa
    (vx_hat (B := zn_ws) (fun w hw => C.2.2.2.2 w (hat1 w hw)) hat2 (fun w hw => va_Nw.use (zn_ws_on w hw) (I.O.1 w hw))) hgood
    (I.O.2.2.2.2.2.1.narrow I.lo) (I.O.2.2.2.2.2.2.1.narrow I.lo) I.S (hsize.trans C.2.2.1.symm) d0 d3 d4 d6 d9 (fun x h => (hx x h).elim) hRframes hRlocals hRcells hRslots hlk ?_ I.S.2.2 hc hs
  intro t hW hz hk
  refine ⟨S, hq, I.P.kept (fun k q h => hk q.1 (I.P k q h).lt), I.D, Nat.le_trans I.S.1 hz, fun q h1 h2 => ?_⟩
  rw [hk q (Nat.lt_of_lt_of_le h1 I.S.1)]
  exact I.S.2.1 q h1 h2
-- arrays
theorem zr_iald {a : Nat} {i v : Int32} (C : CallFix p m c cc nL s args zc_W own) (I : zh_V g A s X S H locs) (ha : zh_at S 6 a) (hin : vp_in i (zh_N S a)) (hv : zh_A S a i.toNatClampNeg = v) (hdg : decode cc pc = .ok (.iaload, 1)) (kk : W p l e R s m args below meth c H locs cells slots Q (F0 m (pc + 1) ls (.int v :: rest))) : W p l e R s m args below meth c H locs cells slots Q (F0 m pc ls (.int i :: .ref a :: rest)) := by
  obtain ⟨k, hk⟩ := zh_get (g := g) X ha
  subst hv
  exact va_iald C.1 C.2.1 I.K I.P k 0 hk rfl hin hdg kk
theorem zr_iast {a : Nat} {i v : Int32} (C : CallFix p m c cc nL s args zc_W own) (I : zh_V g A s X S H locs) (ha : zh_at S 6 a) (hin : vp_in i (zh_N S a)) (hdg : decode cc pc = .ok (.iastore, 1)) (kk : ∀ (H : Heap) (locs : List Loc), zh_V g A s X (zh_sA S a (upd (zh_A S a) i.toNatClampNeg v)) H locs → W p l e R s m args below meth c H locs cells slots Q (F0 m (pc + 1) ls rest)) : W p l e R s m args below meth c H locs cells slots Q (F0 m pc ls (.int v :: .int i :: .ref a :: rest)) := by
  obtain ⟨k, hk⟩ := zh_get (g := g) X ha
  refine va_iast C.1 C.2.1 I.K I.P I.D I.S k 0 hk rfl hin hdg fun H1 locs1 hP hD hS => kk H1 locs1 (I.to (zh_set I.D ha hk rfl rfl ?_ (fun b hb k => zh_e_sA g S _ hb k)) hP hD hS)
  show Sum.inl (g.2.2.2 0, zh_N S a, Sum.inl (va_up (zh_A S) a _ a)) = _
  rw [va_up_self]
theorem zr_qald {a v : Nat} {i : Int32} (C : CallFix p m c cc nL s args zc_W own) (I : zh_V g A s X S H locs) (ha : zh_at S 8 a) (hin : vp_in i (zh_N S a)) (hv : zh_Q S a i.toNatClampNeg = some v) (hdg : decode cc pc = .ok (.aaload, 1)) (kk : W p l e R s m args below meth c H locs cells slots Q (F0 m (pc + 1) ls (.ref v :: rest))) : W p l e R s m args below meth c H locs cells slots Q (F0 m pc ls (.int i :: .ref a :: rest)) := by
  obtain ⟨k, hk⟩ := zh_get (g := g) X ha
  refine va_aldq C.1 C.2.1 I.K I.P k 2 hk rfl hin hdg ?_
  rw [hv]
  exact kk
theorem zr_len {kd t a N : Nat} {ty : FieldType} {cA : ClassId} {x : (Nat → Int32) ⊕ (Nat → Int64) ⊕ (Nat → UInt32) ⊕ (Nat → UInt64) ⊕ (Nat → Option Nat)} (C : CallFix p m c cc nL s args zc_W own) (I : zh_V g A s X S H locs) (ha : zh_at S kd a) (he : zh_e g S a kd = .inl (cA, zh_N S a, x)) (ht : (zh_T g)[t]? = some (cA, ty)) (hN : zh_N S a = N) (hdg : decode cc pc = .ok (.arraylength, 1)) (kk : W p l e R s m args below meth c H locs cells slots Q (F0 m (pc + 1) ls (.int (nI N) :: rest))) : W p l e R s m args below meth c H locs cells slots Q (F0 m pc ls (.ref a :: rest)) := by
  obtain ⟨k, hk⟩ := zh_get (g := g) X ha
  rw [he] at hk
  subst hN
  exact va_alen C.1 C.2.1 I.K I.P k t hk ht rfl hdg kk
end ZN
end
section
/-! MY OWN LAYER, 3: rows of the fields, written by wip/p23/gen_fields.py -/
theorem zin_Draws : ∀ w ∈ wsX00, w ∈ zc_W := by decide +kernel
theorem zin_Entry : ∀ w ∈ wsX10, w ∈ zc_W := by decide +kernel
theorem zin_Promise : ∀ w ∈ wsX20, w ∈ zc_W := by decide +kernel
theorem zin_Forge : ∀ w ∈ wsX30, w ∈ zc_W := by decide +kernel
theorem zin_List : ∀ w ∈ wsJx4a65c0, w ∈ zc_W := by decide +kernel
section ZF
variable {p : Program} {l : Launch} {e : Env} {R : Room} {s : State} {m : MethodId} {args : Array Value} {below : List Frame} {meth : Method} {c : Code} {H : Heap} {locs : List Loc} {cells slots : Nat} {Q : State → Prop}
variable {g : zG} {A : Nat → Prop} {X : va_W} {S : zS} {cc : ByteArray} {nL : Nat} {own host : String} {pc idx a : Nat} {ls : Array Slot} {rest : List Value}
theorem zf_fresh {q : Nat} {e0 : va_E} (hD : va_D A ((X ++ zh_w g S) ++ [(q, e0)])) : q ∉ zh_L S := fun h => by
  obtain ⟨k, hk⟩ := va_pl_get (X := X) (f := fun a => zh_e g S a (zh_K S a)) h
  have hk : (X ++ zh_w g S)[k]? = some (q, zh_e g S q (zh_K S q)) := hk
  have hl := (List.getElem?_eq_some_iff.mp hk).1
  have := hD.1 k (X ++ zh_w g S).length _ (q, e0) ((List.getElem?_append_left hl).trans hk) (by rw [List.getElem?_append_right (Nat.le_refl _), Nat.sub_self]; rfl) rfl
  omega
theorem zf_b {v : Int32} (h : v = 0 ∨ v = 1) : narrow .boolean (.int v) = .int v ∧ fits .boolean (.int v) = true := by rcases h with rfl | rfl <;> exact ⟨rfl, rfl⟩

theorem zg_Draws_state {v : Int32} (C : CallFix p m c cc nL s args zc_W own) (I : zh_V g A s X S H locs) (ha : zh_at S 0 a) (hl : Cond.fieldLink own idx "DiceForge$Draws" "state" "I" ∈ zc_W) (hv : zh_I S 0 a = v) (hdg : decode cc pc = .ok (.getfield idx, 3)) (kk : W p l e R s m args below meth c H locs cells slots Q (F0 m (pc + 3) ls (.int v :: rest))) : W p l e R s m args below meth c H locs cells slots Q (F0 m pc ls (.ref a :: rest)) := by
  obtain ⟨k, hk⟩ := zh_get (g := g) X ha
  have hk : (X ++ zh_w g S)[k]? = some (a, .inr (1, [.int (zh_I S 0 a), .int (zh_I S 1 a)])) := hk
  refine va_get (D := g.2.2.1) (ci := 1) (v := .int (zh_I S 0 a)) (C := RX0) (T := TX0) (N := 2) C.1 C.2.1 C.2.2.2.2 zin_Draws C.2.2.2.1 I.K I.P k hk rfl 0 (by decide) (C.2.2.2.2 _ hl) (fun _ h => h) rfl hdg ?_
  rw [hv]
  exact kk

theorem zp_Draws_state {v : Int32} (C : CallFix p m c cc nL s args zc_W own) (I : zh_V g A s X S H locs) (ha : zh_at S 0 a) (hl : Cond.fieldLink own idx "DiceForge$Draws" "state" "I" ∈ zc_W) (hdg : decode cc pc = .ok (.putfield idx, 3)) (kk : ∀ (H : Heap) (locs : List Loc), zh_V g A s X (zh_sI S 0 a v) H locs → W p l e R s m args below meth c H locs cells slots Q (F0 m (pc + 3) ls rest)) : W p l e R s m args below meth c H locs cells slots Q (F0 m pc ls (.int v :: .ref a :: rest)) := by
  obtain ⟨k, hk⟩ := zh_get (g := g) X ha
  have hk : (X ++ zh_w g S)[k]? = some (a, .inr (1, [.int (zh_I S 0 a), .int (zh_I S 1 a)])) := hk
  refine va_put (D := g.2.2.1) (ci := 1) (ty := .int) (v := .int v) (C := RX0) (T := TX0) (N := 2) C.1 C.2.1 C.2.2.2.2 zin_Draws tyX0 tyX0_ok nmX0 C.2.2.2.1 I.K I.P I.D I.S k hk rfl 0 (by decide) (C.2.2.2.2 _ hl) (fun _ h => h) rfl (by decide +kernel) rfl rfl (Nat.le_of_ble_eq_true rfl) hdg (fun H1 locs1 hP hD hS => kk H1 locs1 (I.to (zh_set I.D ha hk rfl rfl ?_ (fun b hb k => zh_e_sI g S _ hb k)) hP hD hS))
  simp [zh_e, zh_I_sI, zh_R_sI, zh_u]

theorem zg_Draws_rejected {v : Int32} (C : CallFix p m c cc nL s args zc_W own) (I : zh_V g A s X S H locs) (ha : zh_at S 0 a) (hl : Cond.fieldLink own idx "DiceForge$Draws" "rejected" "I" ∈ zc_W) (hv : zh_I S 1 a = v) (hdg : decode cc pc = .ok (.getfield idx, 3)) (kk : W p l e R s m args below meth c H locs cells slots Q (F0 m (pc + 3) ls (.int v :: rest))) : W p l e R s m args below meth c H locs cells slots Q (F0 m pc ls (.ref a :: rest)) := by
  obtain ⟨k, hk⟩ := zh_get (g := g) X ha
  have hk : (X ++ zh_w g S)[k]? = some (a, .inr (1, [.int (zh_I S 0 a), .int (zh_I S 1 a)])) := hk
  refine va_get (D := g.2.2.1) (ci := 1) (v := .int (zh_I S 1 a)) (C := RX0) (T := TX0) (N := 2) C.1 C.2.1 C.2.2.2.2 zin_Draws C.2.2.2.1 I.K I.P k hk rfl 1 (by decide) (C.2.2.2.2 _ hl) (fun _ h => h) rfl hdg ?_
  rw [hv]
  exact kk

theorem zn_Draws_rejected {v : Int32} (C : CallFix p m c cc nL s args zc_W own) (I : zh_V g A s X S H locs) (ha : zh_at S 0 a) (hl : Cond.fieldLinkNest own idx "DiceForge$Draws" "rejected" "I" host ∈ zn_ws) (hv : zh_I S 1 a = v) (hdg : decode cc pc = .ok (.getfield idx, 3)) (kk : W p l e R s m args below meth c H locs cells slots Q (F0 m (pc + 3) ls (.int v :: rest))) : W p l e R s m args below meth c H locs cells slots Q (F0 m pc ls (.ref a :: rest)) := by
  obtain ⟨k, hk⟩ := zh_get (g := g) X ha
  have hk : (X ++ zh_w g S)[k]? = some (a, .inr (1, [.int (zh_I S 0 a), .int (zh_I S 1 a)])) := hk
  refine va_getN (host := host) (D := g.2.2.1) (ci := 1) (v := .int (zh_I S 1 a)) (C := RX0) (T := TX0) (N := 2) C.1 C.2.1 C.2.2.2.2 zin_Draws C.2.2.2.1 I.K I.P k hk rfl 1 (by decide) (va_Nw.use rfl (I.O.1 _ hl)) (fun _ h => h) rfl hdg ?_
  rw [hv]
  exact kk

theorem zp_Draws_rejected {v : Int32} (C : CallFix p m c cc nL s args zc_W own) (I : zh_V g A s X S H locs) (ha : zh_at S 0 a) (hl : Cond.fieldLink own idx "DiceForge$Draws" "rejected" "I" ∈ zc_W) (hdg : decode cc pc = .ok (.putfield idx, 3)) (kk : ∀ (H : Heap) (locs : List Loc), zh_V g A s X (zh_sI S 1 a v) H locs → W p l e R s m args below meth c H locs cells slots Q (F0 m (pc + 3) ls rest)) : W p l e R s m args below meth c H locs cells slots Q (F0 m pc ls (.int v :: .ref a :: rest)) := by
  obtain ⟨k, hk⟩ := zh_get (g := g) X ha
  have hk : (X ++ zh_w g S)[k]? = some (a, .inr (1, [.int (zh_I S 0 a), .int (zh_I S 1 a)])) := hk
  refine va_put (D := g.2.2.1) (ci := 1) (ty := .int) (v := .int v) (C := RX0) (T := TX0) (N := 2) C.1 C.2.1 C.2.2.2.2 zin_Draws tyX0 tyX0_ok nmX0 C.2.2.2.1 I.K I.P I.D I.S k hk rfl 1 (by decide) (C.2.2.2.2 _ hl) (fun _ h => h) rfl (by decide +kernel) rfl rfl (Nat.le_of_ble_eq_true rfl) hdg (fun H1 locs1 hP hD hS => kk H1 locs1 (I.to (zh_set I.D ha hk rfl rfl ?_ (fun b hb k => zh_e_sI g S _ hb k)) hP hD hS))
  simp [zh_e, zh_I_sI, zh_R_sI, zh_u]

theorem zq_Draws_rejected {v : Int32} (C : CallFix p m c cc nL s args zc_W own) (I : zh_V g A s X S H locs) (ha : zh_at S 0 a) (hl : Cond.fieldLinkNest own idx "DiceForge$Draws" "rejected" "I" host ∈ zn_ws) (hdg : decode cc pc = .ok (.putfield idx, 3)) (kk : ∀ (H : Heap) (locs : List Loc), zh_V g A s X (zh_sI S 1 a v) H locs → W p l e R s m args below meth c H locs cells slots Q (F0 m (pc + 3) ls rest)) : W p l e R s m args below meth c H locs cells slots Q (F0 m pc ls (.int v :: .ref a :: rest)) := by
  obtain ⟨k, hk⟩ := zh_get (g := g) X ha
  have hk : (X ++ zh_w g S)[k]? = some (a, .inr (1, [.int (zh_I S 0 a), .int (zh_I S 1 a)])) := hk
  refine va_putN (host := host) (D := g.2.2.1) (ci := 1) (ty := .int) (v := .int v) (C := RX0) (T := TX0) (N := 2) C.1 C.2.1 C.2.2.2.2 zin_Draws tyX0 tyX0_ok nmX0 C.2.2.2.1 I.K I.P I.D I.S k hk rfl 1 (by decide) (va_Nw.use rfl (I.O.1 _ hl)) (fun _ h => h) rfl (by decide +kernel) rfl rfl (Nat.le_of_ble_eq_true rfl) hdg (fun H1 locs1 hP hD hS => kk H1 locs1 (I.to (zh_set I.D ha hk rfl rfl ?_ (fun b hb k => zh_e_sI g S _ hb k)) hP hD hS))
  simp [zh_e, zh_I_sI, zh_R_sI, zh_u]

theorem zw_Draws (C : CallFix p m c cc nL s args zc_W own) (I : zh_V g A s X S H locs) (hcl : Cond.classLink own idx RX0 ∈ zc_W) (hinst : Cond.instantiable RX0 2 ∈ zc_W) (hini : Cond.initialized RX0 ∈ zc_W) (hc1 : cells + 1 ≤ R.cells) (hs1 : slots + 2 ≤ R.slots) (hdg : decode cc pc = .ok (.new idx, 3)) (kk : ∀ (q : Nat) (H : Heap), q ∉ zh_L S → zh_V g A s X (zh_nO S q 0) H locs → W p l e R s m args below meth c H locs (cells + 1) (slots + 2) Q (F0 m (pc + 3) ls (.ref q :: rest))) : W p l e R s m args below meth c H locs cells slots Q (F0 m pc ls rest) := by
  refine va_new (ci := 1) (fs := [.int 0, .int 0]) (C := RX0) (T := TX0) (N := 2) C.1 C.2.1 C.2.2.2.2 zin_Draws tyX0 tyX0_ok C.2.2.2.1 (C.2.2.2.2 _ hcl) (C.2.2.2.2 _ hinst) (C.2.2.2.2 _ hini) I.K I.P I.D I.S I.A rfl (fun j hj => by rcases (show j = 0 ∨ j = 1 by omega) with rfl | rfl <;> rfl) hc1 hs1 hdg (fun q H1 hP hD hS => ?_)
  have hq : q ∉ zh_L S := zf_fresh hD
  exact kk q H1 hq (I.to (zh_push hq rfl rfl (by simp [zh_e, zh_nO, zh_I, zh_R, va_rf]) (fun b hb k => zh_e_nO g S _ hb k)) hP hD hS)

theorem zg_Entry_promise {v : Int32} (C : CallFix p m c cc nL s args zc_W own) (I : zh_V g A s X S H locs) (ha : zh_at S 1 a) (hl : Cond.fieldLink own idx "DiceForge$Entry" "promise" "I" ∈ zc_W) (hv : zh_I S 2 a = v) (hdg : decode cc pc = .ok (.getfield idx, 3)) (kk : W p l e R s m args below meth c H locs cells slots Q (F0 m (pc + 3) ls (.int v :: rest))) : W p l e R s m args below meth c H locs cells slots Q (F0 m pc ls (.ref a :: rest)) := by
  obtain ⟨k, hk⟩ := zh_get (g := g) X ha
  have hk : (X ++ zh_w g S)[k]? = some (a, .inr (2, [.int (zh_I S 2 a), .int (zh_I S 3 a), .int (zh_I S 4 a), .int (zh_I S 5 a), .int (zh_I S 6 a), .int (zh_I S 7 a), .int (zh_I S 8 a), .int (zh_I S 9 a)])) := hk
  refine va_get (D := g.2.2.1) (ci := 2) (v := .int (zh_I S 2 a)) (C := RX1) (T := TX1) (N := 8) C.1 C.2.1 C.2.2.2.2 zin_Entry C.2.2.2.1 I.K I.P k hk rfl 0 (by decide) (C.2.2.2.2 _ hl) (fun _ h => h) rfl hdg ?_
  rw [hv]
  exact kk

theorem zn_Entry_promise {v : Int32} (C : CallFix p m c cc nL s args zc_W own) (I : zh_V g A s X S H locs) (ha : zh_at S 1 a) (hl : Cond.fieldLinkNest own idx "DiceForge$Entry" "promise" "I" host ∈ zn_ws) (hv : zh_I S 2 a = v) (hdg : decode cc pc = .ok (.getfield idx, 3)) (kk : W p l e R s m args below meth c H locs cells slots Q (F0 m (pc + 3) ls (.int v :: rest))) : W p l e R s m args below meth c H locs cells slots Q (F0 m pc ls (.ref a :: rest)) := by
  obtain ⟨k, hk⟩ := zh_get (g := g) X ha
  have hk : (X ++ zh_w g S)[k]? = some (a, .inr (2, [.int (zh_I S 2 a), .int (zh_I S 3 a), .int (zh_I S 4 a), .int (zh_I S 5 a), .int (zh_I S 6 a), .int (zh_I S 7 a), .int (zh_I S 8 a), .int (zh_I S 9 a)])) := hk
  refine va_getN (host := host) (D := g.2.2.1) (ci := 2) (v := .int (zh_I S 2 a)) (C := RX1) (T := TX1) (N := 8) C.1 C.2.1 C.2.2.2.2 zin_Entry C.2.2.2.1 I.K I.P k hk rfl 0 (by decide) (va_Nw.use rfl (I.O.1 _ hl)) (fun _ h => h) rfl hdg ?_
  rw [hv]
  exact kk

theorem zf_Entry_promise {v : Int32} (C : CallFix p m c cc nL s args zc_W own) (I : zh_V g A s X S H locs) (ha : zh_at S 1 a) (hl : Cond.fieldLink own idx "DiceForge$Entry" "promise" "I" ∈ zc_W) (hin2 : meth.name = "<init>") (hdecl : "DiceForge$Entry" = own) (hdg : decode cc pc = .ok (.putfield idx, 3)) (kk : ∀ (H : Heap) (locs : List Loc), zh_V g A s X (zh_sI S 2 a v) H locs → W p l e R s m args below meth c H locs cells slots Q (F0 m (pc + 3) ls rest)) : W p l e R s m args below meth c H locs cells slots Q (F0 m pc ls (.int v :: .ref a :: rest)) := by
  obtain ⟨k, hk⟩ := zh_get (g := g) X ha
  have hk : (X ++ zh_w g S)[k]? = some (a, .inr (2, [.int (zh_I S 2 a), .int (zh_I S 3 a), .int (zh_I S 4 a), .int (zh_I S 5 a), .int (zh_I S 6 a), .int (zh_I S 7 a), .int (zh_I S 8 a), .int (zh_I S 9 a)])) := hk
  refine va_putF (D := g.2.2.1) (ci := 2) (ty := .int) (v := .int v) (C := RX1) (T := TX1) (N := 8) C.1 C.2.1 C.2.2.2.2 zin_Entry tyX1 tyX1_ok nmX1 C.2.2.2.1 I.K I.P I.D I.S k hk rfl 0 (by decide) (C.2.2.2.2 _ hl) (fun _ h => h) rfl hin2 hdecl (by decide +kernel) rfl rfl (Nat.le_of_ble_eq_true rfl) hdg (fun H1 locs1 hP hD hS => kk H1 locs1 (I.to (zh_set I.D ha hk rfl rfl ?_ (fun b hb k => zh_e_sI g S _ hb k)) hP hD hS))
  simp [zh_e, zh_I_sI, zh_R_sI, zh_u]

theorem zg_Entry_table {v : Int32} (C : CallFix p m c cc nL s args zc_W own) (I : zh_V g A s X S H locs) (ha : zh_at S 1 a) (hl : Cond.fieldLink own idx "DiceForge$Entry" "table" "I" ∈ zc_W) (hv : zh_I S 3 a = v) (hdg : decode cc pc = .ok (.getfield idx, 3)) (kk : W p l e R s m args below meth c H locs cells slots Q (F0 m (pc + 3) ls (.int v :: rest))) : W p l e R s m args below meth c H locs cells slots Q (F0 m pc ls (.ref a :: rest)) := by
  obtain ⟨k, hk⟩ := zh_get (g := g) X ha
  have hk : (X ++ zh_w g S)[k]? = some (a, .inr (2, [.int (zh_I S 2 a), .int (zh_I S 3 a), .int (zh_I S 4 a), .int (zh_I S 5 a), .int (zh_I S 6 a), .int (zh_I S 7 a), .int (zh_I S 8 a), .int (zh_I S 9 a)])) := hk
  refine va_get (D := g.2.2.1) (ci := 2) (v := .int (zh_I S 3 a)) (C := RX1) (T := TX1) (N := 8) C.1 C.2.1 C.2.2.2.2 zin_Entry C.2.2.2.1 I.K I.P k hk rfl 1 (by decide) (C.2.2.2.2 _ hl) (fun _ h => h) rfl hdg ?_
  rw [hv]
  exact kk

theorem zn_Entry_table {v : Int32} (C : CallFix p m c cc nL s args zc_W own) (I : zh_V g A s X S H locs) (ha : zh_at S 1 a) (hl : Cond.fieldLinkNest own idx "DiceForge$Entry" "table" "I" host ∈ zn_ws) (hv : zh_I S 3 a = v) (hdg : decode cc pc = .ok (.getfield idx, 3)) (kk : W p l e R s m args below meth c H locs cells slots Q (F0 m (pc + 3) ls (.int v :: rest))) : W p l e R s m args below meth c H locs cells slots Q (F0 m pc ls (.ref a :: rest)) := by
  obtain ⟨k, hk⟩ := zh_get (g := g) X ha
  have hk : (X ++ zh_w g S)[k]? = some (a, .inr (2, [.int (zh_I S 2 a), .int (zh_I S 3 a), .int (zh_I S 4 a), .int (zh_I S 5 a), .int (zh_I S 6 a), .int (zh_I S 7 a), .int (zh_I S 8 a), .int (zh_I S 9 a)])) := hk
  refine va_getN (host := host) (D := g.2.2.1) (ci := 2) (v := .int (zh_I S 3 a)) (C := RX1) (T := TX1) (N := 8) C.1 C.2.1 C.2.2.2.2 zin_Entry C.2.2.2.1 I.K I.P k hk rfl 1 (by decide) (va_Nw.use rfl (I.O.1 _ hl)) (fun _ h => h) rfl hdg ?_
  rw [hv]
  exact kk

theorem zf_Entry_table {v : Int32} (C : CallFix p m c cc nL s args zc_W own) (I : zh_V g A s X S H locs) (ha : zh_at S 1 a) (hl : Cond.fieldLink own idx "DiceForge$Entry" "table" "I" ∈ zc_W) (hin2 : meth.name = "<init>") (hdecl : "DiceForge$Entry" = own) (hdg : decode cc pc = .ok (.putfield idx, 3)) (kk : ∀ (H : Heap) (locs : List Loc), zh_V g A s X (zh_sI S 3 a v) H locs → W p l e R s m args below meth c H locs cells slots Q (F0 m (pc + 3) ls rest)) : W p l e R s m args below meth c H locs cells slots Q (F0 m pc ls (.int v :: .ref a :: rest)) := by
  obtain ⟨k, hk⟩ := zh_get (g := g) X ha
  have hk : (X ++ zh_w g S)[k]? = some (a, .inr (2, [.int (zh_I S 2 a), .int (zh_I S 3 a), .int (zh_I S 4 a), .int (zh_I S 5 a), .int (zh_I S 6 a), .int (zh_I S 7 a), .int (zh_I S 8 a), .int (zh_I S 9 a)])) := hk
  refine va_putF (D := g.2.2.1) (ci := 2) (ty := .int) (v := .int v) (C := RX1) (T := TX1) (N := 8) C.1 C.2.1 C.2.2.2.2 zin_Entry tyX1 tyX1_ok nmX1 C.2.2.2.1 I.K I.P I.D I.S k hk rfl 1 (by decide) (C.2.2.2.2 _ hl) (fun _ h => h) rfl hin2 hdecl (by decide +kernel) rfl rfl (Nat.le_of_ble_eq_true rfl) hdg (fun H1 locs1 hP hD hS => kk H1 locs1 (I.to (zh_set I.D ha hk rfl rfl ?_ (fun b hb k => zh_e_sI g S _ hb k)) hP hD hS))
  simp [zh_e, zh_I_sI, zh_R_sI, zh_u]

theorem zg_Entry_part {v : Int32} (C : CallFix p m c cc nL s args zc_W own) (I : zh_V g A s X S H locs) (ha : zh_at S 1 a) (hl : Cond.fieldLink own idx "DiceForge$Entry" "part" "I" ∈ zc_W) (hv : zh_I S 4 a = v) (hdg : decode cc pc = .ok (.getfield idx, 3)) (kk : W p l e R s m args below meth c H locs cells slots Q (F0 m (pc + 3) ls (.int v :: rest))) : W p l e R s m args below meth c H locs cells slots Q (F0 m pc ls (.ref a :: rest)) := by
  obtain ⟨k, hk⟩ := zh_get (g := g) X ha
  have hk : (X ++ zh_w g S)[k]? = some (a, .inr (2, [.int (zh_I S 2 a), .int (zh_I S 3 a), .int (zh_I S 4 a), .int (zh_I S 5 a), .int (zh_I S 6 a), .int (zh_I S 7 a), .int (zh_I S 8 a), .int (zh_I S 9 a)])) := hk
  refine va_get (D := g.2.2.1) (ci := 2) (v := .int (zh_I S 4 a)) (C := RX1) (T := TX1) (N := 8) C.1 C.2.1 C.2.2.2.2 zin_Entry C.2.2.2.1 I.K I.P k hk rfl 2 (by decide) (C.2.2.2.2 _ hl) (fun _ h => h) rfl hdg ?_
  rw [hv]
  exact kk

theorem zn_Entry_part {v : Int32} (C : CallFix p m c cc nL s args zc_W own) (I : zh_V g A s X S H locs) (ha : zh_at S 1 a) (hl : Cond.fieldLinkNest own idx "DiceForge$Entry" "part" "I" host ∈ zn_ws) (hv : zh_I S 4 a = v) (hdg : decode cc pc = .ok (.getfield idx, 3)) (kk : W p l e R s m args below meth c H locs cells slots Q (F0 m (pc + 3) ls (.int v :: rest))) : W p l e R s m args below meth c H locs cells slots Q (F0 m pc ls (.ref a :: rest)) := by
  obtain ⟨k, hk⟩ := zh_get (g := g) X ha
  have hk : (X ++ zh_w g S)[k]? = some (a, .inr (2, [.int (zh_I S 2 a), .int (zh_I S 3 a), .int (zh_I S 4 a), .int (zh_I S 5 a), .int (zh_I S 6 a), .int (zh_I S 7 a), .int (zh_I S 8 a), .int (zh_I S 9 a)])) := hk
  refine va_getN (host := host) (D := g.2.2.1) (ci := 2) (v := .int (zh_I S 4 a)) (C := RX1) (T := TX1) (N := 8) C.1 C.2.1 C.2.2.2.2 zin_Entry C.2.2.2.1 I.K I.P k hk rfl 2 (by decide) (va_Nw.use rfl (I.O.1 _ hl)) (fun _ h => h) rfl hdg ?_
  rw [hv]
  exact kk

theorem zf_Entry_part {v : Int32} (C : CallFix p m c cc nL s args zc_W own) (I : zh_V g A s X S H locs) (ha : zh_at S 1 a) (hl : Cond.fieldLink own idx "DiceForge$Entry" "part" "I" ∈ zc_W) (hin2 : meth.name = "<init>") (hdecl : "DiceForge$Entry" = own) (hdg : decode cc pc = .ok (.putfield idx, 3)) (kk : ∀ (H : Heap) (locs : List Loc), zh_V g A s X (zh_sI S 4 a v) H locs → W p l e R s m args below meth c H locs cells slots Q (F0 m (pc + 3) ls rest)) : W p l e R s m args below meth c H locs cells slots Q (F0 m pc ls (.int v :: .ref a :: rest)) := by
  obtain ⟨k, hk⟩ := zh_get (g := g) X ha
  have hk : (X ++ zh_w g S)[k]? = some (a, .inr (2, [.int (zh_I S 2 a), .int (zh_I S 3 a), .int (zh_I S 4 a), .int (zh_I S 5 a), .int (zh_I S 6 a), .int (zh_I S 7 a), .int (zh_I S 8 a), .int (zh_I S 9 a)])) := hk
  refine va_putF (D := g.2.2.1) (ci := 2) (ty := .int) (v := .int v) (C := RX1) (T := TX1) (N := 8) C.1 C.2.1 C.2.2.2.2 zin_Entry tyX1 tyX1_ok nmX1 C.2.2.2.1 I.K I.P I.D I.S k hk rfl 2 (by decide) (C.2.2.2.2 _ hl) (fun _ h => h) rfl hin2 hdecl (by decide +kernel) rfl rfl (Nat.le_of_ble_eq_true rfl) hdg (fun H1 locs1 hP hD hS => kk H1 locs1 (I.to (zh_set I.D ha hk rfl rfl ?_ (fun b hb k => zh_e_sI g S _ hb k)) hP hD hS))
  simp [zh_e, zh_I_sI, zh_R_sI, zh_u]

theorem zg_Entry_faces {v : Int32} (C : CallFix p m c cc nL s args zc_W own) (I : zh_V g A s X S H locs) (ha : zh_at S 1 a) (hl : Cond.fieldLink own idx "DiceForge$Entry" "faces" "I" ∈ zc_W) (hv : zh_I S 5 a = v) (hdg : decode cc pc = .ok (.getfield idx, 3)) (kk : W p l e R s m args below meth c H locs cells slots Q (F0 m (pc + 3) ls (.int v :: rest))) : W p l e R s m args below meth c H locs cells slots Q (F0 m pc ls (.ref a :: rest)) := by
  obtain ⟨k, hk⟩ := zh_get (g := g) X ha
  have hk : (X ++ zh_w g S)[k]? = some (a, .inr (2, [.int (zh_I S 2 a), .int (zh_I S 3 a), .int (zh_I S 4 a), .int (zh_I S 5 a), .int (zh_I S 6 a), .int (zh_I S 7 a), .int (zh_I S 8 a), .int (zh_I S 9 a)])) := hk
  refine va_get (D := g.2.2.1) (ci := 2) (v := .int (zh_I S 5 a)) (C := RX1) (T := TX1) (N := 8) C.1 C.2.1 C.2.2.2.2 zin_Entry C.2.2.2.1 I.K I.P k hk rfl 3 (by decide) (C.2.2.2.2 _ hl) (fun _ h => h) rfl hdg ?_
  rw [hv]
  exact kk

theorem zn_Entry_faces {v : Int32} (C : CallFix p m c cc nL s args zc_W own) (I : zh_V g A s X S H locs) (ha : zh_at S 1 a) (hl : Cond.fieldLinkNest own idx "DiceForge$Entry" "faces" "I" host ∈ zn_ws) (hv : zh_I S 5 a = v) (hdg : decode cc pc = .ok (.getfield idx, 3)) (kk : W p l e R s m args below meth c H locs cells slots Q (F0 m (pc + 3) ls (.int v :: rest))) : W p l e R s m args below meth c H locs cells slots Q (F0 m pc ls (.ref a :: rest)) := by
  obtain ⟨k, hk⟩ := zh_get (g := g) X ha
  have hk : (X ++ zh_w g S)[k]? = some (a, .inr (2, [.int (zh_I S 2 a), .int (zh_I S 3 a), .int (zh_I S 4 a), .int (zh_I S 5 a), .int (zh_I S 6 a), .int (zh_I S 7 a), .int (zh_I S 8 a), .int (zh_I S 9 a)])) := hk
  refine va_getN (host := host) (D := g.2.2.1) (ci := 2) (v := .int (zh_I S 5 a)) (C := RX1) (T := TX1) (N := 8) C.1 C.2.1 C.2.2.2.2 zin_Entry C.2.2.2.1 I.K I.P k hk rfl 3 (by decide) (va_Nw.use rfl (I.O.1 _ hl)) (fun _ h => h) rfl hdg ?_
  rw [hv]
  exact kk

theorem zf_Entry_faces {v : Int32} (C : CallFix p m c cc nL s args zc_W own) (I : zh_V g A s X S H locs) (ha : zh_at S 1 a) (hl : Cond.fieldLink own idx "DiceForge$Entry" "faces" "I" ∈ zc_W) (hin2 : meth.name = "<init>") (hdecl : "DiceForge$Entry" = own) (hdg : decode cc pc = .ok (.putfield idx, 3)) (kk : ∀ (H : Heap) (locs : List Loc), zh_V g A s X (zh_sI S 5 a v) H locs → W p l e R s m args below meth c H locs cells slots Q (F0 m (pc + 3) ls rest)) : W p l e R s m args below meth c H locs cells slots Q (F0 m pc ls (.int v :: .ref a :: rest)) := by
  obtain ⟨k, hk⟩ := zh_get (g := g) X ha
  have hk : (X ++ zh_w g S)[k]? = some (a, .inr (2, [.int (zh_I S 2 a), .int (zh_I S 3 a), .int (zh_I S 4 a), .int (zh_I S 5 a), .int (zh_I S 6 a), .int (zh_I S 7 a), .int (zh_I S 8 a), .int (zh_I S 9 a)])) := hk
  refine va_putF (D := g.2.2.1) (ci := 2) (ty := .int) (v := .int v) (C := RX1) (T := TX1) (N := 8) C.1 C.2.1 C.2.2.2.2 zin_Entry tyX1 tyX1_ok nmX1 C.2.2.2.1 I.K I.P I.D I.S k hk rfl 3 (by decide) (C.2.2.2.2 _ hl) (fun _ h => h) rfl hin2 hdecl (by decide +kernel) rfl rfl (Nat.le_of_ble_eq_true rfl) hdg (fun H1 locs1 hP hD hS => kk H1 locs1 (I.to (zh_set I.D ha hk rfl rfl ?_ (fun b hb k => zh_e_sI g S _ hb k)) hP hD hS))
  simp [zh_e, zh_I_sI, zh_R_sI, zh_u]

theorem zg_Entry_value {v : Int32} (C : CallFix p m c cc nL s args zc_W own) (I : zh_V g A s X S H locs) (ha : zh_at S 1 a) (hl : Cond.fieldLink own idx "DiceForge$Entry" "value" "I" ∈ zc_W) (hv : zh_I S 6 a = v) (hdg : decode cc pc = .ok (.getfield idx, 3)) (kk : W p l e R s m args below meth c H locs cells slots Q (F0 m (pc + 3) ls (.int v :: rest))) : W p l e R s m args below meth c H locs cells slots Q (F0 m pc ls (.ref a :: rest)) := by
  obtain ⟨k, hk⟩ := zh_get (g := g) X ha
  have hk : (X ++ zh_w g S)[k]? = some (a, .inr (2, [.int (zh_I S 2 a), .int (zh_I S 3 a), .int (zh_I S 4 a), .int (zh_I S 5 a), .int (zh_I S 6 a), .int (zh_I S 7 a), .int (zh_I S 8 a), .int (zh_I S 9 a)])) := hk
  refine va_get (D := g.2.2.1) (ci := 2) (v := .int (zh_I S 6 a)) (C := RX1) (T := TX1) (N := 8) C.1 C.2.1 C.2.2.2.2 zin_Entry C.2.2.2.1 I.K I.P k hk rfl 4 (by decide) (C.2.2.2.2 _ hl) (fun _ h => h) rfl hdg ?_
  rw [hv]
  exact kk

theorem zn_Entry_value {v : Int32} (C : CallFix p m c cc nL s args zc_W own) (I : zh_V g A s X S H locs) (ha : zh_at S 1 a) (hl : Cond.fieldLinkNest own idx "DiceForge$Entry" "value" "I" host ∈ zn_ws) (hv : zh_I S 6 a = v) (hdg : decode cc pc = .ok (.getfield idx, 3)) (kk : W p l e R s m args below meth c H locs cells slots Q (F0 m (pc + 3) ls (.int v :: rest))) : W p l e R s m args below meth c H locs cells slots Q (F0 m pc ls (.ref a :: rest)) := by
  obtain ⟨k, hk⟩ := zh_get (g := g) X ha
  have hk : (X ++ zh_w g S)[k]? = some (a, .inr (2, [.int (zh_I S 2 a), .int (zh_I S 3 a), .int (zh_I S 4 a), .int (zh_I S 5 a), .int (zh_I S 6 a), .int (zh_I S 7 a), .int (zh_I S 8 a), .int (zh_I S 9 a)])) := hk
  refine va_getN (host := host) (D := g.2.2.1) (ci := 2) (v := .int (zh_I S 6 a)) (C := RX1) (T := TX1) (N := 8) C.1 C.2.1 C.2.2.2.2 zin_Entry C.2.2.2.1 I.K I.P k hk rfl 4 (by decide) (va_Nw.use rfl (I.O.1 _ hl)) (fun _ h => h) rfl hdg ?_
  rw [hv]
  exact kk

theorem zp_Entry_value {v : Int32} (C : CallFix p m c cc nL s args zc_W own) (I : zh_V g A s X S H locs) (ha : zh_at S 1 a) (hl : Cond.fieldLink own idx "DiceForge$Entry" "value" "I" ∈ zc_W) (hdg : decode cc pc = .ok (.putfield idx, 3)) (kk : ∀ (H : Heap) (locs : List Loc), zh_V g A s X (zh_sI S 6 a v) H locs → W p l e R s m args below meth c H locs cells slots Q (F0 m (pc + 3) ls rest)) : W p l e R s m args below meth c H locs cells slots Q (F0 m pc ls (.int v :: .ref a :: rest)) := by
  obtain ⟨k, hk⟩ := zh_get (g := g) X ha
  have hk : (X ++ zh_w g S)[k]? = some (a, .inr (2, [.int (zh_I S 2 a), .int (zh_I S 3 a), .int (zh_I S 4 a), .int (zh_I S 5 a), .int (zh_I S 6 a), .int (zh_I S 7 a), .int (zh_I S 8 a), .int (zh_I S 9 a)])) := hk
  refine va_put (D := g.2.2.1) (ci := 2) (ty := .int) (v := .int v) (C := RX1) (T := TX1) (N := 8) C.1 C.2.1 C.2.2.2.2 zin_Entry tyX1 tyX1_ok nmX1 C.2.2.2.1 I.K I.P I.D I.S k hk rfl 4 (by decide) (C.2.2.2.2 _ hl) (fun _ h => h) rfl (by decide +kernel) rfl rfl (Nat.le_of_ble_eq_true rfl) hdg (fun H1 locs1 hP hD hS => kk H1 locs1 (I.to (zh_set I.D ha hk rfl rfl ?_ (fun b hb k => zh_e_sI g S _ hb k)) hP hD hS))
  simp [zh_e, zh_I_sI, zh_R_sI, zh_u]

theorem zq_Entry_value {v : Int32} (C : CallFix p m c cc nL s args zc_W own) (I : zh_V g A s X S H locs) (ha : zh_at S 1 a) (hl : Cond.fieldLinkNest own idx "DiceForge$Entry" "value" "I" host ∈ zn_ws) (hdg : decode cc pc = .ok (.putfield idx, 3)) (kk : ∀ (H : Heap) (locs : List Loc), zh_V g A s X (zh_sI S 6 a v) H locs → W p l e R s m args below meth c H locs cells slots Q (F0 m (pc + 3) ls rest)) : W p l e R s m args below meth c H locs cells slots Q (F0 m pc ls (.int v :: .ref a :: rest)) := by
  obtain ⟨k, hk⟩ := zh_get (g := g) X ha
  have hk : (X ++ zh_w g S)[k]? = some (a, .inr (2, [.int (zh_I S 2 a), .int (zh_I S 3 a), .int (zh_I S 4 a), .int (zh_I S 5 a), .int (zh_I S 6 a), .int (zh_I S 7 a), .int (zh_I S 8 a), .int (zh_I S 9 a)])) := hk
  refine va_putN (host := host) (D := g.2.2.1) (ci := 2) (ty := .int) (v := .int v) (C := RX1) (T := TX1) (N := 8) C.1 C.2.1 C.2.2.2.2 zin_Entry tyX1 tyX1_ok nmX1 C.2.2.2.1 I.K I.P I.D I.S k hk rfl 4 (by decide) (va_Nw.use rfl (I.O.1 _ hl)) (fun _ h => h) rfl (by decide +kernel) rfl rfl (Nat.le_of_ble_eq_true rfl) hdg (fun H1 locs1 hP hD hS => kk H1 locs1 (I.to (zh_set I.D ha hk rfl rfl ?_ (fun b hb k => zh_e_sI g S _ hb k)) hP hD hS))
  simp [zh_e, zh_I_sI, zh_R_sI, zh_u]

theorem zg_Entry_rejected {v : Int32} (C : CallFix p m c cc nL s args zc_W own) (I : zh_V g A s X S H locs) (ha : zh_at S 1 a) (hl : Cond.fieldLink own idx "DiceForge$Entry" "rejected" "I" ∈ zc_W) (hv : zh_I S 7 a = v) (hdg : decode cc pc = .ok (.getfield idx, 3)) (kk : W p l e R s m args below meth c H locs cells slots Q (F0 m (pc + 3) ls (.int v :: rest))) : W p l e R s m args below meth c H locs cells slots Q (F0 m pc ls (.ref a :: rest)) := by
  obtain ⟨k, hk⟩ := zh_get (g := g) X ha
  have hk : (X ++ zh_w g S)[k]? = some (a, .inr (2, [.int (zh_I S 2 a), .int (zh_I S 3 a), .int (zh_I S 4 a), .int (zh_I S 5 a), .int (zh_I S 6 a), .int (zh_I S 7 a), .int (zh_I S 8 a), .int (zh_I S 9 a)])) := hk
  refine va_get (D := g.2.2.1) (ci := 2) (v := .int (zh_I S 7 a)) (C := RX1) (T := TX1) (N := 8) C.1 C.2.1 C.2.2.2.2 zin_Entry C.2.2.2.1 I.K I.P k hk rfl 5 (by decide) (C.2.2.2.2 _ hl) (fun _ h => h) rfl hdg ?_
  rw [hv]
  exact kk

theorem zn_Entry_rejected {v : Int32} (C : CallFix p m c cc nL s args zc_W own) (I : zh_V g A s X S H locs) (ha : zh_at S 1 a) (hl : Cond.fieldLinkNest own idx "DiceForge$Entry" "rejected" "I" host ∈ zn_ws) (hv : zh_I S 7 a = v) (hdg : decode cc pc = .ok (.getfield idx, 3)) (kk : W p l e R s m args below meth c H locs cells slots Q (F0 m (pc + 3) ls (.int v :: rest))) : W p l e R s m args below meth c H locs cells slots Q (F0 m pc ls (.ref a :: rest)) := by
  obtain ⟨k, hk⟩ := zh_get (g := g) X ha
  have hk : (X ++ zh_w g S)[k]? = some (a, .inr (2, [.int (zh_I S 2 a), .int (zh_I S 3 a), .int (zh_I S 4 a), .int (zh_I S 5 a), .int (zh_I S 6 a), .int (zh_I S 7 a), .int (zh_I S 8 a), .int (zh_I S 9 a)])) := hk
  refine va_getN (host := host) (D := g.2.2.1) (ci := 2) (v := .int (zh_I S 7 a)) (C := RX1) (T := TX1) (N := 8) C.1 C.2.1 C.2.2.2.2 zin_Entry C.2.2.2.1 I.K I.P k hk rfl 5 (by decide) (va_Nw.use rfl (I.O.1 _ hl)) (fun _ h => h) rfl hdg ?_
  rw [hv]
  exact kk

theorem zp_Entry_rejected {v : Int32} (C : CallFix p m c cc nL s args zc_W own) (I : zh_V g A s X S H locs) (ha : zh_at S 1 a) (hl : Cond.fieldLink own idx "DiceForge$Entry" "rejected" "I" ∈ zc_W) (hdg : decode cc pc = .ok (.putfield idx, 3)) (kk : ∀ (H : Heap) (locs : List Loc), zh_V g A s X (zh_sI S 7 a v) H locs → W p l e R s m args below meth c H locs cells slots Q (F0 m (pc + 3) ls rest)) : W p l e R s m args below meth c H locs cells slots Q (F0 m pc ls (.int v :: .ref a :: rest)) := by
  obtain ⟨k, hk⟩ := zh_get (g := g) X ha
  have hk : (X ++ zh_w g S)[k]? = some (a, .inr (2, [.int (zh_I S 2 a), .int (zh_I S 3 a), .int (zh_I S 4 a), .int (zh_I S 5 a), .int (zh_I S 6 a), .int (zh_I S 7 a), .int (zh_I S 8 a), .int (zh_I S 9 a)])) := hk
  refine va_put (D := g.2.2.1) (ci := 2) (ty := .int) (v := .int v) (C := RX1) (T := TX1) (N := 8) C.1 C.2.1 C.2.2.2.2 zin_Entry tyX1 tyX1_ok nmX1 C.2.2.2.1 I.K I.P I.D I.S k hk rfl 5 (by decide) (C.2.2.2.2 _ hl) (fun _ h => h) rfl (by decide +kernel) rfl rfl (Nat.le_of_ble_eq_true rfl) hdg (fun H1 locs1 hP hD hS => kk H1 locs1 (I.to (zh_set I.D ha hk rfl rfl ?_ (fun b hb k => zh_e_sI g S _ hb k)) hP hD hS))
  simp [zh_e, zh_I_sI, zh_R_sI, zh_u]

theorem zq_Entry_rejected {v : Int32} (C : CallFix p m c cc nL s args zc_W own) (I : zh_V g A s X S H locs) (ha : zh_at S 1 a) (hl : Cond.fieldLinkNest own idx "DiceForge$Entry" "rejected" "I" host ∈ zn_ws) (hdg : decode cc pc = .ok (.putfield idx, 3)) (kk : ∀ (H : Heap) (locs : List Loc), zh_V g A s X (zh_sI S 7 a v) H locs → W p l e R s m args below meth c H locs cells slots Q (F0 m (pc + 3) ls rest)) : W p l e R s m args below meth c H locs cells slots Q (F0 m pc ls (.int v :: .ref a :: rest)) := by
  obtain ⟨k, hk⟩ := zh_get (g := g) X ha
  have hk : (X ++ zh_w g S)[k]? = some (a, .inr (2, [.int (zh_I S 2 a), .int (zh_I S 3 a), .int (zh_I S 4 a), .int (zh_I S 5 a), .int (zh_I S 6 a), .int (zh_I S 7 a), .int (zh_I S 8 a), .int (zh_I S 9 a)])) := hk
  refine va_putN (host := host) (D := g.2.2.1) (ci := 2) (ty := .int) (v := .int v) (C := RX1) (T := TX1) (N := 8) C.1 C.2.1 C.2.2.2.2 zin_Entry tyX1 tyX1_ok nmX1 C.2.2.2.1 I.K I.P I.D I.S k hk rfl 5 (by decide) (va_Nw.use rfl (I.O.1 _ hl)) (fun _ h => h) rfl (by decide +kernel) rfl rfl (Nat.le_of_ble_eq_true rfl) hdg (fun H1 locs1 hP hD hS => kk H1 locs1 (I.to (zh_set I.D ha hk rfl rfl ?_ (fun b hb k => zh_e_sI g S _ hb k)) hP hD hS))
  simp [zh_e, zh_I_sI, zh_R_sI, zh_u]

theorem zg_Entry_sum {v : Int32} (C : CallFix p m c cc nL s args zc_W own) (I : zh_V g A s X S H locs) (ha : zh_at S 1 a) (hl : Cond.fieldLink own idx "DiceForge$Entry" "sum" "I" ∈ zc_W) (hv : zh_I S 8 a = v) (hdg : decode cc pc = .ok (.getfield idx, 3)) (kk : W p l e R s m args below meth c H locs cells slots Q (F0 m (pc + 3) ls (.int v :: rest))) : W p l e R s m args below meth c H locs cells slots Q (F0 m pc ls (.ref a :: rest)) := by
  obtain ⟨k, hk⟩ := zh_get (g := g) X ha
  have hk : (X ++ zh_w g S)[k]? = some (a, .inr (2, [.int (zh_I S 2 a), .int (zh_I S 3 a), .int (zh_I S 4 a), .int (zh_I S 5 a), .int (zh_I S 6 a), .int (zh_I S 7 a), .int (zh_I S 8 a), .int (zh_I S 9 a)])) := hk
  refine va_get (D := g.2.2.1) (ci := 2) (v := .int (zh_I S 8 a)) (C := RX1) (T := TX1) (N := 8) C.1 C.2.1 C.2.2.2.2 zin_Entry C.2.2.2.1 I.K I.P k hk rfl 6 (by decide) (C.2.2.2.2 _ hl) (fun _ h => h) rfl hdg ?_
  rw [hv]
  exact kk

theorem zn_Entry_sum {v : Int32} (C : CallFix p m c cc nL s args zc_W own) (I : zh_V g A s X S H locs) (ha : zh_at S 1 a) (hl : Cond.fieldLinkNest own idx "DiceForge$Entry" "sum" "I" host ∈ zn_ws) (hv : zh_I S 8 a = v) (hdg : decode cc pc = .ok (.getfield idx, 3)) (kk : W p l e R s m args below meth c H locs cells slots Q (F0 m (pc + 3) ls (.int v :: rest))) : W p l e R s m args below meth c H locs cells slots Q (F0 m pc ls (.ref a :: rest)) := by
  obtain ⟨k, hk⟩ := zh_get (g := g) X ha
  have hk : (X ++ zh_w g S)[k]? = some (a, .inr (2, [.int (zh_I S 2 a), .int (zh_I S 3 a), .int (zh_I S 4 a), .int (zh_I S 5 a), .int (zh_I S 6 a), .int (zh_I S 7 a), .int (zh_I S 8 a), .int (zh_I S 9 a)])) := hk
  refine va_getN (host := host) (D := g.2.2.1) (ci := 2) (v := .int (zh_I S 8 a)) (C := RX1) (T := TX1) (N := 8) C.1 C.2.1 C.2.2.2.2 zin_Entry C.2.2.2.1 I.K I.P k hk rfl 6 (by decide) (va_Nw.use rfl (I.O.1 _ hl)) (fun _ h => h) rfl hdg ?_
  rw [hv]
  exact kk

theorem zp_Entry_sum {v : Int32} (C : CallFix p m c cc nL s args zc_W own) (I : zh_V g A s X S H locs) (ha : zh_at S 1 a) (hl : Cond.fieldLink own idx "DiceForge$Entry" "sum" "I" ∈ zc_W) (hdg : decode cc pc = .ok (.putfield idx, 3)) (kk : ∀ (H : Heap) (locs : List Loc), zh_V g A s X (zh_sI S 8 a v) H locs → W p l e R s m args below meth c H locs cells slots Q (F0 m (pc + 3) ls rest)) : W p l e R s m args below meth c H locs cells slots Q (F0 m pc ls (.int v :: .ref a :: rest)) := by
  obtain ⟨k, hk⟩ := zh_get (g := g) X ha
  have hk : (X ++ zh_w g S)[k]? = some (a, .inr (2, [.int (zh_I S 2 a), .int (zh_I S 3 a), .int (zh_I S 4 a), .int (zh_I S 5 a), .int (zh_I S 6 a), .int (zh_I S 7 a), .int (zh_I S 8 a), .int (zh_I S 9 a)])) := hk
  refine va_put (D := g.2.2.1) (ci := 2) (ty := .int) (v := .int v) (C := RX1) (T := TX1) (N := 8) C.1 C.2.1 C.2.2.2.2 zin_Entry tyX1 tyX1_ok nmX1 C.2.2.2.1 I.K I.P I.D I.S k hk rfl 6 (by decide) (C.2.2.2.2 _ hl) (fun _ h => h) rfl (by decide +kernel) rfl rfl (Nat.le_of_ble_eq_true rfl) hdg (fun H1 locs1 hP hD hS => kk H1 locs1 (I.to (zh_set I.D ha hk rfl rfl ?_ (fun b hb k => zh_e_sI g S _ hb k)) hP hD hS))
  simp [zh_e, zh_I_sI, zh_R_sI, zh_u]

theorem zq_Entry_sum {v : Int32} (C : CallFix p m c cc nL s args zc_W own) (I : zh_V g A s X S H locs) (ha : zh_at S 1 a) (hl : Cond.fieldLinkNest own idx "DiceForge$Entry" "sum" "I" host ∈ zn_ws) (hdg : decode cc pc = .ok (.putfield idx, 3)) (kk : ∀ (H : Heap) (locs : List Loc), zh_V g A s X (zh_sI S 8 a v) H locs → W p l e R s m args below meth c H locs cells slots Q (F0 m (pc + 3) ls rest)) : W p l e R s m args below meth c H locs cells slots Q (F0 m pc ls (.int v :: .ref a :: rest)) := by
  obtain ⟨k, hk⟩ := zh_get (g := g) X ha
  have hk : (X ++ zh_w g S)[k]? = some (a, .inr (2, [.int (zh_I S 2 a), .int (zh_I S 3 a), .int (zh_I S 4 a), .int (zh_I S 5 a), .int (zh_I S 6 a), .int (zh_I S 7 a), .int (zh_I S 8 a), .int (zh_I S 9 a)])) := hk
  refine va_putN (host := host) (D := g.2.2.1) (ci := 2) (ty := .int) (v := .int v) (C := RX1) (T := TX1) (N := 8) C.1 C.2.1 C.2.2.2.2 zin_Entry tyX1 tyX1_ok nmX1 C.2.2.2.1 I.K I.P I.D I.S k hk rfl 6 (by decide) (va_Nw.use rfl (I.O.1 _ hl)) (fun _ h => h) rfl (by decide +kernel) rfl rfl (Nat.le_of_ble_eq_true rfl) hdg (fun H1 locs1 hP hD hS => kk H1 locs1 (I.to (zh_set I.D ha hk rfl rfl ?_ (fun b hb k => zh_e_sI g S _ hb k)) hP hD hS))
  simp [zh_e, zh_I_sI, zh_R_sI, zh_u]

theorem zg_Entry_struck {v : Int32} (C : CallFix p m c cc nL s args zc_W own) (I : zh_V g A s X S H locs) (ha : zh_at S 1 a) (hl : Cond.fieldLink own idx "DiceForge$Entry" "struck" "Z" ∈ zc_W) (hv : zh_I S 9 a = v) (hdg : decode cc pc = .ok (.getfield idx, 3)) (kk : W p l e R s m args below meth c H locs cells slots Q (F0 m (pc + 3) ls (.int v :: rest))) : W p l e R s m args below meth c H locs cells slots Q (F0 m pc ls (.ref a :: rest)) := by
  obtain ⟨k, hk⟩ := zh_get (g := g) X ha
  have hk : (X ++ zh_w g S)[k]? = some (a, .inr (2, [.int (zh_I S 2 a), .int (zh_I S 3 a), .int (zh_I S 4 a), .int (zh_I S 5 a), .int (zh_I S 6 a), .int (zh_I S 7 a), .int (zh_I S 8 a), .int (zh_I S 9 a)])) := hk
  refine va_get (D := g.2.2.1) (ci := 2) (v := .int (zh_I S 9 a)) (C := RX1) (T := TX1) (N := 8) C.1 C.2.1 C.2.2.2.2 zin_Entry C.2.2.2.1 I.K I.P k hk rfl 7 (by decide) (C.2.2.2.2 _ hl) (fun _ h => h) rfl hdg ?_
  rw [hv]
  exact kk

theorem zn_Entry_struck {v : Int32} (C : CallFix p m c cc nL s args zc_W own) (I : zh_V g A s X S H locs) (ha : zh_at S 1 a) (hl : Cond.fieldLinkNest own idx "DiceForge$Entry" "struck" "Z" host ∈ zn_ws) (hv : zh_I S 9 a = v) (hdg : decode cc pc = .ok (.getfield idx, 3)) (kk : W p l e R s m args below meth c H locs cells slots Q (F0 m (pc + 3) ls (.int v :: rest))) : W p l e R s m args below meth c H locs cells slots Q (F0 m pc ls (.ref a :: rest)) := by
  obtain ⟨k, hk⟩ := zh_get (g := g) X ha
  have hk : (X ++ zh_w g S)[k]? = some (a, .inr (2, [.int (zh_I S 2 a), .int (zh_I S 3 a), .int (zh_I S 4 a), .int (zh_I S 5 a), .int (zh_I S 6 a), .int (zh_I S 7 a), .int (zh_I S 8 a), .int (zh_I S 9 a)])) := hk
  refine va_getN (host := host) (D := g.2.2.1) (ci := 2) (v := .int (zh_I S 9 a)) (C := RX1) (T := TX1) (N := 8) C.1 C.2.1 C.2.2.2.2 zin_Entry C.2.2.2.1 I.K I.P k hk rfl 7 (by decide) (va_Nw.use rfl (I.O.1 _ hl)) (fun _ h => h) rfl hdg ?_
  rw [hv]
  exact kk

theorem zp_Entry_struck {v : Int32} (C : CallFix p m c cc nL s args zc_W own) (I : zh_V g A s X S H locs) (ha : zh_at S 1 a) (hl : Cond.fieldLink own idx "DiceForge$Entry" "struck" "Z" ∈ zc_W) (hb01 : v = 0 ∨ v = 1) (hdg : decode cc pc = .ok (.putfield idx, 3)) (kk : ∀ (H : Heap) (locs : List Loc), zh_V g A s X (zh_sI S 9 a v) H locs → W p l e R s m args below meth c H locs cells slots Q (F0 m (pc + 3) ls rest)) : W p l e R s m args below meth c H locs cells slots Q (F0 m pc ls (.int v :: .ref a :: rest)) := by
  obtain ⟨k, hk⟩ := zh_get (g := g) X ha
  have hk : (X ++ zh_w g S)[k]? = some (a, .inr (2, [.int (zh_I S 2 a), .int (zh_I S 3 a), .int (zh_I S 4 a), .int (zh_I S 5 a), .int (zh_I S 6 a), .int (zh_I S 7 a), .int (zh_I S 8 a), .int (zh_I S 9 a)])) := hk
  refine va_put (D := g.2.2.1) (ci := 2) (ty := .boolean) (v := .int v) (C := RX1) (T := TX1) (N := 8) C.1 C.2.1 C.2.2.2.2 zin_Entry tyX1 tyX1_ok nmX1 C.2.2.2.1 I.K I.P I.D I.S k hk rfl 7 (by decide) (C.2.2.2.2 _ hl) (fun _ h => h) rfl (by decide +kernel) (zf_b hb01).1 (zf_b hb01).2 (Nat.le_of_ble_eq_true rfl) hdg (fun H1 locs1 hP hD hS => kk H1 locs1 (I.to (zh_set I.D ha hk rfl rfl ?_ (fun b hb k => zh_e_sI g S _ hb k)) hP hD hS))
  simp [zh_e, zh_I_sI, zh_R_sI, zh_u]

theorem zq_Entry_struck {v : Int32} (C : CallFix p m c cc nL s args zc_W own) (I : zh_V g A s X S H locs) (ha : zh_at S 1 a) (hl : Cond.fieldLinkNest own idx "DiceForge$Entry" "struck" "Z" host ∈ zn_ws) (hb01 : v = 0 ∨ v = 1) (hdg : decode cc pc = .ok (.putfield idx, 3)) (kk : ∀ (H : Heap) (locs : List Loc), zh_V g A s X (zh_sI S 9 a v) H locs → W p l e R s m args below meth c H locs cells slots Q (F0 m (pc + 3) ls rest)) : W p l e R s m args below meth c H locs cells slots Q (F0 m pc ls (.int v :: .ref a :: rest)) := by
  obtain ⟨k, hk⟩ := zh_get (g := g) X ha
  have hk : (X ++ zh_w g S)[k]? = some (a, .inr (2, [.int (zh_I S 2 a), .int (zh_I S 3 a), .int (zh_I S 4 a), .int (zh_I S 5 a), .int (zh_I S 6 a), .int (zh_I S 7 a), .int (zh_I S 8 a), .int (zh_I S 9 a)])) := hk
  refine va_putN (host := host) (D := g.2.2.1) (ci := 2) (ty := .boolean) (v := .int v) (C := RX1) (T := TX1) (N := 8) C.1 C.2.1 C.2.2.2.2 zin_Entry tyX1 tyX1_ok nmX1 C.2.2.2.1 I.K I.P I.D I.S k hk rfl 7 (by decide) (va_Nw.use rfl (I.O.1 _ hl)) (fun _ h => h) rfl (by decide +kernel) (zf_b hb01).1 (zf_b hb01).2 (Nat.le_of_ble_eq_true rfl) hdg (fun H1 locs1 hP hD hS => kk H1 locs1 (I.to (zh_set I.D ha hk rfl rfl ?_ (fun b hb k => zh_e_sI g S _ hb k)) hP hD hS))
  simp [zh_e, zh_I_sI, zh_R_sI, zh_u]

theorem zw_Entry (C : CallFix p m c cc nL s args zc_W own) (I : zh_V g A s X S H locs) (hcl : Cond.classLink own idx RX1 ∈ zc_W) (hinst : Cond.instantiable RX1 8 ∈ zc_W) (hini : Cond.initialized RX1 ∈ zc_W) (hc1 : cells + 1 ≤ R.cells) (hs1 : slots + 8 ≤ R.slots) (hdg : decode cc pc = .ok (.new idx, 3)) (kk : ∀ (q : Nat) (H : Heap), q ∉ zh_L S → zh_V g A s X (zh_nO S q 1) H locs → W p l e R s m args below meth c H locs (cells + 1) (slots + 8) Q (F0 m (pc + 3) ls (.ref q :: rest))) : W p l e R s m args below meth c H locs cells slots Q (F0 m pc ls rest) := by
  refine va_new (ci := 2) (fs := [.int 0, .int 0, .int 0, .int 0, .int 0, .int 0, .int 0, .int 0]) (C := RX1) (T := TX1) (N := 8) C.1 C.2.1 C.2.2.2.2 zin_Entry tyX1 tyX1_ok C.2.2.2.1 (C.2.2.2.2 _ hcl) (C.2.2.2.2 _ hinst) (C.2.2.2.2 _ hini) I.K I.P I.D I.S I.A rfl (fun j hj => by rcases (show j = 0 ∨ j = 1 ∨ j = 2 ∨ j = 3 ∨ j = 4 ∨ j = 5 ∨ j = 6 ∨ j = 7 by omega) with rfl | rfl | rfl | rfl | rfl | rfl | rfl | rfl <;> rfl) hc1 hs1 hdg (fun q H1 hP hD hS => ?_)
  have hq : q ∉ zh_L S := zf_fresh hD
  exact kk q H1 hq (I.to (zh_push hq rfl rfl (by simp [zh_e, zh_nO, zh_I, zh_R, va_rf]) (fun b hb k => zh_e_nO g S _ hb k)) hP hD hS)

theorem zg_Promise_seed {v : Int32} (C : CallFix p m c cc nL s args zc_W own) (I : zh_V g A s X S H locs) (ha : zh_at S 2 a) (hl : Cond.fieldLink own idx "DiceForge$Promise" "seed" "I" ∈ zc_W) (hv : zh_I S 10 a = v) (hdg : decode cc pc = .ok (.getfield idx, 3)) (kk : W p l e R s m args below meth c H locs cells slots Q (F0 m (pc + 3) ls (.int v :: rest))) : W p l e R s m args below meth c H locs cells slots Q (F0 m pc ls (.ref a :: rest)) := by
  obtain ⟨k, hk⟩ := zh_get (g := g) X ha
  have hk : (X ++ zh_w g S)[k]? = some (a, .inr (3, [.int (zh_I S 10 a), va_rf (zh_R S 0 a), .int (zh_I S 11 a), .int (zh_I S 12 a)])) := hk
  refine va_get (D := g.2.2.1) (ci := 3) (v := .int (zh_I S 10 a)) (C := RX2) (T := TX2) (N := 4) C.1 C.2.1 C.2.2.2.2 zin_Promise C.2.2.2.1 I.K I.P k hk rfl 0 (by decide) (C.2.2.2.2 _ hl) (fun _ h => h) rfl hdg ?_
  rw [hv]
  exact kk

theorem zn_Promise_seed {v : Int32} (C : CallFix p m c cc nL s args zc_W own) (I : zh_V g A s X S H locs) (ha : zh_at S 2 a) (hl : Cond.fieldLinkNest own idx "DiceForge$Promise" "seed" "I" host ∈ zn_ws) (hv : zh_I S 10 a = v) (hdg : decode cc pc = .ok (.getfield idx, 3)) (kk : W p l e R s m args below meth c H locs cells slots Q (F0 m (pc + 3) ls (.int v :: rest))) : W p l e R s m args below meth c H locs cells slots Q (F0 m pc ls (.ref a :: rest)) := by
  obtain ⟨k, hk⟩ := zh_get (g := g) X ha
  have hk : (X ++ zh_w g S)[k]? = some (a, .inr (3, [.int (zh_I S 10 a), va_rf (zh_R S 0 a), .int (zh_I S 11 a), .int (zh_I S 12 a)])) := hk
  refine va_getN (host := host) (D := g.2.2.1) (ci := 3) (v := .int (zh_I S 10 a)) (C := RX2) (T := TX2) (N := 4) C.1 C.2.1 C.2.2.2.2 zin_Promise C.2.2.2.1 I.K I.P k hk rfl 0 (by decide) (va_Nw.use rfl (I.O.1 _ hl)) (fun _ h => h) rfl hdg ?_
  rw [hv]
  exact kk

theorem zf_Promise_seed {v : Int32} (C : CallFix p m c cc nL s args zc_W own) (I : zh_V g A s X S H locs) (ha : zh_at S 2 a) (hl : Cond.fieldLink own idx "DiceForge$Promise" "seed" "I" ∈ zc_W) (hin2 : meth.name = "<init>") (hdecl : "DiceForge$Promise" = own) (hdg : decode cc pc = .ok (.putfield idx, 3)) (kk : ∀ (H : Heap) (locs : List Loc), zh_V g A s X (zh_sI S 10 a v) H locs → W p l e R s m args below meth c H locs cells slots Q (F0 m (pc + 3) ls rest)) : W p l e R s m args below meth c H locs cells slots Q (F0 m pc ls (.int v :: .ref a :: rest)) := by
  obtain ⟨k, hk⟩ := zh_get (g := g) X ha
  have hk : (X ++ zh_w g S)[k]? = some (a, .inr (3, [.int (zh_I S 10 a), va_rf (zh_R S 0 a), .int (zh_I S 11 a), .int (zh_I S 12 a)])) := hk
  refine va_putF (D := g.2.2.1) (ci := 3) (ty := .int) (v := .int v) (C := RX2) (T := TX2) (N := 4) C.1 C.2.1 C.2.2.2.2 zin_Promise tyX2 tyX2_ok nmX2 C.2.2.2.1 I.K I.P I.D I.S k hk rfl 0 (by decide) (C.2.2.2.2 _ hl) (fun _ h => h) rfl hin2 hdecl (by decide +kernel) rfl rfl (Nat.le_of_ble_eq_true rfl) hdg (fun H1 locs1 hP hD hS => kk H1 locs1 (I.to (zh_set I.D ha hk rfl rfl ?_ (fun b hb k => zh_e_sI g S _ hb k)) hP hD hS))
  simp [zh_e, zh_I_sI, zh_R_sI, zh_u]

theorem zg_Promise_draws {v : Nat} (C : CallFix p m c cc nL s args zc_W own) (I : zh_V g A s X S H locs) (ha : zh_at S 2 a) (hl : Cond.fieldLink own idx "DiceForge$Promise" "draws" "LDiceForge$Draws;" ∈ zc_W) (hv : zh_R S 0 a = some v) (hdg : decode cc pc = .ok (.getfield idx, 3)) (kk : W p l e R s m args below meth c H locs cells slots Q (F0 m (pc + 3) ls (.ref v :: rest))) : W p l e R s m args below meth c H locs cells slots Q (F0 m pc ls (.ref a :: rest)) := by
  obtain ⟨k, hk⟩ := zh_get (g := g) X ha
  have hk : (X ++ zh_w g S)[k]? = some (a, .inr (3, [.int (zh_I S 10 a), va_rf (zh_R S 0 a), .int (zh_I S 11 a), .int (zh_I S 12 a)])) := hk
  refine va_get (D := g.2.2.1) (ci := 3) (v := va_rf (zh_R S 0 a)) (C := RX2) (T := TX2) (N := 4) C.1 C.2.1 C.2.2.2.2 zin_Promise C.2.2.2.1 I.K I.P k hk rfl 1 (by decide) (C.2.2.2.2 _ hl) (fun _ h => h) rfl hdg ?_
  rw [hv]
  exact kk

theorem zn_Promise_draws {v : Nat} (C : CallFix p m c cc nL s args zc_W own) (I : zh_V g A s X S H locs) (ha : zh_at S 2 a) (hl : Cond.fieldLinkNest own idx "DiceForge$Promise" "draws" "LDiceForge$Draws;" host ∈ zn_ws) (hv : zh_R S 0 a = some v) (hdg : decode cc pc = .ok (.getfield idx, 3)) (kk : W p l e R s m args below meth c H locs cells slots Q (F0 m (pc + 3) ls (.ref v :: rest))) : W p l e R s m args below meth c H locs cells slots Q (F0 m pc ls (.ref a :: rest)) := by
  obtain ⟨k, hk⟩ := zh_get (g := g) X ha
  have hk : (X ++ zh_w g S)[k]? = some (a, .inr (3, [.int (zh_I S 10 a), va_rf (zh_R S 0 a), .int (zh_I S 11 a), .int (zh_I S 12 a)])) := hk
  refine va_getN (host := host) (D := g.2.2.1) (ci := 3) (v := va_rf (zh_R S 0 a)) (C := RX2) (T := TX2) (N := 4) C.1 C.2.1 C.2.2.2.2 zin_Promise C.2.2.2.1 I.K I.P k hk rfl 1 (by decide) (va_Nw.use rfl (I.O.1 _ hl)) (fun _ h => h) rfl hdg ?_
  rw [hv]
  exact kk

theorem zf_Promise_draws {v : Nat} (C : CallFix p m c cc nL s args zc_W own) (I : zh_V g A s X S H locs) (ha : zh_at S 2 a) (hl : Cond.fieldLink own idx "DiceForge$Promise" "draws" "LDiceForge$Draws;" ∈ zc_W) (hin2 : meth.name = "<init>") (hdecl : "DiceForge$Promise" = own) (hdg : decode cc pc = .ok (.putfield idx, 3)) (kk : ∀ (H : Heap) (locs : List Loc), zh_V g A s X (zh_sR S 0 a (some v)) H locs → W p l e R s m args below meth c H locs cells slots Q (F0 m (pc + 3) ls rest)) : W p l e R s m args below meth c H locs cells slots Q (F0 m pc ls (.ref v :: .ref a :: rest)) := by
  obtain ⟨k, hk⟩ := zh_get (g := g) X ha
  have hk : (X ++ zh_w g S)[k]? = some (a, .inr (3, [.int (zh_I S 10 a), va_rf (zh_R S 0 a), .int (zh_I S 11 a), .int (zh_I S 12 a)])) := hk
  refine va_putF (D := g.2.2.1) (ci := 3) (ty := .object "DiceForge$Draws") (v := .ref v) (C := RX2) (T := TX2) (N := 4) C.1 C.2.1 C.2.2.2.2 zin_Promise tyX2 tyX2_ok nmX2 C.2.2.2.1 I.K I.P I.D I.S k hk rfl 1 (by decide) (C.2.2.2.2 _ hl) (fun _ h => h) rfl hin2 hdecl (by decide +kernel) rfl rfl (Nat.le_of_ble_eq_true rfl) hdg (fun H1 locs1 hP hD hS => kk H1 locs1 (I.to (zh_set I.D ha hk rfl rfl ?_ (fun b hb k => zh_e_sR g S _ hb k)) hP hD hS))
  simp [zh_e, zh_I_sR, zh_R_sR, zh_u, va_rf]

theorem zg_Promise_opened {v : Int32} (C : CallFix p m c cc nL s args zc_W own) (I : zh_V g A s X S H locs) (ha : zh_at S 2 a) (hl : Cond.fieldLink own idx "DiceForge$Promise" "opened" "Z" ∈ zc_W) (hv : zh_I S 11 a = v) (hdg : decode cc pc = .ok (.getfield idx, 3)) (kk : W p l e R s m args below meth c H locs cells slots Q (F0 m (pc + 3) ls (.int v :: rest))) : W p l e R s m args below meth c H locs cells slots Q (F0 m pc ls (.ref a :: rest)) := by
  obtain ⟨k, hk⟩ := zh_get (g := g) X ha
  have hk : (X ++ zh_w g S)[k]? = some (a, .inr (3, [.int (zh_I S 10 a), va_rf (zh_R S 0 a), .int (zh_I S 11 a), .int (zh_I S 12 a)])) := hk
  refine va_get (D := g.2.2.1) (ci := 3) (v := .int (zh_I S 11 a)) (C := RX2) (T := TX2) (N := 4) C.1 C.2.1 C.2.2.2.2 zin_Promise C.2.2.2.1 I.K I.P k hk rfl 2 (by decide) (C.2.2.2.2 _ hl) (fun _ h => h) rfl hdg ?_
  rw [hv]
  exact kk

theorem zn_Promise_opened {v : Int32} (C : CallFix p m c cc nL s args zc_W own) (I : zh_V g A s X S H locs) (ha : zh_at S 2 a) (hl : Cond.fieldLinkNest own idx "DiceForge$Promise" "opened" "Z" host ∈ zn_ws) (hv : zh_I S 11 a = v) (hdg : decode cc pc = .ok (.getfield idx, 3)) (kk : W p l e R s m args below meth c H locs cells slots Q (F0 m (pc + 3) ls (.int v :: rest))) : W p l e R s m args below meth c H locs cells slots Q (F0 m pc ls (.ref a :: rest)) := by
  obtain ⟨k, hk⟩ := zh_get (g := g) X ha
  have hk : (X ++ zh_w g S)[k]? = some (a, .inr (3, [.int (zh_I S 10 a), va_rf (zh_R S 0 a), .int (zh_I S 11 a), .int (zh_I S 12 a)])) := hk
  refine va_getN (host := host) (D := g.2.2.1) (ci := 3) (v := .int (zh_I S 11 a)) (C := RX2) (T := TX2) (N := 4) C.1 C.2.1 C.2.2.2.2 zin_Promise C.2.2.2.1 I.K I.P k hk rfl 2 (by decide) (va_Nw.use rfl (I.O.1 _ hl)) (fun _ h => h) rfl hdg ?_
  rw [hv]
  exact kk

theorem zp_Promise_opened {v : Int32} (C : CallFix p m c cc nL s args zc_W own) (I : zh_V g A s X S H locs) (ha : zh_at S 2 a) (hl : Cond.fieldLink own idx "DiceForge$Promise" "opened" "Z" ∈ zc_W) (hb01 : v = 0 ∨ v = 1) (hdg : decode cc pc = .ok (.putfield idx, 3)) (kk : ∀ (H : Heap) (locs : List Loc), zh_V g A s X (zh_sI S 11 a v) H locs → W p l e R s m args below meth c H locs cells slots Q (F0 m (pc + 3) ls rest)) : W p l e R s m args below meth c H locs cells slots Q (F0 m pc ls (.int v :: .ref a :: rest)) := by
  obtain ⟨k, hk⟩ := zh_get (g := g) X ha
  have hk : (X ++ zh_w g S)[k]? = some (a, .inr (3, [.int (zh_I S 10 a), va_rf (zh_R S 0 a), .int (zh_I S 11 a), .int (zh_I S 12 a)])) := hk
  refine va_put (D := g.2.2.1) (ci := 3) (ty := .boolean) (v := .int v) (C := RX2) (T := TX2) (N := 4) C.1 C.2.1 C.2.2.2.2 zin_Promise tyX2 tyX2_ok nmX2 C.2.2.2.1 I.K I.P I.D I.S k hk rfl 2 (by decide) (C.2.2.2.2 _ hl) (fun _ h => h) rfl (by decide +kernel) (zf_b hb01).1 (zf_b hb01).2 (Nat.le_of_ble_eq_true rfl) hdg (fun H1 locs1 hP hD hS => kk H1 locs1 (I.to (zh_set I.D ha hk rfl rfl ?_ (fun b hb k => zh_e_sI g S _ hb k)) hP hD hS))
  simp [zh_e, zh_I_sI, zh_R_sI, zh_u]

theorem zq_Promise_opened {v : Int32} (C : CallFix p m c cc nL s args zc_W own) (I : zh_V g A s X S H locs) (ha : zh_at S 2 a) (hl : Cond.fieldLinkNest own idx "DiceForge$Promise" "opened" "Z" host ∈ zn_ws) (hb01 : v = 0 ∨ v = 1) (hdg : decode cc pc = .ok (.putfield idx, 3)) (kk : ∀ (H : Heap) (locs : List Loc), zh_V g A s X (zh_sI S 11 a v) H locs → W p l e R s m args below meth c H locs cells slots Q (F0 m (pc + 3) ls rest)) : W p l e R s m args below meth c H locs cells slots Q (F0 m pc ls (.int v :: .ref a :: rest)) := by
  obtain ⟨k, hk⟩ := zh_get (g := g) X ha
  have hk : (X ++ zh_w g S)[k]? = some (a, .inr (3, [.int (zh_I S 10 a), va_rf (zh_R S 0 a), .int (zh_I S 11 a), .int (zh_I S 12 a)])) := hk
  refine va_putN (host := host) (D := g.2.2.1) (ci := 3) (ty := .boolean) (v := .int v) (C := RX2) (T := TX2) (N := 4) C.1 C.2.1 C.2.2.2.2 zin_Promise tyX2 tyX2_ok nmX2 C.2.2.2.1 I.K I.P I.D I.S k hk rfl 2 (by decide) (va_Nw.use rfl (I.O.1 _ hl)) (fun _ h => h) rfl (by decide +kernel) (zf_b hb01).1 (zf_b hb01).2 (Nat.le_of_ble_eq_true rfl) hdg (fun H1 locs1 hP hD hS => kk H1 locs1 (I.to (zh_set I.D ha hk rfl rfl ?_ (fun b hb k => zh_e_sI g S _ hb k)) hP hD hS))
  simp [zh_e, zh_I_sI, zh_R_sI, zh_u]

theorem zg_Promise_disputed {v : Int32} (C : CallFix p m c cc nL s args zc_W own) (I : zh_V g A s X S H locs) (ha : zh_at S 2 a) (hl : Cond.fieldLink own idx "DiceForge$Promise" "disputed" "Z" ∈ zc_W) (hv : zh_I S 12 a = v) (hdg : decode cc pc = .ok (.getfield idx, 3)) (kk : W p l e R s m args below meth c H locs cells slots Q (F0 m (pc + 3) ls (.int v :: rest))) : W p l e R s m args below meth c H locs cells slots Q (F0 m pc ls (.ref a :: rest)) := by
  obtain ⟨k, hk⟩ := zh_get (g := g) X ha
  have hk : (X ++ zh_w g S)[k]? = some (a, .inr (3, [.int (zh_I S 10 a), va_rf (zh_R S 0 a), .int (zh_I S 11 a), .int (zh_I S 12 a)])) := hk
  refine va_get (D := g.2.2.1) (ci := 3) (v := .int (zh_I S 12 a)) (C := RX2) (T := TX2) (N := 4) C.1 C.2.1 C.2.2.2.2 zin_Promise C.2.2.2.1 I.K I.P k hk rfl 3 (by decide) (C.2.2.2.2 _ hl) (fun _ h => h) rfl hdg ?_
  rw [hv]
  exact kk

theorem zn_Promise_disputed {v : Int32} (C : CallFix p m c cc nL s args zc_W own) (I : zh_V g A s X S H locs) (ha : zh_at S 2 a) (hl : Cond.fieldLinkNest own idx "DiceForge$Promise" "disputed" "Z" host ∈ zn_ws) (hv : zh_I S 12 a = v) (hdg : decode cc pc = .ok (.getfield idx, 3)) (kk : W p l e R s m args below meth c H locs cells slots Q (F0 m (pc + 3) ls (.int v :: rest))) : W p l e R s m args below meth c H locs cells slots Q (F0 m pc ls (.ref a :: rest)) := by
  obtain ⟨k, hk⟩ := zh_get (g := g) X ha
  have hk : (X ++ zh_w g S)[k]? = some (a, .inr (3, [.int (zh_I S 10 a), va_rf (zh_R S 0 a), .int (zh_I S 11 a), .int (zh_I S 12 a)])) := hk
  refine va_getN (host := host) (D := g.2.2.1) (ci := 3) (v := .int (zh_I S 12 a)) (C := RX2) (T := TX2) (N := 4) C.1 C.2.1 C.2.2.2.2 zin_Promise C.2.2.2.1 I.K I.P k hk rfl 3 (by decide) (va_Nw.use rfl (I.O.1 _ hl)) (fun _ h => h) rfl hdg ?_
  rw [hv]
  exact kk

theorem zp_Promise_disputed {v : Int32} (C : CallFix p m c cc nL s args zc_W own) (I : zh_V g A s X S H locs) (ha : zh_at S 2 a) (hl : Cond.fieldLink own idx "DiceForge$Promise" "disputed" "Z" ∈ zc_W) (hb01 : v = 0 ∨ v = 1) (hdg : decode cc pc = .ok (.putfield idx, 3)) (kk : ∀ (H : Heap) (locs : List Loc), zh_V g A s X (zh_sI S 12 a v) H locs → W p l e R s m args below meth c H locs cells slots Q (F0 m (pc + 3) ls rest)) : W p l e R s m args below meth c H locs cells slots Q (F0 m pc ls (.int v :: .ref a :: rest)) := by
  obtain ⟨k, hk⟩ := zh_get (g := g) X ha
  have hk : (X ++ zh_w g S)[k]? = some (a, .inr (3, [.int (zh_I S 10 a), va_rf (zh_R S 0 a), .int (zh_I S 11 a), .int (zh_I S 12 a)])) := hk
  refine va_put (D := g.2.2.1) (ci := 3) (ty := .boolean) (v := .int v) (C := RX2) (T := TX2) (N := 4) C.1 C.2.1 C.2.2.2.2 zin_Promise tyX2 tyX2_ok nmX2 C.2.2.2.1 I.K I.P I.D I.S k hk rfl 3 (by decide) (C.2.2.2.2 _ hl) (fun _ h => h) rfl (by decide +kernel) (zf_b hb01).1 (zf_b hb01).2 (Nat.le_of_ble_eq_true rfl) hdg (fun H1 locs1 hP hD hS => kk H1 locs1 (I.to (zh_set I.D ha hk rfl rfl ?_ (fun b hb k => zh_e_sI g S _ hb k)) hP hD hS))
  simp [zh_e, zh_I_sI, zh_R_sI, zh_u]

theorem zq_Promise_disputed {v : Int32} (C : CallFix p m c cc nL s args zc_W own) (I : zh_V g A s X S H locs) (ha : zh_at S 2 a) (hl : Cond.fieldLinkNest own idx "DiceForge$Promise" "disputed" "Z" host ∈ zn_ws) (hb01 : v = 0 ∨ v = 1) (hdg : decode cc pc = .ok (.putfield idx, 3)) (kk : ∀ (H : Heap) (locs : List Loc), zh_V g A s X (zh_sI S 12 a v) H locs → W p l e R s m args below meth c H locs cells slots Q (F0 m (pc + 3) ls rest)) : W p l e R s m args below meth c H locs cells slots Q (F0 m pc ls (.int v :: .ref a :: rest)) := by
  obtain ⟨k, hk⟩ := zh_get (g := g) X ha
  have hk : (X ++ zh_w g S)[k]? = some (a, .inr (3, [.int (zh_I S 10 a), va_rf (zh_R S 0 a), .int (zh_I S 11 a), .int (zh_I S 12 a)])) := hk
  refine va_putN (host := host) (D := g.2.2.1) (ci := 3) (ty := .boolean) (v := .int v) (C := RX2) (T := TX2) (N := 4) C.1 C.2.1 C.2.2.2.2 zin_Promise tyX2 tyX2_ok nmX2 C.2.2.2.1 I.K I.P I.D I.S k hk rfl 3 (by decide) (va_Nw.use rfl (I.O.1 _ hl)) (fun _ h => h) rfl (by decide +kernel) (zf_b hb01).1 (zf_b hb01).2 (Nat.le_of_ble_eq_true rfl) hdg (fun H1 locs1 hP hD hS => kk H1 locs1 (I.to (zh_set I.D ha hk rfl rfl ?_ (fun b hb k => zh_e_sI g S _ hb k)) hP hD hS))
  simp [zh_e, zh_I_sI, zh_R_sI, zh_u]

theorem zw_Promise (C : CallFix p m c cc nL s args zc_W own) (I : zh_V g A s X S H locs) (hcl : Cond.classLink own idx RX2 ∈ zc_W) (hinst : Cond.instantiable RX2 4 ∈ zc_W) (hini : Cond.initialized RX2 ∈ zc_W) (hc1 : cells + 1 ≤ R.cells) (hs1 : slots + 4 ≤ R.slots) (hdg : decode cc pc = .ok (.new idx, 3)) (kk : ∀ (q : Nat) (H : Heap), q ∉ zh_L S → zh_V g A s X (zh_nO S q 2) H locs → W p l e R s m args below meth c H locs (cells + 1) (slots + 4) Q (F0 m (pc + 3) ls (.ref q :: rest))) : W p l e R s m args below meth c H locs cells slots Q (F0 m pc ls rest) := by
  refine va_new (ci := 3) (fs := [.int 0, .null, .int 0, .int 0]) (C := RX2) (T := TX2) (N := 4) C.1 C.2.1 C.2.2.2.2 zin_Promise tyX2 tyX2_ok C.2.2.2.1 (C.2.2.2.2 _ hcl) (C.2.2.2.2 _ hinst) (C.2.2.2.2 _ hini) I.K I.P I.D I.S I.A rfl (fun j hj => by rcases (show j = 0 ∨ j = 1 ∨ j = 2 ∨ j = 3 by omega) with rfl | rfl | rfl | rfl <;> rfl) hc1 hs1 hdg (fun q H1 hP hD hS => ?_)
  have hq : q ∉ zh_L S := zf_fresh hD
  exact kk q H1 hq (I.to (zh_push hq rfl rfl (by simp [zh_e, zh_nO, zh_I, zh_R, va_rf]) (fun b hb k => zh_e_nO g S _ hb k)) hP hD hS)

theorem zg_Forge_promises {v : Nat} (C : CallFix p m c cc nL s args zc_W own) (I : zh_V g A s X S H locs) (ha : zh_at S 3 a) (hl : Cond.fieldLink own idx "DiceForge" "promises" "Ljava/util/ArrayList;" ∈ zc_W) (hv : zh_R S 1 a = some v) (hdg : decode cc pc = .ok (.getfield idx, 3)) (kk : W p l e R s m args below meth c H locs cells slots Q (F0 m (pc + 3) ls (.ref v :: rest))) : W p l e R s m args below meth c H locs cells slots Q (F0 m pc ls (.ref a :: rest)) := by
  obtain ⟨k, hk⟩ := zh_get (g := g) X ha
  have hk : (X ++ zh_w g S)[k]? = some (a, .inr (4, [va_rf (zh_R S 1 a), va_rf (zh_R S 2 a), va_rf (zh_R S 3 a), va_rf (zh_R S 4 a)])) := hk
  refine va_get (D := g.2.2.1) (ci := 4) (v := va_rf (zh_R S 1 a)) (C := RX3) (T := TX3) (N := 4) C.1 C.2.1 C.2.2.2.2 zin_Forge C.2.2.2.1 I.K I.P k hk rfl 0 (by decide) (C.2.2.2.2 _ hl) (fun _ h => h) rfl hdg ?_
  rw [hv]
  exact kk

theorem zf_Forge_promises {v : Nat} (C : CallFix p m c cc nL s args zc_W own) (I : zh_V g A s X S H locs) (ha : zh_at S 3 a) (hl : Cond.fieldLink own idx "DiceForge" "promises" "Ljava/util/ArrayList;" ∈ zc_W) (hin2 : meth.name = "<init>") (hdecl : "DiceForge" = own) (hdg : decode cc pc = .ok (.putfield idx, 3)) (kk : ∀ (H : Heap) (locs : List Loc), zh_V g A s X (zh_sR S 1 a (some v)) H locs → W p l e R s m args below meth c H locs cells slots Q (F0 m (pc + 3) ls rest)) : W p l e R s m args below meth c H locs cells slots Q (F0 m pc ls (.ref v :: .ref a :: rest)) := by
  obtain ⟨k, hk⟩ := zh_get (g := g) X ha
  have hk : (X ++ zh_w g S)[k]? = some (a, .inr (4, [va_rf (zh_R S 1 a), va_rf (zh_R S 2 a), va_rf (zh_R S 3 a), va_rf (zh_R S 4 a)])) := hk
  refine va_putF (D := g.2.2.1) (ci := 4) (ty := .object "java/util/ArrayList") (v := .ref v) (C := RX3) (T := TX3) (N := 4) C.1 C.2.1 C.2.2.2.2 zin_Forge tyX3 tyX3_ok nmX3 C.2.2.2.1 I.K I.P I.D I.S k hk rfl 0 (by decide) (C.2.2.2.2 _ hl) (fun _ h => h) rfl hin2 hdecl (by decide +kernel) rfl rfl (Nat.le_of_ble_eq_true rfl) hdg (fun H1 locs1 hP hD hS => kk H1 locs1 (I.to (zh_set I.D ha hk rfl rfl ?_ (fun b hb k => zh_e_sR g S _ hb k)) hP hD hS))
  simp [zh_e, zh_I_sR, zh_R_sR, zh_u, va_rf]

theorem zg_Forge_log {v : Nat} (C : CallFix p m c cc nL s args zc_W own) (I : zh_V g A s X S H locs) (ha : zh_at S 3 a) (hl : Cond.fieldLink own idx "DiceForge" "log" "Ljava/util/ArrayList;" ∈ zc_W) (hv : zh_R S 2 a = some v) (hdg : decode cc pc = .ok (.getfield idx, 3)) (kk : W p l e R s m args below meth c H locs cells slots Q (F0 m (pc + 3) ls (.ref v :: rest))) : W p l e R s m args below meth c H locs cells slots Q (F0 m pc ls (.ref a :: rest)) := by
  obtain ⟨k, hk⟩ := zh_get (g := g) X ha
  have hk : (X ++ zh_w g S)[k]? = some (a, .inr (4, [va_rf (zh_R S 1 a), va_rf (zh_R S 2 a), va_rf (zh_R S 3 a), va_rf (zh_R S 4 a)])) := hk
  refine va_get (D := g.2.2.1) (ci := 4) (v := va_rf (zh_R S 2 a)) (C := RX3) (T := TX3) (N := 4) C.1 C.2.1 C.2.2.2.2 zin_Forge C.2.2.2.1 I.K I.P k hk rfl 1 (by decide) (C.2.2.2.2 _ hl) (fun _ h => h) rfl hdg ?_
  rw [hv]
  exact kk

theorem zf_Forge_log {v : Nat} (C : CallFix p m c cc nL s args zc_W own) (I : zh_V g A s X S H locs) (ha : zh_at S 3 a) (hl : Cond.fieldLink own idx "DiceForge" "log" "Ljava/util/ArrayList;" ∈ zc_W) (hin2 : meth.name = "<init>") (hdecl : "DiceForge" = own) (hdg : decode cc pc = .ok (.putfield idx, 3)) (kk : ∀ (H : Heap) (locs : List Loc), zh_V g A s X (zh_sR S 2 a (some v)) H locs → W p l e R s m args below meth c H locs cells slots Q (F0 m (pc + 3) ls rest)) : W p l e R s m args below meth c H locs cells slots Q (F0 m pc ls (.ref v :: .ref a :: rest)) := by
  obtain ⟨k, hk⟩ := zh_get (g := g) X ha
  have hk : (X ++ zh_w g S)[k]? = some (a, .inr (4, [va_rf (zh_R S 1 a), va_rf (zh_R S 2 a), va_rf (zh_R S 3 a), va_rf (zh_R S 4 a)])) := hk
  refine va_putF (D := g.2.2.1) (ci := 4) (ty := .object "java/util/ArrayList") (v := .ref v) (C := RX3) (T := TX3) (N := 4) C.1 C.2.1 C.2.2.2.2 zin_Forge tyX3 tyX3_ok nmX3 C.2.2.2.1 I.K I.P I.D I.S k hk rfl 1 (by decide) (C.2.2.2.2 _ hl) (fun _ h => h) rfl hin2 hdecl (by decide +kernel) rfl rfl (Nat.le_of_ble_eq_true rfl) hdg (fun H1 locs1 hP hD hS => kk H1 locs1 (I.to (zh_set I.D ha hk rfl rfl ?_ (fun b hb k => zh_e_sR g S _ hb k)) hP hD hS))
  simp [zh_e, zh_I_sR, zh_R_sR, zh_u, va_rf]

theorem zg_Forge_parts {v : Nat} (C : CallFix p m c cc nL s args zc_W own) (I : zh_V g A s X S H locs) (ha : zh_at S 3 a) (hl : Cond.fieldLink own idx "DiceForge" "parts" "[I" ∈ zc_W) (hv : zh_R S 3 a = some v) (hdg : decode cc pc = .ok (.getfield idx, 3)) (kk : W p l e R s m args below meth c H locs cells slots Q (F0 m (pc + 3) ls (.ref v :: rest))) : W p l e R s m args below meth c H locs cells slots Q (F0 m pc ls (.ref a :: rest)) := by
  obtain ⟨k, hk⟩ := zh_get (g := g) X ha
  have hk : (X ++ zh_w g S)[k]? = some (a, .inr (4, [va_rf (zh_R S 1 a), va_rf (zh_R S 2 a), va_rf (zh_R S 3 a), va_rf (zh_R S 4 a)])) := hk
  refine va_get (D := g.2.2.1) (ci := 4) (v := va_rf (zh_R S 3 a)) (C := RX3) (T := TX3) (N := 4) C.1 C.2.1 C.2.2.2.2 zin_Forge C.2.2.2.1 I.K I.P k hk rfl 2 (by decide) (C.2.2.2.2 _ hl) (fun _ h => h) rfl hdg ?_
  rw [hv]
  exact kk

theorem zf_Forge_parts {v : Nat} (C : CallFix p m c cc nL s args zc_W own) (I : zh_V g A s X S H locs) (ha : zh_at S 3 a) (hl : Cond.fieldLink own idx "DiceForge" "parts" "[I" ∈ zc_W) (hin2 : meth.name = "<init>") (hdecl : "DiceForge" = own) (hdg : decode cc pc = .ok (.putfield idx, 3)) (kk : ∀ (H : Heap) (locs : List Loc), zh_V g A s X (zh_sR S 3 a (some v)) H locs → W p l e R s m args below meth c H locs cells slots Q (F0 m (pc + 3) ls rest)) : W p l e R s m args below meth c H locs cells slots Q (F0 m pc ls (.ref v :: .ref a :: rest)) := by
  obtain ⟨k, hk⟩ := zh_get (g := g) X ha
  have hk : (X ++ zh_w g S)[k]? = some (a, .inr (4, [va_rf (zh_R S 1 a), va_rf (zh_R S 2 a), va_rf (zh_R S 3 a), va_rf (zh_R S 4 a)])) := hk
  refine va_putF (D := g.2.2.1) (ci := 4) (ty := .array .int) (v := .ref v) (C := RX3) (T := TX3) (N := 4) C.1 C.2.1 C.2.2.2.2 zin_Forge tyX3 tyX3_ok nmX3 C.2.2.2.1 I.K I.P I.D I.S k hk rfl 2 (by decide) (C.2.2.2.2 _ hl) (fun _ h => h) rfl hin2 hdecl (by decide +kernel) rfl rfl (Nat.le_of_ble_eq_true rfl) hdg (fun H1 locs1 hP hD hS => kk H1 locs1 (I.to (zh_set I.D ha hk rfl rfl ?_ (fun b hb k => zh_e_sR g S _ hb k)) hP hD hS))
  simp [zh_e, zh_I_sR, zh_R_sR, zh_u, va_rf]

theorem zg_Forge_tally {v : Nat} (C : CallFix p m c cc nL s args zc_W own) (I : zh_V g A s X S H locs) (ha : zh_at S 3 a) (hl : Cond.fieldLink own idx "DiceForge" "tally" "[I" ∈ zc_W) (hv : zh_R S 4 a = some v) (hdg : decode cc pc = .ok (.getfield idx, 3)) (kk : W p l e R s m args below meth c H locs cells slots Q (F0 m (pc + 3) ls (.ref v :: rest))) : W p l e R s m args below meth c H locs cells slots Q (F0 m pc ls (.ref a :: rest)) := by
  obtain ⟨k, hk⟩ := zh_get (g := g) X ha
  have hk : (X ++ zh_w g S)[k]? = some (a, .inr (4, [va_rf (zh_R S 1 a), va_rf (zh_R S 2 a), va_rf (zh_R S 3 a), va_rf (zh_R S 4 a)])) := hk
  refine va_get (D := g.2.2.1) (ci := 4) (v := va_rf (zh_R S 4 a)) (C := RX3) (T := TX3) (N := 4) C.1 C.2.1 C.2.2.2.2 zin_Forge C.2.2.2.1 I.K I.P k hk rfl 3 (by decide) (C.2.2.2.2 _ hl) (fun _ h => h) rfl hdg ?_
  rw [hv]
  exact kk

theorem zf_Forge_tally {v : Nat} (C : CallFix p m c cc nL s args zc_W own) (I : zh_V g A s X S H locs) (ha : zh_at S 3 a) (hl : Cond.fieldLink own idx "DiceForge" "tally" "[I" ∈ zc_W) (hin2 : meth.name = "<init>") (hdecl : "DiceForge" = own) (hdg : decode cc pc = .ok (.putfield idx, 3)) (kk : ∀ (H : Heap) (locs : List Loc), zh_V g A s X (zh_sR S 4 a (some v)) H locs → W p l e R s m args below meth c H locs cells slots Q (F0 m (pc + 3) ls rest)) : W p l e R s m args below meth c H locs cells slots Q (F0 m pc ls (.ref v :: .ref a :: rest)) := by
  obtain ⟨k, hk⟩ := zh_get (g := g) X ha
  have hk : (X ++ zh_w g S)[k]? = some (a, .inr (4, [va_rf (zh_R S 1 a), va_rf (zh_R S 2 a), va_rf (zh_R S 3 a), va_rf (zh_R S 4 a)])) := hk
  refine va_putF (D := g.2.2.1) (ci := 4) (ty := .array .int) (v := .ref v) (C := RX3) (T := TX3) (N := 4) C.1 C.2.1 C.2.2.2.2 zin_Forge tyX3 tyX3_ok nmX3 C.2.2.2.1 I.K I.P I.D I.S k hk rfl 3 (by decide) (C.2.2.2.2 _ hl) (fun _ h => h) rfl hin2 hdecl (by decide +kernel) rfl rfl (Nat.le_of_ble_eq_true rfl) hdg (fun H1 locs1 hP hD hS => kk H1 locs1 (I.to (zh_set I.D ha hk rfl rfl ?_ (fun b hb k => zh_e_sR g S _ hb k)) hP hD hS))
  simp [zh_e, zh_I_sR, zh_R_sR, zh_u, va_rf]

theorem zw_Forge (C : CallFix p m c cc nL s args zc_W own) (I : zh_V g A s X S H locs) (hcl : Cond.classLink own idx RX3 ∈ zc_W) (hinst : Cond.instantiable RX3 4 ∈ zc_W) (hini : Cond.initialized RX3 ∈ zc_W) (hc1 : cells + 1 ≤ R.cells) (hs1 : slots + 4 ≤ R.slots) (hdg : decode cc pc = .ok (.new idx, 3)) (kk : ∀ (q : Nat) (H : Heap), q ∉ zh_L S → zh_V g A s X (zh_nO S q 3) H locs → W p l e R s m args below meth c H locs (cells + 1) (slots + 4) Q (F0 m (pc + 3) ls (.ref q :: rest))) : W p l e R s m args below meth c H locs cells slots Q (F0 m pc ls rest) := by
  refine va_new (ci := 4) (fs := [.null, .null, .null, .null]) (C := RX3) (T := TX3) (N := 4) C.1 C.2.1 C.2.2.2.2 zin_Forge tyX3 tyX3_ok C.2.2.2.1 (C.2.2.2.2 _ hcl) (C.2.2.2.2 _ hinst) (C.2.2.2.2 _ hini) I.K I.P I.D I.S I.A rfl (fun j hj => by rcases (show j = 0 ∨ j = 1 ∨ j = 2 ∨ j = 3 by omega) with rfl | rfl | rfl | rfl <;> rfl) hc1 hs1 hdg (fun q H1 hP hD hS => ?_)
  have hq : q ∉ zh_L S := zf_fresh hD
  exact kk q H1 hq (I.to (zh_push hq rfl rfl (by simp [zh_e, zh_nO, zh_I, zh_R, va_rf]) (fun b hb k => zh_e_nO g S _ hb k)) hP hD hS)

theorem zg_List_modCount {v : Int32} (C : CallFix p m c cc nL s args zc_W own) (I : zh_V g A s X S H locs) (ha : zh_at S 5 a) (hsf : Cond.sameField "java/util/ArrayList" "java/util/AbstractList" "modCount" "I" ∈ zc_W) (hl : Cond.fieldLink own idx "java/util/ArrayList" "modCount" "I" ∈ zc_W) (hv : zh_I S 30 a = v) (hdg : decode cc pc = .ok (.getfield idx, 3)) (kk : W p l e R s m args below meth c H locs cells slots Q (F0 m (pc + 3) ls (.int v :: rest))) : W p l e R s m args below meth c H locs cells slots Q (F0 m pc ls (.ref a :: rest)) := by
  obtain ⟨k, hk⟩ := zh_get (g := g) X ha
  have hk : (X ++ zh_w g S)[k]? = some (a, .inr (0, [.int (zh_I S 30 a), va_rf (zh_R S 30 a), .int (zh_I S 31 a)])) := hk
  refine va_get (D := g.2.2.1) (ci := 0) (v := .int (zh_I S 30 a)) (C := RJx4a65c) (T := TJx4a65c) (N := 3) C.1 C.2.1 C.2.2.2.2 zin_List C.2.2.2.1 I.K I.P k hk rfl 0 (by decide) (C.2.2.2.2 _ hl) (fun x hx => u_same (C.2.2.2.2 _ hsf) x hx) rfl hdg ?_
  rw [hv]
  exact kk

theorem zp_List_modCount {v : Int32} (C : CallFix p m c cc nL s args zc_W own) (I : zh_V g A s X S H locs) (ha : zh_at S 5 a) (hsf : Cond.sameField "java/util/ArrayList" "java/util/AbstractList" "modCount" "I" ∈ zc_W) (hl : Cond.fieldLink own idx "java/util/ArrayList" "modCount" "I" ∈ zc_W) (hdg : decode cc pc = .ok (.putfield idx, 3)) (kk : ∀ (H : Heap) (locs : List Loc), zh_V g A s X (zh_sI S 30 a v) H locs → W p l e R s m args below meth c H locs cells slots Q (F0 m (pc + 3) ls rest)) : W p l e R s m args below meth c H locs cells slots Q (F0 m pc ls (.int v :: .ref a :: rest)) := by
  obtain ⟨k, hk⟩ := zh_get (g := g) X ha
  have hk : (X ++ zh_w g S)[k]? = some (a, .inr (0, [.int (zh_I S 30 a), va_rf (zh_R S 30 a), .int (zh_I S 31 a)])) := hk
  refine va_put (D := g.2.2.1) (ci := 0) (ty := .int) (v := .int v) (C := RJx4a65c) (T := TJx4a65c) (N := 3) C.1 C.2.1 C.2.2.2.2 zin_List tyJx4a65c tyJx4a65c_ok nmJx4a65c C.2.2.2.1 I.K I.P I.D I.S k hk rfl 0 (by decide) (C.2.2.2.2 _ hl) (fun x hx => u_same (C.2.2.2.2 _ hsf) x hx) rfl (by decide +kernel) rfl rfl (Nat.le_of_ble_eq_true rfl) hdg (fun H1 locs1 hP hD hS => kk H1 locs1 (I.to (zh_set I.D ha hk rfl rfl ?_ (fun b hb k => zh_e_sI g S _ hb k)) hP hD hS))
  simp [zh_e, zh_I_sI, zh_R_sI, zh_u]

theorem zg_List_elementData {v : Nat} (C : CallFix p m c cc nL s args zc_W own) (I : zh_V g A s X S H locs) (ha : zh_at S 5 a) (hl : Cond.fieldLink own idx "java/util/ArrayList" "elementData" "[Ljava/lang/Object;" ∈ zc_W) (hv : zh_R S 30 a = some v) (hdg : decode cc pc = .ok (.getfield idx, 3)) (kk : W p l e R s m args below meth c H locs cells slots Q (F0 m (pc + 3) ls (.ref v :: rest))) : W p l e R s m args below meth c H locs cells slots Q (F0 m pc ls (.ref a :: rest)) := by
  obtain ⟨k, hk⟩ := zh_get (g := g) X ha
  have hk : (X ++ zh_w g S)[k]? = some (a, .inr (0, [.int (zh_I S 30 a), va_rf (zh_R S 30 a), .int (zh_I S 31 a)])) := hk
  refine va_get (D := g.2.2.1) (ci := 0) (v := va_rf (zh_R S 30 a)) (C := RJx4a65c) (T := TJx4a65c) (N := 3) C.1 C.2.1 C.2.2.2.2 zin_List C.2.2.2.1 I.K I.P k hk rfl 1 (by decide) (C.2.2.2.2 _ hl) (fun _ h => h) rfl hdg ?_
  rw [hv]
  exact kk

theorem zp_List_elementData {v : Nat} (C : CallFix p m c cc nL s args zc_W own) (I : zh_V g A s X S H locs) (ha : zh_at S 5 a) (hl : Cond.fieldLink own idx "java/util/ArrayList" "elementData" "[Ljava/lang/Object;" ∈ zc_W) (hdg : decode cc pc = .ok (.putfield idx, 3)) (kk : ∀ (H : Heap) (locs : List Loc), zh_V g A s X (zh_sR S 30 a (some v)) H locs → W p l e R s m args below meth c H locs cells slots Q (F0 m (pc + 3) ls rest)) : W p l e R s m args below meth c H locs cells slots Q (F0 m pc ls (.ref v :: .ref a :: rest)) := by
  obtain ⟨k, hk⟩ := zh_get (g := g) X ha
  have hk : (X ++ zh_w g S)[k]? = some (a, .inr (0, [.int (zh_I S 30 a), va_rf (zh_R S 30 a), .int (zh_I S 31 a)])) := hk
  refine va_put (D := g.2.2.1) (ci := 0) (ty := .array (.object "java/lang/Object")) (v := .ref v) (C := RJx4a65c) (T := TJx4a65c) (N := 3) C.1 C.2.1 C.2.2.2.2 zin_List tyJx4a65c tyJx4a65c_ok nmJx4a65c C.2.2.2.1 I.K I.P I.D I.S k hk rfl 1 (by decide) (C.2.2.2.2 _ hl) (fun _ h => h) rfl (by decide +kernel) rfl rfl (Nat.le_of_ble_eq_true rfl) hdg (fun H1 locs1 hP hD hS => kk H1 locs1 (I.to (zh_set I.D ha hk rfl rfl ?_ (fun b hb k => zh_e_sR g S _ hb k)) hP hD hS))
  simp [zh_e, zh_I_sR, zh_R_sR, zh_u, va_rf]

theorem zg_List_size {v : Int32} (C : CallFix p m c cc nL s args zc_W own) (I : zh_V g A s X S H locs) (ha : zh_at S 5 a) (hl : Cond.fieldLink own idx "java/util/ArrayList" "size" "I" ∈ zc_W) (hv : zh_I S 31 a = v) (hdg : decode cc pc = .ok (.getfield idx, 3)) (kk : W p l e R s m args below meth c H locs cells slots Q (F0 m (pc + 3) ls (.int v :: rest))) : W p l e R s m args below meth c H locs cells slots Q (F0 m pc ls (.ref a :: rest)) := by
  obtain ⟨k, hk⟩ := zh_get (g := g) X ha
  have hk : (X ++ zh_w g S)[k]? = some (a, .inr (0, [.int (zh_I S 30 a), va_rf (zh_R S 30 a), .int (zh_I S 31 a)])) := hk
  refine va_get (D := g.2.2.1) (ci := 0) (v := .int (zh_I S 31 a)) (C := RJx4a65c) (T := TJx4a65c) (N := 3) C.1 C.2.1 C.2.2.2.2 zin_List C.2.2.2.1 I.K I.P k hk rfl 2 (by decide) (C.2.2.2.2 _ hl) (fun _ h => h) rfl hdg ?_
  rw [hv]
  exact kk

theorem zp_List_size {v : Int32} (C : CallFix p m c cc nL s args zc_W own) (I : zh_V g A s X S H locs) (ha : zh_at S 5 a) (hl : Cond.fieldLink own idx "java/util/ArrayList" "size" "I" ∈ zc_W) (hdg : decode cc pc = .ok (.putfield idx, 3)) (kk : ∀ (H : Heap) (locs : List Loc), zh_V g A s X (zh_sI S 31 a v) H locs → W p l e R s m args below meth c H locs cells slots Q (F0 m (pc + 3) ls rest)) : W p l e R s m args below meth c H locs cells slots Q (F0 m pc ls (.int v :: .ref a :: rest)) := by
  obtain ⟨k, hk⟩ := zh_get (g := g) X ha
  have hk : (X ++ zh_w g S)[k]? = some (a, .inr (0, [.int (zh_I S 30 a), va_rf (zh_R S 30 a), .int (zh_I S 31 a)])) := hk
  refine va_put (D := g.2.2.1) (ci := 0) (ty := .int) (v := .int v) (C := RJx4a65c) (T := TJx4a65c) (N := 3) C.1 C.2.1 C.2.2.2.2 zin_List tyJx4a65c tyJx4a65c_ok nmJx4a65c C.2.2.2.1 I.K I.P I.D I.S k hk rfl 2 (by decide) (C.2.2.2.2 _ hl) (fun _ h => h) rfl (by decide +kernel) rfl rfl (Nat.le_of_ble_eq_true rfl) hdg (fun H1 locs1 hP hD hS => kk H1 locs1 (I.to (zh_set I.D ha hk rfl rfl ?_ (fun b hb k => zh_e_sI g S _ hb k)) hP hD hS))
  simp [zh_e, zh_I_sI, zh_R_sI, zh_u]

theorem zp_List_modCountA {v : Int32} (C : CallFix p m c cc nL s args zc_W own) (I : zh_V g A s X S H locs) (ha : zh_at S 5 a) (hl : Cond.fieldLink own idx "java/util/AbstractList" "modCount" "I" ∈ zc_W) (hdg : decode cc pc = .ok (.putfield idx, 3)) (kk : ∀ (H : Heap) (locs : List Loc), zh_V g A s X (zh_sI S 30 a v) H locs → W p l e R s m args below meth c H locs cells slots Q (F0 m (pc + 3) ls rest)) : W p l e R s m args below meth c H locs cells slots Q (F0 m pc ls (.int v :: .ref a :: rest)) := by
  obtain ⟨k, hk⟩ := zh_get (g := g) X ha
  have hk : (X ++ zh_w g S)[k]? = some (a, .inr (0, [.int (zh_I S 30 a), va_rf (zh_R S 30 a), .int (zh_I S 31 a)])) := hk
  refine va_put (D := g.2.2.1) (ci := 0) (ty := .int) (v := .int v) (C := RJx4a65c) (T := TJx4a65c) (N := 3) C.1 C.2.1 C.2.2.2.2 zin_List tyJx4a65c tyJx4a65c_ok nmJx4a65c C.2.2.2.1 I.K I.P I.D I.S k hk rfl 0 (by decide) (C.2.2.2.2 _ hl) (fun _ h => h) rfl (by decide +kernel) rfl rfl (Nat.le_of_ble_eq_true rfl) hdg (fun H1 locs1 hP hD hS => kk H1 locs1 (I.to (zh_set I.D ha hk rfl rfl ?_ (fun b hb k => zh_e_sI g S _ hb k)) hP hD hS))
  simp [zh_e, zh_I_sI, zh_R_sI, zh_u]

theorem zw_List (C : CallFix p m c cc nL s args zc_W own) (I : zh_V g A s X S H locs) (hcl : Cond.classLink own idx RJx4a65c ∈ zc_W) (hinst : Cond.instantiable RJx4a65c 3 ∈ zc_W) (hini : Cond.initialized RJx4a65c ∈ zc_W) (hc1 : cells + 1 ≤ R.cells) (hs1 : slots + 3 ≤ R.slots) (hdg : decode cc pc = .ok (.new idx, 3)) (kk : ∀ (q : Nat) (H : Heap), q ∉ zh_L S → zh_V g A s X (zh_nO S q 5) H locs → W p l e R s m args below meth c H locs (cells + 1) (slots + 3) Q (F0 m (pc + 3) ls (.ref q :: rest))) : W p l e R s m args below meth c H locs cells slots Q (F0 m pc ls rest) := by
  refine va_new (ci := 0) (fs := [.int 0, .null, .int 0]) (C := RJx4a65c) (T := TJx4a65c) (N := 3) C.1 C.2.1 C.2.2.2.2 zin_List tyJx4a65c tyJx4a65c_ok C.2.2.2.1 (C.2.2.2.2 _ hcl) (C.2.2.2.2 _ hinst) (C.2.2.2.2 _ hini) I.K I.P I.D I.S I.A rfl (fun j hj => by rcases (show j = 0 ∨ j = 1 ∨ j = 2 by omega) with rfl | rfl | rfl <;> rfl) hc1 hs1 hdg (fun q H1 hP hD hS => ?_)
  have hq : q ∉ zh_L S := zf_fresh hD
  exact kk q H1 hq (I.to (zh_push hq rfl rfl (by simp [zh_e, zh_nO, zh_I, zh_R, va_rf]) (fun b hb k => zh_e_nO g S _ hb k)) hP hD hS)

end ZF
end
section
/-! MY OWN LAYER, 4: constructors of Object, new arrays, casts, a value by another name. -/
section ZO
variable {p : Program} {l : Launch} {e : Env} {R : Room} {s : State} {m : MethodId} {args : Array Value} {below : List Frame} {meth : Method} {c : Code} {H : Heap} {locs : List Loc} {cells slots : Nat} {Q : State → Prop}
variable {g : zG} {A : Nat → Prop} {X : va_W} {S : zS} {cc : ByteArray} {nL : Nat} {own : String} {pc idx a : Nat} {ls : Array Slot} {rest : List Value}
theorem zr_top {x y : Int32} (h : x = y) (k : W p l e R s m args below meth c H locs cells slots Q (F0 m pc ls (.int y :: rest))) : W p l e R s m args below meth c H locs cells slots Q (F0 m pc ls (.int x :: rest)) := h ▸ k
theorem zr_topl {x y : Int64} (h : x = y) (k : W p l e R s m args below meth c H locs cells slots Q (F0 m pc ls (.long y :: rest))) : W p l e R s m args below meth c H locs cells slots Q (F0 m pc ls (.long x :: rest)) := h ▸ k
theorem zr_obj (C : CallFix p m c cc nL s args zc_W own) (h1 : Cond.methodLink own idx Lib.objectInit ∈ zc_W) (h2 : Cond.instanceMethod Lib.objectInit ∈ zc_W) (h3 : Cond.code Lib.objectInit ⟨#[0xb1]⟩ 1 none ∈ zc_W) (hl : ls.size = nL) (hd : decode cc pc = .ok (.invokespecial idx, 3)) (hf : 1 ≤ R.frames) (h8 : (rest.map fun v => v.category).sum ≤ 8) (hlo : 20 ≤ R.locals)
    (kk : W p l e R s m args below meth c H locs cells slots Q (F0 m (pc + 3) ls rest)) : W p l e R s m args below meth c H locs cells slots Q (F0 m pc ls (.ref a :: rest)) := by
  refine W.objInit C.1 C.2.1 C.2.2.2.1 (C.2.2.2.2 _ h1) (C.2.2.2.2 _ h2) (C.2.2.2.2 _ h3) rfl (by rw [C.2.2.1]; exact hl) rfl hd hf ?_ kk
  have := lv_room (m := m) (pc := pc) (ls := ls) (rest := .ref a :: rest) h8
  omega
theorem zr_cls {ty : FieldType} {cA : ClassId} {k : Nat} {tys : List (ClassId × FieldType)} (hK : va_K g.2.2.1 vwCl (zh_T g ++ [(cA, ty)]) s) (h0 : (zh_T g)[k]? = some (g.2.2.2 k, ty)) (hk : k < 4) : cA = g.2.2.2 k := by
  have h1 := (hK.2 4 (cA, ty) rfl).2
  have h2 := (hK.2 k (g.2.2.2 k, ty) (by rw [List.getElem?_append_left (by show k < 4; exact hk)]; exact h0)).2
  cases ty with
  | object C =>
    obtain ⟨_, _, _, _, _, e1⟩ := h1
    obtain ⟨_, _, _, _, _, e2⟩ := h2
    exact Option.some.inj (e1.symm.trans e2)
  | _ => exact Option.some.inj (h1.symm.trans h2)
theorem zr_newI {n : Int32} {N : Nat} (C : CallFix p m c cc nL s args zc_W own) (I : zh_V g A s X S H locs) (harr : Cond.arrayClass .int ∈ zc_W) (hn : n = nI N) (hN : N < 1000000) (hc : cells + 1 ≤ R.cells) (hs : slots + N ≤ R.slots) (hdg : decode cc pc = .ok (.newarray .int, 2)) (kk : ∀ (q : Nat) (H : Heap), q ∉ zh_L S → zh_V g A s X (zh_nA S q 6 N) H locs → W p l e R s m args below meth c H locs (cells + 1) (slots + N) Q (F0 m (pc + 2) ls (.ref q :: rest))) : W p l e R s m args below meth c H locs cells slots Q (F0 m pc ls (.int n :: rest)) := by
  subst hn
  refine va_newa (atype := .int) (ty := .int) (a0 := (N, .inl (fun _ => 0))) C.1 C.2.1 (C.2.2.2.2 _ harr) rfl I.K I.P I.D I.S I.A (fun cA => rfl) (nI_pos (by omega)) (nI_clamp (by omega)) (by show N * 4 ≤ 536870912; omega) hc hs hdg (fun q cA H1 hK hP hD hS => ?_)
  have hq : q ∉ zh_L S := zf_fresh hD
  have hcA : cA = g.2.2.2 0 := zr_cls (tys := []) hK rfl (by decide)
  subst hcA
  exact kk q H1 hq (I.to (zh_push (kq := 6) hq rfl rfl (by show Sum.inl (g.2.2.2 0, va_up (zh_N S) q N q, Sum.inl (va_up (zh_A S) q (fun _ => 0) q)) = _; rw [va_up_self, va_up_self]) (fun b hb k => zh_e_nA g S _ _ hb k)) hP hD hS)
theorem zr_newQ {n : Int32} {N : Nat} (C : CallFix p m c cc nL s args zc_W own) (I : zh_V g A s X S H locs) (hcl : Cond.classLink own idx "java/lang/Object" ∈ zc_W) (hn : n = nI N) (hN : N < 1000000) (hc : cells + 1 ≤ R.cells) (hs : slots + N ≤ R.slots) (hdg : decode cc pc = .ok (.anewarray idx, 3)) (kk : ∀ (q : Nat) (H : Heap), q ∉ zh_L S → zh_V g A s X (zh_nA S q 8 N) H locs → W p l e R s m args below meth c H locs (cells + 1) (slots + N) Q (F0 m (pc + 3) ls (.ref q :: rest))) : W p l e R s m args below meth c H locs cells slots Q (F0 m pc ls (.int n :: rest)) := by
  subst hn
  refine va_newq C.1 C.2.1 C.2.2.2.1 (C.2.2.2.2 _ hcl) I.O.2.1 I.K I.P I.D I.S I.A (nI_pos (by omega)) (nI_clamp (n := N) (by omega)) (by omega) hc hs hdg (fun q cA H1 hK hP hD hS => ?_)
  have hq : q ∉ zh_L S := zf_fresh hD
  have hcA : cA = g.2.2.2 2 := zr_cls (tys := []) hK rfl (by decide)
  subst hcA
  exact kk q H1 hq (I.to (zh_push (kq := 8) hq rfl rfl (by show Sum.inl (g.2.2.2 2, va_up (zh_N S) q N q, Sum.inr (Sum.inr (Sum.inr (Sum.inr (va_up (zh_Q S) q (fun _ => none) q))))) = _; rw [va_up_self, va_up_self]) (fun b hb k => zh_e_nA g S _ _ hb k)) hP hD hS)
/-- checkcast to the object's own class -/
theorem zr_cast {kd ci : Nat} {q : vw_C} {fs : List Value} (C : CallFix p m c cc nL s args zc_W own) (I : zh_V g A s X S H locs) (ha : zh_at S kd a) (he : zh_e g S a kd = .inr (ci, fs)) (hc : vwCl[ci]? = some q) (hl : Cond.classLink own idx q.1 ∈ zc_W) (hdg : decode cc pc = .ok (.checkcast idx, 3)) (kk : W p l e R s m args below meth c H locs cells slots Q (F0 m (pc + 3) ls (.ref a :: rest))) : W p l e R s m args below meth c H locs cells slots Q (F0 m pc ls (.ref a :: rest)) := by
  obtain ⟨k, hk⟩ := zh_get (g := g) X ha
  rw [he] at hk
  exact va_castS C.1 C.2.1 C.2.2.2.1 (C.2.2.2.2 _ hl) ((I.K.1 ci q hc).2) (va_recv I.K I.P hc hk) hdg kk
/-- aastore of an object into an Object[] -/
theorem zr_qast {kd ci v n : Nat} {q : vw_C} {fs : List Value} {i : Int32} (C : CallFix p m c cc nL s args zc_W own) (I : zh_V g A s X S H locs) (ha : zh_at S 8 a) (hv : zh_at S kd v) (he : zh_e g S v kd = .inr (ci, fs)) (hc : vwCl[ci]? = some q) (hca : Cond.castable q.1 "java/lang/Object" ∈ zn_ws) (hin : vp_in i (zh_N S a)) (hi : i.toNatClampNeg = n) (hdg : decode cc pc = .ok (.aastore, 1)) (kk : ∀ (H : Heap) (locs : List Loc), zh_V g A s X (zh_sQ S a (va_up (zh_Q S a) n (some v))) H locs → W p l e R s m args below meth c H locs cells slots Q (F0 m (pc + 1) ls rest)) : W p l e R s m args below meth c H locs cells slots Q (F0 m pc ls (.ref v :: .int i :: .ref a :: rest)) := by
  obtain ⟨k, hk⟩ := zh_get (g := g) X ha
  obtain ⟨k2, hk2⟩ := zh_get (g := g) X hv
  rw [he] at hk2
  subst hi
  refine va_astqO (E := "java/lang/Object") C.1 C.2.1 I.K I.P I.D I.S k 2 k2 ci hk rfl (I.O.1 _ hca) hk2 hc hin hdg fun H1 locs1 hP hD hS => kk H1 locs1 (I.to (zh_set I.D ha hk rfl rfl ?_ (fun b hb k => zh_e_sQ g S _ hb k)) hP hD hS)
  show Sum.inl (g.2.2.2 2, zh_N S a, Sum.inr (Sum.inr (Sum.inr (Sum.inr (va_up (zh_Q S) a _ a))))) = _
  rw [va_up_self]
theorem zn_I {S : zS} {q k a : Nat} (ha : a ∈ zh_L S) (hq : q ∉ zh_L S) (j : Nat) : zh_I (zh_nO S q k) j a = zh_I S j a := if_neg (fun e : a = q => hq (e ▸ ha))
theorem zn_R {S : zS} {q k a : Nat} (ha : a ∈ zh_L S) (hq : q ∉ zh_L S) (j : Nat) : zh_R (zh_nO S q k) j a = zh_R S j a := if_neg (fun e : a = q => hq (e ▸ ha))
/-- arraylength of the empty list's shared array -/
theorem zr_lenz (C : CallFix p m c cc nL s args zc_W own) (I : zh_V g A s X S H locs) (hdg : decode cc pc = .ok (.arraylength, 1)) (kk : W p l e R s m args below meth c H locs cells slots Q (F0 m (pc + 1) ls (.int (nI 0) :: rest))) : W p l e R s m args below meth c H locs cells slots Q (F0 m pc ls (.ref g.2.1 :: rest)) := by
  obtain ⟨ce, k1, k2, k3⟩ := I.O.2.2.2.2.2.2.2.2.1
  exact W.alen (n := nI 0) C.1 C.2.1 (by rw [I.out _ I.O.2.2.2.2.2.2.2.2.2]; exact k1) k2 (by rw [k3]; rfl) rfl rfl hdg kk
/-- getstatic of ArrayList's empty array -/
theorem zr_gets (C : CallFix p m c cc nL s args zc_W own) (I : zh_V g A s X S H locs) (hl : Cond.fieldLink own idx "java/util/ArrayList" "DEFAULTCAPACITY_EMPTY_ELEMENTDATA" "[Ljava/lang/Object;" ∈ zc_W) (hdg : decode cc pc = .ok (.getstatic idx, 3)) (kk : W p l e R s m args below meth c H locs cells slots Q (F0 m (pc + 3) ls (.ref g.2.1 :: rest))) : W p l e R s m args below meth c H locs cells slots Q (F0 m pc ls rest) :=
  va_gets C.1 C.2.1 (I.O.2.2.2.2.2.2.2.1.narrow I.lo) I.S C.2.2.2.1 (C.2.2.2.2 _ hl) (fun _ h => h) hdg kk
/-- getClass of an Object[] -/
theorem zr_getC (C : CallFix p m c cc nL s args zc_W own) (I : zh_V g A s X S H locs) (ha : zh_at S 8 a) (h1 : Cond.methodLink own idx ⟨"java/lang/Object", "getClass", "()Ljava/lang/Class;"⟩ ∈ zc_W) (h2 : Cond.selects "[Ljava/lang/Object;" ⟨"java/lang/Object", "getClass", "()Ljava/lang/Class;"⟩ ⟨"java/lang/Object", "getClass", "()Ljava/lang/Class;"⟩ ∈ zc_W) (h3 : Cond.instanceMethod ⟨"java/lang/Object", "getClass", "()Ljava/lang/Class;"⟩ ∈ zc_W) (h4 : Cond.native ⟨"java/lang/Object", "getClass", "()Ljava/lang/Class;"⟩ ∈ zc_W) (hl : ls.size = nL) (hf : 1 ≤ R.frames) (hlo : (rest.map fun v => v.category).sum + 14 ≤ R.locals) (hdg : decode cc pc = .ok (.invokevirtual idx, 3)) (kk : W p l e R s m args below meth c H locs cells slots Q (F0 m (pc + 3) ls (.ref (g.2.2.1.2 99 0) :: rest))) : W p l e R s m args below meth c H locs cells slots Q (F0 m pc ls (.ref a :: rest)) := by
  obtain ⟨k, hk⟩ := zh_get (g := g) X ha
  have hcell : H[a]? = some (vp_cell (g.2.2.2 2) (zh_N S a, .inr (.inr (.inr (.inr (zh_Q S a)))))) := I.P k _ hk
  have hra := (I.K.2 2 (g.2.2.2 2, .object "java/lang/Object") rfl).2
  exact va_getC C.1 C.2.1 (C.2.2.1.trans hl.symm) C.2.2.2.1 (C.2.2.2.2 _ h1) (va_Nw.use rfl (I.O.1 (.declares ⟨"java/lang/Object", "getClass", "()Ljava/lang/Class;"⟩) (by decide +kernel))) (C.2.2.2.2 _ h2) (C.2.2.2.2 _ h3) (C.2.2.2.2 _ h4) I.O.2.2.2.2.1 ⟨_, hcell, rfl, va_nmO hra rfl⟩ hf hlo hdg kk
theorem zr_ldcC (C : CallFix p m c cc nL s args zc_W own) (I : zh_V g A s X S H locs) (hl : Cond.classLink own idx "[Ljava/lang/Object;" ∈ zc_W) (hdg : decode cc pc = .ok (.ldc idx, 2)) (kk : W p l e R s m args below meth c H locs cells slots Q (F0 m (pc + 2) ls (.ref (g.2.2.1.2 99 0) :: rest))) : W p l e R s m args below meth c H locs cells slots Q (F0 m pc ls rest) :=
  va_ldcM C.1 C.2.1 C.2.2.2.1 (C.2.2.2.2 _ hl) I.O.2.2.2.2.1 hdg kk
theorem zr_max {x y : Int32} (C : CallFix p m c cc nL s args zc_W own) (h1 : Cond.methodLink own idx Lib.Math.max.name ∈ zc_W) (h2 : Cond.static Lib.Math.max.name ∈ zc_W) (h3 : Cond.initialized "java/lang/Math" ∈ zc_W) (h4 : Cond.code Lib.Math.max.name Lib.Math.max.code 2 (some .int) ∈ zc_W) (hl : ls.size = nL) (hf : 1 ≤ R.frames) (hlo : (rest.map fun v => v.category).sum + 13 ≤ R.locals) (hc : cells ≤ R.cells) (hs : slots ≤ R.slots) (hdg : decode cc pc = .ok (.invokestatic idx, 3)) (kk : W p l e R s m args below meth c H locs cells slots Q (F0 m (pc + 3) ls (.int (if x < y then y else x) :: rest))) : W p l e R s m args below meth c H locs cells slots Q (F0 m pc ls (.int y :: .int x :: rest)) :=
  va_mmax C.1 C.2.1 (C.2.2.1.trans hl.symm) C.2.2.2.1 (C.2.2.2.2 _ h1) (C.2.2.2.2 _ h2) (C.2.2.2.2 _ h3) (C.2.2.2.2 _ h4) hf hlo hc hs hdg kk
theorem zr_min {x y : Int32} (C : CallFix p m c cc nL s args zc_W own) (h1 : Cond.methodLink own idx Lib.Math.min.name ∈ zc_W) (h2 : Cond.static Lib.Math.min.name ∈ zc_W) (h3 : Cond.initialized "java/lang/Math" ∈ zc_W) (h4 : Cond.code Lib.Math.min.name Lib.Math.min.code 2 (some .int) ∈ zc_W) (hl : ls.size = nL) (hf : 1 ≤ R.frames) (hlo : (rest.map fun v => v.category).sum + 13 ≤ R.locals) (hc : cells ≤ R.cells) (hs : slots ≤ R.slots) (hdg : decode cc pc = .ok (.invokestatic idx, 3)) (kk : W p l e R s m args below meth c H locs cells slots Q (F0 m (pc + 3) ls (.int (if y < x then y else x) :: rest))) : W p l e R s m args below meth c H locs cells slots Q (F0 m pc ls (.int y :: .int x :: rest)) :=
  va_mmin C.1 C.2.1 (C.2.2.1.trans hl.symm) C.2.2.2.1 (C.2.2.2.2 _ h1) (C.2.2.2.2 _ h2) (C.2.2.2.2 _ h3) (C.2.2.2.2 _ h4) hf hlo hc hs hdg kk
/-- System.arraycopy from the start of one Object[] to the start of another -/
theorem zr_copy {b n : Nat} (C : CallFix p m c cc nL s args zc_W own) (I : zh_V g A s X S H locs) (ha : zh_at S 8 a) (hb : zh_at S 8 b) (hn : n < 1000000) (h4 : n ≤ zh_N S a) (h5 : n ≤ zh_N S b) (hel : ∀ i : Nat, i < n → ∀ y : Nat, zh_Q S a i = some y → zh_at S 1 y ∨ zh_at S 2 y) (k1 : Cond.methodLink own idx arraycopyName ∈ zc_W) (k2 : Cond.native arraycopyName ∈ zc_W) (k3 : Cond.static arraycopyName ∈ zc_W) (k4 : Cond.initialized "java/lang/System" ∈ zc_W) (hl : ls.size = nL) (hf : 1 ≤ R.frames) (hlo : (rest.map fun v => v.category).sum + (nativeFrameWords "java/lang/System" "arraycopy" 5 + 11) ≤ R.locals) (hdg : decode cc pc = .ok (.invokestatic idx, 3))
    (kk : ∀ (H : Heap) (locs : List Loc), zh_V g A s X (zh_sQ S b (va_cpy (zh_Q S a) (zh_Q S b) 0 0 n)) H locs → W p l e R s m args below meth c H locs cells slots Q (F0 m (pc + 3) ls rest)) : W p l e R s m args below meth c H locs cells slots Q (F0 m pc ls (.int (nI n) :: .int 0 :: .ref b :: .int 0 :: .ref a :: rest)) := by
  obtain ⟨k, hk⟩ := zh_get (g := g) X ha
  obtain ⟨k2', hk2⟩ := zh_get (g := g) X hb
  have e0 : (0 : Int32).toNatClampNeg = 0 := by decide
  have en : (nI n).toNatClampNeg = n := nI_clamp (by omega)
  refine va_copyM C.1 C.2.1 (C.2.2.1.trans hl.symm) C.2.2.2.1 (C.2.2.2.2 _ k1) (C.2.2.2.2 _ k2) (C.2.2.2.2 _ k3) (C.2.2.2.2 _ k4) I.K I.P I.D I.S k k2' 2 2 (E0 := "java/lang/Object") (E1 := "java/lang/Object") hk hk2 rfl rfl (sp := 0) (dp := 0) (n := nI n) (by decide) (by decide) (nI_pos (by omega)) (by rw [e0, en]; omega) (by rw [e0, en]; omega) (fun i hi y hy => ?_) hf hlo hdg (fun H1 locs1 hP hD hS => kk H1 locs1 (I.to (zh_set I.D hb hk2 rfl rfl ?_ (fun b hb k => zh_e_sQ g S _ hb k)) hP hD hS))
  · rw [e0, Nat.zero_add] at hy
    rw [en] at hi
    rcases hel i hi y hy with h | h
    · obtain ⟨k9, hk9⟩ := zh_get (g := g) X h
      exact va_rAny I.K I.P hk9 rfl (fun comp c0 g1 g2 => by
        obtain ⟨c', t', f1, f2, f3⟩ := Cond.castable_spec (va_Nw.use (A := args) rfl (I.O.1 (.castable "DiceForge$Entry" "java/lang/Object") (by decide +kernel)))
        cases g1.symm.trans f2
        cases g2.symm.trans f1
        exact f3)
    · obtain ⟨k9, hk9⟩ := zh_get (g := g) X h
      exact va_rAny I.K I.P hk9 rfl (fun comp c0 g1 g2 => by
        obtain ⟨c', t', f1, f2, f3⟩ := Cond.castable_spec (va_Nw.use (A := args) rfl (I.O.1 (.castable "DiceForge$Promise" "java/lang/Object") (by decide +kernel)))
        cases g1.symm.trans f2
        cases g2.symm.trans f1
        exact f3)
  · show Sum.inl (g.2.2.2 2, zh_N S b, Sum.inr (Sum.inr (Sum.inr (Sum.inr (va_up (zh_Q S) b _ b))))) = _
    rw [va_up_self, e0, en]
end ZO
abbrev zrm (k c s : Nat) : Room := { frames := k, cells := c, slots := s, locals := 30 * k }
end
section
/-! THE NUMBERS: draws, rolls and sums of the document, over Nat. -/
def zd_d (st pt : Nat) : Nat := (1105 * st + 12345 + 2 * pt) % 65536
def zd_m (f : Nat) : Nat := 65536 - 65536 % f
/-- draws until one is below the limit m, at most n of them rejected: the state, how many were rejected -/
def zd_go : Nat → Nat → Nat → Nat → Nat × Nat
  | 0, st, _, _ => (st, 0)
  | n + 1, st, pt, m => if m ≤ st then ((zd_go n (zd_d st pt) pt m).1, (zd_go n (zd_d st pt) pt m).2 + 1) else (st, 0)
def zd_roll (st pt f : Nat) : Nat × Nat := zd_go 65536 (zd_d st pt) pt (zd_m f)
def zd_val (st pt f : Nat) : Nat := (zd_roll st pt f).1 % f + 1
theorem zd_d_lt (st pt : Nat) : zd_d st pt < 65536 := Nat.mod_lt _ (by decide)
theorem zd_go_0 (st pt m : Nat) : zd_go 0 st pt m = (st, 0) := rfl
theorem zd_go_s (n st pt m : Nat) (h : m ≤ st) : zd_go (n + 1) st pt m = ((zd_go n (zd_d st pt) pt m).1, (zd_go n (zd_d st pt) pt m).2 + 1) := by rw [zd_go, if_pos h]
theorem zd_go_e (n st pt m : Nat) (h : ¬ m ≤ st) : zd_go n st pt m = (st, 0) := by cases n with
  | zero => rfl
  | succ n => rw [zd_go, if_neg h]
theorem zd_go_lt (n : Nat) : ∀ (st pt m : Nat), st < 65536 → (zd_go n st pt m).1 < 65536 := by
  induction n with
  | zero => intro st pt m h; exact h
  | succ n ih =>
    intro st pt m h
    by_cases hm : m ≤ st
    · rw [zd_go_s n st pt m hm]; exact ih _ _ _ (zd_d_lt st pt)
    · rw [zd_go_e _ st pt m hm]; exact h
theorem zd_go_le (n : Nat) : ∀ (st pt m : Nat), (zd_go n st pt m).2 ≤ n := by
  induction n with
  | zero => intro st pt m; exact Nat.le_refl _
  | succ n ih =>
    intro st pt m
    by_cases hm : m ≤ st
    · rw [zd_go_s n st pt m hm]; exact Nat.succ_le_succ (ih _ _ _)
    · rw [zd_go_e _ st pt m hm]; exact Nat.zero_le _
theorem zd_roll_lt (st pt f : Nat) : (zd_roll st pt f).1 < 65536 := zd_go_lt _ _ _ _ (zd_d_lt st pt)
theorem zd_roll_le (st pt f : Nat) : (zd_roll st pt f).2 ≤ 65536 := zd_go_le _ _ _ _
theorem zd_m_div {f : Nat} (hf : 0 < f) : zd_m f = 65536 / f * f := by
  have h := Nat.div_add_mod 65536 f
  have h2 : 65536 / f * f = f * (65536 / f) := Nat.mul_comm _ _
  unfold zd_m
  omega
/-- the sum of an entry: by the sum before, its promise, table, faces, value and rejected draws -/
def zd_sum (before p t f v r : Nat) : Nat := (31 * before + (7 * p + 5 * t + 3 * f + 11 * v + r)) % 1000003
theorem zd_sum_lt (before p t f v r : Nat) : zd_sum before p t f v r < 1000003 := Nat.mod_lt _ (by decide)
-- at most three draws in a row are rejected
theorem zd_chain : ((List.range 1997).all fun i => ((i : Int) - 998) % 2 == 0 || !(decide (-998 ≤ Int.bmod (1105 * ((i : Int) - 998)) 65536 ∧ Int.bmod (1105 * ((i : Int) - 998)) 65536 ≤ 998)) || !(decide (-998 ≤ Int.bmod (1105 * Int.bmod (1105 * ((i : Int) - 998)) 65536) 65536 ∧ Int.bmod (1105 * Int.bmod (1105 * ((i : Int) - 998)) 65536) 65536 ≤ 998))) = true := by decide +kernel
theorem zd_bm {E D : Int} (h1 : -998 ≤ E) (h2 : E ≤ 998) (h : (E - 1105 * D) % 65536 = 0) : Int.bmod (1105 * D) 65536 = E := by
  rw [Int.bmod_def]
  split <;> omega
theorem zd_3 {x0 x1 x2 x3 pt : Nat} (h1 : x1 = zd_d x0 pt) (h2 : x2 = zd_d x1 pt) (h3 : x3 = zd_d x2 pt) (a0 : 64537 ≤ x0) (a1 : 64537 ≤ x1) (a2 : 64537 ≤ x2) (a3 : 64537 ≤ x3) (b0 : x0 < 65536) : False := by
  have b1 : x1 < 65536 := h1 ▸ zd_d_lt _ _
  have b2 : x2 < 65536 := h2 ▸ zd_d_lt _ _
  have b3 : x3 < 65536 := h3 ▸ zd_d_lt _ _
  unfold zd_d at h1 h2 h3
  obtain ⟨i, hi⟩ : ∃ i : Nat, (i : Int) - 998 = (x1 : Int) - x0 := ⟨((x1 : Int) - x0 + 998).toNat, by omega⟩
  have hlt : i < 1997 := by omega
  have hodd : ((x1 : Int) - x0) % 2 = 1 := by omega
  have e1 := zd_bm (E := (x2 : Int) - x1) (D := (x1 : Int) - x0) (by omega) (by omega) (by omega)
  have e2 := zd_bm (E := (x3 : Int) - x2) (D := (x2 : Int) - x1) (by omega) (by omega) (by omega)
  have h := List.all_eq_true.mp zd_chain i (List.mem_range.mpr hlt)
  rw [hi, e1, e2] at h
  simp only [Bool.or_eq_true, beq_iff_eq, Bool.not_eq_true', decide_eq_false_iff_not] at h
  omega
theorem zd_fin {n st pt m : Nat} (hm : 64537 ≤ m) (hs : st < 65536) (hn : 4 ≤ n) : (zd_go n st pt m).1 < m := by
  obtain ⟨k, rfl⟩ : ∃ k, n = k + 4 := ⟨n - 4, by omega⟩
  by_cases c0 : m ≤ st
  · rw [zd_go_s _ _ _ _ c0]
    by_cases c1 : m ≤ zd_d st pt
    · rw [zd_go_s _ _ _ _ c1]
      by_cases c2 : m ≤ zd_d (zd_d st pt) pt
      · rw [zd_go_s _ _ _ _ c2]
        by_cases c3 : m ≤ zd_d (zd_d (zd_d st pt) pt) pt
        · exact (zd_3 (x0 := st) (x1 := zd_d st pt) (x2 := zd_d (zd_d st pt) pt) (x3 := zd_d (zd_d (zd_d st pt) pt) pt) (pt := pt) rfl rfl rfl (by omega) (by omega) (by omega) (by omega) hs).elim
        · rw [zd_go_e _ _ _ _ c3]; exact Nat.not_le.mp c3
      · rw [zd_go_e _ _ _ _ c2]; exact Nat.not_le.mp c2
    · rw [zd_go_e _ _ _ _ c1]; exact Nat.not_le.mp c1
  · rw [zd_go_e _ _ _ _ c0]; exact Nat.not_le.mp c0
theorem zd_roll_fin {st pt f : Nat} (h2 : 2 ≤ f) (hf : f ≤ 1000) : (zd_roll st pt f).1 < zd_m f := by
  have : 65536 % f < f := Nat.mod_lt _ (by omega)
  exact zd_fin (by unfold zd_m; omega) (zd_d_lt _ _) (by decide)
-- writes of fields
theorem zu_uu {α : Type} (f : Nat → Nat → α) (j a : Nat) (v w : α) : zh_u (zh_u f j a v) j a w = zh_u f j a w := by
  funext j' a'
  unfold zh_u
  split <;> rfl
theorem zu_comm {α : Type} (f : Nat → Nat → α) {j k : Nat} (a b : Nat) (v w : α) (h : j ≠ k) : zh_u (zh_u f j a v) k b w = zh_u (zh_u f k b w) j a v := by
  funext j' a'
  unfold zh_u
  by_cases h1 : j' = k ∧ a' = b
  · have h2 : ¬ (j' = j ∧ a' = a) := fun q => h (q.1.symm.trans h1.1)
    rw [if_pos h1, if_neg h2, if_pos h1]
  · rw [if_neg h1]
    by_cases h2 : j' = j ∧ a' = a
    · rw [if_pos h2, if_pos h2]
    · rw [if_neg h2, if_neg h2, if_neg h1]
theorem zs_II (S : zS) (j a : Nat) (v w : Int32) : zh_sI (zh_sI S j a v) j a w = zh_sI S j a w := by
  show (_, _, zh_u (zh_u _ _ _ _) _ _ _, _) = _
  rw [zu_uu]; rfl
theorem zs_Ic (S : zS) {j k : Nat} (a b : Nat) (v w : Int32) (h : j ≠ k) : zh_sI (zh_sI S j a v) k b w = zh_sI (zh_sI S k b w) j a v := by
  show (_, _, zh_u (zh_u _ _ _ _) _ _ _, _) = (_, _, zh_u (zh_u _ _ _ _) _ _ _, _)
  rw [zu_comm _ _ _ _ _ h]; rfl
theorem zu_self {α : Type} (f : Nat → Nat → α) (j a : Nat) (v : α) (h : f j a = v) : zh_u f j a v = f := by
  funext j' a'
  unfold zh_u
  split
  · rename_i q; rw [q.1, q.2, h]
  · rfl
theorem zs_Is (S : zS) (j a : Nat) (v : Int32) (h : zh_I S j a = v) : zh_sI S j a v = S := by
  show (_, _, zh_u (zh_I S) j a v, _) = S
  rw [zu_self _ _ _ _ h]; rfl
end
section
/-! Draws -/
def zD (S : zS) (d a r : Nat) : zS := zh_sI (zh_sI S 0 d (nI a)) 1 d (nI r)
theorem zD_0 (S : zS) (d a r : Nat) : zh_I (zD S d a r) 0 d = nI a := by simp [zD, zh_I_sI, zh_u]
theorem zD_1 (S : zS) (d a r : Nat) : zh_I (zD S d a r) 1 d = nI r := by simp [zD, zh_I_sI, zh_u]
theorem zD_s0 (S : zS) (d a b r : Nat) : zh_sI (zD S d a r) 0 d (nI b) = zD S d b r := by
  unfold zD
  rw [zs_Ic (zh_sI S 0 d (nI a)) d d (nI r) (nI b) (by decide), zs_II]
theorem zD_s1 (S : zS) (d a b r : Nat) : zh_sI (zD S d a r) 1 d (nI b) = zD S d a b := by
  unfold zD
  rw [zs_II]

set_option maxRecDepth 100000 in
set_option maxHeartbeats 4000000 in
theorem k_X0_init (l : Launch) (g : zG) (S : zS) (d : Nat) (sd : Int32) (hd : zh_at S 0 d) : zM l yX0_init cX0_init 2 none (zrm 1 0 0) g [.ref d, .int sd] S (fun v S' => v = none ∧ S' = zh_sI S 0 d sd) := by
  refine zM_of (nm := "<init>") (by decide) rfl (Nat.le_of_ble_eq_true rfl) ?_
  intro p e s m args below meth c A ls C hr hlk hin I hl
  have C : CallFix p m c cX0_init 2 s args zc_W RX0 := C
  have hx := C.1
  have hb := C.2.1
  have hl : lv_has ls 2 [(0, .ref d), (1, .int sd)] := hl
  refine lv_aload_n hx hb dX0_init_0 rfl (lv_at hl 0 rfl) ?_
  refine zr_obj (rest := []) C zm_171 zm_41 zm_42 hl.1 dX0_init_1 (Nat.le_of_ble_eq_true rfl) (Nat.le_of_ble_eq_true rfl) (Nat.le_of_ble_eq_true rfl) ?_
  refine lv_aload_n hx hb dX0_init_4 rfl (lv_at hl 0 rfl) ?_
  refine lv_iload_n hx hb dX0_init_5 rfl (lv_at hl 1 rfl) ?_
  refine zp_Draws_state C I hd zm_172 dX0_init_6 (fun H locs I => ?_)
  exact zr_vret C I hr hlk (⟨rfl, rfl⟩) (Nat.le_of_ble_eq_true rfl) (Nat.le_of_ble_eq_true rfl) dX0_init_9

set_option maxRecDepth 100000 in
set_option maxHeartbeats 4000000 in
theorem k_X0_draw (l : Launch) (g : zG) (S : zS) (d st pt : Nat) (hd : zh_at S 0 d) (hst : zh_I S 0 d = nI st) (bst : st < 65536) (bpt : pt ≤ 999) : zM l yX0_draw cX0_draw 2 none (zrm 0 0 0) g [.ref d, .int (nI pt)] S (fun v S' => v = none ∧ S' = zh_sI S 0 d (nI (zd_d st pt))) := by
  refine zM_of (nm := "draw") (by decide) rfl (Nat.le_of_ble_eq_true rfl) ?_
  intro p e s m args below meth c A ls C hr hlk hin I hl
  have C : CallFix p m c cX0_draw 2 s args zc_W RX0 := C
  have hx := C.1
  have hb := C.2.1
  have hl : lv_has ls 2 [(0, .ref d), (1, .int (nI pt))] := hl
  refine lv_aload_n hx hb dX0_draw_0 rfl (lv_at hl 0 rfl) ?_
  refine lv_sipush (v := 1105) hx hb dX0_draw_1 (by decide) ?_
  refine lv_aload_n hx hb dX0_draw_4 rfl (lv_at hl 0 rfl) ?_
  refine zg_Draws_state (v := nI st) C I hd zm_172 (hst) dX0_draw_5 ?_
  refine lv_imul hx hb dX0_draw_8 ?_
  refine zr_top (y := nI (1105 * st)) (pk_mul 1105 st) ?_
  refine lv_sipush (v := 12345) hx hb dX0_draw_9 (by decide) ?_
  refine lv_iadd hx hb dX0_draw_12 ?_
  refine zr_top (y := nI ((1105 * st) + 12345)) (nI_add (1105 * st) 12345) ?_
  refine lv_iconst (v := 2) hx hb dX0_draw_13 (by decide) ?_
  refine lv_iload_n hx hb dX0_draw_14 rfl (lv_at hl 1 rfl) ?_
  refine lv_imul hx hb dX0_draw_15 ?_
  refine zr_top (y := nI (2 * pt)) (pk_mul 2 pt) ?_
  refine lv_iadd hx hb dX0_draw_16 ?_
  refine zr_top (y := nI (((1105 * st) + 12345) + (2 * pt))) (nI_add ((1105 * st) + 12345) (2 * pt)) ?_
  refine lv_ldc (v := 65536) hx hb C.2.2.2.1 (C.2.2.2.2 _ zm_335) dX0_draw_17 ?_
  refine lv_irem hx hb dX0_draw_19 (by decide) ?_
  refine zr_top (y := nI ((((1105 * st) + 12345) + (2 * pt)) % 65536)) (pk_rem (a := ((1105 * st) + 12345) + (2 * pt)) (d := 65536) (by omega) (by omega) (by omega)) ?_
  refine zp_Draws_state C I hd zm_172 dX0_draw_20 (fun H locs I => ?_)
  exact zr_vret C I hr hlk (⟨rfl, rfl⟩) (Nat.le_of_ble_eq_true rfl) (Nat.le_of_ble_eq_true rfl) dX0_draw_23

set_option maxRecDepth 100000 in
set_option maxHeartbeats 4000000 in
theorem k_X0_nextValue (l : Launch) (g : zG) (S : zS) (d st pt f : Nat) (hd : zh_at S 0 d) (hst : zh_I S 0 d = nI st) (bst : st < 65536) (bpt : pt ≤ 999) (bf : 2 ≤ f) (bf2 : f ≤ 1000) : zM l yX0_nextValue cX0_nextValue 4 (some .int) (zrm 1 0 0) g [.ref d, .int (nI pt), .int (nI f)] S (fun v S' => v = some (.int (nI (zd_val st pt f))) ∧ S' = zD S d (zd_roll st pt f).1 (zd_roll st pt f).2) := by
  refine zM_of (nm := "nextValue") (by decide) rfl (Nat.le_of_ble_eq_true rfl) ?_
  intro p e s m args below meth c A ls C hr hlk hin I hl
  have C : CallFix p m c cX0_nextValue 4 s args zc_W RX0 := C
  have hx := C.1
  have hb := C.2.1
  have hl : lv_has ls 4 [(0, .ref d), (1, .int (nI pt)), (2, .int (nI f))] := hl
  have kexit : ∀ (a r : Nat) (ls : Array Slot) (H : Heap) (locs : List Loc), a < 65536 → zh_V g A s [] (zD S d a r) H locs → lv_has ls 4 [(3, .int (nI (zd_m f))), (0, .ref d), (1, .int (nI pt)), (2, .int (nI f))] → a = (zd_roll st pt f).1 → r = (zd_roll st pt f).2 → W p l e (zrm 1 0 0) s m args below meth c H locs 0 0 (MQ below (zh_Po g A (fun v S' => v = some (.int (nI (zd_val st pt f))) ∧ S' = zD S d (zd_roll st pt f).1 (zd_roll st pt f).2)) args s (zrm 1 0 0).cells (zrm 1 0 0).slots A) (F0 m 60 ls []) := by
    intro a r ls H locs ba I hl ea er
    refine lv_aload_n hx hb dX0_nextValue_60 rfl (lv_at hl 1 rfl) ?_
    refine zg_Draws_state (v := nI a) C I hd zm_172 (zD_0 S d a r) dX0_nextValue_61 ?_
    refine lv_iload_n hx hb dX0_nextValue_64 rfl (lv_at hl 3 rfl) ?_
    refine lv_irem hx hb dX0_nextValue_65 (nI_ne0 (n := f) (by omega) (by omega)) ?_
    refine zr_top (y := nI (a % f)) (pk_rem (a := a) (d := f) (by omega) (by omega) (by omega)) ?_
    refine lv_iconst (v := 1) hx hb dX0_nextValue_66 (by decide) ?_
    refine lv_iadd hx hb dX0_nextValue_67 ?_
    refine zr_top (y := nI ((a % f) + 1)) (nI_add (a % f) 1) ?_
    exact zr_iret C I hr hlk (by subst ea er; exact ⟨rfl, rfl⟩) (Nat.le_of_ble_eq_true rfl) (Nat.le_of_ble_eq_true rfl) dX0_nextValue_68
  have loop : ∀ (n a r : Nat) (ls : Array Slot) (H : Heap) (locs : List Loc), r + n = 65536 → a < 65536 → zh_V g A s [] (zD S d a r) H locs → lv_has ls 4 [(3, .int (nI (zd_m f))), (0, .ref d), (1, .int (nI pt)), (2, .int (nI f))] → (zd_go n a pt (zd_m f)).1 = (zd_roll st pt f).1 → (zd_go n a pt (zd_m f)).2 + r = (zd_roll st pt f).2 → W p l e (zrm 1 0 0) s m args below meth c H locs 0 0 (MQ below (zh_Po g A (fun v S' => v = some (.int (nI (zd_val st pt f))) ∧ S' = zD S d (zd_roll st pt f).1 (zd_roll st pt f).2)) args s (zrm 1 0 0).cells (zrm 1 0 0).slots A) (F0 m 25 ls []) := by
    intro n
    induction n with
    | zero =>
      intro a r ls H locs hn ba I hl e1 e2
      have bm : zd_m f ≤ 65536 := Nat.sub_le _ _
      refine lv_aload_n hx hb dX0_nextValue_25 rfl (lv_at hl 1 rfl) ?_
      refine zg_Draws_state (v := nI a) C I hd zm_172 (zD_0 S d a r) dX0_nextValue_26 ?_
      refine lv_iload_n hx hb dX0_nextValue_29 rfl (lv_at hl 0 rfl) ?_
      refine lv_icmp_lt (tgt := 60) hx hb dX0_nextValue_30 (by decide) (fun c30 => ?_) (fun c30 => ?_)
      · have c30 : a < (zd_m f) := (nI_ltI (a := a) (b := zd_m f) (by omega) (by omega)).mp c30
        rw [zd_go_e _ _ _ _ (Nat.not_le.mpr c30)] at e1 e2
        exact kexit a r ls H locs ba I hl e1 (by simpa using e2)
      · have c30 : ¬ a < (zd_m f) := fun h9 => c30 ((nI_ltI (a := a) (b := zd_m f) (by omega) (by omega)).mpr h9)
        refine lv_aload_n hx hb dX0_nextValue_33 rfl (lv_at hl 1 rfl) ?_
        refine zg_Draws_rejected (v := nI r) C I hd zm_173 (zD_1 S d a r) dX0_nextValue_34 ?_
        refine lv_ldc (v := 65536) hx hb C.2.2.2.1 (C.2.2.2.2 _ zm_335) dX0_nextValue_37 ?_
        refine lv_icmp_ge (tgt := 60) hx hb dX0_nextValue_39 (by decide) (fun _ => ?_) (fun h9 => absurd ((nI_leI (a := 65536) (b := r) (by omega) (by omega)).mpr (by omega)) h9)
        rw [zd_go_0] at e1 e2
        exact kexit a r ls H locs ba I hl e1 (by simpa using e2)
    | succ n ih =>
      intro a r ls H locs hn ba I hl e1 e2
      have bm : zd_m f ≤ 65536 := Nat.sub_le _ _
      refine lv_aload_n hx hb dX0_nextValue_25 rfl (lv_at hl 1 rfl) ?_
      refine zg_Draws_state (v := nI a) C I hd zm_172 (zD_0 S d a r) dX0_nextValue_26 ?_
      refine lv_iload_n hx hb dX0_nextValue_29 rfl (lv_at hl 0 rfl) ?_
      refine lv_icmp_lt (tgt := 60) hx hb dX0_nextValue_30 (by decide) (fun c30 => ?_) (fun c30 => ?_)
      · have c30 : a < (zd_m f) := (nI_ltI (a := a) (b := zd_m f) (by omega) (by omega)).mp c30
        rw [zd_go_e _ _ _ _ (Nat.not_le.mpr c30)] at e1 e2
        exact kexit a r ls H locs ba I hl e1 (by simpa using e2)
      · have c30 : ¬ a < (zd_m f) := fun h9 => c30 ((nI_ltI (a := a) (b := zd_m f) (by omega) (by omega)).mpr h9)
        refine lv_aload_n hx hb dX0_nextValue_33 rfl (lv_at hl 1 rfl) ?_
        refine zg_Draws_rejected (v := nI r) C I hd zm_173 (zD_1 S d a r) dX0_nextValue_34 ?_
        refine lv_ldc (v := 65536) hx hb C.2.2.2.1 (C.2.2.2.2 _ zm_335) dX0_nextValue_37 ?_
        refine lv_icmp_ge (tgt := 60) hx hb dX0_nextValue_39 (by decide) (fun h9 => absurd h9 (fun h8 => absurd ((nI_leI (a := 65536) (b := r) (by omega) (by omega)).mp h8) (by omega))) (fun _ => ?_)
        refine lv_aload_n hx hb dX0_nextValue_42 rfl (lv_at hl 1 rfl) ?_
        refine lv_dup hx hb dX0_nextValue_43 rfl ?_
        refine zg_Draws_rejected (v := nI r) C I hd zm_173 (zD_1 S d a r) dX0_nextValue_44 ?_
        refine lv_iconst (v := 1) hx hb dX0_nextValue_47 (by decide) ?_
        refine lv_iadd hx hb dX0_nextValue_48 ?_
        refine zr_top (y := nI (r + 1)) (nI_add r 1) ?_
        refine zp_Draws_rejected C I hd zm_173 dX0_nextValue_49 (fun H locs I => ?_)
        refine lv_aload_n hx hb dX0_nextValue_52 rfl (lv_at hl 1 rfl) ?_
        refine lv_iload_n hx hb dX0_nextValue_53 rfl (lv_at hl 2 rfl) ?_
        rw [zD_s1] at I
        refine zc_V (n := 1) (rest := []) C I hd rfl rfl (k_X0_draw l g (zD S d a (r + 1)) d a pt hd (zD_0 S d a (r + 1)) ba bpt) zm_336 zm_337 zm_6 zm_26 zm_338 rfl hl.1 dX0_nextValue_54 (by decide +kernel) rfl ⟨Nat.le_of_ble_eq_true rfl, Nat.le_of_ble_eq_true rfl⟩ (Nat.le_of_ble_eq_true rfl) ⟨Nat.le_of_ble_eq_true rfl, Nat.le_of_ble_eq_true rfl⟩ (fun v S' H locs hq I => ?_)
        obtain ⟨rfl, eS⟩ := hq
        rw [eS] at I
        rw [zD_s0] at I
        rw [zd_go_s _ _ _ _ (Nat.not_lt.mp c30)] at e1 e2
        refine lv_goto (tgt := 25) hx hb dX0_nextValue_57 (by decide) ?_
        exact ih (zd_d a pt) (r + 1) ls H locs (by omega) (zd_d_lt a pt) I hl e1 (by simp only [] at e2; omega)
  refine lv_aload_n hx hb dX0_nextValue_0 rfl (lv_at hl 0 rfl) ?_
  refine lv_iconst (v := 0) hx hb dX0_nextValue_1 (by decide) ?_
  refine zp_Draws_rejected C I hd zm_173 dX0_nextValue_2 (fun H locs I => ?_)
  refine lv_iload_n hx hb dX0_nextValue_5 rfl (lv_at hl 2 rfl) ?_
  refine lv_iconst (v := 2) hx hb dX0_nextValue_6 (by decide) ?_
  refine lv_icmp_ge (tgt := 12) hx hb dX0_nextValue_7 (by decide) (fun _ => ?_) (fun h9 => absurd ((nI_leI (a := 2) (b := f) (by omega) (by omega)).mpr (bf)) h9)
  refine lv_ldc (v := 65536) hx hb C.2.2.2.1 (C.2.2.2.2 _ zm_335) dX0_nextValue_12 ?_
  refine lv_ldc (v := 65536) hx hb C.2.2.2.1 (C.2.2.2.2 _ zm_335) dX0_nextValue_14 ?_
  refine lv_iload_n hx hb dX0_nextValue_16 rfl (lv_at hl 2 rfl) ?_
  refine lv_irem hx hb dX0_nextValue_17 (nI_ne0 (n := f) (by omega) (by omega)) ?_
  refine zr_top (y := nI (65536 % f)) (pk_rem (a := 65536) (d := f) (by omega) (by omega) (by omega)) ?_
  refine lv_isub hx hb dX0_nextValue_18 ?_
  refine zr_top (y := nI (zd_m f)) (pk_sub (a := 65536) (b := 65536 % f) (Nat.mod_le 65536 f)) ?_
  refine lv_istore_n (lv' := [(3, .int (nI (zd_m f))), (0, .ref d), (1, .int (nI pt)), (2, .int (nI f))]) hx hb dX0_nextValue_19 rfl hl (by decide) rfl (fun ls hl => ?_)
  refine lv_aload_n hx hb dX0_nextValue_20 rfl (lv_at hl 1 rfl) ?_
  refine lv_iload_n hx hb dX0_nextValue_21 rfl (lv_at hl 2 rfl) ?_
  refine zc_V (n := 1) (rest := []) C I hd rfl rfl (k_X0_draw l g (zh_sI S 1 d 0) d st pt hd (by simp [zh_I_sI, zh_u, hst]) bst bpt) zm_336 zm_337 zm_6 zm_26 zm_338 rfl hl.1 dX0_nextValue_22 (by decide +kernel) rfl ⟨Nat.le_of_ble_eq_true rfl, Nat.le_of_ble_eq_true rfl⟩ (Nat.le_of_ble_eq_true rfl) ⟨Nat.le_of_ble_eq_true rfl, Nat.le_of_ble_eq_true rfl⟩ (fun v S' H locs hq I => ?_)
  obtain ⟨rfl, eS⟩ := hq
  rw [eS] at I
  have I : zh_V g A s [] (zD S d (zd_d st pt) 0) H locs := by
    have e9 := zs_Ic S (j := 1) (k := 0) d d 0 (nI (zd_d st pt)) (by decide)
    rw [e9] at I; exact I
  exact loop 65536 (zd_d st pt) 0 ls H locs rfl (zd_d_lt st pt) I hl rfl rfl
end
section
/-! Entry, Promise -/

set_option maxRecDepth 100000 in
set_option maxHeartbeats 4000000 in
theorem k_X1_init (l : Launch) (g : zG) (S : zS) (a : Nat) (x1 x2 x3 x4 : Int32) (ha : zh_at S 1 a) : zM l yX1_init cX1_init 5 none (zrm 1 0 0) g [.ref a, .int x1, .int x2, .int x3, .int x4] S (fun v S' => v = none ∧ S' = zh_sI (zh_sI (zh_sI (zh_sI S 2 a x1) 3 a x2) 4 a x3) 5 a x4) := by
  refine zM_of (nm := "<init>") (by decide) rfl (Nat.le_of_ble_eq_true rfl) ?_
  intro p e s m args below meth c A ls C hr hlk hin I hl
  have C : CallFix p m c cX1_init 5 s args zc_W RX1 := C
  have hx := C.1
  have hb := C.2.1
  have hl : lv_has ls 5 [(0, .ref a), (1, .int x1), (2, .int x2), (3, .int x3), (4, .int x4)] := hl
  refine lv_aload_n hx hb dX1_init_0 rfl (lv_at hl 0 rfl) ?_
  refine zr_obj (rest := []) C zm_308 zm_41 zm_42 hl.1 dX1_init_1 (Nat.le_of_ble_eq_true rfl) (Nat.le_of_ble_eq_true rfl) (Nat.le_of_ble_eq_true rfl) ?_
  refine lv_aload_n hx hb dX1_init_4 rfl (lv_at hl 0 rfl) ?_
  refine lv_iload_n hx hb dX1_init_5 rfl (lv_at hl 1 rfl) ?_
  refine zf_Entry_promise C I ha zm_309 hin rfl dX1_init_6 (fun H locs I => ?_)
  refine lv_aload_n hx hb dX1_init_9 rfl (lv_at hl 0 rfl) ?_
  refine lv_iload_n hx hb dX1_init_10 rfl (lv_at hl 2 rfl) ?_
  refine zf_Entry_table C I ha zm_310 hin rfl dX1_init_11 (fun H locs I => ?_)
  refine lv_aload_n hx hb dX1_init_14 rfl (lv_at hl 0 rfl) ?_
  refine lv_iload_n hx hb dX1_init_15 rfl (lv_at hl 3 rfl) ?_
  refine zf_Entry_part C I ha zm_311 hin rfl dX1_init_16 (fun H locs I => ?_)
  refine lv_aload_n hx hb dX1_init_19 rfl (lv_at hl 0 rfl) ?_
  refine lv_iload hx hb dX1_init_20 (lv_at hl 4 rfl) ?_
  refine zf_Entry_faces C I ha zm_312 hin rfl dX1_init_22 (fun H locs I => ?_)
  exact zr_vret C I hr hlk (⟨rfl, rfl⟩) (Nat.le_of_ble_eq_true rfl) (Nat.le_of_ble_eq_true rfl) dX1_init_25

set_option maxRecDepth 100000 in
set_option maxHeartbeats 4000000 in
theorem k_X1_sumAfter (l : Launch) (g : zG) (S : zS) (a b pm t f v r : Nat) (ha : zh_at S 1 a) (h2 : zh_I S 2 a = nI pm) (h3 : zh_I S 3 a = nI t) (h5 : zh_I S 5 a = nI f) (h6 : zh_I S 6 a = nI v) (h7 : zh_I S 7 a = nI r) (b0 : b < 1000003) (b1 : pm < 16) (b2 : t < 4) (b3 : f ≤ 1000) (b4 : v ≤ 1000) (b5 : r ≤ 65536) : zM l yX1_sumAfter cX1_sumAfter 3 (some .int) (zrm 0 0 0) g [.ref a, .int (nI b)] S (fun w S' => w = some (.int (nI (zd_sum b pm t f v r))) ∧ S' = S) := by
  refine zM_of (nm := "sumAfter") (by decide) rfl (Nat.le_of_ble_eq_true rfl) ?_
  intro p e s m args below meth c A ls C hr hlk hin I hl
  have C : CallFix p m c cX1_sumAfter 3 s args zc_W RX1 := C
  have hx := C.1
  have hb := C.2.1
  have hl : lv_has ls 3 [(0, .ref a), (1, .int (nI b))] := hl
  refine lv_bipush (v := 7) hx hb dX1_sumAfter_0 (by decide) ?_
  refine lv_aload_n hx hb dX1_sumAfter_2 rfl (lv_at hl 0 rfl) ?_
  refine zg_Entry_promise (v := nI pm) C I ha zm_309 (h2) dX1_sumAfter_3 ?_
  refine lv_imul hx hb dX1_sumAfter_6 ?_
  refine zr_top (y := nI (7 * pm)) (pk_mul 7 pm) ?_
  refine lv_iconst (v := 5) hx hb dX1_sumAfter_7 (by decide) ?_
  refine lv_aload_n hx hb dX1_sumAfter_8 rfl (lv_at hl 0 rfl) ?_
  refine zg_Entry_table (v := nI t) C I ha zm_310 (h3) dX1_sumAfter_9 ?_
  refine lv_imul hx hb dX1_sumAfter_12 ?_
  refine zr_top (y := nI (5 * t)) (pk_mul 5 t) ?_
  refine lv_iadd hx hb dX1_sumAfter_13 ?_
  refine zr_top (y := nI ((7 * pm) + (5 * t))) (nI_add (7 * pm) (5 * t)) ?_
  refine lv_iconst (v := 3) hx hb dX1_sumAfter_14 (by decide) ?_
  refine lv_aload_n hx hb dX1_sumAfter_15 rfl (lv_at hl 0 rfl) ?_
  refine zg_Entry_faces (v := nI f) C I ha zm_312 (h5) dX1_sumAfter_16 ?_
  refine lv_imul hx hb dX1_sumAfter_19 ?_
  refine zr_top (y := nI (3 * f)) (pk_mul 3 f) ?_
  refine lv_iadd hx hb dX1_sumAfter_20 ?_
  refine zr_top (y := nI (((7 * pm) + (5 * t)) + (3 * f))) (nI_add ((7 * pm) + (5 * t)) (3 * f)) ?_
  refine lv_bipush (v := 11) hx hb dX1_sumAfter_21 (by decide) ?_
  refine lv_aload_n hx hb dX1_sumAfter_23 rfl (lv_at hl 0 rfl) ?_
  refine zg_Entry_value (v := nI v) C I ha zm_313 (h6) dX1_sumAfter_24 ?_
  refine lv_imul hx hb dX1_sumAfter_27 ?_
  refine zr_top (y := nI (11 * v)) (pk_mul 11 v) ?_
  refine lv_iadd hx hb dX1_sumAfter_28 ?_
  refine zr_top (y := nI ((((7 * pm) + (5 * t)) + (3 * f)) + (11 * v))) (nI_add (((7 * pm) + (5 * t)) + (3 * f)) (11 * v)) ?_
  refine lv_aload_n hx hb dX1_sumAfter_29 rfl (lv_at hl 0 rfl) ?_
  refine zg_Entry_rejected (v := nI r) C I ha zm_314 (h7) dX1_sumAfter_30 ?_
  refine lv_iadd hx hb dX1_sumAfter_33 ?_
  refine zr_top (y := nI (((((7 * pm) + (5 * t)) + (3 * f)) + (11 * v)) + r)) (nI_add ((((7 * pm) + (5 * t)) + (3 * f)) + (11 * v)) r) ?_
  refine lv_istore_n (lv' := [(2, .int (nI (((((7 * pm) + (5 * t)) + (3 * f)) + (11 * v)) + r))), (0, .ref a), (1, .int (nI b))]) hx hb dX1_sumAfter_34 rfl hl (by decide) rfl (fun ls hl => ?_)
  refine lv_bipush (v := 31) hx hb dX1_sumAfter_35 (by decide) ?_
  refine lv_iload_n hx hb dX1_sumAfter_37 rfl (lv_at hl 2 rfl) ?_
  refine lv_imul hx hb dX1_sumAfter_38 ?_
  refine zr_top (y := nI (31 * b)) (pk_mul 31 b) ?_
  refine lv_iload_n hx hb dX1_sumAfter_39 rfl (lv_at hl 0 rfl) ?_
  refine lv_iadd hx hb dX1_sumAfter_40 ?_
  refine zr_top (y := nI ((31 * b) + (((((7 * pm) + (5 * t)) + (3 * f)) + (11 * v)) + r))) (nI_add (31 * b) (((((7 * pm) + (5 * t)) + (3 * f)) + (11 * v)) + r)) ?_
  refine lv_ldc (v := 1000003) hx hb C.2.2.2.1 (C.2.2.2.2 _ zm_348) dX1_sumAfter_41 ?_
  refine lv_irem hx hb dX1_sumAfter_43 (by decide) ?_
  refine zr_top (y := nI (((31 * b) + (((((7 * pm) + (5 * t)) + (3 * f)) + (11 * v)) + r)) % 1000003)) (pk_rem (a := (31 * b) + (((((7 * pm) + (5 * t)) + (3 * f)) + (11 * v)) + r)) (d := 1000003) (by omega) (by omega) (by omega)) ?_
  exact zr_iret C I hr hlk (⟨rfl, rfl⟩) (Nat.le_of_ble_eq_true rfl) (Nat.le_of_ble_eq_true rfl) dX1_sumAfter_44

set_option maxRecDepth 100000 in
set_option maxHeartbeats 4000000 in
theorem k_X1_countsFor (l : Launch) (g : zG) (S : zS) (a f k F : Nat) (ha : zh_at S 1 a) (h5 : zh_I S 5 a = nI f) (h9 : zh_I S 9 a = nI k) (b1 : f ≤ 1000) (b2 : k ≤ 1) (b3 : F ≤ 1000) : zM l yX1_countsFor cX1_countsFor 2 (some .boolean) (zrm 0 0 0) g [.ref a, .int (nI F)] S (fun w S' => w = some (.int (if f = F ∧ k = 0 then 1 else 0)) ∧ S' = S) := by
  refine zM_of (nm := "countsFor") (by decide) rfl (Nat.le_of_ble_eq_true rfl) ?_
  intro p e s m args below meth c A ls C hr hlk hin I hl
  have C : CallFix p m c cX1_countsFor 2 s args zc_W RX1 := C
  have hx := C.1
  have hb := C.2.1
  have hl : lv_has ls 2 [(0, .ref a), (1, .int (nI F))] := hl
  refine lv_aload_n hx hb dX1_countsFor_0 rfl (lv_at hl 0 rfl) ?_
  refine zg_Entry_faces (v := nI f) C I ha zm_312 (h5) dX1_countsFor_1 ?_
  refine lv_iload_n hx hb dX1_countsFor_4 rfl (lv_at hl 1 rfl) ?_
  refine lv_icmp_ne (tgt := 19) hx hb dX1_countsFor_5 (by decide) (fun c5 => ?_) (fun c5 => ?_)
  · have c5 : ¬ f = F := fun h9 => c5 ((nI_eq (a := f) (b := F) (by omega) (by omega)).mpr h9)
    refine lv_iconst (v := 0) hx hb dX1_countsFor_19 (by decide) ?_
    exact zr_zret C I hr (zf_b (by decide)).1 hlk (⟨by rw [if_neg (by omega)], rfl⟩) (Nat.le_of_ble_eq_true rfl) (Nat.le_of_ble_eq_true rfl) dX1_countsFor_20
  · have c5 : f = F := (nI_eq (a := f) (b := F) (by omega) (by omega)).mp c5
    refine lv_aload_n hx hb dX1_countsFor_8 rfl (lv_at hl 0 rfl) ?_
    refine zg_Entry_struck (v := nI k) C I ha zm_315 (h9) dX1_countsFor_9 ?_
    refine lv_if_ne (tgt := 19) hx hb dX1_countsFor_12 (by decide) (fun c12 => ?_) (fun c12 => ?_)
    · have c12 : ¬ k = 0 := fun h9 => c12 ((nI_eq (a := k) (b := 0) (by omega) (by omega)).mpr h9)
      refine lv_iconst (v := 0) hx hb dX1_countsFor_19 (by decide) ?_
      exact zr_zret C I hr (zf_b (by decide)).1 hlk (⟨by rw [if_neg (by omega)], rfl⟩) (Nat.le_of_ble_eq_true rfl) (Nat.le_of_ble_eq_true rfl) dX1_countsFor_20
    · have c12 : k = 0 := (nI_eq (a := k) (b := 0) (by omega) (by omega)).mp c12
      refine lv_iconst (v := 1) hx hb dX1_countsFor_15 (by decide) ?_
      refine lv_goto (tgt := 20) hx hb dX1_countsFor_16 (by decide) ?_
      exact zr_zret C I hr (zf_b (by decide)).1 hlk (⟨by rw [if_pos (by omega)], rfl⟩) (Nat.le_of_ble_eq_true rfl) (Nat.le_of_ble_eq_true rfl) dX1_countsFor_20

set_option maxRecDepth 100000 in
set_option maxHeartbeats 4000000 in
theorem k_X2_init (l : Launch) (g : zG) (S : zS) (a : Nat) (sd : Int32) (ha : zh_at S 2 a) : zM l yX2_init cX2_init 2 none (zrm 2 1 2) g [.ref a, .int sd] S (fun v S' => v = none ∧ ∃ d, d ∉ zh_L S ∧ S' = zh_sR (zh_sI (zh_nO (zh_sI S 10 a sd) d 0) 0 d sd) 0 a (some d)) := by
  refine zM_of (nm := "<init>") (by decide) rfl (Nat.le_of_ble_eq_true rfl) ?_
  intro p e s m args below meth c A ls C hr hlk hin I hl
  have C : CallFix p m c cX2_init 2 s args zc_W RX2 := C
  have hx := C.1
  have hb := C.2.1
  have hl : lv_has ls 2 [(0, .ref a), (1, .int sd)] := hl
  refine lv_aload_n hx hb dX2_init_0 rfl (lv_at hl 0 rfl) ?_
  refine zr_obj (rest := []) C zm_166 zm_41 zm_42 hl.1 dX2_init_1 (Nat.le_of_ble_eq_true rfl) (Nat.le_of_ble_eq_true rfl) (Nat.le_of_ble_eq_true rfl) ?_
  refine lv_aload_n hx hb dX2_init_4 rfl (lv_at hl 0 rfl) ?_
  refine lv_iload_n hx hb dX2_init_5 rfl (lv_at hl 1 rfl) ?_
  refine zf_Promise_seed C I ha zm_179 hin rfl dX2_init_6 (fun H locs I => ?_)
  refine lv_aload_n hx hb dX2_init_9 rfl (lv_at hl 0 rfl) ?_
  refine zw_Draws C I zm_167 zm_168 zm_26 (Nat.le_of_ble_eq_true rfl) (Nat.le_of_ble_eq_true rfl) dX2_init_10 (fun q10 H hq10 I => ?_)
  refine lv_dup hx hb dX2_init_13 rfl ?_
  refine lv_iload_n hx hb dX2_init_14 rfl (lv_at hl 1 rfl) ?_
  refine zc_IN (host := "DiceForge") (n := 1) (rest := [.ref q10, .ref a]) C I (k_X0_init l g (zh_nO (zh_sI S 10 a sd) q10 0) q10 sd zh_at_new) (by decide +kernel) zm_169 zm_26 zm_170 rfl rfl hl.1 dX2_init_15 (by decide +kernel) rfl ⟨Nat.le_of_ble_eq_true rfl, Nat.le_of_ble_eq_true rfl⟩ (Nat.le_of_ble_eq_true rfl) ⟨Nat.le_of_ble_eq_true rfl, Nat.le_of_ble_eq_true rfl⟩ (fun v S' H locs hq I => ?_)
  obtain ⟨rfl, eS⟩ := hq
  rw [eS] at I
  refine zf_Promise_draws C I (zh_at_nO ha hq10) zm_180 hin rfl dX2_init_18 (fun H locs I => ?_)
  exact zr_vret C I hr hlk (⟨rfl, q10, hq10, rfl⟩) (Nat.le_of_ble_eq_true rfl) (Nat.le_of_ble_eq_true rfl) dX2_init_21
end
section
/-! ArrayList and what it calls -/

set_option maxRecDepth 100000 in
set_option maxHeartbeats 4000000 in
theorem k_J3_checkIndex_8e157 (l : Launch) (g : zG) (S : zS) (i n : Nat) (hi : i < n) (hn : n < 2 ^ 31) : zM l yJ3_checkIndex_8e157 cJ3_checkIndex_8e157 3 (some .int) (zrm 0 0 0) g [.int (nI i), .int (nI n), .null] S (fun w S' => w = some (.int (nI i)) ∧ S' = S) := by
  refine zM_of (nm := "checkIndex") (by decide) rfl (Nat.le_of_ble_eq_true rfl) ?_
  intro p e s m args below meth c A ls C hr hlk hin I hl
  have C : CallFix p m c cJ3_checkIndex_8e157 3 s args zc_W RJ3 := C
  have hx := C.1
  have hb := C.2.1
  have hl : lv_has ls 3 [(0, .int (nI i)), (1, .int (nI n)), (2, .null)] := hl
  refine lv_iload_n hx hb dJ3_checkIndex_8e157_0 rfl (lv_at hl 0 rfl) ?_
  refine lv_if_lt (tgt := 9) hx hb dJ3_checkIndex_8e157_1 (by decide) (fun h9 => absurd h9 (fun h8 => absurd ((nI_ltI (a := i) (b := 0) (by omega) (by omega)).mp h8) (by omega))) (fun _ => ?_)
  refine lv_iload_n hx hb dJ3_checkIndex_8e157_4 rfl (lv_at hl 0 rfl) ?_
  refine lv_iload_n hx hb dJ3_checkIndex_8e157_5 rfl (lv_at hl 1 rfl) ?_
  refine lv_icmp_lt (tgt := 16) hx hb dJ3_checkIndex_8e157_6 (by decide) (fun _ => ?_) (fun h9 => absurd ((nI_ltI (a := i) (b := n) (by omega) (by omega)).mpr (by omega)) h9)
  refine lv_iload_n hx hb dJ3_checkIndex_8e157_16 rfl (lv_at hl 0 rfl) ?_
  exact zr_iret C I hr hlk (⟨rfl, rfl⟩) (Nat.le_of_ble_eq_true rfl) (Nat.le_of_ble_eq_true rfl) dJ3_checkIndex_8e157_17

set_option maxRecDepth 100000 in
set_option maxHeartbeats 4000000 in
theorem k_J15_checkIndex_7cf53 (l : Launch) (g : zG) (S : zS) (i n : Nat) (hi : i < n) (hn : n < 2 ^ 31) : zM l yJ15_checkIndex_7cf53 cJ15_checkIndex_7cf53 2 (some .int) (zrm 1 0 0) g [.int (nI i), .int (nI n)] S (fun w S' => w = some (.int (nI i)) ∧ S' = S) := by
  refine zM_of (nm := "checkIndex") (by decide) rfl (Nat.le_of_ble_eq_true rfl) ?_
  intro p e s m args below meth c A ls C hr hlk hin I hl
  have C : CallFix p m c cJ15_checkIndex_7cf53 2 s args zc_W RJ15 := C
  have hx := C.1
  have hb := C.2.1
  have hl : lv_has ls 2 [(0, .int (nI i)), (1, .int (nI n))] := hl
  refine lv_iload_n hx hb dJ15_checkIndex_7cf53_0 rfl (lv_at hl 0 rfl) ?_
  refine lv_iload_n hx hb dJ15_checkIndex_7cf53_1 rfl (lv_at hl 1 rfl) ?_
  refine lv_null hx hb dJ15_checkIndex_7cf53_2 ?_
  refine zc_S (n := 3) (rest := []) C I (k_J3_checkIndex_8e157 l g S i n hi hn) zm_290 zm_291 zm_33 zm_292 rfl hl.1 dJ15_checkIndex_7cf53_3 (by decide +kernel) rfl ⟨Nat.le_of_ble_eq_true rfl, Nat.le_of_ble_eq_true rfl⟩ (Nat.le_of_ble_eq_true rfl) ⟨Nat.le_of_ble_eq_true rfl, Nat.le_of_ble_eq_true rfl⟩ (fun v S' H locs hq I => ?_)
  obtain ⟨rfl, eS⟩ := hq
  rw [eS] at I
  exact zr_iret C I hr hlk (⟨rfl, rfl⟩) (Nat.le_of_ble_eq_true rfl) (Nat.le_of_ble_eq_true rfl) dJ15_checkIndex_7cf53_6

set_option maxRecDepth 100000 in
set_option maxHeartbeats 4000000 in
theorem k_Jx4a65c_size_8abf5 (l : Launch) (g : zG) (S : zS) (pl n : Nat) (ha : zh_at S 5 pl) (h1 : zh_I S 31 pl = nI n) : zM l yJx4a65c_size_8abf5 cJx4a65c_size_8abf5 1 (some .int) (zrm 0 0 0) g [.ref pl] S (fun w S' => w = some (.int (nI n)) ∧ S' = S) := by
  refine zM_of (nm := "size") (by decide) rfl (Nat.le_of_ble_eq_true rfl) ?_
  intro p e s m args below meth c A ls C hr hlk hin I hl
  have C : CallFix p m c cJx4a65c_size_8abf5 1 s args zc_W RJx4a65c := C
  have hx := C.1
  have hb := C.2.1
  have hl : lv_has ls 1 [(0, .ref pl)] := hl
  refine lv_aload_n hx hb dJx4a65c_size_8abf5_0 rfl (lv_at hl 0 rfl) ?_
  refine zg_List_size (v := nI n) C I ha zm_57 (h1) dJx4a65c_size_8abf5_1 ?_
  exact zr_iret C I hr hlk (⟨rfl, rfl⟩) (Nat.le_of_ble_eq_true rfl) (Nat.le_of_ble_eq_true rfl) dJx4a65c_size_8abf5_4

set_option maxRecDepth 100000 in
set_option maxHeartbeats 4000000 in
theorem k_Jx4a65c_isEmpty_aae02 (l : Launch) (g : zG) (S : zS) (pl n : Nat) (ha : zh_at S 5 pl) (h1 : zh_I S 31 pl = nI n) (hn : n < 2 ^ 31) : zM l yJx4a65c_isEmpty_aae02 cJx4a65c_isEmpty_aae02 1 (some .boolean) (zrm 0 0 0) g [.ref pl] S (fun w S' => w = some (.int (if n = 0 then 1 else 0)) ∧ S' = S) := by
  refine zM_of (nm := "isEmpty") (by decide) rfl (Nat.le_of_ble_eq_true rfl) ?_
  intro p e s m args below meth c A ls C hr hlk hin I hl
  have C : CallFix p m c cJx4a65c_isEmpty_aae02 1 s args zc_W RJx4a65c := C
  have hx := C.1
  have hb := C.2.1
  have hl : lv_has ls 1 [(0, .ref pl)] := hl
  refine lv_aload_n hx hb dJx4a65c_isEmpty_aae02_0 rfl (lv_at hl 0 rfl) ?_
  refine zg_List_size (v := nI n) C I ha zm_57 (h1) dJx4a65c_isEmpty_aae02_1 ?_
  refine lv_if_ne (tgt := 11) hx hb dJx4a65c_isEmpty_aae02_4 (by decide) (fun c4 => ?_) (fun c4 => ?_)
  · have c4 : ¬ n = 0 := fun h9 => c4 ((nI_eq (a := n) (b := 0) (by omega) (by omega)).mpr h9)
    refine lv_iconst (v := 0) hx hb dJx4a65c_isEmpty_aae02_11 (by decide) ?_
    exact zr_zret C I hr (zf_b (by decide)).1 hlk (⟨by rw [if_neg (by omega)], rfl⟩) (Nat.le_of_ble_eq_true rfl) (Nat.le_of_ble_eq_true rfl) dJx4a65c_isEmpty_aae02_12
  · have c4 : n = 0 := (nI_eq (a := n) (b := 0) (by omega) (by omega)).mp c4
    refine lv_iconst (v := 1) hx hb dJx4a65c_isEmpty_aae02_7 (by decide) ?_
    refine lv_goto (tgt := 12) hx hb dJx4a65c_isEmpty_aae02_8 (by decide) ?_
    exact zr_zret C I hr (zf_b (by decide)).1 hlk (⟨by rw [if_pos (by omega)], rfl⟩) (Nat.le_of_ble_eq_true rfl) (Nat.le_of_ble_eq_true rfl) dJx4a65c_isEmpty_aae02_12

set_option maxRecDepth 100000 in
set_option maxHeartbeats 4000000 in
theorem k_Jx4a65c_elementData_915e3 (l : Launch) (g : zG) (S : zS) (pl n ar i q : Nat) (ha : zh_at S 5 pl) (h1 : zh_I S 31 pl = nI n) (h2 : zh_R S 30 pl = some ar) (h3 : zh_at S 8 ar) (h4 : n ≤ zh_N S ar) (h5 : n < 1000000) (hi : i < n) (hq : zh_Q S ar i = some q) : zM l yJx4a65c_elementData_915e3 cJx4a65c_elementData_915e3 2 (some (.object "java/lang/Object")) (zrm 0 0 0) g [.ref pl, .int (nI i)] S (fun w S' => w = some (.ref q) ∧ S' = S) := by
  refine zM_of (nm := "elementData") (by decide) rfl (Nat.le_of_ble_eq_true rfl) ?_
  intro p e s m args below meth c A ls C hr hlk hin I hl
  have C : CallFix p m c cJx4a65c_elementData_915e3 2 s args zc_W RJx4a65c := C
  have hx := C.1
  have hb := C.2.1
  have hl : lv_has ls 2 [(0, .ref pl), (1, .int (nI i))] := hl
  refine lv_aload_n hx hb dJx4a65c_elementData_915e3_0 rfl (lv_at hl 0 rfl) ?_
  refine zg_List_elementData (v := ar) C I ha zm_56 (h2) dJx4a65c_elementData_915e3_1 ?_
  refine lv_iload_n hx hb dJx4a65c_elementData_915e3_4 rfl (lv_at hl 1 rfl) ?_
  refine zr_qald (v := q) C I h3 (vp_in_iff.mpr (by rw [nI_toInt (by omega)]; omega)) (by rw [nI_clamp (by omega)]; exact hq) dJx4a65c_elementData_915e3_5 ?_
  exact zr_aret C I hr (Or.inl ⟨_, rfl⟩) (Or.inr ⟨_, rfl⟩) hlk (⟨rfl, rfl⟩) (Nat.le_of_ble_eq_true rfl) (Nat.le_of_ble_eq_true rfl) dJx4a65c_elementData_915e3_6

set_option maxRecDepth 100000 in
set_option maxHeartbeats 4000000 in
theorem k_Jx4a65c_get_915e3 (l : Launch) (g : zG) (S : zS) (pl n ar i q : Nat) (ha : zh_at S 5 pl) (h1 : zh_I S 31 pl = nI n) (h2 : zh_R S 30 pl = some ar) (h3 : zh_at S 8 ar) (h4 : n ≤ zh_N S ar) (h5 : n < 1000000) (hi : i < n) (hq : zh_Q S ar i = some q) : zM l yJx4a65c_get_915e3 cJx4a65c_get_915e3 2 (some (.object "java/lang/Object")) (zrm 2 0 0) g [.ref pl, .int (nI i)] S (fun w S' => w = some (.ref q) ∧ S' = S) := by
  refine zM_of (nm := "get") (by decide) rfl (Nat.le_of_ble_eq_true rfl) ?_
  intro p e s m args below meth c A ls C hr hlk hin I hl
  have C : CallFix p m c cJx4a65c_get_915e3 2 s args zc_W RJx4a65c := C
  have hx := C.1
  have hb := C.2.1
  have hl : lv_has ls 2 [(0, .ref pl), (1, .int (nI i))] := hl
  refine lv_iload_n hx hb dJx4a65c_get_915e3_0 rfl (lv_at hl 1 rfl) ?_
  refine lv_aload_n hx hb dJx4a65c_get_915e3_1 rfl (lv_at hl 0 rfl) ?_
  refine zg_List_size (v := nI n) C I ha zm_57 (h1) dJx4a65c_get_915e3_2 ?_
  refine zc_S (n := 2) (rest := []) C I (k_J15_checkIndex_7cf53 l g S i n hi (by omega)) zm_287 zm_288 zm_32 zm_289 rfl hl.1 dJx4a65c_get_915e3_5 (by decide +kernel) rfl ⟨Nat.le_of_ble_eq_true rfl, Nat.le_of_ble_eq_true rfl⟩ (Nat.le_of_ble_eq_true rfl) ⟨Nat.le_of_ble_eq_true rfl, Nat.le_of_ble_eq_true rfl⟩ (fun v S' H locs hq I => ?_)
  obtain ⟨rfl, eS⟩ := hq
  rw [eS] at I
  refine lv_pop hx hb dJx4a65c_get_915e3_8 rfl ?_
  refine lv_aload_n hx hb dJx4a65c_get_915e3_9 rfl (lv_at hl 0 rfl) ?_
  refine lv_iload_n hx hb dJx4a65c_get_915e3_10 rfl (lv_at hl 1 rfl) ?_
  refine zc_V (n := 1) (rest := []) C I ha rfl rfl (k_Jx4a65c_elementData_915e3 l g S pl n ar i q ha h1 h2 h3 h4 h5 hi hq) zm_293 zm_294 zm_295 zm_19 zm_296 rfl hl.1 dJx4a65c_get_915e3_11 (by decide +kernel) rfl ⟨Nat.le_of_ble_eq_true rfl, Nat.le_of_ble_eq_true rfl⟩ (Nat.le_of_ble_eq_true rfl) ⟨Nat.le_of_ble_eq_true rfl, Nat.le_of_ble_eq_true rfl⟩ (fun v S' H locs hq I => ?_)
  obtain ⟨rfl, eS⟩ := hq
  rw [eS] at I
  exact zr_aret C I hr (Or.inl ⟨_, rfl⟩) (Or.inr ⟨_, rfl⟩) hlk (⟨rfl, rfl⟩) (Nat.le_of_ble_eq_true rfl) (Nat.le_of_ble_eq_true rfl) dJx4a65c_get_915e3_14

set_option maxRecDepth 100000 in
set_option maxHeartbeats 4000000 in
theorem k_Jxa1e45_init_da8c8 (l : Launch) (g : zG) (S : zS) (a : Nat) (ha : zh_at S 5 a) : zM l yJxa1e45_init_da8c8 cJxa1e45_init_da8c8 1 none (zrm 1 0 0) g [.ref a] S (fun v S' => v = none ∧ S' = S) := by
  refine zM_of (nm := "<init>") (by decide) rfl (Nat.le_of_ble_eq_true rfl) ?_
  intro p e s m args below meth c A ls C hr hlk hin I hl
  have C : CallFix p m c cJxa1e45_init_da8c8 1 s args zc_W RJxa1e45 := C
  have hx := C.1
  have hb := C.2.1
  have hl : lv_has ls 1 [(0, .ref a)] := hl
  refine lv_aload_n hx hb dJxa1e45_init_da8c8_0 rfl (lv_at hl 0 rfl) ?_
  refine zr_obj (rest := []) C zm_54 zm_41 zm_42 hl.1 dJxa1e45_init_da8c8_1 (Nat.le_of_ble_eq_true rfl) (Nat.le_of_ble_eq_true rfl) (Nat.le_of_ble_eq_true rfl) ?_
  exact zr_vret C I hr hlk (⟨rfl, rfl⟩) (Nat.le_of_ble_eq_true rfl) (Nat.le_of_ble_eq_true rfl) dJxa1e45_init_da8c8_4

set_option maxRecDepth 100000 in
set_option maxHeartbeats 4000000 in
theorem k_Jxc12de_init_da8c8 (l : Launch) (g : zG) (S : zS) (a : Nat) (ha : zh_at S 5 a) : zM l yJxc12de_init_da8c8 cJxc12de_init_da8c8 1 none (zrm 2 0 0) g [.ref a] S (fun v S' => v = none ∧ S' = zh_sI S 30 a 0) := by
  refine zM_of (nm := "<init>") (by decide) rfl (Nat.le_of_ble_eq_true rfl) ?_
  intro p e s m args below meth c A ls C hr hlk hin I hl
  have C : CallFix p m c cJxc12de_init_da8c8 1 s args zc_W RJxc12de := C
  have hx := C.1
  have hb := C.2.1
  have hl : lv_has ls 1 [(0, .ref a)] := hl
  refine lv_aload_n hx hb dJxc12de_init_da8c8_0 rfl (lv_at hl 0 rfl) ?_
  refine zc_I (n := 0) (rest := []) C I (k_Jxa1e45_init_da8c8 l g S a ha) zm_51 zm_52 zm_17 zm_53 rfl rfl hl.1 dJxc12de_init_da8c8_1 (by decide +kernel) rfl ⟨Nat.le_of_ble_eq_true rfl, Nat.le_of_ble_eq_true rfl⟩ (Nat.le_of_ble_eq_true rfl) ⟨Nat.le_of_ble_eq_true rfl, Nat.le_of_ble_eq_true rfl⟩ (fun v S' H locs hq I => ?_)
  obtain ⟨rfl, eS⟩ := hq
  rw [eS] at I
  refine lv_aload_n hx hb dJxc12de_init_da8c8_4 rfl (lv_at hl 0 rfl) ?_
  refine lv_iconst (v := 0) hx hb dJxc12de_init_da8c8_5 (by decide) ?_
  refine zp_List_modCountA C I ha zm_58 dJxc12de_init_da8c8_6 (fun H locs I => ?_)
  exact zr_vret C I hr hlk (⟨rfl, rfl⟩) (Nat.le_of_ble_eq_true rfl) (Nat.le_of_ble_eq_true rfl) dJxc12de_init_da8c8_9

set_option maxRecDepth 100000 in
set_option maxHeartbeats 4000000 in
theorem k_Jx4a65c_init_da8c8 (l : Launch) (g : zG) (S : zS) (a : Nat) (ha : zh_at S 5 a) : zM l yJx4a65c_init_da8c8 cJx4a65c_init_da8c8 1 none (zrm 3 0 0) g [.ref a] S (fun v S' => v = none ∧ S' = zh_sR (zh_sI S 30 a 0) 30 a (some g.2.1)) := by
  refine zM_of (nm := "<init>") (by decide) rfl (Nat.le_of_ble_eq_true rfl) ?_
  intro p e s m args below meth c A ls C hr hlk hin I hl
  have C : CallFix p m c cJx4a65c_init_da8c8 1 s args zc_W RJx4a65c := C
  have hx := C.1
  have hb := C.2.1
  have hl : lv_has ls 1 [(0, .ref a)] := hl
  refine lv_aload_n hx hb dJx4a65c_init_da8c8_0 rfl (lv_at hl 0 rfl) ?_
  refine zc_I (n := 0) (rest := []) C I (k_Jxc12de_init_da8c8 l g S a ha) zm_48 zm_49 zm_18 zm_50 rfl rfl hl.1 dJx4a65c_init_da8c8_1 (by decide +kernel) rfl ⟨Nat.le_of_ble_eq_true rfl, Nat.le_of_ble_eq_true rfl⟩ (Nat.le_of_ble_eq_true rfl) ⟨Nat.le_of_ble_eq_true rfl, Nat.le_of_ble_eq_true rfl⟩ (fun v S' H locs hq I => ?_)
  obtain ⟨rfl, eS⟩ := hq
  rw [eS] at I
  refine lv_aload_n hx hb dJx4a65c_init_da8c8_4 rfl (lv_at hl 0 rfl) ?_
  refine zr_gets C I zm_55 dJx4a65c_init_da8c8_5 ?_
  refine zp_List_elementData C I ha zm_56 dJx4a65c_init_da8c8_8 (fun H locs I => ?_)
  exact zr_vret C I hr hlk (⟨rfl, rfl⟩) (Nat.le_of_ble_eq_true rfl) (Nat.le_of_ble_eq_true rfl) dJx4a65c_init_da8c8_11

set_option maxRecDepth 100000 in
set_option maxHeartbeats 4000000 in
theorem k_J8_newLength_cabcc (l : Launch) (g : zG) (S : zS) (n : Nat) (h1 : 10 ≤ n) (h2 : n ≤ 100000) : zM l yJ8_newLength_cabcc cJ8_newLength_cabcc 4 (some .int) (zrm 1 0 0) g [.int (nI n), .int 1, .int (nI (n / 2))] S (fun w S' => w = some (.int (nI (n + n / 2))) ∧ S' = S) := by
  refine zM_of (nm := "newLength") (by decide) rfl (Nat.le_of_ble_eq_true rfl) ?_
  intro p e s m args below meth c A ls C hr hlk hin I hl
  have C : CallFix p m c cJ8_newLength_cabcc 4 s args zc_W RJ8 := C
  have hx := C.1
  have hb := C.2.1
  have hl : lv_has ls 4 [(0, .int (nI n)), (1, .int 1), (2, .int (nI (n / 2)))] := hl
  refine lv_iload_n hx hb dJ8_newLength_cabcc_0 rfl (lv_at hl 0 rfl) ?_
  refine lv_iload_n hx hb dJ8_newLength_cabcc_1 rfl (lv_at hl 1 rfl) ?_
  refine lv_iload_n hx hb dJ8_newLength_cabcc_2 rfl (lv_at hl 2 rfl) ?_
  refine zr_max C zm_206 zm_207 zm_28 zm_208 hl.1 (Nat.le_of_ble_eq_true rfl) (Nat.le_of_ble_eq_true rfl) (Nat.le_of_ble_eq_true rfl) (Nat.le_of_ble_eq_true rfl) dJ8_newLength_cabcc_3 ?_
  refine zr_top (y := nI (n / 2)) (if_pos ((nI_ltI (a := 1) (b := n / 2) (by omega) (by omega)).mpr (by omega))) ?_
  refine lv_iadd hx hb dJ8_newLength_cabcc_6 ?_
  refine zr_top (y := nI (n + (n / 2))) (nI_add n (n / 2)) ?_
  refine lv_istore_n (lv' := [(3, .int (nI (n + (n / 2)))), (0, .int (nI n)), (1, .int 1), (2, .int (nI (n / 2)))]) hx hb dJ8_newLength_cabcc_7 rfl hl (by decide) rfl (fun ls hl => ?_)
  refine lv_iconst (v := 0) hx hb dJ8_newLength_cabcc_8 (by decide) ?_
  refine lv_iload_n hx hb dJ8_newLength_cabcc_9 rfl (lv_at hl 0 rfl) ?_
  refine lv_icmp_ge (tgt := 21) hx hb dJ8_newLength_cabcc_10 (by decide) (fun h9 => absurd h9 (fun h8 => absurd ((nI_leI (a := n + (n / 2)) (b := 0) (by omega) (by omega)).mp h8) (by omega))) (fun _ => ?_)
  refine lv_iload_n hx hb dJ8_newLength_cabcc_13 rfl (lv_at hl 0 rfl) ?_
  refine lv_ldc (v := 2147483639) hx hb C.2.2.2.1 (C.2.2.2.2 _ zm_209) dJ8_newLength_cabcc_14 ?_
  refine lv_icmp_gt (tgt := 21) hx hb dJ8_newLength_cabcc_16 (by decide) (fun h9 => absurd h9 (fun h8 => absurd ((nI_ltI (a := 2147483639) (b := n + (n / 2)) (by omega) (by omega)).mp h8) (by omega))) (fun _ => ?_)
  refine lv_iload_n hx hb dJ8_newLength_cabcc_19 rfl (lv_at hl 0 rfl) ?_
  exact zr_iret C I hr hlk (⟨rfl, rfl⟩) (Nat.le_of_ble_eq_true rfl) (Nat.le_of_ble_eq_true rfl) dJ8_newLength_cabcc_20

set_option maxRecDepth 100000 in
set_option maxHeartbeats 4000000 in
theorem k_J7_copyOf_6403c (l : Launch) (g : zG) (S : zS) (ar n k : Nat) (h3 : zh_at S 8 ar) (h4 : zh_N S ar = n) (h5 : n ≤ k) (h6 : k ≤ 200) (hel : ∀ i : Nat, i < n → ∀ y : Nat, zh_Q S ar i = some y → zh_at S 1 y ∨ zh_at S 2 y) : zM l yJ7_copyOf_6403c cJ7_copyOf_6403c 4 (some (.array (.object "java/lang/Object"))) (zrm 1 1 200) g [.ref ar, .int (nI k), .ref (g.2.2.1.2 99 0)] S (fun w S' => ∃ q, q ∉ zh_L S ∧ w = some (.ref q) ∧ S' = zh_sQ (zh_nA S q 8 k) q (va_cpy (zh_Q S ar) (fun _ => none) 0 0 n)) := by
  refine zM_of (nm := "copyOf") (by decide) rfl (Nat.le_of_ble_eq_true rfl) ?_
  intro p e s m args below meth c A ls C hr hlk hin I hl
  have C : CallFix p m c cJ7_copyOf_6403c 4 s args zc_W RJ7 := C
  have hx := C.1
  have hb := C.2.1
  have hl : lv_has ls 4 [(0, .ref ar), (1, .int (nI k)), (2, .ref (g.2.2.1.2 99 0))] := hl
  refine lv_aload_n hx hb dJ7_copyOf_6403c_0 rfl (lv_at hl 2 rfl) ?_
  refine zr_ldcC C I zm_231 dJ7_copyOf_6403c_1 ?_
  refine lv_acmp_ne (rx := some (g.2.2.1.2 99 0)) (ry := some (g.2.2.1.2 99 0)) (tgt := 13) hx hb dJ7_copyOf_6403c_3 (by decide) (fun h9 => absurd rfl h9) (fun _ => ?_)
  refine lv_iload_n hx hb dJ7_copyOf_6403c_6 rfl (lv_at hl 1 rfl) ?_
  have h6b : 0 + k ≤ (zrm 1 1 200).slots := by show 0 + k ≤ 200; omega
  refine zr_newQ (N := k) C I zm_232 rfl (by omega) (Nat.le_of_ble_eq_true rfl) h6b dJ7_copyOf_6403c_7 (fun q H hq I => ?_)
  refine W.widen (k := 1) (n := 200) (Nat.le_refl _) h6b ?_
  have eA : zh_N (zh_nA S q 8 k) ar = n := (va_up_ne _ _ (fun e9 : ar = q => hq (e9 ▸ h3.1))).trans h4
  have eQ : zh_Q (zh_nA S q 8 k) ar = zh_Q S ar := va_up_ne _ _ (fun e9 : ar = q => hq (e9 ▸ h3.1))
  have eq1 : zh_N (zh_nA S q 8 k) q = k := va_up_self _ _ _
  have eq2 : zh_Q (zh_nA S q 8 k) q = (fun _ => none) := va_up_self _ _ _
  refine lv_goto (tgt := 24) hx hb dJ7_copyOf_6403c_10 (by decide) ?_
  refine lv_astore_n (lv' := [(3, .ref q), (0, .ref ar), (1, .int (nI k)), (2, .ref (g.2.2.1.2 99 0))]) hx hb dJ7_copyOf_6403c_24 rfl hl (by decide) rfl (fun ls hl => ?_)
  refine lv_aload_n hx hb dJ7_copyOf_6403c_25 rfl (lv_at hl 1 rfl) ?_
  refine lv_iconst (v := 0) hx hb dJ7_copyOf_6403c_26 (by decide) ?_
  refine lv_aload_n hx hb dJ7_copyOf_6403c_27 rfl (lv_at hl 0 rfl) ?_
  refine lv_iconst (v := 0) hx hb dJ7_copyOf_6403c_28 (by decide) ?_
  refine lv_aload_n hx hb dJ7_copyOf_6403c_29 rfl (lv_at hl 1 rfl) ?_
  refine zr_len (kd := 8) (t := 2) (N := n) C I (zh_at_nA h3 hq) rfl rfl (eA) dJ7_copyOf_6403c_30 ?_
  refine lv_iload_n hx hb dJ7_copyOf_6403c_31 rfl (lv_at hl 2 rfl) ?_
  refine zr_min C zm_233 zm_234 zm_28 zm_235 hl.1 (Nat.le_of_ble_eq_true rfl) (Nat.le_of_ble_eq_true rfl) (Nat.le_of_ble_eq_true rfl) (Nat.le_of_ble_eq_true rfl) dJ7_copyOf_6403c_32 ?_
  refine zr_top (y := nI n) (show (if nI k < nI n then nI k else nI n) = nI n from if_neg (fun h9 => absurd ((nI_ltI (a := k) (b := n) (by omega) (by omega)).mp h9) (by omega))) ?_
  have hel2 : ∀ i : Nat, i < n → ∀ y : Nat, zh_Q (zh_nA S q 8 k) ar i = some y → zh_at (zh_nA S q 8 k) 1 y ∨ zh_at (zh_nA S q 8 k) 2 y := fun i hi y hy => by
    rw [eQ] at hy
    exact (hel i hi y hy).imp (fun h => zh_at_nA h hq) (fun h => zh_at_nA h hq)
  refine zr_copy (n := n) C I (zh_at_nA h3 hq) zh_at_newA (by omega) (by rw [eA]; exact Nat.le_refl _) (by rw [eq1]; exact h5) hel2 zm_236 zm_238 zm_237 zm_30 hl.1 (Nat.le_of_ble_eq_true rfl) (Nat.le_of_ble_eq_true rfl) dJ7_copyOf_6403c_35 (fun H locs I => ?_)
  rw [eQ, eq2] at I
  refine lv_aload_n hx hb dJ7_copyOf_6403c_38 rfl (lv_at hl 0 rfl) ?_
  exact zr_aret C I hr (Or.inr ⟨_, rfl⟩) (Or.inr ⟨_, rfl⟩) hlk (⟨q, hq, rfl, rfl⟩) (Nat.le_of_ble_eq_true rfl) (Nat.le_of_ble_eq_true rfl) dJ7_copyOf_6403c_39

set_option maxRecDepth 100000 in
set_option maxHeartbeats 4000000 in
theorem k_J7_copyOf_1904c (l : Launch) (g : zG) (S : zS) (ar n k : Nat) (h3 : zh_at S 8 ar) (h4 : zh_N S ar = n) (h5 : n ≤ k) (h6 : k ≤ 200) (hel : ∀ i : Nat, i < n → ∀ y : Nat, zh_Q S ar i = some y → zh_at S 1 y ∨ zh_at S 2 y) : zM l yJ7_copyOf_1904c cJ7_copyOf_1904c 2 (some (.array (.object "java/lang/Object"))) (zrm 2 1 200) g [.ref ar, .int (nI k)] S (fun w S' => ∃ q, q ∉ zh_L S ∧ w = some (.ref q) ∧ S' = zh_sQ (zh_nA S q 8 k) q (va_cpy (zh_Q S ar) (fun _ => none) 0 0 n)) := by
  refine zM_of (nm := "copyOf") (by decide) rfl (Nat.le_of_ble_eq_true rfl) ?_
  intro p e s m args below meth c A ls C hr hlk hin I hl
  have C : CallFix p m c cJ7_copyOf_1904c 2 s args zc_W RJ7 := C
  have hx := C.1
  have hb := C.2.1
  have hl : lv_has ls 2 [(0, .ref ar), (1, .int (nI k))] := hl
  refine lv_aload_n hx hb dJ7_copyOf_1904c_0 rfl (lv_at hl 0 rfl) ?_
  refine lv_iload_n hx hb dJ7_copyOf_1904c_1 rfl (lv_at hl 1 rfl) ?_
  refine lv_aload_n hx hb dJ7_copyOf_1904c_2 rfl (lv_at hl 0 rfl) ?_
  refine zr_getC C I h3 zm_216 zm_482 zm_217 zm_227 hl.1 (Nat.le_of_ble_eq_true rfl) (Nat.le_of_ble_eq_true rfl) dJ7_copyOf_1904c_3 ?_
  refine zc_S (n := 3) (rest := []) C I (k_J7_copyOf_6403c l g S ar n k h3 h4 h5 h6 hel) zm_228 zm_229 zm_29 zm_230 rfl hl.1 dJ7_copyOf_1904c_6 (by decide +kernel) rfl ⟨Nat.le_of_ble_eq_true rfl, Nat.le_of_ble_eq_true rfl⟩ (Nat.le_of_ble_eq_true rfl) ⟨Nat.le_of_ble_eq_true rfl, Nat.le_of_ble_eq_true rfl⟩ (fun v S' H locs hq I => ?_)
  obtain ⟨q, hq, rfl, eS⟩ := hq
  rw [eS] at I
  exact zr_aret C I hr (Or.inr ⟨_, rfl⟩) (Or.inr ⟨_, rfl⟩) hlk (⟨q, hq, rfl, rfl⟩) (Nat.le_of_ble_eq_true rfl) (Nat.le_of_ble_eq_true rfl) dJ7_copyOf_1904c_9

set_option maxRecDepth 100000 in
set_option maxHeartbeats 4000000 in
theorem k_grow0 (l : Launch) (g : zG) (S : zS) (pl : Nat) (ha : zh_at S 5 pl) (h2 : zh_R S 30 pl = some g.2.1) : zM l yJx4a65c_grow_92f84 cJx4a65c_grow_92f84 4 (some (.array (.object "java/lang/Object"))) (zrm 3 1 200) g [.ref pl, .int (nI 1)] S (fun w S' => ∃ q, q ∉ zh_L S ∧ w = some (.ref q) ∧ S' = zh_sR (zh_nA S q 8 10) 30 pl (some q)) := by
  refine zM_of (nm := "grow") (by decide) rfl (Nat.le_of_ble_eq_true rfl) ?_
  intro p e s m args below meth c A ls C hr hlk hin I hl
  have C : CallFix p m c cJx4a65c_grow_92f84 4 s args zc_W RJx4a65c := C
  have hx := C.1
  have hb := C.2.1
  have hl : lv_has ls 4 [(0, .ref pl), (1, .int (nI 1))] := hl
  refine lv_aload_n hx hb dJx4a65c_grow_92f84_0 rfl (lv_at hl 0 rfl) ?_
  refine zg_List_elementData (v := g.2.1) C I ha zm_56 (h2) dJx4a65c_grow_92f84_1 ?_
  refine zr_lenz C I dJx4a65c_grow_92f84_4 ?_
  refine lv_istore_n (lv' := [(2, .int (nI 0)), (0, .ref pl), (1, .int (nI 1))]) hx hb dJx4a65c_grow_92f84_5 rfl hl (by decide) rfl (fun ls hl => ?_)
  refine lv_iload_n hx hb dJx4a65c_grow_92f84_6 rfl (lv_at hl 0 rfl) ?_
  refine lv_if_gt (tgt := 20) hx hb dJx4a65c_grow_92f84_7 (by decide) (fun h9 => absurd h9 (fun h8 => absurd ((nI_ltI (a := 0) (b := 0) (by omega) (by omega)).mp h8) (by omega))) (fun _ => ?_)
  refine lv_aload_n hx hb dJx4a65c_grow_92f84_10 rfl (lv_at hl 1 rfl) ?_
  refine zg_List_elementData (v := g.2.1) C I ha zm_56 (h2) dJx4a65c_grow_92f84_11 ?_
  refine zr_gets C I zm_55 dJx4a65c_grow_92f84_14 ?_
  refine lv_acmp_eq (rx := some g.2.1) (ry := some g.2.1) (tgt := 45) hx hb dJx4a65c_grow_92f84_17 (by decide) (fun _ => ?_) (fun h9 => absurd rfl h9)
  refine lv_aload_n hx hb dJx4a65c_grow_92f84_45 rfl (lv_at hl 1 rfl) ?_
  refine lv_bipush (v := 10) hx hb dJx4a65c_grow_92f84_46 (by decide) ?_
  refine lv_iload_n hx hb dJx4a65c_grow_92f84_48 rfl (lv_at hl 2 rfl) ?_
  refine zr_max C zm_239 zm_207 zm_28 zm_208 hl.1 (Nat.le_of_ble_eq_true rfl) (Nat.le_of_ble_eq_true rfl) (Nat.le_of_ble_eq_true rfl) (Nat.le_of_ble_eq_true rfl) dJx4a65c_grow_92f84_49 ?_
  refine zr_top (y := nI 10) (if_neg (by decide)) ?_
  refine zr_newQ (N := 10) C I zm_240 rfl (by omega) (Nat.le_of_ble_eq_true rfl) (Nat.le_of_ble_eq_true rfl) dJx4a65c_grow_92f84_52 (fun q H hq I => ?_)
  refine lv_dup_x1 hx hb dJx4a65c_grow_92f84_55 rfl rfl ?_
  refine zp_List_elementData C I (zh_at_nA ha hq) zm_56 dJx4a65c_grow_92f84_56 (fun H locs I => ?_)
  exact zr_aret C I hr (Or.inr ⟨_, rfl⟩) (Or.inr ⟨_, rfl⟩) hlk (⟨q, hq, rfl, rfl⟩) (Nat.le_of_ble_eq_true rfl) (Nat.le_of_ble_eq_true rfl) dJx4a65c_grow_92f84_59

set_option maxRecDepth 100000 in
set_option maxHeartbeats 4000000 in
theorem k_growN (l : Launch) (g : zG) (S : zS) (pl ar n : Nat) (ha : zh_at S 5 pl) (h2 : zh_R S 30 pl = some ar) (h3 : zh_at S 8 ar) (h4 : zh_N S ar = n) (h5 : 10 ≤ n) (h6 : n ≤ 100) (hel : ∀ i : Nat, i < n → ∀ y : Nat, zh_Q S ar i = some y → zh_at S 1 y ∨ zh_at S 2 y) : zM l yJx4a65c_grow_92f84 cJx4a65c_grow_92f84 4 (some (.array (.object "java/lang/Object"))) (zrm 3 1 200) g [.ref pl, .int (nI (n + 1))] S (fun w S' => ∃ q, q ∉ zh_L S ∧ w = some (.ref q) ∧ S' = zh_sR (zh_sQ (zh_nA S q 8 (n + n / 2)) q (va_cpy (zh_Q S ar) (fun _ => none) 0 0 n)) 30 pl (some q)) := by
  refine zM_of (nm := "grow") (by decide) rfl (Nat.le_of_ble_eq_true rfl) ?_
  intro p e s m args below meth c A ls C hr hlk hin I hl
  have C : CallFix p m c cJx4a65c_grow_92f84 4 s args zc_W RJx4a65c := C
  have hx := C.1
  have hb := C.2.1
  have hl : lv_has ls 4 [(0, .ref pl), (1, .int (nI (n + 1)))] := hl
  refine lv_aload_n hx hb dJx4a65c_grow_92f84_0 rfl (lv_at hl 0 rfl) ?_
  refine zg_List_elementData (v := ar) C I ha zm_56 (h2) dJx4a65c_grow_92f84_1 ?_
  refine zr_len (kd := 8) (t := 2) (N := n) C I h3 rfl rfl (h4) dJx4a65c_grow_92f84_4 ?_
  refine lv_istore_n (lv' := [(2, .int (nI n)), (0, .ref pl), (1, .int (nI (n + 1)))]) hx hb dJx4a65c_grow_92f84_5 rfl hl (by decide) rfl (fun ls hl => ?_)
  refine lv_iload_n hx hb dJx4a65c_grow_92f84_6 rfl (lv_at hl 0 rfl) ?_
  refine lv_if_gt (tgt := 20) hx hb dJx4a65c_grow_92f84_7 (by decide) (fun _ => ?_) (fun h9 => absurd ((nI_ltI (a := 0) (b := n) (by omega) (by omega)).mpr (by omega)) h9)
  refine lv_iload_n hx hb dJx4a65c_grow_92f84_20 rfl (lv_at hl 0 rfl) ?_
  refine lv_iload_n hx hb dJx4a65c_grow_92f84_21 rfl (lv_at hl 2 rfl) ?_
  refine lv_iload_n hx hb dJx4a65c_grow_92f84_22 rfl (lv_at hl 0 rfl) ?_
  refine lv_isub hx hb dJx4a65c_grow_92f84_23 ?_
  refine zr_top (y := 1) (by rw [pk_sub (a := n + 1) (b := n) (by omega), Nat.add_sub_cancel_left]; rfl) ?_
  refine lv_iload_n hx hb dJx4a65c_grow_92f84_24 rfl (lv_at hl 0 rfl) ?_
  refine lv_iconst (v := 1) hx hb dJx4a65c_grow_92f84_25 (by decide) ?_
  refine lv_ishr hx hb dJx4a65c_grow_92f84_26 ?_
  refine zr_top (y := nI (n / 2)) (by have k := pk_shrN (n := n) (by omega) ((1 : Int32) &&& 31) 1 (by decide); rw [Nat.pow_one] at k; exact k) ?_
  refine zc_S (n := 3) (rest := []) C I (k_J8_newLength_cabcc l g S n h5 (by omega)) zm_203 zm_204 zm_27 zm_205 rfl hl.1 dJx4a65c_grow_92f84_27 (by decide +kernel) rfl ⟨Nat.le_of_ble_eq_true rfl, Nat.le_of_ble_eq_true rfl⟩ (Nat.le_of_ble_eq_true rfl) ⟨Nat.le_of_ble_eq_true rfl, Nat.le_of_ble_eq_true rfl⟩ (fun v S' H locs hq I => ?_)
  obtain ⟨rfl, eS⟩ := hq
  rw [eS] at I
  refine lv_istore_n (lv' := [(3, .int (nI (n + n / 2))), (2, .int (nI n)), (0, .ref pl), (1, .int (nI (n + 1)))]) hx hb dJx4a65c_grow_92f84_30 rfl hl (by decide) rfl (fun ls hl => ?_)
  refine lv_aload_n hx hb dJx4a65c_grow_92f84_31 rfl (lv_at hl 2 rfl) ?_
  refine lv_aload_n hx hb dJx4a65c_grow_92f84_32 rfl (lv_at hl 2 rfl) ?_
  refine zg_List_elementData (v := ar) C I ha zm_56 (h2) dJx4a65c_grow_92f84_33 ?_
  refine lv_iload_n hx hb dJx4a65c_grow_92f84_36 rfl (lv_at hl 0 rfl) ?_
  refine zc_S (n := 2) (rest := [.ref pl]) C I (k_J7_copyOf_1904c l g S ar n (n + n / 2) h3 h4 (by omega) (by omega) hel) zm_213 zm_214 zm_29 zm_215 rfl hl.1 dJx4a65c_grow_92f84_37 (by decide +kernel) rfl ⟨Nat.le_of_ble_eq_true rfl, Nat.le_of_ble_eq_true rfl⟩ (Nat.le_of_ble_eq_true rfl) ⟨Nat.le_of_ble_eq_true rfl, Nat.le_of_ble_eq_true rfl⟩ (fun v S' H locs hq I => ?_)
  obtain ⟨q, hq, rfl, eS⟩ := hq
  rw [eS] at I
  refine lv_dup_x1 hx hb dJx4a65c_grow_92f84_40 rfl rfl ?_
  refine zp_List_elementData C I (zh_at_nA (n := n + n / 2) ha hq) zm_56 dJx4a65c_grow_92f84_41 (fun H locs I => ?_)
  exact zr_aret C I hr (Or.inr ⟨_, rfl⟩) (Or.inr ⟨_, rfl⟩) hlk (⟨q, hq, rfl, rfl⟩) (Nat.le_of_ble_eq_true rfl) (Nat.le_of_ble_eq_true rfl) dJx4a65c_grow_92f84_44

set_option maxRecDepth 100000 in
set_option maxHeartbeats 4000000 in
theorem k_growA (l : Launch) (g : zG) (S : zS) (pl : Nat) (ha : zh_at S 5 pl) (h1 : zh_I S 31 pl = nI 0) (h2 : zh_R S 30 pl = some g.2.1) : zM l yJx4a65c_grow_d5877 cJx4a65c_grow_d5877 1 (some (.array (.object "java/lang/Object"))) (zrm 4 1 200) g [.ref pl] S (fun w S' => ∃ q, q ∉ zh_L S ∧ w = some (.ref q) ∧ S' = zh_sR (zh_nA S q 8 10) 30 pl (some q)) := by
  refine zM_of (nm := "grow") (by decide) rfl (Nat.le_of_ble_eq_true rfl) ?_
  intro p e s m args below meth c A ls C hr hlk hin I hl
  have C : CallFix p m c cJx4a65c_grow_d5877 1 s args zc_W RJx4a65c := C
  have hx := C.1
  have hb := C.2.1
  have hl : lv_has ls 1 [(0, .ref pl)] := hl
  refine lv_aload_n hx hb dJx4a65c_grow_d5877_0 rfl (lv_at hl 0 rfl) ?_
  refine lv_aload_n hx hb dJx4a65c_grow_d5877_1 rfl (lv_at hl 0 rfl) ?_
  refine zg_List_size (v := nI 0) C I ha zm_57 (h1) dJx4a65c_grow_d5877_2 ?_
  refine lv_iconst (v := 1) hx hb dJx4a65c_grow_d5877_5 (by decide) ?_
  refine lv_iadd hx hb dJx4a65c_grow_d5877_6 ?_
  refine zr_top (y := nI 1) (rfl) ?_
  refine zc_V (n := 1) (rest := []) C I ha rfl rfl (k_grow0 l g S pl ha h2) zm_200 zm_201 zm_3 zm_19 zm_202 rfl hl.1 dJx4a65c_grow_d5877_7 (by decide +kernel) rfl ⟨Nat.le_of_ble_eq_true rfl, Nat.le_of_ble_eq_true rfl⟩ (Nat.le_of_ble_eq_true rfl) ⟨Nat.le_of_ble_eq_true rfl, Nat.le_of_ble_eq_true rfl⟩ (fun v S' H locs hq I => ?_)
  obtain ⟨q, hq, rfl, eS⟩ := hq
  rw [eS] at I
  exact zr_aret C I hr (Or.inr ⟨_, rfl⟩) (Or.inr ⟨_, rfl⟩) hlk (⟨q, hq, rfl, rfl⟩) (Nat.le_of_ble_eq_true rfl) (Nat.le_of_ble_eq_true rfl) dJx4a65c_grow_d5877_10

set_option maxRecDepth 100000 in
set_option maxHeartbeats 4000000 in
theorem k_growB (l : Launch) (g : zG) (S : zS) (pl ar n : Nat) (ha : zh_at S 5 pl) (h2 : zh_R S 30 pl = some ar) (h3 : zh_at S 8 ar) (h4 : zh_N S ar = n) (h5 : 10 ≤ n) (h6 : n ≤ 100) (hel : ∀ i : Nat, i < n → ∀ y : Nat, zh_Q S ar i = some y → zh_at S 1 y ∨ zh_at S 2 y) (h1 : zh_I S 31 pl = nI n) : zM l yJx4a65c_grow_d5877 cJx4a65c_grow_d5877 1 (some (.array (.object "java/lang/Object"))) (zrm 4 1 200) g [.ref pl] S (fun w S' => ∃ q, q ∉ zh_L S ∧ w = some (.ref q) ∧ S' = zh_sR (zh_sQ (zh_nA S q 8 (n + n / 2)) q (va_cpy (zh_Q S ar) (fun _ => none) 0 0 n)) 30 pl (some q)) := by
  refine zM_of (nm := "grow") (by decide) rfl (Nat.le_of_ble_eq_true rfl) ?_
  intro p e s m args below meth c A ls C hr hlk hin I hl
  have C : CallFix p m c cJx4a65c_grow_d5877 1 s args zc_W RJx4a65c := C
  have hx := C.1
  have hb := C.2.1
  have hl : lv_has ls 1 [(0, .ref pl)] := hl
  refine lv_aload_n hx hb dJx4a65c_grow_d5877_0 rfl (lv_at hl 0 rfl) ?_
  refine lv_aload_n hx hb dJx4a65c_grow_d5877_1 rfl (lv_at hl 0 rfl) ?_
  refine zg_List_size (v := nI n) C I ha zm_57 (h1) dJx4a65c_grow_d5877_2 ?_
  refine lv_iconst (v := 1) hx hb dJx4a65c_grow_d5877_5 (by decide) ?_
  refine lv_iadd hx hb dJx4a65c_grow_d5877_6 ?_
  refine zr_top (y := nI (n + 1)) (nI_add n 1) ?_
  refine zc_V (n := 1) (rest := []) C I ha rfl rfl (k_growN l g S pl ar n ha h2 h3 h4 h5 h6 hel) zm_200 zm_201 zm_3 zm_19 zm_202 rfl hl.1 dJx4a65c_grow_d5877_7 (by decide +kernel) rfl ⟨Nat.le_of_ble_eq_true rfl, Nat.le_of_ble_eq_true rfl⟩ (Nat.le_of_ble_eq_true rfl) ⟨Nat.le_of_ble_eq_true rfl, Nat.le_of_ble_eq_true rfl⟩ (fun v S' H locs hq I => ?_)
  obtain ⟨q, hq, rfl, eS⟩ := hq
  rw [eS] at I
  exact zr_aret C I hr (Or.inr ⟨_, rfl⟩) (Or.inr ⟨_, rfl⟩) hlk (⟨q, hq, rfl, rfl⟩) (Nat.le_of_ble_eq_true rfl) (Nat.le_of_ble_eq_true rfl) dJx4a65c_grow_d5877_10
end
section
/-! ArrayList.add -/
/-- what add(q) did to a list pl of n elements, whose array was ar -/
def zl_add (S S' : zS) (pl ar n q : Nat) : Prop :=
  (∀ a : Nat, a ∈ zh_L S → a ∈ zh_L S' ∧ zh_K S' a = zh_K S a ∧ zh_N S' a = zh_N S a ∧ zh_A S' a = zh_A S a ∧ zh_J S' a = zh_J S a ∧ (a ≠ ar → zh_Q S' a = zh_Q S a)) ∧
  (∀ j a : Nat, j ≠ 30 → (j ≠ 31 ∨ a ≠ pl) → zh_I S' j a = zh_I S j a) ∧
  (∀ j a : Nat, (j ≠ 30 ∨ a ≠ pl) → zh_R S' j a = zh_R S j a) ∧
  zh_I S' 31 pl = nI (n + 1) ∧
  ∃ ar' : Nat, zh_R S' 30 pl = some ar' ∧ zh_at S' 8 ar' ∧ n + 1 ≤ zh_N S' ar' ∧ 10 ≤ zh_N S' ar' ∧ zh_N S' ar' ≤ 150 ∧ (∀ i : Nat, i < n → zh_Q S' ar' i = zh_Q S ar i) ∧ zh_Q S' ar' n = some q ∧ (ar' = ar ∨ ar' ∉ zh_L S)
theorem zl_addB {S : zS} {pl ar n q : Nat} (h2 : zh_R S 30 pl = some ar) (h3 : zh_at S 8 ar) (h4 : n < zh_N S ar) (h5 : 10 ≤ zh_N S ar) (h6 : zh_N S ar ≤ 150) : zl_add S (zh_sI (zh_sQ S ar (va_up (zh_Q S ar) n (some q))) 31 pl (nI (n + 1))) pl ar n q := by
  refine ⟨fun a ha => ⟨ha, rfl, rfl, rfl, rfl, fun h => va_up_ne _ _ h⟩, fun j a h30 h => ?_, fun j a h => rfl, zh_u_s _ _ _ _, ar, h2, h3, h4, h5, h6, fun i hi => ?_, ?_, Or.inl rfl⟩
  · show zh_u (zh_I S) 31 pl _ j a = _
    rcases h with h | h
    · exact zh_u_j _ _ _ _ h
    · exact zh_u_a _ _ _ _ h
  · show va_up (zh_Q S) ar _ ar i = _
    rw [va_up_self, va_up_ne _ _ (by omega)]
  · show va_up (zh_Q S) ar _ ar n = _
    rw [va_up_self, va_up_self]
theorem zl_addN {S S1 : zS} {pl ar r n k q : Nat} (hr : r ∉ zh_L S) (hL : zh_L S1 = zh_L S ++ [r]) (hK : zh_K S1 = va_up (zh_K S) r 8) (hN : zh_N S1 = va_up (zh_N S) r k) (hA : ∀ a : Nat, a ≠ r → zh_A S1 a = zh_A S a) (hJ : ∀ a : Nat, a ≠ r → zh_J S1 a = zh_J S a) (hQ : ∀ a : Nat, a ≠ r → zh_Q S1 a = zh_Q S a) (hI : zh_I S1 = zh_I S) (hR : zh_R S1 = zh_u (zh_R S) 30 pl (some r)) (hq : ∀ i : Nat, i < n → zh_Q S1 r i = zh_Q S ar i) (b1 : n + 1 ≤ k) (b2 : 10 ≤ k) (b3 : k ≤ 150) : zl_add S (zh_sI (zh_sQ S1 r (va_up (zh_Q S1 r) n (some q))) 31 pl (nI (n + 1))) pl ar n q := by
  have ne : ∀ a : Nat, a ∈ zh_L S → a ≠ r := fun a ha e => hr (e ▸ ha)
  refine ⟨fun a ha => ⟨?_, ?_, ?_, hA a (ne a ha), hJ a (ne a ha), fun _ => ?_⟩, fun j a h30 h => ?_, fun j a h => ?_, zh_u_s _ _ _ _, r, ?_, ⟨?_, ?_⟩, ?_, ?_, ?_, fun i hi => ?_, ?_, Or.inr hr⟩
  · show a ∈ zh_L S1
    rw [hL]; exact List.mem_append_left _ ha
  · show zh_K S1 a = _
    rw [hK, va_up_ne _ _ (ne a ha)]
  · show zh_N S1 a = _
    rw [hN, va_up_ne _ _ (ne a ha)]
  · show va_up (zh_Q S1) r _ a = _
    rw [va_up_ne _ _ (ne a ha), hQ a (ne a ha)]
  · show zh_u (zh_I S1) 31 pl _ j a = _
    rw [hI]
    rcases h with h | h
    · exact zh_u_j _ _ _ _ h
    · exact zh_u_a _ _ _ _ h
  · show zh_R S1 j a = _
    rw [hR]
    rcases h with h | h
    · exact zh_u_j _ _ _ _ h
    · exact zh_u_a _ _ _ _ h
  · show zh_R S1 30 pl = _
    rw [hR, zh_u_s]
  · show r ∈ zh_L S1
    rw [hL]; exact List.mem_append_right _ (List.mem_singleton.mpr rfl)
  · show zh_K S1 r = 8
    rw [hK, va_up_self]
  · show n + 1 ≤ zh_N S1 r
    rw [hN, va_up_self]; exact b1
  · show 10 ≤ zh_N S1 r
    rw [hN, va_up_self]; exact b2
  · show zh_N S1 r ≤ 150
    rw [hN, va_up_self]; exact b3
  · show va_up (zh_Q S1) r _ r i = _
    rw [va_up_self, va_up_ne _ _ (by omega), hq i hi]
  · show va_up (zh_Q S1) r _ r n = _
    rw [va_up_self, va_up_self]

set_option maxRecDepth 100000 in
set_option maxHeartbeats 4000000 in
theorem k_add3 (l : Launch) (g : zG) (S : zS) (pl ar n q kq : Nat) (ha : zh_at S 5 pl) (h1 : zh_I S 31 pl = nI n) (h2 : zh_R S 30 pl = some ar) (hk : (n = 0 ∧ ar = g.2.1) ∨ (zh_at S 8 ar ∧ n ≤ zh_N S ar ∧ 10 ≤ zh_N S ar ∧ zh_N S ar ≤ 150)) (hn : n ≤ 100) (hq : zh_at S kq q) (hq12 : kq = 1 ∨ kq = 2) (hel : ∀ i : Nat, i < n → ∀ y : Nat, zh_Q S ar i = some y → zh_at S 1 y ∨ zh_at S 2 y) : zM l yJx4a65c_add_72be8 cJx4a65c_add_72be8 4 none (zrm 5 1 200) g [.ref pl, .ref q, .ref ar, .int (nI n)] S (fun w S' => w = none ∧ zl_add S S' pl ar n q) := by
  refine zM_of (nm := "add") (by decide) rfl (Nat.le_of_ble_eq_true rfl) ?_
  intro p e s m args below meth c A ls C hr hlk hin I hl
  have C : CallFix p m c cJx4a65c_add_72be8 4 s args zc_W RJx4a65c := C
  have hx := C.1
  have hb := C.2.1
  have hl : lv_has ls 4 [(0, .ref pl), (1, .ref q), (2, .ref ar), (3, .int (nI n))] := hl
  rcases hk with ⟨hn0, hz⟩ | ⟨h3, h4, h5, h6⟩
  · refine lv_iload_n hx hb dJx4a65c_add_72be8_0 rfl (lv_at hl 3 rfl) ?_
    refine lv_aload_n hx hb dJx4a65c_add_72be8_1 rfl (lv_at hl 2 rfl) ?_
    rw [hz]
    refine zr_lenz C I dJx4a65c_add_72be8_2 ?_
    refine lv_icmp_ne (tgt := 11) hx hb dJx4a65c_add_72be8_3 (by decide) (fun h9 => absurd ((nI_eq (a := n) (b := 0) (by omega) (by omega)).mpr (hn0)) h9) (fun _ => ?_)
    refine lv_aload_n hx hb dJx4a65c_add_72be8_6 rfl (lv_at hl 0 rfl) ?_
    refine zc_V (n := 0) (rest := []) C I ha rfl rfl (k_growA l g S pl ha (by rw [h1, hn0]) (by rw [h2, hz])) zm_197 zm_198 zm_2 zm_19 zm_199 rfl hl.1 dJx4a65c_add_72be8_7 (by decide +kernel) rfl ⟨Nat.le_of_ble_eq_true rfl, Nat.le_of_ble_eq_true rfl⟩ (Nat.le_of_ble_eq_true rfl) ⟨Nat.le_of_ble_eq_true rfl, Nat.le_of_ble_eq_true rfl⟩ (fun v S' H locs hq_ I => ?_)
    obtain ⟨r, hr2, rfl, eS⟩ := hq_
    rw [eS] at I
    have eN : zh_N (zh_sR (zh_nA S r 8 10) 30 pl (some r)) r = 10 := va_up_self _ _ _
    refine lv_astore_n (lv' := [(2, .ref r), (0, .ref pl), (1, .ref q), (3, .int (nI n))]) hx hb dJx4a65c_add_72be8_10 rfl hl (by decide) rfl (fun ls hl => ?_)
    refine lv_aload_n hx hb dJx4a65c_add_72be8_11 rfl (lv_at hl 0 rfl) ?_
    refine lv_iload_n hx hb dJx4a65c_add_72be8_12 rfl (lv_at hl 3 rfl) ?_
    refine lv_aload_n hx hb dJx4a65c_add_72be8_13 rfl (lv_at hl 2 rfl) ?_
    have hca : ∃ (ci : Nat) (qc : vw_C) (fs : List Value), zh_e g (zh_sR (zh_nA S r 8 10) 30 pl (some r)) q kq = .inr (ci, fs) ∧ vwCl[ci]? = some qc ∧ Cond.castable qc.1 "java/lang/Object" ∈ zn_ws := by
      rcases hq12 with rfl | rfl
      · exact ⟨2, _, _, rfl, rfl, by decide +kernel⟩
      · exact ⟨3, _, _, rfl, rfl, by decide +kernel⟩
    obtain ⟨ci, qc, fs, g1, g2, g3⟩ := hca
    refine zr_qast (n := n) C I (zh_at_newA (S := S) (q := r) (k := 8) (n := 10)) (zh_at_nA (n := 10) hq hr2) g1 g2 g3 (by rw [eN]; exact vp_in_nI (by omega) (by omega)) (nI_clamp (by omega)) dJx4a65c_add_72be8_14 (fun H locs I => ?_)
    refine lv_aload_n hx hb dJx4a65c_add_72be8_15 rfl (lv_at hl 1 rfl) ?_
    refine lv_iload_n hx hb dJx4a65c_add_72be8_16 rfl (lv_at hl 3 rfl) ?_
    refine lv_iconst (v := 1) hx hb dJx4a65c_add_72be8_17 (by decide) ?_
    refine lv_iadd hx hb dJx4a65c_add_72be8_18 ?_
    refine zr_top (y := nI (n + 1)) (nI_add n 1) ?_
    refine zp_List_size C I (zh_at_nA (n := 10) ha hr2) zm_57 dJx4a65c_add_72be8_19 (fun H locs I => ?_)
    exact zr_vret C I hr hlk (⟨rfl, zl_addN (k := 10) hr2 rfl rfl rfl (fun a h => va_up_ne _ _ h) (fun a h => va_up_ne _ _ h) (fun a h => va_up_ne _ _ h) rfl rfl (fun i hi => by omega) (by omega) (by omega) (by omega)⟩) (Nat.le_of_ble_eq_true rfl) (Nat.le_of_ble_eq_true rfl) dJx4a65c_add_72be8_22
  · by_cases hf : n = zh_N S ar
    · refine lv_iload_n hx hb dJx4a65c_add_72be8_0 rfl (lv_at hl 3 rfl) ?_
      refine lv_aload_n hx hb dJx4a65c_add_72be8_1 rfl (lv_at hl 2 rfl) ?_
      refine zr_len (kd := 8) (t := 2) (N := n) C I h3 rfl rfl (hf.symm) dJx4a65c_add_72be8_2 ?_
      refine lv_icmp_ne (tgt := 11) hx hb dJx4a65c_add_72be8_3 (by decide) (fun h9 => absurd ((nI_eq (a := n) (b := n) (by omega) (by omega)).mpr (rfl)) h9) (fun _ => ?_)
      refine lv_aload_n hx hb dJx4a65c_add_72be8_6 rfl (lv_at hl 0 rfl) ?_
      refine zc_V (n := 0) (rest := []) C I ha rfl rfl (k_growB l g S pl ar n ha h2 h3 hf.symm (by omega) (by omega) hel h1) zm_197 zm_198 zm_2 zm_19 zm_199 rfl hl.1 dJx4a65c_add_72be8_7 (by decide +kernel) rfl ⟨Nat.le_of_ble_eq_true rfl, Nat.le_of_ble_eq_true rfl⟩ (Nat.le_of_ble_eq_true rfl) ⟨Nat.le_of_ble_eq_true rfl, Nat.le_of_ble_eq_true rfl⟩ (fun v S' H locs hq_ I => ?_)
      obtain ⟨r, hr2, rfl, eS⟩ := hq_
      rw [eS] at I
      have eN : zh_N (zh_sR (zh_sQ (zh_nA S r 8 (n + n / 2)) r (va_cpy (zh_Q S ar) (fun _ => none) 0 0 n)) 30 pl (some r)) r = n + n / 2 := va_up_self _ _ _
      have eQ : zh_Q (zh_sR (zh_sQ (zh_nA S r 8 (n + n / 2)) r (va_cpy (zh_Q S ar) (fun _ => none) 0 0 n)) 30 pl (some r)) r = va_cpy (zh_Q S ar) (fun _ => none) 0 0 n := va_up_self _ _ _
      refine lv_astore_n (lv' := [(2, .ref r), (0, .ref pl), (1, .ref q), (3, .int (nI n))]) hx hb dJx4a65c_add_72be8_10 rfl hl (by decide) rfl (fun ls hl => ?_)
      refine lv_aload_n hx hb dJx4a65c_add_72be8_11 rfl (lv_at hl 0 rfl) ?_
      refine lv_iload_n hx hb dJx4a65c_add_72be8_12 rfl (lv_at hl 3 rfl) ?_
      refine lv_aload_n hx hb dJx4a65c_add_72be8_13 rfl (lv_at hl 2 rfl) ?_
      have hca : ∃ (ci : Nat) (qc : vw_C) (fs : List Value), zh_e g (zh_sR (zh_sQ (zh_nA S r 8 (n + n / 2)) r (va_cpy (zh_Q S ar) (fun _ => none) 0 0 n)) 30 pl (some r)) q kq = .inr (ci, fs) ∧ vwCl[ci]? = some qc ∧ Cond.castable qc.1 "java/lang/Object" ∈ zn_ws := by
        rcases hq12 with rfl | rfl
        · exact ⟨2, _, _, rfl, rfl, by decide +kernel⟩
        · exact ⟨3, _, _, rfl, rfl, by decide +kernel⟩
      obtain ⟨ci, qc, fs, g1, g2, g3⟩ := hca
      refine zr_qast (n := n) C I (zh_at_newA (S := S) (q := r) (k := 8) (n := n + n / 2)) (zh_at_nA (n := n + n / 2) hq hr2) g1 g2 g3 (by rw [eN]; exact vp_in_nI (by omega) (by omega)) (nI_clamp (by omega)) dJx4a65c_add_72be8_14 (fun H locs I => ?_)
      refine lv_aload_n hx hb dJx4a65c_add_72be8_15 rfl (lv_at hl 1 rfl) ?_
      refine lv_iload_n hx hb dJx4a65c_add_72be8_16 rfl (lv_at hl 3 rfl) ?_
      refine lv_iconst (v := 1) hx hb dJx4a65c_add_72be8_17 (by decide) ?_
      refine lv_iadd hx hb dJx4a65c_add_72be8_18 ?_
      refine zr_top (y := nI (n + 1)) (nI_add n 1) ?_
      refine zp_List_size C I (zh_at_nA (n := n + n / 2) ha hr2) zm_57 dJx4a65c_add_72be8_19 (fun H locs I => ?_)
      exact zr_vret C I hr hlk (⟨rfl, zl_addN (k := n + n / 2) hr2 rfl rfl rfl (fun a h => va_up_ne _ _ h) (fun a h => va_up_ne _ _ h) (fun a h => (va_up_ne _ _ h).trans (va_up_ne _ _ h)) rfl rfl (fun i hi => by rw [eQ, pk_cpy_in (Nat.zero_le _) (by omega)]; congr 1; omega) (by omega) (by omega) (by omega)⟩) (Nat.le_of_ble_eq_true rfl) (Nat.le_of_ble_eq_true rfl) dJx4a65c_add_72be8_22
    · refine lv_iload_n hx hb dJx4a65c_add_72be8_0 rfl (lv_at hl 3 rfl) ?_
      refine lv_aload_n hx hb dJx4a65c_add_72be8_1 rfl (lv_at hl 2 rfl) ?_
      refine zr_len (kd := 8) (t := 2) (N := (zh_N S ar)) C I h3 rfl rfl (rfl) dJx4a65c_add_72be8_2 ?_
      refine lv_icmp_ne (tgt := 11) hx hb dJx4a65c_add_72be8_3 (by decide) (fun _ => ?_) (fun h9 => absurd h9 (fun h8 => absurd ((nI_eq (a := n) (b := zh_N S ar) (by omega) (by omega)).mp h8) (hf)))
      refine lv_aload_n hx hb dJx4a65c_add_72be8_11 rfl (lv_at hl 2 rfl) ?_
      refine lv_iload_n hx hb dJx4a65c_add_72be8_12 rfl (lv_at hl 3 rfl) ?_
      refine lv_aload_n hx hb dJx4a65c_add_72be8_13 rfl (lv_at hl 1 rfl) ?_
      have hca : ∃ (ci : Nat) (qc : vw_C) (fs : List Value), zh_e g S q kq = .inr (ci, fs) ∧ vwCl[ci]? = some qc ∧ Cond.castable qc.1 "java/lang/Object" ∈ zn_ws := by
        rcases hq12 with rfl | rfl
        · exact ⟨2, _, _, rfl, rfl, by decide +kernel⟩
        · exact ⟨3, _, _, rfl, rfl, by decide +kernel⟩
      obtain ⟨ci, qc, fs, g1, g2, g3⟩ := hca
      refine zr_qast (n := n) C I h3 hq g1 g2 g3 (vp_in_nI (by omega) (by omega)) (nI_clamp (by omega)) dJx4a65c_add_72be8_14 (fun H locs I => ?_)
      refine lv_aload_n hx hb dJx4a65c_add_72be8_15 rfl (lv_at hl 0 rfl) ?_
      refine lv_iload_n hx hb dJx4a65c_add_72be8_16 rfl (lv_at hl 3 rfl) ?_
      refine lv_iconst (v := 1) hx hb dJx4a65c_add_72be8_17 (by decide) ?_
      refine lv_iadd hx hb dJx4a65c_add_72be8_18 ?_
      refine zr_top (y := nI (n + 1)) (nI_add n 1) ?_
      refine zp_List_size C I ha zm_57 dJx4a65c_add_72be8_19 (fun H locs I => ?_)
      exact zr_vret C I hr hlk (⟨rfl, zl_addB h2 h3 (by omega) h5 h6⟩) (Nat.le_of_ble_eq_true rfl) (Nat.le_of_ble_eq_true rfl) dJx4a65c_add_72be8_22

theorem zl_add_m {S S' : zS} {pl ar n q : Nat} {x : Int32} (h : zl_add (zh_sI S 30 pl x) S' pl ar n q) : zl_add S S' pl ar n q := by
  obtain ⟨h1, h2, h3, h4, h5⟩ := h
  refine ⟨h1, fun j a h30 h => (h2 j a h30 h).trans (zh_u_j _ _ _ _ h30), h3, h4, h5⟩

set_option maxRecDepth 100000 in
set_option maxHeartbeats 4000000 in
theorem k_add (l : Launch) (g : zG) (S : zS) (pl ar n q kq : Nat) (ha : zh_at S 5 pl) (h1 : zh_I S 31 pl = nI n) (h2 : zh_R S 30 pl = some ar) (hk : (n = 0 ∧ ar = g.2.1) ∨ (zh_at S 8 ar ∧ n ≤ zh_N S ar ∧ 10 ≤ zh_N S ar ∧ zh_N S ar ≤ 150)) (hn : n ≤ 100) (hq : zh_at S kq q) (hq12 : kq = 1 ∨ kq = 2) (hel : ∀ i : Nat, i < n → ∀ y : Nat, zh_Q S ar i = some y → zh_at S 1 y ∨ zh_at S 2 y) : zM l yJx4a65c_add_9ea2d cJx4a65c_add_9ea2d 2 (some .boolean) (zrm 6 1 200) g [.ref pl, .ref q] S (fun w S' => w = some (.int 1) ∧ zl_add S S' pl ar n q) := by
  refine zM_of (nm := "add") (by decide) rfl (Nat.le_of_ble_eq_true rfl) ?_
  intro p e s m args below meth c A ls C hr hlk hin I hl
  have C : CallFix p m c cJx4a65c_add_9ea2d 2 s args zc_W RJx4a65c := C
  have hx := C.1
  have hb := C.2.1
  have hl : lv_has ls 2 [(0, .ref pl), (1, .ref q)] := hl
  refine lv_aload_n hx hb dJx4a65c_add_9ea2d_0 rfl (lv_at hl 0 rfl) ?_
  refine lv_dup hx hb dJx4a65c_add_9ea2d_1 rfl ?_
  refine zg_List_modCount (v := zh_I S 30 pl) C I ha zm_60 zm_59 (rfl) dJx4a65c_add_9ea2d_2 ?_
  refine lv_iconst (v := 1) hx hb dJx4a65c_add_9ea2d_5 (by decide) ?_
  refine lv_iadd hx hb dJx4a65c_add_9ea2d_6 ?_
  refine zp_List_modCount C I ha zm_60 zm_59 dJx4a65c_add_9ea2d_7 (fun H locs I => ?_)
  refine lv_aload_n hx hb dJx4a65c_add_9ea2d_10 rfl (lv_at hl 0 rfl) ?_
  refine lv_aload_n hx hb dJx4a65c_add_9ea2d_11 rfl (lv_at hl 1 rfl) ?_
  refine lv_aload_n hx hb dJx4a65c_add_9ea2d_12 rfl (lv_at hl 0 rfl) ?_
  refine zg_List_elementData (v := ar) C I ha zm_56 (h2) dJx4a65c_add_9ea2d_13 ?_
  refine lv_aload_n hx hb dJx4a65c_add_9ea2d_16 rfl (lv_at hl 0 rfl) ?_
  refine zg_List_size (v := nI n) C I ha zm_57 ((by simp [zh_I_sI, zh_u, h1])) dJx4a65c_add_9ea2d_17 ?_
  refine zc_V (n := 3) (rest := []) C I ha rfl rfl (k_add3 l g (zh_sI S 30 pl ((zh_I S 30 pl) + 1)) pl ar n q kq ha (by simp [zh_I_sI, zh_u, h1]) h2 hk hn hq hq12 hel) zm_194 zm_195 zm_1 zm_19 zm_196 rfl hl.1 dJx4a65c_add_9ea2d_20 (by decide +kernel) rfl ⟨Nat.le_of_ble_eq_true rfl, Nat.le_of_ble_eq_true rfl⟩ (Nat.le_of_ble_eq_true rfl) ⟨Nat.le_of_ble_eq_true rfl, Nat.le_of_ble_eq_true rfl⟩ (fun v S' H locs hq_ I => ?_)
  obtain ⟨rfl, hA⟩ := hq_
  refine lv_iconst (v := 1) hx hb dJx4a65c_add_9ea2d_23 (by decide) ?_
  exact zr_zret C I hr (zf_b (by decide)).1 hlk (⟨rfl, zl_add_m hA⟩) (Nat.le_of_ble_eq_true rfl) (Nat.le_of_ble_eq_true rfl) dJx4a65c_add_9ea2d_24
end
section
/-! THE STATE OF A FORGE, in numbers: promises and entries; what each call answers and leaves. -/
/-- (promises, entries), and by a number of kind: 0 seed, 1 state, 2 opened, 3 disputed (of a promise), 4 part (of a table), 5 promise, 6 table, 7 part, 8 faces, 9 value, 10 rejected, 11 sum, 12 struck (of an entry) -/
abbrev zT : Type := (Nat × Nat) × (Nat → Nat → Nat)
def zt_s (T : zT) (j k x : Nat) : zT := (T.1, zh_u T.2 j k x)
def zt_ok (T : zT) : Prop := T.1.1 ≤ 16 ∧ T.1.2 ≤ 100 ∧ (∀ k : Nat, T.2 0 k < 65536 ∧ T.2 1 k < 65536 ∧ T.2 2 k ≤ 1 ∧ T.2 3 k ≤ 1) ∧ (∀ k : Nat, T.2 4 k ≤ 999) ∧
  (∀ k : Nat, k < T.1.2 → T.2 5 k < T.1.1 ∧ T.2 6 k < 4 ∧ T.2 7 k ≤ 999 ∧ 2 ≤ T.2 8 k ∧ T.2 8 k ≤ 1000 ∧ 1 ≤ T.2 9 k ∧ T.2 9 k ≤ T.2 8 k ∧ T.2 10 k ≤ 65536 ∧ T.2 11 k < 1000003 ∧ T.2 12 k ≤ 1) ∧
  (∀ k : Nat, T.1.1 ≤ k → T.2 2 k = 0 ∧ T.2 3 k = 0) ∧ (∀ k : Nat, T.1.2 ≤ k → T.2 12 k = 0)
/-- no such number below n -/
abbrev zi (n : Nat) (x : Int32) : Prop := x < 0 ∨ nI n ≤ x
abbrev zx (x : Int32) : Nat := x.toNatClampNeg
theorem zi_no {n j : Nat} (h : j < n) (hn : n < 2 ^ 31) : ¬ zi n (nI j) := fun h9 => h9.elim (fun h => nI_pos (by omega) h) (fun h8 => absurd ((nI_leI hn (by omega)).mp h8) (by omega))
theorem zx_nI {j : Nat} (h : j < 2 ^ 31) : zx (nI j) = j := nI_clamp h
theorem zi_cases (x : Int32) {n : Nat} (hn : n < 2 ^ 31) : zi n x ∨ (¬ zi n x ∧ zx x < n ∧ x = nI (zx x)) := by
  rcases pk_ix x hn with h | h | ⟨j, hj, rfl⟩
  · exact Or.inl (Or.inl h)
  · exact Or.inl (Or.inr h)
  · rw [zx_nI (by omega)]
    exact Or.inr ⟨zi_no hj hn, hj, rfl⟩
def zd_sign (s : Nat) : Nat := (s * s + 31 * s + 7) % 10007
/-- how many of the seeds below n have the sign g -/
def zd_cnt (sg : Nat) : Nat → Nat
  | 0 => 0
  | n + 1 => zd_cnt sg n + (if zd_sign n = sg then 1 else 0)
def zd_seeds (s : Nat) : Nat := zd_cnt (zd_sign s) 65536
/-- the sum of entry k, by the rule -/
def zt_sum (T : zT) (k : Nat) : Nat := zd_sum (if k = 0 then 17 else T.2 11 (k - 1)) (T.2 5 k) (T.2 6 k) (T.2 8 k) (T.2 9 k) (T.2 10 k)
/-- the first entry from k on, among n, whose sum isn't what the rule gives -/
def zt_broken (T : zT) : Nat → Nat → Int32
  | 0, _ => -1
  | n + 1, k => if T.2 11 k ≠ zt_sum T k then nI k else zt_broken T n (k + 1)
/-- the state of promise p behind its rolls among the first n entries, found again -/
def zt_ag (T : zT) (q : Nat) : Nat → Nat
  | 0 => T.2 0 q
  | n + 1 => if T.2 5 n = q then (zd_roll (zt_ag T q n) (T.2 7 n) (T.2 8 n)).1 else zt_ag T q n
/-- the value of entry k, found again for promise q -/
def zt_fd (T : zT) (q k : Nat) : Nat := zd_val (zt_ag T q k) (T.2 7 k) (T.2 8 k)
def zt_bad (T : zT) (q k : Nat) : Prop := T.2 5 k = q ∧ T.2 9 k ≠ zt_fd T q k
/-- the first entry of promise q, from k on, among n, that doesn't have its value -/
def zt_wrong (T : zT) (q : Nat) : Nat → Nat → Int32
  | 0, _ => -1
  | n + 1, k => if T.2 5 k = q ∧ T.2 9 k ≠ zt_fd T q k then nI k else zt_wrong T q n (k + 1)
/-- the entries of promise q from a on, among the first n -/
def zt_own (T : zT) (q a : Nat) : Nat → Nat
  | 0 => 0
  | n + 1 => zt_own T q a n + (if T.2 5 n = q ∧ a ≤ n then 1 else 0)
/-- the entries of faces f with the value x (0: any), not struck, among the first n -/
def zt_cnt (T : zT) (f x : Nat) : Nat → Nat
  | 0 => 0
  | n + 1 => zt_cnt T f x n + (if T.2 12 n = 0 ∧ T.2 8 n = f ∧ (T.2 9 n = x ∨ x = 0) then 1 else 0)
def zt_total (T : zT) (t : Nat) : Nat → Nat
  | 0 => 0
  | n + 1 => zt_total T t n + (if T.2 6 n = t ∧ T.2 12 n = 0 then T.2 9 n else 0)
/-- the sum of squares over the values 1 .. n -/
def zt_unev (T : zT) (f : Nat) : Nat → Int64
  | 0 => 0
  | n + 1 => zt_unev T f n + ((nI f).toInt64 * (nI (zt_cnt T f (n + 1) T.1.2)).toInt64 - (nI (zt_cnt T f 0 T.1.2)).toInt64) * ((nI f).toInt64 * (nI (zt_cnt T f (n + 1) T.1.2)).toInt64 - (nI (zt_cnt T f 0 T.1.2)).toInt64)
-- the calls: the code (0: it answers; else the place in its throws clause), the state behind it
def zc_promise (T : zT) (x : Int32) : Nat := if zi 65536 x then 1 else if 16 ≤ T.1.1 then 2 else 0
def zs_promise (T : zT) (x : Int32) : zT := if zc_promise T x = 0 then ((T.1.1 + 1, T.1.2), zh_u (zh_u T.2 0 T.1.1 (zx x)) 1 T.1.1 (zx x)) else T
def zc_prom (T : zT) (x : Int32) : Nat := if zi T.1.1 x then 1 else 0
def zc_entry (T : zT) (x : Int32) : Nat := if zi T.1.2 x then 1 else 0
def zc_open (T : zT) (x : Int32) : Nat := if zi T.1.1 x then 1 else if T.2 2 (zx x) ≠ 0 then 2 else 0
def zs_open (T : zT) (x : Int32) : zT := if zc_open T x = 0 then zt_s T 2 (zx x) 1 else T
def zc_part (x y : Int32) : Nat := if zi 4 x then 1 else if zi 1000 y then 2 else 0
def zs_part (T : zT) (x y : Int32) : zT := if zc_part x y = 0 then zt_s T 4 (zx x) (zx y) else T
def zc_roll (T : zT) (x t f : Int32) : Nat := if zi T.1.1 x ∨ zi 4 t then 1 else if f < 2 ∨ 1000 < f then 2 else if T.2 2 (zx x) ≠ 0 ∨ 100 ≤ T.1.2 then 3 else 0
def zr_roll (T : zT) (x t f : Int32) : Nat := zd_val (T.2 1 (zx x)) (T.2 4 (zx t)) (zx f)
def zb_roll (T : zT) : Nat := if T.1.2 = 0 then 17 else T.2 11 (T.1.2 - 1)
def zs_rolled (T : zT) (q t f : Nat) : zT := ((T.1.1, T.1.2 + 1), zh_u (zh_u (zh_u (zh_u (zh_u (zh_u (zh_u (zh_u T.2 1 q (zd_roll (T.2 1 q) (T.2 4 t) f).1) 5 T.1.2 q) 6 T.1.2 t) 7 T.1.2 (T.2 4 t)) 8 T.1.2 f) 9 T.1.2 (zd_val (T.2 1 q) (T.2 4 t) f)) 10 T.1.2 (zd_roll (T.2 1 q) (T.2 4 t) f).2) 11 T.1.2 (zd_sum (zb_roll T) q t f (zd_val (T.2 1 q) (T.2 4 t) f) (zd_roll (T.2 1 q) (T.2 4 t) f).2))
def zs_roll (T : zT) (x t f : Int32) : zT := if zc_roll T x t f = 0 then zs_rolled T (zx x) (zx t) (zx f) else T
def zc_alter (T : zT) (x y : Int32) : Nat := if zi T.1.2 x then 1 else if y < 1 ∨ nI (T.2 8 (zx x)) < y then 2 else if T.2 12 (zx x) ≠ 0 then 3 else 0
def zs_alter (T : zT) (x y : Int32) : zT := if zc_alter T x y = 0 then zt_s T 9 (zx x) (zx y) else T
def zc_found (T : zT) (x : Int32) : Nat := if zi T.1.2 x then 1 else if T.2 2 (T.2 5 (zx x)) = 0 then 2 else 0
def zc_wrong (T : zT) (x : Int32) : Nat := if zi T.1.1 x then 1 else if T.2 2 (zx x) = 0 then 2 else 0
def zv_wrong (T : zT) (q : Nat) : Int32 := zt_wrong T q T.1.2 0
def zc_disp (T : zT) (x : Int32) : Nat := if zi T.1.1 x then 1 else if T.2 2 (zx x) = 0 ∨ T.2 3 (zx x) ≠ 0 then 2 else 0
def zv_disp (T : zT) (q : Nat) : Nat := if zv_wrong T q = -1 then 0 else zt_own T q (zx (zv_wrong T q)) T.1.2
def zs_strike (T : zT) (q a n : Nat) : zT := (T.1, fun j k => if j = 12 ∧ T.2 5 k = q ∧ a ≤ k ∧ k < n then 1 else T.2 j k)
def zs_disp (T : zT) (x : Int32) : zT := if zc_disp T x = 0 then (if zv_wrong T (zx x) = -1 then zt_s T 3 (zx x) 1 else zs_strike (zt_s T 3 (zx x) 1) (zx x) (zx (zv_wrong T (zx x))) T.1.2) else T
def zc_count (x y : Int32) : Nat := if (x < 2 ∨ 1000 < x) ∨ (y < 1 ∨ x < y) then 1 else 0
def zc_unev (x : Int32) : Nat := if x < 2 ∨ 1000 < x then 1 else 0
def zc_tab (x : Int32) : Nat := if zi 4 x then 1 else 0
-- THE CLASS'S OWN STATE: a list of n elements of a kind
def FL (g : zG) (S : zS) (pl n ar kd : Nat) (el : Nat → Nat) : Prop := zh_at S 5 pl ∧ zh_I S 31 pl = nI n ∧ zh_R S 30 pl = some ar ∧ ((n = 0 ∧ ar = g.2.1) ∨ (zh_at S 8 ar ∧ n ≤ zh_N S ar ∧ 10 ≤ zh_N S ar ∧ zh_N S ar ≤ 150)) ∧ ∀ i : Nat, i < n → zh_Q S ar i = some (el i) ∧ zh_at S kd (el i)
/-- the forge x: pl, lo its lists (arrays pa, la), pt its parts, ty its tally; promise k at ap k, its draws at ad k; entry k at ae k -/
def FR (g : zG) (S : zS) (T : zT) (x pl lo pt ty pa la : Nat) (ap ad ae : Nat → Nat) : Prop :=
  (zh_at S 3 x ∧ zh_R S 1 x = some pl ∧ zh_R S 2 x = some lo ∧ zh_R S 3 x = some pt ∧ zh_R S 4 x = some ty) ∧
  (zh_at S 6 pt ∧ zh_N S pt = 4 ∧ zh_at S 6 ty ∧ zh_N S ty = 1001 ∧ ∀ t : Nat, t < 4 → zh_A S pt t = nI (T.2 4 t)) ∧
  FL g S pl T.1.1 pa 2 ap ∧ FL g S lo T.1.2 la 1 ae ∧ pl ≠ lo ∧ (zh_at S 8 pa → pa ≠ la) ∧
  (∀ k : Nat, k < T.1.1 → zh_R S 0 (ap k) = some (ad k) ∧ zh_at S 0 (ad k) ∧ zh_I S 10 (ap k) = nI (T.2 0 k) ∧ zh_I S 0 (ad k) = nI (T.2 1 k) ∧ zh_I S 11 (ap k) = nI (T.2 2 k) ∧ zh_I S 12 (ap k) = nI (T.2 3 k)) ∧
  (∀ k : Nat, k < T.1.2 → ∀ j : Nat, j < 8 → zh_I S (2 + j) (ae k) = nI (T.2 (5 + j) k)) ∧
  (∀ i j : Nat, i < T.1.1 → j < T.1.1 → ap i = ap j → i = j) ∧ (∀ i j : Nat, i < T.1.1 → j < T.1.1 → ad i = ad j → i = j) ∧ (∀ i j : Nat, i < T.1.2 → j < T.1.2 → ae i = ae j → i = j)
/-- some forge at x -/
def FE (g : zG) (S : zS) (T : zT) (x : Nat) : Prop := ∃ (pl lo pt ty pa la : Nat) (ap ad ae : Nat → Nat), FR g S T x pl lo pt ty pa la ap ad ae
/-- what isn't the forge's stays -/
def zk_ (S S' : zS) : Prop := ∀ a : Nat, a ∈ zh_L S → a ∈ zh_L S' ∧ zh_K S' a = zh_K S a ∧ zh_N S' a = zh_N S a ∧ zh_J S' a = zh_J S a
theorem zk_rf (S : zS) : zk_ S S := fun a h => ⟨h, rfl, rfl, rfl⟩
theorem zk_tr {S S' S'' : zS} (h : zk_ S S') (h' : zk_ S' S'') : zk_ S S'' := fun a ha => by
  obtain ⟨h1, h2, h3, h4⟩ := h a ha
  obtain ⟨k1, k2, k3, k4⟩ := h' a h1
  exact ⟨k1, k2.trans h2, k3.trans h3, k4.trans h4⟩
end
section
/-! what the class's own private methods answer -/
theorem zi_nge {x y : Int32} (h : y ≤ x) : ¬ x < y := fun h2 => by
  have h3 := Int32.lt_iff_toInt_lt.mp h2
  have h4 := Int32.le_iff_toInt_le.mp h
  omega
theorem zi_le {x y : Int32} (h : ¬ x < y) : y ≤ x := Int32.le_iff_toInt_le.mpr (by
  have h3 : ¬ x.toInt < y.toInt := fun h4 => h (Int32.lt_iff_toInt_lt.mpr h4)
  omega)
theorem zi_nlt {x y : Int32} (h : x < y) : ¬ y ≤ x := fun h2 => zi_nge h2 h
theorem zi_lt {x y : Int32} (h : ¬ y ≤ x) : x < y := Int32.lt_iff_toInt_lt.mpr (by
  have h3 : ¬ y.toInt ≤ x.toInt := fun h4 => h (Int32.le_iff_toInt_le.mpr h4)
  omega)
theorem zi_ge0 {x : Int32} {n : Nat} (h : nI n ≤ x) (hn : n < 2 ^ 31) : ¬ x < 0 := fun h2 => by
  have h3 := Int32.lt_iff_toInt_lt.mp h2
  have h4 := Int32.le_iff_toInt_le.mp h
  rw [nI_toInt hn] at h4
  have h5 : (0 : Int32).toInt = 0 := by decide
  omega
theorem zi_ne {a b : Nat} (h : a ≠ b) (ha : a < 2 ^ 31) (hb : b < 2 ^ 31) : ¬ nI a = nI b := fun h9 => h ((nI_eq ha hb).mp h9)

theorem zt_fitIA : Bundle.fit "java/lang/IllegalArgumentException" = true := by decide +kernel
theorem zt_aIA : ∀ w ∈ (vx_atS RX3 31 "java/lang/IllegalArgumentException" ["java/lang/RuntimeException", "java/lang/Exception"]).filter goodWord, w ∈ zc_W := by decide +kernel
theorem zt_bIA : ∀ w ∈ (vx_atS RX3 31 "java/lang/IllegalArgumentException" ["java/lang/RuntimeException", "java/lang/Exception"]).filter (fun w => !goodWord w), w ∈ zn_ws := by decide +kernel
theorem zt_cIA : ∀ w ∈ Cond.classLink RX3 27 "java/lang/IllegalArgumentException" :: Cond.initialized "java/lang/IllegalArgumentException" :: vx_atS RX3 31 "java/lang/IllegalArgumentException" ["java/lang/RuntimeException", "java/lang/Exception"], vx_ot w = true := by decide +kernel
theorem zt_fitIS : Bundle.fit "java/lang/IllegalStateException" = true := by decide +kernel
theorem zt_aIS : ∀ w ∈ (vx_atS RX3 42 "java/lang/IllegalStateException" ["java/lang/RuntimeException", "java/lang/Exception"]).filter goodWord, w ∈ zc_W := by decide +kernel
theorem zt_bIS : ∀ w ∈ (vx_atS RX3 42 "java/lang/IllegalStateException" ["java/lang/RuntimeException", "java/lang/Exception"]).filter (fun w => !goodWord w), w ∈ zn_ws := by decide +kernel
theorem zt_cIS : ∀ w ∈ Cond.classLink RX3 38 "java/lang/IllegalStateException" :: Cond.initialized "java/lang/IllegalStateException" :: vx_atS RX3 42 "java/lang/IllegalStateException" ["java/lang/RuntimeException", "java/lang/Exception"], vx_ot w = true := by decide +kernel
theorem zt_fitIO : Bundle.fit "java/lang/IndexOutOfBoundsException" = true := by decide +kernel
theorem zt_aIO : ∀ w ∈ (vx_atS RX3 177 "java/lang/IndexOutOfBoundsException" ["java/lang/RuntimeException", "java/lang/Exception"]).filter goodWord, w ∈ zc_W := by decide +kernel
theorem zt_bIO : ∀ w ∈ (vx_atS RX3 177 "java/lang/IndexOutOfBoundsException" ["java/lang/RuntimeException", "java/lang/Exception"]).filter (fun w => !goodWord w), w ∈ zn_ws := by decide +kernel
theorem zt_cIO : ∀ w ∈ Cond.classLink RX3 173 "java/lang/IndexOutOfBoundsException" :: Cond.initialized "java/lang/IndexOutOfBoundsException" :: vx_atS RX3 177 "java/lang/IndexOutOfBoundsException" ["java/lang/RuntimeException", "java/lang/Exception"], vx_ot w = true := by decide +kernel
theorem zt_fitn : ∀ n ∈ ["java/lang/RuntimeException", "java/lang/Exception"], Bundle.fit n = true := by decide +kernel

set_option maxRecDepth 100000 in
set_option maxHeartbeats 4000000 in
theorem k_X3_promiseAt (l : Launch) (g : zG) (hst : l.stackTraces = false) (S : zS) (x pl n ar : Nat) (el : Nat → Nat) (i : Int32) (hx3 : zh_at S 3 x) (r1 : zh_R S 1 x = some pl) (hL : FL g S pl n ar 2 el) (hn : n ≤ 100) : zX l yX3_promiseAt cX3_promiseAt 2 (some (.object "DiceForge$Promise")) (zrm 6 1 6) g [.ref x, .int i] S (fun w S' => ¬ zi n i ∧ w = some (.ref (el (zx i))) ∧ S' = S) (fun E S' => E = zn_IO ∧ zi n i ∧ S' = S) := by
  refine zX_of (nm := "promiseAt") (by decide) rfl (Nat.le_of_ble_eq_true rfl) ?_
  intro p e s m args below meth c A ls C hr hlk hxt I hl
  have C : CallFix p m c cX3_promiseAt 2 s args zc_W RX3 := C
  have hx := C.1
  have hb := C.2.1
  have hl : lv_has ls 2 [(0, .ref x), (1, .int i)] := hl
  rcases pk_ix i (n := n) (by omega) with hz | hz | ⟨j, hj, rfl⟩
  · refine lv_iload_n hx hb dX3_promiseAt_0 rfl (lv_at hl 1 rfl) ?_
    refine lv_if_lt (tgt := 15) hx hb dX3_promiseAt_1 (by decide) (fun _ => ?_) (fun h9 => absurd (hz) h9)
    exact zr_throw (cls := "java/lang/IndexOutOfBoundsException") (text := "there is no such promise") (ik := 173) (is := 175) (ic := 177) C I hst hxt hlk rfl zt_fitIO zt_fitn zm_248 zm_31 (by decide +kernel) zt_aIO zt_bIO zt_cIO hl.1 dX3_promiseAt_15 dX3_promiseAt_18 dX3_promiseAt_19 dX3_promiseAt_21 dX3_promiseAt_24 (Nat.le_of_ble_eq_true rfl) (Nat.le_of_ble_eq_true rfl) (Nat.le_of_ble_eq_true rfl) (Nat.le_of_ble_eq_true rfl) (⟨rfl, Or.inl hz, rfl⟩) (Nat.le_of_ble_eq_true rfl) (Nat.le_of_ble_eq_true rfl)
  · have hz0 : ¬ i < 0 := zi_ge0 hz (by omega)
    refine lv_iload_n hx hb dX3_promiseAt_0 rfl (lv_at hl 1 rfl) ?_
    refine lv_if_lt (tgt := 15) hx hb dX3_promiseAt_1 (by decide) (fun h9 => absurd h9 (hz0)) (fun _ => ?_)
    refine lv_iload_n hx hb dX3_promiseAt_4 rfl (lv_at hl 1 rfl) ?_
    refine lv_aload_n hx hb dX3_promiseAt_5 rfl (lv_at hl 0 rfl) ?_
    refine zg_Forge_promises (v := pl) C I hx3 zm_68 (r1) dX3_promiseAt_6 ?_
    refine zc_V (n := 0) (rest := [.int i]) C I hL.1 rfl rfl (k_Jx4a65c_size_8abf5 l g S pl n hL.1 hL.2.1) zm_144 zm_145 zm_146 zm_19 zm_147 rfl hl.1 dX3_promiseAt_9 (by decide +kernel) rfl ⟨Nat.le_of_ble_eq_true rfl, Nat.le_of_ble_eq_true rfl⟩ (Nat.le_of_ble_eq_true rfl) ⟨Nat.le_of_ble_eq_true rfl, Nat.le_of_ble_eq_true rfl⟩ (fun v S' H locs hq I => ?_)
    obtain ⟨rfl, eS⟩ := hq
    rw [eS] at I
    refine lv_icmp_lt (tgt := 25) hx hb dX3_promiseAt_12 (by decide) (fun h9 => absurd h9 (zi_nge hz)) (fun _ => ?_)
    exact zr_throw (cls := "java/lang/IndexOutOfBoundsException") (text := "there is no such promise") (ik := 173) (is := 175) (ic := 177) C I hst hxt hlk rfl zt_fitIO zt_fitn zm_248 zm_31 (by decide +kernel) zt_aIO zt_bIO zt_cIO hl.1 dX3_promiseAt_15 dX3_promiseAt_18 dX3_promiseAt_19 dX3_promiseAt_21 dX3_promiseAt_24 (Nat.le_of_ble_eq_true rfl) (Nat.le_of_ble_eq_true rfl) (Nat.le_of_ble_eq_true rfl) (Nat.le_of_ble_eq_true rfl) (⟨rfl, Or.inr hz, rfl⟩) (Nat.le_of_ble_eq_true rfl) (Nat.le_of_ble_eq_true rfl)
  · refine lv_iload_n hx hb dX3_promiseAt_0 rfl (lv_at hl 1 rfl) ?_
    refine lv_if_lt (tgt := 15) hx hb dX3_promiseAt_1 (by decide) (fun h9 => absurd h9 (fun h8 => absurd ((nI_ltI (a := j) (b := 0) (by omega) (by omega)).mp h8) (by omega))) (fun _ => ?_)
    refine lv_iload_n hx hb dX3_promiseAt_4 rfl (lv_at hl 1 rfl) ?_
    refine lv_aload_n hx hb dX3_promiseAt_5 rfl (lv_at hl 0 rfl) ?_
    refine zg_Forge_promises (v := pl) C I hx3 zm_68 (r1) dX3_promiseAt_6 ?_
    refine zc_V (n := 0) (rest := [.int (nI j)]) C I hL.1 rfl rfl (k_Jx4a65c_size_8abf5 l g S pl n hL.1 hL.2.1) zm_144 zm_145 zm_146 zm_19 zm_147 rfl hl.1 dX3_promiseAt_9 (by decide +kernel) rfl ⟨Nat.le_of_ble_eq_true rfl, Nat.le_of_ble_eq_true rfl⟩ (Nat.le_of_ble_eq_true rfl) ⟨Nat.le_of_ble_eq_true rfl, Nat.le_of_ble_eq_true rfl⟩ (fun v S' H locs hq I => ?_)
    obtain ⟨rfl, eS⟩ := hq
    rw [eS] at I
    refine lv_icmp_lt (tgt := 25) hx hb dX3_promiseAt_12 (by decide) (fun _ => ?_) (fun h9 => absurd ((nI_ltI (a := j) (b := n) (by omega) (by omega)).mpr (hj)) h9)
    refine lv_aload_n hx hb dX3_promiseAt_25 rfl (lv_at hl 0 rfl) ?_
    refine zg_Forge_promises (v := pl) C I hx3 zm_68 (r1) dX3_promiseAt_26 ?_
    refine lv_iload_n hx hb dX3_promiseAt_29 rfl (lv_at hl 1 rfl) ?_
    obtain ⟨h3, h4, h5, h6⟩ : zh_at S 8 ar ∧ n ≤ zh_N S ar ∧ 10 ≤ zh_N S ar ∧ zh_N S ar ≤ 150 := hL.2.2.2.1.elim (fun h => absurd h.1 (by omega)) id
    refine zc_V (n := 1) (rest := []) C I hL.1 rfl rfl (k_Jx4a65c_get_915e3 l g S pl n ar j (el j) hL.1 hL.2.1 hL.2.2.1 h3 h4 (by omega) hj (hL.2.2.2.2 j hj).1) zm_283 zm_284 zm_285 zm_19 zm_286 rfl hl.1 dX3_promiseAt_30 (by decide +kernel) rfl ⟨Nat.le_of_ble_eq_true rfl, Nat.le_of_ble_eq_true rfl⟩ (Nat.le_of_ble_eq_true rfl) ⟨Nat.le_of_ble_eq_true rfl, Nat.le_of_ble_eq_true rfl⟩ (fun v S' H locs hq I => ?_)
    obtain ⟨rfl, eS⟩ := hq
    rw [eS] at I
    refine zr_cast C I (hL.2.2.2.2 j hj).2 rfl rfl zm_162 dX3_promiseAt_33 ?_
    exact vx_ret (zr_aret C I hr (Or.inl ⟨_, rfl⟩) (Or.inr ⟨_, rfl⟩) hlk (⟨zi_no hj (by omega), by rw [zx_nI (by omega)], rfl⟩) (Nat.le_of_ble_eq_true rfl) (Nat.le_of_ble_eq_true rfl) dX3_promiseAt_36)

set_option maxRecDepth 100000 in
set_option maxHeartbeats 4000000 in
theorem k_X3_entryAt (l : Launch) (g : zG) (hst : l.stackTraces = false) (S : zS) (x pl n ar : Nat) (el : Nat → Nat) (i : Int32) (hx3 : zh_at S 3 x) (r1 : zh_R S 2 x = some pl) (hL : FL g S pl n ar 1 el) (hn : n ≤ 100) : zX l yX3_entryAt cX3_entryAt 2 (some (.object "DiceForge$Entry")) (zrm 6 1 6) g [.ref x, .int i] S (fun w S' => ¬ zi n i ∧ w = some (.ref (el (zx i))) ∧ S' = S) (fun E S' => E = zn_IO ∧ zi n i ∧ S' = S) := by
  refine zX_of (nm := "entryAt") (by decide) rfl (Nat.le_of_ble_eq_true rfl) ?_
  intro p e s m args below meth c A ls C hr hlk hxt I hl
  have C : CallFix p m c cX3_entryAt 2 s args zc_W RX3 := C
  have hx := C.1
  have hb := C.2.1
  have hl : lv_has ls 2 [(0, .ref x), (1, .int i)] := hl
  rcases pk_ix i (n := n) (by omega) with hz | hz | ⟨j, hj, rfl⟩
  · refine lv_iload_n hx hb dX3_entryAt_0 rfl (lv_at hl 1 rfl) ?_
    refine lv_if_lt (tgt := 15) hx hb dX3_entryAt_1 (by decide) (fun _ => ?_) (fun h9 => absurd (hz) h9)
    exact zr_throw (cls := "java/lang/IndexOutOfBoundsException") (text := "there is no such entry") (ik := 173) (is := 180) (ic := 177) C I hst hxt hlk rfl zt_fitIO zt_fitn zm_248 zm_31 (by decide +kernel) zt_aIO zt_bIO zt_cIO hl.1 dX3_entryAt_15 dX3_entryAt_18 dX3_entryAt_19 dX3_entryAt_21 dX3_entryAt_24 (Nat.le_of_ble_eq_true rfl) (Nat.le_of_ble_eq_true rfl) (Nat.le_of_ble_eq_true rfl) (Nat.le_of_ble_eq_true rfl) (⟨rfl, Or.inl hz, rfl⟩) (Nat.le_of_ble_eq_true rfl) (Nat.le_of_ble_eq_true rfl)
  · have hz0 : ¬ i < 0 := zi_ge0 hz (by omega)
    refine lv_iload_n hx hb dX3_entryAt_0 rfl (lv_at hl 1 rfl) ?_
    refine lv_if_lt (tgt := 15) hx hb dX3_entryAt_1 (by decide) (fun h9 => absurd h9 (hz0)) (fun _ => ?_)
    refine lv_iload_n hx hb dX3_entryAt_4 rfl (lv_at hl 1 rfl) ?_
    refine lv_aload_n hx hb dX3_entryAt_5 rfl (lv_at hl 0 rfl) ?_
    refine zg_Forge_log (v := pl) C I hx3 zm_69 (r1) dX3_entryAt_6 ?_
    refine zc_V (n := 0) (rest := [.int i]) C I hL.1 rfl rfl (k_Jx4a65c_size_8abf5 l g S pl n hL.1 hL.2.1) zm_144 zm_145 zm_146 zm_19 zm_147 rfl hl.1 dX3_entryAt_9 (by decide +kernel) rfl ⟨Nat.le_of_ble_eq_true rfl, Nat.le_of_ble_eq_true rfl⟩ (Nat.le_of_ble_eq_true rfl) ⟨Nat.le_of_ble_eq_true rfl, Nat.le_of_ble_eq_true rfl⟩ (fun v S' H locs hq I => ?_)
    obtain ⟨rfl, eS⟩ := hq
    rw [eS] at I
    refine lv_icmp_lt (tgt := 25) hx hb dX3_entryAt_12 (by decide) (fun h9 => absurd h9 (zi_nge hz)) (fun _ => ?_)
    exact zr_throw (cls := "java/lang/IndexOutOfBoundsException") (text := "there is no such entry") (ik := 173) (is := 180) (ic := 177) C I hst hxt hlk rfl zt_fitIO zt_fitn zm_248 zm_31 (by decide +kernel) zt_aIO zt_bIO zt_cIO hl.1 dX3_entryAt_15 dX3_entryAt_18 dX3_entryAt_19 dX3_entryAt_21 dX3_entryAt_24 (Nat.le_of_ble_eq_true rfl) (Nat.le_of_ble_eq_true rfl) (Nat.le_of_ble_eq_true rfl) (Nat.le_of_ble_eq_true rfl) (⟨rfl, Or.inr hz, rfl⟩) (Nat.le_of_ble_eq_true rfl) (Nat.le_of_ble_eq_true rfl)
  · refine lv_iload_n hx hb dX3_entryAt_0 rfl (lv_at hl 1 rfl) ?_
    refine lv_if_lt (tgt := 15) hx hb dX3_entryAt_1 (by decide) (fun h9 => absurd h9 (fun h8 => absurd ((nI_ltI (a := j) (b := 0) (by omega) (by omega)).mp h8) (by omega))) (fun _ => ?_)
    refine lv_iload_n hx hb dX3_entryAt_4 rfl (lv_at hl 1 rfl) ?_
    refine lv_aload_n hx hb dX3_entryAt_5 rfl (lv_at hl 0 rfl) ?_
    refine zg_Forge_log (v := pl) C I hx3 zm_69 (r1) dX3_entryAt_6 ?_
    refine zc_V (n := 0) (rest := [.int (nI j)]) C I hL.1 rfl rfl (k_Jx4a65c_size_8abf5 l g S pl n hL.1 hL.2.1) zm_144 zm_145 zm_146 zm_19 zm_147 rfl hl.1 dX3_entryAt_9 (by decide +kernel) rfl ⟨Nat.le_of_ble_eq_true rfl, Nat.le_of_ble_eq_true rfl⟩ (Nat.le_of_ble_eq_true rfl) ⟨Nat.le_of_ble_eq_true rfl, Nat.le_of_ble_eq_true rfl⟩ (fun v S' H locs hq I => ?_)
    obtain ⟨rfl, eS⟩ := hq
    rw [eS] at I
    refine lv_icmp_lt (tgt := 25) hx hb dX3_entryAt_12 (by decide) (fun _ => ?_) (fun h9 => absurd ((nI_ltI (a := j) (b := n) (by omega) (by omega)).mpr (hj)) h9)
    refine lv_aload_n hx hb dX3_entryAt_25 rfl (lv_at hl 0 rfl) ?_
    refine zg_Forge_log (v := pl) C I hx3 zm_69 (r1) dX3_entryAt_26 ?_
    refine lv_iload_n hx hb dX3_entryAt_29 rfl (lv_at hl 1 rfl) ?_
    obtain ⟨h3, h4, h5, h6⟩ : zh_at S 8 ar ∧ n ≤ zh_N S ar ∧ 10 ≤ zh_N S ar ∧ zh_N S ar ≤ 150 := hL.2.2.2.1.elim (fun h => absurd h.1 (by omega)) id
    refine zc_V (n := 1) (rest := []) C I hL.1 rfl rfl (k_Jx4a65c_get_915e3 l g S pl n ar j (el j) hL.1 hL.2.1 hL.2.2.1 h3 h4 (by omega) hj (hL.2.2.2.2 j hj).1) zm_283 zm_284 zm_285 zm_19 zm_286 rfl hl.1 dX3_entryAt_30 (by decide +kernel) rfl ⟨Nat.le_of_ble_eq_true rfl, Nat.le_of_ble_eq_true rfl⟩ (Nat.le_of_ble_eq_true rfl) ⟨Nat.le_of_ble_eq_true rfl, Nat.le_of_ble_eq_true rfl⟩ (fun v S' H locs hq I => ?_)
    obtain ⟨rfl, eS⟩ := hq
    rw [eS] at I
    refine zr_cast C I (hL.2.2.2.2 j hj).2 rfl rfl zm_304 dX3_entryAt_33 ?_
    exact vx_ret (zr_aret C I hr (Or.inl ⟨_, rfl⟩) (Or.inr ⟨_, rfl⟩) hlk (⟨zi_no hj (by omega), by rw [zx_nI (by omega)], rfl⟩) (Nat.le_of_ble_eq_true rfl) (Nat.le_of_ble_eq_true rfl) dX3_entryAt_36)

set_option maxRecDepth 100000 in
set_option maxHeartbeats 4000000 in
theorem k_X3_openedAt (l : Launch) (g : zG) (hst : l.stackTraces = false) (S : zS) (x pl n ar : Nat) (el ov : Nat → Nat) (i : Int32) (hx3 : zh_at S 3 x) (r1 : zh_R S 1 x = some pl) (hL : FL g S pl n ar 2 el) (hn : n ≤ 100) (ho : ∀ k : Nat, k < n → zh_I S 11 (el k) = nI (ov k)) (hov : ∀ k : Nat, ov k ≤ 1) : zX l yX3_openedAt cX3_openedAt 3 (some (.object "DiceForge$Promise")) (zrm 7 2 12) g [.ref x, .int i] S (fun w S' => (¬ zi n i ∧ ov (zx i) ≠ 0) ∧ w = some (.ref (el (zx i))) ∧ S' = S) (fun E S' => ((E = zn_IO ∧ zi n i) ∨ (E = zn_IS ∧ ¬ zi n i ∧ ov (zx i) = 0)) ∧ S' = S) := by
  refine zX_of (nm := "openedAt") (by decide) rfl (Nat.le_of_ble_eq_true rfl) ?_
  intro p e s m args below meth c A ls C hr hlk hxt I hl
  have C : CallFix p m c cX3_openedAt 3 s args zc_W RX3 := C
  have hx := C.1
  have hb := C.2.1
  have hl : lv_has ls 3 [(0, .ref x), (1, .int i)] := hl
  refine lv_aload_n hx hb dX3_openedAt_0 rfl (lv_at hl 0 rfl) ?_
  refine lv_iload_n hx hb dX3_openedAt_1 rfl (lv_at hl 1 rfl) ?_
  refine zc_VX (n := 1) (rest := []) C I hx3 rfl rfl (k_X3_promiseAt l g hst S x pl n ar el i hx3 r1 hL hn) zm_280 zm_281 zm_4 zm_16 zm_282 rfl hl.1 dX3_openedAt_2 (by decide +kernel) rfl ⟨Nat.le_of_ble_eq_true rfl, Nat.le_of_ble_eq_true rfl⟩ (Nat.le_of_ble_eq_true rfl) ⟨Nat.le_of_ble_eq_true rfl, Nat.le_of_ble_eq_true rfl⟩ (fun E ce q9 S' H locs hq I h1 h2 h3 => ?_) (fun v S' H locs hq I => ?_)
  · obtain ⟨hE, hz, eS⟩ := hq
    rw [eS] at I
    exact zr_out I hxt hlk (⟨Or.inl ⟨hE, hz⟩, rfl⟩) h1 h2 h3 (Nat.le_of_ble_eq_true rfl) (Nat.le_of_ble_eq_true rfl)
  · obtain ⟨hz, rfl, eS⟩ := hq
    rw [eS] at I
    have hj : zx i < n := (zi_cases i (n := n) (by omega)).elim (fun h => absurd h hz) (fun h => h.2.1)
    have hov1 := hov (zx i)
    refine lv_astore_n (lv' := [(2, .ref (el (zx i))), (0, .ref x), (1, .int i)]) hx hb dX3_openedAt_5 rfl hl (by decide) rfl (fun ls hl => ?_)
    refine lv_aload_n hx hb dX3_openedAt_6 rfl (lv_at hl 0 rfl) ?_
    refine zn_Promise_opened (v := nI (ov (zx i))) (host := "DiceForge") C I (hL.2.2.2.2 _ hj).2 (by decide +kernel) (ho _ hj) dX3_openedAt_7 ?_
    refine lv_if_ne (tgt := 23) hx hb dX3_openedAt_10 (by decide) (fun c10 => ?_) (fun c10 => ?_)
    · have c10 : ¬ (ov (zx i)) = 0 := fun h9 => c10 ((nI_eq (a := ov (zx i)) (b := 0) (by omega) (by omega)).mpr h9)
      refine lv_aload_n hx hb dX3_openedAt_23 rfl (lv_at hl 0 rfl) ?_
      exact vx_ret (zr_aret C I hr (Or.inl ⟨_, rfl⟩) (Or.inr ⟨_, rfl⟩) hlk (⟨⟨hz, c10⟩, rfl, rfl⟩) (Nat.le_of_ble_eq_true rfl) (Nat.le_of_ble_eq_true rfl) dX3_openedAt_24)
    · have c10 : (ov (zx i)) = 0 := (nI_eq (a := ov (zx i)) (b := 0) (by omega) (by omega)).mp c10
      exact zr_throw (cls := "java/lang/IllegalStateException") (text := "the promise is not opened") (ik := 38) (is := 178) (ic := 42) C I hst hxt hlk rfl zt_fitIS zt_fitn zm_148 zm_24 (by decide +kernel) zt_aIS zt_bIS zt_cIS hl.1 dX3_openedAt_13 dX3_openedAt_16 dX3_openedAt_17 dX3_openedAt_19 dX3_openedAt_22 (Nat.le_of_ble_eq_true rfl) (Nat.le_of_ble_eq_true rfl) (Nat.le_of_ble_eq_true rfl) (Nat.le_of_ble_eq_true rfl) (⟨Or.inr ⟨rfl, hz, c10⟩, rfl⟩) (Nat.le_of_ble_eq_true rfl) (Nat.le_of_ble_eq_true rfl)

set_option maxRecDepth 100000 in
set_option maxHeartbeats 4000000 in
theorem k_X3_requireTable (l : Launch) (g : zG) (hst : l.stackTraces = false) (S : zS) (i : Int32) : zX l yX3_requireTable cX3_requireTable 1 none (zrm 6 1 6) g [.int i] S (fun w S' => ¬ zi 4 i ∧ w = none ∧ S' = S) (fun E S' => E = zn_IO ∧ zi 4 i ∧ S' = S) := by
  refine zX_of (nm := "requireTable") (by decide) rfl (Nat.le_of_ble_eq_true rfl) ?_
  intro p e s m args below meth c A ls C hr hlk hxt I hl
  have C : CallFix p m c cX3_requireTable 1 s args zc_W RX3 := C
  have hx := C.1
  have hb := C.2.1
  have hl : lv_has ls 1 [(0, .int i)] := hl
  rcases pk_ix i (n := 4) (by omega) with hz | hz | ⟨j, hj, rfl⟩
  · refine lv_iload_n hx hb dX3_requireTable_0 rfl (lv_at hl 0 rfl) ?_
    refine lv_if_lt (tgt := 9) hx hb dX3_requireTable_1 (by decide) (fun _ => ?_) (fun h9 => absurd (hz) h9)
    exact zr_throw (cls := "java/lang/IndexOutOfBoundsException") (text := "there is no such table") (ik := 173) (is := 182) (ic := 177) C I hst hxt hlk rfl zt_fitIO zt_fitn zm_248 zm_31 (by decide +kernel) zt_aIO zt_bIO zt_cIO hl.1 dX3_requireTable_9 dX3_requireTable_12 dX3_requireTable_13 dX3_requireTable_15 dX3_requireTable_18 (Nat.le_of_ble_eq_true rfl) (Nat.le_of_ble_eq_true rfl) (Nat.le_of_ble_eq_true rfl) (Nat.le_of_ble_eq_true rfl) (⟨rfl, Or.inl hz, rfl⟩) (Nat.le_of_ble_eq_true rfl) (Nat.le_of_ble_eq_true rfl)
  · have hz0 : ¬ i < 0 := zi_ge0 hz (by omega)
    refine lv_iload_n hx hb dX3_requireTable_0 rfl (lv_at hl 0 rfl) ?_
    refine lv_if_lt (tgt := 9) hx hb dX3_requireTable_1 (by decide) (fun h9 => absurd h9 (hz0)) (fun _ => ?_)
    refine lv_iload_n hx hb dX3_requireTable_4 rfl (lv_at hl 0 rfl) ?_
    refine lv_iconst (v := 4) hx hb dX3_requireTable_5 (by decide) ?_
    refine lv_icmp_lt (tgt := 19) hx hb dX3_requireTable_6 (by decide) (fun h9 => absurd h9 (zi_nge hz)) (fun _ => ?_)
    exact zr_throw (cls := "java/lang/IndexOutOfBoundsException") (text := "there is no such table") (ik := 173) (is := 182) (ic := 177) C I hst hxt hlk rfl zt_fitIO zt_fitn zm_248 zm_31 (by decide +kernel) zt_aIO zt_bIO zt_cIO hl.1 dX3_requireTable_9 dX3_requireTable_12 dX3_requireTable_13 dX3_requireTable_15 dX3_requireTable_18 (Nat.le_of_ble_eq_true rfl) (Nat.le_of_ble_eq_true rfl) (Nat.le_of_ble_eq_true rfl) (Nat.le_of_ble_eq_true rfl) (⟨rfl, Or.inr hz, rfl⟩) (Nat.le_of_ble_eq_true rfl) (Nat.le_of_ble_eq_true rfl)
  · refine lv_iload_n hx hb dX3_requireTable_0 rfl (lv_at hl 0 rfl) ?_
    refine lv_if_lt (tgt := 9) hx hb dX3_requireTable_1 (by decide) (fun h9 => absurd h9 (fun h8 => absurd ((nI_ltI (a := j) (b := 0) (by omega) (by omega)).mp h8) (by omega))) (fun _ => ?_)
    refine lv_iload_n hx hb dX3_requireTable_4 rfl (lv_at hl 0 rfl) ?_
    refine lv_iconst (v := 4) hx hb dX3_requireTable_5 (by decide) ?_
    refine lv_icmp_lt (tgt := 19) hx hb dX3_requireTable_6 (by decide) (fun _ => ?_) (fun h9 => absurd ((nI_ltI (a := j) (b := 4) (by omega) (by omega)).mpr (hj)) h9)
    exact vx_ret (zr_vret C I hr hlk (⟨zi_no hj (by omega), rfl, rfl⟩) (Nat.le_of_ble_eq_true rfl) (Nat.le_of_ble_eq_true rfl) dX3_requireTable_19)

set_option maxRecDepth 100000 in
set_option maxHeartbeats 4000000 in
theorem k_X3_requireFaces (l : Launch) (g : zG) (hst : l.stackTraces = false) (S : zS) (i : Int32) : zX l yX3_requireFaces cX3_requireFaces 1 none (zrm 6 1 6) g [.int i] S (fun w S' => ¬ (i < 2 ∨ 1000 < i) ∧ w = none ∧ S' = S) (fun E S' => E = zn_IA ∧ (i < 2 ∨ 1000 < i) ∧ S' = S) := by
  refine zX_of (nm := "requireFaces") (by decide) rfl (Nat.le_of_ble_eq_true rfl) ?_
  intro p e s m args below meth c A ls C hr hlk hxt I hl
  have C : CallFix p m c cX3_requireFaces 1 s args zc_W RX3 := C
  have hx := C.1
  have hb := C.2.1
  have hl : lv_has ls 1 [(0, .int i)] := hl
  refine lv_iload_n hx hb dX3_requireFaces_0 rfl (lv_at hl 0 rfl) ?_
  refine lv_iconst (v := 2) hx hb dX3_requireFaces_1 (by decide) ?_
  refine lv_icmp_lt (tgt := 12) hx hb dX3_requireFaces_2 (by decide) (fun c2 => ?_) (fun c2 => ?_)
  · exact zr_throw (cls := "java/lang/IllegalArgumentException") (text := "a die has 2 to 1000 faces") (ik := 27) (is := 184) (ic := 31) C I hst hxt hlk rfl zt_fitIA zt_fitn zm_87 zm_23 (by decide +kernel) zt_aIA zt_bIA zt_cIA hl.1 dX3_requireFaces_12 dX3_requireFaces_15 dX3_requireFaces_16 dX3_requireFaces_18 dX3_requireFaces_21 (Nat.le_of_ble_eq_true rfl) (Nat.le_of_ble_eq_true rfl) (Nat.le_of_ble_eq_true rfl) (Nat.le_of_ble_eq_true rfl) (⟨rfl, Or.inl c2, rfl⟩) (Nat.le_of_ble_eq_true rfl) (Nat.le_of_ble_eq_true rfl)
  · refine lv_iload_n hx hb dX3_requireFaces_5 rfl (lv_at hl 0 rfl) ?_
    refine lv_sipush (v := 1000) hx hb dX3_requireFaces_6 (by decide) ?_
    refine lv_icmp_le (tgt := 22) hx hb dX3_requireFaces_9 (by decide) (fun c9 => ?_) (fun c9 => ?_)
    · exact vx_ret (zr_vret C I hr hlk (⟨fun h => h.elim c2 (fun h9 => zi_nlt h9 c9), rfl, rfl⟩) (Nat.le_of_ble_eq_true rfl) (Nat.le_of_ble_eq_true rfl) dX3_requireFaces_22)
    · exact zr_throw (cls := "java/lang/IllegalArgumentException") (text := "a die has 2 to 1000 faces") (ik := 27) (is := 184) (ic := 31) C I hst hxt hlk rfl zt_fitIA zt_fitn zm_87 zm_23 (by decide +kernel) zt_aIA zt_bIA zt_cIA hl.1 dX3_requireFaces_12 dX3_requireFaces_15 dX3_requireFaces_16 dX3_requireFaces_18 dX3_requireFaces_21 (Nat.le_of_ble_eq_true rfl) (Nat.le_of_ble_eq_true rfl) (Nat.le_of_ble_eq_true rfl) (Nat.le_of_ble_eq_true rfl) (⟨rfl, Or.inr (zi_lt c9), rfl⟩) (Nat.le_of_ble_eq_true rfl) (Nat.le_of_ble_eq_true rfl)

set_option maxRecDepth 100000 in
set_option maxHeartbeats 4000000 in
theorem k_X3_requireValue (l : Launch) (g : zG) (hst : l.stackTraces = false) (S : zS) (i f : Int32) : zX l yX3_requireValue cX3_requireValue 2 none (zrm 6 1 6) g [.int i, .int f] S (fun w S' => ¬ (i < 1 ∨ f < i) ∧ w = none ∧ S' = S) (fun E S' => E = zn_IA ∧ (i < 1 ∨ f < i) ∧ S' = S) := by
  refine zX_of (nm := "requireValue") (by decide) rfl (Nat.le_of_ble_eq_true rfl) ?_
  intro p e s m args below meth c A ls C hr hlk hxt I hl
  have C : CallFix p m c cX3_requireValue 2 s args zc_W RX3 := C
  have hx := C.1
  have hb := C.2.1
  have hl : lv_has ls 2 [(0, .int i), (1, .int f)] := hl
  refine lv_iload_n hx hb dX3_requireValue_0 rfl (lv_at hl 0 rfl) ?_
  refine lv_iconst (v := 1) hx hb dX3_requireValue_1 (by decide) ?_
  refine lv_icmp_lt (tgt := 10) hx hb dX3_requireValue_2 (by decide) (fun c2 => ?_) (fun c2 => ?_)
  · exact zr_throw (cls := "java/lang/IllegalArgumentException") (text := "a value is 1 to the faces") (ik := 27) (is := 186) (ic := 31) C I hst hxt hlk rfl zt_fitIA zt_fitn zm_87 zm_23 (by decide +kernel) zt_aIA zt_bIA zt_cIA hl.1 dX3_requireValue_10 dX3_requireValue_13 dX3_requireValue_14 dX3_requireValue_16 dX3_requireValue_19 (Nat.le_of_ble_eq_true rfl) (Nat.le_of_ble_eq_true rfl) (Nat.le_of_ble_eq_true rfl) (Nat.le_of_ble_eq_true rfl) (⟨rfl, Or.inl c2, rfl⟩) (Nat.le_of_ble_eq_true rfl) (Nat.le_of_ble_eq_true rfl)
  · refine lv_iload_n hx hb dX3_requireValue_5 rfl (lv_at hl 0 rfl) ?_
    refine lv_iload_n hx hb dX3_requireValue_6 rfl (lv_at hl 1 rfl) ?_
    refine lv_icmp_le (tgt := 20) hx hb dX3_requireValue_7 (by decide) (fun c7 => ?_) (fun c7 => ?_)
    · exact vx_ret (zr_vret C I hr hlk (⟨fun h => h.elim c2 (fun h9 => zi_nlt h9 c7), rfl, rfl⟩) (Nat.le_of_ble_eq_true rfl) (Nat.le_of_ble_eq_true rfl) dX3_requireValue_20)
    · exact zr_throw (cls := "java/lang/IllegalArgumentException") (text := "a value is 1 to the faces") (ik := 27) (is := 186) (ic := 31) C I hst hxt hlk rfl zt_fitIA zt_fitn zm_87 zm_23 (by decide +kernel) zt_aIA zt_bIA zt_cIA hl.1 dX3_requireValue_10 dX3_requireValue_13 dX3_requireValue_14 dX3_requireValue_16 dX3_requireValue_19 (Nat.le_of_ble_eq_true rfl) (Nat.le_of_ble_eq_true rfl) (Nat.le_of_ble_eq_true rfl) (Nat.le_of_ble_eq_true rfl) (⟨rfl, Or.inr (zi_lt c7), rfl⟩) (Nat.le_of_ble_eq_true rfl) (Nat.le_of_ble_eq_true rfl)

set_option maxRecDepth 100000 in
set_option maxHeartbeats 4000000 in
theorem k_X3_seedsWithRemainder (l : Launch) (g : zG) (S : zS) (r : Nat) (hr0 : r < 10007) : zM l yX3_seedsWithRemainder cX3_seedsWithRemainder 1 (some .int) (zrm 0 0 0) g [.int (nI r)] S (fun w S' => w = some (.int (nI ((65535 - r) / 10007 + 1))) ∧ S' = S) := by
  refine zM_of (nm := "seedsWithRemainder") (by decide) rfl (Nat.le_of_ble_eq_true rfl) ?_
  intro p e s m args below meth c A ls C hr hlk hin I hl
  have C : CallFix p m c cX3_seedsWithRemainder 1 s args zc_W RX3 := C
  have hx := C.1
  have hb := C.2.1
  have hl : lv_has ls 1 [(0, .int (nI r))] := hl
  refine lv_ldc (v := 65535) hx hb C.2.2.2.1 (C.2.2.2.2 _ zm_479) dX3_seedsWithRemainder_0 ?_
  refine lv_iload_n hx hb dX3_seedsWithRemainder_2 rfl (lv_at hl 0 rfl) ?_
  refine lv_isub hx hb dX3_seedsWithRemainder_3 ?_
  refine zr_top (y := nI (65535 - r)) (pk_sub (a := 65535) (b := r) (by omega)) ?_
  refine lv_sipush (v := 10007) hx hb dX3_seedsWithRemainder_4 (by decide) ?_
  refine lv_idiv hx hb dX3_seedsWithRemainder_7 (by decide) ?_
  refine zr_top (y := nI ((65535 - r) / 10007)) (pk_div (a := 65535 - r) (d := 10007) (by omega) (by omega) (by omega)) ?_
  refine lv_iconst (v := 1) hx hb dX3_seedsWithRemainder_8 (by decide) ?_
  refine lv_iadd hx hb dX3_seedsWithRemainder_9 ?_
  refine zr_top (y := nI (((65535 - r) / 10007) + 1)) (nI_add ((65535 - r) / 10007) 1) ?_
  exact zr_iret C I hr hlk (⟨rfl, rfl⟩) (Nat.le_of_ble_eq_true rfl) (Nat.le_of_ble_eq_true rfl) dX3_seedsWithRemainder_10

set_option maxRecDepth 100000 in
set_option maxHeartbeats 4000000 in
theorem k_X3_lastSum (l : Launch) (g : zG) (S : zS) (x pl n ar : Nat) (el sv : Nat → Nat) (hx3 : zh_at S 3 x) (r1 : zh_R S 2 x = some pl) (hL : FL g S pl n ar 1 el) (hn : n ≤ 100) (ho : ∀ k : Nat, k < n → zh_I S 8 (el k) = nI (sv k)) : zM l yX3_lastSum cX3_lastSum 1 (some .int) (zrm 3 0 0) g [.ref x] S (fun w S' => w = some (.int (nI (if n = 0 then 17 else sv (n - 1)))) ∧ S' = S) := by
  refine zM_of (nm := "lastSum") (by decide) rfl (Nat.le_of_ble_eq_true rfl) ?_
  intro p e s m args below meth c A ls C hr hlk hin I hl
  have C : CallFix p m c cX3_lastSum 1 s args zc_W RX3 := C
  have hx := C.1
  have hb := C.2.1
  have hl : lv_has ls 1 [(0, .ref x)] := hl
  refine lv_aload_n hx hb dX3_lastSum_0 rfl (lv_at hl 0 rfl) ?_
  refine zg_Forge_log (v := pl) C I hx3 zm_69 (r1) dX3_lastSum_1 ?_
  refine zc_V (n := 0) (rest := []) C I hL.1 rfl rfl (k_Jx4a65c_isEmpty_aae02 l g S pl n hL.1 hL.2.1 (by omega)) zm_342 zm_343 zm_344 zm_19 zm_345 rfl hl.1 dX3_lastSum_4 (by decide +kernel) rfl ⟨Nat.le_of_ble_eq_true rfl, Nat.le_of_ble_eq_true rfl⟩ (Nat.le_of_ble_eq_true rfl) ⟨Nat.le_of_ble_eq_true rfl, Nat.le_of_ble_eq_true rfl⟩ (fun v S' H locs hq I => ?_)
  obtain ⟨rfl, eS⟩ := hq
  rw [eS] at I
  by_cases h0 : n = 0
  · refine zr_top (y := 1) (if_pos h0) ?_
    refine lv_if_eq (tgt := 15) hx hb dX3_lastSum_7 (by decide) (fun h9 => absurd h9 (by decide)) (fun _ => ?_)
    refine lv_bipush (v := 17) hx hb dX3_lastSum_10 (by decide) ?_
    refine lv_goto (tgt := 37) hx hb dX3_lastSum_12 (by decide) ?_
    exact zr_iret C I hr hlk (⟨by rw [if_pos h0]; rfl, rfl⟩) (Nat.le_of_ble_eq_true rfl) (Nat.le_of_ble_eq_true rfl) dX3_lastSum_37
  · refine zr_top (y := 0) (if_neg h0) ?_
    refine lv_if_eq (tgt := 15) hx hb dX3_lastSum_7 (by decide) (fun _ => ?_) (fun h9 => absurd (rfl) h9)
    refine lv_aload_n hx hb dX3_lastSum_15 rfl (lv_at hl 0 rfl) ?_
    refine zg_Forge_log (v := pl) C I hx3 zm_69 (r1) dX3_lastSum_16 ?_
    refine lv_aload_n hx hb dX3_lastSum_19 rfl (lv_at hl 0 rfl) ?_
    refine zg_Forge_log (v := pl) C I hx3 zm_69 (r1) dX3_lastSum_20 ?_
    refine zc_V (n := 0) (rest := [.ref pl]) C I hL.1 rfl rfl (k_Jx4a65c_size_8abf5 l g S pl n hL.1 hL.2.1) zm_144 zm_145 zm_146 zm_19 zm_147 rfl hl.1 dX3_lastSum_23 (by decide +kernel) rfl ⟨Nat.le_of_ble_eq_true rfl, Nat.le_of_ble_eq_true rfl⟩ (Nat.le_of_ble_eq_true rfl) ⟨Nat.le_of_ble_eq_true rfl, Nat.le_of_ble_eq_true rfl⟩ (fun v S' H locs hq I => ?_)
    obtain ⟨rfl, eS⟩ := hq
    rw [eS] at I
    refine lv_iconst (v := 1) hx hb dX3_lastSum_26 (by decide) ?_
    refine lv_isub hx hb dX3_lastSum_27 ?_
    refine zr_top (y := nI (n - 1)) (pk_sub (a := n) (b := 1) (by omega)) ?_
    obtain ⟨h3, h4, h5, h6⟩ : zh_at S 8 ar ∧ n ≤ zh_N S ar ∧ 10 ≤ zh_N S ar ∧ zh_N S ar ≤ 150 := hL.2.2.2.1.elim (fun h => absurd h.1 h0) id
    refine zc_V (n := 1) (rest := []) C I hL.1 rfl rfl (k_Jx4a65c_get_915e3 l g S pl n ar (n - 1) (el (n - 1)) hL.1 hL.2.1 hL.2.2.1 h3 h4 (by omega) (by omega) (hL.2.2.2.2 (n - 1) (by omega)).1) zm_283 zm_284 zm_285 zm_19 zm_286 rfl hl.1 dX3_lastSum_28 (by decide +kernel) rfl ⟨Nat.le_of_ble_eq_true rfl, Nat.le_of_ble_eq_true rfl⟩ (Nat.le_of_ble_eq_true rfl) ⟨Nat.le_of_ble_eq_true rfl, Nat.le_of_ble_eq_true rfl⟩ (fun v S' H locs hq I => ?_)
    obtain ⟨rfl, eS⟩ := hq
    rw [eS] at I
    refine zr_cast C I (hL.2.2.2.2 (n - 1) (by omega)).2 rfl rfl zm_304 dX3_lastSum_31 ?_
    refine zn_Entry_sum (v := nI (sv (n - 1))) (host := "DiceForge") C I (hL.2.2.2.2 (n - 1) (by omega)).2 (by decide +kernel) (ho (n - 1) (by omega)) dX3_lastSum_34 ?_
    exact zr_iret C I hr hlk (⟨by rw [if_neg h0], rfl⟩) (Nat.le_of_ble_eq_true rfl) (Nat.le_of_ble_eq_true rfl) dX3_lastSum_37
end
section
/-! the forge's state, kept and changed -/
theorem zi_le999 {y : Int32} (h : ¬ y < 0) (h2 : y ≤ 999) : ¬ zi 1000 y := fun h9 => h9.elim h (fun h3 => by
  have h4 := Int32.le_iff_toInt_le.mp h3
  have h5 := Int32.le_iff_toInt_le.mp h2
  rw [nI_toInt (by decide)] at h4
  have h6 : (999 : Int32).toInt = 999 := by decide
  omega)
theorem zi_gt999 {y : Int32} (h : ¬ y ≤ 999) : nI 1000 ≤ y := Int32.le_iff_toInt_le.mpr (by
  have h3 : ¬ y.toInt ≤ (999 : Int32).toInt := fun h9 => h (Int32.le_iff_toInt_le.mpr h9)
  rw [nI_toInt (by decide)]
  have h6 : (999 : Int32).toInt = 999 := by decide
  omega)
theorem zi_val {f : Nat} {y : Int32} (hf : f ≤ 1000) (h : ¬ (y < 1 ∨ nI f < y)) : 1 ≤ zx y ∧ zx y ≤ f ∧ y = nI (zx y) := by
  have h1 : ¬ y.toInt < (1 : Int32).toInt := fun h9 => h (Or.inl (Int32.lt_iff_toInt_lt.mpr h9))
  have h2 : ¬ (nI f).toInt < y.toInt := fun h9 => h (Or.inr (Int32.lt_iff_toInt_lt.mpr h9))
  rw [nI_toInt (by omega)] at h2
  have h6 : (1 : Int32).toInt = 1 := by decide
  have h7 : (0 : Int32).toInt = 0 := by decide
  obtain ⟨j, hj, e⟩ := nI_of (x := y) (fun h9 => by have := Int32.lt_iff_toInt_lt.mp h9; omega)
  subst e
  rw [nI_toInt hj] at h1 h2
  rw [zx_nI hj]
  exact ⟨by omega, by omega, rfl⟩
theorem FR_mk {g : zG} {S S' : zS} {T T' : zT} {x pl lo pt ty pa la : Nat} {ap ad ae : Nat → Nat} (hF : FR g S T x pl lo pt ty pa la ap ad ae) (h1 : ∀ k a : Nat, zh_at S k a → zh_at S' k a ∧ zh_N S' a = zh_N S a ∧ zh_Q S' a = zh_Q S a ∧ ∀ j : Nat, zh_R S' j a = zh_R S j a) (e1 : T'.1 = T.1) (hsz : ∀ a : Nat, zh_at S 5 a → zh_I S' 31 a = zh_I S 31 a) (hp : ∀ t : Nat, t < 4 → zh_A S' pt t = nI (T'.2 4 t))
    (hpr : ∀ k : Nat, k < T.1.1 → zh_I S' 10 (ap k) = nI (T'.2 0 k) ∧ zh_I S' 0 (ad k) = nI (T'.2 1 k) ∧ zh_I S' 11 (ap k) = nI (T'.2 2 k) ∧ zh_I S' 12 (ap k) = nI (T'.2 3 k)) (hen : ∀ k : Nat, k < T.1.2 → ∀ j : Nat, j < 8 → zh_I S' (2 + j) (ae k) = nI (T'.2 (5 + j) k)) (hpa : zh_at S' 8 pa → zh_at S 8 pa) : FR g S' T' x pl lo pt ty pa la ap ad ae := by
  obtain ⟨⟨f1, f2, f3, f4, f5⟩, ⟨f6, f7, f8, f9, f10⟩, f11, f12, f13, f14, f15, f16, f17, f18, f19⟩ := hF
  have hL : ∀ (pl n ar kd : Nat) (el : Nat → Nat), FL g S pl n ar kd el → FL g S' pl n ar kd el := fun pl n ar kd el ⟨q1, q2, q3, q4, q5⟩ => by
    refine ⟨(h1 _ _ q1).1, (hsz pl q1).trans q2, ((h1 _ _ q1).2.2.2 30).trans q3, ?_, fun i hi => ?_⟩
    · rcases q4 with q4 | ⟨q4, q6⟩
      · exact Or.inl q4
      · refine Or.inr ⟨(h1 _ _ q4).1, ?_⟩
        rw [(h1 _ _ q4).2.1]; exact q6
    · rcases q4 with ⟨q4, -⟩ | ⟨q4, q6⟩
      · omega
      · exact ⟨by rw [(h1 _ _ q4).2.2.1]; exact (q5 i hi).1, (h1 _ _ (q5 i hi).2).1⟩
  refine ⟨⟨(h1 _ _ f1).1, ((h1 _ _ f1).2.2.2 1).trans f2, ((h1 _ _ f1).2.2.2 2).trans f3, ((h1 _ _ f1).2.2.2 3).trans f4, ((h1 _ _ f1).2.2.2 4).trans f5⟩, ⟨(h1 _ _ f6).1, (h1 _ _ f6).2.1.trans f7, (h1 _ _ f8).1, (h1 _ _ f8).2.1.trans f9, hp⟩, ?_, ?_, f13, fun h => f14 (hpa h), fun k hk => ?_, ?_, ?_, ?_, ?_⟩
  · rw [e1]; exact hL _ _ _ _ _ f11
  · rw [e1]; exact hL _ _ _ _ _ f12
  · rw [e1] at hk
    obtain ⟨q1, q2, q3⟩ := f15 k hk
    exact ⟨((h1 _ _ (f11.2.2.2.2 k hk).2).2.2.2 0).trans q1, (h1 _ _ q2).1, hpr k hk⟩
  · rw [e1]; exact hen
  · rw [e1]; exact f17
  · rw [e1]; exact f18
  · rw [e1]; exact f19
theorem zt_s_s (T : zT) (j k x : Nat) : (zt_s T j k x).2 j k = x := zh_u_s _ _ _ _
theorem zt_s_j (T : zT) {j j' : Nat} (k k' x : Nat) (h : j' ≠ j) : (zt_s T j k x).2 j' k' = T.2 j' k' := zh_u_j _ _ _ _ h
theorem zt_s_k (T : zT) (j j' : Nat) {k k' : Nat} (x : Nat) (h : k' ≠ k) : (zt_s T j k x).2 j' k' = T.2 j' k' := zh_u_a _ _ _ _ h
theorem zI_j (S : zS) {j j' : Nat} (a a' : Nat) (v : Int32) (h : j' ≠ j) : zh_I (zh_sI S j a v) j' a' = zh_I S j' a' := zh_u_j _ _ _ _ h
theorem zI_a (S : zS) (j j' : Nat) {a a' : Nat} (v : Int32) (h : a' ≠ a) : zh_I (zh_sI S j a v) j' a' = zh_I S j' a' := zh_u_a _ _ _ _ h
theorem zI_s (S : zS) (j a : Nat) (v : Int32) : zh_I (zh_sI S j a v) j a = v := zh_u_s _ _ _ _
/-- a promise's flag is written: f field 11 or 12, v kind 2 or 3 -/
theorem FR_flag {g : zG} {S : zS} {T : zT} {x pl lo pt ty pa la : Nat} {ap ad ae : Nat → Nat} (hF : FR g S T x pl lo pt ty pa la ap ad ae) {f v k y : Nat} (hk : k < T.1.1) (hfv : (f = 11 ∧ v = 2) ∨ (f = 12 ∧ v = 3)) : FR g (zh_sI S f (ap k) (nI y)) (zt_s T v k y) x pl lo pt ty pa la ap ad ae := by
  have hF0 := hF
  obtain ⟨⟨f1, f2, f3, f4, f5⟩, ⟨f6, f7, f8, f9, f10⟩, f11, f12, f13, f14, f15, f16, f17, f18, f19⟩ := hF
  refine FR_mk hF0 (fun k a h => ⟨h, rfl, rfl, fun _ => rfl⟩) rfl (fun a _ => zI_j _ _ _ _ (by omega)) (fun t ht => ?_) (fun i hi => ?_) (fun i hi j hj => ?_) id
  · rw [zt_s_j _ _ _ _ (by omega)]; exact f10 t ht
  · obtain ⟨-, -, q3, q4, q5, q6⟩ := f15 i hi
    rcases hfv with ⟨rfl, rfl⟩ | ⟨rfl, rfl⟩
    · refine ⟨(by rw [zI_j _ _ _ _ (by decide), zt_s_j _ _ _ _ (by decide)]; exact q3), (by rw [zI_j _ _ _ _ (by decide), zt_s_j _ _ _ _ (by decide)]; exact q4), ?_, (by rw [zI_j _ _ _ _ (by decide), zt_s_j _ _ _ _ (by decide)]; exact q6)⟩
      by_cases e : i = k
      · subst e; rw [zt_s_s, zI_s]
      · rw [zt_s_k _ _ _ _ e]; rw [zI_a _ _ _ _ (fun h => e (f17 _ _ hi hk h))]; exact q5
    · refine ⟨(by rw [zI_j _ _ _ _ (by decide), zt_s_j _ _ _ _ (by decide)]; exact q3), (by rw [zI_j _ _ _ _ (by decide), zt_s_j _ _ _ _ (by decide)]; exact q4), (by rw [zI_j _ _ _ _ (by decide), zt_s_j _ _ _ _ (by decide)]; exact q5), ?_⟩
      by_cases e : i = k
      · subst e; rw [zt_s_s, zI_s]
      · rw [zt_s_k _ _ _ _ e]; rw [zI_a _ _ _ _ (fun h => e (f17 _ _ hi hk h))]; exact q6
  · rw [zt_s_j _ _ _ _ (by omega)]; exact (zI_j _ _ _ _ (by omega)).trans (f16 i hi j hj)
/-- an entry's field is written -/
theorem FR_ent {g : zG} {S : zS} {T : zT} {x pl lo pt ty pa la : Nat} {ap ad ae : Nat → Nat} (hF : FR g S T x pl lo pt ty pa la ap ad ae) {f k y : Nat} (hk : k < T.1.2) (hf : f < 8) : FR g (zh_sI S (2 + f) (ae k) (nI y)) (zt_s T (5 + f) k y) x pl lo pt ty pa la ap ad ae := by
  have hF0 := hF
  obtain ⟨⟨f1, f2, f3, f4, f5⟩, ⟨f6, f7, f8, f9, f10⟩, f11, f12, f13, f14, f15, f16, f17, f18, f19⟩ := hF
  refine FR_mk hF0 (fun k a h => ⟨h, rfl, rfl, fun _ => rfl⟩) rfl (fun a _ => zI_j _ _ _ _ (by omega)) (fun t ht => ?_) (fun i hi => ?_) (fun i hi j hj => ?_) id
  · rw [zt_s_j _ _ _ _ (by omega)]; exact f10 t ht
  · obtain ⟨-, -, q3, q4, q5, q6⟩ := f15 i hi
    rw [zt_s_j _ _ _ _ (by omega), zt_s_j _ _ _ _ (by omega), zt_s_j _ _ _ _ (by omega), zt_s_j _ _ _ _ (by omega)]
    exact ⟨(zI_j _ _ _ _ (by omega)).trans q3, (zI_j _ _ _ _ (by omega)).trans q4, (zI_j _ _ _ _ (by omega)).trans q5, (zI_j _ _ _ _ (by omega)).trans q6⟩
  · by_cases e : i = k
    · subst e
      by_cases e2 : j = f
      · subst e2; rw [zt_s_s, zI_s]
      · rw [zt_s_j _ _ _ _ (by omega)]; exact (zI_j _ _ _ _ (by omega)).trans (f16 i hi j hj)
    · rw [zt_s_k _ _ _ _ e]; exact (zI_a _ _ _ _ (fun h => e (f19 _ _ hi hk h))).trans (f16 i hi j hj)
/-- a table's part is written -/
theorem FR_part {g : zG} {S : zS} {T : zT} {x pl lo pt ty pa la : Nat} {ap ad ae : Nat → Nat} (hF : FR g S T x pl lo pt ty pa la ap ad ae) {k y : Nat} (hk : k < 4) : FR g (zh_sA S pt (upd (zh_A S pt) k (nI y))) (zt_s T 4 k y) x pl lo pt ty pa la ap ad ae := by
  have hF0 := hF
  obtain ⟨⟨f1, f2, f3, f4, f5⟩, ⟨f6, f7, f8, f9, f10⟩, f11, f12, f13, f14, f15, f16, f17, f18, f19⟩ := hF
  refine FR_mk hF0 (fun k a h => ⟨h, rfl, rfl, fun _ => rfl⟩) rfl (fun a _ => rfl) (fun t ht => ?_) (fun i hi => ?_) (fun i hi j hj => ?_) id
  · show va_up (zh_A S) pt _ pt t = _
    rw [va_up_self]
    by_cases e : t = k
    · subst e; rw [zt_s_s, pk_us]
    · rw [zt_s_k _ _ _ _ e, pk_un e]; exact f10 t ht
  · obtain ⟨-, -, q3, q4, q5, q6⟩ := f15 i hi
    rw [zt_s_j _ _ _ _ (by omega), zt_s_j _ _ _ _ (by omega), zt_s_j _ _ _ _ (by omega), zt_s_j _ _ _ _ (by omega)]
    exact ⟨q3, q4, q5, q6⟩
  · rw [zt_s_j _ _ _ _ (by omega)]; exact f16 i hi j hj
/-- the tally is written -/
theorem FR_tally {g : zG} {S : zS} {T : zT} {x pl lo pt ty pa la : Nat} {ap ad ae : Nat → Nat} (hF : FR g S T x pl lo pt ty pa la ap ad ae) (f : Nat → Int32) : FR g (zh_sA S ty f) T x pl lo pt ty pa la ap ad ae := by
  have hF0 := hF
  obtain ⟨⟨f1, f2, f3, f4, f5⟩, ⟨f6, f7, f8, f9, f10⟩, f11, f12, f13, f14, f15, f16, f17, f18, f19⟩ := hF
  refine FR_mk hF0 (fun k a h => ⟨h, rfl, rfl, fun _ => rfl⟩) rfl (fun a _ => rfl) (fun t ht => ?_) (fun i hi => (f15 i hi).2.2) f16 id
  show va_up (zh_A S) ty _ pt t = _
  rw [va_up_ne _ _ (fun e : pt = ty => by rw [e, f9] at f7; omega)]; exact f10 t ht

set_option maxRecDepth 100000 in
set_option maxHeartbeats 4000000 in
theorem k_X3_value (l : Launch) (g : zG) (hst : l.stackTraces = false) (S : zS) (T : zT) (x pl lo pt ty pa la : Nat) (ap ad ae : Nat → Nat) (hT : zt_ok T) (hF : FR g S T x pl lo pt ty pa la ap ad ae) (i : Int32) : zX l yX3_value cX3_value 2 (some .int) (zrm 7 1 6) g [.ref x, .int i] S (fun w S' => zc_entry T i = 0 ∧ w = some (.int (nI (T.2 9 (zx i)))) ∧ S' = S) (fun E S' => zc_entry T i = 1 ∧ E = zn_IO ∧ S' = S) := by
  refine zX_of (nm := "value") (by decide) rfl (Nat.le_of_ble_eq_true rfl) ?_
  intro p e s m args below meth c A ls C hr hlk hxt I hl
  have C : CallFix p m c cX3_value 2 s args zc_W RX3 := C
  have hx := C.1
  have hb := C.2.1
  have hl : lv_has ls 2 [(0, .ref x), (1, .int i)] := hl
  have hF0 := hF
  obtain ⟨⟨f1, f2, f3, f4, f5⟩, ⟨f6, f7, f8, f9, f10⟩, f11, f12, f13, f14, f15, f16, f17, f18, f19⟩ := hF
  obtain ⟨t1, t2, t3, t4, t5, t6, t7⟩ := hT
  refine lv_aload_n hx hb dX3_value_0 rfl (lv_at hl 0 rfl) ?_
  refine lv_iload_n hx hb dX3_value_1 rfl (lv_at hl 1 rfl) ?_
  refine zc_VX (n := 1) (rest := []) C I f1 rfl rfl (k_X3_entryAt l g hst S x lo T.1.2 la ae i f1 f3 f12 t2) zm_353 zm_354 zm_9 zm_16 zm_355 rfl hl.1 dX3_value_2 (by decide +kernel) rfl ⟨Nat.le_of_ble_eq_true rfl, Nat.le_of_ble_eq_true rfl⟩ (Nat.le_of_ble_eq_true rfl) ⟨Nat.le_of_ble_eq_true rfl, Nat.le_of_ble_eq_true rfl⟩ (fun E ce q9 S' H locs hq I h1 h2 h3 => ?_) (fun v S' H locs hq I => ?_)
  · obtain ⟨hE, hz, eS⟩ := hq
    rw [eS] at I
    exact zr_out I hxt hlk (⟨if_pos hz, hE, rfl⟩) h1 h2 h3 (Nat.le_of_ble_eq_true rfl) (Nat.le_of_ble_eq_true rfl)
  · obtain ⟨hz, rfl, eS⟩ := hq
    rw [eS] at I
    have hj : zx i < T.1.2 := (zi_cases i (n := T.1.2) (by omega)).elim (fun h => absurd h hz) (fun h => h.2.1)
    refine zn_Entry_value (v := nI (T.2 9 (zx i))) (host := "DiceForge") C I (f12.2.2.2.2 _ hj).2 (by decide +kernel) (f16 _ hj 4 (by decide)) dX3_value_5 ?_
    exact vx_ret (zr_iret C I hr hlk (⟨if_neg hz, rfl, rfl⟩) (Nat.le_of_ble_eq_true rfl) (Nat.le_of_ble_eq_true rfl) dX3_value_8)

set_option maxRecDepth 100000 in
set_option maxHeartbeats 4000000 in
theorem k_X3_rejected (l : Launch) (g : zG) (hst : l.stackTraces = false) (S : zS) (T : zT) (x pl lo pt ty pa la : Nat) (ap ad ae : Nat → Nat) (hT : zt_ok T) (hF : FR g S T x pl lo pt ty pa la ap ad ae) (i : Int32) : zX l yX3_rejected cX3_rejected 2 (some .int) (zrm 7 1 6) g [.ref x, .int i] S (fun w S' => zc_entry T i = 0 ∧ w = some (.int (nI (T.2 10 (zx i)))) ∧ S' = S) (fun E S' => zc_entry T i = 1 ∧ E = zn_IO ∧ S' = S) := by
  refine zX_of (nm := "rejected") (by decide) rfl (Nat.le_of_ble_eq_true rfl) ?_
  intro p e s m args below meth c A ls C hr hlk hxt I hl
  have C : CallFix p m c cX3_rejected 2 s args zc_W RX3 := C
  have hx := C.1
  have hb := C.2.1
  have hl : lv_has ls 2 [(0, .ref x), (1, .int i)] := hl
  have hF0 := hF
  obtain ⟨⟨f1, f2, f3, f4, f5⟩, ⟨f6, f7, f8, f9, f10⟩, f11, f12, f13, f14, f15, f16, f17, f18, f19⟩ := hF
  obtain ⟨t1, t2, t3, t4, t5, t6, t7⟩ := hT
  refine lv_aload_n hx hb dX3_rejected_0 rfl (lv_at hl 0 rfl) ?_
  refine lv_iload_n hx hb dX3_rejected_1 rfl (lv_at hl 1 rfl) ?_
  refine zc_VX (n := 1) (rest := []) C I f1 rfl rfl (k_X3_entryAt l g hst S x lo T.1.2 la ae i f1 f3 f12 t2) zm_353 zm_354 zm_9 zm_16 zm_355 rfl hl.1 dX3_rejected_2 (by decide +kernel) rfl ⟨Nat.le_of_ble_eq_true rfl, Nat.le_of_ble_eq_true rfl⟩ (Nat.le_of_ble_eq_true rfl) ⟨Nat.le_of_ble_eq_true rfl, Nat.le_of_ble_eq_true rfl⟩ (fun E ce q9 S' H locs hq I h1 h2 h3 => ?_) (fun v S' H locs hq I => ?_)
  · obtain ⟨hE, hz, eS⟩ := hq
    rw [eS] at I
    exact zr_out I hxt hlk (⟨if_pos hz, hE, rfl⟩) h1 h2 h3 (Nat.le_of_ble_eq_true rfl) (Nat.le_of_ble_eq_true rfl)
  · obtain ⟨hz, rfl, eS⟩ := hq
    rw [eS] at I
    have hj : zx i < T.1.2 := (zi_cases i (n := T.1.2) (by omega)).elim (fun h => absurd h hz) (fun h => h.2.1)
    refine zn_Entry_rejected (v := nI (T.2 10 (zx i))) (host := "DiceForge") C I (f12.2.2.2.2 _ hj).2 (by decide +kernel) (f16 _ hj 5 (by decide)) dX3_rejected_5 ?_
    exact vx_ret (zr_iret C I hr hlk (⟨if_neg hz, rfl, rfl⟩) (Nat.le_of_ble_eq_true rfl) (Nat.le_of_ble_eq_true rfl) dX3_rejected_8)

set_option maxRecDepth 100000 in
set_option maxHeartbeats 4000000 in
theorem k_X3_sum (l : Launch) (g : zG) (hst : l.stackTraces = false) (S : zS) (T : zT) (x pl lo pt ty pa la : Nat) (ap ad ae : Nat → Nat) (hT : zt_ok T) (hF : FR g S T x pl lo pt ty pa la ap ad ae) (i : Int32) : zX l yX3_sum cX3_sum 2 (some .int) (zrm 7 1 6) g [.ref x, .int i] S (fun w S' => zc_entry T i = 0 ∧ w = some (.int (nI (T.2 11 (zx i)))) ∧ S' = S) (fun E S' => zc_entry T i = 1 ∧ E = zn_IO ∧ S' = S) := by
  refine zX_of (nm := "sum") (by decide) rfl (Nat.le_of_ble_eq_true rfl) ?_
  intro p e s m args below meth c A ls C hr hlk hxt I hl
  have C : CallFix p m c cX3_sum 2 s args zc_W RX3 := C
  have hx := C.1
  have hb := C.2.1
  have hl : lv_has ls 2 [(0, .ref x), (1, .int i)] := hl
  have hF0 := hF
  obtain ⟨⟨f1, f2, f3, f4, f5⟩, ⟨f6, f7, f8, f9, f10⟩, f11, f12, f13, f14, f15, f16, f17, f18, f19⟩ := hF
  obtain ⟨t1, t2, t3, t4, t5, t6, t7⟩ := hT
  refine lv_aload_n hx hb dX3_sum_0 rfl (lv_at hl 0 rfl) ?_
  refine lv_iload_n hx hb dX3_sum_1 rfl (lv_at hl 1 rfl) ?_
  refine zc_VX (n := 1) (rest := []) C I f1 rfl rfl (k_X3_entryAt l g hst S x lo T.1.2 la ae i f1 f3 f12 t2) zm_353 zm_354 zm_9 zm_16 zm_355 rfl hl.1 dX3_sum_2 (by decide +kernel) rfl ⟨Nat.le_of_ble_eq_true rfl, Nat.le_of_ble_eq_true rfl⟩ (Nat.le_of_ble_eq_true rfl) ⟨Nat.le_of_ble_eq_true rfl, Nat.le_of_ble_eq_true rfl⟩ (fun E ce q9 S' H locs hq I h1 h2 h3 => ?_) (fun v S' H locs hq I => ?_)
  · obtain ⟨hE, hz, eS⟩ := hq
    rw [eS] at I
    exact zr_out I hxt hlk (⟨if_pos hz, hE, rfl⟩) h1 h2 h3 (Nat.le_of_ble_eq_true rfl) (Nat.le_of_ble_eq_true rfl)
  · obtain ⟨hz, rfl, eS⟩ := hq
    rw [eS] at I
    have hj : zx i < T.1.2 := (zi_cases i (n := T.1.2) (by omega)).elim (fun h => absurd h hz) (fun h => h.2.1)
    refine zn_Entry_sum (v := nI (T.2 11 (zx i))) (host := "DiceForge") C I (f12.2.2.2.2 _ hj).2 (by decide +kernel) (f16 _ hj 6 (by decide)) dX3_sum_5 ?_
    exact vx_ret (zr_iret C I hr hlk (⟨if_neg hz, rfl, rfl⟩) (Nat.le_of_ble_eq_true rfl) (Nat.le_of_ble_eq_true rfl) dX3_sum_8)

set_option maxRecDepth 100000 in
set_option maxHeartbeats 4000000 in
theorem k_X3_isStruck (l : Launch) (g : zG) (hst : l.stackTraces = false) (S : zS) (T : zT) (x pl lo pt ty pa la : Nat) (ap ad ae : Nat → Nat) (hT : zt_ok T) (hF : FR g S T x pl lo pt ty pa la ap ad ae) (i : Int32) : zX l yX3_isStruck cX3_isStruck 2 (some .boolean) (zrm 7 1 6) g [.ref x, .int i] S (fun w S' => zc_entry T i = 0 ∧ w = some (.int (nI (T.2 12 (zx i)))) ∧ S' = S) (fun E S' => zc_entry T i = 1 ∧ E = zn_IO ∧ S' = S) := by
  refine zX_of (nm := "isStruck") (by decide) rfl (Nat.le_of_ble_eq_true rfl) ?_
  intro p e s m args below meth c A ls C hr hlk hxt I hl
  have C : CallFix p m c cX3_isStruck 2 s args zc_W RX3 := C
  have hx := C.1
  have hb := C.2.1
  have hl : lv_has ls 2 [(0, .ref x), (1, .int i)] := hl
  have hF0 := hF
  obtain ⟨⟨f1, f2, f3, f4, f5⟩, ⟨f6, f7, f8, f9, f10⟩, f11, f12, f13, f14, f15, f16, f17, f18, f19⟩ := hF
  obtain ⟨t1, t2, t3, t4, t5, t6, t7⟩ := hT
  refine lv_aload_n hx hb dX3_isStruck_0 rfl (lv_at hl 0 rfl) ?_
  refine lv_iload_n hx hb dX3_isStruck_1 rfl (lv_at hl 1 rfl) ?_
  refine zc_VX (n := 1) (rest := []) C I f1 rfl rfl (k_X3_entryAt l g hst S x lo T.1.2 la ae i f1 f3 f12 t2) zm_353 zm_354 zm_9 zm_16 zm_355 rfl hl.1 dX3_isStruck_2 (by decide +kernel) rfl ⟨Nat.le_of_ble_eq_true rfl, Nat.le_of_ble_eq_true rfl⟩ (Nat.le_of_ble_eq_true rfl) ⟨Nat.le_of_ble_eq_true rfl, Nat.le_of_ble_eq_true rfl⟩ (fun E ce q9 S' H locs hq I h1 h2 h3 => ?_) (fun v S' H locs hq I => ?_)
  · obtain ⟨hE, hz, eS⟩ := hq
    rw [eS] at I
    exact zr_out I hxt hlk (⟨if_pos hz, hE, rfl⟩) h1 h2 h3 (Nat.le_of_ble_eq_true rfl) (Nat.le_of_ble_eq_true rfl)
  · obtain ⟨hz, rfl, eS⟩ := hq
    rw [eS] at I
    have hj : zx i < T.1.2 := (zi_cases i (n := T.1.2) (by omega)).elim (fun h => absurd h hz) (fun h => h.2.1)
    refine zn_Entry_struck (v := nI (T.2 12 (zx i))) (host := "DiceForge") C I (f12.2.2.2.2 _ hj).2 (by decide +kernel) (f16 _ hj 7 (by decide)) dX3_isStruck_5 ?_
    have h01 := (t5 _ hj).2.2.2.2.2.2.2.2.2
    exact vx_ret (zr_zret C I hr (zf_b (by rcases (show T.2 12 (zx i) = 0 ∨ T.2 12 (zx i) = 1 by omega) with h | h <;> rw [h] <;> decide)).1 hlk (⟨if_neg hz, rfl, rfl⟩) (Nat.le_of_ble_eq_true rfl) (Nat.le_of_ble_eq_true rfl) dX3_isStruck_8)

set_option maxRecDepth 100000 in
set_option maxHeartbeats 4000000 in
theorem k_X3_isOpened (l : Launch) (g : zG) (hst : l.stackTraces = false) (S : zS) (T : zT) (x pl lo pt ty pa la : Nat) (ap ad ae : Nat → Nat) (hT : zt_ok T) (hF : FR g S T x pl lo pt ty pa la ap ad ae) (i : Int32) : zX l yX3_isOpened cX3_isOpened 2 (some .boolean) (zrm 7 1 6) g [.ref x, .int i] S (fun w S' => zc_prom T i = 0 ∧ w = some (.int (nI (T.2 2 (zx i)))) ∧ S' = S) (fun E S' => zc_prom T i = 1 ∧ E = zn_IO ∧ S' = S) := by
  refine zX_of (nm := "isOpened") (by decide) rfl (Nat.le_of_ble_eq_true rfl) ?_
  intro p e s m args below meth c A ls C hr hlk hxt I hl
  have C : CallFix p m c cX3_isOpened 2 s args zc_W RX3 := C
  have hx := C.1
  have hb := C.2.1
  have hl : lv_has ls 2 [(0, .ref x), (1, .int i)] := hl
  have hF0 := hF
  obtain ⟨⟨f1, f2, f3, f4, f5⟩, ⟨f6, f7, f8, f9, f10⟩, f11, f12, f13, f14, f15, f16, f17, f18, f19⟩ := hF
  obtain ⟨t1, t2, t3, t4, t5, t6, t7⟩ := hT
  refine lv_aload_n hx hb dX3_isOpened_0 rfl (lv_at hl 0 rfl) ?_
  refine lv_iload_n hx hb dX3_isOpened_1 rfl (lv_at hl 1 rfl) ?_
  refine zc_VX (n := 1) (rest := []) C I f1 rfl rfl (k_X3_promiseAt l g hst S x pl T.1.1 pa ap i f1 f2 f11 (by omega)) zm_280 zm_281 zm_4 zm_16 zm_282 rfl hl.1 dX3_isOpened_2 (by decide +kernel) rfl ⟨Nat.le_of_ble_eq_true rfl, Nat.le_of_ble_eq_true rfl⟩ (Nat.le_of_ble_eq_true rfl) ⟨Nat.le_of_ble_eq_true rfl, Nat.le_of_ble_eq_true rfl⟩ (fun E ce q9 S' H locs hq I h1 h2 h3 => ?_) (fun v S' H locs hq I => ?_)
  · obtain ⟨hE, hz, eS⟩ := hq
    rw [eS] at I
    exact zr_out I hxt hlk (⟨if_pos hz, hE, rfl⟩) h1 h2 h3 (Nat.le_of_ble_eq_true rfl) (Nat.le_of_ble_eq_true rfl)
  · obtain ⟨hz, rfl, eS⟩ := hq
    rw [eS] at I
    have hj : zx i < T.1.1 := (zi_cases i (n := T.1.1) (by omega)).elim (fun h => absurd h hz) (fun h => h.2.1)
    refine zn_Promise_opened (v := nI (T.2 2 (zx i))) (host := "DiceForge") C I (f11.2.2.2.2 _ hj).2 (by decide +kernel) ((f15 _ hj).2.2.2.2.1) dX3_isOpened_5 ?_
    have h01 := (t3 (zx i)).2.2.1
    exact vx_ret (zr_zret C I hr (zf_b (by rcases (show T.2 2 (zx i) = 0 ∨ T.2 2 (zx i) = 1 by omega) with h | h <;> rw [h] <;> decide)).1 hlk (⟨if_neg hz, rfl, rfl⟩) (Nat.le_of_ble_eq_true rfl) (Nat.le_of_ble_eq_true rfl) dX3_isOpened_8)

set_option maxRecDepth 100000 in
set_option maxHeartbeats 4000000 in
theorem k_X3_sign (l : Launch) (g : zG) (hst : l.stackTraces = false) (S : zS) (T : zT) (x pl lo pt ty pa la : Nat) (ap ad ae : Nat → Nat) (hT : zt_ok T) (hF : FR g S T x pl lo pt ty pa la ap ad ae) (i : Int32) : zX l yX3_sign cX3_sign 4 (some .int) (zrm 7 1 6) g [.ref x, .int i] S (fun w S' => zc_prom T i = 0 ∧ w = some (.int (nI (zd_sign (T.2 0 (zx i))))) ∧ S' = S) (fun E S' => zc_prom T i = 1 ∧ E = zn_IO ∧ S' = S) := by
  refine zX_of (nm := "sign") (by decide) rfl (Nat.le_of_ble_eq_true rfl) ?_
  intro p e s m args below meth c A ls C hr hlk hxt I hl
  have C : CallFix p m c cX3_sign 4 s args zc_W RX3 := C
  have hx := C.1
  have hb := C.2.1
  have hl : lv_has ls 4 [(0, .ref x), (1, .int i)] := hl
  have hF0 := hF
  obtain ⟨⟨f1, f2, f3, f4, f5⟩, ⟨f6, f7, f8, f9, f10⟩, f11, f12, f13, f14, f15, f16, f17, f18, f19⟩ := hF
  obtain ⟨t1, t2, t3, t4, t5, t6, t7⟩ := hT
  refine lv_aload_n hx hb dX3_sign_0 rfl (lv_at hl 0 rfl) ?_
  refine lv_iload_n hx hb dX3_sign_1 rfl (lv_at hl 1 rfl) ?_
  refine zc_VX (n := 1) (rest := []) C I f1 rfl rfl (k_X3_promiseAt l g hst S x pl T.1.1 pa ap i f1 f2 f11 (by omega)) zm_280 zm_281 zm_4 zm_16 zm_282 rfl hl.1 dX3_sign_2 (by decide +kernel) rfl ⟨Nat.le_of_ble_eq_true rfl, Nat.le_of_ble_eq_true rfl⟩ (Nat.le_of_ble_eq_true rfl) ⟨Nat.le_of_ble_eq_true rfl, Nat.le_of_ble_eq_true rfl⟩ (fun E ce q9 S' H locs hq I h1 h2 h3 => ?_) (fun v S' H locs hq I => ?_)
  · obtain ⟨hE, hz, eS⟩ := hq
    rw [eS] at I
    exact zr_out I hxt hlk (⟨if_pos hz, hE, rfl⟩) h1 h2 h3 (Nat.le_of_ble_eq_true rfl) (Nat.le_of_ble_eq_true rfl)
  · obtain ⟨hz, rfl, eS⟩ := hq
    rw [eS] at I
    have hj : zx i < T.1.1 := (zi_cases i (n := T.1.1) (by omega)).elim (fun h => absurd h hz) (fun h => h.2.1)
    have hs := (t3 (zx i)).1
    have hss : T.2 0 (zx i) * T.2 0 (zx i) ≤ 65535 * 65535 := Nat.mul_le_mul (by omega) (by omega)
    refine zn_Promise_seed (v := nI (T.2 0 (zx i))) (host := "DiceForge") C I (f11.2.2.2.2 _ hj).2 (by decide +kernel) ((f15 _ hj).2.2.1) dX3_sign_5 ?_
    refine lv_i2l hx hb dX3_sign_8 rfl ?_
    refine zr_topl (y := lN (T.2 0 (zx i))) (nI_l (n := T.2 0 (zx i)) (by omega)) ?_
    refine lv_lstore_n (lv' := [(2, .long (lN (T.2 0 (zx i)))), (0, .ref x), (1, .int i)]) hx hb dX3_sign_9 rfl hl (by decide) rfl (fun ls hl => ?_)
    refine lv_lload_n hx hb dX3_sign_10 rfl (lv_at hl 0 rfl) ?_
    refine lv_lload_n hx hb dX3_sign_11 rfl (lv_at hl 0 rfl) ?_
    refine lv_lmul hx hb dX3_sign_12 ?_
    refine zr_topl (y := lN ((T.2 0 (zx i)) * (T.2 0 (zx i)))) (lN_mul (T.2 0 (zx i)) (T.2 0 (zx i))) ?_
    refine lv_ldc2 (v := 31) hx hb C.2.2.2.1 (C.2.2.2.2 _ zm_423) dX3_sign_13 ?_
    refine lv_lload_n hx hb dX3_sign_16 rfl (lv_at hl 0 rfl) ?_
    refine lv_lmul hx hb dX3_sign_17 ?_
    refine zr_topl (y := lN (31 * (T.2 0 (zx i)))) (lN_mul 31 (T.2 0 (zx i))) ?_
    refine lv_ladd hx hb dX3_sign_18 ?_
    refine zr_topl (y := lN (((T.2 0 (zx i)) * (T.2 0 (zx i))) + (31 * (T.2 0 (zx i))))) (lN_add ((T.2 0 (zx i)) * (T.2 0 (zx i))) (31 * (T.2 0 (zx i)))) ?_
    refine lv_ldc2 (v := 7) hx hb C.2.2.2.1 (C.2.2.2.2 _ zm_424) dX3_sign_19 ?_
    refine lv_ladd hx hb dX3_sign_22 ?_
    refine zr_topl (y := lN ((((T.2 0 (zx i)) * (T.2 0 (zx i))) + (31 * (T.2 0 (zx i)))) + 7)) (lN_add (((T.2 0 (zx i)) * (T.2 0 (zx i))) + (31 * (T.2 0 (zx i)))) 7) ?_
    refine lv_ldc2 (v := 10007) hx hb C.2.2.2.1 (C.2.2.2.2 _ zm_425) dX3_sign_23 ?_
    refine lv_lrem hx hb dX3_sign_26 (by decide) ?_
    refine zr_topl (y := lN (((((T.2 0 (zx i)) * (T.2 0 (zx i))) + (31 * (T.2 0 (zx i)))) + 7) % 10007)) (pk_lRem (a := (((T.2 0 (zx i)) * (T.2 0 (zx i))) + (31 * (T.2 0 (zx i)))) + 7) (b := 10007) (by omega) (by omega) (by omega)) ?_
    refine lv_l2i hx hb dX3_sign_27 rfl ?_
    refine zr_top (y := nI (((((T.2 0 (zx i)) * (T.2 0 (zx i))) + (31 * (T.2 0 (zx i)))) + 7) % 10007)) (lN_i (((((T.2 0 (zx i)) * (T.2 0 (zx i))) + (31 * (T.2 0 (zx i)))) + 7) % 10007)) ?_
    exact vx_ret (zr_iret C I hr hlk (⟨if_neg hz, rfl, rfl⟩) (Nat.le_of_ble_eq_true rfl) (Nat.le_of_ble_eq_true rfl) dX3_sign_28)

set_option maxRecDepth 100000 in
set_option maxHeartbeats 4000000 in
theorem k_X3_entries (l : Launch) (g : zG) (hst : l.stackTraces = false) (S : zS) (T : zT) (x pl lo pt ty pa la : Nat) (ap ad ae : Nat → Nat) (hT : zt_ok T) (hF : FR g S T x pl lo pt ty pa la ap ad ae) : zM l yX3_entries cX3_entries 1 (some .int) (zrm 7 0 0) g [.ref x] S (fun w S' => w = some (.int (nI T.1.2)) ∧ S' = S) := by
  refine zM_of (nm := "entries") (by decide) rfl (Nat.le_of_ble_eq_true rfl) ?_
  intro p e s m args below meth c A ls C hr hlk hin I hl
  have C : CallFix p m c cX3_entries 1 s args zc_W RX3 := C
  have hx := C.1
  have hb := C.2.1
  have hl : lv_has ls 1 [(0, .ref x)] := hl
  have hF0 := hF
  obtain ⟨⟨f1, f2, f3, f4, f5⟩, ⟨f6, f7, f8, f9, f10⟩, f11, f12, f13, f14, f15, f16, f17, f18, f19⟩ := hF
  obtain ⟨t1, t2, t3, t4, t5, t6, t7⟩ := hT
  refine lv_aload_n hx hb dX3_entries_0 rfl (lv_at hl 0 rfl) ?_
  refine zg_Forge_log (v := lo) C I f1 zm_69 (f3) dX3_entries_1 ?_
  refine zc_V (n := 0) (rest := []) C I f12.1 rfl rfl (k_Jx4a65c_size_8abf5 l g S lo T.1.2 f12.1 f12.2.1) zm_144 zm_145 zm_146 zm_19 zm_147 rfl hl.1 dX3_entries_4 (by decide +kernel) rfl ⟨Nat.le_of_ble_eq_true rfl, Nat.le_of_ble_eq_true rfl⟩ (Nat.le_of_ble_eq_true rfl) ⟨Nat.le_of_ble_eq_true rfl, Nat.le_of_ble_eq_true rfl⟩ (fun v S' H locs hq I => ?_)
  obtain ⟨rfl, eS⟩ := hq
  rw [eS] at I
  exact zr_iret C I hr hlk (⟨rfl, rfl⟩) (Nat.le_of_ble_eq_true rfl) (Nat.le_of_ble_eq_true rfl) dX3_entries_7

set_option maxRecDepth 100000 in
set_option maxHeartbeats 4000000 in
theorem k_X3_open (l : Launch) (g : zG) (hst : l.stackTraces = false) (S : zS) (T : zT) (x pl lo pt ty pa la : Nat) (ap ad ae : Nat → Nat) (hT : zt_ok T) (hF : FR g S T x pl lo pt ty pa la ap ad ae) (i : Int32) : zX l yX3_open cX3_open 3 (some .int) (zrm 7 2 12) g [.ref x, .int i] S (fun w S' => zc_open T i = 0 ∧ w = some (.int (nI (T.2 0 (zx i)))) ∧ FR g S' (zs_open T i) x pl lo pt ty pa la ap ad ae ∧ zk_ S S') (fun E S' => ((zc_open T i = 1 ∧ E = zn_IO) ∨ (zc_open T i = 2 ∧ E = zn_IS)) ∧ S' = S) := by
  refine zX_of (nm := "open") (by decide) rfl (Nat.le_of_ble_eq_true rfl) ?_
  intro p e s m args below meth c A ls C hr hlk hxt I hl
  have C : CallFix p m c cX3_open 3 s args zc_W RX3 := C
  have hx := C.1
  have hb := C.2.1
  have hl : lv_has ls 3 [(0, .ref x), (1, .int i)] := hl
  have hF0 := hF
  obtain ⟨⟨f1, f2, f3, f4, f5⟩, ⟨f6, f7, f8, f9, f10⟩, f11, f12, f13, f14, f15, f16, f17, f18, f19⟩ := hF
  obtain ⟨t1, t2, t3, t4, t5, t6, t7⟩ := hT
  refine lv_aload_n hx hb dX3_open_0 rfl (lv_at hl 0 rfl) ?_
  refine lv_iload_n hx hb dX3_open_1 rfl (lv_at hl 1 rfl) ?_
  refine zc_VX (n := 1) (rest := []) C I f1 rfl rfl (k_X3_promiseAt l g hst S x pl T.1.1 pa ap i f1 f2 f11 (by omega)) zm_280 zm_281 zm_4 zm_16 zm_282 rfl hl.1 dX3_open_2 (by decide +kernel) rfl ⟨Nat.le_of_ble_eq_true rfl, Nat.le_of_ble_eq_true rfl⟩ (Nat.le_of_ble_eq_true rfl) ⟨Nat.le_of_ble_eq_true rfl, Nat.le_of_ble_eq_true rfl⟩ (fun E ce q9 S' H locs hq I h1 h2 h3 => ?_) (fun v S' H locs hq I => ?_)
  · obtain ⟨hE, hz, eS⟩ := hq
    rw [eS] at I
    exact zr_out I hxt hlk (⟨Or.inl ⟨if_pos hz, hE⟩, rfl⟩) h1 h2 h3 (Nat.le_of_ble_eq_true rfl) (Nat.le_of_ble_eq_true rfl)
  · obtain ⟨hz, rfl, eS⟩ := hq
    rw [eS] at I
    have hj : zx i < T.1.1 := (zi_cases i (n := T.1.1) (by omega)).elim (fun h => absurd h hz) (fun h => h.2.1)
    have h01 := (t3 (zx i)).2.2.1
    refine lv_astore_n (lv' := [(2, .ref (ap (zx i))), (0, .ref x), (1, .int i)]) hx hb dX3_open_5 rfl hl (by decide) rfl (fun ls hl => ?_)
    refine lv_aload_n hx hb dX3_open_6 rfl (lv_at hl 0 rfl) ?_
    refine zn_Promise_opened (v := nI (T.2 2 (zx i))) (host := "DiceForge") C I (f11.2.2.2.2 _ hj).2 (by decide +kernel) ((f15 _ hj).2.2.2.2.1) dX3_open_7 ?_
    refine lv_if_eq (tgt := 23) hx hb dX3_open_10 (by decide) (fun c10 => ?_) (fun c10 => ?_)
    · have c10 : (T.2 2 (zx i)) = 0 := (nI_eq (a := T.2 2 (zx i)) (b := 0) (by omega) (by omega)).mp c10
      refine lv_aload_n hx hb dX3_open_23 rfl (lv_at hl 0 rfl) ?_
      refine lv_iconst (v := 1) hx hb dX3_open_24 (by decide) ?_
      refine zq_Promise_opened (host := "DiceForge") C I (f11.2.2.2.2 _ hj).2 (by decide +kernel) (by decide) dX3_open_25 (fun H locs I => ?_)
      refine lv_aload_n hx hb dX3_open_28 rfl (lv_at hl 0 rfl) ?_
      refine zn_Promise_seed (v := nI (T.2 0 (zx i))) (host := "DiceForge") C I (f11.2.2.2.2 _ hj).2 (by decide +kernel) ((zI_j _ _ _ _ (by decide)).trans (f15 _ hj).2.2.1) dX3_open_29 ?_
      have hc : zc_open T i = 0 := by unfold zc_open; rw [if_neg hz, if_neg (fun h => h c10)]
      exact vx_ret (zr_iret C I hr hlk (⟨hc, rfl, by unfold zs_open; rw [if_pos hc]; exact FR_flag hF0 (y := 1) hj (Or.inl ⟨rfl, rfl⟩), zk_rf S⟩) (Nat.le_of_ble_eq_true rfl) (Nat.le_of_ble_eq_true rfl) dX3_open_32)
    · have c10 : ¬ (T.2 2 (zx i)) = 0 := fun h9 => c10 ((nI_eq (a := T.2 2 (zx i)) (b := 0) (by omega) (by omega)).mpr h9)
      exact zr_throw (cls := "java/lang/IllegalStateException") (text := "the promise is opened") (ik := 38) (is := 80) (ic := 42) C I hst hxt hlk rfl zt_fitIS zt_fitn zm_148 zm_24 (by decide +kernel) zt_aIS zt_bIS zt_cIS hl.1 dX3_open_13 dX3_open_16 dX3_open_17 dX3_open_19 dX3_open_22 (Nat.le_of_ble_eq_true rfl) (Nat.le_of_ble_eq_true rfl) (Nat.le_of_ble_eq_true rfl) (Nat.le_of_ble_eq_true rfl) (⟨Or.inr ⟨by unfold zc_open; rw [if_neg hz, if_pos c10], rfl⟩, rfl⟩) (Nat.le_of_ble_eq_true rfl) (Nat.le_of_ble_eq_true rfl)

set_option maxRecDepth 100000 in
set_option maxHeartbeats 4000000 in
theorem k_X3_setPart (l : Launch) (g : zG) (hst : l.stackTraces = false) (S : zS) (T : zT) (x pl lo pt ty pa la : Nat) (ap ad ae : Nat → Nat) (hT : zt_ok T) (hF : FR g S T x pl lo pt ty pa la ap ad ae) (i y : Int32) : zX l yX3_setPart cX3_setPart 4 (some .int) (zrm 7 2 12) g [.ref x, .int i, .int y] S (fun w S' => zc_part i y = 0 ∧ w = some (.int (nI (T.2 4 (zx i)))) ∧ FR g S' (zs_part T i y) x pl lo pt ty pa la ap ad ae ∧ zk_ S S') (fun E S' => ((zc_part i y = 1 ∧ E = zn_IO) ∨ (zc_part i y = 2 ∧ E = zn_IA)) ∧ S' = S) := by
  refine zX_of (nm := "setPart") (by decide) rfl (Nat.le_of_ble_eq_true rfl) ?_
  intro p e s m args below meth c A ls C hr hlk hxt I hl
  have C : CallFix p m c cX3_setPart 4 s args zc_W RX3 := C
  have hx := C.1
  have hb := C.2.1
  have hl : lv_has ls 4 [(0, .ref x), (1, .int i), (2, .int y)] := hl
  have hF0 := hF
  obtain ⟨⟨f1, f2, f3, f4, f5⟩, ⟨f6, f7, f8, f9, f10⟩, f11, f12, f13, f14, f15, f16, f17, f18, f19⟩ := hF
  obtain ⟨t1, t2, t3, t4, t5, t6, t7⟩ := hT
  refine lv_iload_n hx hb dX3_setPart_0 rfl (lv_at hl 1 rfl) ?_
  refine zc_SX (n := 1) (rest := []) C I (k_X3_requireTable l g hst S i) zm_245 zm_246 zm_16 zm_247 rfl hl.1 dX3_setPart_1 (by decide +kernel) rfl ⟨Nat.le_of_ble_eq_true rfl, Nat.le_of_ble_eq_true rfl⟩ (Nat.le_of_ble_eq_true rfl) ⟨Nat.le_of_ble_eq_true rfl, Nat.le_of_ble_eq_true rfl⟩ (fun E ce q9 S' H locs hq I h1 h2 h3 => ?_) (fun v S' H locs hq I => ?_)
  · obtain ⟨hE, hz, eS⟩ := hq
    rw [eS] at I
    exact zr_out I hxt hlk (⟨Or.inl ⟨if_pos hz, hE⟩, rfl⟩) h1 h2 h3 (Nat.le_of_ble_eq_true rfl) (Nat.le_of_ble_eq_true rfl)
  · obtain ⟨hz, rfl, eS⟩ := hq
    rw [eS] at I
    obtain ⟨hz9, hj, hi⟩ := (zi_cases i (n := 4) (by decide)).elim (fun h => absurd h hz) id
    have hv4 := t4 (zx i)
    refine lv_iload_n hx hb dX3_setPart_4 rfl (lv_at hl 2 rfl) ?_
    refine lv_if_lt (tgt := 15) hx hb dX3_setPart_5 (by decide) (fun c5 => ?_) (fun c5 => ?_)
    · exact zr_throw (cls := "java/lang/IllegalArgumentException") (text := "a part is 0 to 999") (ik := 27) (is := 85) (ic := 31) C I hst hxt hlk rfl zt_fitIA zt_fitn zm_87 zm_23 (by decide +kernel) zt_aIA zt_bIA zt_cIA hl.1 dX3_setPart_15 dX3_setPart_18 dX3_setPart_19 dX3_setPart_21 dX3_setPart_24 (Nat.le_of_ble_eq_true rfl) (Nat.le_of_ble_eq_true rfl) (Nat.le_of_ble_eq_true rfl) (Nat.le_of_ble_eq_true rfl) (⟨Or.inr ⟨by unfold zc_part; rw [if_neg hz, if_pos (Or.inl c5)], rfl⟩, rfl⟩) (Nat.le_of_ble_eq_true rfl) (Nat.le_of_ble_eq_true rfl)
    · refine lv_iload_n hx hb dX3_setPart_8 rfl (lv_at hl 2 rfl) ?_
      refine lv_sipush (v := 999) hx hb dX3_setPart_9 (by decide) ?_
      refine lv_icmp_le (tgt := 25) hx hb dX3_setPart_12 (by decide) (fun c12 => ?_) (fun c12 => ?_)
      · have hy : ¬ zi 1000 y := zi_le999 c5 c12
        obtain ⟨hy9, hyj, hyi⟩ := (zi_cases y (n := 1000) (by decide)).elim (fun h => absurd h hy) id
        refine lv_aload_n hx hb dX3_setPart_25 rfl (lv_at hl 0 rfl) ?_
        refine zg_Forge_parts (v := pt) C I f1 zm_70 (f4) dX3_setPart_26 ?_
        refine lv_iload_n hx hb dX3_setPart_29 rfl (lv_at hl 1 rfl) ?_
        refine zr_iald (v := nI (T.2 4 (zx i))) C I f6 (vp_in_iff.mpr (by rw [f7]; rw [hi, nI_toInt (by omega)]; omega)) (f10 _ hj) dX3_setPart_30 ?_
        refine lv_istore_n (lv' := [(3, .int (nI (T.2 4 (zx i)))), (0, .ref x), (1, .int i), (2, .int y)]) hx hb dX3_setPart_31 rfl hl (by decide) rfl (fun ls hl => ?_)
        refine lv_aload_n hx hb dX3_setPart_32 rfl (lv_at hl 1 rfl) ?_
        refine zg_Forge_parts (v := pt) C I f1 zm_70 (f4) dX3_setPart_33 ?_
        refine lv_iload_n hx hb dX3_setPart_36 rfl (lv_at hl 2 rfl) ?_
        refine lv_iload_n hx hb dX3_setPart_37 rfl (lv_at hl 3 rfl) ?_
        refine zr_iast C I f6 (vp_in_iff.mpr (by rw [f7]; rw [hi, nI_toInt (by omega)]; omega)) dX3_setPart_38 (fun H locs I => ?_)
        refine lv_iload_n hx hb dX3_setPart_39 rfl (lv_at hl 0 rfl) ?_
        have hc : zc_part i y = 0 := by unfold zc_part; rw [if_neg hz, if_neg hy]
        have hF1 := FR_part hF0 (k := zx i) (y := zx y) hj
        rw [← hyi] at hF1
        exact vx_ret (zr_iret C I hr hlk (⟨hc, rfl, by unfold zs_part; rw [if_pos hc]; exact hF1, zk_rf S⟩) (Nat.le_of_ble_eq_true rfl) (Nat.le_of_ble_eq_true rfl) dX3_setPart_40)
      · exact zr_throw (cls := "java/lang/IllegalArgumentException") (text := "a part is 0 to 999") (ik := 27) (is := 85) (ic := 31) C I hst hxt hlk rfl zt_fitIA zt_fitn zm_87 zm_23 (by decide +kernel) zt_aIA zt_bIA zt_cIA hl.1 dX3_setPart_15 dX3_setPart_18 dX3_setPart_19 dX3_setPart_21 dX3_setPart_24 (Nat.le_of_ble_eq_true rfl) (Nat.le_of_ble_eq_true rfl) (Nat.le_of_ble_eq_true rfl) (Nat.le_of_ble_eq_true rfl) (⟨Or.inr ⟨by unfold zc_part; rw [if_neg hz, if_pos (Or.inr (zi_gt999 c12))], rfl⟩, rfl⟩) (Nat.le_of_ble_eq_true rfl) (Nat.le_of_ble_eq_true rfl)

set_option maxRecDepth 100000 in
set_option maxHeartbeats 4000000 in
theorem k_X3_alter (l : Launch) (g : zG) (hst : l.stackTraces = false) (S : zS) (T : zT) (x pl lo pt ty pa la : Nat) (ap ad ae : Nat → Nat) (hT : zt_ok T) (hF : FR g S T x pl lo pt ty pa la ap ad ae) (i y : Int32) : zX l yX3_alter cX3_alter 5 (some .int) (zrm 7 3 18) g [.ref x, .int i, .int y] S (fun w S' => zc_alter T i y = 0 ∧ w = some (.int (nI (T.2 9 (zx i)))) ∧ FR g S' (zs_alter T i y) x pl lo pt ty pa la ap ad ae ∧ zk_ S S') (fun E S' => ((zc_alter T i y = 1 ∧ E = zn_IO) ∨ (zc_alter T i y = 2 ∧ E = zn_IA) ∨ (zc_alter T i y = 3 ∧ E = zn_IS)) ∧ S' = S) := by
  refine zX_of (nm := "alter") (by decide) rfl (Nat.le_of_ble_eq_true rfl) ?_
  intro p e s m args below meth c A ls C hr hlk hxt I hl
  have C : CallFix p m c cX3_alter 5 s args zc_W RX3 := C
  have hx := C.1
  have hb := C.2.1
  have hl : lv_has ls 5 [(0, .ref x), (1, .int i), (2, .int y)] := hl
  have hF0 := hF
  obtain ⟨⟨f1, f2, f3, f4, f5⟩, ⟨f6, f7, f8, f9, f10⟩, f11, f12, f13, f14, f15, f16, f17, f18, f19⟩ := hF
  obtain ⟨t1, t2, t3, t4, t5, t6, t7⟩ := hT
  refine lv_aload_n hx hb dX3_alter_0 rfl (lv_at hl 0 rfl) ?_
  refine lv_iload_n hx hb dX3_alter_1 rfl (lv_at hl 1 rfl) ?_
  refine zc_VX (n := 1) (rest := []) C I f1 rfl rfl (k_X3_entryAt l g hst S x lo T.1.2 la ae i f1 f3 f12 t2) zm_353 zm_354 zm_9 zm_16 zm_355 rfl hl.1 dX3_alter_2 (by decide +kernel) rfl ⟨Nat.le_of_ble_eq_true rfl, Nat.le_of_ble_eq_true rfl⟩ (Nat.le_of_ble_eq_true rfl) ⟨Nat.le_of_ble_eq_true rfl, Nat.le_of_ble_eq_true rfl⟩ (fun E ce q9 S' H locs hq I h1 h2 h3 => ?_) (fun v S' H locs hq I => ?_)
  · obtain ⟨hE, hz, eS⟩ := hq
    rw [eS] at I
    exact zr_out I hxt hlk (⟨Or.inl ⟨if_pos hz, hE⟩, rfl⟩) h1 h2 h3 (Nat.le_of_ble_eq_true rfl) (Nat.le_of_ble_eq_true rfl)
  · obtain ⟨hz, rfl, eS⟩ := hq
    rw [eS] at I
    have hj : zx i < T.1.2 := (zi_cases i (n := T.1.2) (by omega)).elim (fun h => absurd h hz) (fun h => h.2.1)
    have h5 := t5 _ hj
    refine lv_astore_n (lv' := [(3, .ref (ae (zx i))), (0, .ref x), (1, .int i), (2, .int y)]) hx hb dX3_alter_5 rfl hl (by decide) rfl (fun ls hl => ?_)
    refine lv_iload_n hx hb dX3_alter_6 rfl (lv_at hl 3 rfl) ?_
    refine lv_aload_n hx hb dX3_alter_7 rfl (lv_at hl 0 rfl) ?_
    refine zn_Entry_faces (v := nI (T.2 8 (zx i))) (host := "DiceForge") C I (f12.2.2.2.2 _ hj).2 (by decide +kernel) (f16 _ hj 3 (by decide)) dX3_alter_8 ?_
    refine zc_SX (n := 2) (rest := []) C I (k_X3_requireValue l g hst S y (nI (T.2 8 (zx i)))) zm_356 zm_357 zm_16 zm_358 rfl hl.1 dX3_alter_11 (by decide +kernel) rfl ⟨Nat.le_of_ble_eq_true rfl, Nat.le_of_ble_eq_true rfl⟩ (Nat.le_of_ble_eq_true rfl) ⟨Nat.le_of_ble_eq_true rfl, Nat.le_of_ble_eq_true rfl⟩ (fun E ce q9 S' H locs hq I h1 h2 h3 => ?_) (fun v S' H locs hq I => ?_)
    · obtain ⟨hE, hy, eS⟩ := hq
      rw [eS] at I
      exact zr_out I hxt hlk (⟨Or.inr (Or.inl ⟨by unfold zc_alter; rw [if_neg hz, if_pos hy], hE⟩), rfl⟩) h1 h2 h3 (Nat.le_of_ble_eq_true rfl) (Nat.le_of_ble_eq_true rfl)
    · obtain ⟨hy, rfl, eS⟩ := hq
      rw [eS] at I
      refine lv_aload_n hx hb dX3_alter_14 rfl (lv_at hl 0 rfl) ?_
      refine zn_Entry_struck (v := nI (T.2 12 (zx i))) (host := "DiceForge") C I (f12.2.2.2.2 _ hj).2 (by decide +kernel) (f16 _ hj 7 (by decide)) dX3_alter_15 ?_
      refine lv_if_eq (tgt := 31) hx hb dX3_alter_18 (by decide) (fun c18 => ?_) (fun c18 => ?_)
      · have c18 : (T.2 12 (zx i)) = 0 := (nI_eq (a := T.2 12 (zx i)) (b := 0) (by omega) (by omega)).mp c18
        refine lv_aload_n hx hb dX3_alter_31 rfl (lv_at hl 0 rfl) ?_
        refine zn_Entry_value (v := nI (T.2 9 (zx i))) (host := "DiceForge") C I (f12.2.2.2.2 _ hj).2 (by decide +kernel) (f16 _ hj 4 (by decide)) dX3_alter_32 ?_
        refine lv_istore (lv' := [(4, .int (nI (T.2 9 (zx i)))), (3, .ref (ae (zx i))), (0, .ref x), (1, .int i), (2, .int y)]) hx hb dX3_alter_35 hl (by decide) rfl (fun ls hl => ?_)
        refine lv_aload_n hx hb dX3_alter_37 rfl (lv_at hl 1 rfl) ?_
        refine lv_iload_n hx hb dX3_alter_38 rfl (lv_at hl 4 rfl) ?_
        refine zq_Entry_value (host := "DiceForge") C I (f12.2.2.2.2 _ hj).2 (by decide +kernel) dX3_alter_39 (fun H locs I => ?_)
        refine lv_iload hx hb dX3_alter_42 (lv_at hl 0 rfl) ?_
        have hc : zc_alter T i y = 0 := by unfold zc_alter; rw [if_neg hz, if_neg hy, if_neg (fun h => h c18)]
        obtain ⟨hy1, hy2, hyi⟩ := zi_val (by omega) hy
        have hF1 := FR_ent hF0 (f := 4) (k := zx i) (y := zx y) hj (by decide)
        rw [← hyi] at hF1
        exact vx_ret (zr_iret C I hr hlk (⟨hc, rfl, by unfold zs_alter; rw [if_pos hc]; exact hF1, zk_rf S⟩) (Nat.le_of_ble_eq_true rfl) (Nat.le_of_ble_eq_true rfl) dX3_alter_44)
      · have c18 : ¬ (T.2 12 (zx i)) = 0 := fun h9 => c18 ((nI_eq (a := T.2 12 (zx i)) (b := 0) (by omega) (by omega)).mpr h9)
        exact zr_throw (cls := "java/lang/IllegalStateException") (text := "the entry is struck") (ik := 38) (is := 139) (ic := 42) C I hst hxt hlk rfl zt_fitIS zt_fitn zm_148 zm_24 (by decide +kernel) zt_aIS zt_bIS zt_cIS hl.1 dX3_alter_21 dX3_alter_24 dX3_alter_25 dX3_alter_27 dX3_alter_30 (Nat.le_of_ble_eq_true rfl) (Nat.le_of_ble_eq_true rfl) (Nat.le_of_ble_eq_true rfl) (Nat.le_of_ble_eq_true rfl) (⟨Or.inr (Or.inr ⟨by unfold zc_alter; rw [if_neg hz, if_neg hy, if_pos c18], rfl⟩), rfl⟩) (Nat.le_of_ble_eq_true rfl) (Nat.le_of_ble_eq_true rfl)
end
section
/-! loops over the log: count, total, broken -/
theorem zi_faces {y : Int32} (h : ¬ (y < 2 ∨ 1000 < y)) : ∃ n : Nat, 2 ≤ n ∧ n ≤ 1000 ∧ y = nI n := by
  have h1 : ¬ y.toInt < (2 : Int32).toInt := fun h9 => h (Or.inl (Int32.lt_iff_toInt_lt.mpr h9))
  have h2 : ¬ (1000 : Int32).toInt < y.toInt := fun h9 => h (Or.inr (Int32.lt_iff_toInt_lt.mpr h9))
  have h6 : (2 : Int32).toInt = 2 := by decide
  have h8 : (1000 : Int32).toInt = 1000 := by decide
  have h7 : (0 : Int32).toInt = 0 := by decide
  obtain ⟨j, hj, e⟩ := nI_of (x := y) (fun h9 => by have := Int32.lt_iff_toInt_lt.mp h9; omega)
  subst e
  rw [nI_toInt hj] at h1 h2
  exact ⟨j, by omega, by omega, rfl⟩
theorem zi_valE {f : Nat} {y : Int32} (hf : f ≤ 1000) (h : ¬ (y < 1 ∨ nI f < y)) : ∃ v : Nat, 1 ≤ v ∧ v ≤ f ∧ y = nI v := ⟨zx y, zi_val hf h⟩
theorem zi_fok {n : Nat} (h : 2 ≤ n) (h2 : n ≤ 1000) : ¬ (nI n < 2 ∨ 1000 < nI n) := fun h9 => h9.elim (fun h3 => absurd ((nI_ltI (a := n) (b := 2) (by omega) (by omega)).mp h3) (by omega)) (fun h3 => absurd ((nI_ltI (a := 1000) (b := n) (by omega) (by omega)).mp h3) (by omega))
theorem zi_vok {n f : Nat} (h : 1 ≤ n) (h2 : n ≤ f) (h3 : f ≤ 1000) : ¬ (nI n < 1 ∨ nI f < nI n) := fun h9 => h9.elim (fun h3 => absurd ((nI_ltI (a := n) (b := 1) (by omega) (by omega)).mp h3) (by omega)) (fun h3 => absurd ((nI_ltI (a := f) (b := n) (by omega) (by omega)).mp h3) (by omega))
theorem zt_cnt_le (T : zT) (f v n : Nat) : zt_cnt T f v n ≤ n := by
  induction n with
  | zero => exact Nat.le_refl _
  | succ n ih => show zt_cnt T f v n + (if _ then 1 else 0) ≤ n + 1; split <;> omega
theorem zt_total_le (T : zT) (t n : Nat) (h : ∀ k : Nat, k < n → T.2 9 k ≤ 1000) : zt_total T t n ≤ 1000 * n := by
  induction n with
  | zero => exact Nat.le_refl _
  | succ n ih =>
    have h1 := ih (fun k hk => h k (by omega))
    have h2 := h n (by omega)
    show zt_total T t n + (if _ then _ else 0) ≤ 1000 * (n + 1)
    split <;> omega

set_option maxRecDepth 100000 in
set_option maxHeartbeats 4000000 in
theorem k_X3_count (l : Launch) (g : zG) (hst : l.stackTraces = false) (S : zS) (T : zT) (x pl lo pt ty pa la : Nat) (ap ad ae : Nat → Nat) (hT : zt_ok T) (hF : FR g S T x pl lo pt ty pa la ap ad ae) (i y : Int32) : zX l yX3_count cX3_count 6 (some .int) (zrm 7 2 12) g [.ref x, .int i, .int y] S (fun w S' => zc_count i y = 0 ∧ w = some (.int (nI (zt_cnt T (zx i) (zx y) T.1.2))) ∧ S' = S) (fun E S' => zc_count i y = 1 ∧ E = zn_IA ∧ S' = S) := by
  refine zX_of (nm := "count") (by decide) rfl (Nat.le_of_ble_eq_true rfl) ?_
  intro p e s m args below meth c A ls C hr hlk hxt I hl
  have C : CallFix p m c cX3_count 6 s args zc_W RX3 := C
  have hx := C.1
  have hb := C.2.1
  have hl : lv_has ls 6 [(0, .ref x), (1, .int i), (2, .int y)] := hl
  have hF0 := hF
  obtain ⟨⟨f1, f2, f3, f4, f5⟩, ⟨f6, f7, f8, f9, f10⟩, f11, f12, f13, f14, f15, f16, f17, f18, f19⟩ := hF
  obtain ⟨t1, t2, t3, t4, t5, t6, t7⟩ := hT
  by_cases hf : i < 2 ∨ 1000 < i
  · refine lv_iload_n hx hb dX3_count_0 rfl (lv_at hl 1 rfl) ?_
    refine zc_SX (n := 1) (rest := []) C I (k_X3_requireFaces l g hst S i) zm_301 zm_302 zm_16 zm_303 rfl hl.1 dX3_count_1 (by decide +kernel) rfl ⟨Nat.le_of_ble_eq_true rfl, Nat.le_of_ble_eq_true rfl⟩ (Nat.le_of_ble_eq_true rfl) ⟨Nat.le_of_ble_eq_true rfl, Nat.le_of_ble_eq_true rfl⟩ (fun E ce q9 S' H locs hq I h1 h2 h3 => ?_) (fun v S' H locs hq I => ?_)
    · obtain ⟨hE, hz, eS⟩ := hq
      rw [eS] at I
      exact zr_out I hxt hlk (⟨if_pos (Or.inl hz), hE, rfl⟩) h1 h2 h3 (Nat.le_of_ble_eq_true rfl) (Nat.le_of_ble_eq_true rfl)
    · exact absurd hf hq.1
  · obtain ⟨f, hf2, hf3, rfl⟩ := zi_faces hf
    refine lv_iload_n hx hb dX3_count_0 rfl (lv_at hl 1 rfl) ?_
    refine zc_SX (n := 1) (rest := []) C I (k_X3_requireFaces l g hst S (nI f)) zm_301 zm_302 zm_16 zm_303 rfl hl.1 dX3_count_1 (by decide +kernel) rfl ⟨Nat.le_of_ble_eq_true rfl, Nat.le_of_ble_eq_true rfl⟩ (Nat.le_of_ble_eq_true rfl) ⟨Nat.le_of_ble_eq_true rfl, Nat.le_of_ble_eq_true rfl⟩ (fun E ce q9 S' H locs hq I h1 h2 h3 => ?_) (fun v S' H locs hq I => ?_)
    · exact absurd hq.2.1 hf
    · obtain ⟨hz, rfl, eS⟩ := hq
      rw [eS] at I
      by_cases hy : y < 1 ∨ nI f < y
      · refine lv_iload_n hx hb dX3_count_4 rfl (lv_at hl 2 rfl) ?_
        refine lv_iload_n hx hb dX3_count_5 rfl (lv_at hl 1 rfl) ?_
        refine zc_SX (n := 2) (rest := []) C I (k_X3_requireValue l g hst S y (nI f)) zm_356 zm_357 zm_16 zm_358 rfl hl.1 dX3_count_6 (by decide +kernel) rfl ⟨Nat.le_of_ble_eq_true rfl, Nat.le_of_ble_eq_true rfl⟩ (Nat.le_of_ble_eq_true rfl) ⟨Nat.le_of_ble_eq_true rfl, Nat.le_of_ble_eq_true rfl⟩ (fun E ce q9 S' H locs hq I h1 h2 h3 => ?_) (fun v S' H locs hq I => ?_)
        · obtain ⟨hE, hz, eS⟩ := hq
          rw [eS] at I
          exact zr_out I hxt hlk (⟨if_pos (Or.inr hz), hE, rfl⟩) h1 h2 h3 (Nat.le_of_ble_eq_true rfl) (Nat.le_of_ble_eq_true rfl)
        · exact absurd hy hq.1
      · obtain ⟨v, hv1, hv2, rfl⟩ := zi_valE (f := f) (by omega) hy
        rw [zx_nI (by omega), zx_nI (by omega)]
        refine lv_iload_n hx hb dX3_count_4 rfl (lv_at hl 2 rfl) ?_
        refine lv_iload_n hx hb dX3_count_5 rfl (lv_at hl 1 rfl) ?_
        refine zc_SX (n := 2) (rest := []) C I (k_X3_requireValue l g hst S (nI v) (nI f)) zm_356 zm_357 zm_16 zm_358 rfl hl.1 dX3_count_6 (by decide +kernel) rfl ⟨Nat.le_of_ble_eq_true rfl, Nat.le_of_ble_eq_true rfl⟩ (Nat.le_of_ble_eq_true rfl) ⟨Nat.le_of_ble_eq_true rfl, Nat.le_of_ble_eq_true rfl⟩ (fun E ce q9 S' H locs hq I h1 h2 h3 => ?_) (fun v S' H locs hq I => ?_)
        · exact absurd hq.2.1 hy
        · obtain ⟨hz2, rfl, eS⟩ := hq
          rw [eS] at I
          have loop : ∀ (n k : Nat) (ls : Array Slot) (H : Heap) (locs : List Loc), k + n = T.1.2 → zh_V g A s [] S H locs → lv_has ls 6 [(4, .int (nI k)), (3, .int (nI (zt_cnt T f v k))), (0, .ref x), (1, .int (nI f)), (2, .int (nI v))] → W p l e (zrm 7 2 12) s m args below meth c H locs (0 + (zrm 6 1 6).cells + (zrm 6 1 6).cells) (0 + (zrm 6 1 6).slots + (zrm 6 1 6).slots) (vx_MQ below (zh_Po g A (fun w S' => zc_count (nI f) (nI v) = 0 ∧ w = some (.int (nI (zt_cnt T f v T.1.2))) ∧ S' = S)) (zh_Px g A (fun E S' => zc_count (nI f) (nI v) = 1 ∧ E = zn_IA ∧ S' = S)) args s (zrm 7 2 12).cells (zrm 7 2 12).slots A) (F0 m 14 ls []) := by
            intro n
            induction n with
            | zero =>
              intro k ls H locs hn I hl
              have hcl := zt_cnt_le T f v k
              refine lv_iload hx hb dX3_count_14 (lv_at hl 0 rfl) ?_
              refine lv_aload_n hx hb dX3_count_16 rfl (lv_at hl 2 rfl) ?_
              refine zg_Forge_log (v := lo) C I f1 zm_69 (f3) dX3_count_17 ?_
              refine zc_V (n := 0) (rest := [.int (nI k)]) C I f12.1 rfl rfl (k_Jx4a65c_size_8abf5 l g S lo T.1.2 f12.1 f12.2.1) zm_144 zm_145 zm_146 zm_19 zm_147 rfl hl.1 dX3_count_20 (by decide +kernel) rfl ⟨Nat.le_of_ble_eq_true rfl, Nat.le_of_ble_eq_true rfl⟩ (Nat.le_of_ble_eq_true rfl) ⟨Nat.le_of_ble_eq_true rfl, Nat.le_of_ble_eq_true rfl⟩ (fun v S' H locs hq I => ?_)
              obtain ⟨rfl, eS⟩ := hq
              rw [eS] at I
              refine lv_icmp_ge (tgt := 67) hx hb dX3_count_23 (by decide) (fun _ => ?_) (fun h9 => absurd ((nI_leI (a := T.1.2) (b := k) (by omega) (by omega)).mpr (by omega)) h9)
              refine lv_iload_n hx hb dX3_count_67 rfl (lv_at hl 1 rfl) ?_
              have hk : k = T.1.2 := by omega
              subst hk
              exact vx_ret (zr_iret C I hr hlk (⟨if_neg (fun h9 => h9.elim hz hz2), rfl, rfl⟩) (Nat.le_of_ble_eq_true rfl) (Nat.le_of_ble_eq_true rfl) dX3_count_68)
            | succ n ih =>
              intro k ls H locs hn I hl
              have hcl := zt_cnt_le T f v k
              refine lv_iload hx hb dX3_count_14 (lv_at hl 0 rfl) ?_
              refine lv_aload_n hx hb dX3_count_16 rfl (lv_at hl 2 rfl) ?_
              refine zg_Forge_log (v := lo) C I f1 zm_69 (f3) dX3_count_17 ?_
              refine zc_V (n := 0) (rest := [.int (nI k)]) C I f12.1 rfl rfl (k_Jx4a65c_size_8abf5 l g S lo T.1.2 f12.1 f12.2.1) zm_144 zm_145 zm_146 zm_19 zm_147 rfl hl.1 dX3_count_20 (by decide +kernel) rfl ⟨Nat.le_of_ble_eq_true rfl, Nat.le_of_ble_eq_true rfl⟩ (Nat.le_of_ble_eq_true rfl) ⟨Nat.le_of_ble_eq_true rfl, Nat.le_of_ble_eq_true rfl⟩ (fun v S' H locs hq I => ?_)
              obtain ⟨rfl, eS⟩ := hq
              rw [eS] at I
              have hk : k < T.1.2 := by omega
              obtain ⟨h3, h4, h5, h6⟩ : zh_at S 8 la ∧ T.1.2 ≤ zh_N S la ∧ 10 ≤ zh_N S la ∧ zh_N S la ≤ 150 := f12.2.2.2.1.elim (fun h => absurd h.1 (by omega)) id
              refine lv_icmp_ge (tgt := 67) hx hb dX3_count_23 (by decide) (fun h9 => absurd h9 (fun h8 => absurd ((nI_leI (a := T.1.2) (b := k) (by omega) (by omega)).mp h8) (by omega))) (fun _ => ?_)
              refine lv_aload_n hx hb dX3_count_26 rfl (lv_at hl 2 rfl) ?_
              refine zg_Forge_log (v := lo) C I f1 zm_69 (f3) dX3_count_27 ?_
              refine lv_iload hx hb dX3_count_30 (lv_at hl 0 rfl) ?_
              refine zc_V (n := 1) (rest := []) C I f12.1 rfl rfl (k_Jx4a65c_get_915e3 l g S lo T.1.2 la k (ae k) f12.1 f12.2.1 f12.2.2.1 h3 h4 (by omega) hk (f12.2.2.2.2 _ hk).1) zm_283 zm_284 zm_285 zm_19 zm_286 rfl hl.1 dX3_count_32 (by decide +kernel) rfl ⟨Nat.le_of_ble_eq_true rfl, Nat.le_of_ble_eq_true rfl⟩ (Nat.le_of_ble_eq_true rfl) ⟨Nat.le_of_ble_eq_true rfl, Nat.le_of_ble_eq_true rfl⟩ (fun v S' H locs hq I => ?_)
              obtain ⟨rfl, eS⟩ := hq
              rw [eS] at I
              refine zr_cast C I (f12.2.2.2.2 _ hk).2 rfl rfl zm_304 dX3_count_35 ?_
              refine lv_astore (lv' := [(5, .ref (ae k)), (4, .int (nI k)), (3, .int (nI (zt_cnt T f v k))), (0, .ref x), (1, .int (nI f)), (2, .int (nI v))]) hx hb dX3_count_38 hl (by decide) rfl (fun ls hl => ?_)
              refine lv_aload hx hb dX3_count_40 (lv_at hl 0 rfl) ?_
              refine lv_iload_n hx hb dX3_count_42 rfl (lv_at hl 4 rfl) ?_
              have h5k := t5 _ hk
              refine zc_VN (host := "DiceForge") (n := 1) (rest := []) C I (f12.2.2.2.2 _ hk).2 rfl rfl (k_X1_countsFor l g S (ae k) (T.2 8 k) (T.2 12 k) f (f12.2.2.2.2 _ hk).2 (f16 _ hk 3 (by decide)) (f16 _ hk 7 (by decide)) (by omega) (by omega) hf3) (by decide +kernel) zm_454 zm_14 zm_34 zm_455 rfl hl.1 dX3_count_43 (by decide +kernel) rfl ⟨Nat.le_of_ble_eq_true rfl, Nat.le_of_ble_eq_true rfl⟩ (Nat.le_of_ble_eq_true rfl) ⟨Nat.le_of_ble_eq_true rfl, Nat.le_of_ble_eq_true rfl⟩ (fun v S' H locs hq I => ?_)
              obtain ⟨rfl, eS⟩ := hq
              rw [eS] at I
              by_cases hc : T.2 8 k = f ∧ T.2 12 k = 0
              · refine zr_top (y := 1) (if_pos hc) ?_
                refine lv_if_eq (tgt := 61) hx hb dX3_count_46 (by decide) (fun h9 => absurd h9 (by decide)) (fun _ => ?_)
                refine lv_aload hx hb dX3_count_49 (lv_at hl 0 rfl) ?_
                refine zn_Entry_value (v := nI (T.2 9 k)) (host := "DiceForge") C I (f12.2.2.2.2 _ hk).2 (by decide +kernel) (f16 _ hk 4 (by decide)) dX3_count_51 ?_
                refine lv_iload_n hx hb dX3_count_54 rfl (lv_at hl 5 rfl) ?_
                refine lv_icmp_ne (tgt := 61) hx hb dX3_count_55 (by decide) (fun c55 => ?_) (fun c55 => ?_)
                · have c55 : ¬ (T.2 9 k) = v := fun h9 => c55 ((nI_eq (a := T.2 9 k) (b := v) (by omega) (by omega)).mpr h9)
                  refine lv_iinc (v := nI (k + 1)) (lv' := [(4, .int (nI (k + 1))), (5, .ref (ae k)), (3, .int (nI (zt_cnt T f v k))), (0, .ref x), (1, .int (nI f)), (2, .int (nI v))]) hx hb dX3_count_61 hl (k := 1) rfl (nI_add k 1) (by decide) rfl (fun ls hl => ?_)
                  refine lv_goto (tgt := 14) hx hb dX3_count_64 (by decide) ?_
                  have e9 : zt_cnt T f v (k + 1) = zt_cnt T f v k := by show _ + (if _ then 1 else 0) = _; rw [if_neg (fun h => c55 (h.2.2.elim id (fun h => absurd h (by omega))))]; rfl
                  have hl := lv_sub (l' := [(4, .int (nI (k + 1))), (3, .int (nI (zt_cnt T f v k))), (0, .ref x), (1, .int (nI f)), (2, .int (nI v))]) hl [0, 2, 3, 4, 5] rfl
                  rw [← e9] at hl
                  exact ih (k + 1) ls H locs (by omega) I hl
                · have c55 : (T.2 9 k) = v := (nI_eq (a := T.2 9 k) (b := v) (by omega) (by omega)).mp c55
                  refine lv_iinc (v := nI ((zt_cnt T f v k) + 1)) (lv' := [(3, .int (nI ((zt_cnt T f v k) + 1))), (5, .ref (ae k)), (4, .int (nI k)), (0, .ref x), (1, .int (nI f)), (2, .int (nI v))]) hx hb dX3_count_58 hl (k := 2) rfl (nI_add (zt_cnt T f v k) 1) (by decide) rfl (fun ls hl => ?_)
                  refine lv_iinc (v := nI (k + 1)) (lv' := [(4, .int (nI (k + 1))), (3, .int (nI ((zt_cnt T f v k) + 1))), (5, .ref (ae k)), (0, .ref x), (1, .int (nI f)), (2, .int (nI v))]) hx hb dX3_count_61 hl (k := 2) rfl (nI_add k 1) (by decide) rfl (fun ls hl => ?_)
                  refine lv_goto (tgt := 14) hx hb dX3_count_64 (by decide) ?_
                  have e9 : zt_cnt T f v (k + 1) = zt_cnt T f v k + 1 := by show _ + (if _ then 1 else 0) = _; rw [if_pos ⟨hc.2, hc.1, Or.inl c55⟩]
                  have hl := lv_sub (l' := [(4, .int (nI (k + 1))), (3, .int (nI ((zt_cnt T f v k) + 1))), (0, .ref x), (1, .int (nI f)), (2, .int (nI v))]) hl [0, 1, 3, 4, 5] rfl
                  rw [← e9] at hl
                  exact ih (k + 1) ls H locs (by omega) I hl
              · refine zr_top (y := 0) (if_neg hc) ?_
                refine lv_if_eq (tgt := 61) hx hb dX3_count_46 (by decide) (fun _ => ?_) (fun h9 => absurd (rfl) h9)
                refine lv_iinc (v := nI (k + 1)) (lv' := [(4, .int (nI (k + 1))), (5, .ref (ae k)), (3, .int (nI (zt_cnt T f v k))), (0, .ref x), (1, .int (nI f)), (2, .int (nI v))]) hx hb dX3_count_61 hl (k := 1) rfl (nI_add k 1) (by decide) rfl (fun ls hl => ?_)
                refine lv_goto (tgt := 14) hx hb dX3_count_64 (by decide) ?_
                have e9 : zt_cnt T f v (k + 1) = zt_cnt T f v k := by show _ + (if _ then 1 else 0) = _; rw [if_neg (fun h => hc ⟨h.2.1, h.1⟩)]; rfl
                have hl := lv_sub (l' := [(4, .int (nI (k + 1))), (3, .int (nI (zt_cnt T f v k))), (0, .ref x), (1, .int (nI f)), (2, .int (nI v))]) hl [0, 2, 3, 4, 5] rfl
                rw [← e9] at hl
                exact ih (k + 1) ls H locs (by omega) I hl
          refine lv_iconst (v := 0) hx hb dX3_count_9 (by decide) ?_
          refine lv_istore_n (lv' := [(3, .int 0), (0, .ref x), (1, .int (nI f)), (2, .int (nI v))]) hx hb dX3_count_10 rfl hl (by decide) rfl (fun ls hl => ?_)
          refine lv_iconst (v := 0) hx hb dX3_count_11 (by decide) ?_
          refine lv_istore (lv' := [(4, .int 0), (3, .int 0), (0, .ref x), (1, .int (nI f)), (2, .int (nI v))]) hx hb dX3_count_12 hl (by decide) rfl (fun ls hl => ?_)
          exact loop T.1.2 0 ls H locs (by omega) I (lv_sub hl [0, 1, 2, 3, 4] rfl)

set_option maxRecDepth 100000 in
set_option maxHeartbeats 4000000 in
theorem k_X3_total (l : Launch) (g : zG) (hst : l.stackTraces = false) (S : zS) (T : zT) (x pl lo pt ty pa la : Nat) (ap ad ae : Nat → Nat) (hT : zt_ok T) (hF : FR g S T x pl lo pt ty pa la ap ad ae) (i : Int32) : zX l yX3_total cX3_total 5 (some .int) (zrm 7 1 6) g [.ref x, .int i] S (fun w S' => zc_tab i = 0 ∧ w = some (.int (nI (zt_total T (zx i) T.1.2))) ∧ S' = S) (fun E S' => zc_tab i = 1 ∧ E = zn_IO ∧ S' = S) := by
  refine zX_of (nm := "total") (by decide) rfl (Nat.le_of_ble_eq_true rfl) ?_
  intro p e s m args below meth c A ls C hr hlk hxt I hl
  have C : CallFix p m c cX3_total 5 s args zc_W RX3 := C
  have hx := C.1
  have hb := C.2.1
  have hl : lv_has ls 5 [(0, .ref x), (1, .int i)] := hl
  have hF0 := hF
  obtain ⟨⟨f1, f2, f3, f4, f5⟩, ⟨f6, f7, f8, f9, f10⟩, f11, f12, f13, f14, f15, f16, f17, f18, f19⟩ := hF
  obtain ⟨t1, t2, t3, t4, t5, t6, t7⟩ := hT
  refine lv_iload_n hx hb dX3_total_0 rfl (lv_at hl 1 rfl) ?_
  refine zc_SX (n := 1) (rest := []) C I (k_X3_requireTable l g hst S i) zm_245 zm_246 zm_16 zm_247 rfl hl.1 dX3_total_1 (by decide +kernel) rfl ⟨Nat.le_of_ble_eq_true rfl, Nat.le_of_ble_eq_true rfl⟩ (Nat.le_of_ble_eq_true rfl) ⟨Nat.le_of_ble_eq_true rfl, Nat.le_of_ble_eq_true rfl⟩ (fun E ce q9 S' H locs hq I h1 h2 h3 => ?_) (fun v S' H locs hq I => ?_)
  · obtain ⟨hE, hz, eS⟩ := hq
    rw [eS] at I
    exact zr_out I hxt hlk (⟨if_pos hz, hE, rfl⟩) h1 h2 h3 (Nat.le_of_ble_eq_true rfl) (Nat.le_of_ble_eq_true rfl)
  · obtain ⟨hz, rfl, eS⟩ := hq
    rw [eS] at I
    obtain ⟨hz9, hj, hi⟩ := (zi_cases i (n := 4) (by decide)).elim (fun h => absurd h hz) id
    obtain ⟨t, ht⟩ : ∃ t, t = zx i := ⟨_, rfl⟩
    rw [← ht] at hi hj ⊢
    have htot : ∀ n : Nat, n ≤ T.1.2 → zt_total T t n ≤ 1000 * n := fun n hn => zt_total_le T t n (fun k hk => by have := t5 k (by omega); omega)
    have loop : ∀ (n k : Nat) (ls : Array Slot) (H : Heap) (locs : List Loc), k + n = T.1.2 → zh_V g A s [] S H locs → lv_has ls 5 [(3, .int (nI k)), (2, .int (nI (zt_total T t k))), (0, .ref x), (1, .int i)] → W p l e (zrm 7 1 6) s m args below meth c H locs (0 + (zrm 6 1 6).cells) (0 + (zrm 6 1 6).slots) (vx_MQ below (zh_Po g A (fun w S' => zc_tab i = 0 ∧ w = some (.int (nI (zt_total T t T.1.2))) ∧ S' = S)) (zh_Px g A (fun E S' => zc_tab i = 1 ∧ E = zn_IO ∧ S' = S)) args s (zrm 7 1 6).cells (zrm 7 1 6).slots A) (F0 m 8 ls []) := by
      intro n
      induction n with
      | zero =>
        intro k ls H locs hn I hl
        have hcl := htot k (by omega)
        refine lv_iload_n hx hb dX3_total_8 rfl (lv_at hl 0 rfl) ?_
        refine lv_aload_n hx hb dX3_total_9 rfl (lv_at hl 2 rfl) ?_
        refine zg_Forge_log (v := lo) C I f1 zm_69 (f3) dX3_total_10 ?_
        refine zc_V (n := 0) (rest := [.int (nI k)]) C I f12.1 rfl rfl (k_Jx4a65c_size_8abf5 l g S lo T.1.2 f12.1 f12.2.1) zm_144 zm_145 zm_146 zm_19 zm_147 rfl hl.1 dX3_total_13 (by decide +kernel) rfl ⟨Nat.le_of_ble_eq_true rfl, Nat.le_of_ble_eq_true rfl⟩ (Nat.le_of_ble_eq_true rfl) ⟨Nat.le_of_ble_eq_true rfl, Nat.le_of_ble_eq_true rfl⟩ (fun v S' H locs hq I => ?_)
        obtain ⟨rfl, eS⟩ := hq
        rw [eS] at I
        refine lv_icmp_ge (tgt := 63) hx hb dX3_total_16 (by decide) (fun _ => ?_) (fun h9 => absurd ((nI_leI (a := T.1.2) (b := k) (by omega) (by omega)).mpr (by omega)) h9)
        refine lv_iload_n hx hb dX3_total_63 rfl (lv_at hl 1 rfl) ?_
        have hk : k = T.1.2 := by omega
        subst hk
        exact vx_ret (zr_iret C I hr hlk (⟨if_neg hz, rfl, rfl⟩) (Nat.le_of_ble_eq_true rfl) (Nat.le_of_ble_eq_true rfl) dX3_total_64)
      | succ n ih =>
        intro k ls H locs hn I hl
        have hcl := htot k (by omega)
        refine lv_iload_n hx hb dX3_total_8 rfl (lv_at hl 0 rfl) ?_
        refine lv_aload_n hx hb dX3_total_9 rfl (lv_at hl 2 rfl) ?_
        refine zg_Forge_log (v := lo) C I f1 zm_69 (f3) dX3_total_10 ?_
        refine zc_V (n := 0) (rest := [.int (nI k)]) C I f12.1 rfl rfl (k_Jx4a65c_size_8abf5 l g S lo T.1.2 f12.1 f12.2.1) zm_144 zm_145 zm_146 zm_19 zm_147 rfl hl.1 dX3_total_13 (by decide +kernel) rfl ⟨Nat.le_of_ble_eq_true rfl, Nat.le_of_ble_eq_true rfl⟩ (Nat.le_of_ble_eq_true rfl) ⟨Nat.le_of_ble_eq_true rfl, Nat.le_of_ble_eq_true rfl⟩ (fun v S' H locs hq I => ?_)
        obtain ⟨rfl, eS⟩ := hq
        rw [eS] at I
        have hk : k < T.1.2 := by omega
        obtain ⟨h3, h4, h5, h6⟩ : zh_at S 8 la ∧ T.1.2 ≤ zh_N S la ∧ 10 ≤ zh_N S la ∧ zh_N S la ≤ 150 := f12.2.2.2.1.elim (fun h => absurd h.1 (by omega)) id
        refine lv_icmp_ge (tgt := 63) hx hb dX3_total_16 (by decide) (fun h9 => absurd h9 (fun h8 => absurd ((nI_leI (a := T.1.2) (b := k) (by omega) (by omega)).mp h8) (by omega))) (fun _ => ?_)
        refine lv_aload_n hx hb dX3_total_19 rfl (lv_at hl 2 rfl) ?_
        refine zg_Forge_log (v := lo) C I f1 zm_69 (f3) dX3_total_20 ?_
        refine lv_iload_n hx hb dX3_total_23 rfl (lv_at hl 0 rfl) ?_
        refine zc_V (n := 1) (rest := []) C I f12.1 rfl rfl (k_Jx4a65c_get_915e3 l g S lo T.1.2 la k (ae k) f12.1 f12.2.1 f12.2.2.1 h3 h4 (by omega) hk (f12.2.2.2.2 _ hk).1) zm_283 zm_284 zm_285 zm_19 zm_286 rfl hl.1 dX3_total_24 (by decide +kernel) rfl ⟨Nat.le_of_ble_eq_true rfl, Nat.le_of_ble_eq_true rfl⟩ (Nat.le_of_ble_eq_true rfl) ⟨Nat.le_of_ble_eq_true rfl, Nat.le_of_ble_eq_true rfl⟩ (fun v S' H locs hq I => ?_)
        obtain ⟨rfl, eS⟩ := hq
        rw [eS] at I
        have h5k := t5 _ hk
        have hcl2 := htot (k + 1) (by omega)
        refine zr_cast C I (f12.2.2.2.2 _ hk).2 rfl rfl zm_304 dX3_total_27 ?_
        refine lv_astore (lv' := [(4, .ref (ae k)), (3, .int (nI k)), (2, .int (nI (zt_total T t k))), (0, .ref x), (1, .int i)]) hx hb dX3_total_30 hl (by decide) rfl (fun ls hl => ?_)
        refine lv_aload hx hb dX3_total_32 (lv_at hl 0 rfl) ?_
        refine zn_Entry_table (v := nI (T.2 6 k)) (host := "DiceForge") C I (f12.2.2.2.2 _ hk).2 (by decide +kernel) (f16 _ hk 1 (by decide)) dX3_total_34 ?_
        refine lv_iload_n hx hb dX3_total_37 rfl (lv_at hl 4 rfl) ?_
        refine zr_top (y := nI t) (hi) ?_
        refine lv_icmp_ne (tgt := 57) hx hb dX3_total_38 (by decide) (fun c38 => ?_) (fun c38 => ?_)
        · have c38 : ¬ (T.2 6 k) = t := fun h9 => c38 ((nI_eq (a := T.2 6 k) (b := t) (by omega) (by omega)).mpr h9)
          refine lv_iinc (v := nI (k + 1)) (lv' := [(3, .int (nI (k + 1))), (4, .ref (ae k)), (2, .int (nI (zt_total T t k))), (0, .ref x), (1, .int i)]) hx hb dX3_total_57 hl (k := 1) rfl (nI_add k 1) (by decide) rfl (fun ls hl => ?_)
          refine lv_goto (tgt := 8) hx hb dX3_total_60 (by decide) ?_
          have e9 : zt_total T t (k + 1) = zt_total T t k := by show _ + (if _ then _ else 0) = _; rw [if_neg (fun h => c38 h.1)]; rfl
          have hl := lv_sub (l' := [(3, .int (nI (k + 1))), (2, .int (nI (zt_total T t k))), (0, .ref x), (1, .int i)]) hl [0, 2, 3, 4] rfl
          rw [← e9] at hl
          exact ih (k + 1) ls H locs (by omega) I hl
        · have c38 : (T.2 6 k) = t := (nI_eq (a := T.2 6 k) (b := t) (by omega) (by omega)).mp c38
          refine lv_aload hx hb dX3_total_41 (lv_at hl 0 rfl) ?_
          refine zn_Entry_struck (v := nI (T.2 12 k)) (host := "DiceForge") C I (f12.2.2.2.2 _ hk).2 (by decide +kernel) (f16 _ hk 7 (by decide)) dX3_total_43 ?_
          refine lv_if_ne (tgt := 57) hx hb dX3_total_46 (by decide) (fun c46 => ?_) (fun c46 => ?_)
          · have c46 : ¬ (T.2 12 k) = 0 := fun h9 => c46 ((nI_eq (a := T.2 12 k) (b := 0) (by omega) (by omega)).mpr h9)
            refine lv_iinc (v := nI (k + 1)) (lv' := [(3, .int (nI (k + 1))), (4, .ref (ae k)), (2, .int (nI (zt_total T t k))), (0, .ref x), (1, .int i)]) hx hb dX3_total_57 hl (k := 1) rfl (nI_add k 1) (by decide) rfl (fun ls hl => ?_)
            refine lv_goto (tgt := 8) hx hb dX3_total_60 (by decide) ?_
            have e9 : zt_total T t (k + 1) = zt_total T t k := by show _ + (if _ then _ else 0) = _; rw [if_neg (fun h => c46 h.2)]; rfl
            have hl := lv_sub (l' := [(3, .int (nI (k + 1))), (2, .int (nI (zt_total T t k))), (0, .ref x), (1, .int i)]) hl [0, 2, 3, 4] rfl
            rw [← e9] at hl
            exact ih (k + 1) ls H locs (by omega) I hl
          · have c46 : (T.2 12 k) = 0 := (nI_eq (a := T.2 12 k) (b := 0) (by omega) (by omega)).mp c46
            refine lv_iload_n hx hb dX3_total_49 rfl (lv_at hl 2 rfl) ?_
            refine lv_aload hx hb dX3_total_50 (lv_at hl 0 rfl) ?_
            refine zn_Entry_value (v := nI (T.2 9 k)) (host := "DiceForge") C I (f12.2.2.2.2 _ hk).2 (by decide +kernel) (f16 _ hk 4 (by decide)) dX3_total_52 ?_
            refine lv_iadd hx hb dX3_total_55 ?_
            refine zr_top (y := nI ((zt_total T t k) + (T.2 9 k))) (nI_add (zt_total T t k) (T.2 9 k)) ?_
            refine lv_istore_n (lv' := [(2, .int (nI ((zt_total T t k) + (T.2 9 k)))), (4, .ref (ae k)), (3, .int (nI k)), (0, .ref x), (1, .int i)]) hx hb dX3_total_56 rfl hl (by decide) rfl (fun ls hl => ?_)
            refine lv_iinc (v := nI (k + 1)) (lv' := [(3, .int (nI (k + 1))), (2, .int (nI ((zt_total T t k) + (T.2 9 k)))), (4, .ref (ae k)), (0, .ref x), (1, .int i)]) hx hb dX3_total_57 hl (k := 2) rfl (nI_add k 1) (by decide) rfl (fun ls hl => ?_)
            refine lv_goto (tgt := 8) hx hb dX3_total_60 (by decide) ?_
            have e9 : zt_total T t (k + 1) = zt_total T t k + T.2 9 k := by show _ + (if _ then _ else 0) = _; rw [if_pos ⟨c38, c46⟩]
            have hl := lv_sub (l' := [(3, .int (nI (k + 1))), (2, .int (nI ((zt_total T t k) + (T.2 9 k)))), (0, .ref x), (1, .int i)]) hl [0, 1, 3, 4] rfl
            rw [← e9] at hl
            exact ih (k + 1) ls H locs (by omega) I hl
    refine lv_iconst (v := 0) hx hb dX3_total_4 (by decide) ?_
    refine lv_istore_n (lv' := [(2, .int 0), (0, .ref x), (1, .int i)]) hx hb dX3_total_5 rfl hl (by decide) rfl (fun ls hl => ?_)
    refine lv_iconst (v := 0) hx hb dX3_total_6 (by decide) ?_
    refine lv_istore_n (lv' := [(3, .int 0), (2, .int 0), (0, .ref x), (1, .int i)]) hx hb dX3_total_7 rfl hl (by decide) rfl (fun ls hl => ?_)
    exact loop T.1.2 0 ls H locs (by omega) I (lv_sub hl [0, 1, 2, 3] rfl)
end
section
/-! audits and disputes -/
theorem zD_zD (S : zS) (d a r b q : Nat) : zD (zD S d a r) d b q = zD S d b q := by
  show zh_sI (zh_sI (zD S d a r) 0 d (nI b)) 1 d (nI q) = _
  rw [zD_s0, zD_s1]
theorem zh_at_nO_inv {S : zS} {d k0 k a : Nat} (h : zh_at (zh_nO S d k0) k a) (hk : k ≠ k0) : zh_at S k a := by
  obtain ⟨hm, h2⟩ := h
  by_cases e : a = d
  · subst e
    have h3 : va_up (zh_K S) a k0 a = k := h2
    rw [va_up_self] at h3
    exact absurd h3.symm hk
  · have h3 : va_up (zh_K S) d k0 a = k := h2
    rw [va_up_ne _ _ e] at h3
    exact ⟨(List.mem_append.mp hm).elim id (fun h => absurd (List.mem_singleton.mp h) e), h3⟩
/-- a new Draws beside the forge -/
theorem FR_nO {g : zG} {S : zS} {T : zT} {x pl lo pt ty pa la : Nat} {ap ad ae : Nat → Nat} (hF : FR g S T x pl lo pt ty pa la ap ad ae) {d k0 : Nat} (hd : d ∉ zh_L S) (hk0 : 8 ≠ k0) : FR g (zh_nO S d k0) T x pl lo pt ty pa la ap ad ae := by
  have hF0 := hF
  obtain ⟨⟨f1, f2, f3, f4, f5⟩, ⟨f6, f7, f8, f9, f10⟩, f11, f12, f13, f14, f15, f16, f17, f18, f19⟩ := hF
  refine FR_mk hF0 (fun k a h => ⟨zh_at_nO h hd, rfl, rfl, fun j => zn_R h.1 hd j⟩) rfl (fun a h => zn_I h.1 hd 31) f10 (fun i hi => ?_) (fun i hi j hj => ?_) (fun h => zh_at_nO_inv h hk0)
  · obtain ⟨q1, q2, q3, q4, q5, q6⟩ := f15 i hi
    have e := (f11.2.2.2.2 i hi).2.1
    rw [zn_I e hd, zn_I q2.1 hd, zn_I e hd, zn_I e hd]
    exact ⟨q3, q4, q5, q6⟩
  · rw [zn_I (f12.2.2.2.2 i hi).2.1 hd]; exact f16 i hi j hj
/-- .. whose fields are written -/
theorem FR_new {g : zG} {S : zS} {T : zT} {x pl lo pt ty pa la : Nat} {ap ad ae : Nat → Nat} (hF : FR g S T x pl lo pt ty pa la ap ad ae) {d : Nat} (hd : d ∉ zh_L S) (a r : Nat) : FR g (zD (zh_nO S d 0) d a r) T x pl lo pt ty pa la ap ad ae := by
  have hF1 := FR_nO hF hd (k0 := 0) (by decide)
  have hne : ∀ k b : Nat, zh_at S k b → b ≠ d := fun k b h e => hd (e ▸ h.1)
  have hI : ∀ j b : Nat, b ≠ d → zh_I (zD (zh_nO S d 0) d a r) j b = zh_I (zh_nO S d 0) j b := fun j b h => (zI_a _ _ _ _ h).trans (zI_a _ _ _ _ h)
  obtain ⟨-, -, g11, g12, -, -, g15, -⟩ := hF
  obtain ⟨⟨f1, f2, f3, f4, f5⟩, ⟨f6, f7, f8, f9, f10⟩, f11, f12, f13, f14, f15, f16, f17, f18, f19⟩ := id hF1
  refine FR_mk hF1 (fun k a h => ⟨h, rfl, rfl, fun _ => rfl⟩) rfl (fun b h => ?_) f10 (fun i hi => ?_) (fun i hi j hj => ?_) id
  · exact hI 31 b (hne 5 b (zh_at_nO_inv h (by decide)))
  · obtain ⟨q1, q2, q3, q4, q5, q6⟩ := f15 i hi
    have e := hne _ _ (g11.2.2.2.2 i hi).2
    have e2 := hne _ _ (g15 i hi).2.1
    rw [hI _ _ e, hI _ _ e2, hI _ _ e, hI _ _ e]
    exact ⟨q3, q4, q5, q6⟩
  · rw [hI _ _ (hne _ _ (g12.2.2.2.2 i hi).2)]; exact f16 i hi j hj
theorem zk_nO {S : zS} {d k0 : Nat} (hd : d ∉ zh_L S) : zk_ S (zh_nO S d k0) := fun a ha => ⟨List.mem_append_left _ ha, va_up_ne _ _ (fun e : a = d => hd (e ▸ ha)), rfl, rfl⟩
theorem zk_new {S : zS} {d a r : Nat} (hd : d ∉ zh_L S) : zk_ S (zD (zh_nO S d 0) d a r) := zk_nO hd
theorem zD_init {S : zS} {d a : Nat} : zh_sI (zh_nO S d 0) 0 d (nI a) = zD (zh_nO S d 0) d a 0 := by
  have h : zh_I (zh_sI (zh_nO S d 0) 0 d (nI a)) 1 d = nI 0 := by
    rw [zI_j _ _ _ _ (by decide)]
    exact if_pos rfl
  exact (zs_Is _ 1 d (nI 0) h).symm
theorem zt_own_lo (T : zT) (q a k : Nat) (h : k ≤ a) : zt_own T q a k = 0 := by
  induction k with
  | zero => rfl
  | succ k ih => show zt_own T q a k + (if _ then 1 else 0) = 0; rw [ih (by omega), if_neg (by omega)]
theorem zt_own_le (T : zT) (q a k : Nat) : zt_own T q a k ≤ k := by
  induction k with
  | zero => exact Nat.le_refl _
  | succ k ih => show zt_own T q a k + (if _ then 1 else 0) ≤ k + 1; split <;> omega
theorem zs_strike_j (T : zT) (q a n : Nat) {j : Nat} (k : Nat) (h : j ≠ 12) : (zs_strike T q a n).2 j k = T.2 j k := if_neg (fun h9 => h h9.1)
theorem zs_strike_s (T : zT) {q a k : Nat} (h : T.2 5 k = q) (h2 : a ≤ k) : zt_s (zs_strike T q a k) 12 k 1 = zs_strike T q a (k + 1) := by
  show (T.1, _) = (T.1, _)
  congr 1
  funext j i
  show (if j = 12 ∧ i = k then 1 else if j = 12 ∧ T.2 5 i = q ∧ a ≤ i ∧ i < k then 1 else T.2 j i) = (if j = 12 ∧ T.2 5 i = q ∧ a ≤ i ∧ i < k + 1 then 1 else T.2 j i)
  by_cases c : j = 12 ∧ i = k
  · rw [if_pos c, if_pos ⟨c.1, by rw [c.2]; exact h, by omega, by omega⟩]
  · rw [if_neg c]
    by_cases c2 : j = 12 ∧ T.2 5 i = q ∧ a ≤ i ∧ i < k
    · rw [if_pos c2, if_pos ⟨c2.1, c2.2.1, c2.2.2.1, by omega⟩]
    · rw [if_neg c2, if_neg (fun h9 => c2 ⟨h9.1, h9.2.1, h9.2.2.1, by have : i ≠ k := fun e => c ⟨h9.1, e⟩; omega⟩)]
theorem zs_strike_n (T : zT) {q a k : Nat} (h : ¬ (T.2 5 k = q ∧ a ≤ k)) : zs_strike T q a k = zs_strike T q a (k + 1) := by
  show (T.1, _) = (T.1, _)
  congr 1
  funext j i
  show (if j = 12 ∧ T.2 5 i = q ∧ a ≤ i ∧ i < k then 1 else T.2 j i) = (if j = 12 ∧ T.2 5 i = q ∧ a ≤ i ∧ i < k + 1 then 1 else T.2 j i)
  by_cases c2 : j = 12 ∧ T.2 5 i = q ∧ a ≤ i ∧ i < k
  · rw [if_pos c2, if_pos ⟨c2.1, c2.2.1, c2.2.2.1, by omega⟩]
  · rw [if_neg c2, if_neg (fun h9 => c2 ⟨h9.1, h9.2.1, h9.2.2.1, by have : i ≠ k := fun e => h ⟨by rw [← e]; exact h9.2.1, by omega⟩; omega⟩)]
theorem zs_strike_0 (T : zT) (q a k : Nat) (h : k ≤ a) : zs_strike T q a k = T := by
  show (T.1, _) = T
  have : (fun j i => if j = 12 ∧ T.2 5 i = q ∧ a ≤ i ∧ i < k then 1 else T.2 j i) = T.2 := by
    funext j i
    exact if_neg (fun h9 => by omega)
  rw [this]
theorem zt_ag_lt {T : zT} (h : ∀ k : Nat, T.2 0 k < 65536) (q k : Nat) : zt_ag T q k < 65536 := by
  induction k with
  | zero => exact h q
  | succ k ih =>
    show (if _ then _ else _) < 65536
    split
    · exact zd_roll_lt _ _ _
    · exact ih
theorem zt_ag_3 (T : zT) (q i y k : Nat) : zt_ag (zt_s T 3 i y) q k = zt_ag T q k := by
  induction k with
  | zero => exact zt_s_j _ _ _ _ (by decide)
  | succ k ih =>
    show (if (zt_s T 3 i y).2 5 k = q then (zd_roll (zt_ag (zt_s T 3 i y) q k) ((zt_s T 3 i y).2 7 k) ((zt_s T 3 i y).2 8 k)).1 else zt_ag (zt_s T 3 i y) q k) = (if T.2 5 k = q then (zd_roll (zt_ag T q k) (T.2 7 k) (T.2 8 k)).1 else zt_ag T q k)
    rw [ih, zt_s_j _ _ _ _ (by decide), zt_s_j _ _ _ _ (by decide), zt_s_j _ _ _ _ (by decide)]
theorem zt_wrong_3 (T : zT) (q i y n : Nat) : ∀ k : Nat, zt_wrong (zt_s T 3 i y) q n k = zt_wrong T q n k := by
  induction n with
  | zero => intro k; rfl
  | succ n ih =>
    intro k
    show (if (zt_s T 3 i y).2 5 k = q ∧ (zt_s T 3 i y).2 9 k ≠ zd_val (zt_ag (zt_s T 3 i y) q k) ((zt_s T 3 i y).2 7 k) ((zt_s T 3 i y).2 8 k) then nI k else zt_wrong (zt_s T 3 i y) q n (k + 1)) = (if T.2 5 k = q ∧ T.2 9 k ≠ zd_val (zt_ag T q k) (T.2 7 k) (T.2 8 k) then nI k else zt_wrong T q n (k + 1))
    rw [ih, zt_ag_3, zt_s_j _ _ _ _ (by decide), zt_s_j _ _ _ _ (by decide), zt_s_j _ _ _ _ (by decide), zt_s_j _ _ _ _ (by decide)]
theorem zt_own_3 (T : zT) (q a i y k : Nat) : zt_own (zt_s T 3 i y) q a k = zt_own T q a k := by
  induction k with
  | zero => rfl
  | succ k ih =>
    show zt_own (zt_s T 3 i y) q a k + (if (zt_s T 3 i y).2 5 k = q ∧ a ≤ k then 1 else 0) = zt_own T q a k + (if T.2 5 k = q ∧ a ≤ k then 1 else 0)
    rw [ih, zt_s_j _ _ _ _ (by decide)]
/-- the first wrong entry: none, or one among the entries -/
theorem zt_wrong_in (T : zT) (q n : Nat) : ∀ k : Nat, zt_wrong T q n k = -1 ∨ ∃ j : Nat, k ≤ j ∧ j < k + n ∧ zt_wrong T q n k = nI j := by
  induction n with
  | zero => intro k; exact Or.inl rfl
  | succ n ih =>
    intro k
    by_cases c : T.2 5 k = q ∧ T.2 9 k ≠ zt_fd T q k
    · refine Or.inr ⟨k, Nat.le_refl _, by omega, ?_⟩
      show (if _ then nI k else _) = nI k
      rw [if_pos c]
    · have e : zt_wrong T q (n + 1) k = zt_wrong T q n (k + 1) := by
        show (if _ then nI k else _) = _
        rw [if_neg c]
      rw [e]
      rcases ih (k + 1) with h | ⟨j, h1, h2, h3⟩
      · exact Or.inl h
      · exact Or.inr ⟨j, by omega, by omega, h3⟩
theorem zi_m1 {j : Nat} (h : j < 2 ^ 31) : ¬ nI j = -1 := fun h9 => by
  have h1 := congrArg Int32.toInt h9
  rw [nI_toInt h] at h1
  have h2 : (-1 : Int32).toInt = -1 := by decide
  omega
theorem zt_ok3 {T : zT} (h : zt_ok T) {q : Nat} (hq : q < T.1.1) : zt_ok (zt_s T 3 q 1) := by
  obtain ⟨t1, t2, t3, t4, t5, t6, t7⟩ := h
  refine ⟨t1, t2, fun k => ?_, fun k => ?_, fun k hk => ?_, fun k hk => ?_, fun k hk => ?_⟩
  · obtain ⟨h1, h2, h3, h4⟩ := t3 k
    rw [zt_s_j _ _ _ _ (by decide), zt_s_j _ _ _ _ (by decide), zt_s_j _ _ _ _ (by decide)]
    refine ⟨h1, h2, h3, ?_⟩
    by_cases e : k = q
    · subst e; rw [zt_s_s]; exact Nat.le_refl _
    · rw [zt_s_k _ _ _ _ e]; exact h4
  · rw [zt_s_j _ _ _ _ (by decide)]; exact t4 k
  · have h9 : ∀ j : Nat, j ≠ 3 → (zt_s T 3 q 1).2 j k = T.2 j k := fun j hj => zt_s_j _ _ _ _ hj
    rw [h9 5 (by decide), h9 6 (by decide), h9 7 (by decide), h9 8 (by decide), h9 9 (by decide), h9 10 (by decide), h9 11 (by decide), h9 12 (by decide)]
    exact t5 k hk
  · have hk9 : T.1.1 ≤ k := hk
    rw [zt_s_j _ _ _ _ (by decide), zt_s_k _ _ _ _ (by omega)]; exact t6 k hk
  · rw [zt_s_j _ _ _ _ (by decide)]; exact t7 k hk

set_option maxRecDepth 100000 in
set_option maxHeartbeats 4000000 in
theorem k_X3_broken (l : Launch) (g : zG) (hst : l.stackTraces = false) (S : zS) (T : zT) (x pl lo pt ty pa la : Nat) (ap ad ae : Nat → Nat) (hT : zt_ok T) (hF : FR g S T x pl lo pt ty pa la ap ad ae) : zM l yX3_broken cX3_broken 4 (some .int) (zrm 7 0 0) g [.ref x] S (fun w S' => w = some (.int (zt_broken T T.1.2 0)) ∧ S' = S) := by
  refine zM_of (nm := "broken") (by decide) rfl (Nat.le_of_ble_eq_true rfl) ?_
  intro p e s m args below meth c A ls C hr hlk hin I hl
  have C : CallFix p m c cX3_broken 4 s args zc_W RX3 := C
  have hx := C.1
  have hb := C.2.1
  have hl : lv_has ls 4 [(0, .ref x)] := hl
  have hF0 := hF
  obtain ⟨⟨f1, f2, f3, f4, f5⟩, ⟨f6, f7, f8, f9, f10⟩, f11, f12, f13, f14, f15, f16, f17, f18, f19⟩ := hF
  obtain ⟨t1, t2, t3, t4, t5, t6, t7⟩ := hT
  have loop : ∀ (n k : Nat)  (ls : Array Slot) (H : Heap) (locs : List Loc), k + n = T.1.2 → zh_V g A s [] S H locs → zt_broken T n k = zt_broken T T.1.2 0 → lv_has ls 4 [(2, .int (nI k)), (1, .int (nI (if k = 0 then 17 else T.2 11 (k - 1)))), (0, .ref x)] → W p l e (zrm 7 0 0) s m args below meth c H locs 0 0 (MQ below (zh_Po g A (fun w S' => w = some (.int (zt_broken T T.1.2 0)) ∧ S' = S)) args s (zrm 7 0 0).cells (zrm 7 0 0).slots A) (F0 m 5 ls []) := by
    intro n
    induction n with
    | zero =>
      intro k ls H locs hn I hb0 hl
      refine lv_iload_n hx hb dX3_broken_5 rfl (lv_at hl 0 rfl) ?_
      refine lv_aload_n hx hb dX3_broken_6 rfl (lv_at hl 2 rfl) ?_
      refine zg_Forge_log (v := lo) C I f1 zm_69 (f3) dX3_broken_7 ?_
      refine zc_V (n := 0) (rest := [.int (nI k)]) C I f12.1 rfl rfl (k_Jx4a65c_size_8abf5 l g S lo T.1.2 f12.1 f12.2.1) zm_144 zm_145 zm_146 zm_19 zm_147 rfl hl.1 dX3_broken_10 (by decide +kernel) rfl ⟨Nat.le_of_ble_eq_true rfl, Nat.le_of_ble_eq_true rfl⟩ (Nat.le_of_ble_eq_true rfl) ⟨Nat.le_of_ble_eq_true rfl, Nat.le_of_ble_eq_true rfl⟩ (fun v S' H locs hq I => ?_)
      obtain ⟨rfl, eS⟩ := hq
      rw [eS] at I
      refine lv_icmp_ge (tgt := 53) hx hb dX3_broken_13 (by decide) (fun _ => ?_) (fun h9 => absurd ((nI_leI (a := T.1.2) (b := k) (by omega) (by omega)).mpr (by omega)) h9)
      refine lv_iconst (v := (-1)) hx hb dX3_broken_53 (by decide) ?_
      exact zr_iret C I hr hlk (⟨by rw [← hb0]; rfl, rfl⟩) (Nat.le_of_ble_eq_true rfl) (Nat.le_of_ble_eq_true rfl) dX3_broken_54
    | succ n ih =>
      intro k ls H locs hn I hb0 hl
      refine lv_iload_n hx hb dX3_broken_5 rfl (lv_at hl 0 rfl) ?_
      refine lv_aload_n hx hb dX3_broken_6 rfl (lv_at hl 2 rfl) ?_
      refine zg_Forge_log (v := lo) C I f1 zm_69 (f3) dX3_broken_7 ?_
      refine zc_V (n := 0) (rest := [.int (nI k)]) C I f12.1 rfl rfl (k_Jx4a65c_size_8abf5 l g S lo T.1.2 f12.1 f12.2.1) zm_144 zm_145 zm_146 zm_19 zm_147 rfl hl.1 dX3_broken_10 (by decide +kernel) rfl ⟨Nat.le_of_ble_eq_true rfl, Nat.le_of_ble_eq_true rfl⟩ (Nat.le_of_ble_eq_true rfl) ⟨Nat.le_of_ble_eq_true rfl, Nat.le_of_ble_eq_true rfl⟩ (fun v S' H locs hq I => ?_)
      obtain ⟨rfl, eS⟩ := hq
      rw [eS] at I
      have hk : k < T.1.2 := by omega
      obtain ⟨h3, h4, h5, h6⟩ : zh_at S 8 la ∧ T.1.2 ≤ zh_N S la ∧ 10 ≤ zh_N S la ∧ zh_N S la ≤ 150 := f12.2.2.2.1.elim (fun h => absurd h.1 (by omega)) id
      refine lv_icmp_ge (tgt := 53) hx hb dX3_broken_13 (by decide) (fun h9 => absurd h9 (fun h8 => absurd ((nI_leI (a := T.1.2) (b := k) (by omega) (by omega)).mp h8) (by omega))) (fun _ => ?_)
      refine lv_aload_n hx hb dX3_broken_16 rfl (lv_at hl 2 rfl) ?_
      refine zg_Forge_log (v := lo) C I f1 zm_69 (f3) dX3_broken_17 ?_
      refine lv_iload_n hx hb dX3_broken_20 rfl (lv_at hl 0 rfl) ?_
      refine zc_V (n := 1) (rest := []) C I f12.1 rfl rfl (k_Jx4a65c_get_915e3 l g S lo T.1.2 la k (ae k) f12.1 f12.2.1 f12.2.2.1 h3 h4 (by omega) hk (f12.2.2.2.2 _ hk).1) zm_283 zm_284 zm_285 zm_19 zm_286 rfl hl.1 dX3_broken_21 (by decide +kernel) rfl ⟨Nat.le_of_ble_eq_true rfl, Nat.le_of_ble_eq_true rfl⟩ (Nat.le_of_ble_eq_true rfl) ⟨Nat.le_of_ble_eq_true rfl, Nat.le_of_ble_eq_true rfl⟩ (fun v S' H locs hq I => ?_)
      obtain ⟨rfl, eS⟩ := hq
      rw [eS] at I
      have h5k := t5 _ hk
      have hsb : (if k = 0 then 17 else T.2 11 (k - 1)) < 1000003 := by
        by_cases e : k = 0
        · rw [if_pos e]; decide
        · rw [if_neg e]; exact (t5 (k - 1) (by omega)).2.2.2.2.2.2.2.2.1
      refine zr_cast C I (f12.2.2.2.2 _ hk).2 rfl rfl zm_304 dX3_broken_24 ?_
      refine lv_astore_n (lv' := [(3, .ref (ae k)), (2, .int (nI k)), (1, .int (nI (if k = 0 then 17 else T.2 11 (k - 1)))), (0, .ref x)]) hx hb dX3_broken_27 rfl hl (by decide) rfl (fun ls hl => ?_)
      refine lv_aload_n hx hb dX3_broken_28 rfl (lv_at hl 0 rfl) ?_
      refine zn_Entry_sum (v := nI (T.2 11 k)) (host := "DiceForge") C I (f12.2.2.2.2 _ hk).2 (by decide +kernel) (f16 _ hk 6 (by decide)) dX3_broken_29 ?_
      refine lv_aload_n hx hb dX3_broken_32 rfl (lv_at hl 0 rfl) ?_
      refine lv_iload_n hx hb dX3_broken_33 rfl (lv_at hl 2 rfl) ?_
      refine zc_VN (host := "DiceForge") (n := 1) (rest := [.int (nI (T.2 11 k))]) C I (f12.2.2.2.2 _ hk).2 rfl rfl (k_X1_sumAfter l g S (ae k) (if k = 0 then 17 else T.2 11 (k - 1)) (T.2 5 k) (T.2 6 k) (T.2 8 k) (T.2 9 k) (T.2 10 k) (f12.2.2.2.2 _ hk).2 (f16 _ hk 0 (by decide)) (f16 _ hk 1 (by decide)) (f16 _ hk 3 (by decide)) (f16 _ hk 4 (by decide)) (f16 _ hk 5 (by decide)) hsb (by omega) (by omega) (by omega) (by omega) (by omega)) (by decide +kernel) zm_346 zm_8 zm_34 zm_347 rfl hl.1 dX3_broken_34 (by decide +kernel) rfl ⟨Nat.le_of_ble_eq_true rfl, Nat.le_of_ble_eq_true rfl⟩ (Nat.le_of_ble_eq_true rfl) ⟨Nat.le_of_ble_eq_true rfl, Nat.le_of_ble_eq_true rfl⟩ (fun v S' H locs hq I => ?_)
      obtain ⟨rfl, eS⟩ := hq
      rw [eS] at I
      have hsum : zt_sum T k < 1000003 := zd_sum_lt _ _ _ _ _ _
      refine lv_icmp_eq (tgt := 42) hx hb dX3_broken_37 (by decide) (fun c37 => ?_) (fun c37 => ?_)
      · have c37 : (T.2 11 k) = (zt_sum T k) := (nI_eq (a := T.2 11 k) (b := zt_sum T k) (by omega) (by omega)).mp c37
        refine lv_aload_n hx hb dX3_broken_42 rfl (lv_at hl 0 rfl) ?_
        refine zn_Entry_sum (v := nI (T.2 11 k)) (host := "DiceForge") C I (f12.2.2.2.2 _ hk).2 (by decide +kernel) (f16 _ hk 6 (by decide)) dX3_broken_43 ?_
        refine lv_istore_n (lv' := [(1, .int (nI (T.2 11 k))), (3, .ref (ae k)), (2, .int (nI k)), (0, .ref x)]) hx hb dX3_broken_46 rfl hl (by decide) rfl (fun ls hl => ?_)
        refine lv_iinc (v := nI (k + 1)) (lv' := [(2, .int (nI (k + 1))), (1, .int (nI (T.2 11 k))), (3, .ref (ae k)), (0, .ref x)]) hx hb dX3_broken_47 hl (k := 2) rfl (nI_add k 1) (by decide) rfl (fun ls hl => ?_)
        refine lv_goto (tgt := 5) hx hb dX3_broken_50 (by decide) ?_
        have hl := lv_sub (l' := [(2, .int (nI (k + 1))), (1, .int (nI (T.2 11 k))), (0, .ref x)]) hl [0, 1, 3] rfl
        have e9 : (if k + 1 = 0 then 17 else T.2 11 (k + 1 - 1)) = T.2 11 k := if_neg (by omega)
        rw [← e9] at hl
        refine ih (k + 1) ls H locs (by omega) I ?_ hl
        rw [← hb0]
        show _ = (if _ then nI k else _)
        rw [if_neg (fun h => h c37)]
      · have c37 : ¬ (T.2 11 k) = (zt_sum T k) := fun h9 => c37 ((nI_eq (a := T.2 11 k) (b := zt_sum T k) (by omega) (by omega)).mpr h9)
        refine lv_iload_n hx hb dX3_broken_40 rfl (lv_at hl 1 rfl) ?_
        exact zr_iret C I hr hlk (⟨by rw [← hb0]; show _ = some (Value.int (if _ then nI k else _)); rw [if_pos c37], rfl⟩) (Nat.le_of_ble_eq_true rfl) (Nat.le_of_ble_eq_true rfl) dX3_broken_41
  refine lv_bipush (v := 17) hx hb dX3_broken_0 (by decide) ?_
  refine lv_istore_n (lv' := [(1, .int 17), (0, .ref x)]) hx hb dX3_broken_2 rfl hl (by decide) rfl (fun ls hl => ?_)
  refine lv_iconst (v := 0) hx hb dX3_broken_3 (by decide) ?_
  refine lv_istore_n (lv' := [(2, .int 0), (1, .int 17), (0, .ref x)]) hx hb dX3_broken_4 rfl hl (by decide) rfl (fun ls hl => ?_)
  exact loop T.1.2 0 ls _ _ (by omega) I rfl (lv_sub hl [0, 1, 2] rfl)

set_option maxRecDepth 100000 in
set_option maxHeartbeats 4000000 in
theorem k_X3_firstWrong (l : Launch) (g : zG) (hst : l.stackTraces = false) (S : zS) (T : zT) (x pl lo pt ty pa la : Nat) (ap ad ae : Nat → Nat) (hT : zt_ok T) (hF : FR g S T x pl lo pt ty pa la ap ad ae) (q : Nat) (hq1 : q < T.1.1) : zM l yX3_firstWrong cX3_firstWrong 6 (some .int) (zrm 7 1 2) g [.ref x, .int (nI q), .int (nI (T.2 0 q))] S (fun w S' => w = some (.int (zv_wrong T q)) ∧ FR g S' T x pl lo pt ty pa la ap ad ae ∧ zk_ S S') := by
  refine zM_of (nm := "firstWrong") (by decide) rfl (Nat.le_of_ble_eq_true rfl) ?_
  intro p e s m args below meth c A ls C hr hlk hin I hl
  have C : CallFix p m c cX3_firstWrong 6 s args zc_W RX3 := C
  have hx := C.1
  have hb := C.2.1
  have hl : lv_has ls 6 [(0, .ref x), (1, .int (nI q)), (2, .int (nI (T.2 0 q)))] := hl
  have hF0 := hF
  obtain ⟨⟨f1, f2, f3, f4, f5⟩, ⟨f6, f7, f8, f9, f10⟩, f11, f12, f13, f14, f15, f16, f17, f18, f19⟩ := hF
  obtain ⟨t1, t2, t3, t4, t5, t6, t7⟩ := hT
  have t3a := t3
  refine zw_Draws C I zm_363 zm_168 zm_26 (Nat.le_of_ble_eq_true rfl) (Nat.le_of_ble_eq_true rfl) dX3_firstWrong_0 (fun q0 H hq0 I => ?_)
  refine lv_dup hx hb dX3_firstWrong_3 rfl ?_
  refine lv_iload_n hx hb dX3_firstWrong_4 rfl (lv_at hl 2 rfl) ?_
  refine zc_IN (host := "DiceForge") (n := 1) (rest := [.ref q0]) C I (k_X0_init l g (zh_nO S q0 0) q0 (nI (T.2 0 q)) zh_at_new) (by decide +kernel) zm_169 zm_26 zm_170 rfl rfl hl.1 dX3_firstWrong_5 (by decide +kernel) rfl ⟨Nat.le_of_ble_eq_true rfl, Nat.le_of_ble_eq_true rfl⟩ (Nat.le_of_ble_eq_true rfl) ⟨Nat.le_of_ble_eq_true rfl, Nat.le_of_ble_eq_true rfl⟩ (fun v S' H locs hq I => ?_)
  obtain ⟨rfl, eS⟩ := hq
  rw [eS] at I
  rw [zD_init] at I
  have loop : ∀ (n k : Nat) (r : Nat) (ls : Array Slot) (H : Heap) (locs : List Loc), k + n = T.1.2 → zh_V g A s [] (zD (zh_nO S q0 0) q0 (zt_ag T q k) r) H locs → zt_wrong T q n k = zv_wrong T q → lv_has ls 6 [(4, .int (nI k)), (3, .ref q0), (0, .ref x), (1, .int (nI q)), (2, .int (nI (T.2 0 q)))] → W p l e (zrm 7 1 2) s m args below meth c H locs (0 + 1 + (zrm 1 0 0).cells) (0 + 2 + (zrm 1 0 0).slots) (MQ below (zh_Po g A (fun w S' => w = some (.int (zv_wrong T q)) ∧ FR g S' T x pl lo pt ty pa la ap ad ae ∧ zk_ S S')) args s (zrm 7 1 2).cells (zrm 7 1 2).slots A) (F0 m 12 ls []) := by
    intro n
    induction n with
    | zero =>
      intro k r ls H locs hn I hb0 hl
      have hFk := FR_new hF0 hq0 (zt_ag T q k) r
      obtain ⟨⟨f1, f2, f3, f4, f5⟩, ⟨f6, f7, f8, f9, f10⟩, f11, f12, f13, f14, f15, f16, f17, f18, f19⟩ := id hFk
      refine lv_iload hx hb dX3_firstWrong_12 (lv_at hl 0 rfl) ?_
      refine lv_aload_n hx hb dX3_firstWrong_14 rfl (lv_at hl 2 rfl) ?_
      refine zg_Forge_log (v := lo) C I f1 zm_69 (f3) dX3_firstWrong_15 ?_
      refine zc_V (n := 0) (rest := [.int (nI k)]) C I f12.1 rfl rfl (k_Jx4a65c_size_8abf5 l g (zD (zh_nO S q0 0) q0 (zt_ag T q k) r) lo T.1.2 f12.1 f12.2.1) zm_144 zm_145 zm_146 zm_19 zm_147 rfl hl.1 dX3_firstWrong_18 (by decide +kernel) rfl ⟨Nat.le_of_ble_eq_true rfl, Nat.le_of_ble_eq_true rfl⟩ (Nat.le_of_ble_eq_true rfl) ⟨Nat.le_of_ble_eq_true rfl, Nat.le_of_ble_eq_true rfl⟩ (fun v S' H locs hq I => ?_)
      obtain ⟨rfl, eS⟩ := hq
      rw [eS] at I
      refine lv_icmp_ge (tgt := 78) hx hb dX3_firstWrong_21 (by decide) (fun _ => ?_) (fun h9 => absurd ((nI_leI (a := T.1.2) (b := k) (by omega) (by omega)).mpr (by omega)) h9)
      refine lv_iconst (v := (-1)) hx hb dX3_firstWrong_78 (by decide) ?_
      exact zr_iret C I hr hlk (⟨by rw [← hb0]; rfl, hFk, zk_new hq0⟩) (Nat.le_of_ble_eq_true rfl) (Nat.le_of_ble_eq_true rfl) dX3_firstWrong_79
    | succ n ih =>
      intro k r ls H locs hn I hb0 hl
      have hFk := FR_new hF0 hq0 (zt_ag T q k) r
      obtain ⟨⟨f1, f2, f3, f4, f5⟩, ⟨f6, f7, f8, f9, f10⟩, f11, f12, f13, f14, f15, f16, f17, f18, f19⟩ := id hFk
      refine lv_iload hx hb dX3_firstWrong_12 (lv_at hl 0 rfl) ?_
      refine lv_aload_n hx hb dX3_firstWrong_14 rfl (lv_at hl 2 rfl) ?_
      refine zg_Forge_log (v := lo) C I f1 zm_69 (f3) dX3_firstWrong_15 ?_
      refine zc_V (n := 0) (rest := [.int (nI k)]) C I f12.1 rfl rfl (k_Jx4a65c_size_8abf5 l g (zD (zh_nO S q0 0) q0 (zt_ag T q k) r) lo T.1.2 f12.1 f12.2.1) zm_144 zm_145 zm_146 zm_19 zm_147 rfl hl.1 dX3_firstWrong_18 (by decide +kernel) rfl ⟨Nat.le_of_ble_eq_true rfl, Nat.le_of_ble_eq_true rfl⟩ (Nat.le_of_ble_eq_true rfl) ⟨Nat.le_of_ble_eq_true rfl, Nat.le_of_ble_eq_true rfl⟩ (fun v S' H locs hq I => ?_)
      obtain ⟨rfl, eS⟩ := hq
      rw [eS] at I
      have hk : k < T.1.2 := by omega
      obtain ⟨h3, h4, h5, h6⟩ : zh_at (zD (zh_nO S q0 0) q0 (zt_ag T q k) r) 8 la ∧ T.1.2 ≤ zh_N (zD (zh_nO S q0 0) q0 (zt_ag T q k) r) la ∧ 10 ≤ zh_N (zD (zh_nO S q0 0) q0 (zt_ag T q k) r) la ∧ zh_N (zD (zh_nO S q0 0) q0 (zt_ag T q k) r) la ≤ 150 := f12.2.2.2.1.elim (fun h => absurd h.1 (by omega)) id
      refine lv_icmp_ge (tgt := 78) hx hb dX3_firstWrong_21 (by decide) (fun h9 => absurd h9 (fun h8 => absurd ((nI_leI (a := T.1.2) (b := k) (by omega) (by omega)).mp h8) (by omega))) (fun _ => ?_)
      refine lv_aload_n hx hb dX3_firstWrong_24 rfl (lv_at hl 2 rfl) ?_
      refine zg_Forge_log (v := lo) C I f1 zm_69 (f3) dX3_firstWrong_25 ?_
      refine lv_iload hx hb dX3_firstWrong_28 (lv_at hl 0 rfl) ?_
      refine zc_V (n := 1) (rest := []) C I f12.1 rfl rfl (k_Jx4a65c_get_915e3 l g (zD (zh_nO S q0 0) q0 (zt_ag T q k) r) lo T.1.2 la k (ae k) f12.1 f12.2.1 f12.2.2.1 h3 h4 (by omega) hk (f12.2.2.2.2 _ hk).1) zm_283 zm_284 zm_285 zm_19 zm_286 rfl hl.1 dX3_firstWrong_30 (by decide +kernel) rfl ⟨Nat.le_of_ble_eq_true rfl, Nat.le_of_ble_eq_true rfl⟩ (Nat.le_of_ble_eq_true rfl) ⟨Nat.le_of_ble_eq_true rfl, Nat.le_of_ble_eq_true rfl⟩ (fun v S' H locs hq I => ?_)
      obtain ⟨rfl, eS⟩ := hq
      rw [eS] at I
      have h5k := t5 _ hk
      refine zr_cast C I (f12.2.2.2.2 _ hk).2 rfl rfl zm_304 dX3_firstWrong_33 ?_
      refine lv_astore (lv' := [(5, .ref (ae k)), (4, .int (nI k)), (3, .ref q0), (0, .ref x), (1, .int (nI q)), (2, .int (nI (T.2 0 q)))]) hx hb dX3_firstWrong_36 hl (by decide) rfl (fun ls hl => ?_)
      refine lv_aload hx hb dX3_firstWrong_38 (lv_at hl 0 rfl) ?_
      refine zn_Entry_promise (v := nI (T.2 5 k)) (host := "DiceForge") C I (f12.2.2.2.2 _ hk).2 (by decide +kernel) (f16 _ hk 0 (by decide)) dX3_firstWrong_40 ?_
      refine lv_iload_n hx hb dX3_firstWrong_43 rfl (lv_at hl 4 rfl) ?_
      refine lv_icmp_ne (tgt := 72) hx hb dX3_firstWrong_44 (by decide) (fun c44 => ?_) (fun c44 => ?_)
      · have c44 : ¬ (T.2 5 k) = q := fun h9 => c44 ((nI_eq (a := T.2 5 k) (b := q) (by omega) (by omega)).mpr h9)
        refine lv_iinc (v := nI (k + 1)) (lv' := [(4, .int (nI (k + 1))), (5, .ref (ae k)), (3, .ref q0), (0, .ref x), (1, .int (nI q)), (2, .int (nI (T.2 0 q)))]) hx hb dX3_firstWrong_72 hl (k := 1) rfl (nI_add k 1) (by decide) rfl (fun ls hl => ?_)
        refine lv_goto (tgt := 12) hx hb dX3_firstWrong_75 (by decide) ?_
        have hl := lv_sub (l' := [(4, .int (nI (k + 1))), (3, .ref q0), (0, .ref x), (1, .int (nI q)), (2, .int (nI (T.2 0 q)))]) hl [0, 2, 3, 4, 5] rfl
        have e9 : zt_ag T q (k + 1) = zt_ag T q k := if_neg c44
        rw [← e9] at I
        refine ih (k + 1) r ls H locs (by omega) I ?_ hl
        rw [← hb0]
        show _ = (if _ then nI k else _)
        rw [if_neg (fun h => c44 h.1)]
      · have c44 : (T.2 5 k) = q := (nI_eq (a := T.2 5 k) (b := q) (by omega) (by omega)).mp c44
        refine lv_aload hx hb dX3_firstWrong_47 (lv_at hl 0 rfl) ?_
        refine zn_Entry_value (v := nI (T.2 9 k)) (host := "DiceForge") C I (f12.2.2.2.2 _ hk).2 (by decide +kernel) (f16 _ hk 4 (by decide)) dX3_firstWrong_49 ?_
        refine lv_aload_n hx hb dX3_firstWrong_52 rfl (lv_at hl 2 rfl) ?_
        refine lv_aload hx hb dX3_firstWrong_53 (lv_at hl 0 rfl) ?_
        refine zn_Entry_part (v := nI (T.2 7 k)) (host := "DiceForge") C I (f12.2.2.2.2 _ hk).2 (by decide +kernel) (f16 _ hk 2 (by decide)) dX3_firstWrong_55 ?_
        refine lv_aload hx hb dX3_firstWrong_58 (lv_at hl 0 rfl) ?_
        refine zn_Entry_faces (v := nI (T.2 8 k)) (host := "DiceForge") C I (f12.2.2.2.2 _ hk).2 (by decide +kernel) (f16 _ hk 3 (by decide)) dX3_firstWrong_60 ?_
        have hag := zt_ag_lt (T := T) (fun k => (t3a k).1) q k
        refine zc_VN (host := "DiceForge") (n := 2) (rest := [.int (nI (T.2 9 k))]) C I (show zh_at (zD (zh_nO S q0 0) q0 (zt_ag T q k) r) 0 q0 from zh_at_new) rfl rfl (k_X0_nextValue l g (zD (zh_nO S q0 0) q0 (zt_ag T q k) r) q0 (zt_ag T q k) (T.2 7 k) (T.2 8 k) zh_at_new (zD_0 _ _ _ _) hag (by omega) (by omega) (by omega)) (by decide +kernel) zm_333 zm_5 zm_26 zm_334 rfl hl.1 dX3_firstWrong_63 (by decide +kernel) rfl ⟨Nat.le_of_ble_eq_true rfl, Nat.le_of_ble_eq_true rfl⟩ (Nat.le_of_ble_eq_true rfl) ⟨Nat.le_of_ble_eq_true rfl, Nat.le_of_ble_eq_true rfl⟩ (fun v S' H locs hq I => ?_)
        obtain ⟨rfl, eS⟩ := hq
        rw [eS] at I
        rw [zD_zD] at I
        have hfd : zt_fd T q k ≤ 1000 := by
          have := Nat.mod_lt (zd_roll (zt_ag T q k) (T.2 7 k) (T.2 8 k)).1 (show T.2 8 k > 0 by omega)
          show _ % T.2 8 k + 1 ≤ 1000
          omega
        refine lv_icmp_eq (tgt := 72) hx hb dX3_firstWrong_66 (by decide) (fun c66 => ?_) (fun c66 => ?_)
        · have c66 : (T.2 9 k) = (zt_fd T q k) := (nI_eq (a := T.2 9 k) (b := zt_fd T q k) (by omega) (by omega)).mp c66
          refine lv_iinc (v := nI (k + 1)) (lv' := [(4, .int (nI (k + 1))), (5, .ref (ae k)), (3, .ref q0), (0, .ref x), (1, .int (nI q)), (2, .int (nI (T.2 0 q)))]) hx hb dX3_firstWrong_72 hl (k := 1) rfl (nI_add k 1) (by decide) rfl (fun ls hl => ?_)
          refine lv_goto (tgt := 12) hx hb dX3_firstWrong_75 (by decide) ?_
          have hl := lv_sub (l' := [(4, .int (nI (k + 1))), (3, .ref q0), (0, .ref x), (1, .int (nI q)), (2, .int (nI (T.2 0 q)))]) hl [0, 2, 3, 4, 5] rfl
          have e9 : zt_ag T q (k + 1) = (zd_roll (zt_ag T q k) (T.2 7 k) (T.2 8 k)).1 := if_pos c44
          rw [← e9] at I
          refine ih (k + 1) ((zd_roll (zt_ag T q k) (T.2 7 k) (T.2 8 k)).2) ls H locs (by omega) I ?_ hl
          rw [← hb0]
          show _ = (if _ then nI k else _)
          rw [if_neg (fun h => h.2 c66)]
        · have c66 : ¬ (T.2 9 k) = (zt_fd T q k) := fun h9 => c66 ((nI_eq (a := T.2 9 k) (b := zt_fd T q k) (by omega) (by omega)).mpr h9)
          refine lv_iload hx hb dX3_firstWrong_69 (lv_at hl 1 rfl) ?_
          have hFk2 := FR_new hF0 hq0 (zd_roll (zt_ag T q k) (T.2 7 k) (T.2 8 k)).1 (zd_roll (zt_ag T q k) (T.2 7 k) (T.2 8 k)).2
          exact zr_iret C I hr hlk (⟨by rw [← hb0]; show _ = some (Value.int (if _ then nI k else _)); rw [if_pos ⟨c44, c66⟩], hFk2, zk_new hq0⟩) (Nat.le_of_ble_eq_true rfl) (Nat.le_of_ble_eq_true rfl) dX3_firstWrong_71
  refine lv_astore_n (lv' := [(3, .ref q0), (0, .ref x), (1, .int (nI q)), (2, .int (nI (T.2 0 q)))]) hx hb dX3_firstWrong_8 rfl hl (by decide) rfl (fun ls hl => ?_)
  refine lv_iconst (v := 0) hx hb dX3_firstWrong_9 (by decide) ?_
  refine lv_istore (lv' := [(4, .int 0), (3, .ref q0), (0, .ref x), (1, .int (nI q)), (2, .int (nI (T.2 0 q)))]) hx hb dX3_firstWrong_10 hl (by decide) rfl (fun ls hl => ?_)
  exact loop T.1.2 0 0 ls _ _ (by omega) I rfl (lv_sub hl [0, 1, 2, 3, 4] rfl)

set_option maxRecDepth 100000 in
set_option maxHeartbeats 4000000 in
theorem k_X3_wrong (l : Launch) (g : zG) (hst : l.stackTraces = false) (S : zS) (T : zT) (x pl lo pt ty pa la : Nat) (ap ad ae : Nat → Nat) (hT : zt_ok T) (hF : FR g S T x pl lo pt ty pa la ap ad ae) (i : Int32) : zX l yX3_wrong cX3_wrong 2 (some .int) (zrm 8 3 14) g [.ref x, .int i] S (fun w S' => zc_wrong T i = 0 ∧ w = some (.int (zv_wrong T (zx i))) ∧ FR g S' T x pl lo pt ty pa la ap ad ae ∧ zk_ S S') (fun E S' => ((zc_wrong T i = 1 ∧ E = zn_IO) ∨ (zc_wrong T i = 2 ∧ E = zn_IS)) ∧ S' = S) := by
  refine zX_of (nm := "wrong") (by decide) rfl (Nat.le_of_ble_eq_true rfl) ?_
  intro p e s m args below meth c A ls C hr hlk hxt I hl
  have C : CallFix p m c cX3_wrong 2 s args zc_W RX3 := C
  have hx := C.1
  have hb := C.2.1
  have hl : lv_has ls 2 [(0, .ref x), (1, .int i)] := hl
  have hF0 := hF
  obtain ⟨⟨f1, f2, f3, f4, f5⟩, ⟨f6, f7, f8, f9, f10⟩, f11, f12, f13, f14, f15, f16, f17, f18, f19⟩ := hF
  obtain ⟨t1, t2, t3, t4, t5, t6, t7⟩ := hT
  refine lv_aload_n hx hb dX3_wrong_0 rfl (lv_at hl 0 rfl) ?_
  refine lv_iload_n hx hb dX3_wrong_1 rfl (lv_at hl 1 rfl) ?_
  refine lv_aload_n hx hb dX3_wrong_2 rfl (lv_at hl 0 rfl) ?_
  refine lv_iload_n hx hb dX3_wrong_3 rfl (lv_at hl 1 rfl) ?_
  refine zc_VX (n := 1) (rest := [.int i, .ref x]) C I f1 rfl rfl (k_X3_openedAt l g hst S x pl T.1.1 pa ap (T.2 2) i f1 f2 f11 (by omega) (fun k hk => (f15 k hk).2.2.2.2.1) (fun k => (t3 k).2.2.1)) zm_364 zm_365 zm_10 zm_16 zm_366 rfl hl.1 dX3_wrong_4 (by decide +kernel) rfl ⟨Nat.le_of_ble_eq_true rfl, Nat.le_of_ble_eq_true rfl⟩ (Nat.le_of_ble_eq_true rfl) ⟨Nat.le_of_ble_eq_true rfl, Nat.le_of_ble_eq_true rfl⟩ (fun E ce q9 S' H locs hq I h1 h2 h3 => ?_) (fun v S' H locs hq I => ?_)
  · obtain ⟨hE, eS⟩ := hq
    rw [eS] at I
    exact zr_out I hxt hlk (⟨hE.imp (fun h => ⟨if_pos h.2, h.1⟩) (fun h => ⟨by unfold zc_wrong; rw [if_neg h.2.1, if_pos h.2.2], h.1⟩), rfl⟩) h1 h2 h3 (Nat.le_of_ble_eq_true rfl) (Nat.le_of_ble_eq_true rfl)
  · obtain ⟨⟨hz, ho⟩, rfl, eS⟩ := hq
    rw [eS] at I
    have hj : zx i < T.1.1 := (zi_cases i (n := T.1.1) (by omega)).elim (fun h => absurd h hz) (fun h => h.2.1)
    obtain ⟨hz9, hj9, hi⟩ := (zi_cases i (n := T.1.1) (by omega)).elim (fun h => absurd h hz) id
    refine zn_Promise_seed (v := nI (T.2 0 (zx i))) (host := "DiceForge") C I (f11.2.2.2.2 _ hj).2 (by decide +kernel) ((f15 _ hj).2.2.1) dX3_wrong_7 ?_
    obtain ⟨q, hq0⟩ : ∃ q, q = zx i := ⟨_, rfl⟩
    have hiq : Value.int i = .int (nI (zx i)) := by rw [← hi]
    rw [hiq]
    refine zc_V (n := 2) (rest := []) C I f1 rfl rfl (k_X3_firstWrong l g hst S T x pl lo pt ty pa la ap ad ae ⟨t1, t2, t3, t4, t5, t6, t7⟩ hF0 (zx i) hj) zm_371 zm_372 zm_11 zm_16 zm_373 rfl hl.1 dX3_wrong_10 (by decide +kernel) rfl ⟨Nat.le_of_ble_eq_true rfl, Nat.le_of_ble_eq_true rfl⟩ (Nat.le_of_ble_eq_true rfl) ⟨Nat.le_of_ble_eq_true rfl, Nat.le_of_ble_eq_true rfl⟩ (fun v S' H locs hq I => ?_)
    obtain ⟨rfl, hF2, hk2⟩ := hq
    exact vx_ret (zr_iret C I hr hlk (⟨by unfold zc_wrong; rw [if_neg hz, if_neg ho], rfl, hF2, hk2⟩) (Nat.le_of_ble_eq_true rfl) (Nat.le_of_ble_eq_true rfl) dX3_wrong_13)

set_option maxRecDepth 100000 in
set_option maxHeartbeats 4000000 in
theorem k_X3_strikeFrom (l : Launch) (g : zG) (hst : l.stackTraces = false) (S : zS) (T : zT) (x pl lo pt ty pa la : Nat) (ap ad ae : Nat → Nat) (hT : zt_ok T) (hF : FR g S T x pl lo pt ty pa la ap ad ae) (q a : Nat) (hq1 : q < 16) (ha1 : a < T.1.2) : zM l yX3_strikeFrom cX3_strikeFrom 6 (some .int) (zrm 7 0 0) g [.ref x, .int (nI a), .int (nI q)] S (fun w S' => w = some (.int (nI (zt_own T q a T.1.2))) ∧ FR g S' (zs_strike T q a T.1.2) x pl lo pt ty pa la ap ad ae ∧ zk_ S S') := by
  refine zM_of (nm := "strikeFrom") (by decide) rfl (Nat.le_of_ble_eq_true rfl) ?_
  intro p e s m args below meth c A ls C hr hlk hin I hl
  have C : CallFix p m c cX3_strikeFrom 6 s args zc_W RX3 := C
  have hx := C.1
  have hb := C.2.1
  have hl : lv_has ls 6 [(0, .ref x), (1, .int (nI a)), (2, .int (nI q))] := hl
  have hF0 := hF
  obtain ⟨⟨f1, f2, f3, f4, f5⟩, ⟨f6, f7, f8, f9, f10⟩, f11, f12, f13, f14, f15, f16, f17, f18, f19⟩ := hF
  obtain ⟨t1, t2, t3, t4, t5, t6, t7⟩ := hT
  refine lv_iconst (v := 0) hx hb dX3_strikeFrom_0 (by decide) ?_
  refine lv_istore_n (lv' := [(3, .int 0), (0, .ref x), (1, .int (nI a)), (2, .int (nI q))]) hx hb dX3_strikeFrom_1 rfl hl (by decide) rfl (fun ls hl => ?_)
  refine lv_iload_n hx hb dX3_strikeFrom_2 rfl (lv_at hl 2 rfl) ?_
  refine lv_iconst (v := 0) hx hb dX3_strikeFrom_3 (by decide) ?_
  refine zr_max C zm_381 zm_207 zm_28 zm_208 hl.1 (Nat.le_of_ble_eq_true rfl) (Nat.le_of_ble_eq_true rfl) (Nat.le_of_ble_eq_true rfl) (Nat.le_of_ble_eq_true rfl) dX3_strikeFrom_4 ?_
  refine zr_top (y := nI a) (show (if nI a < nI 0 then nI 0 else nI a) = nI a from if_neg (fun h => absurd ((nI_ltI (a := a) (b := 0) (by omega) (by omega)).mp h) (by omega))) ?_
  have loop : ∀ (n k : Nat) (S1 : zS) (ls : Array Slot) (H : Heap) (locs : List Loc), k + n = T.1.2 → a ≤ k → zh_V g A s [] S1 H locs → FR g S1 (zs_strike T q a k) x pl lo pt ty pa la ap ad ae → zk_ S S1 → lv_has ls 6 [(4, .int (nI k)), (3, .int (nI (zt_own T q a k))), (0, .ref x), (1, .int (nI a)), (2, .int (nI q))] → W p l e (zrm 7 0 0) s m args below meth c H locs 0 0 (MQ below (zh_Po g A (fun w S' => w = some (.int (nI (zt_own T q a T.1.2))) ∧ FR g S' (zs_strike T q a T.1.2) x pl lo pt ty pa la ap ad ae ∧ zk_ S S')) args s (zrm 7 0 0).cells (zrm 7 0 0).slots A) (F0 m 9 ls []) := by
    intro n
    induction n with
    | zero =>
      intro k S1 ls H locs hn hak I hFk hkk hl
      have hown := zt_own_le T q a k
      have hFk0 := hFk
      obtain ⟨⟨f1, f2, f3, f4, f5⟩, ⟨f6, f7, f8, f9, f10⟩, f11, f12, f13, f14, f15, f16, f17, f18, f19⟩ := hFk
      refine lv_iload hx hb dX3_strikeFrom_9 (lv_at hl 0 rfl) ?_
      refine lv_aload_n hx hb dX3_strikeFrom_11 rfl (lv_at hl 2 rfl) ?_
      refine zg_Forge_log (v := lo) C I f1 zm_69 (f3) dX3_strikeFrom_12 ?_
      refine zc_V (n := 0) (rest := [.int (nI k)]) C I f12.1 rfl rfl (k_Jx4a65c_size_8abf5 l g S1 lo T.1.2 f12.1 f12.2.1) zm_144 zm_145 zm_146 zm_19 zm_147 rfl hl.1 dX3_strikeFrom_15 (by decide +kernel) rfl ⟨Nat.le_of_ble_eq_true rfl, Nat.le_of_ble_eq_true rfl⟩ (Nat.le_of_ble_eq_true rfl) ⟨Nat.le_of_ble_eq_true rfl, Nat.le_of_ble_eq_true rfl⟩ (fun v S' H locs hq I => ?_)
      obtain ⟨rfl, eS⟩ := hq
      rw [eS] at I
      refine lv_icmp_ge (tgt := 59) hx hb dX3_strikeFrom_18 (by decide) (fun _ => ?_) (fun h9 => absurd ((nI_leI (a := T.1.2) (b := k) (by omega) (by omega)).mpr (by omega)) h9)
      refine lv_iload_n hx hb dX3_strikeFrom_59 rfl (lv_at hl 1 rfl) ?_
      have hk : k = T.1.2 := by omega
      subst hk
      exact zr_iret C I hr hlk (⟨rfl, hFk0, hkk⟩) (Nat.le_of_ble_eq_true rfl) (Nat.le_of_ble_eq_true rfl) dX3_strikeFrom_60
    | succ n ih =>
      intro k S1 ls H locs hn hak I hFk hkk hl
      have hown := zt_own_le T q a k
      have hFk0 := hFk
      obtain ⟨⟨f1, f2, f3, f4, f5⟩, ⟨f6, f7, f8, f9, f10⟩, f11, f12, f13, f14, f15, f16, f17, f18, f19⟩ := hFk
      refine lv_iload hx hb dX3_strikeFrom_9 (lv_at hl 0 rfl) ?_
      refine lv_aload_n hx hb dX3_strikeFrom_11 rfl (lv_at hl 2 rfl) ?_
      refine zg_Forge_log (v := lo) C I f1 zm_69 (f3) dX3_strikeFrom_12 ?_
      refine zc_V (n := 0) (rest := [.int (nI k)]) C I f12.1 rfl rfl (k_Jx4a65c_size_8abf5 l g S1 lo T.1.2 f12.1 f12.2.1) zm_144 zm_145 zm_146 zm_19 zm_147 rfl hl.1 dX3_strikeFrom_15 (by decide +kernel) rfl ⟨Nat.le_of_ble_eq_true rfl, Nat.le_of_ble_eq_true rfl⟩ (Nat.le_of_ble_eq_true rfl) ⟨Nat.le_of_ble_eq_true rfl, Nat.le_of_ble_eq_true rfl⟩ (fun v S' H locs hq I => ?_)
      obtain ⟨rfl, eS⟩ := hq
      rw [eS] at I
      have hk : k < T.1.2 := by omega
      obtain ⟨h3, h4, h5, h6⟩ : zh_at S1 8 la ∧ T.1.2 ≤ zh_N S1 la ∧ 10 ≤ zh_N S1 la ∧ zh_N S1 la ≤ 150 := f12.2.2.2.1.elim (fun h => absurd h.1 (show ¬ T.1.2 = 0 by omega)) id
      refine lv_icmp_ge (tgt := 59) hx hb dX3_strikeFrom_18 (by decide) (fun h9 => absurd h9 (fun h8 => absurd ((nI_leI (a := T.1.2) (b := k) (by omega) (by omega)).mp h8) (by omega))) (fun _ => ?_)
      refine lv_aload_n hx hb dX3_strikeFrom_21 rfl (lv_at hl 2 rfl) ?_
      refine zg_Forge_log (v := lo) C I f1 zm_69 (f3) dX3_strikeFrom_22 ?_
      refine lv_iload hx hb dX3_strikeFrom_25 (lv_at hl 0 rfl) ?_
      refine zc_V (n := 1) (rest := []) C I f12.1 rfl rfl (k_Jx4a65c_get_915e3 l g S1 lo T.1.2 la k (ae k) f12.1 f12.2.1 f12.2.2.1 h3 h4 (by omega) hk (f12.2.2.2.2 k hk).1) zm_283 zm_284 zm_285 zm_19 zm_286 rfl hl.1 dX3_strikeFrom_27 (by decide +kernel) rfl ⟨Nat.le_of_ble_eq_true rfl, Nat.le_of_ble_eq_true rfl⟩ (Nat.le_of_ble_eq_true rfl) ⟨Nat.le_of_ble_eq_true rfl, Nat.le_of_ble_eq_true rfl⟩ (fun v S' H locs hq I => ?_)
      obtain ⟨rfl, eS⟩ := hq
      rw [eS] at I
      have h5k := t5 _ hk
      refine zr_cast C I (f12.2.2.2.2 k hk).2 rfl rfl zm_304 dX3_strikeFrom_30 ?_
      refine lv_astore (lv' := [(5, .ref (ae k)), (4, .int (nI k)), (3, .int (nI (zt_own T q a k))), (0, .ref x), (1, .int (nI a)), (2, .int (nI q))]) hx hb dX3_strikeFrom_33 hl (by decide) rfl (fun ls hl => ?_)
      refine lv_aload hx hb dX3_strikeFrom_35 (lv_at hl 0 rfl) ?_
      refine zn_Entry_promise (v := nI (T.2 5 k)) (host := "DiceForge") C I (f12.2.2.2.2 k hk).2 (by decide +kernel) ((f16 k hk 0 (by decide)).trans (by rw [zs_strike_j _ _ _ _ _ (by decide)])) dX3_strikeFrom_37 ?_
      refine lv_iload_n hx hb dX3_strikeFrom_40 rfl (lv_at hl 5 rfl) ?_
      refine lv_icmp_ne (tgt := 53) hx hb dX3_strikeFrom_41 (by decide) (fun c41 => ?_) (fun c41 => ?_)
      · have c41 : ¬ (T.2 5 k) = q := fun h9 => c41 ((nI_eq (a := T.2 5 k) (b := q) (by omega) (by omega)).mpr h9)
        refine lv_iinc (v := nI (k + 1)) (lv' := [(4, .int (nI (k + 1))), (5, .ref (ae k)), (3, .int (nI (zt_own T q a k))), (0, .ref x), (1, .int (nI a)), (2, .int (nI q))]) hx hb dX3_strikeFrom_53 hl (k := 1) rfl (nI_add k 1) (by decide) rfl (fun ls hl => ?_)
        refine lv_goto (tgt := 9) hx hb dX3_strikeFrom_56 (by decide) ?_
        have e9 : zt_own T q a (k + 1) = zt_own T q a k := by show _ + (if _ then 1 else 0) = _; rw [if_neg (fun h => c41 h.1)]; rfl
        have hl := lv_sub (l' := [(4, .int (nI (k + 1))), (3, .int (nI (zt_own T q a k))), (0, .ref x), (1, .int (nI a)), (2, .int (nI q))]) hl [0, 2, 3, 4, 5] rfl
        rw [← e9] at hl
        exact ih (k + 1) S1 ls H locs (by omega) (by omega) I (zs_strike_n T (fun h => c41 h.1) ▸ hFk0) hkk hl
      · have c41 : (T.2 5 k) = q := (nI_eq (a := T.2 5 k) (b := q) (by omega) (by omega)).mp c41
        refine lv_aload hx hb dX3_strikeFrom_44 (lv_at hl 0 rfl) ?_
        refine lv_iconst (v := 1) hx hb dX3_strikeFrom_46 (by decide) ?_
        refine zq_Entry_struck (host := "DiceForge") C I (f12.2.2.2.2 k hk).2 (by decide +kernel) (Or.inr rfl) dX3_strikeFrom_47 (fun H locs I => ?_)
        have hF2 := FR_ent hFk0 (f := 7) (k := k) (y := 1) hk (by decide)
        have e8 : zt_s (zs_strike T q a k) (5 + 7) k 1 = zs_strike T q a (k + 1) := zs_strike_s T c41 hak
        rw [e8] at hF2
        refine lv_iinc (v := nI ((zt_own T q a k) + 1)) (lv' := [(3, .int (nI ((zt_own T q a k) + 1))), (5, .ref (ae k)), (4, .int (nI k)), (0, .ref x), (1, .int (nI a)), (2, .int (nI q))]) hx hb dX3_strikeFrom_50 hl (k := 2) rfl (nI_add (zt_own T q a k) 1) (by decide) rfl (fun ls hl => ?_)
        refine lv_iinc (v := nI (k + 1)) (lv' := [(4, .int (nI (k + 1))), (3, .int (nI ((zt_own T q a k) + 1))), (5, .ref (ae k)), (0, .ref x), (1, .int (nI a)), (2, .int (nI q))]) hx hb dX3_strikeFrom_53 hl (k := 2) rfl (nI_add k 1) (by decide) rfl (fun ls hl => ?_)
        refine lv_goto (tgt := 9) hx hb dX3_strikeFrom_56 (by decide) ?_
        have e9 : zt_own T q a (k + 1) = zt_own T q a k + 1 := by show _ + (if _ then 1 else 0) = _; rw [if_pos ⟨c41, hak⟩]
        have hl := lv_sub (l' := [(4, .int (nI (k + 1))), (3, .int (nI ((zt_own T q a k) + 1))), (0, .ref x), (1, .int (nI a)), (2, .int (nI q))]) hl [0, 1, 3, 4, 5] rfl
        rw [← e9] at hl
        exact ih (k + 1) (zh_sI S1 (2 + 7) (ae k) (nI 1)) ls H locs (by omega) (by omega) I (hF2) hkk hl
  refine lv_istore (lv' := [(4, .int (nI a)), (3, .int 0), (0, .ref x), (1, .int (nI a)), (2, .int (nI q))]) hx hb dX3_strikeFrom_7 hl (by decide) rfl (fun ls hl => ?_)
  have e0 := zt_own_lo T q a a (Nat.le_refl _)
  have e1 := zs_strike_0 T q a a (Nat.le_refl _)
  have hl := lv_sub (l' := [(4, .int (nI a)), (3, .int 0), (0, .ref x), (1, .int (nI a)), (2, .int (nI q))]) hl [0, 1, 2, 3, 4] rfl
  have hl : lv_has ls 6 [(4, .int (nI a)), (3, .int (nI (zt_own T q a a))), (0, .ref x), (1, .int (nI a)), (2, .int (nI q))] := by rw [e0]; exact hl
  exact loop (T.1.2 - a) a S ls _ _ (by omega) (Nat.le_refl _) I (e1.symm ▸ hF0) (zk_rf S) hl
end
section
/-! found, dispute -/

set_option maxRecDepth 100000 in
set_option maxHeartbeats 4000000 in
theorem k_X3_found (l : Launch) (g : zG) (hst : l.stackTraces = false) (S : zS) (T : zT) (x pl lo pt ty pa la : Nat) (ap ad ae : Nat → Nat) (hT : zt_ok T) (hF : FR g S T x pl lo pt ty pa la ap ad ae) (i : Int32) : zX l yX3_found cX3_found 7 (some .int) (zrm 8 4 20) g [.ref x, .int i] S (fun w S' => zc_found T i = 0 ∧ w = some (.int (nI (zt_fd T (T.2 5 (zx i)) (zx i)))) ∧ FR g S' T x pl lo pt ty pa la ap ad ae ∧ zk_ S S') (fun E S' => ((zc_found T i = 1 ∧ E = zn_IO) ∨ (zc_found T i = 2 ∧ E = zn_IS)) ∧ FR g S' T x pl lo pt ty pa la ap ad ae ∧ zk_ S S') := by
  refine zX_of (nm := "found") (by decide) rfl (Nat.le_of_ble_eq_true rfl) ?_
  intro p e s m args below meth c A ls C hr hlk hxt I hl
  have C : CallFix p m c cX3_found 7 s args zc_W RX3 := C
  have hx := C.1
  have hb := C.2.1
  have hl : lv_has ls 7 [(0, .ref x), (1, .int i)] := hl
  have hF0 := hF
  obtain ⟨⟨f1, f2, f3, f4, f5⟩, ⟨f6, f7, f8, f9, f10⟩, f11, f12, f13, f14, f15, f16, f17, f18, f19⟩ := hF
  obtain ⟨t1, t2, t3, t4, t5, t6, t7⟩ := hT
  have t3a := t3
  rcases zi_cases i (n := T.1.2) (by omega) with hbd | ⟨hbd, hj0, hi0⟩
  · refine lv_aload_n hx hb dX3_found_0 rfl (lv_at hl 0 rfl) ?_
    refine lv_iload_n hx hb dX3_found_1 rfl (lv_at hl 1 rfl) ?_
    refine zc_VX (n := 1) (rest := []) C I f1 rfl rfl (k_X3_entryAt l g hst S x lo T.1.2 la ae i f1 f3 f12 t2) zm_353 zm_354 zm_9 zm_16 zm_355 rfl hl.1 dX3_found_2 (by decide +kernel) rfl ⟨Nat.le_of_ble_eq_true rfl, Nat.le_of_ble_eq_true rfl⟩ (Nat.le_of_ble_eq_true rfl) ⟨Nat.le_of_ble_eq_true rfl, Nat.le_of_ble_eq_true rfl⟩ (fun E ce q9 S' H locs hq I h1 h2 h3 => ?_) (fun v S' H locs hq I => ?_)
    · obtain ⟨hE, hz, eS⟩ := hq
      rw [eS] at I
      exact zr_out I hxt hlk (⟨Or.inl ⟨if_pos hz, hE⟩, hF0, zk_rf S⟩) h1 h2 h3 (Nat.le_of_ble_eq_true rfl) (Nat.le_of_ble_eq_true rfl)
    · exact absurd hbd hq.1
  · obtain ⟨j, hj, rfl⟩ : ∃ j : Nat, j < T.1.2 ∧ i = nI j := ⟨_, hj0, hi0⟩
    clear hj0 hi0
    have hjz : zx (nI j) = j := zx_nI (by omega)
    rw [hjz]
    refine lv_aload_n hx hb dX3_found_0 rfl (lv_at hl 0 rfl) ?_
    refine lv_iload_n hx hb dX3_found_1 rfl (lv_at hl 1 rfl) ?_
    refine zc_VX (n := 1) (rest := []) C I f1 rfl rfl (k_X3_entryAt l g hst S x lo T.1.2 la ae (nI j) f1 f3 f12 t2) zm_353 zm_354 zm_9 zm_16 zm_355 rfl hl.1 dX3_found_2 (by decide +kernel) rfl ⟨Nat.le_of_ble_eq_true rfl, Nat.le_of_ble_eq_true rfl⟩ (Nat.le_of_ble_eq_true rfl) ⟨Nat.le_of_ble_eq_true rfl, Nat.le_of_ble_eq_true rfl⟩ (fun E ce q9 S' H locs hq I h1 h2 h3 => ?_) (fun v S' H locs hq I => ?_)
    · exact absurd hq.2.1 hbd
    · obtain ⟨hz, rfl, eS⟩ := hq
      rw [eS] at I
      rw [hjz]
      have h5j := t5 _ hj
      obtain ⟨q, hq5⟩ : ∃ q, q = T.2 5 j := ⟨_, rfl⟩
      have hqn : q < T.1.1 := by omega
      rw [← hq5]
      refine zn_Entry_promise (v := nI q) (host := "DiceForge") C I (f12.2.2.2.2 _ hj).2 (by decide +kernel) ((f16 _ hj 0 (by decide)).trans (by rw [hq5])) dX3_found_5 ?_
      refine lv_istore_n (lv' := [(2, .int (nI q)), (0, .ref x), (1, .int (nI j))]) hx hb dX3_found_8 rfl hl (by decide) rfl (fun ls hl => ?_)
      refine zw_Draws C I zm_363 zm_168 zm_26 (Nat.le_of_ble_eq_true rfl) (Nat.le_of_ble_eq_true rfl) dX3_found_9 (fun q9 H hq9 I => ?_)
      refine lv_dup hx hb dX3_found_12 rfl ?_
      refine lv_aload_n hx hb dX3_found_13 rfl (lv_at hl 1 rfl) ?_
      refine lv_iload_n hx hb dX3_found_14 rfl (lv_at hl 0 rfl) ?_
      have hF1 := FR_nO hF0 hq9 (k0 := 0) (by decide)
      obtain ⟨⟨f1, f2, f3, f4, f5⟩, ⟨f6, f7, f8, f9, f10⟩, f11, f12, f13, f14, f15, f16, f17, f18, f19⟩ := id hF1
      have hqz : zx (nI q) = q := zx_nI (by omega)
      refine zc_VX (n := 1) (rest := [.ref q9, .ref q9]) C I f1 rfl rfl (k_X3_openedAt l g hst (zh_nO S q9 0) x pl T.1.1 pa ap (T.2 2) (nI q) f1 f2 f11 (by omega) (fun k hk => (f15 k hk).2.2.2.2.1) (fun k => (t3 k).2.2.1)) zm_364 zm_365 zm_10 zm_16 zm_366 rfl hl.1 dX3_found_15 (by decide +kernel) rfl ⟨Nat.le_of_ble_eq_true rfl, Nat.le_of_ble_eq_true rfl⟩ (Nat.le_of_ble_eq_true rfl) ⟨Nat.le_of_ble_eq_true rfl, Nat.le_of_ble_eq_true rfl⟩ (fun E ce q9 S' H locs hq I h1 h2 h3 => ?_) (fun v S' H locs hq I => ?_)
      · obtain ⟨hE, eS⟩ := hq
        rw [eS] at I
        exact zr_out I hxt hlk (⟨hE.imp (fun h => absurd h.2 (zi_no hqn (by omega))) (fun h => ⟨by have h9 := h.2.2; rw [hqz] at h9; unfold zc_found; rw [if_neg hbd, hjz, ← hq5, if_pos h9], h.1⟩), hF1, zk_nO hq9⟩) h1 h2 h3 (Nat.le_of_ble_eq_true rfl) (Nat.le_of_ble_eq_true rfl)
      · obtain ⟨⟨hz1, ho⟩, rfl, eS⟩ := hq
        rw [eS] at I
        rw [hqz]
        rw [hqz] at ho
        refine zn_Promise_seed (v := nI (T.2 0 q)) (host := "DiceForge") C I (f11.2.2.2.2 _ hqn).2 (by decide +kernel) ((f15 _ hqn).2.2.1) dX3_found_18 ?_
        refine zc_IN (host := "DiceForge") (n := 1) (rest := [.ref q9]) C I (k_X0_init l g (zh_nO S q9 0) q9 (nI (T.2 0 q)) zh_at_new) (by decide +kernel) zm_169 zm_26 zm_170 rfl rfl hl.1 dX3_found_21 (by decide +kernel) rfl ⟨Nat.le_of_ble_eq_true rfl, Nat.le_of_ble_eq_true rfl⟩ (Nat.le_of_ble_eq_true rfl) ⟨Nat.le_of_ble_eq_true rfl, Nat.le_of_ble_eq_true rfl⟩ (fun v S' H locs hq I => ?_)
        obtain ⟨rfl, eS⟩ := hq
        rw [eS, zD_init] at I
        have loop : ∀ (n k r : Nat) (vv : Int32) (ls : Array Slot) (H : Heap) (locs : List Loc), k + n = j + 1 → (k = j + 1 → vv = nI (zt_fd T q j)) → zh_V g A s [] (zD (zh_nO S q9 0) q9 (zt_ag T q k) r) H locs → lv_has ls 7 [(5, .int (nI k)), (4, .int vv), (3, .ref q9), (2, .int (nI q)), (0, .ref x), (1, .int (nI j))] → W p l e (zrm 8 4 20) s m args below meth c H locs (0 + (zrm 6 1 6).cells + 1 + (zrm 7 2 12).cells + (zrm 1 0 0).cells) (0 + (zrm 6 1 6).slots + 2 + (zrm 7 2 12).slots + (zrm 1 0 0).slots) (vx_MQ below (zh_Po g A (fun w S' => zc_found T (nI j) = 0 ∧ w = some (.int (nI (zt_fd T q j))) ∧ FR g S' T x pl lo pt ty pa la ap ad ae ∧ zk_ S S')) (zh_Px g A (fun E S' => ((zc_found T (nI j) = 1 ∧ E = zn_IO) ∨ (zc_found T (nI j) = 2 ∧ E = zn_IS)) ∧ FR g S' T x pl lo pt ty pa la ap ad ae ∧ zk_ S S')) args s (zrm 8 4 20).cells (zrm 8 4 20).slots A) (F0 m 31 ls []) := by
          intro n
          induction n with
          | zero =>
            intro k r vv ls H locs hn hvv I hl
            have hFk := FR_new hF0 hq9 (zt_ag T q k) r
            obtain ⟨⟨f1, f2, f3, f4, f5⟩, ⟨f6, f7, f8, f9, f10⟩, f11, f12, f13, f14, f15, f16, f17, f18, f19⟩ := id hFk
            refine lv_iload hx hb dX3_found_31 (lv_at hl 0 rfl) ?_
            refine lv_iload_n hx hb dX3_found_33 rfl (lv_at hl 5 rfl) ?_
            refine lv_icmp_gt (tgt := 94) hx hb dX3_found_34 (by decide) (fun _ => ?_) (fun h9 => absurd ((nI_ltI (a := j) (b := k) (by omega) (by omega)).mpr (by omega)) h9)
            refine lv_iload hx hb dX3_found_94 (lv_at hl 1 rfl) ?_
            exact vx_ret (zr_iret C I hr hlk (⟨by unfold zc_found; rw [if_neg hbd, hjz, ← hq5, if_neg ho], by rw [hvv (by omega)], hFk, zk_new hq9⟩) (Nat.le_of_ble_eq_true rfl) (Nat.le_of_ble_eq_true rfl) dX3_found_96)
          | succ n ih =>
            intro k r vv ls H locs hn hvv I hl
            have hFk := FR_new hF0 hq9 (zt_ag T q k) r
            obtain ⟨⟨f1, f2, f3, f4, f5⟩, ⟨f6, f7, f8, f9, f10⟩, f11, f12, f13, f14, f15, f16, f17, f18, f19⟩ := id hFk
            have hk : k < T.1.2 := by omega
            refine lv_iload hx hb dX3_found_31 (lv_at hl 0 rfl) ?_
            refine lv_iload_n hx hb dX3_found_33 rfl (lv_at hl 5 rfl) ?_
            refine lv_icmp_gt (tgt := 94) hx hb dX3_found_34 (by decide) (fun h9 => absurd h9 (fun h8 => absurd ((nI_ltI (a := j) (b := k) (by omega) (by omega)).mp h8) (by omega))) (fun _ => ?_)
            refine lv_iload hx hb dX3_found_37 (lv_at hl 0 rfl) ?_
            refine lv_aload_n hx hb dX3_found_39 rfl (lv_at hl 4 rfl) ?_
            refine zg_Forge_log (v := lo) C I f1 zm_69 (f3) dX3_found_40 ?_
            refine zc_V (n := 0) (rest := [.int (nI k)]) C I f12.1 rfl rfl (k_Jx4a65c_size_8abf5 l g (zD (zh_nO S q9 0) q9 (zt_ag T q k) r) lo T.1.2 f12.1 f12.2.1) zm_144 zm_145 zm_146 zm_19 zm_147 rfl hl.1 dX3_found_43 (by decide +kernel) rfl ⟨Nat.le_of_ble_eq_true rfl, Nat.le_of_ble_eq_true rfl⟩ (Nat.le_of_ble_eq_true rfl) ⟨Nat.le_of_ble_eq_true rfl, Nat.le_of_ble_eq_true rfl⟩ (fun v S' H locs hq I => ?_)
            obtain ⟨rfl, eS⟩ := hq
            rw [eS] at I
            obtain ⟨h3, h4, h5, h6⟩ : zh_at (zD (zh_nO S q9 0) q9 (zt_ag T q k) r) 8 la ∧ T.1.2 ≤ zh_N (zD (zh_nO S q9 0) q9 (zt_ag T q k) r) la ∧ 10 ≤ zh_N (zD (zh_nO S q9 0) q9 (zt_ag T q k) r) la ∧ zh_N (zD (zh_nO S q9 0) q9 (zt_ag T q k) r) la ≤ 150 := f12.2.2.2.1.elim (fun h => absurd h.1 (show ¬ T.1.2 = 0 by omega)) id
            refine lv_icmp_ge (tgt := 94) hx hb dX3_found_46 (by decide) (fun h9 => absurd h9 (fun h8 => absurd ((nI_leI (a := T.1.2) (b := k) (by omega) (by omega)).mp h8) (by omega))) (fun _ => ?_)
            refine lv_aload_n hx hb dX3_found_49 rfl (lv_at hl 4 rfl) ?_
            refine zg_Forge_log (v := lo) C I f1 zm_69 (f3) dX3_found_50 ?_
            refine lv_iload hx hb dX3_found_53 (lv_at hl 0 rfl) ?_
            refine zc_V (n := 1) (rest := []) C I f12.1 rfl rfl (k_Jx4a65c_get_915e3 l g (zD (zh_nO S q9 0) q9 (zt_ag T q k) r) lo T.1.2 la k (ae k) f12.1 f12.2.1 f12.2.2.1 h3 h4 (by omega) hk (f12.2.2.2.2 _ hk).1) zm_283 zm_284 zm_285 zm_19 zm_286 rfl hl.1 dX3_found_55 (by decide +kernel) rfl ⟨Nat.le_of_ble_eq_true rfl, Nat.le_of_ble_eq_true rfl⟩ (Nat.le_of_ble_eq_true rfl) ⟨Nat.le_of_ble_eq_true rfl, Nat.le_of_ble_eq_true rfl⟩ (fun v S' H locs hq I => ?_)
            obtain ⟨rfl, eS⟩ := hq
            rw [eS] at I
            have h5k := t5 _ hk
            refine zr_cast C I (f12.2.2.2.2 _ hk).2 rfl rfl zm_304 dX3_found_58 ?_
            refine lv_astore (lv' := [(6, .ref (ae k)), (5, .int (nI k)), (4, .int vv), (3, .ref q9), (2, .int (nI q)), (0, .ref x), (1, .int (nI j))]) hx hb dX3_found_61 hl (by decide) rfl (fun ls hl => ?_)
            refine lv_aload hx hb dX3_found_63 (lv_at hl 0 rfl) ?_
            refine zn_Entry_promise (v := nI (T.2 5 k)) (host := "DiceForge") C I (f12.2.2.2.2 _ hk).2 (by decide +kernel) (f16 _ hk 0 (by decide)) dX3_found_65 ?_
            refine lv_iload_n hx hb dX3_found_68 rfl (lv_at hl 4 rfl) ?_
            refine lv_icmp_ne (tgt := 88) hx hb dX3_found_69 (by decide) (fun c69 => ?_) (fun c69 => ?_)
            · have c69 : ¬ (T.2 5 k) = q := fun h9 => c69 ((nI_eq (a := T.2 5 k) (b := q) (by omega) (by omega)).mpr h9)
              refine lv_iinc (v := nI (k + 1)) (lv' := [(5, .int (nI (k + 1))), (6, .ref (ae k)), (4, .int vv), (3, .ref q9), (2, .int (nI q)), (0, .ref x), (1, .int (nI j))]) hx hb dX3_found_88 hl (k := 1) rfl (nI_add k 1) (by decide) rfl (fun ls hl => ?_)
              refine lv_goto (tgt := 31) hx hb dX3_found_91 (by decide) ?_
              have hl := lv_sub (l' := [(5, .int (nI (k + 1))), (4, .int vv), (3, .ref q9), (2, .int (nI q)), (0, .ref x), (1, .int (nI j))]) hl [0, 2, 3, 4, 5, 6] rfl
              have e9 : zt_ag T q (k + 1) = zt_ag T q k := if_neg c69
              rw [← e9] at I
              exact ih (k + 1) r vv ls H locs (by omega) (fun h => absurd (show T.2 5 k = q by rw [show k = j by omega]; exact hq5.symm) c69) I hl
            · have c69 : (T.2 5 k) = q := (nI_eq (a := T.2 5 k) (b := q) (by omega) (by omega)).mp c69
              refine lv_aload_n hx hb dX3_found_72 rfl (lv_at hl 3 rfl) ?_
              refine lv_aload hx hb dX3_found_73 (lv_at hl 0 rfl) ?_
              refine zn_Entry_part (v := nI (T.2 7 k)) (host := "DiceForge") C I (f12.2.2.2.2 _ hk).2 (by decide +kernel) (f16 _ hk 2 (by decide)) dX3_found_75 ?_
              refine lv_aload hx hb dX3_found_78 (lv_at hl 0 rfl) ?_
              refine zn_Entry_faces (v := nI (T.2 8 k)) (host := "DiceForge") C I (f12.2.2.2.2 _ hk).2 (by decide +kernel) (f16 _ hk 3 (by decide)) dX3_found_80 ?_
              have hag := zt_ag_lt (T := T) (fun k => (t3a k).1) q k
              refine zc_VN (host := "DiceForge") (n := 2) (rest := []) C I (show zh_at (zD (zh_nO S q9 0) q9 (zt_ag T q k) r) 0 q9 from zh_at_new) rfl rfl (k_X0_nextValue l g (zD (zh_nO S q9 0) q9 (zt_ag T q k) r) q9 (zt_ag T q k) (T.2 7 k) (T.2 8 k) zh_at_new (zD_0 _ _ _ _) hag (by omega) (by omega) (by omega)) (by decide +kernel) zm_333 zm_5 zm_26 zm_334 rfl hl.1 dX3_found_83 (by decide +kernel) rfl ⟨Nat.le_of_ble_eq_true rfl, Nat.le_of_ble_eq_true rfl⟩ (Nat.le_of_ble_eq_true rfl) ⟨Nat.le_of_ble_eq_true rfl, Nat.le_of_ble_eq_true rfl⟩ (fun v S' H locs hq I => ?_)
              obtain ⟨rfl, eS⟩ := hq
              rw [eS] at I
              rw [zD_zD] at I
              refine lv_istore (lv' := [(4, .int (nI (zt_fd T q k))), (6, .ref (ae k)), (5, .int (nI k)), (3, .ref q9), (2, .int (nI q)), (0, .ref x), (1, .int (nI j))]) hx hb dX3_found_86 hl (by decide) rfl (fun ls hl => ?_)
              refine lv_iinc (v := nI (k + 1)) (lv' := [(5, .int (nI (k + 1))), (4, .int (nI (zt_fd T q k))), (6, .ref (ae k)), (3, .ref q9), (2, .int (nI q)), (0, .ref x), (1, .int (nI j))]) hx hb dX3_found_88 hl (k := 2) rfl (nI_add k 1) (by decide) rfl (fun ls hl => ?_)
              refine lv_goto (tgt := 31) hx hb dX3_found_91 (by decide) ?_
              have hl := lv_sub (l' := [(5, .int (nI (k + 1))), (4, .int (nI (zt_fd T q k))), (3, .ref q9), (2, .int (nI q)), (0, .ref x), (1, .int (nI j))]) hl [0, 1, 3, 4, 5, 6] rfl
              have e9 : zt_ag T q (k + 1) = (zd_roll (zt_ag T q k) (T.2 7 k) (T.2 8 k)).1 := if_pos c69
              rw [← e9] at I
              exact ih (k + 1) ((zd_roll (zt_ag T q k) (T.2 7 k) (T.2 8 k)).2) (nI (zt_fd T q k)) ls H locs (by omega) (fun h => by rw [show k = j by omega]) I hl
        refine lv_astore_n (lv' := [(3, .ref q9), (2, .int (nI q)), (0, .ref x), (1, .int (nI j))]) hx hb dX3_found_24 rfl hl (by decide) rfl (fun ls hl => ?_)
        refine lv_iconst (v := (-1)) hx hb dX3_found_25 (by decide) ?_
        refine lv_istore (lv' := [(4, .int (-1)), (3, .ref q9), (2, .int (nI q)), (0, .ref x), (1, .int (nI j))]) hx hb dX3_found_26 hl (by decide) rfl (fun ls hl => ?_)
        refine lv_iconst (v := 0) hx hb dX3_found_28 (by decide) ?_
        refine lv_istore (lv' := [(5, .int 0), (4, .int (-1)), (3, .ref q9), (2, .int (nI q)), (0, .ref x), (1, .int (nI j))]) hx hb dX3_found_29 hl (by decide) rfl (fun ls hl => ?_)
        exact loop (j + 1) 0 0 (-1) ls _ _ (by omega) (fun h => absurd h (by omega)) I (lv_sub hl [0, 1, 2, 3, 4, 5] rfl)

set_option maxRecDepth 100000 in
set_option maxHeartbeats 4000000 in
theorem k_X3_dispute (l : Launch) (g : zG) (hst : l.stackTraces = false) (S : zS) (T : zT) (x pl lo pt ty pa la : Nat) (ap ad ae : Nat → Nat) (hT : zt_ok T) (hF : FR g S T x pl lo pt ty pa la ap ad ae) (i : Int32) : zX l yX3_dispute cX3_dispute 4 (some .int) (zrm 8 4 20) g [.ref x, .int i] S (fun w S' => zc_disp T i = 0 ∧ w = some (.int (nI (zv_disp T (zx i)))) ∧ FR g S' (zs_disp T i) x pl lo pt ty pa la ap ad ae ∧ zk_ S S') (fun E S' => ((zc_disp T i = 1 ∧ E = zn_IO) ∨ (zc_disp T i = 2 ∧ E = zn_IS)) ∧ S' = S) := by
  refine zX_of (nm := "dispute") (by decide) rfl (Nat.le_of_ble_eq_true rfl) ?_
  intro p e s m args below meth c A ls C hr hlk hxt I hl
  have C : CallFix p m c cX3_dispute 4 s args zc_W RX3 := C
  have hx := C.1
  have hb := C.2.1
  have hl : lv_has ls 4 [(0, .ref x), (1, .int i)] := hl
  have hF0 := hF
  obtain ⟨⟨f1, f2, f3, f4, f5⟩, ⟨f6, f7, f8, f9, f10⟩, f11, f12, f13, f14, f15, f16, f17, f18, f19⟩ := hF
  obtain ⟨t1, t2, t3, t4, t5, t6, t7⟩ := hT
  have hT0 : zt_ok T := ⟨t1, t2, t3, t4, t5, t6, t7⟩
  refine lv_aload_n hx hb dX3_dispute_0 rfl (lv_at hl 0 rfl) ?_
  refine lv_iload_n hx hb dX3_dispute_1 rfl (lv_at hl 1 rfl) ?_
  refine zc_VX (n := 1) (rest := []) C I f1 rfl rfl (k_X3_openedAt l g hst S x pl T.1.1 pa ap (T.2 2) i f1 f2 f11 (by omega) (fun k hk => (f15 k hk).2.2.2.2.1) (fun k => (t3 k).2.2.1)) zm_364 zm_365 zm_10 zm_16 zm_366 rfl hl.1 dX3_dispute_2 (by decide +kernel) rfl ⟨Nat.le_of_ble_eq_true rfl, Nat.le_of_ble_eq_true rfl⟩ (Nat.le_of_ble_eq_true rfl) ⟨Nat.le_of_ble_eq_true rfl, Nat.le_of_ble_eq_true rfl⟩ (fun E ce q9 S' H locs hq I h1 h2 h3 => ?_) (fun v S' H locs hq I => ?_)
  · obtain ⟨hE, eS⟩ := hq
    rw [eS] at I
    exact zr_out I hxt hlk (⟨hE.imp (fun h => ⟨if_pos h.2, h.1⟩) (fun h => ⟨by unfold zc_disp; rw [if_neg h.2.1, if_pos (Or.inl h.2.2)], h.1⟩), rfl⟩) h1 h2 h3 (Nat.le_of_ble_eq_true rfl) (Nat.le_of_ble_eq_true rfl)
  · obtain ⟨⟨hz1, ho⟩, rfl, eS⟩ := hq
    rw [eS] at I
    obtain ⟨hz9, hj, hi⟩ := (zi_cases i (n := T.1.1) (by omega)).elim (fun h => absurd h hz1) id
    have h3j := t3 (zx i)
    have hiq : Value.int i = .int (nI (zx i)) := by rw [← hi]
    refine lv_astore_n (lv' := [(2, .ref (ap (zx i))), (0, .ref x), (1, .int i)]) hx hb dX3_dispute_5 rfl hl (by decide) rfl (fun ls hl => ?_)
    refine lv_aload_n hx hb dX3_dispute_6 rfl (lv_at hl 0 rfl) ?_
    refine zn_Promise_disputed (v := nI (T.2 3 (zx i))) (host := "DiceForge") C I (f11.2.2.2.2 _ hj).2 (by decide +kernel) ((f15 _ hj).2.2.2.2.2) dX3_dispute_7 ?_
    refine lv_if_eq (tgt := 23) hx hb dX3_dispute_10 (by decide) (fun c10 => ?_) (fun c10 => ?_)
    · have c10 : (T.2 3 (zx i)) = 0 := (nI_eq (a := T.2 3 (zx i)) (b := 0) (by omega) (by omega)).mp c10
      refine lv_aload_n hx hb dX3_dispute_23 rfl (lv_at hl 0 rfl) ?_
      refine lv_iconst (v := 1) hx hb dX3_dispute_24 (by decide) ?_
      refine zq_Promise_disputed (host := "DiceForge") C I (f11.2.2.2.2 _ hj).2 (by decide +kernel) (Or.inr rfl) dX3_dispute_25 (fun H locs I => ?_)
      refine lv_aload_n hx hb dX3_dispute_28 rfl (lv_at hl 1 rfl) ?_
      refine lv_iload_n hx hb dX3_dispute_29 rfl (lv_at hl 2 rfl) ?_
      refine lv_aload_n hx hb dX3_dispute_30 rfl (lv_at hl 0 rfl) ?_
      refine zn_Promise_seed (v := nI ((zt_s T 3 (zx i) 1).2 0 (zx i))) (host := "DiceForge") C I (f11.2.2.2.2 _ hj).2 (by decide +kernel) ((zI_j _ _ _ _ (by decide)).trans ((f15 _ hj).2.2.1.trans (by rw [zt_s_j _ _ _ _ (by decide)]))) dX3_dispute_31 ?_
      have hF1 : FR g (zh_sI S 12 (ap (zx i)) 1) (zt_s T 3 (zx i) 1) x pl lo pt ty pa la ap ad ae := FR_flag hF0 (y := 1) hj (Or.inr ⟨rfl, rfl⟩)
      rw [hiq]
      refine zc_V (n := 2) (rest := []) C I f1 rfl rfl (k_X3_firstWrong l g hst (zh_sI S 12 (ap (zx i)) 1) (zt_s T 3 (zx i) 1) x pl lo pt ty pa la ap ad ae (zt_ok3 hT0 hj) hF1 (zx i) hj) zm_371 zm_372 zm_11 zm_16 zm_373 rfl hl.1 dX3_dispute_34 (by decide +kernel) rfl ⟨Nat.le_of_ble_eq_true rfl, Nat.le_of_ble_eq_true rfl⟩ (Nat.le_of_ble_eq_true rfl) ⟨Nat.le_of_ble_eq_true rfl, Nat.le_of_ble_eq_true rfl⟩ (fun v S' H locs hq I => ?_)
      obtain ⟨rfl, hF2, hk2⟩ := hq
      have hw : zv_wrong (zt_s T 3 (zx i) 1) (zx i) = zv_wrong T (zx i) := zt_wrong_3 T (zx i) (zx i) 1 T.1.2 0
      rcases zt_wrong_in T (zx i) T.1.2 0 with h1w | ⟨a, ha1, ha2, ha3⟩
      · have h1v : zv_wrong T (zx i) = -1 := h1w
        refine zr_top (y := (-1)) (hw.trans h1v) ?_
        refine lv_istore_n (lv' := [(3, .int (-1)), (2, .ref (ap (zx i))), (0, .ref x), (1, .int i)]) hx hb dX3_dispute_37 rfl hl (by decide) rfl (fun ls hl => ?_)
        refine lv_iload_n hx hb dX3_dispute_38 rfl (lv_at hl 0 rfl) ?_
        refine lv_iconst (v := (-1)) hx hb dX3_dispute_39 (by decide) ?_
        refine lv_icmp_ne (tgt := 47) hx hb dX3_dispute_40 (by decide) (fun h9 => absurd (rfl) h9) (fun _ => ?_)
        refine lv_iconst (v := 0) hx hb dX3_dispute_43 (by decide) ?_
        refine lv_goto (tgt := 53) hx hb dX3_dispute_44 (by decide) ?_
        have hc : zc_disp T i = 0 := by unfold zc_disp; rw [if_neg hz1, if_neg (fun h => h.elim ho (fun h9 => h9 c10))]
        exact vx_ret (zr_iret C I hr hlk (⟨hc, by unfold zv_disp; rw [if_pos h1v]; rfl, by unfold zs_disp; rw [if_pos hc, if_pos h1v]; exact hF2, hk2⟩) (Nat.le_of_ble_eq_true rfl) (Nat.le_of_ble_eq_true rfl) dX3_dispute_53)
      · have h1v : zv_wrong T (zx i) = nI a := ha3
        refine zr_top (y := nI a) (hw.trans h1v) ?_
        refine lv_istore_n (lv' := [(3, .int (nI a)), (2, .ref (ap (zx i))), (0, .ref x), (1, .int i)]) hx hb dX3_dispute_37 rfl hl (by decide) rfl (fun ls hl => ?_)
        refine lv_iload_n hx hb dX3_dispute_38 rfl (lv_at hl 0 rfl) ?_
        refine lv_iconst (v := (-1)) hx hb dX3_dispute_39 (by decide) ?_
        refine lv_icmp_ne (tgt := 47) hx hb dX3_dispute_40 (by decide) (fun _ => ?_) (fun h9 => absurd h9 (zi_m1 (by omega)))
        refine lv_aload_n hx hb dX3_dispute_47 rfl (lv_at hl 2 rfl) ?_
        refine lv_iload_n hx hb dX3_dispute_48 rfl (lv_at hl 0 rfl) ?_
        refine lv_iload_n hx hb dX3_dispute_49 rfl (lv_at hl 3 rfl) ?_
        rw [hiq]
        refine zc_V (n := 2) (rest := []) C I hF2.1.1 rfl rfl (k_X3_strikeFrom l g hst S' (zt_s T 3 (zx i) 1) x pl lo pt ty pa la ap ad ae (zt_ok3 hT0 hj) hF2 (zx i) a (by omega) (show a < T.1.2 by omega)) zm_378 zm_379 zm_12 zm_16 zm_380 rfl hl.1 dX3_dispute_50 (by decide +kernel) rfl ⟨Nat.le_of_ble_eq_true rfl, Nat.le_of_ble_eq_true rfl⟩ (Nat.le_of_ble_eq_true rfl) ⟨Nat.le_of_ble_eq_true rfl, Nat.le_of_ble_eq_true rfl⟩ (fun v S'' H locs hq3 I => ?_)
        obtain ⟨rfl, hF3, hk3⟩ := hq3
        have hc : zc_disp T i = 0 := by unfold zc_disp; rw [if_neg hz1, if_neg (fun h => h.elim ho (fun h9 => h9 c10))]
        have hne : ¬ zv_wrong T (zx i) = -1 := by rw [h1v]; exact zi_m1 (by omega)
        have e2 : zt_own (zt_s T 3 (zx i) 1) (zx i) a (zt_s T 3 (zx i) 1).1.2 = zv_disp T (zx i) := by
          unfold zv_disp
          rw [if_neg hne, h1v, zx_nI (by omega)]
          exact zt_own_3 T (zx i) a (zx i) 1 T.1.2
        exact vx_ret (zr_iret C I hr hlk (⟨hc, by rw [e2], by unfold zs_disp; rw [if_pos hc, if_neg hne, h1v, zx_nI (by omega)]; exact hF3, zk_tr hk2 hk3⟩) (Nat.le_of_ble_eq_true rfl) (Nat.le_of_ble_eq_true rfl) dX3_dispute_53)
    · have c10 : ¬ (T.2 3 (zx i)) = 0 := fun h9 => c10 ((nI_eq (a := T.2 3 (zx i)) (b := 0) (by omega) (by omega)).mpr h9)
      exact zr_throw (cls := "java/lang/IllegalStateException") (text := "the promise was disputed") (ik := 38) (is := 158) (ic := 42) C I hst hxt hlk rfl zt_fitIS zt_fitn zm_148 zm_24 (by decide +kernel) zt_aIS zt_bIS zt_cIS hl.1 dX3_dispute_13 dX3_dispute_16 dX3_dispute_17 dX3_dispute_19 dX3_dispute_22 (Nat.le_of_ble_eq_true rfl) (Nat.le_of_ble_eq_true rfl) (Nat.le_of_ble_eq_true rfl) (Nat.le_of_ble_eq_true rfl) (⟨Or.inr ⟨by unfold zc_disp; rw [if_neg hz1, if_pos (Or.inr c10)], rfl⟩, rfl⟩) (Nat.le_of_ble_eq_true rfl) (Nat.le_of_ble_eq_true rfl)
end
section
/-! the tally -/
theorem zs_AA (S : zS) (a : Nat) (f h : Nat → Int32) : zh_sA (zh_sA S a f) a h = zh_sA S a h := by
  have e : va_up (va_up (zh_A S) a f) a h = va_up (zh_A S) a h := by
    funext b
    by_cases hb : b = a
    · subst hb; rw [va_up_self, va_up_self]
    · rw [va_up_ne _ _ hb, va_up_ne _ _ hb, va_up_ne _ _ hb]
  show (_, _, _, _, _, va_up (va_up (zh_A S) a f) a h, _, _) = _
  rw [e]; rfl
theorem zs_Aself (S : zS) (a : Nat) (f : Nat → Int32) : zh_A (zh_sA S a f) a = f := va_up_self _ _ _
theorem zs_Asame (S : zS) (a : Nat) : zh_sA S a (zh_A S a) = S := by
  have e : va_up (zh_A S) a (zh_A S a) = zh_A S := by
    funext b
    by_cases hb : b = a
    · subst hb; rw [va_up_self]
    · rw [va_up_ne _ _ hb]
  show (_, _, _, _, _, va_up (zh_A S) a (zh_A S a), _, _) = _
  rw [e]; rfl
theorem zt_cnt_y (T : zT) {f v k : Nat} (h : T.2 12 k = 0 ∧ T.2 8 k = f ∧ (T.2 9 k = v ∨ v = 0)) : zt_cnt T f v (k + 1) = zt_cnt T f v k + 1 := by
  show _ + (if _ then 1 else 0) = _
  rw [if_pos h]
theorem zt_cnt_n (T : zT) {f v k : Nat} (h : ¬ (T.2 12 k = 0 ∧ T.2 8 k = f ∧ (T.2 9 k = v ∨ v = 0))) : zt_cnt T f v (k + 1) = zt_cnt T f v k := by
  show _ + (if _ then 1 else 0) = _
  rw [if_neg h]; rfl

set_option maxRecDepth 100000 in
set_option maxHeartbeats 4000000 in
theorem k_fill (l : Launch) (g : zG) (S : zS) (a n : Nat) (v : Int32) (ha : zh_at S 6 a) (hn : zh_N S a = n) (hn2 : n < 2 ^ 31) : zM l yJ7_fill_53178 cJ7_fill_53178 4 none (zrm 0 0 0) g [.ref a, .int v] S (fun w S' => w = none ∧ ∃ fy : Nat → Int32, S' = zh_sA S a fy ∧ ∀ i : Nat, i < n → fy i = v) := by
  refine zM_of (nm := "fill") (by decide) rfl (Nat.le_of_ble_eq_true rfl) ?_
  intro p e s m args below meth c A ls C hr hlk hin I hl
  have C : CallFix p m c cJ7_fill_53178 4 s args zc_W RJ7 := C
  have hx := C.1
  have hb := C.2.1
  have hl : lv_has ls 4 [(0, .ref a), (1, .int v)] := hl
  have loop : ∀ (t k : Nat) (fy : Nat → Int32) (ls : Array Slot) (H : Heap) (locs : List Loc), k + t = n → (∀ i : Nat, i < k → fy i = v) → zh_V g A s [] (zh_sA S a fy) H locs → lv_has ls 4 [(3, .int (nI n)), (2, .int (nI k)), (0, .ref a), (1, .int v)] → W p l e (zrm 0 0 0) s m args below meth c H locs 0 0 (MQ below (zh_Po g A (fun w S' => w = none ∧ ∃ fy : Nat → Int32, S' = zh_sA S a fy ∧ ∀ i : Nat, i < n → fy i = v)) args s (zrm 0 0 0).cells (zrm 0 0 0).slots A) (F0 m 5 ls []) := by
    intro t
    induction t with
    | zero =>
      intro k fy ls H locs hk hf I hl
      refine lv_iload_n hx hb dJ7_fill_53178_5 rfl (lv_at hl 1 rfl) ?_
      refine lv_iload_n hx hb dJ7_fill_53178_6 rfl (lv_at hl 0 rfl) ?_
      refine lv_icmp_ge (tgt := 20) hx hb dJ7_fill_53178_7 (by decide) (fun _ => ?_) (fun h9 => absurd ((nI_leI (a := n) (b := k) (by omega) (by omega)).mpr (by omega)) h9)
      exact zr_vret C I hr hlk (⟨rfl, fy, rfl, fun i hi => hf i (by omega)⟩) (Nat.le_of_ble_eq_true rfl) (Nat.le_of_ble_eq_true rfl) dJ7_fill_53178_20
    | succ t ih =>
      intro k fy ls H locs hk hf I hl
      refine lv_iload_n hx hb dJ7_fill_53178_5 rfl (lv_at hl 1 rfl) ?_
      refine lv_iload_n hx hb dJ7_fill_53178_6 rfl (lv_at hl 0 rfl) ?_
      refine lv_icmp_ge (tgt := 20) hx hb dJ7_fill_53178_7 (by decide) (fun h9 => absurd h9 (fun h8 => absurd ((nI_leI (a := n) (b := k) (by omega) (by omega)).mp h8) (by omega))) (fun _ => ?_)
      refine lv_aload_n hx hb dJ7_fill_53178_10 rfl (lv_at hl 2 rfl) ?_
      refine lv_iload_n hx hb dJ7_fill_53178_11 rfl (lv_at hl 1 rfl) ?_
      refine lv_iload_n hx hb dJ7_fill_53178_12 rfl (lv_at hl 3 rfl) ?_
      refine zr_iast C I ha (by rw [show zh_N (zh_sA S a fy) a = n from hn]; exact vp_in_nI (by omega) (by omega)) dJ7_fill_53178_13 (fun H locs I => ?_)
      refine lv_iinc (v := nI (k + 1)) (lv' := [(2, .int (nI (k + 1))), (3, .int (nI n)), (0, .ref a), (1, .int v)]) hx hb dJ7_fill_53178_14 hl (k := 1) rfl (nI_add k 1) (by decide) rfl (fun ls hl => ?_)
      refine lv_goto (tgt := 5) hx hb dJ7_fill_53178_17 (by decide) ?_
      rw [zs_AA, zs_Aself, nI_clamp (by omega)] at I
      refine ih (k + 1) (upd fy k v) ls H locs (by omega) (fun i hi => ?_) I (lv_sub hl [1, 0, 2, 3] rfl)
      by_cases e9 : i = k
      · rw [e9, pk_us]
      · rw [pk_un e9]; exact hf i (by omega)
  refine lv_iconst (v := 0) hx hb dJ7_fill_53178_0 (by decide) ?_
  refine lv_istore_n (lv' := [(2, .int 0), (0, .ref a), (1, .int v)]) hx hb dJ7_fill_53178_1 rfl hl (by decide) rfl (fun ls hl => ?_)
  refine lv_aload_n hx hb dJ7_fill_53178_2 rfl (lv_at hl 1 rfl) ?_
  refine zr_len (kd := 6) (t := 0) (N := n) C I ha rfl rfl (hn) dJ7_fill_53178_3 ?_
  refine lv_istore_n (lv' := [(3, .int (nI n)), (2, .int 0), (0, .ref a), (1, .int v)]) hx hb dJ7_fill_53178_4 rfl hl (by decide) rfl (fun ls hl => ?_)
  exact loop n 0 (zh_A S a) ls _ _ (by omega) (fun i hi => absurd hi (Nat.not_lt_zero i)) (by rw [zs_Asame]; exact I) (lv_sub hl [0, 1, 2, 3] rfl)

set_option maxRecDepth 100000 in
set_option maxHeartbeats 4000000 in
theorem k_X3_tallyValues (l : Launch) (g : zG) (hst : l.stackTraces = false) (S : zS) (T : zT) (x pl lo pt ty pa la : Nat) (ap ad ae : Nat → Nat) (hT : zt_ok T) (hF : FR g S T x pl lo pt ty pa la ap ad ae) (f : Nat) (hf2 : 2 ≤ f) (hf3 : f ≤ 1000) : zM l yX3_tallyValues cX3_tallyValues 5 (some .int) (zrm 7 0 0) g [.ref x, .int (nI f)] S (fun w S' => w = some (.int (nI (zt_cnt T f 0 T.1.2))) ∧ ∃ fy : Nat → Int32, S' = zh_sA S ty fy ∧ ∀ v : Nat, 1 ≤ v → v ≤ 1000 → fy v = nI (zt_cnt T f v T.1.2)) := by
  refine zM_of (nm := "tallyValues") (by decide) rfl (Nat.le_of_ble_eq_true rfl) ?_
  intro p e s m args below meth c A ls C hr hlk hin I hl
  have C : CallFix p m c cX3_tallyValues 5 s args zc_W RX3 := C
  have hx := C.1
  have hb := C.2.1
  have hl : lv_has ls 5 [(0, .ref x), (1, .int (nI f))] := hl
  have hF0 := hF
  obtain ⟨⟨f1, f2, f3, f4, f5⟩, ⟨f6, f7, f8, f9, f10⟩, f11, f12, f13, f14, f15, f16, f17, f18, f19⟩ := hF
  obtain ⟨t1, t2, t3, t4, t5, t6, t7⟩ := hT
  refine lv_aload_n hx hb dX3_tallyValues_0 rfl (lv_at hl 0 rfl) ?_
  refine zg_Forge_tally (v := ty) C I f1 zm_71 (f5) dX3_tallyValues_1 ?_
  refine lv_iconst (v := 0) hx hb dX3_tallyValues_4 (by decide) ?_
  refine zc_S (n := 2) (rest := []) C I (k_fill l g S ty 1001 0 f8 f9 (by decide)) zm_451 zm_452 zm_29 zm_453 rfl hl.1 dX3_tallyValues_5 (by decide +kernel) rfl ⟨Nat.le_of_ble_eq_true rfl, Nat.le_of_ble_eq_true rfl⟩ (Nat.le_of_ble_eq_true rfl) ⟨Nat.le_of_ble_eq_true rfl, Nat.le_of_ble_eq_true rfl⟩ (fun v S' H locs hq I => ?_)
  obtain ⟨rfl, fy0, eS, hfy0⟩ := hq
  rw [eS] at I
  have loop : ∀ (n k : Nat) (fk : Nat → Int32) (ls : Array Slot) (H : Heap) (locs : List Loc), k + n = T.1.2 → (∀ v : Nat, 1 ≤ v → v ≤ 1000 → fk v = nI (zt_cnt T f v k)) → zh_V g A s [] (zh_sA S ty fk) H locs → lv_has ls 5 [(3, .int (nI k)), (2, .int (nI (zt_cnt T f 0 k))), (0, .ref x), (1, .int (nI f))] → W p l e (zrm 7 0 0) s m args below meth c H locs (0 + (zrm 0 0 0).cells) (0 + (zrm 0 0 0).slots) (MQ below (zh_Po g A (fun w S' => w = some (.int (nI (zt_cnt T f 0 T.1.2))) ∧ ∃ fy : Nat → Int32, S' = zh_sA S ty fy ∧ ∀ v : Nat, 1 ≤ v → v ≤ 1000 → fy v = nI (zt_cnt T f v T.1.2))) args s (zrm 7 0 0).cells (zrm 7 0 0).slots A) (F0 m 12 ls []) := by
    intro n
    induction n with
    | zero =>
      intro k fk ls H locs hn hfk I hl
      have hcl := zt_cnt_le T f 0 k
      refine lv_iload_n hx hb dX3_tallyValues_12 rfl (lv_at hl 0 rfl) ?_
      refine lv_aload_n hx hb dX3_tallyValues_13 rfl (lv_at hl 2 rfl) ?_
      refine zg_Forge_log (v := lo) C I f1 zm_69 (f3) dX3_tallyValues_14 ?_
      refine zc_V (n := 0) (rest := [.int (nI k)]) C I f12.1 rfl rfl (k_Jx4a65c_size_8abf5 l g (zh_sA S ty fk) lo T.1.2 f12.1 f12.2.1) zm_144 zm_145 zm_146 zm_19 zm_147 rfl hl.1 dX3_tallyValues_17 (by decide +kernel) rfl ⟨Nat.le_of_ble_eq_true rfl, Nat.le_of_ble_eq_true rfl⟩ (Nat.le_of_ble_eq_true rfl) ⟨Nat.le_of_ble_eq_true rfl, Nat.le_of_ble_eq_true rfl⟩ (fun v S' H locs hq I => ?_)
      obtain ⟨rfl, eS⟩ := hq
      rw [eS] at I
      refine lv_icmp_ge (tgt := 89) hx hb dX3_tallyValues_20 (by decide) (fun _ => ?_) (fun h9 => absurd ((nI_leI (a := T.1.2) (b := k) (by omega) (by omega)).mpr (by omega)) h9)
      refine lv_iload_n hx hb dX3_tallyValues_89 rfl (lv_at hl 1 rfl) ?_
      have hk : k = T.1.2 := by omega
      subst hk
      exact zr_iret C I hr hlk (⟨rfl, fk, rfl, hfk⟩) (Nat.le_of_ble_eq_true rfl) (Nat.le_of_ble_eq_true rfl) dX3_tallyValues_90
    | succ n ih =>
      intro k fk ls H locs hn hfk I hl
      have hcl := zt_cnt_le T f 0 k
      refine lv_iload_n hx hb dX3_tallyValues_12 rfl (lv_at hl 0 rfl) ?_
      refine lv_aload_n hx hb dX3_tallyValues_13 rfl (lv_at hl 2 rfl) ?_
      refine zg_Forge_log (v := lo) C I f1 zm_69 (f3) dX3_tallyValues_14 ?_
      refine zc_V (n := 0) (rest := [.int (nI k)]) C I f12.1 rfl rfl (k_Jx4a65c_size_8abf5 l g (zh_sA S ty fk) lo T.1.2 f12.1 f12.2.1) zm_144 zm_145 zm_146 zm_19 zm_147 rfl hl.1 dX3_tallyValues_17 (by decide +kernel) rfl ⟨Nat.le_of_ble_eq_true rfl, Nat.le_of_ble_eq_true rfl⟩ (Nat.le_of_ble_eq_true rfl) ⟨Nat.le_of_ble_eq_true rfl, Nat.le_of_ble_eq_true rfl⟩ (fun v S' H locs hq I => ?_)
      obtain ⟨rfl, eS⟩ := hq
      rw [eS] at I
      have hk : k < T.1.2 := by omega
      obtain ⟨h3, h4, h5, h6⟩ : zh_at S 8 la ∧ T.1.2 ≤ zh_N S la ∧ 10 ≤ zh_N S la ∧ zh_N S la ≤ 150 := f12.2.2.2.1.elim (fun h => absurd h.1 (show ¬ T.1.2 = 0 by omega)) id
      refine lv_icmp_ge (tgt := 89) hx hb dX3_tallyValues_20 (by decide) (fun h9 => absurd h9 (fun h8 => absurd ((nI_leI (a := T.1.2) (b := k) (by omega) (by omega)).mp h8) (by omega))) (fun _ => ?_)
      refine lv_aload_n hx hb dX3_tallyValues_23 rfl (lv_at hl 2 rfl) ?_
      refine zg_Forge_log (v := lo) C I f1 zm_69 (f3) dX3_tallyValues_24 ?_
      refine lv_iload_n hx hb dX3_tallyValues_27 rfl (lv_at hl 0 rfl) ?_
      refine zc_V (n := 1) (rest := []) C I f12.1 rfl rfl (k_Jx4a65c_get_915e3 l g (zh_sA S ty fk) lo T.1.2 la k (ae k) f12.1 f12.2.1 f12.2.2.1 h3 h4 (by omega) hk (f12.2.2.2.2 _ hk).1) zm_283 zm_284 zm_285 zm_19 zm_286 rfl hl.1 dX3_tallyValues_28 (by decide +kernel) rfl ⟨Nat.le_of_ble_eq_true rfl, Nat.le_of_ble_eq_true rfl⟩ (Nat.le_of_ble_eq_true rfl) ⟨Nat.le_of_ble_eq_true rfl, Nat.le_of_ble_eq_true rfl⟩ (fun v S' H locs hq I => ?_)
      obtain ⟨rfl, eS⟩ := hq
      rw [eS] at I
      have h5k := t5 _ hk
      obtain ⟨v, hv⟩ : ∃ v, v = T.2 9 k := ⟨_, rfl⟩
      refine zr_cast C I (f12.2.2.2.2 _ hk).2 rfl rfl zm_304 dX3_tallyValues_31 ?_
      refine lv_astore (lv' := [(4, .ref (ae k)), (3, .int (nI k)), (2, .int (nI (zt_cnt T f 0 k))), (0, .ref x), (1, .int (nI f))]) hx hb dX3_tallyValues_34 hl (by decide) rfl (fun ls hl => ?_)
      refine lv_aload hx hb dX3_tallyValues_36 (lv_at hl 0 rfl) ?_
      refine lv_iload_n hx hb dX3_tallyValues_38 rfl (lv_at hl 4 rfl) ?_
      refine zc_VN (host := "DiceForge") (n := 1) (rest := []) C I (f12.2.2.2.2 _ hk).2 rfl rfl (k_X1_countsFor l g (zh_sA S ty fk) (ae k) (T.2 8 k) (T.2 12 k) f (f12.2.2.2.2 _ hk).2 (f16 _ hk 3 (by decide)) (f16 _ hk 7 (by decide)) (by omega) (by omega) hf3) (by decide +kernel) zm_454 zm_14 zm_34 zm_455 rfl hl.1 dX3_tallyValues_39 (by decide +kernel) rfl ⟨Nat.le_of_ble_eq_true rfl, Nat.le_of_ble_eq_true rfl⟩ (Nat.le_of_ble_eq_true rfl) ⟨Nat.le_of_ble_eq_true rfl, Nat.le_of_ble_eq_true rfl⟩ (fun v S' H locs hq I => ?_)
      obtain ⟨rfl, eS⟩ := hq
      rw [eS] at I
      by_cases hc : T.2 8 k = f ∧ T.2 12 k = 0
      · refine zr_top (y := 1) (if_pos hc) ?_
        have hclv := zt_cnt_le T f v k
        refine lv_if_eq (tgt := 83) hx hb dX3_tallyValues_42 (by decide) (fun h9 => absurd h9 (by decide)) (fun _ => ?_)
        refine lv_aload hx hb dX3_tallyValues_45 (lv_at hl 0 rfl) ?_
        refine zn_Entry_value (v := nI v) (host := "DiceForge") C I (f12.2.2.2.2 _ hk).2 (by decide +kernel) ((f16 _ hk 4 (by decide)).trans (by rw [hv])) dX3_tallyValues_47 ?_
        refine lv_if_lt (tgt := 83) hx hb dX3_tallyValues_50 (by decide) (fun h9 => absurd h9 (fun h8 => absurd ((nI_ltI (a := v) (b := 0) (by omega) (by omega)).mp h8) (by omega))) (fun _ => ?_)
        refine lv_aload hx hb dX3_tallyValues_53 (lv_at hl 0 rfl) ?_
        refine zn_Entry_value (v := nI v) (host := "DiceForge") C I (f12.2.2.2.2 _ hk).2 (by decide +kernel) ((f16 _ hk 4 (by decide)).trans (by rw [hv])) dX3_tallyValues_55 ?_
        refine lv_aload_n hx hb dX3_tallyValues_58 rfl (lv_at hl 3 rfl) ?_
        refine zg_Forge_tally (v := ty) C I f1 zm_71 (f5) dX3_tallyValues_59 ?_
        refine zr_len (kd := 6) (t := 0) (N := 1001) C I f8 rfl rfl (f9) dX3_tallyValues_62 ?_
        refine lv_icmp_ge (tgt := 83) hx hb dX3_tallyValues_63 (by decide) (fun h9 => absurd h9 (fun h8 => absurd ((nI_leI (a := 1001) (b := v) (by omega) (by omega)).mp h8) (by omega))) (fun _ => ?_)
        refine lv_aload_n hx hb dX3_tallyValues_66 rfl (lv_at hl 3 rfl) ?_
        refine zg_Forge_tally (v := ty) C I f1 zm_71 (f5) dX3_tallyValues_67 ?_
        refine lv_aload hx hb dX3_tallyValues_70 (lv_at hl 0 rfl) ?_
        refine zn_Entry_value (v := nI v) (host := "DiceForge") C I (f12.2.2.2.2 _ hk).2 (by decide +kernel) ((f16 _ hk 4 (by decide)).trans (by rw [hv])) dX3_tallyValues_72 ?_
        refine lv_dup2_11 hx hb dX3_tallyValues_75 rfl rfl ?_
        refine zr_iald (v := nI (zt_cnt T f v k)) C I f8 (by rw [show zh_N (zh_sA S ty fk) ty = 1001 from f9]; exact vp_in_nI (by omega) (by omega)) (by rw [nI_clamp (by omega), zs_Aself]; exact hfk v (by omega) (by omega)) dX3_tallyValues_76 ?_
        refine lv_iconst (v := 1) hx hb dX3_tallyValues_77 (by decide) ?_
        refine lv_iadd hx hb dX3_tallyValues_78 ?_
        refine zr_top (y := nI ((zt_cnt T f v k) + 1)) (nI_add (zt_cnt T f v k) 1) ?_
        refine zr_iast C I f8 (by rw [show zh_N (zh_sA S ty fk) ty = 1001 from f9]; exact vp_in_nI (by omega) (by omega)) dX3_tallyValues_79 (fun H locs I => ?_)
        rw [zs_AA, zs_Aself, nI_clamp (by omega)] at I
        refine lv_iinc (v := nI ((zt_cnt T f 0 k) + 1)) (lv' := [(2, .int (nI ((zt_cnt T f 0 k) + 1))), (4, .ref (ae k)), (3, .int (nI k)), (0, .ref x), (1, .int (nI f))]) hx hb dX3_tallyValues_80 hl (k := 2) rfl (nI_add (zt_cnt T f 0 k) 1) (by decide) rfl (fun ls hl => ?_)
        refine lv_iinc (v := nI (k + 1)) (lv' := [(3, .int (nI (k + 1))), (2, .int (nI ((zt_cnt T f 0 k) + 1))), (4, .ref (ae k)), (0, .ref x), (1, .int (nI f))]) hx hb dX3_tallyValues_83 hl (k := 2) rfl (nI_add k 1) (by decide) rfl (fun ls hl => ?_)
        refine lv_goto (tgt := 12) hx hb dX3_tallyValues_86 (by decide) ?_
        have e9 : zt_cnt T f 0 (k + 1) = zt_cnt T f 0 k + 1 := zt_cnt_y T ⟨hc.2, hc.1, Or.inr rfl⟩
        have hl := lv_sub (l' := [(3, .int (nI (k + 1))), (2, .int (nI ((zt_cnt T f 0 k) + 1))), (0, .ref x), (1, .int (nI f))]) hl [0, 1, 3, 4] rfl
        rw [← e9] at hl
        refine ih (k + 1) (upd fk v (nI (zt_cnt T f v k + 1))) ls H locs (by omega) (fun u hu1 hu2 => ?_) I hl
        by_cases e8 : u = v
        · rw [e8, pk_us, zt_cnt_y T ⟨hc.2, hc.1, Or.inl hv.symm⟩]
        · rw [pk_un e8, hfk u hu1 hu2, zt_cnt_n T (fun h => h.2.2.elim (fun h => e8 (by omega)) (fun h => absurd h (by omega)))]
      · refine zr_top (y := 0) (if_neg hc) ?_
        refine lv_if_eq (tgt := 83) hx hb dX3_tallyValues_42 (by decide) (fun _ => ?_) (fun h9 => absurd (rfl) h9)
        refine lv_iinc (v := nI (k + 1)) (lv' := [(3, .int (nI (k + 1))), (4, .ref (ae k)), (2, .int (nI (zt_cnt T f 0 k))), (0, .ref x), (1, .int (nI f))]) hx hb dX3_tallyValues_83 hl (k := 1) rfl (nI_add k 1) (by decide) rfl (fun ls hl => ?_)
        refine lv_goto (tgt := 12) hx hb dX3_tallyValues_86 (by decide) ?_
        have e9 : zt_cnt T f 0 (k + 1) = zt_cnt T f 0 k := zt_cnt_n T (fun h => hc ⟨h.2.1, h.1⟩)
        have hl := lv_sub (l' := [(3, .int (nI (k + 1))), (2, .int (nI (zt_cnt T f 0 k))), (0, .ref x), (1, .int (nI f))]) hl [0, 2, 3, 4] rfl
        rw [← e9] at hl
        refine ih (k + 1) fk ls H locs (by omega) (fun u hu1 hu2 => ?_) I hl
        rw [hfk u hu1 hu2, zt_cnt_n T (fun h => hc ⟨h.2.1, h.1⟩)]
  refine lv_iconst (v := 0) hx hb dX3_tallyValues_8 (by decide) ?_
  refine lv_istore_n (lv' := [(2, .int 0), (0, .ref x), (1, .int (nI f))]) hx hb dX3_tallyValues_9 rfl hl (by decide) rfl (fun ls hl => ?_)
  refine lv_iconst (v := 0) hx hb dX3_tallyValues_10 (by decide) ?_
  refine lv_istore_n (lv' := [(3, .int 0), (2, .int 0), (0, .ref x), (1, .int (nI f))]) hx hb dX3_tallyValues_11 rfl hl (by decide) rfl (fun ls hl => ?_)
  exact loop T.1.2 0 fy0 ls _ _ (by omega) (fun v h1 h2 => hfy0 v (by omega)) I (lv_sub hl [0, 1, 2, 3] rfl)

set_option maxRecDepth 100000 in
set_option maxHeartbeats 4000000 in
theorem k_X3_uneven (l : Launch) (g : zG) (hst : l.stackTraces = false) (S : zS) (T : zT) (x pl lo pt ty pa la : Nat) (ap ad ae : Nat → Nat) (hT : zt_ok T) (hF : FR g S T x pl lo pt ty pa la ap ad ae) (i : Int32) : zX l yX3_uneven cX3_uneven 8 (some .long) (zrm 8 1 6) g [.ref x, .int i] S (fun w S' => zc_unev i = 0 ∧ w = some (.long (zt_unev T (zx i) (zx i))) ∧ FR g S' T x pl lo pt ty pa la ap ad ae ∧ zk_ S S') (fun E S' => zc_unev i = 1 ∧ E = zn_IA ∧ S' = S) := by
  refine zX_of (nm := "uneven") (by decide) rfl (Nat.le_of_ble_eq_true rfl) ?_
  intro p e s m args below meth c A ls C hr hlk hxt I hl
  have C : CallFix p m c cX3_uneven 8 s args zc_W RX3 := C
  have hx := C.1
  have hb := C.2.1
  have hl : lv_has ls 8 [(0, .ref x), (1, .int i)] := hl
  have hF0 := hF
  obtain ⟨⟨f1, f2, f3, f4, f5⟩, ⟨f6, f7, f8, f9, f10⟩, f11, f12, f13, f14, f15, f16, f17, f18, f19⟩ := hF
  obtain ⟨t1, t2, t3, t4, t5, t6, t7⟩ := hT
  by_cases hfx : i < 2 ∨ 1000 < i
  · refine lv_iload_n hx hb dX3_uneven_0 rfl (lv_at hl 1 rfl) ?_
    refine zc_SX (n := 1) (rest := []) C I (k_X3_requireFaces l g hst S i) zm_301 zm_302 zm_16 zm_303 rfl hl.1 dX3_uneven_1 (by decide +kernel) rfl ⟨Nat.le_of_ble_eq_true rfl, Nat.le_of_ble_eq_true rfl⟩ (Nat.le_of_ble_eq_true rfl) ⟨Nat.le_of_ble_eq_true rfl, Nat.le_of_ble_eq_true rfl⟩ (fun E ce q9 S' H locs hq I h1 h2 h3 => ?_) (fun v S' H locs hq I => ?_)
    · obtain ⟨hE, hz, eS⟩ := hq
      rw [eS] at I
      exact zr_out I hxt hlk (⟨if_pos hz, hE, rfl⟩) h1 h2 h3 (Nat.le_of_ble_eq_true rfl) (Nat.le_of_ble_eq_true rfl)
    · exact absurd hfx hq.1
  · obtain ⟨f, hf2, hf3, rfl⟩ := zi_faces hfx
    rw [zx_nI (by omega)]
    refine lv_iload_n hx hb dX3_uneven_0 rfl (lv_at hl 1 rfl) ?_
    refine zc_SX (n := 1) (rest := []) C I (k_X3_requireFaces l g hst S (nI f)) zm_301 zm_302 zm_16 zm_303 rfl hl.1 dX3_uneven_1 (by decide +kernel) rfl ⟨Nat.le_of_ble_eq_true rfl, Nat.le_of_ble_eq_true rfl⟩ (Nat.le_of_ble_eq_true rfl) ⟨Nat.le_of_ble_eq_true rfl, Nat.le_of_ble_eq_true rfl⟩ (fun E ce q9 S' H locs hq I h1 h2 h3 => ?_) (fun v S' H locs hq I => ?_)
    · exact absurd hq.2.1 hfx
    · obtain ⟨hz, rfl, eS⟩ := hq
      rw [eS] at I
      refine lv_aload_n hx hb dX3_uneven_4 rfl (lv_at hl 0 rfl) ?_
      refine lv_iload_n hx hb dX3_uneven_5 rfl (lv_at hl 1 rfl) ?_
      refine zc_V (n := 1) (rest := []) C I f1 rfl rfl (k_X3_tallyValues l g hst S T x pl lo pt ty pa la ap ad ae ⟨t1, t2, t3, t4, t5, t6, t7⟩ hF0 f hf2 hf3) zm_448 zm_449 zm_13 zm_16 zm_450 rfl hl.1 dX3_uneven_6 (by decide +kernel) rfl ⟨Nat.le_of_ble_eq_true rfl, Nat.le_of_ble_eq_true rfl⟩ (Nat.le_of_ble_eq_true rfl) ⟨Nat.le_of_ble_eq_true rfl, Nat.le_of_ble_eq_true rfl⟩ (fun v S' H locs hq I => ?_)
      obtain ⟨rfl, fy, eS2, hfy⟩ := hq
      rw [eS2] at I
      have loop : ∀ (n k : Nat) (ls : Array Slot) (H : Heap) (locs : List Loc), k + n = f → zh_V g A s [] (zh_sA S ty fy) H locs → lv_has ls 8 [(5, .int (nI (k + 1))), (3, .long (zt_unev T f k)), (2, .int (nI (zt_cnt T f 0 T.1.2))), (0, .ref x), (1, .int (nI f))] → W p l e (zrm 8 1 6) s m args below meth c H locs (0 + (zrm 6 1 6).cells + (zrm 7 0 0).cells) (0 + (zrm 6 1 6).slots + (zrm 7 0 0).slots) (vx_MQ below (zh_Po g A (fun w S' => zc_unev (nI f) = 0 ∧ w = some (.long (zt_unev T f f)) ∧ FR g S' T x pl lo pt ty pa la ap ad ae ∧ zk_ S S')) (zh_Px g A (fun E S' => zc_unev (nI f) = 1 ∧ E = zn_IA ∧ S' = S)) args s (zrm 8 1 6).cells (zrm 8 1 6).slots A) (F0 m 15 ls []) := by
        intro n
        induction n with
        | zero =>
          intro k ls H locs hn I hl
          refine lv_iload hx hb dX3_uneven_15 (lv_at hl 0 rfl) ?_
          refine lv_iload_n hx hb dX3_uneven_17 rfl (lv_at hl 4 rfl) ?_
          refine lv_icmp_gt (tgt := 61) hx hb dX3_uneven_18 (by decide) (fun _ => ?_) (fun h9 => absurd ((nI_ltI (a := f) (b := k + 1) (by omega) (by omega)).mpr (by omega)) h9)
          refine lv_lload_n hx hb dX3_uneven_61 rfl (lv_at hl 1 rfl) ?_
          have hk : k = f := by omega
          subst hk
          exact vx_ret (zr_lret C I hr hlk (⟨if_neg hfx, rfl, FR_tally hF0 fy, zk_rf S⟩) (Nat.le_of_ble_eq_true rfl) (Nat.le_of_ble_eq_true rfl) dX3_uneven_62)
        | succ n ih =>
          intro k ls H locs hn I hl
          refine lv_iload hx hb dX3_uneven_15 (lv_at hl 0 rfl) ?_
          refine lv_iload_n hx hb dX3_uneven_17 rfl (lv_at hl 4 rfl) ?_
          refine lv_icmp_gt (tgt := 61) hx hb dX3_uneven_18 (by decide) (fun h9 => absurd h9 (fun h8 => absurd ((nI_ltI (a := f) (b := k + 1) (by omega) (by omega)).mp h8) (by omega))) (fun _ => ?_)
          refine lv_iload hx hb dX3_uneven_21 (lv_at hl 0 rfl) ?_
          refine lv_aload_n hx hb dX3_uneven_23 rfl (lv_at hl 3 rfl) ?_
          refine zg_Forge_tally (v := ty) C I f1 zm_71 (f5) dX3_uneven_24 ?_
          refine zr_len (kd := 6) (t := 0) (N := 1001) C I f8 rfl rfl (f9) dX3_uneven_27 ?_
          refine lv_icmp_ge (tgt := 61) hx hb dX3_uneven_28 (by decide) (fun h9 => absurd h9 (fun h8 => absurd ((nI_leI (a := 1001) (b := k + 1) (by omega) (by omega)).mp h8) (by omega))) (fun _ => ?_)
          refine lv_iload_n hx hb dX3_uneven_31 rfl (lv_at hl 4 rfl) ?_
          refine lv_i2l hx hb dX3_uneven_32 rfl ?_
          refine lv_aload_n hx hb dX3_uneven_33 rfl (lv_at hl 3 rfl) ?_
          refine zg_Forge_tally (v := ty) C I f1 zm_71 (f5) dX3_uneven_34 ?_
          refine lv_iload hx hb dX3_uneven_37 (lv_at hl 0 rfl) ?_
          refine zr_iald (v := nI (zt_cnt T f (k + 1) T.1.2)) C I f8 (by rw [show zh_N (zh_sA S ty fy) ty = 1001 from f9]; exact vp_in_nI (by omega) (by omega)) (by rw [nI_clamp (by omega), zs_Aself]; exact hfy (k + 1) (by omega) (by omega)) dX3_uneven_39 ?_
          refine lv_i2l hx hb dX3_uneven_40 rfl ?_
          refine lv_lmul hx hb dX3_uneven_41 ?_
          refine lv_iload_n hx hb dX3_uneven_42 rfl (lv_at hl 2 rfl) ?_
          refine lv_i2l hx hb dX3_uneven_43 rfl ?_
          refine lv_lsub hx hb dX3_uneven_44 ?_
          refine lv_lstore (lv' := [(6, .long ((((nI f).toInt64) * ((nI (zt_cnt T f (k + 1) T.1.2)).toInt64)) - ((nI (zt_cnt T f 0 T.1.2)).toInt64))), (5, .int (nI (k + 1))), (3, .long (zt_unev T f k)), (2, .int (nI (zt_cnt T f 0 T.1.2))), (0, .ref x), (1, .int (nI f))]) hx hb dX3_uneven_45 hl (by decide) rfl (fun ls hl => ?_)
          refine lv_lload_n hx hb dX3_uneven_47 rfl (lv_at hl 2 rfl) ?_
          refine lv_lload hx hb dX3_uneven_48 (lv_at hl 0 rfl) ?_
          refine lv_lload hx hb dX3_uneven_50 (lv_at hl 0 rfl) ?_
          refine lv_lmul hx hb dX3_uneven_52 ?_
          refine lv_ladd hx hb dX3_uneven_53 ?_
          refine lv_lstore_n (lv' := [(3, .long ((zt_unev T f k) + (((((nI f).toInt64) * ((nI (zt_cnt T f (k + 1) T.1.2)).toInt64)) - ((nI (zt_cnt T f 0 T.1.2)).toInt64)) * ((((nI f).toInt64) * ((nI (zt_cnt T f (k + 1) T.1.2)).toInt64)) - ((nI (zt_cnt T f 0 T.1.2)).toInt64))))), (6, .long ((((nI f).toInt64) * ((nI (zt_cnt T f (k + 1) T.1.2)).toInt64)) - ((nI (zt_cnt T f 0 T.1.2)).toInt64))), (5, .int (nI (k + 1))), (2, .int (nI (zt_cnt T f 0 T.1.2))), (0, .ref x), (1, .int (nI f))]) hx hb dX3_uneven_54 rfl hl (by decide) rfl (fun ls hl => ?_)
          refine lv_iinc (v := nI ((k + 1) + 1)) (lv' := [(5, .int (nI ((k + 1) + 1))), (3, .long ((zt_unev T f k) + (((((nI f).toInt64) * ((nI (zt_cnt T f (k + 1) T.1.2)).toInt64)) - ((nI (zt_cnt T f 0 T.1.2)).toInt64)) * ((((nI f).toInt64) * ((nI (zt_cnt T f (k + 1) T.1.2)).toInt64)) - ((nI (zt_cnt T f 0 T.1.2)).toInt64))))), (6, .long ((((nI f).toInt64) * ((nI (zt_cnt T f (k + 1) T.1.2)).toInt64)) - ((nI (zt_cnt T f 0 T.1.2)).toInt64))), (2, .int (nI (zt_cnt T f 0 T.1.2))), (0, .ref x), (1, .int (nI f))]) hx hb dX3_uneven_55 hl (k := 2) rfl (nI_add (k + 1) 1) (by decide) rfl (fun ls hl => ?_)
          refine lv_goto (tgt := 15) hx hb dX3_uneven_58 (by decide) ?_
          exact ih (k + 1) ls H locs (by omega) I (lv_sub hl [0, 1, 3, 4, 5] rfl)
      refine lv_istore_n (lv' := [(2, .int (nI (zt_cnt T f 0 T.1.2))), (0, .ref x), (1, .int (nI f))]) hx hb dX3_uneven_9 rfl hl (by decide) rfl (fun ls hl => ?_)
      refine lv_lconst (v := 0) hx hb dX3_uneven_10 (by decide) ?_
      refine lv_lstore_n (lv' := [(3, .long 0), (2, .int (nI (zt_cnt T f 0 T.1.2))), (0, .ref x), (1, .int (nI f))]) hx hb dX3_uneven_11 rfl hl (by decide) rfl (fun ls hl => ?_)
      refine lv_iconst (v := 1) hx hb dX3_uneven_12 (by decide) ?_
      refine lv_istore (lv' := [(5, .int 1), (3, .long 0), (2, .int (nI (zt_cnt T f 0 T.1.2))), (0, .ref x), (1, .int (nI f))]) hx hb dX3_uneven_13 hl (by decide) rfl (fun ls hl => ?_)
      exact loop f 0 ls _ _ (by omega) I (lv_sub hl [0, 1, 2, 3, 4] rfl)
end
section
/-! seedsOf -/
theorem zd_gcd : ((List.range 10007).all fun x => x == 0 || Nat.gcd x 10007 == 1) = true := by decide +kernel
theorem zd_cop {x : Nat} (h : x % 10007 ≠ 0) : Nat.Coprime 10007 x := by
  have h1 := List.all_eq_true.mp zd_gcd (x % 10007) (List.mem_range.mpr (Nat.mod_lt _ (by decide)))
  have h2 : (x % 10007 == 0) = false := by simpa using h
  rw [h2, Bool.false_or] at h1
  have h3 : Nat.gcd (x % 10007) 10007 = 1 := by simpa using h1
  show Nat.gcd 10007 x = 1
  rw [Nat.gcd_rec]; exact h3
theorem zd_pr {x y : Nat} (h : (x * y) % 10007 = 0) : x % 10007 = 0 ∨ y % 10007 = 0 := by
  by_cases hx : x % 10007 = 0
  · exact Or.inl hx
  · exact Or.inr (Nat.mod_eq_zero_of_dvd ((zd_cop hx).dvd_of_dvd_mul_left (Nat.dvd_of_mod_eq_zero h)))
theorem zd_sub {a b : Nat} (hb : b ≤ a) : (zd_sign a = zd_sign b ↔ ((a - b) * (a + b + 31)) % 10007 = 0) := by
  obtain ⟨d, rfl⟩ : ∃ d, a = b + d := ⟨a - b, by omega⟩
  rw [Nat.add_sub_cancel_left]
  have e : (b + d) * (b + d) + 31 * (b + d) + 7 = d * (b + d + b + 31) + (b * b + 31 * b + 7) := by
    rw [Nat.add_mul b d (b + d), Nat.mul_add b b d, Nat.mul_add d b d, Nat.mul_add d _ 31, Nat.mul_add d _ b, Nat.mul_add d b d, Nat.mul_comm b d]
    omega
  unfold zd_sign
  rw [e]
  generalize d * (b + d + b + 31) = u
  omega
theorem zd_same (n s : Nat) (hs : s < 65536) : zd_sign n = zd_sign s ↔ (n % 10007 = s % 10007 ∨ n % 10007 = (70018 - s) % 10007) := by
  rcases Nat.le_total s n with h | h
  · rw [zd_sub h]
    constructor
    · intro h2; rcases zd_pr h2 with h3 | h3 <;> omega
    · rintro (h2 | h2)
      · rw [Nat.mul_mod, show (n - s) % 10007 = 0 by omega, Nat.zero_mul, Nat.zero_mod]
      · rw [Nat.mul_mod, show (n + s + 31) % 10007 = 0 by omega, Nat.mul_zero, Nat.zero_mod]
  · rw [eq_comm, zd_sub h]
    constructor
    · intro h2; rcases zd_pr h2 with h3 | h3 <;> omega
    · rintro (h2 | h2)
      · rw [Nat.mul_mod, show (s - n) % 10007 = 0 by omega, Nat.zero_mul, Nat.zero_mod]
      · rw [Nat.mul_mod, show (s + n + 31) % 10007 = 0 by omega, Nat.mul_zero, Nat.zero_mod]
theorem zd_cnt_mod (s : Nat) (hs : s < 65536) (N : Nat) : zd_cnt (zd_sign s) N = (N + 10006 - s % 10007) / 10007 + (if (70018 - s) % 10007 = s % 10007 then 0 else (N + 10006 - (70018 - s) % 10007) / 10007) := by
  have hr := Nat.mod_lt s (show 0 < 10007 by decide)
  have hm := Nat.mod_lt (70018 - s) (show 0 < 10007 by decide)
  have hsame : ∀ n, zd_sign n = zd_sign s ↔ (n % 10007 = s % 10007 ∨ n % 10007 = (70018 - s) % 10007) := fun n => zd_same n s hs
  revert hsame
  generalize zd_sign s = sg
  generalize s % 10007 = r at *
  generalize (70018 - s) % 10007 = m at *
  intro hsame
  induction N with
  | zero => show 0 = _; split <;> omega
  | succ N ih =>
    show zd_cnt sg N + _ = _
    rw [ih]
    by_cases h : zd_sign N = sg
    · rw [if_pos h]
      have h2 := (hsame N).mp h
      split <;> omega
    · rw [if_neg h]
      have h2 : ¬ N % 10007 = r := fun h9 => h ((hsame N).mpr (Or.inl h9))
      have h3 : ¬ N % 10007 = m := fun h9 => h ((hsame N).mpr (Or.inr h9))
      split <;> omega
theorem zd_seeds_eq {s : Nat} (hs : s < 65536) : zd_seeds s = (65535 - s % 10007) / 10007 + 1 + (if (70018 - s) % 10007 = s % 10007 then 0 else (65535 - (70018 - s) % 10007) / 10007 + 1) := by
  have hr := Nat.mod_lt s (show 0 < 10007 by decide)
  have hm := Nat.mod_lt (70018 - s) (show 0 < 10007 by decide)
  unfold zd_seeds
  rw [zd_cnt_mod s hs]
  split <;> omega
theorem zd_seeds_le (s : Nat) : zd_seeds s ≤ 65536 := by
  have h : ∀ sg n : Nat, zd_cnt sg n ≤ n := fun sg n => by
    induction n with
    | zero => exact Nat.le_refl _
    | succ n ih => show zd_cnt sg n + (if _ then 1 else 0) ≤ n + 1; split <;> omega
  exact h _ _
-- numbers below zero
theorem zi_neg {a : Nat} (ha : a < 2 ^ 31) : (-(nI a)).toInt = -(a : Int) := by
  rw [Int32.toInt_neg, nI_toInt ha, Int.bmod_def]; omega
theorem zi_31 (s : Nat) : (-31 : Int32) - nI s = -(nI (31 + s)) := by
  rw [← nI_add]
  apply Int32.toBitVec_inj.mp
  simp only [Int32.toBitVec_sub, Int32.toBitVec_neg, Int32.toBitVec_add]
  show BitVec.ofInt 32 (-31) - _ = -(BitVec.ofNat 32 31 + _)
  rw [BitVec.neg_add]; rfl
theorem zi_rem {a : Nat} (ha : a < 200000) : -(nI a) - -(nI a) / 10007 * 10007 = -(nI (a % 10007)) := by
  apply Int32.toInt_inj.mp
  have e : (10007 : Int32).toInt = 10007 := by decide
  have e2 : (-(a : Int)).tdiv 10007 = -((a / 10007 : Nat) : Int) := by
    rw [Int.neg_tdiv]; rfl
  rw [Int32.toInt_sub, Int32.toInt_mul, Int32.toInt_div, zi_neg (by omega), zi_neg (by omega), e, e2]
  simp only [Int.bmod_def]
  omega
theorem zi_xor {a : Nat} (h0 : 0 < a) (ha : a < 200000) : ¬ (0 : Int32) ≤ -(nI a) ^^^ 10007 := fun h => by
  have h1 := Int32.le_iff_toInt_le.mp h
  have h2 : (0 : Int32).toInt = 0 := by decide
  rw [h2] at h1
  have h3 : ((-(nI a)).toBitVec ^^^ (10007 : Int32).toBitVec).msb = true := by
    rw [BitVec.msb_xor, BitVec.msb_eq_toInt]
    have h4 : (-(nI a)).toBitVec.toInt = -(a : Int) := zi_neg (by omega)
    have h5 : (10007 : Int32).toBitVec.msb = false := by decide
    rw [h4, h5]
    simp; omega
  rw [BitVec.msb_eq_toInt] at h3
  have h6 : ((-(nI a)).toBitVec ^^^ (10007 : Int32).toBitVec).toInt < 0 := by simpa using h3
  have h7 : (-(nI a) ^^^ 10007).toInt = ((-(nI a)).toBitVec ^^^ (10007 : Int32).toBitVec).toInt := rfl
  rw [h7] at h1
  omega
/-- the body of a method of a class that has entries, itself none -/
theorem zM_ofF {l : Launch} {y : MethodName} {cc : ByteArray} {maxL : Nat} {ret : Option FieldType} {rm : Room} {g : zG} {S : zS} {Qp : Option Value → zS → Prop} {av : List Value} {nm : String} (hy : plainFor y = true) (hnm : y.name = nm) (hlen : (lg_sl av).length ≤ maxL)
    (body : ∀ (p : Program) (e : Env) (s : State) (m : MethodId) (args : Array Value) (below : List Frame) (meth : Method) (c : Code) (A : Nat → Prop) (ls : Array Slot), CallFix p m c cc maxL s args zc_W y.cls → meth.sig.returnType = ret → meth.locks = false → meth.name = nm → zh_V g A s [] S s.heap [] → lv_has ls maxL (lv_args 0 av) →
      W p l e rm s m args below meth c s.heap [] 0 0 (MQ below (zh_Po g A Qp) args s rm.cells rm.slots A) (F0 m 0 ls [])) : zM l y cc maxL ret rm g av S Qp := by
  intro sz
  refine va_MetF (cc := cc) (maxL := maxL) (ret := ret) hy rfl ?_
  intro p e s m args below meth c s₁ B hml hv
  obtain ⟨rfl, hsz, hK, hP, hD0, hN, hO⟩ := hv
  have hts := atoms_spec (ws := Cond.code y cc maxL ret :: zc_W) B.pre
  subst hsz
  have hl := lv_entry av (n := maxL) hlen
  rw [lg_entry_eq]
  refine body p e s m _ below meth c (va_A (zh_w g S) s.heap.size) _ ⟨B.exec, B.bytes, hml, findClass_of_methodNamed B.named, fun w h => hts w (List.mem_cons_of_mem _ h)⟩ B.returns B.notSynchronized ((name_of_methodNamed B.named B.method).1.trans hnm) ⟨hK, hP, hD0.self, va_S.rf, fun q h => Or.inr h, fun q h => ?_, hN, hO⟩ hl
  rcases h with ⟨k, e, hk⟩ | h
  · exact hD0.2 k _ hk
  · exact Nat.le_trans hN h
theorem zi_n0 {r : Nat} (h : r < 10007) (h0 : r ≠ 0) : ¬ -(nI r) = 0 := fun h8 => h0 (by
  have h7 := zi_neg (a := r) (by omega)
  rw [h8] at h7
  have h6 : (0 : Int32).toInt = 0 := by decide
  omega)
theorem zi_up {r : Nat} (h : r < 10007) (h0 : r ≠ 0) : -(nI r) + 10007 = nI ((10007 - r) % 10007) := by
  apply Int32.toInt_inj.mp
  have e : (10007 : Int32).toInt = 10007 := by decide
  rw [Int32.toInt_add, zi_neg (by omega), nI_toInt (by omega), e, Int.bmod_def]
  omega

set_option maxRecDepth 100000 in
set_option maxHeartbeats 4000000 in
theorem k_floorMod (l : Launch) (g : zG) (S : zS) (a : Nat) (h0 : 0 < a) (ha : a < 200000) : zM l yJ9_floorMod_7cf53 cJ9_floorMod_7cf53 3 (some .int) (zrm 0 0 0) g [.int (-(nI a)), .int 10007] S (fun w S' => w = some (.int (nI ((10007 - a % 10007) % 10007))) ∧ S' = S) := by
  refine zM_ofF (nm := "floorMod") (by decide +kernel) rfl (Nat.le_of_ble_eq_true rfl) ?_
  intro p e s m args below meth c A ls C hr hlk hin I hl
  have C : CallFix p m c cJ9_floorMod_7cf53 3 s args zc_W RJ9 := C
  have hx := C.1
  have hb := C.2.1
  have hl : lv_has ls 3 [(0, .int (-(nI a))), (1, .int 10007)] := hl
  refine lv_iload_n hx hb dJ9_floorMod_7cf53_0 rfl (lv_at hl 0 rfl) ?_
  refine lv_iload_n hx hb dJ9_floorMod_7cf53_1 rfl (lv_at hl 1 rfl) ?_
  refine lv_irem hx hb dJ9_floorMod_7cf53_2 (by decide) ?_
  refine zr_top (y := -(nI (a % 10007))) (zi_rem ha) ?_
  refine lv_istore_n (lv' := [(2, .int (-(nI (a % 10007)))), (0, .int (-(nI a))), (1, .int 10007)]) hx hb dJ9_floorMod_7cf53_3 rfl hl (by decide) rfl (fun ls hl => ?_)
  refine lv_iload_n hx hb dJ9_floorMod_7cf53_4 rfl (lv_at hl 1 rfl) ?_
  refine lv_iload_n hx hb dJ9_floorMod_7cf53_5 rfl (lv_at hl 2 rfl) ?_
  refine lv_ixor hx hb dJ9_floorMod_7cf53_6 ?_
  refine lv_if_ge (tgt := 18) hx hb dJ9_floorMod_7cf53_7 (by decide) (fun h9 => absurd h9 (zi_xor h0 ha)) (fun _ => ?_)
  refine lv_iload_n hx hb dJ9_floorMod_7cf53_10 rfl (lv_at hl 0 rfl) ?_
  have hm := Nat.mod_lt a (show 0 < 10007 by decide)
  by_cases h9 : a % 10007 = 0
  · refine zr_top (y := 0) (by rw [h9]; rfl) ?_
    have hz : (10007 - a % 10007) % 10007 = 0 := by omega
    rw [h9] at hl
    refine lv_if_eq (tgt := 18) hx hb dJ9_floorMod_7cf53_11 (by decide) (fun _ => ?_) (fun h9 => absurd (rfl) h9)
    refine lv_iload_n hx hb dJ9_floorMod_7cf53_18 rfl (lv_at hl 0 rfl) ?_
    exact zr_iret C I hr hlk (⟨by rw [hz]; rfl, rfl⟩) (Nat.le_of_ble_eq_true rfl) (Nat.le_of_ble_eq_true rfl) dJ9_floorMod_7cf53_19
  · have h79 := zi_n0 hm h9
    refine lv_if_eq (tgt := 18) hx hb dJ9_floorMod_7cf53_11 (by decide) (fun h9 => absurd h9 (h79)) (fun _ => ?_)
    refine lv_iload_n hx hb dJ9_floorMod_7cf53_14 rfl (lv_at hl 0 rfl) ?_
    refine lv_iload_n hx hb dJ9_floorMod_7cf53_15 rfl (lv_at hl 2 rfl) ?_
    refine lv_iadd hx hb dJ9_floorMod_7cf53_16 ?_
    refine zr_top (y := nI ((10007 - a % 10007) % 10007)) (zi_up hm h9) ?_
    exact zr_iret C I hr hlk (⟨rfl, rfl⟩) (Nat.le_of_ble_eq_true rfl) (Nat.le_of_ble_eq_true rfl) dJ9_floorMod_7cf53_17

set_option maxRecDepth 100000 in
set_option maxHeartbeats 4000000 in
theorem k_X3_seedsOf (l : Launch) (g : zG) (hst : l.stackTraces = false) (S : zS) (T : zT) (x pl lo pt ty pa la : Nat) (ap ad ae : Nat → Nat) (hT : zt_ok T) (hF : FR g S T x pl lo pt ty pa la ap ad ae) (i : Int32) : zX l yX3_seedsOf cX3_seedsOf 6 (some .int) (zrm 7 1 6) g [.ref x, .int i] S (fun w S' => zc_prom T i = 0 ∧ w = some (.int (nI (zd_seeds (T.2 0 (zx i))))) ∧ S' = S) (fun E S' => zc_prom T i = 1 ∧ E = zn_IO ∧ S' = S) := by
  refine zX_of (nm := "seedsOf") (by decide) rfl (Nat.le_of_ble_eq_true rfl) ?_
  intro p e s m args below meth c A ls C hr hlk hxt I hl
  have C : CallFix p m c cX3_seedsOf 6 s args zc_W RX3 := C
  have hx := C.1
  have hb := C.2.1
  have hl : lv_has ls 6 [(0, .ref x), (1, .int i)] := hl
  have hF0 := hF
  obtain ⟨⟨f1, f2, f3, f4, f5⟩, ⟨f6, f7, f8, f9, f10⟩, f11, f12, f13, f14, f15, f16, f17, f18, f19⟩ := hF
  obtain ⟨t1, t2, t3, t4, t5, t6, t7⟩ := hT
  refine lv_aload_n hx hb dX3_seedsOf_0 rfl (lv_at hl 0 rfl) ?_
  refine lv_iload_n hx hb dX3_seedsOf_1 rfl (lv_at hl 1 rfl) ?_
  refine zc_VX (n := 1) (rest := []) C I f1 rfl rfl (k_X3_promiseAt l g hst S x pl T.1.1 pa ap i f1 f2 f11 (by omega)) zm_280 zm_281 zm_4 zm_16 zm_282 rfl hl.1 dX3_seedsOf_2 (by decide +kernel) rfl ⟨Nat.le_of_ble_eq_true rfl, Nat.le_of_ble_eq_true rfl⟩ (Nat.le_of_ble_eq_true rfl) ⟨Nat.le_of_ble_eq_true rfl, Nat.le_of_ble_eq_true rfl⟩ (fun E ce q9 S' H locs hq I h1 h2 h3 => ?_) (fun v S' H locs hq I => ?_)
  · obtain ⟨hE, hz, eS⟩ := hq
    rw [eS] at I
    exact zr_out I hxt hlk (⟨if_pos hz, hE, rfl⟩) h1 h2 h3 (Nat.le_of_ble_eq_true rfl) (Nat.le_of_ble_eq_true rfl)
  · obtain ⟨hz, rfl, eS⟩ := hq
    rw [eS] at I
    have hj : zx i < T.1.1 := (zi_cases i (n := T.1.1) (by omega)).elim (fun h => absurd h hz) (fun h => h.2.1)
    have h3j := (t3 (zx i)).1
    obtain ⟨sd, hsd⟩ : ∃ sd, sd = T.2 0 (zx i) := ⟨_, rfl⟩
    rw [← hsd] at h3j ⊢
    refine zn_Promise_seed (v := nI sd) (host := "DiceForge") C I (f11.2.2.2.2 _ hj).2 (by decide +kernel) ((f15 _ hj).2.2.1.trans (by rw [hsd])) dX3_seedsOf_5 ?_
    refine lv_istore_n (lv' := [(2, .int (nI sd)), (0, .ref x), (1, .int i)]) hx hb dX3_seedsOf_8 rfl hl (by decide) rfl (fun ls hl => ?_)
    refine lv_iload_n hx hb dX3_seedsOf_9 rfl (lv_at hl 0 rfl) ?_
    refine lv_sipush (v := 10007) hx hb dX3_seedsOf_10 (by decide) ?_
    refine lv_irem hx hb dX3_seedsOf_13 (by decide) ?_
    refine zr_top (y := nI (sd % 10007)) (pk_rem (a := sd) (d := 10007) (by omega) (by omega) (by omega)) ?_
    refine lv_istore_n (lv' := [(3, .int (nI (sd % 10007))), (2, .int (nI sd)), (0, .ref x), (1, .int i)]) hx hb dX3_seedsOf_14 rfl hl (by decide) rfl (fun ls hl => ?_)
    refine lv_bipush (v := (-31)) hx hb dX3_seedsOf_15 (by decide) ?_
    refine lv_iload_n hx hb dX3_seedsOf_17 rfl (lv_at hl 1 rfl) ?_
    refine lv_isub hx hb dX3_seedsOf_18 ?_
    refine zr_top (y := -(nI (31 + sd))) (zi_31 sd) ?_
    refine lv_sipush (v := 10007) hx hb dX3_seedsOf_19 (by decide) ?_
    refine zc_S (n := 2) (rest := []) C I (k_floorMod l g S (31 + sd) (by omega) (by omega)) zm_473 zm_474 zm_28 zm_475 rfl hl.1 dX3_seedsOf_22 (by decide +kernel) rfl ⟨Nat.le_of_ble_eq_true rfl, Nat.le_of_ble_eq_true rfl⟩ (Nat.le_of_ble_eq_true rfl) ⟨Nat.le_of_ble_eq_true rfl, Nat.le_of_ble_eq_true rfl⟩ (fun v S' H locs hq I => ?_)
    obtain ⟨rfl, eS⟩ := hq
    rw [eS] at I
    have em : (10007 - (31 + sd) % 10007) % 10007 = (70018 - sd) % 10007 := by omega
    refine zr_top (y := nI ((70018 - sd) % 10007)) (by rw [em]) ?_
    have hse := zd_seeds_eq h3j
    have hr9 := Nat.mod_lt sd (show 0 < 10007 by decide)
    have hm := Nat.mod_lt (70018 - sd) (show 0 < 10007 by decide)
    refine lv_istore (lv' := [(4, .int (nI ((70018 - sd) % 10007))), (3, .int (nI (sd % 10007))), (2, .int (nI sd)), (0, .ref x), (1, .int i)]) hx hb dX3_seedsOf_25 hl (by decide) rfl (fun ls hl => ?_)
    refine lv_iload_n hx hb dX3_seedsOf_27 rfl (lv_at hl 1 rfl) ?_
    refine zc_S (n := 1) (rest := []) C I (k_X3_seedsWithRemainder l g S (sd % 10007) hr9) zm_476 zm_477 zm_16 zm_478 rfl hl.1 dX3_seedsOf_28 (by decide +kernel) rfl ⟨Nat.le_of_ble_eq_true rfl, Nat.le_of_ble_eq_true rfl⟩ (Nat.le_of_ble_eq_true rfl) ⟨Nat.le_of_ble_eq_true rfl, Nat.le_of_ble_eq_true rfl⟩ (fun v S' H locs hq I => ?_)
    obtain ⟨rfl, eS⟩ := hq
    rw [eS] at I
    refine lv_istore (lv' := [(5, .int (nI ((65535 - sd % 10007) / 10007 + 1))), (4, .int (nI ((70018 - sd) % 10007))), (3, .int (nI (sd % 10007))), (2, .int (nI sd)), (0, .ref x), (1, .int i)]) hx hb dX3_seedsOf_31 hl (by decide) rfl (fun ls hl => ?_)
    refine lv_iload hx hb dX3_seedsOf_33 (lv_at hl 1 rfl) ?_
    refine lv_iload_n hx hb dX3_seedsOf_35 rfl (lv_at hl 2 rfl) ?_
    refine lv_icmp_ne (tgt := 44) hx hb dX3_seedsOf_36 (by decide) (fun c36 => ?_) (fun c36 => ?_)
    · have c36 : ¬ ((70018 - sd) % 10007) = (sd % 10007) := fun h9 => c36 ((nI_eq (a := (70018 - sd) % 10007) (b := sd % 10007) (by omega) (by omega)).mpr h9)
      refine lv_iload hx hb dX3_seedsOf_44 (lv_at hl 0 rfl) ?_
      refine lv_iload hx hb dX3_seedsOf_46 (lv_at hl 1 rfl) ?_
      refine zc_S (n := 1) (rest := [.int (nI ((65535 - sd % 10007) / 10007 + 1))]) C I (k_X3_seedsWithRemainder l g S ((70018 - sd) % 10007) hm) zm_476 zm_477 zm_16 zm_478 rfl hl.1 dX3_seedsOf_48 (by decide +kernel) rfl ⟨Nat.le_of_ble_eq_true rfl, Nat.le_of_ble_eq_true rfl⟩ (Nat.le_of_ble_eq_true rfl) ⟨Nat.le_of_ble_eq_true rfl, Nat.le_of_ble_eq_true rfl⟩ (fun v S' H locs hq I => ?_)
      obtain ⟨rfl, eS⟩ := hq
      rw [eS] at I
      refine lv_iadd hx hb dX3_seedsOf_51 ?_
      refine zr_top (y := nI (((65535 - sd % 10007) / 10007 + 1) + ((65535 - (70018 - sd) % 10007) / 10007 + 1))) (nI_add ((65535 - sd % 10007) / 10007 + 1) ((65535 - (70018 - sd) % 10007) / 10007 + 1)) ?_
      exact vx_ret (zr_iret C I hr hlk (⟨if_neg hz, by rw [hse, if_neg c36], rfl⟩) (Nat.le_of_ble_eq_true rfl) (Nat.le_of_ble_eq_true rfl) dX3_seedsOf_52)
    · have c36 : ((70018 - sd) % 10007) = (sd % 10007) := (nI_eq (a := (70018 - sd) % 10007) (b := sd % 10007) (by omega) (by omega)).mp c36
      refine lv_iload hx hb dX3_seedsOf_39 (lv_at hl 0 rfl) ?_
      refine lv_goto (tgt := 52) hx hb dX3_seedsOf_41 (by decide) ?_
      exact vx_ret (zr_iret C I hr hlk (⟨if_neg hz, by rw [hse, if_pos c36], rfl⟩) (Nat.le_of_ble_eq_true rfl) (Nat.le_of_ble_eq_true rfl) dX3_seedsOf_52)
end
section
/-! the forge grows: promise, roll, its making -/
theorem zn_out {g : zG} {A : Nat → Prop} {s : State} {X : va_W} {S : zS} {H : Heap} {locs : List Loc} (I : zh_V g A s X S H locs) : g.2.1 ∉ zh_L S := fun h => by
  obtain ⟨k, hk⟩ := va_pl_get (X := X) (f := fun a => zh_e g S a (zh_K S a)) h
  have h1 := I.lo _ (I.D.2 k _ hk)
  have h2 := I.O.2.2.2.2.2.2.2.2.2
  exact Nat.not_lt.mpr h1 h2
/-- a list behind add -/
theorem FL_add {g : zG} {S S' : zS} {pl n ar kd q : Nat} {el : Nat → Nat} (h : FL g S pl n ar kd el) (hA : zl_add S S' pl ar n q) (hq : zh_at S kd q) : ∃ ar' : Nat, FL g S' pl (n + 1) ar' kd (va_up el n q) ∧ (ar' = ar ∨ ar' ∉ zh_L S) ∧ zh_at S' 8 ar' := by
  obtain ⟨h1, h2, h3, h4, h5⟩ := h
  obtain ⟨a1, a2, a3, a4, ar', b1, b2, b3, b4, b5, b6, b7, b8⟩ := hA
  refine ⟨ar', ⟨⟨(a1 _ h1.1).1, (a1 _ h1.1).2.1.trans h1.2⟩, a4, b1, Or.inr ⟨b2, b3, b4, b5⟩, fun i hi => ?_⟩, b8, b2⟩
  by_cases e : i = n
  · subst e
    rw [va_up_self]
    exact ⟨b7, (a1 _ hq.1).1, (a1 _ hq.1).2.1.trans hq.2⟩
  · rw [va_up_ne _ _ e, b6 i (by omega)]
    have h6 := h5 i (by omega)
    exact ⟨h6.1, (a1 _ h6.2.1).1, (a1 _ h6.2.1).2.1.trans h6.2.2⟩
/-- another list -/
theorem FL_keep {g : zG} {S S' : zS} {pl n ar kd q lo ne la : Nat} {el : Nat → Nat} (h : FL g S lo ne la kd el) (hA : zl_add S S' pl ar n q) (hne : lo ≠ pl) (hla : zh_at S 8 la → la ≠ ar) : FL g S' lo ne la kd el := by
  obtain ⟨h1, h2, h3, h4, h5⟩ := h
  obtain ⟨a1, a2, a3, a4, -⟩ := hA
  refine ⟨⟨(a1 _ h1.1).1, (a1 _ h1.1).2.1.trans h1.2⟩, (a2 31 lo (by decide) (Or.inr hne)).trans h2, (a3 30 lo (Or.inr hne)).trans h3, ?_, fun i hi => ?_⟩
  · rcases h4 with h4 | ⟨h4, h6⟩
    · exact Or.inl h4
    · refine Or.inr ⟨⟨(a1 _ h4.1).1, (a1 _ h4.1).2.1.trans h4.2⟩, ?_⟩
      rw [(a1 _ h4.1).2.2.1]; exact h6
  · rcases h4 with ⟨h4, -⟩ | ⟨h4, h6⟩
    · omega
    · have h7 := h5 i hi
      rw [(a1 _ h4.1).2.2.2.2.2 (hla h4)]
      exact ⟨h7.1, (a1 _ h7.2.1).1, (a1 _ h7.2.1).2.1.trans h7.2.2⟩
theorem zl_k {S S' : zS} {pl ar n q : Nat} (hA : zl_add S S' pl ar n q) : zk_ S S' := fun a ha => ⟨(hA.1 a ha).1, (hA.1 a ha).2.1, (hA.1 a ha).2.2.1, (hA.1 a ha).2.2.2.2.1⟩
def zs_promised (T : zT) (sd : Nat) : zT := ((T.1.1 + 1, T.1.2), zh_u (zh_u T.2 0 T.1.1 sd) 1 T.1.1 sd)
/-- one promise more -/
theorem FR_addP {g : zG} {S S' : zS} {T : zT} {x pl lo pt ty pa la : Nat} {ap ad ae : Nat → Nat} {q d sd : Nat} (hF : FR g S T x pl lo pt ty pa la ap ad ae) (hA : zl_add S S' pl pa T.1.1 q) (hq : zh_at S 2 q) (hd : zh_at S 0 d) (e1 : zh_R S 0 q = some d) (e2 : zh_I S 10 q = nI sd) (e3 : zh_I S 0 d = nI sd) (e4 : zh_I S 11 q = 0) (e5 : zh_I S 12 q = 0) (nq : ∀ k : Nat, k < T.1.1 → ap k ≠ q) (nd : ∀ k : Nat, k < T.1.1 → ad k ≠ d) (hg : g.2.1 ∉ zh_L S') (hT : zt_ok T) : FE g S' (zs_promised T sd) x := by
  obtain ⟨⟨f1, f2, f3, f4, f5⟩, ⟨f6, f7, f8, f9, f10⟩, f11, f12, f13, f14, f15, f16, f17, f18, f19⟩ := hF
  have hat : ∀ k a : Nat, zh_at S k a → zh_at S' k a := fun k a h => ⟨(hA.1 _ h.1).1, (hA.1 _ h.1).2.1.trans h.2⟩
  have hI : ∀ j a : Nat, j ≠ 30 → j ≠ 31 → zh_I S' j a = zh_I S j a := fun j a h h2 => hA.2.1 j a h (Or.inl h2)
  have hR : ∀ j a : Nat, j ≠ 30 → zh_R S' j a = zh_R S j a := fun j a h => hA.2.2.1 j a (Or.inl h)
  obtain ⟨pa', hL, hpa, hpa8⟩ := FL_add f11 hA hq
  refine ⟨pl, lo, pt, ty, pa', la, va_up ap T.1.1 q, va_up ad T.1.1 d, ae, ⟨hat _ _ f1, (hR 1 x (by decide)).trans f2, (hR 2 x (by decide)).trans f3, (hR 3 x (by decide)).trans f4, (hR 4 x (by decide)).trans f5⟩, ⟨hat _ _ f6, (hA.1 _ f6.1).2.2.1.trans f7, hat _ _ f8, (hA.1 _ f8.1).2.2.1.trans f9, fun t ht => ?_⟩, hL, ?_, f13, fun _ e => ?_, fun k hk => ?_, fun k hk j hj => ?_, fun i j hi hj e => ?_, fun i j hi hj e => ?_, f19⟩
  · rw [(hA.1 _ f6.1).2.2.2.1, f10 t ht]
    show _ = nI (zh_u (zh_u T.2 0 T.1.1 sd) 1 T.1.1 sd 4 t)
    rw [zh_u_j _ _ _ _ (by decide), zh_u_j _ _ _ _ (by decide)]
  · exact FL_keep f12 hA (Ne.symm f13) (fun h e => f14 (by rw [← e]; exact h) e.symm)
  · rcases hpa with hpa | hpa
    · rcases f11.2.2.2.1 with ⟨-, h⟩ | ⟨h, -⟩
      · exact hg (by rw [← h, ← hpa]; exact hpa8.1)
      · exact f14 h (hpa.symm.trans e)
    · rcases f12.2.2.2.1 with ⟨-, h⟩ | ⟨h, -⟩
      · exact hg (by rw [← h, ← e]; exact hpa8.1)
      · exact hpa (by rw [e]; exact h.1)
  · have hk : k < T.1.1 + 1 := hk
    show zh_R S' 0 (va_up ap T.1.1 q k) = some (va_up ad T.1.1 d k) ∧ zh_at S' 0 (va_up ad T.1.1 d k) ∧ zh_I S' 10 (va_up ap T.1.1 q k) = nI (zh_u (zh_u T.2 0 T.1.1 sd) 1 T.1.1 sd 0 k) ∧ zh_I S' 0 (va_up ad T.1.1 d k) = nI (zh_u (zh_u T.2 0 T.1.1 sd) 1 T.1.1 sd 1 k) ∧ zh_I S' 11 (va_up ap T.1.1 q k) = nI (zh_u (zh_u T.2 0 T.1.1 sd) 1 T.1.1 sd 2 k) ∧ zh_I S' 12 (va_up ap T.1.1 q k) = nI (zh_u (zh_u T.2 0 T.1.1 sd) 1 T.1.1 sd 3 k)
    rw [hR _ _ (by decide), hI _ _ (by decide) (by decide), hI _ _ (by decide) (by decide), hI _ _ (by decide) (by decide), hI _ _ (by decide) (by decide), zh_u_j (zh_u T.2 0 T.1.1 sd) _ _ _ (show 0 ≠ 1 by decide), zh_u_j (zh_u T.2 0 T.1.1 sd) _ _ _ (show 2 ≠ 1 by decide), zh_u_j (zh_u T.2 0 T.1.1 sd) _ _ _ (show 3 ≠ 1 by decide), zh_u_j T.2 _ _ _ (show 2 ≠ 0 by decide), zh_u_j T.2 _ _ _ (show 3 ≠ 0 by decide)]
    by_cases e : k = T.1.1
    · rw [e, va_up_self, va_up_self, zh_u_s, zh_u_s]
      have h6 := hT.2.2.2.2.2.1 T.1.1 (Nat.le_refl _)
      rw [h6.1, h6.2]
      exact ⟨e1, hat _ _ hd, e2, e3, e4, e5⟩
    · rw [va_up_ne _ _ e, va_up_ne _ _ e, zh_u_a _ _ _ _ e, zh_u_a _ _ _ _ e, zh_u_j _ _ _ _ (show 1 ≠ 0 by decide)]
      have h6 := f15 k (by omega)
      exact ⟨h6.1, hat _ _ h6.2.1, h6.2.2⟩
  · show zh_I S' (2 + j) (ae k) = nI (zh_u (zh_u T.2 0 T.1.1 sd) 1 T.1.1 sd (5 + j) k)
    rw [hI _ _ (by omega) (by omega), zh_u_j _ _ _ _ (by omega), zh_u_j _ _ _ _ (by omega)]
    exact f16 k hk j hj
  · have hi : i < T.1.1 + 1 := hi
    have hj : j < T.1.1 + 1 := hj
    by_cases ei : i = T.1.1
    · by_cases ej : j = T.1.1
      · omega
      · rw [ei, va_up_self, va_up_ne _ _ ej] at e
        exact absurd e.symm (nq j (by omega))
    · by_cases ej : j = T.1.1
      · rw [ej, va_up_self, va_up_ne _ _ ei] at e
        exact absurd e (nq i (by omega))
      · rw [va_up_ne _ _ ei, va_up_ne _ _ ej] at e
        exact f17 i j (by omega) (by omega) e
  · have hi : i < T.1.1 + 1 := hi
    have hj : j < T.1.1 + 1 := hj
    by_cases ei : i = T.1.1
    · by_cases ej : j = T.1.1
      · omega
      · rw [ei, va_up_self, va_up_ne _ _ ej] at e
        exact absurd e.symm (nd j (by omega))
    · by_cases ej : j = T.1.1
      · rw [ej, va_up_self, va_up_ne _ _ ei] at e
        exact absurd e (nd i (by omega))
      · rw [va_up_ne _ _ ei, va_up_ne _ _ ej] at e
        exact f18 i j (by omega) (by omega) e
/-- one entry more -/
theorem FR_addE {g : zG} {S S' : zS} {T T' : zT} {x pl lo pt ty pa la : Nat} {ap ad ae : Nat → Nat} {q : Nat} (hF : FR g S T x pl lo pt ty pa la ap ad ae) (hA : zl_add S S' lo la T.1.2 q) (hq : zh_at S 1 q) (nq : ∀ k : Nat, k < T.1.2 → ae k ≠ q) (hp : 0 < T.1.1) (t0 : T'.1 = (T.1.1, T.1.2 + 1)) (t1 : ∀ j k : Nat, j < 5 → T'.2 j k = T.2 j k) (t2 : ∀ j k : Nat, j < 8 → k < T.1.2 → T'.2 (5 + j) k = T.2 (5 + j) k) (t3 : ∀ j : Nat, j < 8 → zh_I S (2 + j) q = nI (T'.2 (5 + j) T.1.2)) : FE g S' T' x := by
  obtain ⟨⟨f1, f2, f3, f4, f5⟩, ⟨f6, f7, f8, f9, f10⟩, f11, f12, f13, f14, f15, f16, f17, f18, f19⟩ := hF
  have hat : ∀ k a : Nat, zh_at S k a → zh_at S' k a := fun k a h => ⟨(hA.1 _ h.1).1, (hA.1 _ h.1).2.1.trans h.2⟩
  have hI : ∀ j a : Nat, j ≠ 30 → j ≠ 31 → zh_I S' j a = zh_I S j a := fun j a h h2 => hA.2.1 j a h (Or.inl h2)
  have hR : ∀ j a : Nat, j ≠ 30 → zh_R S' j a = zh_R S j a := fun j a h => hA.2.2.1 j a (Or.inl h)
  obtain ⟨la', hL, hla, hla8⟩ := FL_add f12 hA hq
  have hpa : zh_at S 8 pa := f11.2.2.2.1.elim (fun h => absurd h.1 (by omega)) (fun h => h.1)
  have n1 : T'.1.1 = T.1.1 := by rw [t0]
  have n2 : T'.1.2 = T.1.2 + 1 := by rw [t0]
  refine ⟨pl, lo, pt, ty, pa, la', ap, ad, va_up ae T.1.2 q, ⟨hat _ _ f1, (hR 1 x (by decide)).trans f2, (hR 2 x (by decide)).trans f3, (hR 3 x (by decide)).trans f4, (hR 4 x (by decide)).trans f5⟩, ⟨hat _ _ f6, (hA.1 _ f6.1).2.2.1.trans f7, hat _ _ f8, (hA.1 _ f8.1).2.2.1.trans f9, fun t ht => ?_⟩, ?_, ?_, f13, fun _ e => ?_, fun k hk => ?_, fun k hk j hj => ?_, fun i j hi hj => ?_, fun i j hi hj => ?_, fun i j hi hj e => ?_⟩
  · rw [(hA.1 _ f6.1).2.2.2.1, f10 t ht, t1 4 t (by decide)]
  · rw [n1]; exact FL_keep f11 hA f13 f14
  · rw [n2]; exact hL
  · rcases hla with h | h
    · exact f14 hpa (e.trans h)
    · exact h (by rw [← e]; exact hpa.1)
  · rw [n1] at hk
    rw [hR _ _ (by decide), hI _ _ (by decide) (by decide), hI _ _ (by decide) (by decide), hI _ _ (by decide) (by decide), hI _ _ (by decide) (by decide), t1 0 k (by decide), t1 1 k (by decide), t1 2 k (by decide), t1 3 k (by decide)]
    have h6 := f15 k hk
    exact ⟨h6.1, hat _ _ h6.2.1, h6.2.2⟩
  · rw [n2] at hk
    rw [hI _ _ (by omega) (by omega)]
    by_cases e : k = T.1.2
    · rw [e, va_up_self]; exact t3 j hj
    · rw [va_up_ne _ _ e, t2 j k hj (by omega)]; exact f16 k (by omega) j hj
  · rw [n1] at hi hj; exact f17 i j hi hj
  · rw [n1] at hi hj; exact f18 i j hi hj
  · rw [n2] at hi hj
    by_cases ei : i = T.1.2
    · by_cases ej : j = T.1.2
      · omega
      · rw [ei, va_up_self, va_up_ne _ _ ej] at e
        exact absurd e.symm (nq j (by omega))
    · by_cases ej : j = T.1.2
      · rw [ej, va_up_self, va_up_ne _ _ ei] at e
        exact absurd e (nq i (by omega))
      · rw [va_up_ne _ _ ei, va_up_ne _ _ ej] at e
        exact f19 i j (by omega) (by omega) e
/-- a promise's draws move on -/
theorem FR_drawn {g : zG} {S : zS} {T : zT} {x pl lo pt ty pa la : Nat} {ap ad ae : Nat → Nat} (hF : FR g S T x pl lo pt ty pa la ap ad ae) {k : Nat} (a r : Nat) (hk : k < T.1.1) : FR g (zD S (ad k) a r) (zt_s T 1 k a) x pl lo pt ty pa la ap ad ae := by
  have hF0 := hF
  obtain ⟨⟨f1, f2, f3, f4, f5⟩, ⟨f6, f7, f8, f9, f10⟩, f11, f12, f13, f14, f15, f16, f17, f18, f19⟩ := hF
  have hI : ∀ j b : Nat, j ≠ 0 → j ≠ 1 → zh_I (zD S (ad k) a r) j b = zh_I S j b := fun j b h h2 => (zI_j _ _ _ _ h2).trans (zI_j _ _ _ _ h)
  refine FR_mk hF0 (fun k a h => ⟨h, rfl, rfl, fun _ => rfl⟩) rfl (fun a _ => hI _ _ (by decide) (by decide)) (fun t ht => ?_) (fun i hi => ?_) (fun i hi j hj => ?_) id
  · rw [zt_s_j _ _ _ _ (by omega)]; exact f10 t ht
  · obtain ⟨-, -, q3, q4, q5, q6⟩ := f15 i hi
    rw [show (zt_s T 1 k a).2 0 i = T.2 0 i from zt_s_j _ _ _ _ (by decide), show (zt_s T 1 k a).2 2 i = T.2 2 i from zt_s_j _ _ _ _ (by decide), show (zt_s T 1 k a).2 3 i = T.2 3 i from zt_s_j _ _ _ _ (by decide)]
    refine ⟨(hI _ _ (by decide) (by decide)).trans q3, ?_, (hI _ _ (by decide) (by decide)).trans q5, (hI _ _ (by decide) (by decide)).trans q6⟩
    by_cases e : i = k
    · subst e; rw [zt_s_s]; exact zD_0 S (ad i) a r
    · rw [zt_s_k _ _ _ _ e]
      exact (zI_a _ _ _ _ (fun h => e (f18 _ _ hi hk h))).trans ((zI_a _ _ _ _ (fun h => e (f18 _ _ hi hk h))).trans q4)
  · rw [zt_s_j _ _ _ _ (by omega)]; exact (hI _ _ (by omega) (by omega)).trans (f16 i hi j hj)
/-- an entry that isn't in the log is written -/
theorem FR_oth {g : zG} {S : zS} {T : zT} {x pl lo pt ty pa la : Nat} {ap ad ae : Nat → Nat} (hF : FR g S T x pl lo pt ty pa la ap ad ae) {q j : Nat} (v : Int32) (nq : ∀ k : Nat, k < T.1.2 → ae k ≠ q) (h2 : 2 ≤ j) (h9 : j ≤ 9) : FR g (zh_sI S j q v) T x pl lo pt ty pa la ap ad ae := by
  have hF0 := hF
  obtain ⟨⟨f1, f2, f3, f4, f5⟩, ⟨f6, f7, f8, f9, f10⟩, f11, f12, f13, f14, f15, f16, f17, f18, f19⟩ := hF
  refine FR_mk hF0 (fun k a h => ⟨h, rfl, rfl, fun _ => rfl⟩) rfl (fun a _ => zI_j _ _ _ _ (by omega)) f10 (fun i hi => ?_) (fun i hi j hj => (zI_a _ _ _ _ (nq i hi)).trans (f16 i hi j hj)) id
  obtain ⟨-, -, q3, q4, q5, q6⟩ := f15 i hi
  exact ⟨(zI_j _ _ _ _ (by omega)).trans q3, (zI_j _ _ _ _ (by omega)).trans q4, (zI_j _ _ _ _ (by omega)).trans q5, (zI_j _ _ _ _ (by omega)).trans q6⟩
/-- a new promise with its draws, in no list -/
def zs_pr (S : zS) (q d : Nat) (sd : Int32) : zS := zh_sR (zh_sI (zh_nO (zh_sI (zh_nO S q 2) 10 q sd) d 0) 0 d sd) 0 q (some d)
theorem FR_pr {g : zG} {S : zS} {T : zT} {x pl lo pt ty pa la : Nat} {ap ad ae : Nat → Nat} (hF : FR g S T x pl lo pt ty pa la ap ad ae) {q d : Nat} (sd : Int32) (hq : q ∉ zh_L S) (hd : d ∉ zh_L S) (hdq : d ≠ q) : FR g (zs_pr S q d sd) T x pl lo pt ty pa la ap ad ae ∧ zk_ S (zs_pr S q d sd) := by
  have n1 : ∀ a : Nat, a ∈ zh_L S → a ≠ q := fun a h e => hq (e ▸ h)
  have n2 : ∀ a : Nat, a ∈ zh_L S → a ≠ d := fun a h e => hd (e ▸ h)
  have hI : ∀ j a : Nat, a ∈ zh_L S → zh_I (zs_pr S q d sd) j a = zh_I S j a := fun j a h => by
    show zh_u (fun j a => if a = d then 0 else zh_u (fun j a => if a = q then 0 else zh_I S j a) 10 q sd j a) 0 d sd j a = _
    rw [zh_u_a _ _ _ _ (n2 a h), if_neg (n2 a h), zh_u_a _ _ _ _ (n1 a h), if_neg (n1 a h)]
  have hR : ∀ j a : Nat, a ∈ zh_L S → zh_R (zs_pr S q d sd) j a = zh_R S j a := fun j a h => by
    show zh_u (fun j a => if a = d then none else (if a = q then none else zh_R S j a)) 0 q (some d) j a = _
    rw [zh_u_a _ _ _ _ (n1 a h), if_neg (n2 a h), if_neg (n1 a h)]
  have hL : ∀ a : Nat, a ∈ zh_L S → a ∈ zh_L (zs_pr S q d sd) := fun a h => List.mem_append_left _ (List.mem_append_left _ h)
  have hK : ∀ a : Nat, a ∈ zh_L S → zh_K (zs_pr S q d sd) a = zh_K S a := fun a h => by
    show va_up (va_up (zh_K S) q 2) d 0 a = _
    rw [va_up_ne _ _ (n2 a h), va_up_ne _ _ (n1 a h)]
  refine ⟨?_, fun a h => ⟨hL a h, hK a h, rfl, rfl⟩⟩
  have hF0 := hF
  obtain ⟨⟨f1, f2, f3, f4, f5⟩, ⟨f6, f7, f8, f9, f10⟩, f11, f12, f13, f14, f15, f16, f17, f18, f19⟩ := hF
  refine FR_mk hF0 (fun k a h => ⟨⟨hL a h.1, (hK a h.1).trans h.2⟩, rfl, rfl, fun j => hR j a h.1⟩) rfl (fun a h => hI 31 a h.1) f10 (fun i hi => ?_) (fun i hi j hj => ?_) (fun h => ?_)
  · obtain ⟨q1, q2, q3, q4, q5, q6⟩ := f15 i hi
    have e := (f11.2.2.2.2 i hi).2.1
    rw [hI _ _ e, hI _ _ q2.1, hI _ _ e, hI _ _ e]
    exact ⟨q3, q4, q5, q6⟩
  · rw [hI _ _ (f12.2.2.2.2 i hi).2.1]; exact f16 i hi j hj
  · have h1 := zh_at_nO_inv (S := zh_sI (zh_nO S q 2) 10 q sd) (d := d) (k0 := 0) (k := 8) (a := pa) h (by decide)
    exact zh_at_nO_inv (S := S) (d := q) (k0 := 2) h1 (by decide)
theorem zs_pr_I (S : zS) {q d : Nat} (sd : Int32) (h : d ≠ q) : zh_I (zs_pr S q d sd) 10 q = sd ∧ zh_I (zs_pr S q d sd) 0 d = sd ∧ zh_I (zs_pr S q d sd) 11 q = 0 ∧ zh_I (zs_pr S q d sd) 12 q = 0 := by
  have e : ∀ j a : Nat, zh_I (zs_pr S q d sd) j a = (if j = 0 ∧ a = d then sd else if a = d then 0 else if j = 10 ∧ a = q then sd else if a = q then 0 else zh_I S j a) := fun j a => rfl
  have h2 : ¬ q = d := fun h9 => h h9.symm
  rw [e, e, e, e]
  simp [h2]
theorem FL_hel {g : zG} {S : zS} {pl n ar kd : Nat} {el : Nat → Nat} (h : FL g S pl n ar kd el) (hkd : kd = 1 ∨ kd = 2) : ∀ i : Nat, i < n → ∀ y : Nat, zh_Q S ar i = some y → zh_at S 1 y ∨ zh_at S 2 y := fun i hi y hy => by
  obtain ⟨h1, h2⟩ := h.2.2.2.2 i hi
  cases h1.symm.trans hy
  rcases hkd with rfl | rfl
  · exact Or.inl h2
  · exact Or.inr h2
theorem zi_s65 {y : Int32} (h : ¬ y < 0) (h2 : y < 65536) : ¬ zi 65536 y := fun h9 => h9.elim h (fun h3 => zi_nlt h2 h3)

set_option maxRecDepth 100000 in
set_option maxHeartbeats 4000000 in
theorem k_X3_promise (l : Launch) (g : zG) (hst : l.stackTraces = false) (S : zS) (T : zT) (x pl lo pt ty pa la : Nat) (ap ad ae : Nat → Nat) (hT : zt_ok T) (hF : FR g S T x pl lo pt ty pa la ap ad ae) (i : Int32) : zX l yX3_promise cX3_promise 2 (some .int) (zrm 8 4 220) g [.ref x, .int i] S (fun w S' => zc_promise T i = 0 ∧ w = some (.int (nI T.1.1)) ∧ FE g S' (zs_promise T i) x ∧ zk_ S S') (fun E S' => ((zc_promise T i = 1 ∧ E = zn_IA) ∨ (zc_promise T i = 2 ∧ E = zn_IS)) ∧ S' = S) := by
  refine zX_of (nm := "promise") (by decide) rfl (Nat.le_of_ble_eq_true rfl) ?_
  intro p e s m args below meth c A ls C hr hlk hxt I hl
  have C : CallFix p m c cX3_promise 2 s args zc_W RX3 := C
  have hx := C.1
  have hb := C.2.1
  have hl : lv_has ls 2 [(0, .ref x), (1, .int i)] := hl
  have hF0 := hF
  obtain ⟨⟨f1, f2, f3, f4, f5⟩, ⟨f6, f7, f8, f9, f10⟩, f11, f12, f13, f14, f15, f16, f17, f18, f19⟩ := hF
  obtain ⟨t1, t2, t3, t4, t5, t6, t7⟩ := hT
  have hT0 : zt_ok T := ⟨t1, t2, t3, t4, t5, t6, t7⟩
  rcases zi_cases i (n := 65536) (by omega) with hb0 | ⟨hb0, hj0, hi0⟩
  · refine lv_iload_n hx hb dX3_promise_0 rfl (lv_at hl 1 rfl) ?_
    refine lv_if_lt (tgt := 10) hx hb dX3_promise_1 (by decide) (fun c1 => ?_) (fun c1 => ?_)
    · exact zr_throw (cls := "java/lang/IllegalArgumentException") (text := "a seed is 0 to 65535") (ik := 27) (is := 29) (ic := 31) C I hst hxt hlk rfl zt_fitIA zt_fitn zm_87 zm_23 (by decide +kernel) zt_aIA zt_bIA zt_cIA hl.1 dX3_promise_10 dX3_promise_13 dX3_promise_14 dX3_promise_16 dX3_promise_19 (Nat.le_of_ble_eq_true rfl) (Nat.le_of_ble_eq_true rfl) (Nat.le_of_ble_eq_true rfl) (Nat.le_of_ble_eq_true rfl) (⟨Or.inl ⟨if_pos hb0, rfl⟩, rfl⟩) (Nat.le_of_ble_eq_true rfl) (Nat.le_of_ble_eq_true rfl)
    · have hlt : ¬ i < 65536 := fun h => hb0.elim c1 (fun h3 => zi_nlt h h3)
      refine lv_iload_n hx hb dX3_promise_4 rfl (lv_at hl 1 rfl) ?_
      refine lv_ldc (v := 65536) hx hb C.2.2.2.1 (C.2.2.2.2 _ zm_86) dX3_promise_5 ?_
      refine lv_icmp_lt (tgt := 20) hx hb dX3_promise_7 (by decide) (fun h9 => absurd h9 (hlt)) (fun _ => ?_)
      exact zr_throw (cls := "java/lang/IllegalArgumentException") (text := "a seed is 0 to 65535") (ik := 27) (is := 29) (ic := 31) C I hst hxt hlk rfl zt_fitIA zt_fitn zm_87 zm_23 (by decide +kernel) zt_aIA zt_bIA zt_cIA hl.1 dX3_promise_10 dX3_promise_13 dX3_promise_14 dX3_promise_16 dX3_promise_19 (Nat.le_of_ble_eq_true rfl) (Nat.le_of_ble_eq_true rfl) (Nat.le_of_ble_eq_true rfl) (Nat.le_of_ble_eq_true rfl) (⟨Or.inl ⟨if_pos hb0, rfl⟩, rfl⟩) (Nat.le_of_ble_eq_true rfl) (Nat.le_of_ble_eq_true rfl)
  · obtain ⟨sd, hsd, rfl⟩ : ∃ sd : Nat, sd < 65536 ∧ i = nI sd := ⟨_, hj0, hi0⟩
    clear hj0 hi0
    have hsz : zx (nI sd) = sd := zx_nI (by omega)
    refine lv_iload_n hx hb dX3_promise_0 rfl (lv_at hl 1 rfl) ?_
    refine lv_if_lt (tgt := 10) hx hb dX3_promise_1 (by decide) (fun h9 => absurd h9 (fun h8 => absurd ((nI_ltI (a := sd) (b := 0) (by omega) (by omega)).mp h8) (by omega))) (fun _ => ?_)
    refine lv_iload_n hx hb dX3_promise_4 rfl (lv_at hl 1 rfl) ?_
    refine lv_ldc (v := 65536) hx hb C.2.2.2.1 (C.2.2.2.2 _ zm_86) dX3_promise_5 ?_
    refine lv_icmp_lt (tgt := 20) hx hb dX3_promise_7 (by decide) (fun _ => ?_) (fun h9 => absurd ((nI_ltI (a := sd) (b := 65536) (by omega) (by omega)).mpr (by omega)) h9)
    refine lv_aload_n hx hb dX3_promise_20 rfl (lv_at hl 0 rfl) ?_
    refine zg_Forge_promises (v := pl) C I f1 zm_68 (f2) dX3_promise_21 ?_
    refine zc_V (n := 0) (rest := []) C I f11.1 rfl rfl (k_Jx4a65c_size_8abf5 l g S pl T.1.1 f11.1 f11.2.1) zm_144 zm_145 zm_146 zm_19 zm_147 rfl hl.1 dX3_promise_24 (by decide +kernel) rfl ⟨Nat.le_of_ble_eq_true rfl, Nat.le_of_ble_eq_true rfl⟩ (Nat.le_of_ble_eq_true rfl) ⟨Nat.le_of_ble_eq_true rfl, Nat.le_of_ble_eq_true rfl⟩ (fun v S' H locs hq I => ?_)
    obtain ⟨rfl, eS⟩ := hq
    rw [eS] at I
    refine lv_bipush (v := 16) hx hb dX3_promise_27 (by decide) ?_
    refine lv_icmp_lt (tgt := 42) hx hb dX3_promise_29 (by decide) (fun c29 => ?_) (fun c29 => ?_)
    · have c29 : T.1.1 < 16 := (nI_ltI (a := T.1.1) (b := 16) (by omega) (by omega)).mp c29
      refine lv_aload_n hx hb dX3_promise_42 rfl (lv_at hl 0 rfl) ?_
      refine zg_Forge_promises (v := pl) C I f1 zm_68 (f2) dX3_promise_43 ?_
      refine zw_Promise C I zm_162 zm_163 zm_25 (Nat.le_of_ble_eq_true rfl) (Nat.le_of_ble_eq_true rfl) dX3_promise_46 (fun q46 H hq46 I => ?_)
      refine lv_dup hx hb dX3_promise_49 rfl ?_
      refine lv_iload_n hx hb dX3_promise_50 rfl (lv_at hl 1 rfl) ?_
      refine zc_IN (host := "DiceForge") (n := 1) (rest := [.ref q46, .ref pl]) C I (k_X2_init l g (zh_nO S q46 2) q46 (nI sd) zh_at_new) (by decide +kernel) zm_164 zm_25 zm_165 rfl rfl hl.1 dX3_promise_51 (by decide +kernel) rfl ⟨Nat.le_of_ble_eq_true rfl, Nat.le_of_ble_eq_true rfl⟩ (Nat.le_of_ble_eq_true rfl) ⟨Nat.le_of_ble_eq_true rfl, Nat.le_of_ble_eq_true rfl⟩ (fun v S' H locs hq I => ?_)
      obtain ⟨rfl, dd, hd1, eS⟩ := hq
      rw [eS] at I
      have I : zh_V g A s [] (zs_pr S q46 dd (nI sd)) H locs := I
      have hd2 : dd ∉ zh_L S := fun h => hd1 (List.mem_append_left _ h)
      have hd3 : dd ≠ q46 := fun h => hd1 (by rw [h]; exact List.mem_append_right _ (List.mem_singleton.mpr rfl))
      have hFk := FR_pr hF0 (nI sd) hq46 hd2 hd3
      have nq : ∀ k : Nat, k < T.1.1 → ap k ≠ q46 := fun k hk h => hq46 (h ▸ (f11.2.2.2.2 k hk).2.1)
      have nd : ∀ k : Nat, k < T.1.1 → ad k ≠ dd := fun k hk h => hd2 (h ▸ (f15 k hk).2.1.1)
      obtain ⟨⟨f1, f2, f3, f4, f5⟩, ⟨f6, f7, f8, f9, f10⟩, f11, f12, f13, f14, f15, f16, f17, f18, f19⟩ := id hFk.1
      have hq2 : zh_at (zs_pr S q46 dd (nI sd)) 2 q46 := zh_at_nO (S := zh_sI (zh_nO S q46 2) 10 q46 (nI sd)) (k := 2) zh_at_new hd1
      have hd4 : zh_at (zs_pr S q46 dd (nI sd)) 0 dd := zh_at_new (S := zh_sI (zh_nO S q46 2) 10 q46 (nI sd))
      refine zc_V (n := 1) (rest := []) C I f11.1 rfl rfl (k_add l g (zs_pr S q46 dd (nI sd)) pl pa T.1.1 q46 2 f11.1 f11.2.1 f11.2.2.1 f11.2.2.2.1 (by omega) hq2 (Or.inr rfl) (FL_hel f11 (Or.inr rfl))) zm_190 zm_191 zm_192 zm_19 zm_193 rfl hl.1 dX3_promise_54 (by decide +kernel) rfl ⟨Nat.le_of_ble_eq_true rfl, Nat.le_of_ble_eq_true rfl⟩ (Nat.le_of_ble_eq_true rfl) ⟨Nat.le_of_ble_eq_true rfl, Nat.le_of_ble_eq_true rfl⟩ (fun v S' H locs hq I => ?_)
      obtain ⟨rfl, hA⟩ := hq
      have hpi := zs_pr_I S (nI sd) hd3
      have hE : FE g S' (zs_promised T sd) x := FR_addP (d := dd) hFk.1 hA hq2 hd4 (zh_u_s _ _ _ _) hpi.1 hpi.2.1 hpi.2.2.1 hpi.2.2.2 nq nd (zn_out I) hT0
      refine lv_pop hx hb dX3_promise_57 rfl ?_
      refine lv_aload_n hx hb dX3_promise_58 rfl (lv_at hl 0 rfl) ?_
      refine zg_Forge_promises (v := pl) C I ⟨(hA.1 _ f1.1).1, (hA.1 _ f1.1).2.1.trans f1.2⟩ zm_68 ((hA.2.2.1 1 x (Or.inl (by decide))).trans f2) dX3_promise_59 ?_
      refine zc_V (n := 0) (rest := []) C I ⟨(hA.1 _ f11.1.1).1, (hA.1 _ f11.1.1).2.1.trans f11.1.2⟩ rfl rfl (k_Jx4a65c_size_8abf5 l g S' pl (T.1.1 + 1) ⟨(hA.1 _ f11.1.1).1, (hA.1 _ f11.1.1).2.1.trans f11.1.2⟩ hA.2.2.2.1) zm_144 zm_145 zm_146 zm_19 zm_147 rfl hl.1 dX3_promise_62 (by decide +kernel) rfl ⟨Nat.le_of_ble_eq_true rfl, Nat.le_of_ble_eq_true rfl⟩ (Nat.le_of_ble_eq_true rfl) ⟨Nat.le_of_ble_eq_true rfl, Nat.le_of_ble_eq_true rfl⟩ (fun v S' H locs hq I => ?_)
      obtain ⟨rfl, eS⟩ := hq
      rw [eS] at I
      have hc : zc_promise T (nI sd) = 0 := by unfold zc_promise; rw [if_neg hb0, if_neg (by omega)]
      refine lv_iconst (v := 1) hx hb dX3_promise_65 (by decide) ?_
      refine lv_isub hx hb dX3_promise_66 ?_
      refine zr_top (y := nI T.1.1) (pk_sub (a := T.1.1 + 1) (b := 1) (by omega)) ?_
      exact vx_ret (zr_iret C I hr hlk (⟨hc, rfl, by unfold zs_promise; rw [if_pos hc, hsz]; exact hE, zk_tr hFk.2 (zl_k hA)⟩) (Nat.le_of_ble_eq_true rfl) (Nat.le_of_ble_eq_true rfl) dX3_promise_67)
    · have c29 : ¬ T.1.1 < 16 := fun h9 => c29 ((nI_ltI (a := T.1.1) (b := 16) (by omega) (by omega)).mpr h9)
      exact zr_throw (cls := "java/lang/IllegalStateException") (text := "there are 16 promises") (ik := 38) (is := 40) (ic := 42) C I hst hxt hlk rfl zt_fitIS zt_fitn zm_148 zm_24 (by decide +kernel) zt_aIS zt_bIS zt_cIS hl.1 dX3_promise_32 dX3_promise_35 dX3_promise_36 dX3_promise_38 dX3_promise_41 (Nat.le_of_ble_eq_true rfl) (Nat.le_of_ble_eq_true rfl) (Nat.le_of_ble_eq_true rfl) (Nat.le_of_ble_eq_true rfl) (⟨Or.inr ⟨by unfold zc_promise; rw [if_neg hb0, if_pos (by omega)], rfl⟩, rfl⟩) (Nat.le_of_ble_eq_true rfl) (Nat.le_of_ble_eq_true rfl)

theorem zs_rolled_v (T : zT) (q u f : Nat) : (zs_rolled T q u f).2 5 T.1.2 = q ∧ (zs_rolled T q u f).2 6 T.1.2 = u ∧ (zs_rolled T q u f).2 7 T.1.2 = T.2 4 u ∧ (zs_rolled T q u f).2 8 T.1.2 = f ∧ (zs_rolled T q u f).2 9 T.1.2 = zd_val (T.2 1 q) (T.2 4 u) f ∧ (zs_rolled T q u f).2 10 T.1.2 = (zd_roll (T.2 1 q) (T.2 4 u) f).2 ∧ (zs_rolled T q u f).2 11 T.1.2 = zd_sum (zb_roll T) q u f (zd_val (T.2 1 q) (T.2 4 u) f) (zd_roll (T.2 1 q) (T.2 4 u) f).2 ∧ (zs_rolled T q u f).2 12 T.1.2 = T.2 12 T.1.2 := by
  refine ⟨?_, ?_, ?_, ?_, ?_, ?_, ?_, ?_⟩ <;> simp [zs_rolled, zh_u]
theorem zs_rolled_lo (T : zT) (q u f : Nat) {j : Nat} (k : Nat) (h : j < 5) : (zs_rolled T q u f).2 j k = (zt_s T 1 q (zd_roll (T.2 1 q) (T.2 4 u) f).1).2 j k := (zh_u_j _ _ _ _ (by omega)).trans ((zh_u_j _ _ _ _ (by omega)).trans ((zh_u_j _ _ _ _ (by omega)).trans ((zh_u_j _ _ _ _ (by omega)).trans ((zh_u_j _ _ _ _ (by omega)).trans ((zh_u_j _ _ _ _ (by omega)).trans (zh_u_j _ _ _ _ (by omega)))))))
theorem zs_rolled_k (T : zT) (q u f : Nat) (j : Nat) {k : Nat} (h : k < T.1.2) : (zs_rolled T q u f).2 (5 + j) k = (zt_s T 1 q (zd_roll (T.2 1 q) (T.2 4 u) f).1).2 (5 + j) k := (zh_u_a _ _ _ _ (by omega)).trans ((zh_u_a _ _ _ _ (by omega)).trans ((zh_u_a _ _ _ _ (by omega)).trans ((zh_u_a _ _ _ _ (by omega)).trans ((zh_u_a _ _ _ _ (by omega)).trans ((zh_u_a _ _ _ _ (by omega)).trans (zh_u_a _ _ _ _ (by omega)))))))
theorem zd_val_le {st pt f : Nat} (h : 2 ≤ f) : zd_val st pt f ≤ f := by
  have h1 := Nat.mod_lt (zd_roll st pt f).1 (show 0 < f by omega)
  unfold zd_val; omega
theorem zb_roll_lt {T : zT} (h : zt_ok T) : zb_roll T < 1000003 := by
  unfold zb_roll
  split
  · decide
  · exact (h.2.2.2.2.1 _ (by omega)).2.2.2.2.2.2.2.2.1

set_option maxRecDepth 100000 in
set_option maxHeartbeats 4000000 in
theorem k_X3_roll (l : Launch) (g : zG) (hst : l.stackTraces = false) (S : zS) (T : zT) (x pl lo pt ty pa la : Nat) (ap ad ae : Nat → Nat) (hT : zt_ok T) (hF : FR g S T x pl lo pt ty pa la ap ad ae) (i y z : Int32) : zX l yX3_roll cX3_roll 6 (some .int) (zrm 8 7 250) g [.ref x, .int i, .int y, .int z] S (fun w S' => zc_roll T i y z = 0 ∧ w = some (.int (nI (zr_roll T i y z))) ∧ FE g S' (zs_roll T i y z) x ∧ zk_ S S') (fun E S' => ((zc_roll T i y z = 1 ∧ E = zn_IO) ∨ (zc_roll T i y z = 2 ∧ E = zn_IA) ∨ (zc_roll T i y z = 3 ∧ E = zn_IS)) ∧ S' = S) := by
  refine zX_of (nm := "roll") (by decide) rfl (Nat.le_of_ble_eq_true rfl) ?_
  intro p e s m args below meth c A ls C hr hlk hxt I hl
  have C : CallFix p m c cX3_roll 6 s args zc_W RX3 := C
  have hx := C.1
  have hb := C.2.1
  have hl : lv_has ls 6 [(0, .ref x), (1, .int i), (2, .int y), (3, .int z)] := hl
  have hF0 := hF
  obtain ⟨⟨f1, f2, f3, f4, f5⟩, ⟨f6, f7, f8, f9, f10⟩, f11, f12, f13, f14, f15, f16, f17, f18, f19⟩ := hF
  obtain ⟨t1, t2, t3, t4, t5, t6, t7⟩ := hT
  have hT0 : zt_ok T := ⟨t1, t2, t3, t4, t5, t6, t7⟩
  rcases zi_cases i (n := T.1.1) (by omega) with hbi | ⟨hbi, hj0, hi0⟩
  · refine lv_aload_n hx hb dX3_roll_0 rfl (lv_at hl 0 rfl) ?_
    refine lv_iload_n hx hb dX3_roll_1 rfl (lv_at hl 1 rfl) ?_
    refine zc_VX (n := 1) (rest := []) C I f1 rfl rfl (k_X3_promiseAt l g hst S x pl T.1.1 pa ap i f1 f2 f11 (by omega)) zm_280 zm_281 zm_4 zm_16 zm_282 rfl hl.1 dX3_roll_2 (by decide +kernel) rfl ⟨Nat.le_of_ble_eq_true rfl, Nat.le_of_ble_eq_true rfl⟩ (Nat.le_of_ble_eq_true rfl) ⟨Nat.le_of_ble_eq_true rfl, Nat.le_of_ble_eq_true rfl⟩ (fun E ce q9 S' H locs hq I h1 h2 h3 => ?_) (fun v S' H locs hq I => ?_)
    · obtain ⟨hE, hz, eS⟩ := hq
      rw [eS] at I
      exact zr_out I hxt hlk (⟨Or.inl ⟨if_pos (Or.inl hz), hE⟩, rfl⟩) h1 h2 h3 (Nat.le_of_ble_eq_true rfl) (Nat.le_of_ble_eq_true rfl)
    · exact absurd hbi hq.1
  · obtain ⟨q, hqn, rfl⟩ : ∃ q : Nat, q < T.1.1 ∧ i = nI q := ⟨_, hj0, hi0⟩
    clear hj0 hi0
    have hqz : zx (nI q) = q := zx_nI (by omega)
    rcases zi_cases y (n := 4) (by omega) with hby | ⟨hby, hj0, hi0⟩
    · refine lv_aload_n hx hb dX3_roll_0 rfl (lv_at hl 0 rfl) ?_
      refine lv_iload_n hx hb dX3_roll_1 rfl (lv_at hl 1 rfl) ?_
      refine zc_VX (n := 1) (rest := []) C I f1 rfl rfl (k_X3_promiseAt l g hst S x pl T.1.1 pa ap (nI q) f1 f2 f11 (by omega)) zm_280 zm_281 zm_4 zm_16 zm_282 rfl hl.1 dX3_roll_2 (by decide +kernel) rfl ⟨Nat.le_of_ble_eq_true rfl, Nat.le_of_ble_eq_true rfl⟩ (Nat.le_of_ble_eq_true rfl) ⟨Nat.le_of_ble_eq_true rfl, Nat.le_of_ble_eq_true rfl⟩ (fun E ce q9 S' H locs hq I h1 h2 h3 => ?_) (fun v S' H locs hq I => ?_)
      · exact absurd hq.2.1 hbi
      · obtain ⟨hz, rfl, eS⟩ := hq
        rw [eS] at I
        rw [hqz]
        refine lv_astore (lv' := [(4, .ref (ap q)), (0, .ref x), (1, .int (nI q)), (2, .int y), (3, .int z)]) hx hb dX3_roll_5 hl (by decide) rfl (fun ls hl => ?_)
        refine lv_iload_n hx hb dX3_roll_7 rfl (lv_at hl 3 rfl) ?_
        refine zc_SX (n := 1) (rest := []) C I (k_X3_requireTable l g hst S y) zm_245 zm_246 zm_16 zm_247 rfl hl.1 dX3_roll_8 (by decide +kernel) rfl ⟨Nat.le_of_ble_eq_true rfl, Nat.le_of_ble_eq_true rfl⟩ (Nat.le_of_ble_eq_true rfl) ⟨Nat.le_of_ble_eq_true rfl, Nat.le_of_ble_eq_true rfl⟩ (fun E ce q9 S' H locs hq I h1 h2 h3 => ?_) (fun v S' H locs hq I => ?_)
        · obtain ⟨hE, hz2, eS⟩ := hq
          rw [eS] at I
          exact zr_out I hxt hlk (⟨Or.inl ⟨if_pos (Or.inr hz2), hE⟩, rfl⟩) h1 h2 h3 (Nat.le_of_ble_eq_true rfl) (Nat.le_of_ble_eq_true rfl)
        · exact absurd hby hq.1
    · obtain ⟨u, hu, rfl⟩ : ∃ u : Nat, u < 4 ∧ y = nI u := ⟨_, hj0, hi0⟩
      clear hj0 hi0
      have huz : zx (nI u) = u := zx_nI (by omega)
      have hn1 : ¬ (zi T.1.1 (nI q) ∨ zi 4 (nI u)) := fun h => h.elim hbi hby
      by_cases hfx : z < 2 ∨ 1000 < z
      · refine lv_aload_n hx hb dX3_roll_0 rfl (lv_at hl 0 rfl) ?_
        refine lv_iload_n hx hb dX3_roll_1 rfl (lv_at hl 1 rfl) ?_
        refine zc_VX (n := 1) (rest := []) C I f1 rfl rfl (k_X3_promiseAt l g hst S x pl T.1.1 pa ap (nI q) f1 f2 f11 (by omega)) zm_280 zm_281 zm_4 zm_16 zm_282 rfl hl.1 dX3_roll_2 (by decide +kernel) rfl ⟨Nat.le_of_ble_eq_true rfl, Nat.le_of_ble_eq_true rfl⟩ (Nat.le_of_ble_eq_true rfl) ⟨Nat.le_of_ble_eq_true rfl, Nat.le_of_ble_eq_true rfl⟩ (fun E ce q9 S' H locs hq I h1 h2 h3 => ?_) (fun v S' H locs hq I => ?_)
        · exact absurd hq.2.1 hbi
        · obtain ⟨hz, rfl, eS⟩ := hq
          rw [eS] at I
          rw [hqz]
          refine lv_astore (lv' := [(4, .ref (ap q)), (0, .ref x), (1, .int (nI q)), (2, .int (nI u)), (3, .int z)]) hx hb dX3_roll_5 hl (by decide) rfl (fun ls hl => ?_)
          refine lv_iload_n hx hb dX3_roll_7 rfl (lv_at hl 3 rfl) ?_
          refine zc_SX (n := 1) (rest := []) C I (k_X3_requireTable l g hst S (nI u)) zm_245 zm_246 zm_16 zm_247 rfl hl.1 dX3_roll_8 (by decide +kernel) rfl ⟨Nat.le_of_ble_eq_true rfl, Nat.le_of_ble_eq_true rfl⟩ (Nat.le_of_ble_eq_true rfl) ⟨Nat.le_of_ble_eq_true rfl, Nat.le_of_ble_eq_true rfl⟩ (fun E ce q9 S' H locs hq I h1 h2 h3 => ?_) (fun v S' H locs hq I => ?_)
          · exact absurd hq.2.1 hby
          · obtain ⟨hz2, rfl, eS⟩ := hq
            rw [eS] at I
            refine lv_iload_n hx hb dX3_roll_11 rfl (lv_at hl 4 rfl) ?_
            refine zc_SX (n := 1) (rest := []) C I (k_X3_requireFaces l g hst S z) zm_301 zm_302 zm_16 zm_303 rfl hl.1 dX3_roll_12 (by decide +kernel) rfl ⟨Nat.le_of_ble_eq_true rfl, Nat.le_of_ble_eq_true rfl⟩ (Nat.le_of_ble_eq_true rfl) ⟨Nat.le_of_ble_eq_true rfl, Nat.le_of_ble_eq_true rfl⟩ (fun E ce q9 S' H locs hq I h1 h2 h3 => ?_) (fun v S' H locs hq I => ?_)
            · obtain ⟨hE, hz3, eS⟩ := hq
              rw [eS] at I
              exact zr_out I hxt hlk (⟨Or.inr (Or.inl ⟨by unfold zc_roll; rw [if_neg hn1, if_pos hz3], hE⟩), rfl⟩) h1 h2 h3 (Nat.le_of_ble_eq_true rfl) (Nat.le_of_ble_eq_true rfl)
            · exact absurd hfx hq.1
      · obtain ⟨f, hf2, hf3, rfl⟩ := zi_faces hfx
        have hfz : zx (nI f) = f := zx_nI (by omega)
        have hc3 : (T.2 2 q ≠ 0 ∨ 100 ≤ T.1.2) → zc_roll T (nI q) (nI u) (nI f) = 3 := fun h => by unfold zc_roll; rw [if_neg hn1, if_neg hfx, hqz, if_pos h]
        have hc0 : ¬ (T.2 2 q ≠ 0 ∨ 100 ≤ T.1.2) → zc_roll T (nI q) (nI u) (nI f) = 0 := fun h => by unfold zc_roll; rw [if_neg hn1, if_neg hfx, hqz, if_neg h]
        refine lv_aload_n hx hb dX3_roll_0 rfl (lv_at hl 0 rfl) ?_
        refine lv_iload_n hx hb dX3_roll_1 rfl (lv_at hl 1 rfl) ?_
        refine zc_VX (n := 1) (rest := []) C I f1 rfl rfl (k_X3_promiseAt l g hst S x pl T.1.1 pa ap (nI q) f1 f2 f11 (by omega)) zm_280 zm_281 zm_4 zm_16 zm_282 rfl hl.1 dX3_roll_2 (by decide +kernel) rfl ⟨Nat.le_of_ble_eq_true rfl, Nat.le_of_ble_eq_true rfl⟩ (Nat.le_of_ble_eq_true rfl) ⟨Nat.le_of_ble_eq_true rfl, Nat.le_of_ble_eq_true rfl⟩ (fun E ce q9 S' H locs hq I h1 h2 h3 => ?_) (fun v S' H locs hq I => ?_)
        · exact absurd hq.2.1 hbi
        · obtain ⟨hz, rfl, eS⟩ := hq
          rw [eS] at I
          rw [hqz]
          refine lv_astore (lv' := [(4, .ref (ap q)), (0, .ref x), (1, .int (nI q)), (2, .int (nI u)), (3, .int (nI f))]) hx hb dX3_roll_5 hl (by decide) rfl (fun ls hl => ?_)
          refine lv_iload_n hx hb dX3_roll_7 rfl (lv_at hl 3 rfl) ?_
          refine zc_SX (n := 1) (rest := []) C I (k_X3_requireTable l g hst S (nI u)) zm_245 zm_246 zm_16 zm_247 rfl hl.1 dX3_roll_8 (by decide +kernel) rfl ⟨Nat.le_of_ble_eq_true rfl, Nat.le_of_ble_eq_true rfl⟩ (Nat.le_of_ble_eq_true rfl) ⟨Nat.le_of_ble_eq_true rfl, Nat.le_of_ble_eq_true rfl⟩ (fun E ce q9 S' H locs hq I h1 h2 h3 => ?_) (fun v S' H locs hq I => ?_)
          · exact absurd hq.2.1 hby
          · obtain ⟨hz2, rfl, eS⟩ := hq
            rw [eS] at I
            refine lv_iload_n hx hb dX3_roll_11 rfl (lv_at hl 4 rfl) ?_
            refine zc_SX (n := 1) (rest := []) C I (k_X3_requireFaces l g hst S (nI f)) zm_301 zm_302 zm_16 zm_303 rfl hl.1 dX3_roll_12 (by decide +kernel) rfl ⟨Nat.le_of_ble_eq_true rfl, Nat.le_of_ble_eq_true rfl⟩ (Nat.le_of_ble_eq_true rfl) ⟨Nat.le_of_ble_eq_true rfl, Nat.le_of_ble_eq_true rfl⟩ (fun E ce q9 S' H locs hq I h1 h2 h3 => ?_) (fun v S' H locs hq I => ?_)
            · exact absurd hq.2.1 hfx
            · obtain ⟨hz3, rfl, eS⟩ := hq
              rw [eS] at I
              have t3q := t3 q
              have t4u := t4 u
              refine lv_aload hx hb dX3_roll_15 (lv_at hl 0 rfl) ?_
              refine zn_Promise_opened (v := nI (T.2 2 q)) (host := "DiceForge") C I (f11.2.2.2.2 _ hqn).2 (by decide +kernel) ((f15 _ hqn).2.2.2.2.1) dX3_roll_17 ?_
              refine lv_if_eq (tgt := 33) hx hb dX3_roll_20 (by decide) (fun c20 => ?_) (fun c20 => ?_)
              · have c20 : (T.2 2 q) = 0 := (nI_eq (a := T.2 2 q) (b := 0) (by omega) (by omega)).mp c20
                refine lv_aload_n hx hb dX3_roll_33 rfl (lv_at hl 1 rfl) ?_
                refine zg_Forge_log (v := lo) C I f1 zm_69 (f3) dX3_roll_34 ?_
                refine zc_V (n := 0) (rest := []) C I f12.1 rfl rfl (k_Jx4a65c_size_8abf5 l g S lo T.1.2 f12.1 f12.2.1) zm_144 zm_145 zm_146 zm_19 zm_147 rfl hl.1 dX3_roll_37 (by decide +kernel) rfl ⟨Nat.le_of_ble_eq_true rfl, Nat.le_of_ble_eq_true rfl⟩ (Nat.le_of_ble_eq_true rfl) ⟨Nat.le_of_ble_eq_true rfl, Nat.le_of_ble_eq_true rfl⟩ (fun v S' H locs hq I => ?_)
                obtain ⟨rfl, eS⟩ := hq
                rw [eS] at I
                refine lv_bipush (v := 100) hx hb dX3_roll_40 (by decide) ?_
                refine lv_icmp_lt (tgt := 55) hx hb dX3_roll_42 (by decide) (fun c42 => ?_) (fun c42 => ?_)
                · have c42 : T.1.2 < 100 := (nI_ltI (a := T.1.2) (b := 100) (by omega) (by omega)).mp c42
                  have hcz := hc0 (fun h => h.elim (fun h => h c20) (fun h => by omega))
                  refine zw_Entry C I zm_304 zm_305 zm_34 (Nat.le_of_ble_eq_true rfl) (Nat.le_of_ble_eq_true rfl) dX3_roll_55 (fun q55 H hq55 I => ?_)
                  have nq : ∀ k : Nat, k < T.1.2 → ae k ≠ q55 := fun k hk h => hq55 (h ▸ (f12.2.2.2.2 k hk).2.1)
                  have hF1 := FR_nO hF0 hq55 (k0 := 1) (by decide)
                  obtain ⟨⟨f1, f2, f3, f4, f5⟩, ⟨f6, f7, f8, f9, f10⟩, f11, f12, f13, f14, f15, f16, f17, f18, f19⟩ := id hF1
                  refine lv_dup hx hb dX3_roll_58 rfl ?_
                  refine lv_iload_n hx hb dX3_roll_59 rfl (lv_at hl 2 rfl) ?_
                  refine lv_iload_n hx hb dX3_roll_60 rfl (lv_at hl 3 rfl) ?_
                  refine lv_aload_n hx hb dX3_roll_61 rfl (lv_at hl 1 rfl) ?_
                  refine zg_Forge_parts (v := pt) C I f1 zm_70 (f4) dX3_roll_62 ?_
                  refine lv_iload_n hx hb dX3_roll_65 rfl (lv_at hl 3 rfl) ?_
                  refine zr_iald (v := nI (T.2 4 u)) C I f6 (by rw [show zh_N (zh_nO S q55 1) pt = 4 from f7]; exact vp_in_nI (by omega) (by omega)) (by rw [nI_clamp (by omega)]; exact f10 u (by omega)) dX3_roll_66 ?_
                  refine lv_iload_n hx hb dX3_roll_67 rfl (lv_at hl 4 rfl) ?_
                  refine zc_IN (host := "DiceForge") (n := 4) (rest := [.ref q55]) C I (k_X1_init l g (zh_nO S q55 1) q55 (nI q) (nI u) (nI (T.2 4 u)) (nI f) zh_at_new) (by decide +kernel) zm_306 zm_34 zm_307 rfl rfl hl.1 dX3_roll_68 (by decide +kernel) rfl ⟨Nat.le_of_ble_eq_true rfl, Nat.le_of_ble_eq_true rfl⟩ (Nat.le_of_ble_eq_true rfl) ⟨Nat.le_of_ble_eq_true rfl, Nat.le_of_ble_eq_true rfl⟩ (fun v S' H locs hq I => ?_)
                  obtain ⟨rfl, eS⟩ := hq
                  rw [eS] at I
                  have hF2 : FR g (zh_sI (zh_sI (zh_sI (zh_sI (zh_nO S q55 1) 2 q55 (nI q)) 3 q55 (nI u)) 4 q55 (nI (T.2 4 u))) 5 q55 (nI f)) T x pl lo pt ty pa la ap ad ae := FR_oth (FR_oth (FR_oth (FR_oth hF1 _ nq (by decide) (by decide)) _ nq (by decide) (by decide)) _ nq (by decide) (by decide)) _ nq (by decide) (by decide)
                  obtain ⟨⟨f1, f2, f3, f4, f5⟩, ⟨f6, f7, f8, f9, f10⟩, f11, f12, f13, f14, f15, f16, f17, f18, f19⟩ := id hF2
                  have g2 : zh_I (zh_sI (zh_sI (zh_sI (zh_sI (zh_nO S q55 1) 2 q55 (nI q)) 3 q55 (nI u)) 4 q55 (nI (T.2 4 u))) 5 q55 (nI f)) 2 q55 = nI q := (zI_j _ _ _ _ (by decide)).trans ((zI_j _ _ _ _ (by decide)).trans ((zI_j _ _ _ _ (by decide)).trans (zI_s _ _ _ _)))
                  have g3 : zh_I (zh_sI (zh_sI (zh_sI (zh_sI (zh_nO S q55 1) 2 q55 (nI q)) 3 q55 (nI u)) 4 q55 (nI (T.2 4 u))) 5 q55 (nI f)) 3 q55 = nI u := (zI_j _ _ _ _ (by decide)).trans ((zI_j _ _ _ _ (by decide)).trans (zI_s _ _ _ _))
                  have g4 : zh_I (zh_sI (zh_sI (zh_sI (zh_sI (zh_nO S q55 1) 2 q55 (nI q)) 3 q55 (nI u)) 4 q55 (nI (T.2 4 u))) 5 q55 (nI f)) 4 q55 = nI (T.2 4 u) := (zI_j _ _ _ _ (by decide)).trans (zI_s _ _ _ _)
                  have g5 : zh_I (zh_sI (zh_sI (zh_sI (zh_sI (zh_nO S q55 1) 2 q55 (nI q)) 3 q55 (nI u)) 4 q55 (nI (T.2 4 u))) 5 q55 (nI f)) 5 q55 = nI f := zI_s _ _ _ _
                  have g9 : zh_I (zh_sI (zh_sI (zh_sI (zh_sI (zh_nO S q55 1) 2 q55 (nI q)) 3 q55 (nI u)) 4 q55 (nI (T.2 4 u))) 5 q55 (nI f)) 9 q55 = 0 := (zI_j _ _ _ _ (by decide)).trans ((zI_j _ _ _ _ (by decide)).trans ((zI_j _ _ _ _ (by decide)).trans ((zI_j _ _ _ _ (by decide)).trans (if_pos rfl))))
                  obtain ⟨v, hv⟩ : ∃ v, v = zd_val (T.2 1 q) (T.2 4 u) f := ⟨_, rfl⟩
                  obtain ⟨a1, ha1⟩ : ∃ a1, a1 = (zd_roll (T.2 1 q) (T.2 4 u) f).1 := ⟨_, rfl⟩
                  obtain ⟨r1, hr1⟩ : ∃ r1, r1 = (zd_roll (T.2 1 q) (T.2 4 u) f).2 := ⟨_, rfl⟩
                  have bv : v ≤ f := by rw [hv]; exact zd_val_le hf2
                  have br1 : r1 ≤ 65536 := by rw [hr1]; exact zd_roll_le _ _ _
                  refine lv_astore (lv' := [(5, .ref q55), (4, .ref (ap q)), (0, .ref x), (1, .int (nI q)), (2, .int (nI u)), (3, .int (nI f))]) hx hb dX3_roll_71 hl (by decide) rfl (fun ls hl => ?_)
                  refine lv_aload hx hb dX3_roll_73 (lv_at hl 0 rfl) ?_
                  refine lv_aload hx hb dX3_roll_75 (lv_at hl 1 rfl) ?_
                  refine zn_Promise_draws (v := ad q) (host := "DiceForge") C I (f11.2.2.2.2 _ hqn).2 (by decide +kernel) ((f15 _ hqn).1) dX3_roll_77 ?_
                  refine lv_aload hx hb dX3_roll_80 (lv_at hl 0 rfl) ?_
                  refine zn_Entry_part (v := nI (T.2 4 u)) (host := "DiceForge") C I (show zh_at (zh_sI (zh_sI (zh_sI (zh_sI (zh_nO S q55 1) 2 q55 (nI q)) 3 q55 (nI u)) 4 q55 (nI (T.2 4 u))) 5 q55 (nI f)) 1 q55 from zh_at_new) (by decide +kernel) (g4) dX3_roll_82 ?_
                  refine lv_iload_n hx hb dX3_roll_85 rfl (lv_at hl 5 rfl) ?_
                  refine zc_VN (host := "DiceForge") (n := 2) (rest := [.ref q55]) C I (f15 _ hqn).2.1 rfl rfl (k_X0_nextValue l g (zh_sI (zh_sI (zh_sI (zh_sI (zh_nO S q55 1) 2 q55 (nI q)) 3 q55 (nI u)) 4 q55 (nI (T.2 4 u))) 5 q55 (nI f)) (ad q) (T.2 1 q) (T.2 4 u) f (f15 _ hqn).2.1 (f15 _ hqn).2.2.2.1 (by omega) (by omega) (by omega) (by omega)) (by decide +kernel) zm_333 zm_5 zm_26 zm_334 rfl hl.1 dX3_roll_86 (by decide +kernel) rfl ⟨Nat.le_of_ble_eq_true rfl, Nat.le_of_ble_eq_true rfl⟩ (Nat.le_of_ble_eq_true rfl) ⟨Nat.le_of_ble_eq_true rfl, Nat.le_of_ble_eq_true rfl⟩ (fun v S' H locs hq I => ?_)
                  obtain ⟨rfl, eS⟩ := hq
                  rw [← hv]
                  rw [eS, ← ha1, ← hr1] at I
                  have hF3 := FR_drawn hF2 (k := q) a1 r1 hqn
                  refine zq_Entry_value (host := "DiceForge") C I (show zh_at (zD (zh_sI (zh_sI (zh_sI (zh_sI (zh_nO S q55 1) 2 q55 (nI q)) 3 q55 (nI u)) 4 q55 (nI (T.2 4 u))) 5 q55 (nI f)) (ad q) a1 r1) 1 q55 from zh_at_new) (by decide +kernel) dX3_roll_89 (fun H locs I => ?_)
                  have hF4 : FR g (zh_sI (zD (zh_sI (zh_sI (zh_sI (zh_sI (zh_nO S q55 1) 2 q55 (nI q)) 3 q55 (nI u)) 4 q55 (nI (T.2 4 u))) 5 q55 (nI f)) (ad q) a1 r1) 6 q55 (nI v)) (zt_s T 1 q a1) x pl lo pt ty pa la ap ad ae := FR_oth hF3 _ nq (by decide) (by decide)
                  obtain ⟨⟨f1, f2, f3, f4, f5⟩, ⟨f6, f7, f8, f9, f10⟩, f11, f12, f13, f14, f15, f16, f17, f18, f19⟩ := id hF4
                  refine lv_aload hx hb dX3_roll_92 (lv_at hl 0 rfl) ?_
                  refine lv_aload hx hb dX3_roll_94 (lv_at hl 1 rfl) ?_
                  refine zn_Promise_draws (v := ad q) (host := "DiceForge") C I (f11.2.2.2.2 _ hqn).2 (by decide +kernel) ((f15 _ hqn).1) dX3_roll_96 ?_
                  refine zn_Draws_rejected (v := nI r1) (host := "DiceForge") C I (f15 _ hqn).2.1 (by decide +kernel) ((zI_j _ _ _ _ (by decide)).trans (zD_1 _ _ _ _)) dX3_roll_99 ?_
                  refine zq_Entry_rejected (host := "DiceForge") C I (show zh_at (zh_sI (zD (zh_sI (zh_sI (zh_sI (zh_sI (zh_nO S q55 1) 2 q55 (nI q)) 3 q55 (nI u)) 4 q55 (nI (T.2 4 u))) 5 q55 (nI f)) (ad q) a1 r1) 6 q55 (nI v)) 1 q55 from zh_at_new) (by decide +kernel) dX3_roll_102 (fun H locs I => ?_)
                  have hF5 : FR g (zh_sI (zh_sI (zD (zh_sI (zh_sI (zh_sI (zh_sI (zh_nO S q55 1) 2 q55 (nI q)) 3 q55 (nI u)) 4 q55 (nI (T.2 4 u))) 5 q55 (nI f)) (ad q) a1 r1) 6 q55 (nI v)) 7 q55 (nI r1)) (zt_s T 1 q a1) x pl lo pt ty pa la ap ad ae := FR_oth hF4 _ nq (by decide) (by decide)
                  obtain ⟨⟨f1, f2, f3, f4, f5⟩, ⟨f6, f7, f8, f9, f10⟩, f11, f12, f13, f14, f15, f16, f17, f18, f19⟩ := id hF5
                  have h25 : ∀ j : Nat, 2 ≤ j → j ≠ 6 → j ≠ 7 → zh_I (zh_sI (zh_sI (zD (zh_sI (zh_sI (zh_sI (zh_sI (zh_nO S q55 1) 2 q55 (nI q)) 3 q55 (nI u)) 4 q55 (nI (T.2 4 u))) 5 q55 (nI f)) (ad q) a1 r1) 6 q55 (nI v)) 7 q55 (nI r1)) j q55 = zh_I (zh_sI (zh_sI (zh_sI (zh_sI (zh_nO S q55 1) 2 q55 (nI q)) 3 q55 (nI u)) 4 q55 (nI (T.2 4 u))) 5 q55 (nI f)) j q55 := fun j h h6 h7 => (zI_j _ _ _ _ h7).trans ((zI_j _ _ _ _ h6).trans ((zI_j _ _ _ _ (by omega)).trans (zI_j _ _ _ _ (by omega))))
                  have g7 : zh_I (zh_sI (zh_sI (zD (zh_sI (zh_sI (zh_sI (zh_sI (zh_nO S q55 1) 2 q55 (nI q)) 3 q55 (nI u)) 4 q55 (nI (T.2 4 u))) 5 q55 (nI f)) (ad q) a1 r1) 6 q55 (nI v)) 7 q55 (nI r1)) 7 q55 = nI r1 := zI_s _ _ _ _
                  have g6 : zh_I (zh_sI (zh_sI (zD (zh_sI (zh_sI (zh_sI (zh_sI (zh_nO S q55 1) 2 q55 (nI q)) 3 q55 (nI u)) 4 q55 (nI (T.2 4 u))) 5 q55 (nI f)) (ad q) a1 r1) 6 q55 (nI v)) 7 q55 (nI r1)) 6 q55 = nI v := (zI_j _ _ _ _ (by decide)).trans (zI_s _ _ _ _)
                  refine lv_aload hx hb dX3_roll_105 (lv_at hl 0 rfl) ?_
                  refine lv_aload hx hb dX3_roll_107 (lv_at hl 0 rfl) ?_
                  refine lv_aload_n hx hb dX3_roll_109 rfl (lv_at hl 2 rfl) ?_
                  refine zc_V (n := 0) (rest := [.ref q55, .ref q55]) C I f1 rfl rfl (k_X3_lastSum l g (zh_sI (zh_sI (zD (zh_sI (zh_sI (zh_sI (zh_sI (zh_nO S q55 1) 2 q55 (nI q)) 3 q55 (nI u)) 4 q55 (nI (T.2 4 u))) 5 q55 (nI f)) (ad q) a1 r1) 6 q55 (nI v)) 7 q55 (nI r1)) x lo T.1.2 la ae ((zt_s T 1 q a1).2 11) f1 f3 f12 (by omega) (fun k hk => f16 k hk 6 (by decide))) zm_339 zm_340 zm_7 zm_16 zm_341 rfl hl.1 dX3_roll_110 (by decide +kernel) rfl ⟨Nat.le_of_ble_eq_true rfl, Nat.le_of_ble_eq_true rfl⟩ (Nat.le_of_ble_eq_true rfl) ⟨Nat.le_of_ble_eq_true rfl, Nat.le_of_ble_eq_true rfl⟩ (fun v S' H locs hq I => ?_)
                  obtain ⟨rfl, eS⟩ := hq
                  rw [eS] at I
                  have hb9 : (if T.1.2 = 0 then 17 else (zt_s T 1 q a1).2 11 (T.1.2 - 1)) = zb_roll T := by rw [zt_s_j _ _ _ _ (by decide)]; rfl
                  refine zr_top (y := nI (zb_roll T)) (by rw [hb9]) ?_
                  refine zc_VN (host := "DiceForge") (n := 1) (rest := [.ref q55]) C I (show zh_at (zh_sI (zh_sI (zD (zh_sI (zh_sI (zh_sI (zh_sI (zh_nO S q55 1) 2 q55 (nI q)) 3 q55 (nI u)) 4 q55 (nI (T.2 4 u))) 5 q55 (nI f)) (ad q) a1 r1) 6 q55 (nI v)) 7 q55 (nI r1)) 1 q55 from zh_at_new) rfl rfl (k_X1_sumAfter l g (zh_sI (zh_sI (zD (zh_sI (zh_sI (zh_sI (zh_sI (zh_nO S q55 1) 2 q55 (nI q)) 3 q55 (nI u)) 4 q55 (nI (T.2 4 u))) 5 q55 (nI f)) (ad q) a1 r1) 6 q55 (nI v)) 7 q55 (nI r1)) q55 (zb_roll T) q u f v r1 zh_at_new ((h25 2 (by decide) (by decide) (by decide)).trans g2) ((h25 3 (by decide) (by decide) (by decide)).trans g3) ((h25 5 (by decide) (by decide) (by decide)).trans g5) g6 g7 (zb_roll_lt hT0) (by omega) (by omega) (by omega) (by omega) br1) (by decide +kernel) zm_346 zm_8 zm_34 zm_347 rfl hl.1 dX3_roll_113 (by decide +kernel) rfl ⟨Nat.le_of_ble_eq_true rfl, Nat.le_of_ble_eq_true rfl⟩ (Nat.le_of_ble_eq_true rfl) ⟨Nat.le_of_ble_eq_true rfl, Nat.le_of_ble_eq_true rfl⟩ (fun v S' H locs hq I => ?_)
                  obtain ⟨rfl, eS⟩ := hq
                  rw [eS] at I
                  refine zq_Entry_sum (host := "DiceForge") C I (show zh_at (zh_sI (zh_sI (zD (zh_sI (zh_sI (zh_sI (zh_sI (zh_nO S q55 1) 2 q55 (nI q)) 3 q55 (nI u)) 4 q55 (nI (T.2 4 u))) 5 q55 (nI f)) (ad q) a1 r1) 6 q55 (nI v)) 7 q55 (nI r1)) 1 q55 from zh_at_new) (by decide +kernel) dX3_roll_116 (fun H locs I => ?_)
                  have hF6 : FR g (zh_sI (zh_sI (zh_sI (zD (zh_sI (zh_sI (zh_sI (zh_sI (zh_nO S q55 1) 2 q55 (nI q)) 3 q55 (nI u)) 4 q55 (nI (T.2 4 u))) 5 q55 (nI f)) (ad q) a1 r1) 6 q55 (nI v)) 7 q55 (nI r1)) 8 q55 (nI (zd_sum (zb_roll T) q u f v r1))) (zt_s T 1 q a1) x pl lo pt ty pa la ap ad ae := FR_oth hF5 _ nq (by decide) (by decide)
                  obtain ⟨⟨f1, f2, f3, f4, f5⟩, ⟨f6, f7, f8, f9, f10⟩, f11, f12, f13, f14, f15, f16, f17, f18, f19⟩ := id hF6
                  refine lv_aload_n hx hb dX3_roll_119 rfl (lv_at hl 2 rfl) ?_
                  refine zg_Forge_log (v := lo) C I f1 zm_69 (f3) dX3_roll_120 ?_
                  refine lv_aload hx hb dX3_roll_123 (lv_at hl 0 rfl) ?_
                  refine zc_V (n := 1) (rest := []) C I f12.1 rfl rfl (k_add l g (zh_sI (zh_sI (zh_sI (zD (zh_sI (zh_sI (zh_sI (zh_sI (zh_nO S q55 1) 2 q55 (nI q)) 3 q55 (nI u)) 4 q55 (nI (T.2 4 u))) 5 q55 (nI f)) (ad q) a1 r1) 6 q55 (nI v)) 7 q55 (nI r1)) 8 q55 (nI (zd_sum (zb_roll T) q u f v r1))) lo la T.1.2 q55 1 f12.1 f12.2.1 f12.2.2.1 f12.2.2.2.1 (by omega) zh_at_new (Or.inl rfl) (FL_hel f12 (Or.inl rfl))) zm_190 zm_191 zm_192 zm_19 zm_193 rfl hl.1 dX3_roll_125 (by decide +kernel) rfl ⟨Nat.le_of_ble_eq_true rfl, Nat.le_of_ble_eq_true rfl⟩ (Nat.le_of_ble_eq_true rfl) ⟨Nat.le_of_ble_eq_true rfl, Nat.le_of_ble_eq_true rfl⟩ (fun v S' H locs hq I => ?_)
                  obtain ⟨rfl, hA⟩ := hq
                  have hq1 : zh_at (zh_sI (zh_sI (zh_sI (zD (zh_sI (zh_sI (zh_sI (zh_sI (zh_nO S q55 1) 2 q55 (nI q)) 3 q55 (nI u)) 4 q55 (nI (T.2 4 u))) 5 q55 (nI f)) (ad q) a1 r1) 6 q55 (nI v)) 7 q55 (nI r1)) 8 q55 (nI (zd_sum (zb_roll T) q u f v r1))) 1 q55 := zh_at_new
                  have hv8 := zs_rolled_v T q u f
                  rw [← hv, ← hr1] at hv8
                  obtain ⟨w5, w6, w7, w8, w9, w10, w11, w12⟩ := hv8
                  have hE : FE g S' (zs_rolled T q u f) x := FR_addE hF6 hA hq1 nq (show 0 < T.1.1 by omega) rfl (fun j k h => by rw [ha1]; exact zs_rolled_lo T q u f k h) (fun j k h h2 => by rw [ha1]; exact zs_rolled_k T q u f j h2) (fun j hj => by
                    rcases (show j = 0 ∨ j = 1 ∨ j = 2 ∨ j = 3 ∨ j = 4 ∨ j = 5 ∨ j = 6 ∨ j = 7 by omega) with rfl | rfl | rfl | rfl | rfl | rfl | rfl | rfl
                    · show zh_I _ 2 _ = nI ((zs_rolled T q u f).2 5 T.1.2)
                      rw [w5]; exact (zI_j _ _ _ _ (by decide)).trans ((h25 2 (by decide) (by decide) (by decide)).trans g2)
                    · show zh_I _ 3 _ = nI ((zs_rolled T q u f).2 6 T.1.2)
                      rw [w6]; exact (zI_j _ _ _ _ (by decide)).trans ((h25 3 (by decide) (by decide) (by decide)).trans g3)
                    · show zh_I _ 4 _ = nI ((zs_rolled T q u f).2 7 T.1.2)
                      rw [w7]; exact (zI_j _ _ _ _ (by decide)).trans ((h25 4 (by decide) (by decide) (by decide)).trans g4)
                    · show zh_I _ 5 _ = nI ((zs_rolled T q u f).2 8 T.1.2)
                      rw [w8]; exact (zI_j _ _ _ _ (by decide)).trans ((h25 5 (by decide) (by decide) (by decide)).trans g5)
                    · show zh_I _ 6 _ = nI ((zs_rolled T q u f).2 9 T.1.2)
                      rw [w9]; exact (zI_j _ _ _ _ (by decide)).trans (g6)
                    · show zh_I _ 7 _ = nI ((zs_rolled T q u f).2 10 T.1.2)
                      rw [w10]; exact (zI_j _ _ _ _ (by decide)).trans (g7)
                    · show zh_I _ 8 _ = nI ((zs_rolled T q u f).2 11 T.1.2)
                      rw [w11]; exact zI_s _ _ _ _
                    · show zh_I _ 9 _ = nI ((zs_rolled T q u f).2 12 T.1.2)
                      rw [w12, t7 T.1.2 (Nat.le_refl _)]; exact (zI_j _ _ _ _ (by decide)).trans ((h25 9 (by decide) (by decide) (by decide)).trans g9))
                  refine lv_pop hx hb dX3_roll_128 rfl ?_
                  refine lv_aload hx hb dX3_roll_129 (lv_at hl 0 rfl) ?_
                  refine zn_Entry_value (v := nI v) (host := "DiceForge") C I ⟨(hA.1 _ hq1.1).1, (hA.1 _ hq1.1).2.1.trans hq1.2⟩ (by decide +kernel) ((hA.2.1 6 _ (by decide) (Or.inl (by decide))).trans ((zI_j _ _ _ _ (by decide)).trans g6)) dX3_roll_131 ?_
                  exact vx_ret (zr_iret C I hr hlk (⟨hcz, by unfold zr_roll; rw [hqz, huz, hfz, ← hv], by unfold zs_roll; rw [if_pos hcz, hqz, huz, hfz]; exact hE, zk_tr (show zk_ S (zh_sI (zh_sI (zh_sI (zD (zh_sI (zh_sI (zh_sI (zh_sI (zh_nO S q55 1) 2 q55 (nI q)) 3 q55 (nI u)) 4 q55 (nI (T.2 4 u))) 5 q55 (nI f)) (ad q) a1 r1) 6 q55 (nI v)) 7 q55 (nI r1)) 8 q55 (nI (zd_sum (zb_roll T) q u f v r1))) from zk_nO hq55) (zl_k hA)⟩) (Nat.le_of_ble_eq_true rfl) (Nat.le_of_ble_eq_true rfl) dX3_roll_134)
                · have c42 : ¬ T.1.2 < 100 := fun h9 => c42 ((nI_ltI (a := T.1.2) (b := 100) (by omega) (by omega)).mpr h9)
                  exact zr_throw (cls := "java/lang/IllegalStateException") (text := "there are 100 entries") (ik := 38) (is := 90) (ic := 42) C I hst hxt hlk rfl zt_fitIS zt_fitn zm_148 zm_24 (by decide +kernel) zt_aIS zt_bIS zt_cIS hl.1 dX3_roll_45 dX3_roll_48 dX3_roll_49 dX3_roll_51 dX3_roll_54 (Nat.le_of_ble_eq_true rfl) (Nat.le_of_ble_eq_true rfl) (Nat.le_of_ble_eq_true rfl) (Nat.le_of_ble_eq_true rfl) (⟨Or.inr (Or.inr ⟨hc3 (Or.inr (by omega)), rfl⟩), rfl⟩) (Nat.le_of_ble_eq_true rfl) (Nat.le_of_ble_eq_true rfl)
              · have c20 : ¬ (T.2 2 q) = 0 := fun h9 => c20 ((nI_eq (a := T.2 2 q) (b := 0) (by omega) (by omega)).mpr h9)
                exact zr_throw (cls := "java/lang/IllegalStateException") (text := "the promise is opened") (ik := 38) (is := 80) (ic := 42) C I hst hxt hlk rfl zt_fitIS zt_fitn zm_148 zm_24 (by decide +kernel) zt_aIS zt_bIS zt_cIS hl.1 dX3_roll_23 dX3_roll_26 dX3_roll_27 dX3_roll_29 dX3_roll_32 (Nat.le_of_ble_eq_true rfl) (Nat.le_of_ble_eq_true rfl) (Nat.le_of_ble_eq_true rfl) (Nat.le_of_ble_eq_true rfl) (⟨Or.inr (Or.inr ⟨hc3 (Or.inl c20), rfl⟩), rfl⟩) (Nat.le_of_ble_eq_true rfl) (Nat.le_of_ble_eq_true rfl)
end
section
/-! a forge is made -/
def zT0 : zT := ((0, 0), fun _ _ => 0)
theorem zT0_ok : zt_ok zT0 := ⟨by decide, by decide, fun k => ⟨show 0 < 65536 by decide, show 0 < 65536 by decide, Nat.zero_le 1, Nat.zero_le 1⟩, fun k => Nat.zero_le 999, fun k hk => absurd hk (Nat.not_lt_zero k), fun k hk => ⟨rfl, rfl⟩, fun k hk => rfl⟩
def zs_l0 (g : zG) (S : zS) (q : Nat) : zS := zh_sR (zh_sI (zh_nO S q 5) 30 q 0) 30 q (some g.2.1)
def zs_mk (g : zG) (S : zS) (x q r a b : Nat) : zS := zh_sR (zh_nA (zh_sR (zh_nA (zh_sR (zs_l0 g (zh_sR (zs_l0 g S q) 1 x (some q)) r) 2 x (some r)) a 6 4) 3 x (some a)) b 6 1001) 4 x (some b)
theorem zs_mk_FE {g : zG} {S : zS} {x q r a b : Nat} (hx : zh_at S 3 x) (hq : q ∉ zh_L S) (hr : r ∉ zh_L S ++ [q]) (ha : a ∉ (zh_L S ++ [q]) ++ [r]) (hb : b ∉ ((zh_L S ++ [q]) ++ [r]) ++ [a]) (hg : g.2.1 ∉ zh_L (zs_mk g S x q r a b)) : FE g (zs_mk g S x q r a b) zT0 x ∧ zk_ S (zs_mk g S x q r a b) := by
  simp only [List.mem_append, List.mem_singleton, not_or] at hr ha hb
  obtain ⟨r1, r2⟩ := hr
  obtain ⟨⟨a1, a2⟩, a3⟩ := ha
  obtain ⟨⟨⟨b1, b2⟩, b3⟩, b4⟩ := hb
  have n : ∀ y z : Nat, y ∈ zh_L S → z ∉ zh_L S → y ≠ z := fun y z h h2 e => h2 (e ▸ h)
  have eK : ∀ y : Nat, zh_K (zs_mk g S x q r a b) y = (if y = b then 6 else if y = a then 6 else if y = r then 5 else if y = q then 5 else zh_K S y) := fun y => by
    show va_up (va_up (va_up (va_up (zh_K S) q 5) r 5) a 6) b 6 y = _
    unfold va_up; rfl
  have eN : ∀ y : Nat, zh_N (zs_mk g S x q r a b) y = (if y = b then 1001 else if y = a then 4 else zh_N S y) := fun y => by
    show va_up (va_up (zh_N S) a 4) b 1001 y = _
    unfold va_up; rfl
  have eL : zh_L (zs_mk g S x q r a b) = (((zh_L S ++ [q]) ++ [r]) ++ [a]) ++ [b] := rfl
  have hK : ∀ y : Nat, y ∈ zh_L S → zh_K (zs_mk g S x q r a b) y = zh_K S y := fun y h => by rw [eK, if_neg (n _ _ h b1), if_neg (n _ _ h a1), if_neg (n _ _ h r1), if_neg (n _ _ h hq)]
  have hL : ∀ y : Nat, y ∈ zh_L S → y ∈ zh_L (zs_mk g S x q r a b) := fun y h => by rw [eL]; simp [h]
  have xq := n _ _ hx.1 hq
  have xr := n _ _ hx.1 r1
  have xa := n _ _ hx.1 a1
  have xb := n _ _ hx.1 b1
  refine ⟨⟨q, r, a, b, g.2.1, g.2.1, fun _ => 0, fun _ => 0, fun _ => 0, ⟨⟨hL _ hx.1, (hK _ hx.1).trans hx.2⟩, ?_, ?_, ?_, ?_⟩, ⟨⟨by rw [eL]; simp, by rw [eK, if_neg (Ne.symm b4), if_pos rfl]⟩, by rw [eN, if_neg (Ne.symm b4), if_pos rfl], ⟨by rw [eL]; simp, by rw [eK, if_pos rfl]⟩, by rw [eN, if_pos rfl], fun t ht => ?_⟩, ⟨⟨by rw [eL]; simp, by rw [eK, if_neg (Ne.symm b2), if_neg (Ne.symm a2), if_neg (Ne.symm r2), if_pos rfl]⟩, ?_, ?_, Or.inl ⟨rfl, rfl⟩, fun i hi => absurd hi (Nat.not_lt_zero i)⟩, ⟨⟨by rw [eL]; simp, by rw [eK, if_neg (Ne.symm b3), if_neg (Ne.symm a3), if_pos rfl]⟩, ?_, ?_, Or.inl ⟨rfl, rfl⟩, fun i hi => absurd hi (Nat.not_lt_zero i)⟩, Ne.symm r2, fun h => absurd h.1 hg, fun i hi => absurd hi (Nat.not_lt_zero i), fun i hi => absurd hi (Nat.not_lt_zero i), fun i j hi => absurd hi (Nat.not_lt_zero i), fun i j hi => absurd hi (Nat.not_lt_zero i), fun i j hi => absurd hi (Nat.not_lt_zero i)⟩, fun y h => ⟨hL y h, hK y h, by rw [eN, if_neg (n _ _ h b1), if_neg (n _ _ h a1)], ?_⟩⟩
  · simp [zs_mk, zs_l0, zh_R, zh_sR, zh_sI, zh_nO, zh_nA, zh_u, xr, xq]
  · simp [zs_mk, zs_l0, zh_R, zh_sR, zh_sI, zh_nO, zh_nA, zh_u]
  · simp [zs_mk, zs_l0, zh_R, zh_sR, zh_sI, zh_nO, zh_nA, zh_u]
  · simp [zs_mk, zs_l0, zh_R, zh_sR, zh_sI, zh_nO, zh_nA, zh_u]
  · show va_up (va_up (zh_A S) a (fun _ => 0)) b (fun _ => 0) a t = _
    rw [va_up_ne _ _ (Ne.symm b4), va_up_self]; rfl
  · have h2 : ¬ q = r := Ne.symm r2
    simp [zs_mk, zs_l0, zh_I, zh_sR, zh_sI, zh_nO, zh_nA, zh_u, h2, zT0]; rfl
  · have h2 : ¬ q = r := Ne.symm r2
    simp [zs_mk, zs_l0, zh_R, zh_sR, zh_sI, zh_nO, zh_nA, zh_u, h2]
  · simp [zs_mk, zs_l0, zh_I, zh_sR, zh_sI, zh_nO, zh_nA, zh_u, zT0]; rfl
  · simp [zs_mk, zs_l0, zh_R, zh_sR, zh_sI, zh_nO, zh_nA, zh_u]
  · show va_up (va_up (zh_J S) a (fun _ => 0)) b (fun _ => 0) y = _
    rw [va_up_ne _ _ (n _ _ h b1), va_up_ne _ _ (n _ _ h a1)]

set_option maxRecDepth 100000 in
set_option maxHeartbeats 4000000 in
theorem k_X3_init (l : Launch) (g : zG) (S : zS) (x : Nat) (hx3 : zh_at S 3 x) : zM l yX3_init cX3_init 1 none (zrm 5 5 1020) g [.ref x] S (fun w S' => w = none ∧ FE g S' zT0 x ∧ zk_ S S') := by
  refine zM_of (nm := "<init>") (by decide) rfl (Nat.le_of_ble_eq_true rfl) ?_
  intro p e s m args below meth c A ls C hr hlk hin I hl
  have C : CallFix p m c cX3_init 1 s args zc_W RX3 := C
  have hx := C.1
  have hb := C.2.1
  have hl : lv_has ls 1 [(0, .ref x)] := hl
  refine lv_aload_n hx hb dX3_init_0 rfl (lv_at hl 0 rfl) ?_
  refine zr_obj (rest := []) C zm_40 zm_41 zm_42 hl.1 dX3_init_1 (Nat.le_of_ble_eq_true rfl) (Nat.le_of_ble_eq_true rfl) (Nat.le_of_ble_eq_true rfl) ?_
  refine lv_aload_n hx hb dX3_init_4 rfl (lv_at hl 0 rfl) ?_
  refine zw_List C I zm_43 zm_44 zm_19 (Nat.le_of_ble_eq_true rfl) (Nat.le_of_ble_eq_true rfl) dX3_init_5 (fun q5 H hq5 I => ?_)
  refine lv_dup hx hb dX3_init_8 rfl ?_
  have h1 := hq5
  refine zc_I (n := 0) (rest := [.ref q5, .ref x]) C I (k_Jx4a65c_init_da8c8 l g (zh_nO S q5 5) q5 zh_at_new) zm_45 zm_46 zm_19 zm_47 rfl rfl hl.1 dX3_init_9 (by decide +kernel) rfl ⟨Nat.le_of_ble_eq_true rfl, Nat.le_of_ble_eq_true rfl⟩ (Nat.le_of_ble_eq_true rfl) ⟨Nat.le_of_ble_eq_true rfl, Nat.le_of_ble_eq_true rfl⟩ (fun v S' H locs hq I => ?_)
  obtain ⟨rfl, eS⟩ := hq
  rw [eS] at I
  have I : zh_V g A s [] (zs_l0 g S q5) H locs := I
  refine zf_Forge_promises C I (show zh_at (zs_l0 g S q5) 3 x from (zh_at_nO hx3 hq5)) zm_68 hin rfl dX3_init_12 (fun H locs I => ?_)
  refine lv_aload_n hx hb dX3_init_15 rfl (lv_at hl 0 rfl) ?_
  refine zw_List C I zm_43 zm_44 zm_19 (Nat.le_of_ble_eq_true rfl) (Nat.le_of_ble_eq_true rfl) dX3_init_16 (fun q16 H hq16 I => ?_)
  refine lv_dup hx hb dX3_init_19 rfl ?_
  have h2 : q16 ∉ zh_L S ++ [q5] := hq16
  refine zc_I (n := 0) (rest := [.ref q16, .ref x]) C I (k_Jx4a65c_init_da8c8 l g (zh_nO (zh_sR (zs_l0 g S q5) 1 x (some q5)) q16 5) q16 zh_at_new) zm_45 zm_46 zm_19 zm_47 rfl rfl hl.1 dX3_init_20 (by decide +kernel) rfl ⟨Nat.le_of_ble_eq_true rfl, Nat.le_of_ble_eq_true rfl⟩ (Nat.le_of_ble_eq_true rfl) ⟨Nat.le_of_ble_eq_true rfl, Nat.le_of_ble_eq_true rfl⟩ (fun v S' H locs hq I => ?_)
  obtain ⟨rfl, eS⟩ := hq
  rw [eS] at I
  have I : zh_V g A s [] (zs_l0 g (zh_sR (zs_l0 g S q5) 1 x (some q5)) q16) H locs := I
  refine zf_Forge_log C I (show zh_at (zs_l0 g (zh_sR (zs_l0 g S q5) 1 x (some q5)) q16) 3 x from (zh_at_nO (show zh_at (zs_l0 g S q5) 3 x from (zh_at_nO hx3 hq5)) hq16)) zm_69 hin rfl dX3_init_23 (fun H locs I => ?_)
  refine lv_aload_n hx hb dX3_init_26 rfl (lv_at hl 0 rfl) ?_
  refine lv_iconst (v := 4) hx hb dX3_init_27 (by decide) ?_
  refine zr_newI (N := 4) C I zm_81 rfl (by decide) (Nat.le_of_ble_eq_true rfl) (Nat.le_of_ble_eq_true rfl) dX3_init_28 (fun q28 H hq28 I => ?_)
  have h3 : q28 ∉ (zh_L S ++ [q5]) ++ [q16] := hq28
  refine zf_Forge_parts C I (zh_at_nA (n := 4) (show zh_at (zs_l0 g (zh_sR (zs_l0 g S q5) 1 x (some q5)) q16) 3 x from (zh_at_nO (show zh_at (zs_l0 g S q5) 3 x from (zh_at_nO hx3 hq5)) hq16)) hq28) zm_70 hin rfl dX3_init_30 (fun H locs I => ?_)
  refine lv_aload_n hx hb dX3_init_33 rfl (lv_at hl 0 rfl) ?_
  refine lv_sipush (v := 1001) hx hb dX3_init_34 (by decide) ?_
  refine zr_newI (N := 1001) C I zm_81 rfl (by decide) (Nat.le_of_ble_eq_true rfl) (Nat.le_of_ble_eq_true rfl) dX3_init_37 (fun q37 H hq37 I => ?_)
  have h4 : q37 ∉ ((zh_L S ++ [q5]) ++ [q16]) ++ [q28] := hq37
  refine zf_Forge_tally C I (zh_at_nA (n := 1001) (zh_at_nA (n := 4) (show zh_at (zs_l0 g (zh_sR (zs_l0 g S q5) 1 x (some q5)) q16) 3 x from (zh_at_nO (show zh_at (zs_l0 g S q5) 3 x from (zh_at_nO hx3 hq5)) hq16)) hq28) hq37) zm_71 hin rfl dX3_init_39 (fun H locs I => ?_)
  have I : zh_V g A s [] (zs_mk g S x q5 q16 q28 q37) H locs := I
  have hE := zs_mk_FE (g := g) hx3 h1 h2 h3 h4 (zn_out I)
  exact zr_vret C I hr hlk (⟨rfl, hE.1, hE.2⟩) (Nat.le_of_ble_eq_true rfl) (Nat.le_of_ble_eq_true rfl) dX3_init_42
end
section
/-! each call keeps the bounds -/
theorem zk_cases {c : Nat} {T T' : zT} (hT : zt_ok T) (h : c = 0 → zt_ok T') : zt_ok (if c = 0 then T' else T) := by
  by_cases e : c = 0
  · rw [if_pos e]; exact h e
  · rw [if_neg e]; exact hT
theorem zu_dec (f : Nat → Nat → Nat) (j a v j' a' : Nat) : zh_u f j a v j' a' = if j' = j ∧ a' = a then v else f j' a' := rfl
theorem zp_le {f : Nat → Nat → Nat} {j a v : Nat} (P : Nat → Prop) {j' a' : Nat} (h1 : j' = j → a' = a → P v) (h2 : P (f j' a')) : P (zh_u f j a v j' a') := by
  by_cases e : j' = j ∧ a' = a
  · rw [zu_dec, if_pos e]; exact h1 e.1 e.2
  · rw [zu_dec, if_neg e]; exact h2
theorem zt_ok_open {T : zT} (hT : zt_ok T) (i : Int32) : zt_ok (zs_open T i) := zk_cases hT (fun hc => by
  have hi : ¬ zi T.1.1 i := fun h => absurd ((if_pos h : zc_open T i = 1).symm.trans hc) (by decide)
  obtain ⟨t1, t2, t3, t4, t5, t6, t7⟩ := hT
  have hj : zx i < T.1.1 := (zi_cases i (n := T.1.1) (by omega)).elim (fun h => absurd h hi) (fun h => h.2.1)
  refine ⟨t1, t2, fun k => ⟨?_, ?_, ?_, ?_⟩, fun k => ?_, fun k hk => ?_, fun k hk => ⟨?_, ?_⟩, fun k hk => ?_⟩
  · rw [zt_s_j _ _ _ _ (by decide)]; exact (t3 k).1
  · rw [zt_s_j _ _ _ _ (by decide)]; exact (t3 k).2.1
  · exact zp_le (· ≤ 1) (fun _ _ => Nat.le_refl 1) (t3 k).2.2.1
  · rw [zt_s_j _ _ _ _ (by decide)]; exact (t3 k).2.2.2
  · rw [zt_s_j _ _ _ _ (by decide)]; exact t4 k
  · exact t5 k hk
  · rw [zt_s_k _ _ _ _ (by have : T.1.1 ≤ k := hk; omega)]; exact (t6 k hk).1
  · rw [zt_s_j _ _ _ _ (by decide)]; exact (t6 k hk).2
  · rw [zt_s_j _ _ _ _ (by decide)]; exact t7 k hk)
theorem zt_ok_part {T : zT} (hT : zt_ok T) (i y : Int32) : zt_ok (zs_part T i y) := zk_cases hT (fun hc => by
  have hi : ¬ zi 4 i := fun h => absurd ((if_pos h : zc_part i y = 1).symm.trans hc) (by decide)
  have hy : ¬ zi 1000 y := fun h => by
    have h2 : zc_part i y = 2 := by unfold zc_part; rw [if_neg hi, if_pos h]
    rw [hc] at h2; exact absurd h2 (by decide)
  have hj : zx y < 1000 := (zi_cases y (n := 1000) (by decide)).elim (fun h => absurd h hy) (fun h => h.2.1)
  obtain ⟨t1, t2, t3, t4, t5, t6, t7⟩ := hT
  exact ⟨t1, t2, t3, fun k => zp_le (· ≤ 999) (fun _ _ => by omega) (t4 k), t5, t6, t7⟩)
theorem zt_ok_promise {T : zT} (hT : zt_ok T) (i : Int32) : zt_ok (zs_promise T i) := zk_cases hT (fun hc => by
  have hi : ¬ zi 65536 i := fun h => absurd ((if_pos h : zc_promise T i = 1).symm.trans hc) (by decide)
  have hn : ¬ 16 ≤ T.1.1 := fun h => by
    have h2 : zc_promise T i = 2 := by unfold zc_promise; rw [if_neg hi, if_pos h]
    rw [hc] at h2; exact absurd h2 (by decide)
  have hj : zx i < 65536 := (zi_cases i (n := 65536) (by omega)).elim (fun h => absurd h hi) (fun h => h.2.1)
  obtain ⟨t1, t2, t3, t4, t5, t6, t7⟩ := hT
  refine ⟨by show T.1.1 + 1 ≤ 16; omega, t2, fun k => ⟨?_, ?_, (t3 k).2.2.1, (t3 k).2.2.2⟩, t4, fun k hk => ?_, fun k hk => t6 k (by have : T.1.1 + 1 ≤ k := hk; omega), t7⟩
  · show zh_u (zh_u T.2 0 T.1.1 (zx i)) 1 T.1.1 (zx i) 0 k < 65536
    rw [zh_u_j _ _ _ _ (by decide)]; exact zp_le (· < 65536) (fun _ _ => hj) (t3 k).1
  · show zh_u (zh_u T.2 0 T.1.1 (zx i)) 1 T.1.1 (zx i) 1 k < 65536
    refine zp_le (· < 65536) (fun _ _ => hj) ?_
    show zh_u T.2 0 T.1.1 (zx i) 1 k < 65536
    rw [zh_u_j _ _ _ _ (by decide)]; exact (t3 k).2.1
  · have h5 := t5 k hk
    exact ⟨by show T.2 5 k < T.1.1 + 1; omega, h5.2⟩)
theorem zt_ok_alter {T : zT} (hT : zt_ok T) (i y : Int32) : zt_ok (zs_alter T i y) := zk_cases hT (fun hc => by
  have hi : ¬ zi T.1.2 i := fun h => absurd ((if_pos h : zc_alter T i y = 1).symm.trans hc) (by decide)
  have hy : ¬ (y < 1 ∨ nI (T.2 8 (zx i)) < y) := fun h => by
    have h2 : zc_alter T i y = 2 := by unfold zc_alter; rw [if_neg hi, if_pos h]
    rw [hc] at h2; exact absurd h2 (by decide)
  obtain ⟨t1, t2, t3, t4, t5, t6, t7⟩ := hT
  have hj : zx i < T.1.2 := (zi_cases i (n := T.1.2) (by omega)).elim (fun h => absurd h hi) (fun h => h.2.1)
  have h8 := t5 _ hj
  obtain ⟨v1, v2, -⟩ := zi_val (by omega) hy
  refine ⟨t1, t2, t3, t4, fun k hk => ?_, t6, t7⟩
  obtain ⟨k1, k2, k3, k4, k5, k6, k7, k8⟩ := t5 k hk
  exact ⟨k1, k2, k3, k4, k5, zp_le (1 ≤ ·) (fun _ _ => v1) k6, zp_le (· ≤ T.2 8 k) (fun _ e => by rw [e]; exact v2) k7, k8⟩)
theorem zt_ok_disp {T : zT} (hT : zt_ok T) (i : Int32) : zt_ok (zs_disp T i) := zk_cases hT (fun hc => by
  have hi : ¬ zi T.1.1 i := fun h => absurd ((if_pos h : zc_disp T i = 1).symm.trans hc) (by decide)
  have hj : zx i < T.1.1 := (zi_cases i (n := T.1.1) (by have := hT.1; omega)).elim (fun h => absurd h hi) (fun h => h.2.1)
  have h3 := zt_ok3 hT hj
  by_cases e : zv_wrong T (zx i) = -1
  · rw [if_pos e]; exact h3
  · rw [if_neg e]
    obtain ⟨t1, t2, t3, t4, t5, t6, t7⟩ := h3
    refine ⟨t1, t2, fun k => ?_, fun k => ?_, fun k hk => ?_, fun k hk => ?_, fun k hk => ?_⟩
    · rw [zs_strike_j _ _ _ _ _ (by decide), zs_strike_j _ _ _ _ _ (by decide), zs_strike_j _ _ _ _ _ (by decide), zs_strike_j _ _ _ _ _ (by decide)]; exact t3 k
    · rw [zs_strike_j _ _ _ _ _ (by decide)]; exact t4 k
    · obtain ⟨k1, k2, k3, k4, k5, k6, k7, k8, k9, k10⟩ := t5 k hk
      refine ⟨k1, k2, k3, k4, k5, k6, k7, k8, k9, ?_⟩
      show (if _ then 1 else _) ≤ 1
      split
      · exact Nat.le_refl 1
      · exact k10
    · exact t6 k hk
    · have hk : T.1.2 ≤ k := hk
      show (if _ then 1 else _) = 0
      rw [if_neg (by omega)]; exact t7 k hk)
theorem zt_ok_roll {T : zT} (hT : zt_ok T) (x t f : Int32) : zt_ok (zs_roll T x t f) := zk_cases hT (fun hc => by
  have hi : ¬ (zi T.1.1 x ∨ zi 4 t) := fun h => absurd ((if_pos h : zc_roll T x t f = 1).symm.trans hc) (by decide)
  have hf : ¬ (f < 2 ∨ 1000 < f) := fun h => by
    have h2 : zc_roll T x t f = 2 := by unfold zc_roll; rw [if_neg hi, if_pos h]
    rw [hc] at h2; exact absurd h2 (by decide)
  have hn : ¬ (T.2 2 (zx x) ≠ 0 ∨ 100 ≤ T.1.2) := fun h => by
    have h2 : zc_roll T x t f = 3 := by unfold zc_roll; rw [if_neg hi, if_neg hf, if_pos h]
    rw [hc] at h2; exact absurd h2 (by decide)
  have hbl := zb_roll_lt hT
  obtain ⟨t1, t2, t3, t4, t5, t6, t7⟩ := hT
  have hq : zx x < T.1.1 := (zi_cases x (n := T.1.1) (by omega)).elim (fun h => absurd (Or.inl h) hi) (fun h => h.2.1)
  have hu : zx t < 4 := (zi_cases t (n := 4) (by decide)).elim (fun h => absurd (Or.inr h) hi) (fun h => h.2.1)
  obtain ⟨n, hn2, hn3, rfl⟩ := zi_faces hf
  rw [zx_nI (by omega)]
  generalize zx x = q at *
  generalize zx t = u at *
  have lo := fun (j k : Nat) (h : j < 5) => zs_rolled_lo T q u n k h
  obtain ⟨v5, v6, v7, v8, v9, v10, v11, v12⟩ := zs_rolled_v T q u n
  have hv := zd_val_le (st := T.2 1 q) (pt := T.2 4 u) hn2
  have e12 : ∀ k : Nat, (zs_rolled T q u n).2 12 k = T.2 12 k := fun k => by simp [zs_rolled, zh_u]
  refine ⟨t1, by show T.1.2 + 1 ≤ 100; omega, fun k => ?_, fun k => ?_, fun k hk => ?_, fun k hk => ?_, fun k hk => ?_⟩
  · rw [lo 0 k (by decide), lo 1 k (by decide), lo 2 k (by decide), lo 3 k (by decide)]
    exact ⟨(t3 k).1, zp_le (· < 65536) (fun _ _ => zd_roll_lt _ _ _) (t3 k).2.1, (t3 k).2.2.1, (t3 k).2.2.2⟩
  · rw [lo 4 k (by decide)]; exact t4 k
  · by_cases e : k = T.1.2
    · rw [e, v5, v6, v7, v8, v9, v10, v11, v12, t7 _ (Nat.le_refl _)]
      exact ⟨hq, hu, t4 u, hn2, hn3, by unfold zd_val; omega, hv, zd_roll_le _ _ _, zd_sum_lt _ _ _ _ _ _, Nat.zero_le 1⟩
    · have hk2 : k < T.1.2 := by have : k < T.1.2 + 1 := hk; omega
      have ee := fun j => zs_rolled_k T q u n j hk2
      have e0 := ee 0; have e1 := ee 1; have e2 := ee 2; have e3 := ee 3; have e4 := ee 4; have e5 := ee 5; have e6 := ee 6
      rw [show (zs_rolled T q u n).2 5 k = T.2 5 k from e0, show (zs_rolled T q u n).2 6 k = T.2 6 k from e1, show (zs_rolled T q u n).2 7 k = T.2 7 k from e2, show (zs_rolled T q u n).2 8 k = T.2 8 k from e3, show (zs_rolled T q u n).2 9 k = T.2 9 k from e4, show (zs_rolled T q u n).2 10 k = T.2 10 k from e5, show (zs_rolled T q u n).2 11 k = T.2 11 k from e6, e12]
      exact t5 k hk2
  · rw [lo 2 k (by decide), lo 3 k (by decide)]; exact t6 k hk
  · rw [e12]; exact t7 k (by have : T.1.2 + 1 ≤ k := hk; omega))
end
section
/-! two worlds in one heap: either stands beside the other -/
theorem zh_V.swap {g : zG} {A : Nat → Prop} {s : State} {S S2 : zS} {H : Heap} {locs : List Loc} (I : zh_V g A s (zh_w g S2) S H locs) : zh_V g A s (zh_w g S) S2 H locs :=
  ⟨I.1, va_P.swap (a := []) I.2.1, va_D.swap (a := []) I.2.2.1, I.2.2.2⟩
/-- the world of no cell -/
def zS0 : zS := ([], fun _ => 0, fun _ _ => 0, fun _ _ => none, fun _ => 0, fun _ _ => 0, fun _ _ => none, fun _ _ => 0)
theorem zS0_w (g : zG) : zh_w g zS0 = [] := rfl
/-- a second, empty world beside the first -/
theorem zh_V.beside {g : zG} {A : Nat → Prop} {s : State} {S : zS} {H : Heap} {locs : List Loc} (I : zh_V g A s [] S H locs) : zh_V g A s (zh_w g S) zS0 H locs := by
  have h : zh_w g S = zh_w g S ++ zh_w g zS0 := by rw [zS0_w]; exact (List.append_nil _).symm
  exact ⟨I.1, h ▸ I.2.1, h ▸ I.2.2.1, I.2.2.2⟩
end
