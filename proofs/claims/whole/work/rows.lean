section
-- ===== PART A: goes FIRST, ahead of the names: the tables' words, and 'selects' of the private methods out of them =====
/-- a private method of a class that the tables say can be made, by its rows of tables_1 -/
def lw_okq (q : MethodName × Nat) : Prop := (q.1.cls ≠ "java/lang/invoke/MethodHandle" ∧ q.1.cls ≠ "java/lang/invoke/VarHandle") ∧ Cond.instantiable q.1.cls q.2 ∈ tables_1 ∧ Cond.privateMethod q.1 ∈ tables_1 ∧ Cond.instanceMethod q.1 ∈ tables_1
theorem lw_p0 : lw_okq (⟨"DiceForge$Entry", "sumAfter", "(I)I"⟩, 8) := ⟨⟨by decide +kernel, by decide +kernel⟩, List.mem_of_getElem? (i := 99) (by decide +kernel), List.mem_of_getElem? (i := 97) (by decide +kernel), List.mem_of_getElem? (i := 98) (by decide +kernel)⟩
theorem lw_p1 : lw_okq (⟨"java/lang/Throwable", "fillInStackTrace", "(I)Ljava/lang/Throwable;"⟩, 6) := ⟨⟨by decide +kernel, by decide +kernel⟩, List.mem_of_getElem? (i := 151) (by decide +kernel), List.mem_of_getElem? (i := 149) (by decide +kernel), List.mem_of_getElem? (i := 150) (by decide +kernel)⟩
theorem lw_p2 : lw_okq (⟨"java/util/ArrayList", "add", "(Ljava/lang/Object;[Ljava/lang/Object;I)V"⟩, 3) := ⟨⟨by decide +kernel, by decide +kernel⟩, List.mem_of_getElem? (i := 30) (by decide +kernel), List.mem_of_getElem? (i := 236) (by decide +kernel), List.mem_of_getElem? (i := 237) (by decide +kernel)⟩
theorem lw_p3 : lw_okq (⟨"java/util/ArrayList", "grow", "()[Ljava/lang/Object;"⟩, 3) := ⟨⟨by decide +kernel, by decide +kernel⟩, List.mem_of_getElem? (i := 30) (by decide +kernel), List.mem_of_getElem? (i := 240) (by decide +kernel), List.mem_of_getElem? (i := 241) (by decide +kernel)⟩
theorem lw_p4 : lw_okq (⟨"java/util/ArrayList", "grow", "(I)[Ljava/lang/Object;"⟩, 3) := ⟨⟨by decide +kernel, by decide +kernel⟩, List.mem_of_getElem? (i := 30) (by decide +kernel), List.mem_of_getElem? (i := 244) (by decide +kernel), List.mem_of_getElem? (i := 245) (by decide +kernel)⟩
theorem lw_p5 : lw_okq (⟨"DiceForge", "promiseAt", "(I)LDiceForge$Promise;"⟩, 4) := ⟨⟨by decide +kernel, by decide +kernel⟩, List.mem_of_getElem? (i := 22) (by decide +kernel), List.mem_of_getElem? (i := 296) (by decide +kernel), List.mem_of_getElem? (i := 297) (by decide +kernel)⟩
theorem lw_p6 : lw_okq (⟨"DiceForge$Draws", "nextValue", "(II)I"⟩, 2) := ⟨⟨by decide +kernel, by decide +kernel⟩, List.mem_of_getElem? (i := 203) (by decide +kernel), List.mem_of_getElem? (i := 408) (by decide +kernel), List.mem_of_getElem? (i := 409) (by decide +kernel)⟩
theorem lw_p7 : lw_okq (⟨"DiceForge$Draws", "draw", "(I)V"⟩, 2) := ⟨⟨by decide +kernel, by decide +kernel⟩, List.mem_of_getElem? (i := 203) (by decide +kernel), List.mem_of_getElem? (i := 413) (by decide +kernel), List.mem_of_getElem? (i := 414) (by decide +kernel)⟩
theorem lw_p8 : lw_okq (⟨"DiceForge", "lastSum", "()I"⟩, 4) := ⟨⟨by decide +kernel, by decide +kernel⟩, List.mem_of_getElem? (i := 22) (by decide +kernel), List.mem_of_getElem? (i := 417) (by decide +kernel), List.mem_of_getElem? (i := 418) (by decide +kernel)⟩
theorem lw_p9 : lw_okq (⟨"DiceForge", "entryAt", "(I)LDiceForge$Entry;"⟩, 4) := ⟨⟨by decide +kernel, by decide +kernel⟩, List.mem_of_getElem? (i := 22) (by decide +kernel), List.mem_of_getElem? (i := 432) (by decide +kernel), List.mem_of_getElem? (i := 433) (by decide +kernel)⟩
theorem lw_p10 : lw_okq (⟨"DiceForge", "openedAt", "(I)LDiceForge$Promise;"⟩, 4) := ⟨⟨by decide +kernel, by decide +kernel⟩, List.mem_of_getElem? (i := 22) (by decide +kernel), List.mem_of_getElem? (i := 471) (by decide +kernel), List.mem_of_getElem? (i := 472) (by decide +kernel)⟩
theorem lw_p11 : lw_okq (⟨"DiceForge", "firstWrong", "(II)I"⟩, 4) := ⟨⟨by decide +kernel, by decide +kernel⟩, List.mem_of_getElem? (i := 22) (by decide +kernel), List.mem_of_getElem? (i := 484) (by decide +kernel), List.mem_of_getElem? (i := 485) (by decide +kernel)⟩
theorem lw_p12 : lw_okq (⟨"DiceForge", "strikeFrom", "(II)I"⟩, 4) := ⟨⟨by decide +kernel, by decide +kernel⟩, List.mem_of_getElem? (i := 22) (by decide +kernel), List.mem_of_getElem? (i := 496) (by decide +kernel), List.mem_of_getElem? (i := 497) (by decide +kernel)⟩
theorem lw_p13 : lw_okq (⟨"DiceForge$Entry", "countsFor", "(I)Z"⟩, 8) := ⟨⟨by decide +kernel, by decide +kernel⟩, List.mem_of_getElem? (i := 99) (by decide +kernel), List.mem_of_getElem? (i := 515) (by decide +kernel), List.mem_of_getElem? (i := 516) (by decide +kernel)⟩
theorem lw_p14 : lw_okq (⟨"DiceForge", "tallyValues", "(I)I"⟩, 4) := ⟨⟨by decide +kernel, by decide +kernel⟩, List.mem_of_getElem? (i := 22) (by decide +kernel), List.mem_of_getElem? (i := 526) (by decide +kernel), List.mem_of_getElem? (i := 527) (by decide +kernel)⟩
theorem lw_p15 : lw_okq (⟨"DiceForgeModel", "fails", "(I)I"⟩, 18) := ⟨⟨by decide +kernel, by decide +kernel⟩, List.mem_of_getElem? (i := 540) (by decide +kernel), List.mem_of_getElem? (i := 614) (by decide +kernel), List.mem_of_getElem? (i := 615) (by decide +kernel)⟩
def lw_privs_1 : List (MethodName × Nat) := [(⟨"DiceForge$Entry", "sumAfter", "(I)I"⟩, 8), (⟨"java/lang/Throwable", "fillInStackTrace", "(I)Ljava/lang/Throwable;"⟩, 6), (⟨"java/util/ArrayList", "add", "(Ljava/lang/Object;[Ljava/lang/Object;I)V"⟩, 3), (⟨"java/util/ArrayList", "grow", "()[Ljava/lang/Object;"⟩, 3), (⟨"java/util/ArrayList", "grow", "(I)[Ljava/lang/Object;"⟩, 3), (⟨"DiceForge", "promiseAt", "(I)LDiceForge$Promise;"⟩, 4), (⟨"DiceForge$Draws", "nextValue", "(II)I"⟩, 2), (⟨"DiceForge$Draws", "draw", "(I)V"⟩, 2), (⟨"DiceForge", "lastSum", "()I"⟩, 4), (⟨"DiceForge", "entryAt", "(I)LDiceForge$Entry;"⟩, 4), (⟨"DiceForge", "openedAt", "(I)LDiceForge$Promise;"⟩, 4), (⟨"DiceForge", "firstWrong", "(II)I"⟩, 4), (⟨"DiceForge", "strikeFrom", "(II)I"⟩, 4), (⟨"DiceForge$Entry", "countsFor", "(I)Z"⟩, 8), (⟨"DiceForge", "tallyValues", "(I)I"⟩, 4), (⟨"DiceForgeModel", "fails", "(I)I"⟩, 18)]
theorem lw_r1 : ∀ q ∈ lw_privs_1, lw_okq q := List.forall_mem_cons.mpr ⟨lw_p0, List.forall_mem_cons.mpr ⟨lw_p1, List.forall_mem_cons.mpr ⟨lw_p2, List.forall_mem_cons.mpr ⟨lw_p3, List.forall_mem_cons.mpr ⟨lw_p4, List.forall_mem_cons.mpr ⟨lw_p5, List.forall_mem_cons.mpr ⟨lw_p6, List.forall_mem_cons.mpr ⟨lw_p7, List.forall_mem_cons.mpr ⟨lw_p8, List.forall_mem_cons.mpr ⟨lw_p9, List.forall_mem_cons.mpr ⟨lw_p10, List.forall_mem_cons.mpr ⟨lw_p11, List.forall_mem_cons.mpr ⟨lw_p12, List.forall_mem_cons.mpr ⟨lw_p13, List.forall_mem_cons.mpr ⟨lw_p14, List.forall_mem_cons.mpr ⟨lw_p15, fun _ h => absurd h List.not_mem_nil⟩⟩⟩⟩⟩⟩⟩⟩⟩⟩⟩⟩⟩⟩⟩⟩
theorem lw_p16 : lw_okq (⟨"DiceForgeModel", "isPromise", "(I)Z"⟩, 18) := ⟨⟨by decide +kernel, by decide +kernel⟩, List.mem_of_getElem? (i := 540) (by decide +kernel), List.mem_of_getElem? (i := 622) (by decide +kernel), List.mem_of_getElem? (i := 623) (by decide +kernel)⟩
theorem lw_p17 : lw_okq (⟨"DiceForgeModel", "rolls", "(III)I"⟩, 18) := ⟨⟨by decide +kernel, by decide +kernel⟩, List.mem_of_getElem? (i := 540) (by decide +kernel), List.mem_of_getElem? (i := 659) (by decide +kernel), List.mem_of_getElem? (i := 660) (by decide +kernel)⟩
theorem lw_p18 : lw_okq (⟨"DiceForgeModel", "sumOf", "(I)I"⟩, 18) := ⟨⟨by decide +kernel, by decide +kernel⟩, List.mem_of_getElem? (i := 540) (by decide +kernel), List.mem_of_getElem? (i := 663) (by decide +kernel), List.mem_of_getElem? (i := 664) (by decide +kernel)⟩
theorem lw_p19 : lw_okq (⟨"DiceForgeModel", "isEntry", "(I)Z"⟩, 18) := ⟨⟨by decide +kernel, by decide +kernel⟩, List.mem_of_getElem? (i := 540) (by decide +kernel), List.mem_of_getElem? (i := 676) (by decide +kernel), List.mem_of_getElem? (i := 677) (by decide +kernel)⟩
theorem lw_p20 : lw_okq (⟨"DiceForgeModel", "again", "(I)I"⟩, 18) := ⟨⟨by decide +kernel, by decide +kernel⟩, List.mem_of_getElem? (i := 540) (by decide +kernel), List.mem_of_getElem? (i := 700) (by decide +kernel), List.mem_of_getElem? (i := 701) (by decide +kernel)⟩
theorem lw_p21 : lw_okq (⟨"DiceForgeModel", "firstWrong", "(I)I"⟩, 18) := ⟨⟨by decide +kernel, by decide +kernel⟩, List.mem_of_getElem? (i := 540) (by decide +kernel), List.mem_of_getElem? (i := 708) (by decide +kernel), List.mem_of_getElem? (i := 709) (by decide +kernel)⟩
theorem lw_p22 : lw_okq (⟨"DiceForgeModel", "counts", "(II)I"⟩, 18) := ⟨⟨by decide +kernel, by decide +kernel⟩, List.mem_of_getElem? (i := 540) (by decide +kernel), List.mem_of_getElem? (i := 724) (by decide +kernel), List.mem_of_getElem? (i := 725) (by decide +kernel)⟩
def lw_privs_2 : List (MethodName × Nat) := [(⟨"DiceForgeModel", "isPromise", "(I)Z"⟩, 18), (⟨"DiceForgeModel", "rolls", "(III)I"⟩, 18), (⟨"DiceForgeModel", "sumOf", "(I)I"⟩, 18), (⟨"DiceForgeModel", "isEntry", "(I)Z"⟩, 18), (⟨"DiceForgeModel", "again", "(I)I"⟩, 18), (⟨"DiceForgeModel", "firstWrong", "(I)I"⟩, 18), (⟨"DiceForgeModel", "counts", "(II)I"⟩, 18)]
theorem lw_r2 : ∀ q ∈ lw_privs_2, lw_okq q := List.forall_mem_cons.mpr ⟨lw_p16, List.forall_mem_cons.mpr ⟨lw_p17, List.forall_mem_cons.mpr ⟨lw_p18, List.forall_mem_cons.mpr ⟨lw_p19, List.forall_mem_cons.mpr ⟨lw_p20, List.forall_mem_cons.mpr ⟨lw_p21, List.forall_mem_cons.mpr ⟨lw_p22, fun _ h => absurd h List.not_mem_nil⟩⟩⟩⟩⟩⟩⟩
def lw_privs : List (MethodName × Nat) := lw_privs_1 ++ (lw_privs_2)
def lw_tbl : List Cond := k2_sels lw_privs ++ tables_1
theorem lw_privs_ok : ∀ q ∈ lw_privs, lw_okq q := by
  show ∀ q ∈ lw_privs_1 ++ (lw_privs_2), lw_okq q
  exact List.forall_mem_append.mpr ⟨lw_r1, lw_r2⟩
-- ===== end of PART A; then your names; then what follows =====
end
section
/-! ===== BEGIN words of one list among another's, by their places ===== -/
theorem goodIn_r {big : List Cond} (ws : List Cond) (ps : List Nat) (hp : ws = ps.filterMap (fun i => big[i]?)) (h : ws.all goodWord = true) : GoodIn big ws := by
  intro w hw
  have h1 := List.all_eq_true.mp h w hw
  rw [hp] at hw
  obtain ⟨i, -, hi⟩ := List.mem_filterMap.mp hw
  have hm : w ∈ big := by first | exact List.mem_of_getElem? hi | exact List.getElem?_mem hi
  exact ⟨hm, good_of_word h1⟩
theorem goodIn_app {big a b : List Cond} (ha : GoodIn big a) (hb : GoodIn big b) : GoodIn big (a ++ b) := fun w h => (List.mem_append.mp h).elim (ha w) (hb w)
theorem goodIn_ca {big a b : List Cond} {c : Cond} (ha : GoodIn big (c :: a)) (hb : GoodIn big b) : GoodIn big (c :: (a ++ b)) := fun w h => (List.mem_cons.mp h).elim (fun e => ha w (List.mem_cons.mpr (Or.inl e))) (fun h => (List.mem_append.mp h).elim (fun h => ha w (List.mem_cons.mpr (Or.inr h))) (hb w))
theorem goodIn_sub {big ws : List Cond} (hm : ∀ w ∈ ws, w ∈ big) (h : ws.all goodWord = true) : GoodIn big ws := fun w hw => ⟨hm w hw, good_of_word (List.all_eq_true.mp h w hw)⟩
/-! ===== END ===== -/

/-! ===== BEGIN exceptions that leave a method, and their catching by the caller (launches without stack traces) ===== -/
section VXA
/-! The laws vx_back, vx_callV, vx_callS, vx_callSW, vx_throw0, vx_throwS follow proofs of the library, with one case more: JvmDerived/Free/Laws.lean (Back.of_free), Shelf42/LK1.lean (callV, callS), Shelf/KitTraced.lean (throwNew0V, throwNewS). -/
/-- where a method has thrown q: the class by its name, the cell, what was written, the world -/
def vx_T (XC : String → State → State → Prop) (st : State) (q : Addr) (t : State) (mc ms : Nat) (free : Addr → Prop) : Prop :=
  ∃ (E : String) (ce : Cell) (L : List Loc), XC E st t ∧ t.heap[q]? = some ce ∧ ce.vm = .none ∧ st.vm.findClass E = some ce.cls ∧ st.WarmedH t.vm ∧ st.sameButNew ({ t with vm := st.vm } : State) L mc ms ∧ ∀ z ∈ L, free z.base
def vx_Q (Qc : Array Value → State → Outcome → State → Prop) (XC : String → State → State → Prop) (mc ms : Nat) (free : Addr → Prop) : Array Value → State → Outcome → State → Prop := fun a st o t =>
  (Qc a st o t ∧ ∃ L, FrameEnd st o t L mc ms ∧ ∀ q ∈ L, free q.base) ∨ ∃ q, o = .threw q ∧ vx_T XC st q t mc ms free
/-- a callee that returns or throws -/
def vx_Met (l : Launch) (y : MethodName) (ws : List Cond) (rm : Room) (Pc : Array Value → State → Prop) (Qc : Array Value → State → Outcome → State → Prop) (XC : String → State → State → Prop) (mc ms : Nat) (free : Addr → Prop) : Prop :=
  MetFree l y (headSpec ws rm) Pc (fun _ _ _ _ _ => True) (vx_Q Qc XC mc ms free)
def vx_Post (XC : String → State → State → Prop) (mc ms : Nat) (free : Addr → Prop) : Pt → Array Value → Addr → Pt → Prop := fun A a q B =>
  ∃ (g : JFrame) (mk : MethodId) (t : State) (L : List Loc) (E : String) (ce : Cell), B.U.heap = t.heap ∧ B.U.vm = t.vm ∧ XC E (A.U.calling g mk a) t ∧ t.heap[q]? = some ce ∧ ce.vm = .none ∧ A.U.vm.findClass E = some ce.cls ∧ B.locs = A.locs ++ L ∧ (∀ z ∈ L, free z.base) ∧ B.cells = A.cells + mc ∧ B.slots = A.slots + ms
def vx_Back (l : Launch) (R : Room) (p : Program) (e : Env) (below : List Frame) (s : State) (sargs : Array Value) (y : MethodName) (len W9 : Nat)
    (Pre : Pt → Array Value → Prop) (Post : Pt → Array Value → Option Value → Pt → Prop) (PostX : Pt → Array Value → Addr → Pt → Prop) : Prop :=
  ∀ (m : MethodId) (meth : Method) (c : Code) (A : Pt) (g : JFrame) (ig : Instr) (mk : MethodId) (a : Array Value),
    Stand p l e R s m sargs below meth c A.U A.locs A.cells A.slots → g.method = m → g.locals.size = c.maxLocals → decode c.code g.pc = .ok (ig, len) →
    2 * g.monitorRoom + (g.stack.map fun v => v.category).sum ≤ W9 → A.U.methodNamed? y = some mk → Pre A a →
    (∃ (v : Option Value) (B : Pt), Stand p l e R s m sargs below meth c B.U B.locs B.cells B.slots ∧ Post A a v B ∧
      Steps p.tables e below (doInvoke e (A.U.setTop g) [] mk a).1 (B.U.setTop { g with pc := g.pc + len, stack := v.toList ++ g.stack })) ∨
    (∃ (q : Addr) (B : Pt), Stand p l e R s m sargs below meth c B.U B.locs B.cells B.slots ∧ PostX A a q B ∧
      Steps p.tables e below (doInvoke e (A.U.setTop g) [] mk a).1 ((B.U.setTop g).pushFrame (.throwing q)))
section Payer
variable {l : Launch} {R : Room} {p : Program} {e : Env} {below : List Frame} {s : State} {sargs : Array Value} {y : MethodName} {len W9 : Nat}
theorem vx_back {ws : List Cond} {rm : Room} {Pc : Array Value → State → Prop} {Qc : Array Value → State → Outcome → State → Prop} {XC : String → State → State → Prop} {mc ms : Nat} {free : Addr → Prop} {bytes : ByteArray} {maxL : Nat} {ret : Option FieldType}
    (hM : vx_Met l y ws rm Pc Qc XC mc ms free) (hblind : FrameBlind Pc) (hrc : rm.cells = mc) (hrs : rm.slots = ms)
    (hframes : rm.frames + 1 ≤ R.frames) (hlocals : W9 + (maxL + 11) + rm.locals ≤ R.locals)
    (hws : ∀ w ∈ ws, ∀ a' U, s.WarmedH U.vm → w.before a' U = true) (hcode : Cond.code y bytes maxL ret ∈ ws) (hinit : ∀ a' U, s.WarmedH U.vm → (Cond.initialized y.cls).before a' U = true) :
    vx_Back l R p e below s sargs y len W9 (PreOf R mc ms Pc) (PostOf Qc mc ms free) (vx_Post XC mc ms free) := by
  intro m meth c A g ig mk a X hg hsize hdg hW hn hp
  have h1 : (headSpec ws rm).pre.before a A.U = true := atoms_intro fun w hw => hws w hw _ _ X.warmed
  have h2 : (Cond.code y bytes maxL ret).before a A.U = true := hws _ hcode _ _ X.warmed
  have h3 : (Cond.initialized y.cls).before a A.U = true := hinit _ _ X.warmed
  have h4 : A.cells + (headSpec ws rm).room.cells ≤ R.cells := by rw [show (headSpec ws rm).room.cells = mc from hrc]; exact hp.1
  have h5 : A.slots + (headSpec ws rm).room.slots ≤ R.slots := by rw [show (headSpec ws rm).room.slots = ms from hrs]; exact hp.2.1
  have hPc : Pc a (A.U.calling g mk a) := hblind _ _ _ _ hp.2.2
  obtain ⟨U, Ls, c0, s0⟩ := A
  dsimp only [Pt.U, Pt.locs, Pt.cells, Pt.slots] at h1 h2 h3 h4 h5 X hn hPc ⊢
  obtain ⟨methY, cY, hmY, hcY, -, hlY, -, -, -, -⟩ := Cond.code_spec hn h2
  obtain ⟨kY, hkY, -⟩ := className_of_methodNamed hn
  have hinitY : kY.init = .initialized := Cond.initialized_spec (findClass_of_methodNamed hn) hkY h3
  have h : At U g.method c below := by rw [hg]; exact X.here
  have hlocals9 : W9 + (maxL + 11) + (headSpec ws rm).room.locals ≤ R.locals := hlocals
  have happ : (headSpec ws rm).appliesLoose y e.platform (U.calling g mk a) = true :=
    Spec.appliesLoose_calling (g := g) h hdg hn hkY hinitY
      (X.room_calling (g := g) (R' := (headSpec ws rm).room) hsize hmY hcY hframes (by rw [hlY]; omega) h4 h5) h1
  obtain ⟨mid, hmid⟩ := h.above
  have hfr : (U.setTop g).frames = (.java g :: mid) ++ below := by rw [State.frames_setTop' g h.top, hmid]; rfl
  obtain ⟨o, s₂, hsteps, -, hend, hq⟩ := Steps.callFree hM p X.admits X.cas X.clock (acts := []) hfr happ hPc trivial
  have hq' : vx_Q Qc XC mc ms free a (U.calling g mk a) o s₂ := hq
  rw [State.frames_setTop' g h.top] at hend
  obtain ⟨g₀, hg0⟩ := Option.isSome_iff_exists.mp h.top
  obtain ⟨r, hr⟩ := State.topJava?_eq_some.mp hg0
  have hr' : (({ U with heap := s₂.heap, slotsUsed := s₂.slotsUsed } : State).setVm s₂.vm).frames = .java g₀ :: r := hr
  rcases hq' with ⟨hqc, L, hfe, hL⟩ | ⟨q, rfl, E, ce, L, hx, hce, hcv, hcl, hW₂, hsm, hL⟩
  · obtain ⟨⟨v, rfl⟩, hW₂, e2, q2, q3, q4, q5, q6⟩ := id hfe
    have e3 : s₂ = ({ (U.calling g mk a).setFrames s₂.frames with heap := s₂.heap, slotsUsed := s₂.slotsUsed } : State).setVm s₂.vm := by
      have : s₂ = ({ s₂ with vm := (U.calling g mk a).vm } : State).setVm s₂.vm := rfl
      rw [e2] at this
      exact this
    obtain ⟨c₂, i₂, len₂, hc₂, hd₂, hf₂⟩ := hend
    have hW' : U.WarmedH s₂.vm := hW₂
    have hcc : c₂ = c := by
      have h1 : s₂.code? g.method = U.code? g.method := by
        rw [State.code?_eq, State.code?_eq, hW'.alike.method?]
      exact Option.some.inj (hc₂.symm.trans (h1.trans h.code))
    subst hcc
    have hlen : len₂ = len := by rw [hdg] at hd₂; cases hd₂; rfl
    subst hlen
    have hs₂ : s₂ = (({ U with heap := s₂.heap, slotsUsed := s₂.slotsUsed } : State).setVm s₂.vm).setTop { g with pc := g.pc + len₂, stack := v.toList ++ g.stack } := by
      refine e3.trans ?_
      rw [hf₂, State.calling_eq h.top, State.setFrames_setFrames, State.setTop_of_frames _ hr', hr]
      rfl
    have hsame : U.sameButNew ({ U with heap := s₂.heap, slotsUsed := s₂.slotsUsed } : State) L mc ms := by
      refine ⟨?_, q2, q3, q4, q5, q6⟩
      obtain ⟨t, ht, -⟩ := State.frames_cons hr
      show ({ U with heap := s₂.heap, slotsUsed := s₂.slotsUsed } : State) = { U.setFrames U.frames with heap := s₂.heap, slotsUsed := s₂.slotsUsed }
      rw [State.setFrames_self ht]
    subst hg
    refine Or.inl ⟨v, ⟨(({ U with heap := s₂.heap, slotsUsed := s₂.slotsUsed } : State).setVm s₂.vm), Ls ++ L, c0 + mc, s0 + ms⟩,
      ⟨X.admits, X.cas, X.clock, X.frames, X.room, X.hears, X.method, X.code, (X.here.setHeapUsed s₂.heap s₂.slotsUsed).setVm hW'.alike, X.tail, State.WarmedH.trans X.warmed hW', X.limits, X.bytes, X.same.trans (hsame.setVm s.vm)⟩,
      ⟨g, mk, s₂, L, rfl, rfl, hqc, rfl, hL, rfl, rfl⟩, ?_⟩
    show Steps p.tables e below _ ((({ U with heap := s₂.heap, slotsUsed := s₂.slotsUsed } : State).setVm s₂.vm).setTop { g with pc := g.pc + len₂, stack := v.toList ++ g.stack })
    rw [← hs₂]
    exact hsteps
  · obtain ⟨e2, q2, q3, q4, q5, q6⟩ := id hsm
    have e3 : s₂ = ({ (U.calling g mk a).setFrames s₂.frames with heap := s₂.heap, slotsUsed := s₂.slotsUsed } : State).setVm s₂.vm := by
      have : s₂ = ({ s₂ with vm := (U.calling g mk a).vm } : State).setVm s₂.vm := rfl
      rw [e2] at this
      exact this
    have hf₂ : s₂.frames = .throwing q :: .java g :: U.frames.tail := hend
    have hW' : U.WarmedH s₂.vm := hW₂
    have hs₂ : s₂ = ((({ U with heap := s₂.heap, slotsUsed := s₂.slotsUsed } : State).setVm s₂.vm).setTop g).pushFrame (.throwing q) := by
      refine e3.trans ?_
      rw [hf₂, State.calling_eq h.top, State.setFrames_setFrames, State.pushFrame, State.frames_setTop _ hr', State.setTop_of_frames _ hr', State.setFrames_setFrames, hr]
      rfl
    have hsame : U.sameButNew ({ U with heap := s₂.heap, slotsUsed := s₂.slotsUsed } : State) L mc ms := by
      refine ⟨?_, q2, q3, q4, q5, q6⟩
      obtain ⟨t, ht, -⟩ := State.frames_cons hr
      show ({ U with heap := s₂.heap, slotsUsed := s₂.slotsUsed } : State) = { U.setFrames U.frames with heap := s₂.heap, slotsUsed := s₂.slotsUsed }
      rw [State.setFrames_self ht]
    subst hg
    refine Or.inr ⟨q, ⟨(({ U with heap := s₂.heap, slotsUsed := s₂.slotsUsed } : State).setVm s₂.vm), Ls ++ L, c0 + mc, s0 + ms⟩,
      ⟨X.admits, X.cas, X.clock, X.frames, X.room, X.hears, X.method, X.code, (X.here.setHeapUsed s₂.heap s₂.slotsUsed).setVm hW'.alike, X.tail, State.WarmedH.trans X.warmed hW', X.limits, X.bytes, X.same.trans (hsame.setVm s.vm)⟩,
      ⟨g, mk, s₂, L, E, ce, rfl, rfl, hx, hce, hcv, hcl, rfl, hL, rfl, rfl⟩, ?_⟩
    show Steps p.tables e below _ (((({ U with heap := s₂.heap, slotsUsed := s₂.slotsUsed } : State).setVm s₂.vm).setTop g).pushFrame (.throwing q))
    rw [← hs₂]
    exact hsteps
end Payer
section Calls
variable {p : Program} {l : Launch} {e : Env} {R : Room} {s : State} {m : MethodId} {args : Array Value} {below : List Frame} {meth : Method} {c : Code} {T : State} {locs : List Loc} {cells slots : Nat}
theorem vx_callV (X : Stand p l e R s m args below meth c T locs cells slots) (hexec : p.tables.exec = Jvm.exec) {own C : String} {index : Nat} {y : MethodName} {bytes : ByteArray} {maxL : Nat} {ret : Option FieldType}
    (hown : s.vm.findClass own = some m.cls) (hlink : (Cond.methodLink own index y).before args s = true) (hinst : (Cond.instanceMethod y).before args s = true) (hsel : (Cond.selects C y y).before args s = true)
    (hcode : (Cond.code y bytes maxL ret).before args s = true) (hy : y.cls ≠ "java/lang/invoke/MethodHandle" ∧ y.cls ≠ "java/lang/invoke/VarHandle")
    {W9 : Nat} {Pre : Pt → Array Value → Prop} {Post : Pt → Array Value → Option Value → Pt → Prop} {PostX : Pt → Array Value → Addr → Pt → Prop} (hK : vx_Back l R p e below s args y 3 W9 Pre Post PostX)
    {b : Addr} {cellB : Cell} (hcell : T.heap[b]? = some cellB) (hobj : cellB.vm.isStatics = false) (hcls : s.vm.findClass C = some cellB.cls)
    {g : JFrame} (hg : g.method = m) (hsize : g.locals.size = c.maxLocals) {argsL rest : List Value} (hlen : ∀ sig, parseMethodDescriptor y.desc = some sig → argsL.length = sig.parameters.length)
    (hstack : g.stack = argsL.reverse ++ .ref b :: rest) (hW : 2 * g.monitorRoom + (rest.map fun v => v.category).sum ≤ W9) (hdg : decode c.code g.pc = .ok (.invokevirtual index, 3))
    (hpre : ∀ vm₁, s.WarmedH vm₁ → Pre ⟨T.setVm vm₁, locs, cells, slots⟩ (Value.ref b :: argsL).toArray) :
    (∃ (v : Option Value) (vm₁ : Vm) (B : Pt), s.WarmedH vm₁ ∧ Stand p l e R s m args below meth c B.U B.locs B.cells B.slots ∧ Post ⟨T.setVm vm₁, locs, cells, slots⟩ (Value.ref b :: argsL).toArray v B ∧
      ∀ target, Steps p.tables e below (B.U.setTop { g with pc := g.pc + 3, stack := v.toList ++ rest }) target → Steps p.tables e below (T.setTop g) target) ∨
    (∃ (q : Addr) (vm₁ : Vm) (B : Pt), s.WarmedH vm₁ ∧ Stand p l e R s m args below meth c B.U B.locs B.cells B.slots ∧ PostX ⟨T.setVm vm₁, locs, cells, slots⟩ (Value.ref b :: argsL).toArray q B ∧
      Steps p.tables e below (T.setTop g) ((B.U.setTop { g with stack := rest }).pushFrame (.throwing q))) := by
  obtain ⟨mk, methM, hnamed, hmethM, hstM, habM⟩ := Cond.instanceMethod_spec hinst
  obtain ⟨methM', cM, hmethM', -, -, -, -, -, -, hsigM⟩ := Cond.code_spec hnamed hcode
  cases hmethM.symm.trans hmethM'
  obtain ⟨c2, r2, m2, q1, q2, q3, q4, kP, hkP, hkPi⟩ := Cond.selects_spec hsel
  cases hcls.symm.trans q1
  cases (State.methodFound?_of_named hnamed hy).symm.trans q2
  cases hnamed.symm.trans q3
  have hselP : selectMethod e.platform s.vm cellB.cls mk = .method mk := by rw [Launch.admits_selectMethod X.admits]; exact q4
  obtain ⟨vm₁, X₁, hstep₁⟩ := X.invokevirtual hexec hown hlink hnamed hmethM hstM hkP hkPi hy (a := b) (cell := cellB) hcell
    (fun z h => by rw [h] at hobj; cases hobj) hselP hmethM habM hkP hkPi (g := g) hg (argsL := argsL) (rest := rest) (hlen _ hsigM) hstack hdg
  rcases hK m meth c ⟨T.setVm vm₁, locs, cells, slots⟩ { g with stack := rest } (.invokevirtual index) mk (Value.ref b :: argsL).toArray X₁ hg hsize hdg hW (X₁.named hnamed) (hpre vm₁ X₁.warmed) with ⟨v, B, X', hpost, hsteps⟩ | ⟨q, B, X', hpost, hsteps⟩
  · exact Or.inl ⟨v, vm₁, B, X₁.warmed, X', hpost, fun target h => hstep₁ _ fun acts => by rw [doInvoke_state]; exact hsteps.trans h⟩
  · exact Or.inr ⟨q, vm₁, B, X₁.warmed, X', hpost, hstep₁ _ fun acts => by rw [doInvoke_state]; exact hsteps⟩
theorem vx_callS (X : Stand p l e R s m args below meth c T locs cells slots) (hexec : p.tables.exec = Jvm.exec) {own : String} {index : Nat} {y : MethodName} {bytes : ByteArray} {maxL : Nat} {ret : Option FieldType}
    (hown : s.vm.findClass own = some m.cls) (hlink : (Cond.methodLink own index y).before args s = true) (hstat : (Cond.static y).before args s = true) (hinit : (Cond.initialized y.cls).before args s = true)
    (hcode : (Cond.code y bytes maxL ret).before args s = true) (hy : y.cls ≠ "java/lang/invoke/MethodHandle" ∧ y.cls ≠ "java/lang/invoke/VarHandle")
    {W9 : Nat} {Pre : Pt → Array Value → Prop} {Post : Pt → Array Value → Option Value → Pt → Prop} {PostX : Pt → Array Value → Addr → Pt → Prop} (hK : vx_Back l R p e below s args y 3 W9 Pre Post PostX)
    {g : JFrame} (hg : g.method = m) (hsize : g.locals.size = c.maxLocals) {argsL rest : List Value} (hlen : ∀ sig, parseMethodDescriptor y.desc = some sig → argsL.length = sig.parameters.length)
    (hstack : g.stack = argsL.reverse ++ rest) (hW : 2 * g.monitorRoom + (rest.map fun v => v.category).sum ≤ W9) (hdg : decode c.code g.pc = .ok (.invokestatic index, 3))
    (hpre : ∀ vm₁, s.WarmedH vm₁ → Pre ⟨T.setVm vm₁, locs, cells, slots⟩ argsL.toArray) :
    (∃ (v : Option Value) (vm₁ : Vm) (B : Pt), s.WarmedH vm₁ ∧ Stand p l e R s m args below meth c B.U B.locs B.cells B.slots ∧ Post ⟨T.setVm vm₁, locs, cells, slots⟩ argsL.toArray v B ∧
      ∀ target, Steps p.tables e below (B.U.setTop { g with pc := g.pc + 3, stack := v.toList ++ rest }) target → Steps p.tables e below (T.setTop g) target) ∨
    (∃ (q : Addr) (vm₁ : Vm) (B : Pt), s.WarmedH vm₁ ∧ Stand p l e R s m args below meth c B.U B.locs B.cells B.slots ∧ PostX ⟨T.setVm vm₁, locs, cells, slots⟩ argsL.toArray q B ∧
      Steps p.tables e below (T.setTop g) ((B.U.setTop { g with stack := rest }).pushFrame (.throwing q))) := by
  obtain ⟨mk, hnamed⟩ := Cond.code_named hcode
  obtain ⟨methM, cM, hmethM, -, -, -, -, -, -, hsigM⟩ := Cond.code_spec hnamed hcode
  have hstatic : methM.isStatic = true := Cond.static_spec hnamed hmethM hstat
  obtain ⟨kP, hkP, -⟩ := className_of_methodNamed hnamed
  have hinitP : kP.init = .initialized := Cond.initialized_spec (findClass_of_methodNamed hnamed) hkP hinit
  obtain ⟨vm₁, X₁, hstep₁⟩ := X.invokestatic hexec hown hlink hnamed hmethM hstatic hkP hinitP hy (g := g) hg (argsL := argsL) (rest := rest) (hlen _ hsigM) hstack hdg
  rcases hK m meth c ⟨T.setVm vm₁, locs, cells, slots⟩ { g with stack := rest } (.invokestatic index) mk argsL.toArray X₁ hg hsize hdg hW (X₁.named hnamed) (hpre vm₁ X₁.warmed) with ⟨v, B, X', hpost, hsteps⟩ | ⟨q, B, X', hpost, hsteps⟩
  · exact Or.inl ⟨v, vm₁, B, X₁.warmed, X', hpost, fun target h => hstep₁ _ fun acts => by rw [doInvoke_state]; exact hsteps.trans h⟩
  · exact Or.inr ⟨q, vm₁, B, X₁.warmed, X', hpost, hstep₁ _ fun acts => by rw [doInvoke_state]; exact hsteps⟩
end Calls
theorem vx_cls {s : State} {T : State} {vm₁ : Vm} {E : String} {k : ClassId} (hW : s.WarmedH vm₁) (h : (T.setVm vm₁).vm.findClass E = some k) : s.vm.findClass E = some k := by
  have h1 : vm₁.findClass E = some k := h
  rw [hW.alike.findClass] at h1
  exact h1
/-- the method's frame g, with q thrown over it -/
def vx_W (p : Program) (l : Launch) (e : Env) (R : Room) (s : State) (m : MethodId) (args : Array Value) (below : List Frame) (meth : Method) (c : Code) (H : Heap) (locs : List Loc) (cells slots : Nat) (Q : State → Prop) (g : JFrame) (q : Addr) : Prop :=
  ∀ T : State, T.heap = H → Stand p l e R s m args below meth c T locs cells slots → ∃ t, Steps p.tables e below ((T.setTop g).pushFrame (.throwing q)) t ∧ Q t
def vx_Run (p : Program) (l : Launch) (e : Env) (R : Room) (s : State) (m : MethodId) (args : Array Value) (below : List Frame) (meth : Method) (c : Code) (H : Heap) (locs : List Loc) (cells slots mc ms : Nat) (g : JFrame) (rest : List Value) (Qa : State → Outcome → State → Prop) (XC : String → State → State → Prop) (free : Addr → Prop) : Prop :=
  ∀ T : State, T.heap = H → Stand p l e R s m args below meth c T locs cells slots →
    (∃ (v : Option Value) (st₀ t T' : State) (L : List Loc), st₀.heap = H ∧ Stand p l e R s m args below meth c T' (locs ++ L) (cells + mc) (slots + ms) ∧ (∀ q ∈ L, free q.base) ∧ T'.heap = t.heap ∧ T'.vm = t.vm ∧ Qa st₀ (.returned v) t ∧
      Goes p e below T g T' { g with pc := g.pc + 3, stack := v.toList ++ rest }) ∨
    (∃ (q : Addr) (st₀ t T' : State) (L : List Loc) (E : String) (ce : Cell), st₀.heap = H ∧ Stand p l e R s m args below meth c T' (locs ++ L) (cells + mc) (slots + ms) ∧ (∀ z ∈ L, free z.base) ∧ T'.heap = t.heap ∧ T'.vm = t.vm ∧ XC E st₀ t ∧ t.heap[q]? = some ce ∧ ce.vm = .none ∧ s.vm.findClass E = some ce.cls ∧
      Steps p.tables e below (T.setTop g) ((T'.setTop { g with stack := rest }).pushFrame (.throwing q)))
def vx_X {S : Type} (px : S → Prop) (B : String → S → State → Prop) (A : Nat → Prop) : String → State → State → Prop := fun E st t => ∃ u : S, px u ∧ B E u t ∧ va_F A st t
section Runs
variable {p : Program} {l : Launch} {e : Env} {R : Room} {s : State} {m : MethodId} {args : Array Value} {below : List Frame} {meth : Method} {c : Code} {H : Heap} {locs : List Loc} {cells slots : Nat}
variable {y : MethodName} {bytes cc : ByteArray} {maxL nL mc ms n index : Nat} {ret : Option FieldType} {ws : List Cond} {rm : Room} {Pc : Array Value → State → Prop} {Qc : Array Value → State → Outcome → State → Prop} {XC : String → State → State → Prop} {free : Addr → Prop} {Ts : List Cond} {own C : String} {b : Addr} {As rest : List Value} {g : JFrame}
theorem vx_callBack (cb : CallB R s args own index y bytes maxL ret ws rm mc ms n) (hM : vx_Met l y ws rm Pc Qc XC mc ms free) (hbl : FrameBlind Pc) : vx_Back l R p e below s args y 3 8 (PreOf R mc ms Pc) (PostOf Qc mc ms free) (vx_Post XC mc ms free) := by
  obtain ⟨hrc, hrs, hfr, hlo, hws, hcw, -, hini, -⟩ := cb
  exact vx_back (bytes := bytes) (maxL := maxL) (ret := ret) hM hbl hrc hrs hfr hlo hws hcw (fun a' U hW => word_at hW (Or.inl (by first | rfl | simp [Cond.onTables, Cond.keeps, Cond.steady])) hini)
theorem vx_runV (S : CallFix p m c cc nL s args Ts own) (hM : vx_Met l y ws rm Pc Qc XC mc ms free) (cw : CallW R s args own C index y bytes maxL ret ws rm mc ms n) (hp : PreV s H C b Pc As)
    (hg : g.method = m) (hn : As.length = n) (hsize : g.locals.size = nL) (hstack : g.stack = As.reverse ++ .ref b :: rest) (hW : 2 * g.monitorRoom + (rest.map fun v => v.category).sum ≤ 8) (hdg : decode cc g.pc = .ok (.invokevirtual index, 3)) (hf : cells + mc ≤ R.cells ∧ slots + ms ≤ R.slots) :
    vx_Run p l e R s m args below meth c H locs cells slots mc ms g rest (Qc (Value.ref b :: As).toArray) XC free := by
  have hK : vx_Back l R p e below s args y 3 8 (PreOf R mc ms Pc) (PostOf Qc mc ms free) (vx_Post XC mc ms free) := vx_callBack cw.1 hM hp.1
  obtain ⟨⟨-, -, -, -, -, -, hcode, -, hy, hlen, hl⟩, hin, hse⟩ := cw
  obtain ⟨hx, hb, hml, ho, -⟩ := S
  obtain ⟨-, ⟨cellB, hcB, hoB, hclB⟩, hPc⟩ := hp
  intro T hT X
  rcases vx_callV X hx (C := C) (bytes := bytes) (maxL := maxL) (ret := ret) ho hl hin hse hcode hy hK (by rw [hT]; exact hcB) hoB hclB hg (hsize.trans hml.symm) (argsL := As) (rest := rest) (fun sig h => hn.trans (hlen sig h)) hstack hW (by rw [hb]; exact hdg)
    (fun vm₁ hW₁ => ⟨hf.1, hf.2, hPc (T.setVm vm₁) hT hW₁⟩) with ⟨v, vm₁, ⟨U', l2, c2, s2⟩, hW₁, X', ⟨g', mk, t, L, e1, e2, hq, h1, hL, h2, h3⟩, st⟩ | ⟨q, vm₁, ⟨U', l2, c2, s2⟩, hW₁, X', ⟨g', mk, t, L, E, ce, e1, e2, hq, hce, hcv, hcl, h1, hL, h2, h3⟩, st⟩
  · dsimp only [Pt.U, Pt.locs, Pt.cells, Pt.slots] at X' e1 e2 h1 h2 h3 st
    subst h1; subst h2; subst h3
    exact Or.inl ⟨v, (T.setVm vm₁).calling g' mk (Value.ref b :: As).toArray, t, U', L, hT, X', hL, e1, e2, hq, st⟩
  · dsimp only [Pt.U, Pt.locs, Pt.cells, Pt.slots] at X' e1 e2 h1 h2 h3 st hcl
    subst h1; subst h2; subst h3
    exact Or.inr ⟨q, (T.setVm vm₁).calling g' mk (Value.ref b :: As).toArray, t, U', L, E, ce, hT, X', hL, e1, e2, hq, hce, hcv, vx_cls hW₁ hcl, st⟩
theorem vx_runS (S : CallFix p m c cc nL s args Ts own) (hM : vx_Met l y ws rm Pc Qc XC mc ms free) (cw : CallB R s args own index y bytes maxL ret ws rm mc ms n ∧ (Cond.static y).before args s = true) (hp : PreS s H Pc As)
    (hg : g.method = m) (hn : As.length = n) (hsize : g.locals.size = nL) (hstack : g.stack = As.reverse ++ rest) (hW : 2 * g.monitorRoom + (rest.map fun v => v.category).sum ≤ 8) (hdg : decode cc g.pc = .ok (.invokestatic index, 3)) (hf : cells + mc ≤ R.cells ∧ slots + ms ≤ R.slots) :
    vx_Run p l e R s m args below meth c H locs cells slots mc ms g rest (Qc As.toArray) XC free := by
  have hK : vx_Back l R p e below s args y 3 8 (PreOf R mc ms Pc) (PostOf Qc mc ms free) (vx_Post XC mc ms free) := vx_callBack cw.1 hM hp.1
  obtain ⟨⟨-, -, -, -, -, -, hcode, hini, hy, hlen, hl⟩, hstt⟩ := cw
  obtain ⟨hx, hb, hml, ho, -⟩ := S
  intro T hT X
  rcases vx_callS X hx (bytes := bytes) (maxL := maxL) (ret := ret) ho hl hstt hini hcode hy hK hg (hsize.trans hml.symm) (argsL := As) (rest := rest) (fun sig h => hn.trans (hlen sig h)) hstack hW (by rw [hb]; exact hdg)
    (fun vm₁ hW₁ => ⟨hf.1, hf.2, hp.2 (T.setVm vm₁) hT hW₁⟩) with ⟨v, vm₁, ⟨U', l2, c2, s2⟩, hW₁, X', ⟨g', mk, t, L, e1, e2, hq, h1, hL, h2, h3⟩, st⟩ | ⟨q, vm₁, ⟨U', l2, c2, s2⟩, hW₁, X', ⟨g', mk, t, L, E, ce, e1, e2, hq, hce, hcv, hcl, h1, hL, h2, h3⟩, st⟩
  · dsimp only [Pt.U, Pt.locs, Pt.cells, Pt.slots] at X' e1 e2 h1 h2 h3 st
    subst h1; subst h2; subst h3
    exact Or.inl ⟨v, (T.setVm vm₁).calling g' mk As.toArray, t, U', L, hT, X', hL, e1, e2, hq, st⟩
  · dsimp only [Pt.U, Pt.locs, Pt.cells, Pt.slots] at X' e1 e2 h1 h2 h3 st hcl
    subst h1; subst h2; subst h3
    exact Or.inr ⟨q, (T.setVm vm₁).calling g' mk As.toArray, t, U', L, E, ce, hT, X', hL, e1, e2, hq, hce, hcv, vx_cls hW₁ hcl, st⟩
end Runs
section Rows
variable {p : Program} {l : Launch} {e : Env} {R : Room} {s : State} {m : MethodId} {args : Array Value} {below : List Frame} {meth : Method} {c : Code} {H : Heap} {locs : List Loc} {cells slots : Nat} {Q : State → Prop}
variable {mc ms : Nat} {free : Addr → Prop} {A0 A1 : Nat → Prop} {H0 : Heap} {a : Array Value} {pc : Nat} {ls : Array Slot} {st0 rest : List Value}
theorem vx_keep {st₀ t T' : State} {L : List Loc} (h0 : st₀.heap = H) (e1 : T'.heap = t.heap) (hS : va_S A0 H0 H locs) (hA : ∀ q, q < H.size → A1 q → A0 q) (hf : ∀ q, free q → A0 q) (hL : ∀ q ∈ L, free q.base) (hF : va_F A1 st₀ t) :
    H.size ≤ T'.heap.size ∧ (∀ q : Nat, q < H.size → ¬ A1 q → T'.heap[q]? = H[q]?) ∧ va_S A0 H0 T'.heap (locs ++ L) := by
  obtain ⟨hz, hk⟩ := hF
  rw [h0] at hz hk
  exact ⟨by rw [e1]; exact hz, fun q h1 h2 => by rw [e1]; exact hk q h1 h2,
    ⟨Nat.le_trans hS.1 (by rw [e1]; exact hz), fun q h1 h2 => by rw [e1, hk q (Nat.lt_of_lt_of_le h1 hS.1) (fun z => h2 (hA q (Nat.lt_of_lt_of_le h1 hS.1) z))]; exact hS.2.1 q h1 h2, fun q hq => by
      rcases List.mem_append.mp hq with h | h
      · exact hS.2.2 q h
      · exact hf _ (hL q h)⟩⟩
theorem vx_calli {S SX : Type} {post : Int32 → S → Prop} {px : SX → Prop} {B : S → State → Prop} {BX : String → SX → State → Prop} {AX : Nat → Prop} (hr : vx_Run p l e R s m args below meth c H locs cells slots mc ms (F0 m pc ls st0) rest (va_Qi post B A1 a) (vx_X px BX AX) free) (hS : va_S A0 H0 H locs) (hA : ∀ q, q < H.size → A1 q → A0 q) (hf : ∀ q, free q → A0 q) (hAX : ∀ q, q < H.size → AX q → A0 q)
    (kx : ∀ (E : String) (ce : Cell) (q9 : Addr) (u : SX) (t : State) (H1 : Heap) (locs1 : List Loc), t.heap = H1 → s.vm.Alike t.vm → px u → BX E u t → H.size ≤ H1.size → (∀ q : Nat, q < H.size → ¬ AX q → H1[q]? = H[q]?) → va_S A0 H0 H1 locs1 → H1[q9]? = some ce → ce.vm = .none → s.vm.findClass E = some ce.cls → vx_W p l e R s m args below meth c H1 locs1 (cells + mc) (slots + ms) Q (F0 m pc ls rest) q9)
    (kk : ∀ (r : Int32) (u : S) (t : State) (H1 : Heap) (locs1 : List Loc), t.heap = H1 → s.vm.Alike t.vm → post r u → B u t → H.size ≤ H1.size → (∀ q : Nat, q < H.size → ¬ A1 q → H1[q]? = H[q]?) → va_S A0 H0 H1 locs1 → W p l e R s m args below meth c H1 locs1 (cells + mc) (slots + ms) Q (F0 m (pc + 3) ls (.int r :: rest))) : W p l e R s m args below meth c H locs cells slots Q (F0 m pc ls st0) := by
  intro T hT X
  rcases hr T hT X with ⟨v, st₀, t, T', L, h0, X', hL, e1, e2, ⟨⟨r, u, hv, hp, hb⟩, hF⟩, st⟩ | ⟨q, st₀, t, T', L, E, ce, h0, X', hL, e1, e2, ⟨u, hp, hb, hF⟩, hce, hcv, hcl, st⟩
  · cases hv
    obtain ⟨k1, k2, k3⟩ := vx_keep h0 e1 hS hA hf hL hF
    obtain ⟨t2, a1, b1⟩ := kk r u t T'.heap (locs ++ L) e1.symm (by rw [← e2]; exact X'.warmed.alike) hp hb k1 k2 k3 T' rfl X'
    exact ⟨t2, st t2 a1, b1⟩
  · obtain ⟨k1, k2, k3⟩ := vx_keep h0 e1 hS hAX hf hL hF
    obtain ⟨t2, a1, b1⟩ := kx E ce q u t T'.heap (locs ++ L) e1.symm (by rw [← e2]; exact X'.warmed.alike) hp hb k1 k2 k3 (by rw [e1]; exact hce) hcv hcl T' rfl X'
    exact ⟨t2, st.trans a1, b1⟩
theorem vx_calll {S SX : Type} {post : Int64 → S → Prop} {px : SX → Prop} {B : S → State → Prop} {BX : String → SX → State → Prop} {AX : Nat → Prop} (hr : vx_Run p l e R s m args below meth c H locs cells slots mc ms (F0 m pc ls st0) rest (va_Ql post B A1 a) (vx_X px BX AX) free) (hS : va_S A0 H0 H locs) (hA : ∀ q, q < H.size → A1 q → A0 q) (hf : ∀ q, free q → A0 q) (hAX : ∀ q, q < H.size → AX q → A0 q)
    (kx : ∀ (E : String) (ce : Cell) (q9 : Addr) (u : SX) (t : State) (H1 : Heap) (locs1 : List Loc), t.heap = H1 → s.vm.Alike t.vm → px u → BX E u t → H.size ≤ H1.size → (∀ q : Nat, q < H.size → ¬ AX q → H1[q]? = H[q]?) → va_S A0 H0 H1 locs1 → H1[q9]? = some ce → ce.vm = .none → s.vm.findClass E = some ce.cls → vx_W p l e R s m args below meth c H1 locs1 (cells + mc) (slots + ms) Q (F0 m pc ls rest) q9)
    (kk : ∀ (r : Int64) (u : S) (t : State) (H1 : Heap) (locs1 : List Loc), t.heap = H1 → s.vm.Alike t.vm → post r u → B u t → H.size ≤ H1.size → (∀ q : Nat, q < H.size → ¬ A1 q → H1[q]? = H[q]?) → va_S A0 H0 H1 locs1 → W p l e R s m args below meth c H1 locs1 (cells + mc) (slots + ms) Q (F0 m (pc + 3) ls (.long r :: rest))) : W p l e R s m args below meth c H locs cells slots Q (F0 m pc ls st0) := by
  intro T hT X
  rcases hr T hT X with ⟨v, st₀, t, T', L, h0, X', hL, e1, e2, ⟨⟨r, u, hv, hp, hb⟩, hF⟩, st⟩ | ⟨q, st₀, t, T', L, E, ce, h0, X', hL, e1, e2, ⟨u, hp, hb, hF⟩, hce, hcv, hcl, st⟩
  · cases hv
    obtain ⟨k1, k2, k3⟩ := vx_keep h0 e1 hS hA hf hL hF
    obtain ⟨t2, a1, b1⟩ := kk r u t T'.heap (locs ++ L) e1.symm (by rw [← e2]; exact X'.warmed.alike) hp hb k1 k2 k3 T' rfl X'
    exact ⟨t2, st t2 a1, b1⟩
  · obtain ⟨k1, k2, k3⟩ := vx_keep h0 e1 hS hAX hf hL hF
    obtain ⟨t2, a1, b1⟩ := kx E ce q u t T'.heap (locs ++ L) e1.symm (by rw [← e2]; exact X'.warmed.alike) hp hb k1 k2 k3 (by rw [e1]; exact hce) hcv hcl T' rfl X'
    exact ⟨t2, st.trans a1, b1⟩
theorem vx_callf {S SX : Type} {post : UInt32 → S → Prop} {px : SX → Prop} {B : S → State → Prop} {BX : String → SX → State → Prop} {AX : Nat → Prop} (hr : vx_Run p l e R s m args below meth c H locs cells slots mc ms (F0 m pc ls st0) rest (va_Qf post B A1 a) (vx_X px BX AX) free) (hS : va_S A0 H0 H locs) (hA : ∀ q, q < H.size → A1 q → A0 q) (hf : ∀ q, free q → A0 q) (hAX : ∀ q, q < H.size → AX q → A0 q)
    (kx : ∀ (E : String) (ce : Cell) (q9 : Addr) (u : SX) (t : State) (H1 : Heap) (locs1 : List Loc), t.heap = H1 → s.vm.Alike t.vm → px u → BX E u t → H.size ≤ H1.size → (∀ q : Nat, q < H.size → ¬ AX q → H1[q]? = H[q]?) → va_S A0 H0 H1 locs1 → H1[q9]? = some ce → ce.vm = .none → s.vm.findClass E = some ce.cls → vx_W p l e R s m args below meth c H1 locs1 (cells + mc) (slots + ms) Q (F0 m pc ls rest) q9)
    (kk : ∀ (r : UInt32) (u : S) (t : State) (H1 : Heap) (locs1 : List Loc), t.heap = H1 → s.vm.Alike t.vm → post r u → B u t → H.size ≤ H1.size → (∀ q : Nat, q < H.size → ¬ A1 q → H1[q]? = H[q]?) → va_S A0 H0 H1 locs1 → W p l e R s m args below meth c H1 locs1 (cells + mc) (slots + ms) Q (F0 m (pc + 3) ls (.float r :: rest))) : W p l e R s m args below meth c H locs cells slots Q (F0 m pc ls st0) := by
  intro T hT X
  rcases hr T hT X with ⟨v, st₀, t, T', L, h0, X', hL, e1, e2, ⟨⟨r, u, hv, hp, hb⟩, hF⟩, st⟩ | ⟨q, st₀, t, T', L, E, ce, h0, X', hL, e1, e2, ⟨u, hp, hb, hF⟩, hce, hcv, hcl, st⟩
  · cases hv
    obtain ⟨k1, k2, k3⟩ := vx_keep h0 e1 hS hA hf hL hF
    obtain ⟨t2, a1, b1⟩ := kk r u t T'.heap (locs ++ L) e1.symm (by rw [← e2]; exact X'.warmed.alike) hp hb k1 k2 k3 T' rfl X'
    exact ⟨t2, st t2 a1, b1⟩
  · obtain ⟨k1, k2, k3⟩ := vx_keep h0 e1 hS hAX hf hL hF
    obtain ⟨t2, a1, b1⟩ := kx E ce q u t T'.heap (locs ++ L) e1.symm (by rw [← e2]; exact X'.warmed.alike) hp hb k1 k2 k3 (by rw [e1]; exact hce) hcv hcl T' rfl X'
    exact ⟨t2, st.trans a1, b1⟩
theorem vx_calld {S SX : Type} {post : UInt64 → S → Prop} {px : SX → Prop} {B : S → State → Prop} {BX : String → SX → State → Prop} {AX : Nat → Prop} (hr : vx_Run p l e R s m args below meth c H locs cells slots mc ms (F0 m pc ls st0) rest (va_Qd post B A1 a) (vx_X px BX AX) free) (hS : va_S A0 H0 H locs) (hA : ∀ q, q < H.size → A1 q → A0 q) (hf : ∀ q, free q → A0 q) (hAX : ∀ q, q < H.size → AX q → A0 q)
    (kx : ∀ (E : String) (ce : Cell) (q9 : Addr) (u : SX) (t : State) (H1 : Heap) (locs1 : List Loc), t.heap = H1 → s.vm.Alike t.vm → px u → BX E u t → H.size ≤ H1.size → (∀ q : Nat, q < H.size → ¬ AX q → H1[q]? = H[q]?) → va_S A0 H0 H1 locs1 → H1[q9]? = some ce → ce.vm = .none → s.vm.findClass E = some ce.cls → vx_W p l e R s m args below meth c H1 locs1 (cells + mc) (slots + ms) Q (F0 m pc ls rest) q9)
    (kk : ∀ (r : UInt64) (u : S) (t : State) (H1 : Heap) (locs1 : List Loc), t.heap = H1 → s.vm.Alike t.vm → post r u → B u t → H.size ≤ H1.size → (∀ q : Nat, q < H.size → ¬ A1 q → H1[q]? = H[q]?) → va_S A0 H0 H1 locs1 → W p l e R s m args below meth c H1 locs1 (cells + mc) (slots + ms) Q (F0 m (pc + 3) ls (.double r :: rest))) : W p l e R s m args below meth c H locs cells slots Q (F0 m pc ls st0) := by
  intro T hT X
  rcases hr T hT X with ⟨v, st₀, t, T', L, h0, X', hL, e1, e2, ⟨⟨r, u, hv, hp, hb⟩, hF⟩, st⟩ | ⟨q, st₀, t, T', L, E, ce, h0, X', hL, e1, e2, ⟨u, hp, hb, hF⟩, hce, hcv, hcl, st⟩
  · cases hv
    obtain ⟨k1, k2, k3⟩ := vx_keep h0 e1 hS hA hf hL hF
    obtain ⟨t2, a1, b1⟩ := kk r u t T'.heap (locs ++ L) e1.symm (by rw [← e2]; exact X'.warmed.alike) hp hb k1 k2 k3 T' rfl X'
    exact ⟨t2, st t2 a1, b1⟩
  · obtain ⟨k1, k2, k3⟩ := vx_keep h0 e1 hS hAX hf hL hF
    obtain ⟨t2, a1, b1⟩ := kx E ce q u t T'.heap (locs ++ L) e1.symm (by rw [← e2]; exact X'.warmed.alike) hp hb k1 k2 k3 (by rw [e1]; exact hce) hcv hcl T' rfl X'
    exact ⟨t2, st.trans a1, b1⟩
theorem vx_callv {S SX : Type} {post : S → Prop} {px : SX → Prop} {B : S → State → Prop} {BX : String → SX → State → Prop} {AX : Nat → Prop} (hr : vx_Run p l e R s m args below meth c H locs cells slots mc ms (F0 m pc ls st0) rest (va_Qv post B A1 a) (vx_X px BX AX) free) (hS : va_S A0 H0 H locs) (hA : ∀ q, q < H.size → A1 q → A0 q) (hf : ∀ q, free q → A0 q) (hAX : ∀ q, q < H.size → AX q → A0 q)
    (kx : ∀ (E : String) (ce : Cell) (q9 : Addr) (u : SX) (t : State) (H1 : Heap) (locs1 : List Loc), t.heap = H1 → s.vm.Alike t.vm → px u → BX E u t → H.size ≤ H1.size → (∀ q : Nat, q < H.size → ¬ AX q → H1[q]? = H[q]?) → va_S A0 H0 H1 locs1 → H1[q9]? = some ce → ce.vm = .none → s.vm.findClass E = some ce.cls → vx_W p l e R s m args below meth c H1 locs1 (cells + mc) (slots + ms) Q (F0 m pc ls rest) q9)
    (kk : ∀ (u : S) (t : State) (H1 : Heap) (locs1 : List Loc), t.heap = H1 → s.vm.Alike t.vm → post u → B u t → H.size ≤ H1.size → (∀ q : Nat, q < H.size → ¬ A1 q → H1[q]? = H[q]?) → va_S A0 H0 H1 locs1 → W p l e R s m args below meth c H1 locs1 (cells + mc) (slots + ms) Q (F0 m (pc + 3) ls (rest))) : W p l e R s m args below meth c H locs cells slots Q (F0 m pc ls st0) := by
  intro T hT X
  rcases hr T hT X with ⟨v, st₀, t, T', L, h0, X', hL, e1, e2, ⟨⟨u, hv, hp, hb⟩, hF⟩, st⟩ | ⟨q, st₀, t, T', L, E, ce, h0, X', hL, e1, e2, ⟨u, hp, hb, hF⟩, hce, hcv, hcl, st⟩
  · cases hv
    obtain ⟨k1, k2, k3⟩ := vx_keep h0 e1 hS hA hf hL hF
    obtain ⟨t2, a1, b1⟩ := kk u t T'.heap (locs ++ L) e1.symm (by rw [← e2]; exact X'.warmed.alike) hp hb k1 k2 k3 T' rfl X'
    exact ⟨t2, st t2 a1, b1⟩
  · obtain ⟨k1, k2, k3⟩ := vx_keep h0 e1 hS hAX hf hL hF
    obtain ⟨t2, a1, b1⟩ := kx E ce q u t T'.heap (locs ++ L) e1.symm (by rw [← e2]; exact X'.warmed.alike) hp hb k1 k2 k3 (by rw [e1]; exact hce) hcv hcl T' rfl X'
    exact ⟨t2, st.trans a1, b1⟩
/-- caught by the row x of this method's table; the rows ahead don't take it -/
theorem vx_catch {own name : String} {E : String} {ce : Cell} {q : Addr} (hown : s.vm.findClass own = some m.cls) (pre : List ExceptionTableEntry) (x : ExceptionTableEntry) (suf : List ExceptionTableEntry) (hsplit : c.exceptionTable.toList = pre ++ x :: suf)
    (hpass : ∀ z ∈ pre, covers z pc = false ∨ (z.catchType ≠ 0 ∧ ∃ nm : String, (Cond.classLink own z.catchType nm).before args s = true ∧ va_Nc E nm s)) (hx : covers x pc = true) (h0 : x.catchType ≠ 0)
    (hlink : (Cond.classLink own x.catchType name).before args s = true) (hcast : (Cond.castable E name).before args s = true) (hcell : H[q]? = some ce) (hv : ce.vm = .none) (hcl : s.vm.findClass E = some ce.cls)
    (kk : W p l e R s m args below meth c H locs cells slots Q (F0 m x.handlerPc ls [.ref q])) : vx_W p l e R s m args below meth c H locs cells slots Q (F0 m pc ls rest) q := by
  intro T hT X
  have hpl : e.platform.magicAccessors = ({} : Platform).magicAccessors := by rw [X.admits.platform]
  obtain ⟨c3, c4, hc3, hc4, hasg⟩ := Cond.castable_spec hcast
  cases Option.some.inj (hc3.symm.trans hcl)
  obtain ⟨c5, hc5, hcl5⟩ := Cond.classLink_spec hown hlink e.platform hpl
  cases Option.some.inj (hc4.symm.trans hc5)
  obtain ⟨vm', X', st⟩ := X.thenCaughtThrough q (g := F0 m pc ls rest) rfl (Steps.refl _) (by rw [hT]; exact hcell) (by rw [hv]; rfl) (by obtain ⟨k9, h9, -⟩ := Vm.findClass_spec hcl; exact ⟨k9, h9⟩) pre x suf hsplit
    (fun z hz => by
      rcases hpass z hz with h | ⟨hz0, nm, hl1, hn1⟩
      · exact Or.inl h
      · obtain ⟨c6, hc6, hcl6⟩ := Cond.classLink_spec hown hl1 e.platform hpl
        obtain ⟨a8, b8, h1, h2, h3⟩ := hn1
        cases Option.some.inj (h1.symm.trans hcl)
        cases Option.some.inj (h2.symm.trans hc6)
        exact Or.inr ⟨hz0, _, hcl6, h3⟩) hx (Or.inr ⟨h0, c4, hcl5, hasg⟩)
  obtain ⟨t, a1, b1⟩ := kk (T.setVm vm') hT X'
  exact ⟨t, st.trans a1, b1⟩
end Rows
section Ends
variable {p : Program} {l : Launch} {e : Env} {R : Room} {s : State} {m : MethodId} {args : Array Value} {below : List Frame} {meth : Method} {c : Code} {H : Heap} {locs : List Loc} {cells slots : Nat} {Q : State → Prop}
variable {mc ms : Nat} {free : Addr → Prop} {A0 A1 : Nat → Prop} {H0 : Heap} {a : Array Value} {ls : Array Slot} {st0 rest : List Value}
variable {Qc : Array Value → State → Outcome → State → Prop} {XC : String → State → State → Prop}
/-- what a body that may throw owes at its end -/
def vx_MQ (below : List Frame) (Qc : Array Value → State → Outcome → State → Prop) (XC : String → State → State → Prop) (a : Array Value) (s : State) (mc ms : Nat) (free : Addr → Prop) : State → Prop := fun t =>
  ∃ o, t.status = .running ∧ Ended t below o ∧ vx_Q Qc XC mc ms free a s o t
theorem vx_ret {g : JFrame} {mc ms : Nat} (k : W p l e R s m args below meth c H locs cells slots (MQ below Qc args s mc ms free) g) : W p l e R s m args below meth c H locs cells slots (vx_MQ below Qc XC args s mc ms free) g := by
  intro T hT X
  obtain ⟨t, a1, o, b1, b2, b3, b4⟩ := k T hT X
  exact ⟨t, a1, o, b1, b2, Or.inl ⟨b3, b4⟩⟩
/-- not caught here: it goes on to the caller -/
theorem vx_widen {g : JFrame} {q : Addr} {k n : Nat} (h1 : cells ≤ k) (h2 : slots ≤ n) (kk : vx_W p l e R s m args below meth c H locs k n Q g q) : vx_W p l e R s m args below meth c H locs cells slots Q g q := fun T hT X => kk T hT (stand_widen X h1 h2)
theorem vx_out {pc : Nat} {E : String} {ce : Cell} {q : Addr} {mc ms : Nat} (hout : ∀ x ∈ c.exceptionTable.toList, covers x pc = false) (hlocks : meth.locks = false) (hcell : H[q]? = some ce) (hv : ce.vm = .none) (hcl : s.vm.findClass E = some ce.cls)
    (hx : ∀ t : State, t.heap = H → s.vm.Alike t.vm → XC E s t) (hf : ∀ z ∈ locs, free z.base) (hc : cells ≤ mc) (hs : slots ≤ ms) :
    vx_W p l e R s m args below meth c H locs cells slots (vx_MQ below Qc XC args s mc ms free) (F0 m pc ls rest) q := by
  intro T hT X
  obtain ⟨st1, hrun, hend, hW, hsm⟩ := X.leaveThrown q (g := F0 m pc ls rest) rfl rfl rfl hout hlocks
  have hcell9 : (T.setFrames (.throwing q :: below)).heap[q]? = some ce := by
    show T.heap[q]? = some ce
    rw [hT]; exact hcell
  exact ⟨_, st1, .threw q, hrun, hend, Or.inr ⟨q, rfl, E, ce, locs, hx _ hT hW.alike, hcell9, hv, hcl, hW, hsm.mono hc hs, hf⟩⟩
theorem vx_frame {U : State} {k n : Nat} (h : s.sameButNew ({ U with vm := s.vm } : State) locs k n) : s.heap.size ≤ U.heap.size ∧ ∀ q : Nat, q < s.heap.size → (∀ z ∈ locs, z.base ≠ q) → U.heap[q]? = s.heap[q]? := by
  obtain ⟨-, h2, -, -, -, h6⟩ := h
  refine ⟨h2, fun q hq hz => ?_⟩
  obtain ⟨c9, e1, e2, e3, e4⟩ := h6 q _ (Array.getElem?_eq_getElem hq)
  have hs : c9.slots = (s.heap[q]).slots := Array.ext_getElem? fun i => e4 i fun hm => hz _ hm rfl
  have h9 : c9 = s.heap[q] := by
    rw [hs] at e2
    exact e2
  have e5 : U.heap[q]? = some c9 := e1
  rw [e5, h9, Array.getElem?_eq_getElem hq]
/-- the words of a throw but the four that speak of the heap -/
def vx_no (w : Cond) : Bool := decide (w ≠ .isRef (.static Bundle.tN "UNASSIGNED_STACK" Bundle.steD)) && decide (w ≠ .isRef (.static Bundle.tN "SUPPRESSED_SENTINEL" Bundle.listD)) && decide (w ≠ .laysStatic Bundle.tN "UNASSIGNED_STACK" Bundle.steD) && decide (w ≠ .laysStatic Bundle.tN "SUPPRESSED_SENTINEL" Bundle.listD)
def vx_at0 (own : String) (ic : Nat) (X : String) (names : List String) : List Cond := (Bundle.ownAtoms0 own ic X names).filter vx_no
def vx_atS (own : String) (ic : Nat) (X : String) (names : List String) : List Cond := (Bundle.ownAtoms own ic X names).filter vx_no
/-- a word that the tables alone decide, or a good one -/
def vx_ot (w : Cond) : Bool := w.onTables || goodWord w
theorem vx_ot_at {args a' : Array Value} {s U : State} {w : Cond} (hW : s.WarmedH U.vm) (hvm : s.vm = U.vm) (hg : vx_ot w = true) (h : w.before args s = true) : w.before a' U = true := by
  simp only [vx_ot, Bool.or_eq_true] at hg
  rcases hg with hg | hg
  · exact va_tabs hg hvm h
  · exact word_at hW (good_of_word hg) h
/-- a list's words: the good ones out of the method's own list, the others by premises of their own -/
theorem vx_hat {args : Array Value} {s : State} {L B : List Cond} (h1 : ∀ w ∈ L.filter goodWord, w.before args s = true) (h2 : ∀ w ∈ L.filter (fun w => !goodWord w), w ∈ B) (h3 : ∀ w ∈ B, w.before args s = true) : ∀ w ∈ L, w.before args s = true := by
  intro w hw
  by_cases g : goodWord w = true
  · exact h1 w (List.mem_filter.mpr ⟨hw, g⟩)
  · refine h3 w (h2 w (List.mem_filter.mpr ⟨hw, ?_⟩))
    show (!goodWord w) = true
    cases hgw : goodWord w
    · rfl
    · exact absurd hgw g
theorem vx_c {args : Array Value} {s : State} {w : Cond} {B : List Cond} (h : w.before args s = true) (t : ∀ w ∈ B, w.before args s = true) : ∀ w' ∈ w :: B, w'.before args s = true := fun w' h' => (List.mem_cons.mp h').elim (fun e => by rw [e]; exact h) (t w')
theorem vx_n {args : Array Value} {s : State} : ∀ w ∈ ([] : List Cond), w.before args s = true := fun _ h => nomatch h
theorem vx_own {args : Array Value} {s : State} {L : List Cond} (h1 : ∀ w ∈ L.filter vx_no, w.before args s = true)
    (hU : (Cond.isRef (.static Bundle.tN "UNASSIGNED_STACK" Bundle.steD)).before args s = true) (hN : (Cond.isRef (.static Bundle.tN "SUPPRESSED_SENTINEL" Bundle.listD)).before args s = true)
    (lU : (Cond.laysStatic Bundle.tN "UNASSIGNED_STACK" Bundle.steD).before args s = true) (lN : (Cond.laysStatic Bundle.tN "SUPPRESSED_SENTINEL" Bundle.listD).before args s = true) : ∀ w ∈ L, w.before args s = true := by
  intro w hw
  by_cases e1 : w = .isRef (.static Bundle.tN "UNASSIGNED_STACK" Bundle.steD)
  · rw [e1]; exact hU
  · by_cases e2 : w = .isRef (.static Bundle.tN "SUPPRESSED_SENTINEL" Bundle.listD)
    · rw [e2]; exact hN
    · by_cases e3 : w = .laysStatic Bundle.tN "UNASSIGNED_STACK" Bundle.steD
      · rw [e3]; exact lU
      · by_cases e4 : w = .laysStatic Bundle.tN "SUPPRESSED_SENTINEL" Bundle.listD
        · rw [e4]; exact lN
        · exact h1 w (List.mem_filter.mpr ⟨hw, by unfold vx_no; rw [decide_eq_true e1, decide_eq_true e2, decide_eq_true e3, decide_eq_true e4]; rfl⟩)
/-- where a static field lies, its class's statics cell in H -/
def vx_L (C n d : String) (A : Nat → Prop) (U : State) (H : Heap) : Prop := ∃ (c : ClassId) (k : Class) (i : Nat) (f : Field) (a : Nat) (cell : Cell), U.vm.findClass C = some c ∧ U.fieldFound? C n d = some (c, k, i, f) ∧ f.isStatic = true ∧ k.statics = some a ∧ H[a]? = some cell ∧ cell.vm.isStatics = true ∧ cell.cls = c ∧ f.slot < cell.slots.size ∧ k.staticTypes[f.slot]? = some f.type ∧ ¬ A a
theorem vx_L.moved {C n d : String} {A : Nat → Prop} {u U : State} {H : Heap} (hvm : u.vm.Alike U.vm) (h : vx_L C n d A u H) : vx_L C n d A U H := by
  obtain ⟨c, k, i, f, a, cell, h1, h2, h3, h4, h5, h6, h7, h8, h9, h10⟩ := h
  obtain ⟨k', hi', he⟩ := State.fieldFound?_setVm hvm h2
  exact ⟨c, k', i, f, a, cell, by rw [hvm.findClass]; exact h1, hi', h3, by rw [he]; exact h4, h5, h6, h7, h8, by rw [he]; exact h9, h10⟩
theorem vx_L.kept {C n d : String} {A : Nat → Prop} {U : State} {H H1 : Heap} (h : vx_L C n d A U H) (hq : ∀ a : Nat, a < H.size → ¬ A a → H1[a]? = H[a]?) : vx_L C n d A U H1 := by
  obtain ⟨c, k, i, f, a, cell, h1, h2, h3, h4, h5, h6, h7, h8, h9, h10⟩ := h
  exact ⟨c, k, i, f, a, cell, h1, h2, h3, h4, by rw [hq a (Array.getElem?_eq_some_iff.mp h5).1 h10]; exact h5, h6, h7, h8, h9, h10⟩
theorem vx_L.narrow {C n d : String} {A B : Nat → Prop} {U : State} {H : Heap} (h : vx_L C n d A U H) (hAB : ∀ q, B q → A q) : vx_L C n d B U H := by
  obtain ⟨c, k, i, f, a, cell, h1, h2, h3, h4, h5, h6, h7, h8, h9, h10⟩ := h
  exact ⟨c, k, i, f, a, cell, h1, h2, h3, h4, h5, h6, h7, h8, h9, fun z => h10 (hAB _ z)⟩
theorem vx_L.word {C n d : String} {A : Nat → Prop} {s : State} {args : Array Value} (h : vx_L C n d A s s.heap) : (Cond.laysStatic C n d).before args s = true := by
  obtain ⟨c, k, i, f, a, cell, h1, h2, h3, h4, h5, h6, h7, h8, h9, -⟩ := h
  show (Cond.laysStatic C n d).holds args s none s [] = true
  exact Cond.laysStatic_of h1 h2 h3 h4 h5 h6 h7 h8 h9
/-- .. and what it holds: null or some reference -/
def vx_Zq (C n d : String) (A : Nat → Prop) (U : State) (H : Heap) : Prop := va_Zq C n d A U H ∧ vx_L C n d A U H
theorem vx_Zq.moved {C n d : String} {A : Nat → Prop} {u U : State} {H : Heap} (hvm : u.vm.Alike U.vm) (h : vx_Zq C n d A u H) : vx_Zq C n d A U H := ⟨va_Zq.moved hvm h.1, vx_L.moved hvm h.2⟩
theorem vx_Zq.kept {C n d : String} {A : Nat → Prop} {U : State} {H H1 : Heap} (h : vx_Zq C n d A U H) (hq : ∀ a : Nat, a < H.size → ¬ A a → H1[a]? = H[a]?) : vx_Zq C n d A U H1 := ⟨va_Zq.kept h.1 hq, vx_L.kept h.2 hq⟩
theorem vx_Zq.narrow {C n d : String} {A B : Nat → Prop} {U : State} {H : Heap} (h : vx_Zq C n d A U H) (hAB : ∀ q, B q → A q) : vx_Zq C n d B U H := ⟨va_Zq.narrow h.1 hAB, vx_L.narrow h.2 hAB⟩
theorem vx_Zqof {args : Array Value} {s : State} {C n d : String} {A : Nat → Prop} (hl : (Cond.laysStatic C n d).before args s = true) (hini : (Cond.initialized C).before args s = true) (h : (Cond.isRef (.static C n d)).before args s = true) (hA : ∀ a : Nat, a < s.heap.size → ¬ A a) : vx_Zq C n d A s s.heap := by
  refine ⟨va_Zqof hl hini h hA, ?_⟩
  obtain ⟨c, k, i, f, a, cell, h1, h2, h3, h4, h5, h6, h7, h8, h9⟩ := Cond.laysStatic_spec hl
  exact ⟨c, k, i, f, a, cell, h1, h2, h3, h4, h5, h6, h7, h8, h9, hA a (Array.getElem?_eq_some_iff.mp h5).1⟩
theorem vx_isRef {C n d : String} {v : Value} {A : Nat → Prop} {s : State} {args : Array Value} (h : va_Z C n d v A s s.heap) (hv : v.isRef = true) : (Cond.isRef (.static C n d)).before args s = true := by
  obtain ⟨cf, kf, fi, f, a, cell, h1, h2, h3, h4, h5, h6, h7, -⟩ := h
  have he : (Term.static C n d).eval args s none [] s = some v := by
    simp [Term.eval, State.fieldNamed?, h1, h2, h4, h5, h6, h7]
  simp only [Cond.before, Cond.holds, Cond.value, he]
  cases v <;> simp_all [Value.isRef]
theorem vx_isRefq {C n d : String} {A : Nat → Prop} {s : State} {args : Array Value} (h : va_Zq C n d A s s.heap) : (Cond.isRef (.static C n d)).before args s = true := by
  rcases h with h | ⟨t, h⟩
  · exact vx_isRef h rfl
  · exact vx_isRef h rfl
/-- the same frame, seen from here: as if the method were called anew in this heap -/
theorem vx_rebase {T : State} (X : Stand p l e R s m args below meth c T locs cells slots) {R' : Room} (hf : R'.frames ≤ R.frames) (hl : R'.locals ≤ R.locals) (hc : cells + R'.cells ≤ R.cells) (hs : slots + R'.slots ≤ R.slots) :
    Stand p l e R' ((T.setVm s.vm).setFrames (.invoking m args :: below)) m args below meth c T [] 0 0 := by
  have htop : (T.setVm s.vm).topJava?.isSome := X.here.top
  have hF : ((T.setVm s.vm).setFrames (.invoking m args :: below)).frames = .invoking m args :: below := State.frames_setFrames _ (State.cur_lt_of_top htop)
  obtain ⟨g₀, hg0⟩ := Option.isSome_iff_exists.mp htop
  obtain ⟨r, hr⟩ := State.topJava?_eq_some.mp hg0
  have hl9 : e.platform.stackLimits (T.setVm s.vm).me = e.platform.stackLimits s.me := X.limits
  have hb9 : (T.setVm s.vm).me.stackBytes = s.me.stackBytes := X.bytes
  refine ⟨X.admits, X.cas, X.clock, hF, ?_, X.hears, X.method, X.code, X.here, X.tail, X.warmed, ?_, ?_, ?_⟩
  · have h := X.room
    have hU : ((T.setVm s.vm).setFrames (.invoking m args :: below)).localsInUse = s.localsInUse := by
      rw [State.localsInUse_invoking hF (meth := meth) (c := c) X.method X.code, State.localsInUse_invoking X.frames X.method X.code]
    simp only [State.hasRoom, Bool.and_eq_true, decide_eq_true_eq] at h ⊢
    obtain ⟨⟨⟨⟨h1, h2, h3, h4, h5, h6⟩, h7⟩, h8⟩, h9⟩ := h
    rw [X.frames, List.length_cons] at h2 h3
    have q1 := X.heapSize
    have q2 := X.used
    simp only [hF, hU, List.length_cons, State.stackLimits_setFrames, State.stackBytes_setFrames, hl9, hb9]
    refine ⟨⟨⟨⟨by omega, by omega, by omega, by omega, by omega, h6⟩, ?_⟩, ?_⟩, X.book⟩
    · show T.heap.size + R'.cells ≤ e.platform.maxCells
      omega
    · show T.slotsUsed + R'.slots ≤ e.platform.maxSlots
      omega
  · rw [State.stackLimits_setFrames]; rfl
  · rw [State.stackBytes_setFrames]; rfl
  · refine ⟨?_, Nat.le_refl _, Nat.le_refl _, ?_, ?_, fun a c9 h9 => ⟨c9, h9, rfl, rfl, fun _ _ => rfl⟩⟩
    · obtain ⟨t, ht, -⟩ := State.frames_cons hr
      show T.setVm s.vm = { ((T.setVm s.vm).setFrames (.invoking m args :: below)).setFrames (T.setVm s.vm).frames with heap := T.heap, slotsUsed := T.slotsUsed }
      rw [State.setFrames_setFrames, State.setFrames_self ht]
      rfl
    · show T.slotsUsed = T.slotsUsed + ((T.heap.toList.drop T.heap.size).map (·.slots.size)).sum
      rw [List.drop_eq_nil_of_le (Nat.le_of_eq Array.length_toList)]
      rfl
    · show ((T.heap.toList.drop T.heap.size).map (·.slots.size)).sum ≤ 0
      rw [List.drop_eq_nil_of_le (Nat.le_of_eq Array.length_toList)]
      exact Nat.le_refl _
/-- 'throw new E()': new; dup; invokespecial; athrow -/
theorem vx_throw0 {cc : ByteArray} {pc : Nat} (hexec : p.tables.exec = Jvm.exec) (hb : c.code = cc) (hl : l.stackTraces = false) {own cls : String} {names : List String} {ik ic mc ms : Nat} {A : Nat → Prop}
    (hown : s.vm.findClass own = some m.cls) (hcls : Bundle.fit cls = true) (hnames : ∀ n ∈ names, Bundle.fit n = true)
    (hk : (Cond.classLink own ik cls).before args s = true) (hini : (Cond.initialized cls).before args s = true) (hat : ∀ w ∈ vx_at0 own ic cls names, w.before args s = true)
    (hgood : ∀ w ∈ Cond.classLink own ik cls :: Cond.initialized cls :: vx_at0 own ic cls names, vx_ot w = true)
    (hU : vx_Zq Bundle.tN "UNASSIGNED_STACK" Bundle.steD A s s.heap) (hN : vx_Zq Bundle.tN "SUPPRESSED_SENTINEL" Bundle.listD A s s.heap) (hS : va_S A s.heap H locs) (hsize : ls.size = c.maxLocals)
    (d0 : decode cc pc = .ok (.new ik, 3)) (d3 : decode cc (pc + 3) = .ok (.dup, 1)) (d4 : decode cc (pc + 4) = .ok (.invokespecial ic, 3)) (d7 : decode cc (pc + 7) = .ok (.athrow, 1))
    (hout : ∀ x ∈ c.exceptionTable.toList, covers x (pc + 7) = false)
    (hRframes : names.length + 3 < R.frames) (hRlocals : (rest.map fun v => v.category).sum + (13 * (names.length + 1) + 42) ≤ R.locals) (hRcells : cells + 1 ≤ R.cells) (hRslots : slots + 6 ≤ R.slots) (hlocks : meth.locks = false)
    (hx : ∀ t : State, s.vm.Alike t.vm → H.size ≤ t.heap.size → (∀ q : Nat, q < H.size → t.heap[q]? = H[q]?) → XC cls s t)
    (hf : ∀ z ∈ locs, free z.base) (hc : cells + 1 ≤ mc) (hs : slots + 6 ≤ ms) :
    W p l e R s m args below meth c H locs cells slots (vx_MQ below Qc XC args s mc ms free) (F0 m pc ls rest) := by
  intro T hT X
  have htr : e.platform.stackTraces = false := (show e.platform.stackTraces = l.stackTraces by rw [X.admits.platform]).trans hl
  have Y := vx_rebase X (R' := { frames := R.frames, locals := R.locals, cells := 1, slots := 6 }) (Nat.le_refl _) (Nat.le_refl _) hRcells hRslots
  obtain ⟨s', hA⟩ : ∃ z, z = (T.setVm s.vm).setFrames (.invoking m args :: below) := ⟨_, rfl⟩
  rw [← hA] at Y
  have hvm : s'.vm = s.vm := by rw [hA]; rfl
  have hhp : s'.heap = H := by rw [hA]; exact hT
  have hW0 : s.WarmedH s'.vm := by rw [hvm]; exact State.WarmedH.refl s
  have hat' : ∀ w ∈ vx_at0 own ic cls names, w.before args s' = true := fun w hw => vx_ot_at hW0 hvm.symm (hgood w (List.mem_cons_of_mem _ (List.mem_cons_of_mem _ hw))) (hat w hw)
  have hk' : (Cond.classLink own ik cls).before args s' = true := vx_ot_at hW0 hvm.symm (hgood _ List.mem_cons_self) hk
  have hini' : (Cond.initialized cls).before args s' = true := vx_ot_at hW0 hvm.symm (hgood _ (List.mem_cons_of_mem _ List.mem_cons_self)) hini
  have hU' : vx_Zq Bundle.tN "UNASSIGNED_STACK" Bundle.steD A s' s'.heap := by rw [hhp]; exact vx_Zq.moved hW0.alike (hU.kept hS.2.1)
  have hN' : vx_Zq Bundle.tN "SUPPRESSED_SENTINEL" Bundle.listD A s' s'.heap := by rw [hhp]; exact vx_Zq.moved hW0.alike (hN.kept hS.2.1)
  have h : ∀ w ∈ Bundle.ownAtoms0 own ic cls names, w.before args s' = true := vx_own hat' (vx_isRefq hU'.1) (vx_isRefq hN'.1) hU'.2.word hN'.2.word
  have hown' : s'.vm.findClass own = some m.cls := by rw [hvm]; exact hown
  have hins : (Cond.instantiable cls 6).before args s' = true := h _ (by simp [Bundle.ownAtoms0])
  obtain ⟨vm₁, cX, kX, hfX, hkX, -, -, X₁, st1⟩ := Y.newCold hexec (own := own) (C := cls) (index := ik) (n := 6) hown' hk' hins hini'
    (g := F0 m pc ls rest) rfl (by rw [hb]; exact d0) (Nat.le_refl _) (Nat.le_refl _)
  generalize hT1 : (T.setVm vm₁).pushCell { cls := cX, slots := kX.instanceTypes.map defaultValue, vm := .none } = T1 at X₁ st1
  have hcat : (Value.ref T.heap.size).category = 1 := rfl
  have hcellA : T1.heap[T.heap.size]? = some (freshCell cX kX) := by rw [← hT1]; exact State.heap_pushCell_size _ _
  have d3' : decode c.code (pc + 3) = .ok (.dup, 1) := by rw [hb]; exact d3
  obtain ⟨U, hsteps, hrun, hend, hW, hsame, ce, hce, hO⟩ := X₁.ctorThrow0 hexec htr (own := own) (cls := cls) (names := names) (ic := ic) hown' hcls hnames h (fun x hx => nomatch hx) hfX hkX hcellA (by rw [hhp, hT]; exact Nat.le_refl _)
    (g := { method := m, pc := pc + 4, locals := ls, stack := .ref T.heap.size :: .ref T.heap.size :: rest, locked := none }) rfl hsize rfl rfl (rest := rest) rfl
    (by rw [hb]; exact d4) (by rw [hb]; exact d7) hout hRframes (by simp only [List.map_cons, List.sum_cons, hcat]; omega) hlocks
  obtain ⟨f1, f2⟩ := vx_frame hsame
  rw [hhp] at f1 f2
  have hWs : s.WarmedH U.vm := State.WarmedH.trans hW0 hW
  have hcl : s.vm.findClass cls = some ce.cls := by
    have h9 := hO.cls
    rw [hvm] at h9
    exact h9
  have hall : s.sameButNew ({ U with vm := s.vm } : State) locs mc ms := by
    subst hA
    obtain ⟨e1, e2⟩ := hsame
    rw [State.setFrames_setFrames] at e1
    have h2 : (T.setVm s.vm).sameButNew ({ U with vm := s.vm } : State) [] (0 + 1) (0 + 6) := ⟨e1, e2⟩
    have h3 := X.same.trans h2
    rw [List.append_nil] at h3
    exact h3.mono hc hs
  refine ⟨U, ?_, .threw T.heap.size, hrun, hend, Or.inr ⟨T.heap.size, rfl, cls, ce, locs, hx U hWs.alike f1 (fun q hq => f2 q hq (fun z hz => nomatch hz)), hce, hO.vm, hcl, hWs, hall, hf⟩⟩
  refine st1 _ ?_
  show Steps p.tables e below (T1.setTop { method := m, pc := pc + 3, locals := ls, stack := .ref T.heap.size :: rest, locked := none }) _
  jvm_step X₁.here [X₁.here.top, hexec, d3', Value.category]
  exact hsteps
/-- 'throw new E("text")': new; dup; ldc; invokespecial; athrow -/
theorem vx_throwS {cc : ByteArray} {pc : Nat} (hexec : p.tables.exec = Jvm.exec) (hb : c.code = cc) (hl : l.stackTraces = false) {own cls text : String} {names : List String} {ik is ic mc ms sa : Nat} {A : Nat → Prop}
    (hown : s.vm.findClass own = some m.cls) (hcls : Bundle.fit cls = true) (hnames : ∀ n ∈ names, Bundle.fit n = true)
    (hk : (Cond.classLink own ik cls).before args s = true) (hini : (Cond.initialized cls).before args s = true) (hstr : vk_R own is text sa s) (hat : ∀ w ∈ vx_atS own ic cls names, w.before args s = true)
    (hgood : ∀ w ∈ Cond.classLink own ik cls :: Cond.initialized cls :: vx_atS own ic cls names, vx_ot w = true)
    (hU : vx_Zq Bundle.tN "UNASSIGNED_STACK" Bundle.steD A s s.heap) (hN : vx_Zq Bundle.tN "SUPPRESSED_SENTINEL" Bundle.listD A s s.heap) (hS : va_S A s.heap H locs) (hsize : ls.size = c.maxLocals)
    (d0 : decode cc pc = .ok (.new ik, 3)) (d3 : decode cc (pc + 3) = .ok (.dup, 1)) (d4 : decode cc (pc + 4) = .ok (.ldc is, 2)) (d6 : decode cc (pc + 6) = .ok (.invokespecial ic, 3)) (d9 : decode cc (pc + 9) = .ok (.athrow, 1))
    (hout : ∀ x ∈ c.exceptionTable.toList, covers x (pc + 9) = false)
    (hRframes : names.length + 3 < R.frames) (hRlocals : (rest.map fun v => v.category).sum + (13 * (names.length + 1) + 43) ≤ R.locals) (hRcells : cells + 1 ≤ R.cells) (hRslots : slots + 6 ≤ R.slots) (hlocks : meth.locks = false)
    (hx : ∀ t : State, s.vm.Alike t.vm → H.size ≤ t.heap.size → (∀ q : Nat, q < H.size → t.heap[q]? = H[q]?) → XC cls s t)
    (hf : ∀ z ∈ locs, free z.base) (hc : cells + 1 ≤ mc) (hs : slots + 6 ≤ ms) :
    W p l e R s m args below meth c H locs cells slots (vx_MQ below Qc XC args s mc ms free) (F0 m pc ls rest) := by
  intro T hT X
  have htr : e.platform.stackTraces = false := (show e.platform.stackTraces = l.stackTraces by rw [X.admits.platform]).trans hl
  have Y := vx_rebase X (R' := { frames := R.frames, locals := R.locals, cells := 1, slots := 6 }) (Nat.le_refl _) (Nat.le_refl _) hRcells hRslots
  obtain ⟨s', hA⟩ : ∃ z, z = (T.setVm s.vm).setFrames (.invoking m args :: below) := ⟨_, rfl⟩
  rw [← hA] at Y
  have hvm : s'.vm = s.vm := by rw [hA]; rfl
  have hhp : s'.heap = H := by rw [hA]; exact hT
  have hW0 : s.WarmedH s'.vm := by rw [hvm]; exact State.WarmedH.refl s
  have hat' : ∀ w ∈ vx_atS own ic cls names, w.before args s' = true := fun w hw => vx_ot_at hW0 hvm.symm (hgood w (List.mem_cons_of_mem _ (List.mem_cons_of_mem _ hw))) (hat w hw)
  have hk' : (Cond.classLink own ik cls).before args s' = true := vx_ot_at hW0 hvm.symm (hgood _ List.mem_cons_self) hk
  have hini' : (Cond.initialized cls).before args s' = true := vx_ot_at hW0 hvm.symm (hgood _ (List.mem_cons_of_mem _ List.mem_cons_self)) hini
  have hU' : vx_Zq Bundle.tN "UNASSIGNED_STACK" Bundle.steD A s' s'.heap := by rw [hhp]; exact vx_Zq.moved hW0.alike (hU.kept hS.2.1)
  have hN' : vx_Zq Bundle.tN "SUPPRESSED_SENTINEL" Bundle.listD A s' s'.heap := by rw [hhp]; exact vx_Zq.moved hW0.alike (hN.kept hS.2.1)
  have h : ∀ w ∈ Bundle.ownAtoms own ic cls names, w.before args s' = true := vx_own hat' (vx_isRefq hU'.1) (vx_isRefq hN'.1) hU'.2.word hN'.2.word
  have hown' : s'.vm.findClass own = some m.cls := by rw [hvm]; exact hown
  have hins : (Cond.instantiable cls 6).before args s' = true := h _ (by simp [Bundle.ownAtoms])
  obtain ⟨vm₁, cX, kX, hfX, hkX, -, -, X₁, st1⟩ := Y.newCold hexec (own := own) (C := cls) (index := ik) (n := 6) hown' hk' hins hini'
    (g := F0 m pc ls rest) rfl (by rw [hb]; exact d0) (Nat.le_refl _) (Nat.le_refl _)
  generalize hT1 : (T.setVm vm₁).pushCell { cls := cX, slots := kX.instanceTypes.map defaultValue, vm := .none } = T1 at X₁ st1
  have hcat : (Value.ref T.heap.size).category = 1 := rfl
  have hcellA : T1.heap[T.heap.size]? = some (freshCell cX kX) := by rw [← hT1]; exact State.heap_pushCell_size _ _
  have d3' : decode c.code (pc + 3) = .ok (.dup, 1) := by rw [hb]; exact d3
  have d4' : decode c.code (pc + 4) = .ok (.ldc is, 2) := by rw [hb]; exact d4
  have hstr' : vk_R own is text sa s' := vk_R.warm hW0 hstr
  obtain ⟨U, hsteps, hrun, hend, hW, hsame, ce, hce, hO⟩ := X₁.ctorThrowS hexec htr (own := own) (cls := cls) (names := names) (ic := ic) hown' hcls hnames h (fun x hx => nomatch hx) hfX hkX hcellA (by rw [hhp, hT]; exact Nat.le_refl _) (msg := .ref sa) rfl
    (g := { method := m, pc := pc + 6, locals := ls, stack := .ref sa :: .ref T.heap.size :: .ref T.heap.size :: rest, locked := none }) rfl hsize rfl rfl (rest := rest) rfl
    (by rw [hb]; exact d6) (by rw [hb]; exact d9) hout hRframes (by simp only [List.map_cons, List.sum_cons, hcat]; omega) hlocks
  obtain ⟨f1, f2⟩ := vx_frame hsame
  rw [hhp] at f1 f2
  have hWs : s.WarmedH U.vm := State.WarmedH.trans hW0 hW
  have hcl : s.vm.findClass cls = some ce.cls := by
    have h9 := hO.cls
    rw [hvm] at h9
    exact h9
  have hall : s.sameButNew ({ U with vm := s.vm } : State) locs mc ms := by
    subst hA
    obtain ⟨e1, e2⟩ := hsame
    rw [State.setFrames_setFrames] at e1
    have h2 : (T.setVm s.vm).sameButNew ({ U with vm := s.vm } : State) [] (0 + 1) (0 + 6) := ⟨e1, e2⟩
    have h3 := X.same.trans h2
    rw [List.append_nil] at h3
    exact h3.mono hc hs
  refine ⟨U, ?_, .threw T.heap.size, hrun, hend, Or.inr ⟨T.heap.size, rfl, cls, ce, locs, hx U hWs.alike f1 (fun q hq => f2 q hq (fun z hz => nomatch hz)), hce, hO.vm, hcl, hWs, hall, hf⟩⟩
  refine st1 _ ?_
  show Steps p.tables e below (T1.setTop { method := m, pc := pc + 3, locals := ls, stack := .ref T.heap.size :: rest, locked := none }) _
  jvm_step X₁.here [X₁.here.top, hexec, d3', Value.category]
  exact X₁.ldcString hexec (own := own) (text := text) (index := is) (a := sa) hown' hstr'.1 hstr'.2
    (g := { method := m, pc := pc + 4, locals := ls, stack := .ref T.heap.size :: .ref T.heap.size :: rest, locked := none }) rfl d4' _ hsteps
/-- 'throw new E("text")', the text by a wide index -/
theorem vx_throwSW {cc : ByteArray} {pc : Nat} (hexec : p.tables.exec = Jvm.exec) (hb : c.code = cc) (hl : l.stackTraces = false) {own cls text : String} {names : List String} {ik is ic mc ms sa : Nat} {A : Nat → Prop}
    (hown : s.vm.findClass own = some m.cls) (hcls : Bundle.fit cls = true) (hnames : ∀ n ∈ names, Bundle.fit n = true)
    (hk : (Cond.classLink own ik cls).before args s = true) (hini : (Cond.initialized cls).before args s = true) (hstr : vk_R own is text sa s) (hat : ∀ w ∈ vx_atS own ic cls names, w.before args s = true)
    (hgood : ∀ w ∈ Cond.classLink own ik cls :: Cond.initialized cls :: vx_atS own ic cls names, vx_ot w = true)
    (hU : vx_Zq Bundle.tN "UNASSIGNED_STACK" Bundle.steD A s s.heap) (hN : vx_Zq Bundle.tN "SUPPRESSED_SENTINEL" Bundle.listD A s s.heap) (hS : va_S A s.heap H locs) (hsize : ls.size = c.maxLocals)
    (d0 : decode cc pc = .ok (.new ik, 3)) (d3 : decode cc (pc + 3) = .ok (.dup, 1)) (d4 : decode cc (pc + 4) = .ok (.ldc_w is, 3)) (d7 : decode cc (pc + 7) = .ok (.invokespecial ic, 3)) (d10 : decode cc (pc + 10) = .ok (.athrow, 1))
    (hout : ∀ x ∈ c.exceptionTable.toList, covers x (pc + 10) = false)
    (hRframes : names.length + 3 < R.frames) (hRlocals : (rest.map fun v => v.category).sum + (13 * (names.length + 1) + 43) ≤ R.locals) (hRcells : cells + 1 ≤ R.cells) (hRslots : slots + 6 ≤ R.slots) (hlocks : meth.locks = false)
    (hx : ∀ t : State, s.vm.Alike t.vm → H.size ≤ t.heap.size → (∀ q : Nat, q < H.size → t.heap[q]? = H[q]?) → XC cls s t)
    (hf : ∀ z ∈ locs, free z.base) (hc : cells + 1 ≤ mc) (hs : slots + 6 ≤ ms) :
    W p l e R s m args below meth c H locs cells slots (vx_MQ below Qc XC args s mc ms free) (F0 m pc ls rest) := by
  intro T hT X
  have htr : e.platform.stackTraces = false := (show e.platform.stackTraces = l.stackTraces by rw [X.admits.platform]).trans hl
  have Y := vx_rebase X (R' := { frames := R.frames, locals := R.locals, cells := 1, slots := 6 }) (Nat.le_refl _) (Nat.le_refl _) hRcells hRslots
  obtain ⟨s', hA⟩ : ∃ z, z = (T.setVm s.vm).setFrames (.invoking m args :: below) := ⟨_, rfl⟩
  rw [← hA] at Y
  have hvm : s'.vm = s.vm := by rw [hA]; rfl
  have hhp : s'.heap = H := by rw [hA]; exact hT
  have hW0 : s.WarmedH s'.vm := by rw [hvm]; exact State.WarmedH.refl s
  have hat' : ∀ w ∈ vx_atS own ic cls names, w.before args s' = true := fun w hw => vx_ot_at hW0 hvm.symm (hgood w (List.mem_cons_of_mem _ (List.mem_cons_of_mem _ hw))) (hat w hw)
  have hk' : (Cond.classLink own ik cls).before args s' = true := vx_ot_at hW0 hvm.symm (hgood _ List.mem_cons_self) hk
  have hini' : (Cond.initialized cls).before args s' = true := vx_ot_at hW0 hvm.symm (hgood _ (List.mem_cons_of_mem _ List.mem_cons_self)) hini
  have hU' : vx_Zq Bundle.tN "UNASSIGNED_STACK" Bundle.steD A s' s'.heap := by rw [hhp]; exact vx_Zq.moved hW0.alike (hU.kept hS.2.1)
  have hN' : vx_Zq Bundle.tN "SUPPRESSED_SENTINEL" Bundle.listD A s' s'.heap := by rw [hhp]; exact vx_Zq.moved hW0.alike (hN.kept hS.2.1)
  have h : ∀ w ∈ Bundle.ownAtoms own ic cls names, w.before args s' = true := vx_own hat' (vx_isRefq hU'.1) (vx_isRefq hN'.1) hU'.2.word hN'.2.word
  have hown' : s'.vm.findClass own = some m.cls := by rw [hvm]; exact hown
  have hins : (Cond.instantiable cls 6).before args s' = true := h _ (by simp [Bundle.ownAtoms])
  obtain ⟨vm₁, cX, kX, hfX, hkX, -, -, X₁, st1⟩ := Y.newCold hexec (own := own) (C := cls) (index := ik) (n := 6) hown' hk' hins hini'
    (g := F0 m pc ls rest) rfl (by rw [hb]; exact d0) (Nat.le_refl _) (Nat.le_refl _)
  generalize hT1 : (T.setVm vm₁).pushCell { cls := cX, slots := kX.instanceTypes.map defaultValue, vm := .none } = T1 at X₁ st1
  have hcat : (Value.ref T.heap.size).category = 1 := rfl
  have hcellA : T1.heap[T.heap.size]? = some (freshCell cX kX) := by rw [← hT1]; exact State.heap_pushCell_size _ _
  have d3' : decode c.code (pc + 3) = .ok (.dup, 1) := by rw [hb]; exact d3
  have d4' : decode c.code (pc + 4) = .ok (.ldc_w is, 3) := by rw [hb]; exact d4
  have hstr' : vk_R own is text sa s' := vk_R.warm hW0 hstr
  obtain ⟨U, hsteps, hrun, hend, hW, hsame, ce, hce, hO⟩ := X₁.ctorThrowS hexec htr (own := own) (cls := cls) (names := names) (ic := ic) hown' hcls hnames h (fun x hx => nomatch hx) hfX hkX hcellA (by rw [hhp, hT]; exact Nat.le_refl _) (msg := .ref sa) rfl
    (g := { method := m, pc := pc + 7, locals := ls, stack := .ref sa :: .ref T.heap.size :: .ref T.heap.size :: rest, locked := none }) rfl hsize rfl rfl (rest := rest) rfl
    (by rw [hb]; exact d7) (by rw [hb]; exact d10) hout hRframes (by simp only [List.map_cons, List.sum_cons, hcat]; omega) hlocks
  obtain ⟨f1, f2⟩ := vx_frame hsame
  rw [hhp] at f1 f2
  have hWs : s.WarmedH U.vm := State.WarmedH.trans hW0 hW
  have hcl : s.vm.findClass cls = some ce.cls := by
    have h9 := hO.cls
    rw [hvm] at h9
    exact h9
  have hall : s.sameButNew ({ U with vm := s.vm } : State) locs mc ms := by
    subst hA
    obtain ⟨e1, e2⟩ := hsame
    rw [State.setFrames_setFrames] at e1
    have h2 : (T.setVm s.vm).sameButNew ({ U with vm := s.vm } : State) [] (0 + 1) (0 + 6) := ⟨e1, e2⟩
    have h3 := X.same.trans h2
    rw [List.append_nil] at h3
    exact h3.mono hc hs
  refine ⟨U, ?_, .threw T.heap.size, hrun, hend, Or.inr ⟨T.heap.size, rfl, cls, ce, locs, hx U hWs.alike f1 (fun q hq => f2 q hq (fun z hz => nomatch hz)), hce, hO.vm, hcl, hWs, hall, hf⟩⟩
  refine st1 _ ?_
  show Steps p.tables e below (T1.setTop { method := m, pc := pc + 3, locals := ls, stack := .ref T.heap.size :: rest, locked := none }) _
  jvm_step X₁.here [X₁.here.top, hexec, d3', Value.category]
  exact X₁.ldcStringW hexec (own := own) (text := text) (index := is) (a := sa) hown' hstr'.1 hstr'.2
    (g := { method := m, pc := pc + 4, locals := ls, stack := .ref T.heap.size :: .ref T.heap.size :: rest, locked := none }) rfl d4' _ hsteps
end Ends
section Bodies
variable {l : Launch}
theorem vx_ofW {y : MethodName} {ws ws' : List Cond} {rm : Room} {Pc : Array Value → State → Prop} {Qc : Array Value → State → Outcome → State → Prop} {XC : String → State → State → Prop} {mc ms : Nat} {free : Addr → Prop} {cc : ByteArray} {maxL : Nat} {ret : Option FieldType}
    (hy : plainName y.cls = true) (hw : ws = Cond.code y cc maxL ret :: ws')
    (body : ∀ p e s m args below meth c s₁, BodyLoose p l y (headSpec ws rm) cc maxL ret e s m args below meth c s₁ → c.maxLocals = maxL → (∀ x ∈ c.exceptionTable.toList, False) → Pc args s →
      W p l e (headSpec ws rm).room s m args below meth c s.heap [] 0 0 (vx_MQ below Qc XC args s mc ms free) (entryFrame m args maxL)) : vx_Met l y ws rm Pc Qc XC mc ms free := by
  refine MetFree.of_bodyS (code := cc) (maxLocals := maxL) (ret := ret) hy ?_ ?_
  · intro args s m h hn
    obtain ⟨meth, c, h1, h2, h3, h4, h5, h6, -, -⟩ := Cond.code_spec hn (atoms_spec (ws := ws) h _ (by rw [hw]; exact List.mem_cons_self))
    exact ⟨meth, c, h1, h2, h3, h4, h5, h6⟩
  · intro p e s m args below meth c s₁ B hml hP _
    have hh0 : s₁.heap = s.heap := by rw [B.state]; rfl
    have ht : ∀ x ∈ c.exceptionTable.toList, False := by
      obtain ⟨meth9, c9, h1, h2, -, -, -, -, h7, -⟩ := Cond.code_spec B.named (atoms_spec (ws := ws) B.pre _ (by rw [hw]; exact List.mem_cons_self))
      cases Option.some.inj (h1.symm.trans B.method)
      cases Option.some.inj (h2.symm.trans (Stand.of_body B).code)
      intro x hx
      rw [Array.isEmpty_iff.mp h7] at hx
      cases hx
    obtain ⟨t, a1, o, b1, b2, b3⟩ := body p e s m args below meth c s₁ B hml ht hP s₁ hh0 (Stand.of_body B)
    exact ⟨t, o, a1, b1, b2, b3⟩
/-- the table of a body with handlers -/
theorem vx_table {p : Program} {x y : MethodName} {S : Spec} {cc bytes : ByteArray} {maxL maxL' : Nat} {ret ret' : Option FieldType} {e : Env} {s s₁ : State} {m : MethodId} {args : Array Value} {below : List Frame} {meth : Method} {c : Code} {hh : List (Nat × Nat × Nat × Nat)}
    (B : BodyLoose p l y S cc maxL ret e s m args below meth c s₁) (h : (Cond.codeWith y bytes maxL' ret' hh).before args s = true) : c.exceptionTable.toList = tableOf hh := by
  obtain ⟨m9, meth9, c9, hn9, h1, h2, -, -, h6, -⟩ := Cond.codeWith_spec h
  cases Option.some.inj (hn9.symm.trans B.named)
  cases Option.some.inj (h1.symm.trans B.method)
  cases Option.some.inj (h2.symm.trans (Stand.of_body B).code)
  rw [← h6, table_eq]
end Bodies
end VXA
/-! ===== END ===== -/
/-! ===== BEGIN a static call of a method with an exception table ===== -/
section VXS
variable {p : Program} {l : Launch} {e : Env} {R : Room} {s : State} {m : MethodId} {args : Array Value} {below : List Frame} {meth : Method} {c : Code} {T : State} {H : Heap} {locs : List Loc} {cells slots : Nat}
abbrev vx_CSW (R : Room) (s : State) (args : Array Value) (own : String) (index : Nat) (y : MethodName) (bytes : ByteArray) (maxL : Nat) (ret : Option FieldType) (hh : List (Nat × Nat × Nat × Nat)) (ws : List Cond) (rm : Room) (mc ms n : Nat) : Prop :=
  (rm.cells = mc ∧ rm.slots = ms ∧ rm.frames + 1 ≤ R.frames ∧ 8 + (maxL + 11) + rm.locals ≤ R.locals ∧ (∀ w ∈ ws, ∀ (a' : Array Value) (U : State), s.WarmedH U.vm → w.before a' U = true) ∧ Cond.codeWith y bytes maxL ret hh ∈ ws) ∧
  (Cond.codeWith y bytes maxL ret hh).before args s = true ∧ (Cond.initialized y.cls).before args s = true ∧ (y.cls ≠ "java/lang/invoke/MethodHandle" ∧ y.cls ≠ "java/lang/invoke/VarHandle") ∧
  (∀ sig, parseMethodDescriptor y.desc = some sig → n = sig.parameters.length) ∧ (Cond.methodLink own index y).before args s = true ∧ (Cond.static y).before args s = true
theorem vx_cwSW {own : String} {index maxL mc ms : Nat} {y : MethodName} {bytes : ByteArray} {ret : Option FieldType} {hh : List (Nat × Nat × Nat × Nat)} {Ts ws ws' : List Cond} {rm : Room} (n : Nat) (ht : ∀ w ∈ Ts, w.before args s = true) (hT : GoodIn Ts (va_wsS own index y ws)) (hw : ws = Cond.codeWith y bytes maxL ret hh :: ws') (hrc : rm.cells = mc) (hrs : rm.slots = ms)
    (hd : y.cls ≠ "java/lang/invoke/MethodHandle" ∧ y.cls ≠ "java/lang/invoke/VarHandle" ∧ (parseMethodDescriptor y.desc).map (fun d => d.parameters.length) = some n) (hR : rm.frames + 1 ≤ R.frames ∧ 8 + (maxL + 11) + rm.locals ≤ R.locals) :
    vx_CSW R s args own index y bytes maxL ret hh ws rm mc ms n := by
  have ok : ∀ w ∈ va_wsS own index y ws, w.before args s = true := fun w h => ht w (hT w h).1
  have hG : GoodIn Ts ws := fun w h => hT w (by unfold va_wsS; exact List.mem_append_right _ h)
  have hc : Cond.codeWith y bytes maxL ret hh ∈ ws := by rw [hw]; exact List.mem_cons_self
  refine ⟨⟨hrc, hrs, hR.1, hR.2, pay_in ht hG, hc⟩, ht _ (hG _ hc).1, ok _ (by simp [va_wsS]), ⟨hd.1, hd.2.1⟩, fun sig h => ?_, ok _ (by simp [va_wsS]), ok _ (by simp [va_wsS])⟩
  have h2 := hd.2.2
  rw [h] at h2
  exact (Option.some.inj h2).symm
theorem vx_callSW (X : Stand p l e R s m args below meth c T locs cells slots) (hexec : p.tables.exec = Jvm.exec) {own : String} {index : Nat} {y : MethodName} {bytes : ByteArray} {maxL : Nat} {ret : Option FieldType} {hh : List (Nat × Nat × Nat × Nat)}
    (hown : s.vm.findClass own = some m.cls) (hlink : (Cond.methodLink own index y).before args s = true) (hstat : (Cond.static y).before args s = true) (hinit : (Cond.initialized y.cls).before args s = true)
    (hcode : (Cond.codeWith y bytes maxL ret hh).before args s = true) (hy : y.cls ≠ "java/lang/invoke/MethodHandle" ∧ y.cls ≠ "java/lang/invoke/VarHandle")
    {W9 : Nat} {Pre : Pt → Array Value → Prop} {Post : Pt → Array Value → Option Value → Pt → Prop} (hK : Back l R p e below s args y 3 W9 Pre Post)
    {g : JFrame} (hg : g.method = m) (hsize : g.locals.size = c.maxLocals) {argsL rest : List Value} (hlen : ∀ sig, parseMethodDescriptor y.desc = some sig → argsL.length = sig.parameters.length)
    (hstack : g.stack = argsL.reverse ++ rest) (hW : 2 * g.monitorRoom + (rest.map fun v => v.category).sum ≤ W9) (hdg : decode c.code g.pc = .ok (.invokestatic index, 3))
    (hpre : ∀ vm₁, s.WarmedH vm₁ → Pre ⟨T.setVm vm₁, locs, cells, slots⟩ argsL.toArray) :
    ∃ (v : Option Value) (vm₁ : Vm) (B : Pt), s.WarmedH vm₁ ∧ Stand p l e R s m args below meth c B.U B.locs B.cells B.slots ∧ Post ⟨T.setVm vm₁, locs, cells, slots⟩ argsL.toArray v B ∧
      ∀ target, Steps p.tables e below (B.U.setTop { g with pc := g.pc + 3, stack := v.toList ++ rest }) target → Steps p.tables e below (T.setTop g) target := by
  obtain ⟨mk, methM, cM, hnamed, hmethM, -, -, -, -, -, -, hsigM⟩ := Cond.codeWith_spec hcode
  have hstatic : methM.isStatic = true := Cond.static_spec hnamed hmethM hstat
  obtain ⟨kP, hkP, -⟩ := className_of_methodNamed hnamed
  have hinitP : kP.init = .initialized := Cond.initialized_spec (findClass_of_methodNamed hnamed) hkP hinit
  obtain ⟨vm₁, X₁, hstep₁⟩ := X.invokestatic hexec hown hlink hnamed hmethM hstatic hkP hinitP hy (g := g) hg (argsL := argsL) (rest := rest) (hlen _ hsigM) hstack hdg
  obtain ⟨v, B, X', hpost, hsteps⟩ := hK m meth c ⟨T.setVm vm₁, locs, cells, slots⟩ { g with stack := rest } (.invokestatic index) mk argsL.toArray X₁ hg hsize hdg hW (X₁.named hnamed) (hpre vm₁ X₁.warmed)
  exact ⟨v, vm₁, B, X₁.warmed, X', hpost, fun target h => hstep₁ _ fun acts => by rw [doInvoke_state]; exact hsteps.trans h⟩
theorem vx_runSW {y : MethodName} {bytes cc : ByteArray} {maxL nL mc ms n index : Nat} {ret : Option FieldType} {hh : List (Nat × Nat × Nat × Nat)} {ws : List Cond} {rm : Room} {Pc : Array Value → State → Prop} {Qc : Array Value → State → Outcome → State → Prop} {free : Addr → Prop} {Ts : List Cond} {own : String} {As rest : List Value} {g : JFrame}
    (S : CallFix p m c cc nL s args Ts own) (hM : Met l y ws rm Pc Qc mc ms free) (cw : vx_CSW R s args own index y bytes maxL ret hh ws rm mc ms n) (hp : PreS s H Pc As)
    (hg : g.method = m) (hn : As.length = n) (hsize : g.locals.size = nL) (hstack : g.stack = As.reverse ++ rest) (hW : 2 * g.monitorRoom + (rest.map fun v => v.category).sum ≤ 8) (hdg : decode cc g.pc = .ok (.invokestatic index, 3)) (hf : cells + mc ≤ R.cells ∧ slots + ms ≤ R.slots) :
    va_Run p l e R s m args below meth c H locs cells slots mc ms g rest (Qc As.toArray) (free) := by
  obtain ⟨⟨hrc, hrs, hfr, hlo, hws, hcw⟩, hcode, hini, hy, hlen, hl, hstt⟩ := cw
  have hK : Back l R p e below s args y 3 8 (PreOf R mc ms Pc) (PostOf Qc mc ms free) := va_backW (hh := hh) (bytes := bytes) (maxL := maxL) (ret := ret) hM hp.1 hrc hrs hfr hlo hws hcw (fun a' U hW => word_at hW (Or.inl (by first | rfl | simp [Cond.onTables, Cond.keeps, Cond.steady])) hini)
  obtain ⟨hx, hb, hml, ho, -⟩ := S
  intro T hT X
  obtain ⟨v, vm₁, ⟨U', l2, c2, s2⟩, hW₁, X', ⟨g', mk, t, L, e1, e2, hq, h1, hL, h2, h3⟩, st⟩ := vx_callSW X hx (hh := hh) (bytes := bytes) (maxL := maxL) (ret := ret) ho hl hstt hini hcode hy hK hg (hsize.trans hml.symm) (argsL := As) (rest := rest) (fun sig h => hn.trans (hlen sig h)) hstack hW (by rw [hb]; exact hdg)
    (fun vm₁ hW₁ => ⟨hf.1, hf.2, hp.2 (T.setVm vm₁) hT hW₁⟩)
  dsimp only [Pt.U, Pt.locs, Pt.cells, Pt.slots] at X' e1 e2 h1 h2 h3 st
  subst h1; subst h2; subst h3
  exact ⟨v, (T.setVm vm₁).calling g' mk As.toArray, t, U', L, hT, X', hL, e1, e2, hq, st⟩
/-- not caught here, past rows that name other classes: it goes on to the caller -/
theorem vx_outP {p : Program} {l : Launch} {e : Env} {R : Room} {s : State} {m : MethodId} {args : Array Value} {below : List Frame} {meth : Method} {c : Code} {H : Heap} {locs : List Loc} {cells slots : Nat} {free : Addr → Prop} {ls : Array Slot} {rest : List Value} {Qc : Array Value → State → Outcome → State → Prop} {XC : String → State → State → Prop}
    {pc : Nat} {own E : String} {ce : Cell} {q : Addr} {mc ms : Nat} (hown : s.vm.findClass own = some m.cls) (hlocks : meth.locks = false)
    (hpass : ∀ z ∈ c.exceptionTable.toList, covers z pc = false ∨ (z.catchType ≠ 0 ∧ ∃ nm : String, (Cond.classLink own z.catchType nm).before args s = true ∧ va_Nc E nm s)) (hcell : H[q]? = some ce) (hv : ce.vm = .none) (hcl : s.vm.findClass E = some ce.cls)
    (hx : ∀ t : State, t.heap = H → s.vm.Alike t.vm → XC E s t) (hf : ∀ z ∈ locs, free z.base) (hc : cells ≤ mc) (hs : slots ≤ ms) :
    vx_W p l e R s m args below meth c H locs cells slots (vx_MQ below Qc XC args s mc ms free) (F0 m pc ls rest) q := by
  intro T hT X
  have hpl : e.platform.magicAccessors = ({} : Platform).magicAccessors := by rw [X.admits.platform]
  obtain ⟨vm', hW', X', st⟩ := X.outThrough hlocks q (g := F0 m pc ls rest) rfl rfl rfl (cell := ce) (by rw [hT]; exact hcell) (by rw [hv]; rfl)
    (by obtain ⟨k9, h9, -⟩ := Vm.findClass_spec hcl; exact ⟨k9, h9⟩) (fun z hz => by
      rcases hpass z hz with h | ⟨hz0, nm, hl1, hn1⟩
      · exact Or.inl h
      · obtain ⟨c6, hc6, hcl6⟩ := Cond.classLink_spec hown hl1 e.platform hpl
        obtain ⟨a8, b8, h1, h2, h3⟩ := hn1
        cases Option.some.inj (h1.symm.trans hcl)
        cases Option.some.inj (h2.symm.trans hc6)
        exact Or.inr ⟨hz0, _, hcl6, h3⟩)
  obtain ⟨g₀, hfr⟩ := X'.frames_eq
  have hcell9 : ((T.setVm vm').setFrames (.throwing q :: below)).heap[q]? = some ce := by
    show T.heap[q]? = some ce
    rw [hT]; exact hcell
  have hend : Ended ((T.setVm vm').setFrames (.throwing q :: below)) below (.threw q) := State.frames_setFrames _ (State.cur_lt_of_frames hfr)
  refine ⟨(T.setVm vm').setFrames (.throwing q :: below), ?_, .threw q, X'.here.running, hend, Or.inr ⟨q, rfl, E, ce, locs, hx _ hT (X'.ends _).1.alike, hcell9, hv, hcl, (X'.ends _).1, (X'.ends _).2.mono hc hs, hf⟩⟩
  rw [X.pushThrowing_eq]
  exact st
/-- a thing of a world lies in the heap -/
theorem vx_lt {D : va_G} {cl : List vw_C} {ws : va_W} {H1 : Heap} (h : va_P D cl ws H1) {k : Nat} {q : Nat × va_E} (hk : ws[k]? = some q) : q.1 < H1.size := (h k q hk).lt
end VXS
/-! ===== END ===== -/
/-! ===== BEGIN methods with a table of their own: called by a name, returning or throwing ===== -/
section VXH
/-! vx_backW, vx_callVX, vx_callSX, vx_callVW, vx_runVW, vx_runVX, vx_runSX, vx_ofWH follow the same proofs as their sisters above (Free/Laws.lean, Shelf42/LK1.lean); vx_outP calls Shelf42/NT130.lean (outThrough). -/
section
variable {l : Launch} {R : Room} {p : Program} {e : Env} {below : List Frame} {s : State} {sargs : Array Value} {y : MethodName} {len W9 : Nat}
theorem vx_backW {ws : List Cond} {rm : Room} {Pc : Array Value → State → Prop} {Qc : Array Value → State → Outcome → State → Prop} {XC : String → State → State → Prop} {mc ms : Nat} {free : Addr → Prop} {bytes : ByteArray} {maxL : Nat} {ret : Option FieldType} {hh : List (Nat × Nat × Nat × Nat)}
    (hM : vx_Met l y ws rm Pc Qc XC mc ms free) (hblind : FrameBlind Pc) (hrc : rm.cells = mc) (hrs : rm.slots = ms)
    (hframes : rm.frames + 1 ≤ R.frames) (hlocals : W9 + (maxL + 11) + rm.locals ≤ R.locals)
    (hws : ∀ w ∈ ws, ∀ a' U, s.WarmedH U.vm → w.before a' U = true) (hcode : Cond.codeWith y bytes maxL ret hh ∈ ws) (hinit : ∀ a' U, s.WarmedH U.vm → (Cond.initialized y.cls).before a' U = true) :
    vx_Back l R p e below s sargs y len W9 (PreOf R mc ms Pc) (PostOf Qc mc ms free) (vx_Post XC mc ms free) := by
  intro m meth c A g ig mk a X hg hsize hdg hW hn hp
  have h1 : (headSpec ws rm).pre.before a A.U = true := atoms_intro fun w hw => hws w hw _ _ X.warmed
  have h2 : (Cond.codeWith y bytes maxL ret hh).before a A.U = true := hws _ hcode _ _ X.warmed
  have h3 : (Cond.initialized y.cls).before a A.U = true := hinit _ _ X.warmed
  have h4 : A.cells + (headSpec ws rm).room.cells ≤ R.cells := by rw [show (headSpec ws rm).room.cells = mc from hrc]; exact hp.1
  have h5 : A.slots + (headSpec ws rm).room.slots ≤ R.slots := by rw [show (headSpec ws rm).room.slots = ms from hrs]; exact hp.2.1
  have hPc : Pc a (A.U.calling g mk a) := hblind _ _ _ _ hp.2.2
  obtain ⟨U, Ls, c0, s0⟩ := A
  dsimp only [Pt.U, Pt.locs, Pt.cells, Pt.slots] at h1 h2 h3 h4 h5 X hn hPc ⊢
  obtain ⟨m9, methY, cY, hn9, hmY, hcY, -, hlY, -⟩ := Cond.codeWith_spec h2
  cases Option.some.inj (hn9.symm.trans hn)
  obtain ⟨kY, hkY, -⟩ := className_of_methodNamed hn
  have hinitY : kY.init = .initialized := Cond.initialized_spec (findClass_of_methodNamed hn) hkY h3
  have h : At U g.method c below := by rw [hg]; exact X.here
  have hlocals9 : W9 + (maxL + 11) + (headSpec ws rm).room.locals ≤ R.locals := hlocals
  have happ : (headSpec ws rm).appliesLoose y e.platform (U.calling g mk a) = true :=
    Spec.appliesLoose_calling (g := g) h hdg hn hkY hinitY
      (X.room_calling (g := g) (R' := (headSpec ws rm).room) hsize hmY hcY hframes (by rw [hlY]; omega) h4 h5) h1
  obtain ⟨mid, hmid⟩ := h.above
  have hfr : (U.setTop g).frames = (.java g :: mid) ++ below := by rw [State.frames_setTop' g h.top, hmid]; rfl
  obtain ⟨o, s₂, hsteps, -, hend, hq⟩ := Steps.callFree hM p X.admits X.cas X.clock (acts := []) hfr happ hPc trivial
  have hq' : vx_Q Qc XC mc ms free a (U.calling g mk a) o s₂ := hq
  rw [State.frames_setTop' g h.top] at hend
  obtain ⟨g₀, hg0⟩ := Option.isSome_iff_exists.mp h.top
  obtain ⟨r, hr⟩ := State.topJava?_eq_some.mp hg0
  have hr' : (({ U with heap := s₂.heap, slotsUsed := s₂.slotsUsed } : State).setVm s₂.vm).frames = .java g₀ :: r := hr
  rcases hq' with ⟨hqc, L, hfe, hL⟩ | ⟨q, rfl, E, ce, L, hx, hce, hcv, hcl, hW₂, hsm, hL⟩
  · obtain ⟨⟨v, rfl⟩, hW₂, e2, q2, q3, q4, q5, q6⟩ := id hfe
    have e3 : s₂ = ({ (U.calling g mk a).setFrames s₂.frames with heap := s₂.heap, slotsUsed := s₂.slotsUsed } : State).setVm s₂.vm := by
      have : s₂ = ({ s₂ with vm := (U.calling g mk a).vm } : State).setVm s₂.vm := rfl
      rw [e2] at this
      exact this
    obtain ⟨c₂, i₂, len₂, hc₂, hd₂, hf₂⟩ := hend
    have hW' : U.WarmedH s₂.vm := hW₂
    have hcc : c₂ = c := by
      have h1 : s₂.code? g.method = U.code? g.method := by
        rw [State.code?_eq, State.code?_eq, hW'.alike.method?]
      exact Option.some.inj (hc₂.symm.trans (h1.trans h.code))
    subst hcc
    have hlen : len₂ = len := by rw [hdg] at hd₂; cases hd₂; rfl
    subst hlen
    have hs₂ : s₂ = (({ U with heap := s₂.heap, slotsUsed := s₂.slotsUsed } : State).setVm s₂.vm).setTop { g with pc := g.pc + len₂, stack := v.toList ++ g.stack } := by
      refine e3.trans ?_
      rw [hf₂, State.calling_eq h.top, State.setFrames_setFrames, State.setTop_of_frames _ hr', hr]
      rfl
    have hsame : U.sameButNew ({ U with heap := s₂.heap, slotsUsed := s₂.slotsUsed } : State) L mc ms := by
      refine ⟨?_, q2, q3, q4, q5, q6⟩
      obtain ⟨t, ht, -⟩ := State.frames_cons hr
      show ({ U with heap := s₂.heap, slotsUsed := s₂.slotsUsed } : State) = { U.setFrames U.frames with heap := s₂.heap, slotsUsed := s₂.slotsUsed }
      rw [State.setFrames_self ht]
    subst hg
    refine Or.inl ⟨v, ⟨(({ U with heap := s₂.heap, slotsUsed := s₂.slotsUsed } : State).setVm s₂.vm), Ls ++ L, c0 + mc, s0 + ms⟩,
      ⟨X.admits, X.cas, X.clock, X.frames, X.room, X.hears, X.method, X.code, (X.here.setHeapUsed s₂.heap s₂.slotsUsed).setVm hW'.alike, X.tail, State.WarmedH.trans X.warmed hW', X.limits, X.bytes, X.same.trans (hsame.setVm s.vm)⟩,
      ⟨g, mk, s₂, L, rfl, rfl, hqc, rfl, hL, rfl, rfl⟩, ?_⟩
    show Steps p.tables e below _ ((({ U with heap := s₂.heap, slotsUsed := s₂.slotsUsed } : State).setVm s₂.vm).setTop { g with pc := g.pc + len₂, stack := v.toList ++ g.stack })
    rw [← hs₂]
    exact hsteps
  · obtain ⟨e2, q2, q3, q4, q5, q6⟩ := id hsm
    have e3 : s₂ = ({ (U.calling g mk a).setFrames s₂.frames with heap := s₂.heap, slotsUsed := s₂.slotsUsed } : State).setVm s₂.vm := by
      have : s₂ = ({ s₂ with vm := (U.calling g mk a).vm } : State).setVm s₂.vm := rfl
      rw [e2] at this
      exact this
    have hf₂ : s₂.frames = .throwing q :: .java g :: U.frames.tail := hend
    have hW' : U.WarmedH s₂.vm := hW₂
    have hs₂ : s₂ = ((({ U with heap := s₂.heap, slotsUsed := s₂.slotsUsed } : State).setVm s₂.vm).setTop g).pushFrame (.throwing q) := by
      refine e3.trans ?_
      rw [hf₂, State.calling_eq h.top, State.setFrames_setFrames, State.pushFrame, State.frames_setTop _ hr', State.setTop_of_frames _ hr', State.setFrames_setFrames, hr]
      rfl
    have hsame : U.sameButNew ({ U with heap := s₂.heap, slotsUsed := s₂.slotsUsed } : State) L mc ms := by
      refine ⟨?_, q2, q3, q4, q5, q6⟩
      obtain ⟨t, ht, -⟩ := State.frames_cons hr
      show ({ U with heap := s₂.heap, slotsUsed := s₂.slotsUsed } : State) = { U.setFrames U.frames with heap := s₂.heap, slotsUsed := s₂.slotsUsed }
      rw [State.setFrames_self ht]
    subst hg
    refine Or.inr ⟨q, ⟨(({ U with heap := s₂.heap, slotsUsed := s₂.slotsUsed } : State).setVm s₂.vm), Ls ++ L, c0 + mc, s0 + ms⟩,
      ⟨X.admits, X.cas, X.clock, X.frames, X.room, X.hears, X.method, X.code, (X.here.setHeapUsed s₂.heap s₂.slotsUsed).setVm hW'.alike, X.tail, State.WarmedH.trans X.warmed hW', X.limits, X.bytes, X.same.trans (hsame.setVm s.vm)⟩,
      ⟨g, mk, s₂, L, E, ce, rfl, rfl, hx, hce, hcv, hcl, rfl, hL, rfl, rfl⟩, ?_⟩
    show Steps p.tables e below _ (((({ U with heap := s₂.heap, slotsUsed := s₂.slotsUsed } : State).setVm s₂.vm).setTop g).pushFrame (.throwing q))
    rw [← hs₂]
    exact hsteps
end
variable {p : Program} {l : Launch} {e : Env} {R : Room} {s : State} {m : MethodId} {args : Array Value} {below : List Frame} {meth : Method} {c : Code} {T : State} {H : Heap} {locs : List Loc} {cells slots : Nat}
theorem vx_callVX (X : Stand p l e R s m args below meth c T locs cells slots) (hexec : p.tables.exec = Jvm.exec) {own C : String} {index : Nat} {y : MethodName} {bytes : ByteArray} {maxL : Nat} {ret : Option FieldType} {hh : List (Nat × Nat × Nat × Nat)}
    (hown : s.vm.findClass own = some m.cls) (hlink : (Cond.methodLink own index y).before args s = true) (hinst : (Cond.instanceMethod y).before args s = true) (hsel : (Cond.selects C y y).before args s = true)
    (hcode : (Cond.codeWith y bytes maxL ret hh).before args s = true) (hy : y.cls ≠ "java/lang/invoke/MethodHandle" ∧ y.cls ≠ "java/lang/invoke/VarHandle")
    {W9 : Nat} {Pre : Pt → Array Value → Prop} {Post : Pt → Array Value → Option Value → Pt → Prop} {PostX : Pt → Array Value → Addr → Pt → Prop} (hK : vx_Back l R p e below s args y 3 W9 Pre Post PostX)
    {b : Addr} {cellB : Cell} (hcell : T.heap[b]? = some cellB) (hobj : cellB.vm.isStatics = false) (hcls : s.vm.findClass C = some cellB.cls)
    {g : JFrame} (hg : g.method = m) (hsize : g.locals.size = c.maxLocals) {argsL rest : List Value} (hlen : ∀ sig, parseMethodDescriptor y.desc = some sig → argsL.length = sig.parameters.length)
    (hstack : g.stack = argsL.reverse ++ .ref b :: rest) (hW : 2 * g.monitorRoom + (rest.map fun v => v.category).sum ≤ W9) (hdg : decode c.code g.pc = .ok (.invokevirtual index, 3))
    (hpre : ∀ vm₁, s.WarmedH vm₁ → Pre ⟨T.setVm vm₁, locs, cells, slots⟩ (Value.ref b :: argsL).toArray) :
    (∃ (v : Option Value) (vm₁ : Vm) (B : Pt), s.WarmedH vm₁ ∧ Stand p l e R s m args below meth c B.U B.locs B.cells B.slots ∧ Post ⟨T.setVm vm₁, locs, cells, slots⟩ (Value.ref b :: argsL).toArray v B ∧
      ∀ target, Steps p.tables e below (B.U.setTop { g with pc := g.pc + 3, stack := v.toList ++ rest }) target → Steps p.tables e below (T.setTop g) target) ∨
    (∃ (q : Addr) (vm₁ : Vm) (B : Pt), s.WarmedH vm₁ ∧ Stand p l e R s m args below meth c B.U B.locs B.cells B.slots ∧ PostX ⟨T.setVm vm₁, locs, cells, slots⟩ (Value.ref b :: argsL).toArray q B ∧
      Steps p.tables e below (T.setTop g) ((B.U.setTop { g with stack := rest }).pushFrame (.throwing q))) := by
  obtain ⟨mk, methM, hnamed, hmethM, hstM, habM⟩ := Cond.instanceMethod_spec hinst
  obtain ⟨m8, methM', cM, hn8, hmethM', -, -, -, -, -, -, hsigM⟩ := Cond.codeWith_spec hcode
  cases Option.some.inj (hn8.symm.trans hnamed)
  cases hmethM.symm.trans hmethM'
  obtain ⟨c2, r2, m2, q1, q2, q3, q4, kP, hkP, hkPi⟩ := Cond.selects_spec hsel
  cases hcls.symm.trans q1
  cases (State.methodFound?_of_named hnamed hy).symm.trans q2
  cases hnamed.symm.trans q3
  have hselP : selectMethod e.platform s.vm cellB.cls mk = .method mk := by rw [Launch.admits_selectMethod X.admits]; exact q4
  obtain ⟨vm₁, X₁, hstep₁⟩ := X.invokevirtual hexec hown hlink hnamed hmethM hstM hkP hkPi hy (a := b) (cell := cellB) hcell
    (fun z h => by rw [h] at hobj; cases hobj) hselP hmethM habM hkP hkPi (g := g) hg (argsL := argsL) (rest := rest) (hlen _ hsigM) hstack hdg
  rcases hK m meth c ⟨T.setVm vm₁, locs, cells, slots⟩ { g with stack := rest } (.invokevirtual index) mk (Value.ref b :: argsL).toArray X₁ hg hsize hdg hW (X₁.named hnamed) (hpre vm₁ X₁.warmed) with ⟨v, B, X', hpost, hsteps⟩ | ⟨q, B, X', hpost, hsteps⟩
  · exact Or.inl ⟨v, vm₁, B, X₁.warmed, X', hpost, fun target h => hstep₁ _ fun acts => by rw [doInvoke_state]; exact hsteps.trans h⟩
  · exact Or.inr ⟨q, vm₁, B, X₁.warmed, X', hpost, hstep₁ _ fun acts => by rw [doInvoke_state]; exact hsteps⟩
theorem vx_callSX (X : Stand p l e R s m args below meth c T locs cells slots) (hexec : p.tables.exec = Jvm.exec) {own : String} {index : Nat} {y : MethodName} {bytes : ByteArray} {maxL : Nat} {ret : Option FieldType} {hh : List (Nat × Nat × Nat × Nat)}
    (hown : s.vm.findClass own = some m.cls) (hlink : (Cond.methodLink own index y).before args s = true) (hstat : (Cond.static y).before args s = true) (hinit : (Cond.initialized y.cls).before args s = true)
    (hcode : (Cond.codeWith y bytes maxL ret hh).before args s = true) (hy : y.cls ≠ "java/lang/invoke/MethodHandle" ∧ y.cls ≠ "java/lang/invoke/VarHandle")
    {W9 : Nat} {Pre : Pt → Array Value → Prop} {Post : Pt → Array Value → Option Value → Pt → Prop} {PostX : Pt → Array Value → Addr → Pt → Prop} (hK : vx_Back l R p e below s args y 3 W9 Pre Post PostX)
    {g : JFrame} (hg : g.method = m) (hsize : g.locals.size = c.maxLocals) {argsL rest : List Value} (hlen : ∀ sig, parseMethodDescriptor y.desc = some sig → argsL.length = sig.parameters.length)
    (hstack : g.stack = argsL.reverse ++ rest) (hW : 2 * g.monitorRoom + (rest.map fun v => v.category).sum ≤ W9) (hdg : decode c.code g.pc = .ok (.invokestatic index, 3))
    (hpre : ∀ vm₁, s.WarmedH vm₁ → Pre ⟨T.setVm vm₁, locs, cells, slots⟩ argsL.toArray) :
    (∃ (v : Option Value) (vm₁ : Vm) (B : Pt), s.WarmedH vm₁ ∧ Stand p l e R s m args below meth c B.U B.locs B.cells B.slots ∧ Post ⟨T.setVm vm₁, locs, cells, slots⟩ argsL.toArray v B ∧
      ∀ target, Steps p.tables e below (B.U.setTop { g with pc := g.pc + 3, stack := v.toList ++ rest }) target → Steps p.tables e below (T.setTop g) target) ∨
    (∃ (q : Addr) (vm₁ : Vm) (B : Pt), s.WarmedH vm₁ ∧ Stand p l e R s m args below meth c B.U B.locs B.cells B.slots ∧ PostX ⟨T.setVm vm₁, locs, cells, slots⟩ argsL.toArray q B ∧
      Steps p.tables e below (T.setTop g) ((B.U.setTop { g with stack := rest }).pushFrame (.throwing q))) := by
  obtain ⟨mk, methM, cM, hnamed, hmethM, -, -, -, -, -, -, hsigM⟩ := Cond.codeWith_spec hcode
  have hstatic : methM.isStatic = true := Cond.static_spec hnamed hmethM hstat
  obtain ⟨kP, hkP, -⟩ := className_of_methodNamed hnamed
  have hinitP : kP.init = .initialized := Cond.initialized_spec (findClass_of_methodNamed hnamed) hkP hinit
  obtain ⟨vm₁, X₁, hstep₁⟩ := X.invokestatic hexec hown hlink hnamed hmethM hstatic hkP hinitP hy (g := g) hg (argsL := argsL) (rest := rest) (hlen _ hsigM) hstack hdg
  rcases hK m meth c ⟨T.setVm vm₁, locs, cells, slots⟩ { g with stack := rest } (.invokestatic index) mk argsL.toArray X₁ hg hsize hdg hW (X₁.named hnamed) (hpre vm₁ X₁.warmed) with ⟨v, B, X', hpost, hsteps⟩ | ⟨q, B, X', hpost, hsteps⟩
  · exact Or.inl ⟨v, vm₁, B, X₁.warmed, X', hpost, fun target h => hstep₁ _ fun acts => by rw [doInvoke_state]; exact hsteps.trans h⟩
  · exact Or.inr ⟨q, vm₁, B, X₁.warmed, X', hpost, hstep₁ _ fun acts => by rw [doInvoke_state]; exact hsteps⟩
theorem vx_callVW (X : Stand p l e R s m args below meth c T locs cells slots) (hexec : p.tables.exec = Jvm.exec) {own C : String} {index : Nat} {y : MethodName} {bytes : ByteArray} {maxL : Nat} {ret : Option FieldType} {hh : List (Nat × Nat × Nat × Nat)}
    (hown : s.vm.findClass own = some m.cls) (hlink : (Cond.methodLink own index y).before args s = true) (hinst : (Cond.instanceMethod y).before args s = true) (hsel : (Cond.selects C y y).before args s = true)
    (hcode : (Cond.codeWith y bytes maxL ret hh).before args s = true) (hy : y.cls ≠ "java/lang/invoke/MethodHandle" ∧ y.cls ≠ "java/lang/invoke/VarHandle")
    {W9 : Nat} {Pre : Pt → Array Value → Prop} {Post : Pt → Array Value → Option Value → Pt → Prop} (hK : Back l R p e below s args y 3 W9 Pre Post)
    {b : Addr} {cellB : Cell} (hcell : T.heap[b]? = some cellB) (hobj : cellB.vm.isStatics = false) (hcls : s.vm.findClass C = some cellB.cls)
    {g : JFrame} (hg : g.method = m) (hsize : g.locals.size = c.maxLocals) {argsL rest : List Value} (hlen : ∀ sig, parseMethodDescriptor y.desc = some sig → argsL.length = sig.parameters.length)
    (hstack : g.stack = argsL.reverse ++ .ref b :: rest) (hW : 2 * g.monitorRoom + (rest.map fun v => v.category).sum ≤ W9) (hdg : decode c.code g.pc = .ok (.invokevirtual index, 3))
    (hpre : ∀ vm₁, s.WarmedH vm₁ → Pre ⟨T.setVm vm₁, locs, cells, slots⟩ (Value.ref b :: argsL).toArray) :
    ∃ (v : Option Value) (vm₁ : Vm) (B : Pt), s.WarmedH vm₁ ∧ Stand p l e R s m args below meth c B.U B.locs B.cells B.slots ∧ Post ⟨T.setVm vm₁, locs, cells, slots⟩ (Value.ref b :: argsL).toArray v B ∧
      ∀ target, Steps p.tables e below (B.U.setTop { g with pc := g.pc + 3, stack := v.toList ++ rest }) target → Steps p.tables e below (T.setTop g) target := by
  obtain ⟨mk, methM, hnamed, hmethM, hstM, habM⟩ := Cond.instanceMethod_spec hinst
  obtain ⟨m8, methM', cM, hn8, hmethM', -, -, -, -, -, -, hsigM⟩ := Cond.codeWith_spec hcode
  cases Option.some.inj (hn8.symm.trans hnamed)
  cases hmethM.symm.trans hmethM'
  obtain ⟨c2, r2, m2, q1, q2, q3, q4, kP, hkP, hkPi⟩ := Cond.selects_spec hsel
  cases hcls.symm.trans q1
  cases (State.methodFound?_of_named hnamed hy).symm.trans q2
  cases hnamed.symm.trans q3
  have hselP : selectMethod e.platform s.vm cellB.cls mk = .method mk := by rw [Launch.admits_selectMethod X.admits]; exact q4
  obtain ⟨vm₁, X₁, hstep₁⟩ := X.invokevirtual hexec hown hlink hnamed hmethM hstM hkP hkPi hy (a := b) (cell := cellB) hcell
    (fun z h => by rw [h] at hobj; cases hobj) hselP hmethM habM hkP hkPi (g := g) hg (argsL := argsL) (rest := rest) (hlen _ hsigM) hstack hdg
  obtain ⟨v, B, X', hpost, hsteps⟩ := hK m meth c ⟨T.setVm vm₁, locs, cells, slots⟩ { g with stack := rest } (.invokevirtual index) mk (Value.ref b :: argsL).toArray X₁ hg hsize hdg hW (X₁.named hnamed) (hpre vm₁ X₁.warmed)
  exact ⟨v, vm₁, B, X₁.warmed, X', hpost, fun target h => hstep₁ _ fun acts => by rw [doInvoke_state]; exact hsteps.trans h⟩
abbrev vx_CVW (R : Room) (s : State) (args : Array Value) (own C : String) (index : Nat) (y : MethodName) (bytes : ByteArray) (maxL : Nat) (ret : Option FieldType) (hh : List (Nat × Nat × Nat × Nat)) (ws : List Cond) (rm : Room) (mc ms n : Nat) : Prop :=
  (rm.cells = mc ∧ rm.slots = ms ∧ rm.frames + 1 ≤ R.frames ∧ 8 + (maxL + 11) + rm.locals ≤ R.locals ∧ (∀ w ∈ ws, ∀ (a' : Array Value) (U : State), s.WarmedH U.vm → w.before a' U = true) ∧ Cond.codeWith y bytes maxL ret hh ∈ ws) ∧
  (Cond.codeWith y bytes maxL ret hh).before args s = true ∧ (Cond.initialized y.cls).before args s = true ∧ (y.cls ≠ "java/lang/invoke/MethodHandle" ∧ y.cls ≠ "java/lang/invoke/VarHandle") ∧
  (∀ sig, parseMethodDescriptor y.desc = some sig → n = sig.parameters.length) ∧ (Cond.methodLink own index y).before args s = true ∧ (Cond.instanceMethod y).before args s = true ∧ (Cond.selects C y y).before args s = true
theorem vx_cwVW {own C : String} {index maxL mc ms : Nat} {y : MethodName} {bytes : ByteArray} {ret : Option FieldType} {hh : List (Nat × Nat × Nat × Nat)} {Ts ws ws' : List Cond} {rm : Room} (n : Nat) (ht : ∀ w ∈ Ts, w.before args s = true) (hT : GoodIn Ts (wsV own index C y ws)) (hw : ws = Cond.codeWith y bytes maxL ret hh :: ws') (hrc : rm.cells = mc) (hrs : rm.slots = ms)
    (hd : y.cls = C ∧ y.cls ≠ "java/lang/invoke/MethodHandle" ∧ y.cls ≠ "java/lang/invoke/VarHandle" ∧ (parseMethodDescriptor y.desc).map (fun d => d.parameters.length) = some n) (hR : rm.frames + 1 ≤ R.frames ∧ 8 + (maxL + 11) + rm.locals ≤ R.locals) :
    vx_CVW R s args own C index y bytes maxL ret hh ws rm mc ms n := by
  obtain ⟨hC, hd⟩ := hd
  subst hC
  have ok : ∀ w ∈ wsV own index y.cls y ws, w.before args s = true := fun w h => ht w (hT w h).1
  have hG : GoodIn Ts ws := fun w h => hT w (by unfold wsV; exact List.mem_append_right _ h)
  have hc : Cond.codeWith y bytes maxL ret hh ∈ ws := by rw [hw]; exact List.mem_cons_self
  refine ⟨⟨hrc, hrs, hR.1, hR.2, pay_in ht hG, hc⟩, ht _ (hG _ hc).1, ok _ (by simp [wsV]), ⟨hd.1, hd.2.1⟩, fun sig h => ?_, ok _ (by simp [wsV]), ok _ (by simp [wsV]), ok _ (by simp [wsV])⟩
  have h2 := hd.2.2
  rw [h] at h2
  exact (Option.some.inj h2).symm
theorem vx_runVW {y : MethodName} {bytes cc : ByteArray} {maxL nL mc ms n index : Nat} {ret : Option FieldType} {hh : List (Nat × Nat × Nat × Nat)} {ws : List Cond} {rm : Room} {Pc : Array Value → State → Prop} {Qc : Array Value → State → Outcome → State → Prop} {free : Addr → Prop} {Ts : List Cond} {own C : String} {b : Addr} {As rest : List Value} {g : JFrame}
    (S : CallFix p m c cc nL s args Ts own) (hM : Met l y ws rm Pc Qc mc ms free) (cw : vx_CVW R s args own C index y bytes maxL ret hh ws rm mc ms n) (hp : PreV s H C b Pc As)
    (hg : g.method = m) (hn : As.length = n) (hsize : g.locals.size = nL) (hstack : g.stack = As.reverse ++ .ref b :: rest) (hW : 2 * g.monitorRoom + (rest.map fun v => v.category).sum ≤ 8) (hdg : decode cc g.pc = .ok (.invokevirtual index, 3)) (hf : cells + mc ≤ R.cells ∧ slots + ms ≤ R.slots) :
    va_Run p l e R s m args below meth c H locs cells slots mc ms g rest (Qc (Value.ref b :: As).toArray) free := by
  obtain ⟨⟨hrc, hrs, hfr, hlo, hws, hcw⟩, hcode, hini, hy, hlen, hl, hin, hse⟩ := cw
  have hK : Back l R p e below s args y 3 8 (PreOf R mc ms Pc) (PostOf Qc mc ms free) := va_backW (hh := hh) (bytes := bytes) (maxL := maxL) (ret := ret) hM hp.1 hrc hrs hfr hlo hws hcw (fun a' U hW => word_at hW (Or.inl (by first | rfl | simp [Cond.onTables, Cond.keeps, Cond.steady])) hini)
  obtain ⟨hx, hb, hml, ho, -⟩ := S
  obtain ⟨-, ⟨cellB, hcB, hoB, hclB⟩, hPc⟩ := hp
  intro T hT X
  obtain ⟨v, vm₁, ⟨U', l2, c2, s2⟩, hW₁, X', ⟨g', mk, t, L, e1, e2, hq, h1, hL, h2, h3⟩, st⟩ := vx_callVW X hx (C := C) (hh := hh) (bytes := bytes) (maxL := maxL) (ret := ret) ho hl hin hse hcode hy hK (by rw [hT]; exact hcB) hoB hclB hg (hsize.trans hml.symm) (argsL := As) (rest := rest) (fun sig h => hn.trans (hlen sig h)) hstack hW (by rw [hb]; exact hdg)
    (fun vm₁ hW₁ => ⟨hf.1, hf.2, hPc (T.setVm vm₁) hT hW₁⟩)
  dsimp only [Pt.U, Pt.locs, Pt.cells, Pt.slots] at X' e1 e2 h1 h2 h3 st
  subst h1; subst h2; subst h3
  exact ⟨v, (T.setVm vm₁).calling g' mk (Value.ref b :: As).toArray, t, U', L, hT, X', hL, e1, e2, hq, st⟩
section
variable {y : MethodName} {bytes cc : ByteArray} {maxL nL mc ms n index : Nat} {ret : Option FieldType} {ws : List Cond} {rm : Room} {Pc : Array Value → State → Prop} {Qc : Array Value → State → Outcome → State → Prop} {XC : String → State → State → Prop} {free : Addr → Prop} {Ts : List Cond} {own C : String} {b : Addr} {As rest : List Value} {g : JFrame}
theorem vx_runVX {hh : List (Nat × Nat × Nat × Nat)} (S : CallFix p m c cc nL s args Ts own) (hM : vx_Met l y ws rm Pc Qc XC mc ms free) (cw : vx_CVW R s args own C index y bytes maxL ret hh ws rm mc ms n) (hp : PreV s H C b Pc As)
    (hg : g.method = m) (hn : As.length = n) (hsize : g.locals.size = nL) (hstack : g.stack = As.reverse ++ .ref b :: rest) (hW : 2 * g.monitorRoom + (rest.map fun v => v.category).sum ≤ 8) (hdg : decode cc g.pc = .ok (.invokevirtual index, 3)) (hf : cells + mc ≤ R.cells ∧ slots + ms ≤ R.slots) :
    vx_Run p l e R s m args below meth c H locs cells slots mc ms g rest (Qc (Value.ref b :: As).toArray) XC free := by
  obtain ⟨⟨hrc, hrs, hfr, hlo, hws, hcw⟩, hcode, hini, hy, hlen, hl, hin, hse⟩ := cw
  have hK : vx_Back l R p e below s args y 3 8 (PreOf R mc ms Pc) (PostOf Qc mc ms free) (vx_Post XC mc ms free) := vx_backW (hh := hh) (bytes := bytes) (maxL := maxL) (ret := ret) hM hp.1 hrc hrs hfr hlo hws hcw (fun a' U hW => word_at hW (Or.inl (by first | rfl | simp [Cond.onTables, Cond.keeps, Cond.steady])) hini)
  obtain ⟨hx, hb, hml, ho, -⟩ := S
  obtain ⟨-, ⟨cellB, hcB, hoB, hclB⟩, hPc⟩ := hp
  intro T hT X
  rcases vx_callVX X hx (C := C) (hh := hh) (bytes := bytes) (maxL := maxL) (ret := ret) ho hl hin hse hcode hy hK (by rw [hT]; exact hcB) hoB hclB hg (hsize.trans hml.symm) (argsL := As) (rest := rest) (fun sig h => hn.trans (hlen sig h)) hstack hW (by rw [hb]; exact hdg)
    (fun vm₁ hW₁ => ⟨hf.1, hf.2, hPc (T.setVm vm₁) hT hW₁⟩) with ⟨v, vm₁, ⟨U', l2, c2, s2⟩, hW₁, X', ⟨g', mk, t, L, e1, e2, hq, h1, hL, h2, h3⟩, st⟩ | ⟨q, vm₁, ⟨U', l2, c2, s2⟩, hW₁, X', ⟨g', mk, t, L, E, ce, e1, e2, hq, hce, hcv, hcl, h1, hL, h2, h3⟩, st⟩
  · dsimp only [Pt.U, Pt.locs, Pt.cells, Pt.slots] at X' e1 e2 h1 h2 h3 st
    subst h1; subst h2; subst h3
    exact Or.inl ⟨v, (T.setVm vm₁).calling g' mk (Value.ref b :: As).toArray, t, U', L, hT, X', hL, e1, e2, hq, st⟩
  · dsimp only [Pt.U, Pt.locs, Pt.cells, Pt.slots] at X' e1 e2 h1 h2 h3 st hcl
    subst h1; subst h2; subst h3
    exact Or.inr ⟨q, (T.setVm vm₁).calling g' mk (Value.ref b :: As).toArray, t, U', L, E, ce, hT, X', hL, e1, e2, hq, hce, hcv, vx_cls hW₁ hcl, st⟩
theorem vx_runSX {hh : List (Nat × Nat × Nat × Nat)} (S : CallFix p m c cc nL s args Ts own) (hM : vx_Met l y ws rm Pc Qc XC mc ms free) (cw : vx_CSW R s args own index y bytes maxL ret hh ws rm mc ms n) (hp : PreS s H Pc As)
    (hg : g.method = m) (hn : As.length = n) (hsize : g.locals.size = nL) (hstack : g.stack = As.reverse ++ rest) (hW : 2 * g.monitorRoom + (rest.map fun v => v.category).sum ≤ 8) (hdg : decode cc g.pc = .ok (.invokestatic index, 3)) (hf : cells + mc ≤ R.cells ∧ slots + ms ≤ R.slots) :
    vx_Run p l e R s m args below meth c H locs cells slots mc ms g rest (Qc As.toArray) XC free := by
  obtain ⟨⟨hrc, hrs, hfr, hlo, hws, hcw⟩, hcode, hini, hy, hlen, hl, hstt⟩ := cw
  have hK : vx_Back l R p e below s args y 3 8 (PreOf R mc ms Pc) (PostOf Qc mc ms free) (vx_Post XC mc ms free) := vx_backW (hh := hh) (bytes := bytes) (maxL := maxL) (ret := ret) hM hp.1 hrc hrs hfr hlo hws hcw (fun a' U hW => word_at hW (Or.inl (by first | rfl | simp [Cond.onTables, Cond.keeps, Cond.steady])) hini)
  obtain ⟨hx, hb, hml, ho, -⟩ := S
  intro T hT X
  rcases vx_callSX X hx (hh := hh) (bytes := bytes) (maxL := maxL) (ret := ret) ho hl hstt hini hcode hy hK hg (hsize.trans hml.symm) (argsL := As) (rest := rest) (fun sig h => hn.trans (hlen sig h)) hstack hW (by rw [hb]; exact hdg)
    (fun vm₁ hW₁ => ⟨hf.1, hf.2, hp.2 (T.setVm vm₁) hT hW₁⟩) with ⟨v, vm₁, ⟨U', l2, c2, s2⟩, hW₁, X', ⟨g', mk, t, L, e1, e2, hq, h1, hL, h2, h3⟩, st⟩ | ⟨q, vm₁, ⟨U', l2, c2, s2⟩, hW₁, X', ⟨g', mk, t, L, E, ce, e1, e2, hq, hce, hcv, hcl, h1, hL, h2, h3⟩, st⟩
  · dsimp only [Pt.U, Pt.locs, Pt.cells, Pt.slots] at X' e1 e2 h1 h2 h3 st
    subst h1; subst h2; subst h3
    exact Or.inl ⟨v, (T.setVm vm₁).calling g' mk As.toArray, t, U', L, hT, X', hL, e1, e2, hq, st⟩
  · dsimp only [Pt.U, Pt.locs, Pt.cells, Pt.slots] at X' e1 e2 h1 h2 h3 st hcl
    subst h1; subst h2; subst h3
    exact Or.inr ⟨q, (T.setVm vm₁).calling g' mk As.toArray, t, U', L, E, ce, hT, X', hL, e1, e2, hq, hce, hcv, vx_cls hW₁ hcl, st⟩
end
end VXH
theorem vx_ofWH {l : Launch} {y : MethodName} {ws ws' : List Cond} {rm : Room} {Pc : Array Value → State → Prop} {Qc : Array Value → State → Outcome → State → Prop} {XC : String → State → State → Prop} {mc ms : Nat} {free : Addr → Prop} {cc : ByteArray} {maxL : Nat} {ret : Option FieldType} {hh : List (Nat × Nat × Nat × Nat)}
    (hy : plainName y.cls = true) (hw : ws = Cond.codeWith y cc maxL ret hh :: ws')
    (body : ∀ p e s m args below meth c s₁, BodyLoose p l y (headSpec ws rm) cc maxL ret e s m args below meth c s₁ → c.maxLocals = maxL → Pc args s →
      W p l e (headSpec ws rm).room s m args below meth c s.heap [] 0 0 (vx_MQ below Qc XC args s mc ms free) (entryFrame m args maxL)) : vx_Met l y ws rm Pc Qc XC mc ms free := by
  refine MetFree.of_bodyS (code := cc) (maxLocals := maxL) (ret := ret) hy ?_ ?_
  · intro args s m h hn
    obtain ⟨m9, meth, c, hn9, h1, h2, h3, h4, -, h5, h6, -⟩ := Cond.codeWith_spec (atoms_spec (ws := ws) h _ (by rw [hw]; exact List.mem_cons_self))
    cases hn.symm.trans hn9
    exact ⟨meth, c, h1, h2, h3, h4, h5, h6⟩
  · intro p e s m args below meth c s₁ B hml hP _
    have hh0 : s₁.heap = s.heap := by rw [B.state]; rfl
    obtain ⟨t, a1, o, b1, b2, b3⟩ := body p e s m args below meth c s₁ B hml hP s₁ hh0 (Stand.of_body B)
    exact ⟨t, o, a1, b1, b2, b3⟩
/-! ===== END ===== -/
end
section
/-! ===== BEGIN printed: names, fields, word lists, decode rows ===== -/
def RX0 : String := "DiceForge$Draws"
def TX0 : u_T := fun k => match k with
  | 0 => ("DiceForge$Draws", "state", "I", false)
  | _ => ("DiceForge$Draws", "rejected", "I", false)
def tyX0 : Nat → FieldType := fun k => match k with
  | 0 => .int
  | _ => .int
abbrev wsX00 : List Cond := u_ws RX0 TX0 2
theorem nmX0 : ∀ a, a < 2 → ∀ b, b < 2 → a ≠ b → (TX0 a).2.1 ≠ (TX0 b).2.1 := by decide +kernel
theorem tyX0_ok : ∀ k, k < 2 → parseFieldDescriptor (TX0 k).2.2.1 = some (tyX0 k) := by decide +kernel
abbrev cX0_init : ByteArray := prog_2_method_1_code
def yX0_init : MethodName := ⟨RX0, "<init>", "(I)V"⟩
abbrev cX0_nextValue : ByteArray := prog_2_method_2_code
def yX0_nextValue : MethodName := ⟨RX0, "nextValue", "(II)I"⟩
abbrev cX0_draw : ByteArray := prog_2_method_3_code
def yX0_draw : MethodName := ⟨RX0, "draw", "(I)V"⟩
def RX1 : String := "DiceForge$Entry"
def TX1 : u_T := fun k => match k with
  | 0 => ("DiceForge$Entry", "promise", "I", true)
  | 1 => ("DiceForge$Entry", "table", "I", true)
  | 2 => ("DiceForge$Entry", "part", "I", true)
  | 3 => ("DiceForge$Entry", "faces", "I", true)
  | 4 => ("DiceForge$Entry", "value", "I", false)
  | 5 => ("DiceForge$Entry", "rejected", "I", false)
  | 6 => ("DiceForge$Entry", "sum", "I", false)
  | _ => ("DiceForge$Entry", "struck", "Z", false)
def tyX1 : Nat → FieldType := fun k => match k with
  | 0 => .int
  | 1 => .int
  | 2 => .int
  | 3 => .int
  | 4 => .int
  | 5 => .int
  | 6 => .int
  | _ => .boolean
abbrev wsX10 : List Cond := u_ws RX1 TX1 8
theorem nmX1 : ∀ a, a < 8 → ∀ b, b < 8 → a ≠ b → (TX1 a).2.1 ≠ (TX1 b).2.1 := by decide +kernel
theorem tyX1_ok : ∀ k, k < 8 → parseFieldDescriptor (TX1 k).2.2.1 = some (tyX1 k) := by decide +kernel
abbrev cX1_init : ByteArray := prog_3_method_1_code
def yX1_init : MethodName := ⟨RX1, "<init>", "(IIII)V"⟩
abbrev cX1_sumAfter : ByteArray := prog_3_method_2_code
def yX1_sumAfter : MethodName := ⟨RX1, "sumAfter", "(I)I"⟩
abbrev cX1_countsFor : ByteArray := prog_3_method_3_code
def yX1_countsFor : MethodName := ⟨RX1, "countsFor", "(I)Z"⟩
def RX2 : String := "DiceForge$Promise"
def TX2 : u_T := fun k => match k with
  | 0 => ("DiceForge$Promise", "seed", "I", true)
  | 1 => ("DiceForge$Promise", "draws", "LDiceForge$Draws;", true)
  | 2 => ("DiceForge$Promise", "opened", "Z", false)
  | _ => ("DiceForge$Promise", "disputed", "Z", false)
def tyX2 : Nat → FieldType := fun k => match k with
  | 0 => .int
  | 1 => .object "DiceForge$Draws"
  | 2 => .boolean
  | _ => .boolean
abbrev wsX20 : List Cond := u_ws RX2 TX2 4
theorem nmX2 : ∀ a, a < 4 → ∀ b, b < 4 → a ≠ b → (TX2 a).2.1 ≠ (TX2 b).2.1 := by decide +kernel
theorem tyX2_ok : ∀ k, k < 4 → parseFieldDescriptor (TX2 k).2.2.1 = some (tyX2 k) := by decide +kernel
abbrev cX2_init : ByteArray := prog_4_method_1_code
def yX2_init : MethodName := ⟨RX2, "<init>", "(I)V"⟩
def RX3 : String := "DiceForge"
def TX3 : u_T := fun k => match k with
  | 0 => ("DiceForge", "promises", "Ljava/util/ArrayList;", true)
  | 1 => ("DiceForge", "log", "Ljava/util/ArrayList;", true)
  | 2 => ("DiceForge", "parts", "[I", true)
  | _ => ("DiceForge", "tally", "[I", true)
def tyX3 : Nat → FieldType := fun k => match k with
  | 0 => .object "java/util/ArrayList"
  | 1 => .object "java/util/ArrayList"
  | 2 => .array .int
  | _ => .array .int
abbrev wsX30 : List Cond := u_ws RX3 TX3 4
theorem nmX3 : ∀ a, a < 4 → ∀ b, b < 4 → a ≠ b → (TX3 a).2.1 ≠ (TX3 b).2.1 := by decide +kernel
theorem tyX3_ok : ∀ k, k < 4 → parseFieldDescriptor (TX3 k).2.2.1 = some (tyX3 k) := by decide +kernel
abbrev cX3_init : ByteArray := prog_1_method_1_code
def yX3_init : MethodName := ⟨RX3, "<init>", "()V"⟩
abbrev cX3_promise : ByteArray := prog_1_method_2_code
def yX3_promise : MethodName := ⟨RX3, "promise", "(I)I"⟩
abbrev cX3_sign : ByteArray := prog_1_method_3_code
def yX3_sign : MethodName := ⟨RX3, "sign", "(I)I"⟩
abbrev cX3_seedsOf : ByteArray := prog_1_method_4_code
def yX3_seedsOf : MethodName := ⟨RX3, "seedsOf", "(I)I"⟩
abbrev cX3_open : ByteArray := prog_1_method_5_code
def yX3_open : MethodName := ⟨RX3, "open", "(I)I"⟩
abbrev cX3_isOpened : ByteArray := prog_1_method_6_code
def yX3_isOpened : MethodName := ⟨RX3, "isOpened", "(I)Z"⟩
abbrev cX3_setPart : ByteArray := prog_1_method_7_code
def yX3_setPart : MethodName := ⟨RX3, "setPart", "(II)I"⟩
abbrev cX3_roll : ByteArray := prog_1_method_8_code
def yX3_roll : MethodName := ⟨RX3, "roll", "(III)I"⟩
abbrev cX3_entries : ByteArray := prog_1_method_9_code
def yX3_entries : MethodName := ⟨RX3, "entries", "()I"⟩
abbrev cX3_value : ByteArray := prog_1_method_10_code
def yX3_value : MethodName := ⟨RX3, "value", "(I)I"⟩
abbrev cX3_rejected : ByteArray := prog_1_method_11_code
def yX3_rejected : MethodName := ⟨RX3, "rejected", "(I)I"⟩
abbrev cX3_sum : ByteArray := prog_1_method_12_code
def yX3_sum : MethodName := ⟨RX3, "sum", "(I)I"⟩
abbrev cX3_alter : ByteArray := prog_1_method_13_code
def yX3_alter : MethodName := ⟨RX3, "alter", "(II)I"⟩
abbrev cX3_broken : ByteArray := prog_1_method_14_code
def yX3_broken : MethodName := ⟨RX3, "broken", "()I"⟩
abbrev cX3_found : ByteArray := prog_1_method_15_code
def yX3_found : MethodName := ⟨RX3, "found", "(I)I"⟩
abbrev cX3_wrong : ByteArray := prog_1_method_16_code
def yX3_wrong : MethodName := ⟨RX3, "wrong", "(I)I"⟩
abbrev cX3_dispute : ByteArray := prog_1_method_17_code
def yX3_dispute : MethodName := ⟨RX3, "dispute", "(I)I"⟩
abbrev cX3_isStruck : ByteArray := prog_1_method_18_code
def yX3_isStruck : MethodName := ⟨RX3, "isStruck", "(I)Z"⟩
abbrev cX3_count : ByteArray := prog_1_method_19_code
def yX3_count : MethodName := ⟨RX3, "count", "(II)I"⟩
abbrev cX3_uneven : ByteArray := prog_1_method_20_code
def yX3_uneven : MethodName := ⟨RX3, "uneven", "(I)J"⟩
abbrev cX3_total : ByteArray := prog_1_method_21_code
def yX3_total : MethodName := ⟨RX3, "total", "(I)I"⟩
abbrev cX3_promiseAt : ByteArray := prog_1_method_22_code
def yX3_promiseAt : MethodName := ⟨RX3, "promiseAt", "(I)LDiceForge$Promise;"⟩
abbrev cX3_openedAt : ByteArray := prog_1_method_23_code
def yX3_openedAt : MethodName := ⟨RX3, "openedAt", "(I)LDiceForge$Promise;"⟩
abbrev cX3_entryAt : ByteArray := prog_1_method_24_code
def yX3_entryAt : MethodName := ⟨RX3, "entryAt", "(I)LDiceForge$Entry;"⟩
abbrev cX3_requireTable : ByteArray := prog_1_method_25_code
def yX3_requireTable : MethodName := ⟨RX3, "requireTable", "(I)V"⟩
abbrev cX3_requireFaces : ByteArray := prog_1_method_26_code
def yX3_requireFaces : MethodName := ⟨RX3, "requireFaces", "(I)V"⟩
abbrev cX3_requireValue : ByteArray := prog_1_method_27_code
def yX3_requireValue : MethodName := ⟨RX3, "requireValue", "(II)V"⟩
abbrev cX3_seedsWithRemainder : ByteArray := prog_1_method_28_code
def yX3_seedsWithRemainder : MethodName := ⟨RX3, "seedsWithRemainder", "(I)I"⟩
abbrev cX3_lastSum : ByteArray := prog_1_method_29_code
def yX3_lastSum : MethodName := ⟨RX3, "lastSum", "()I"⟩
abbrev cX3_firstWrong : ByteArray := prog_1_method_30_code
def yX3_firstWrong : MethodName := ⟨RX3, "firstWrong", "(II)I"⟩
abbrev cX3_strikeFrom : ByteArray := prog_1_method_31_code
def yX3_strikeFrom : MethodName := ⟨RX3, "strikeFrom", "(II)I"⟩
abbrev cX3_tallyValues : ByteArray := prog_1_method_32_code
def yX3_tallyValues : MethodName := ⟨RX3, "tallyValues", "(I)I"⟩
def RX4 : String := "DiceForgeModel"
def TX4 : u_T := fun k => match k with
  | 0 => ("DiceForgeModel", "thrown", "I", false)
  | 1 => ("DiceForgeModel", "promises", "I", false)
  | 2 => ("DiceForgeModel", "seed", "[I", true)
  | 3 => ("DiceForgeModel", "state", "[I", true)
  | 4 => ("DiceForgeModel", "opened", "[Z", true)
  | 5 => ("DiceForgeModel", "disputed", "[Z", true)
  | 6 => ("DiceForgeModel", "parts", "[I", true)
  | 7 => ("DiceForgeModel", "entries", "I", false)
  | 8 => ("DiceForgeModel", "of", "[I", true)
  | 9 => ("DiceForgeModel", "at", "[I", true)
  | 10 => ("DiceForgeModel", "part", "[I", true)
  | 11 => ("DiceForgeModel", "sides", "[I", true)
  | 12 => ("DiceForgeModel", "value", "[I", true)
  | 13 => ("DiceForgeModel", "rejected", "[I", true)
  | 14 => ("DiceForgeModel", "sum", "[I", true)
  | 15 => ("DiceForgeModel", "struck", "[Z", true)
  | 16 => ("DiceForgeModel", "behind", "I", false)
  | _ => ("DiceForgeModel", "draws", "I", false)
def tyX4 : Nat → FieldType := fun k => match k with
  | 0 => .int
  | 1 => .int
  | 2 => .array .int
  | 3 => .array .int
  | 4 => .array .boolean
  | 5 => .array .boolean
  | 6 => .array .int
  | 7 => .int
  | 8 => .array .int
  | 9 => .array .int
  | 10 => .array .int
  | 11 => .array .int
  | 12 => .array .int
  | 13 => .array .int
  | 14 => .array .int
  | 15 => .array .boolean
  | 16 => .int
  | _ => .int
abbrev wsX40 : List Cond := u_ws RX4 TX4 18
theorem nmX4 : ∀ a, a < 18 → ∀ b, b < 18 → a ≠ b → (TX4 a).2.1 ≠ (TX4 b).2.1 := by decide +kernel
theorem tyX4_ok : ∀ k, k < 18 → parseFieldDescriptor (TX4 k).2.2.1 = some (tyX4 k) := by decide +kernel
abbrev cX4_init : ByteArray := prog_6_method_1_code
def yX4_init : MethodName := ⟨RX4, "<init>", "()V"⟩
abbrev cX4_thrown : ByteArray := prog_6_method_2_code
def yX4_thrown : MethodName := ⟨RX4, "thrown", "()I"⟩
abbrev cX4_fails : ByteArray := prog_6_method_3_code
def yX4_fails : MethodName := ⟨RX4, "fails", "(I)I"⟩
abbrev cX4_in : ByteArray := prog_6_method_4_code
def yX4_in : MethodName := ⟨RX4, "in", "(III)Z"⟩
abbrev cX4_isPromise : ByteArray := prog_6_method_5_code
def yX4_isPromise : MethodName := ⟨RX4, "isPromise", "(I)Z"⟩
abbrev cX4_isTable : ByteArray := prog_6_method_6_code
def yX4_isTable : MethodName := ⟨RX4, "isTable", "(I)Z"⟩
abbrev cX4_isEntry : ByteArray := prog_6_method_7_code
def yX4_isEntry : MethodName := ⟨RX4, "isEntry", "(I)Z"⟩
abbrev cX4_isDie : ByteArray := prog_6_method_8_code
def yX4_isDie : MethodName := ⟨RX4, "isDie", "(I)Z"⟩
abbrev cX4_signOf : ByteArray := prog_6_method_9_code
def yX4_signOf : MethodName := ⟨RX4, "signOf", "(I)I"⟩
abbrev cX4_promise : ByteArray := prog_6_method_10_code
def yX4_promise : MethodName := ⟨RX4, "promise", "(I)I"⟩
abbrev cX4_sign : ByteArray := prog_6_method_11_code
def yX4_sign : MethodName := ⟨RX4, "sign", "(I)I"⟩
abbrev cX4_seedsOf : ByteArray := prog_6_method_12_code
def yX4_seedsOf : MethodName := ⟨RX4, "seedsOf", "(I)I"⟩
abbrev cX4_open : ByteArray := prog_6_method_13_code
def yX4_open : MethodName := ⟨RX4, "open", "(I)I"⟩
abbrev cX4_isOpened : ByteArray := prog_6_method_14_code
def yX4_isOpened : MethodName := ⟨RX4, "isOpened", "(I)Z"⟩
abbrev cX4_setPart : ByteArray := prog_6_method_15_code
def yX4_setPart : MethodName := ⟨RX4, "setPart", "(II)I"⟩
abbrev cX4_rolls : ByteArray := prog_6_method_16_code
def yX4_rolls : MethodName := ⟨RX4, "rolls", "(III)I"⟩
abbrev cX4_sumOf : ByteArray := prog_6_method_17_code
def yX4_sumOf : MethodName := ⟨RX4, "sumOf", "(I)I"⟩
abbrev cX4_roll : ByteArray := prog_6_method_18_code
def yX4_roll : MethodName := ⟨RX4, "roll", "(III)I"⟩
abbrev cX4_entries : ByteArray := prog_6_method_19_code
def yX4_entries : MethodName := ⟨RX4, "entries", "()I"⟩
abbrev cX4_value : ByteArray := prog_6_method_20_code
def yX4_value : MethodName := ⟨RX4, "value", "(I)I"⟩
abbrev cX4_rejected : ByteArray := prog_6_method_21_code
def yX4_rejected : MethodName := ⟨RX4, "rejected", "(I)I"⟩
abbrev cX4_sum : ByteArray := prog_6_method_22_code
def yX4_sum : MethodName := ⟨RX4, "sum", "(I)I"⟩
abbrev cX4_alter : ByteArray := prog_6_method_23_code
def yX4_alter : MethodName := ⟨RX4, "alter", "(II)I"⟩
abbrev cX4_broken : ByteArray := prog_6_method_24_code
def yX4_broken : MethodName := ⟨RX4, "broken", "()I"⟩
abbrev cX4_again : ByteArray := prog_6_method_25_code
def yX4_again : MethodName := ⟨RX4, "again", "(I)I"⟩
abbrev cX4_firstWrong : ByteArray := prog_6_method_26_code
def yX4_firstWrong : MethodName := ⟨RX4, "firstWrong", "(I)I"⟩
abbrev cX4_found : ByteArray := prog_6_method_27_code
def yX4_found : MethodName := ⟨RX4, "found", "(I)I"⟩
abbrev cX4_wrong : ByteArray := prog_6_method_28_code
def yX4_wrong : MethodName := ⟨RX4, "wrong", "(I)I"⟩
abbrev cX4_dispute : ByteArray := prog_6_method_29_code
def yX4_dispute : MethodName := ⟨RX4, "dispute", "(I)I"⟩
abbrev cX4_isStruck : ByteArray := prog_6_method_30_code
def yX4_isStruck : MethodName := ⟨RX4, "isStruck", "(I)Z"⟩
abbrev cX4_counts : ByteArray := prog_6_method_31_code
def yX4_counts : MethodName := ⟨RX4, "counts", "(II)I"⟩
abbrev cX4_count : ByteArray := prog_6_method_32_code
def yX4_count : MethodName := ⟨RX4, "count", "(II)I"⟩
abbrev cX4_uneven : ByteArray := prog_6_method_33_code
def yX4_uneven : MethodName := ⟨RX4, "uneven", "(I)J"⟩
abbrev cX4_total : ByteArray := prog_6_method_34_code
def yX4_total : MethodName := ⟨RX4, "total", "(I)I"⟩
def RJx145de : String := "java/io/Serializable"
def TJx145de : u_T := fun k => match k with
  | _ => ("", "", "", false)
def tyJx145de : Nat → FieldType := fun k => match k with
  | _ => .int
abbrev wsJx145de0 : List Cond := u_ws RJx145de TJx145de 0
theorem nmJx145de : ∀ a, a < 0 → ∀ b, b < 0 → a ≠ b → (TJx145de a).2.1 ≠ (TJx145de b).2.1 := by decide +kernel
theorem tyJx145de_ok : ∀ k, k < 0 → parseFieldDescriptor (TJx145de k).2.2.1 = some (tyJx145de k) := by decide +kernel
def RJx8e188 : String := "java/lang/Cloneable"
def TJx8e188 : u_T := fun k => match k with
  | _ => ("", "", "", false)
def tyJx8e188 : Nat → FieldType := fun k => match k with
  | _ => .int
abbrev wsJx8e1880 : List Cond := u_ws RJx8e188 TJx8e188 0
theorem nmJx8e188 : ∀ a, a < 0 → ∀ b, b < 0 → a ≠ b → (TJx8e188 a).2.1 ≠ (TJx8e188 b).2.1 := by decide +kernel
theorem tyJx8e188_ok : ∀ k, k < 0 → parseFieldDescriptor (TJx8e188 k).2.2.1 = some (tyJx8e188 k) := by decide +kernel
def RJxab1ab : String := "java/lang/Iterable"
def TJxab1ab : u_T := fun k => match k with
  | _ => ("", "", "", false)
def tyJxab1ab : Nat → FieldType := fun k => match k with
  | _ => .int
abbrev wsJxab1ab0 : List Cond := u_ws RJxab1ab TJxab1ab 0
theorem nmJxab1ab : ∀ a, a < 0 → ∀ b, b < 0 → a ≠ b → (TJxab1ab a).2.1 ≠ (TJxab1ab b).2.1 := by decide +kernel
theorem tyJxab1ab_ok : ∀ k, k < 0 → parseFieldDescriptor (TJxab1ab k).2.2.1 = some (tyJxab1ab k) := by decide +kernel
def RJ9 : String := "java/lang/Math"
def TJ9 : u_T := fun k => match k with
  | _ => ("", "", "", false)
def tyJ9 : Nat → FieldType := fun k => match k with
  | _ => .int
abbrev wsJ90 : List Cond := u_ws RJ9 TJ9 0
theorem nmJ9 : ∀ a, a < 0 → ∀ b, b < 0 → a ≠ b → (TJ9 a).2.1 ≠ (TJ9 b).2.1 := by decide +kernel
theorem tyJ9_ok : ∀ k, k < 0 → parseFieldDescriptor (TJ9 k).2.2.1 = some (tyJ9 k) := by decide +kernel
abbrev cJ9_floorMod_7cf53 : ByteArray := prog_14_method_50_code
def yJ9_floorMod_7cf53 : MethodName := ⟨RJ9, "floorMod", "(II)I"⟩
abbrev cJ9_max_7cf53 : ByteArray := prog_14_method_65_code
def yJ9_max_7cf53 : MethodName := ⟨RJ9, "max", "(II)I"⟩
abbrev cJ9_min_7cf53 : ByteArray := prog_14_method_69_code
def yJ9_min_7cf53 : MethodName := ⟨RJ9, "min", "(II)I"⟩
def RJ0 : String := "java/lang/String"
def TJ0 : u_T := fun k => match k with
  | _ => ("", "", "", false)
def tyJ0 : Nat → FieldType := fun k => match k with
  | _ => .int
abbrev wsJ00 : List Cond := u_ws RJ0 TJ0 0
theorem nmJ0 : ∀ a, a < 0 → ∀ b, b < 0 → a ≠ b → (TJ0 a).2.1 ≠ (TJ0 b).2.1 := by decide +kernel
theorem tyJ0_ok : ∀ k, k < 0 → parseFieldDescriptor (TJ0 k).2.2.1 = some (tyJ0 k) := by decide +kernel
def RJ10 : String := "java/lang/System"
def TJ10 : u_T := fun k => match k with
  | _ => ("", "", "", false)
def tyJ10 : Nat → FieldType := fun k => match k with
  | _ => .int
abbrev wsJ100 : List Cond := u_ws RJ10 TJ10 0
theorem nmJ10 : ∀ a, a < 0 → ∀ b, b < 0 → a ≠ b → (TJ10 a).2.1 ≠ (TJ10 b).2.1 := by decide +kernel
theorem tyJ10_ok : ∀ k, k < 0 → parseFieldDescriptor (TJ10 k).2.2.1 = some (tyJ10 k) := by decide +kernel
def RJxa1e45 : String := "java/util/AbstractCollection"
def TJxa1e45 : u_T := fun k => match k with
  | _ => ("", "", "", false)
def tyJxa1e45 : Nat → FieldType := fun k => match k with
  | _ => .int
abbrev wsJxa1e450 : List Cond := u_ws RJxa1e45 TJxa1e45 0
theorem nmJxa1e45 : ∀ a, a < 0 → ∀ b, b < 0 → a ≠ b → (TJxa1e45 a).2.1 ≠ (TJxa1e45 b).2.1 := by decide +kernel
theorem tyJxa1e45_ok : ∀ k, k < 0 → parseFieldDescriptor (TJxa1e45 k).2.2.1 = some (tyJxa1e45 k) := by decide +kernel
abbrev cJxa1e45_init_da8c8 : ByteArray := prog_19_method_1_code
def yJxa1e45_init_da8c8 : MethodName := ⟨RJxa1e45, "<init>", "()V"⟩
def RJxc12de : String := "java/util/AbstractList"
def TJxc12de : u_T := fun k => match k with
  | _ => ("", "", "", false)
def tyJxc12de : Nat → FieldType := fun k => match k with
  | _ => .int
abbrev wsJxc12de0 : List Cond := u_ws RJxc12de TJxc12de 0
theorem nmJxc12de : ∀ a, a < 0 → ∀ b, b < 0 → a ≠ b → (TJxc12de a).2.1 ≠ (TJxc12de b).2.1 := by decide +kernel
theorem tyJxc12de_ok : ∀ k, k < 0 → parseFieldDescriptor (TJxc12de k).2.2.1 = some (tyJxc12de k) := by decide +kernel
abbrev cJxc12de_init_da8c8 : ByteArray := prog_20_method_1_code
def yJxc12de_init_da8c8 : MethodName := ⟨RJxc12de, "<init>", "()V"⟩
def RJx4a65c : String := "java/util/ArrayList"
def TJx4a65c : u_T := fun k => match k with
  | 0 => ("java/util/AbstractList", "modCount", "I", false)
  | 1 => ("java/util/ArrayList", "elementData", "[Ljava/lang/Object;", false)
  | _ => ("java/util/ArrayList", "size", "I", false)
def tyJx4a65c : Nat → FieldType := fun k => match k with
  | 0 => .int
  | 1 => .array (.object "java/lang/Object")
  | _ => .int
abbrev wsJx4a65c0 : List Cond := u_ws RJx4a65c TJx4a65c 3
theorem nmJx4a65c : ∀ a, a < 3 → ∀ b, b < 3 → a ≠ b → (TJx4a65c a).2.1 ≠ (TJx4a65c b).2.1 := by decide +kernel
theorem tyJx4a65c_ok : ∀ k, k < 3 → parseFieldDescriptor (TJx4a65c k).2.2.1 = some (tyJx4a65c k) := by decide +kernel
abbrev cJx4a65c_init_da8c8 : ByteArray := prog_21_method_2_code
def yJx4a65c_init_da8c8 : MethodName := ⟨RJx4a65c, "<init>", "()V"⟩
abbrev cJx4a65c_grow_92f84 : ByteArray := prog_21_method_6_code
def yJx4a65c_grow_92f84 : MethodName := ⟨RJx4a65c, "grow", "(I)[Ljava/lang/Object;"⟩
abbrev cJx4a65c_grow_d5877 : ByteArray := prog_21_method_7_code
def yJx4a65c_grow_d5877 : MethodName := ⟨RJx4a65c, "grow", "()[Ljava/lang/Object;"⟩
abbrev cJx4a65c_size_8abf5 : ByteArray := prog_21_method_8_code
def yJx4a65c_size_8abf5 : MethodName := ⟨RJx4a65c, "size", "()I"⟩
abbrev cJx4a65c_isEmpty_aae02 : ByteArray := prog_21_method_9_code
def yJx4a65c_isEmpty_aae02 : MethodName := ⟨RJx4a65c, "isEmpty", "()Z"⟩
abbrev cJx4a65c_elementData_915e3 : ByteArray := prog_21_method_18_code
def yJx4a65c_elementData_915e3 : MethodName := ⟨RJx4a65c, "elementData", "(I)Ljava/lang/Object;"⟩
abbrev cJx4a65c_get_915e3 : ByteArray := prog_21_method_20_code
def yJx4a65c_get_915e3 : MethodName := ⟨RJx4a65c, "get", "(I)Ljava/lang/Object;"⟩
abbrev cJx4a65c_add_72be8 : ByteArray := prog_21_method_24_code
def yJx4a65c_add_72be8 : MethodName := ⟨RJx4a65c, "add", "(Ljava/lang/Object;[Ljava/lang/Object;I)V"⟩
abbrev cJx4a65c_add_9ea2d : ByteArray := prog_21_method_25_code
def yJx4a65c_add_9ea2d : MethodName := ⟨RJx4a65c, "add", "(Ljava/lang/Object;)Z"⟩
def RJ7 : String := "java/util/Arrays"
def TJ7 : u_T := fun k => match k with
  | _ => ("", "", "", false)
def tyJ7 : Nat → FieldType := fun k => match k with
  | _ => .int
abbrev wsJ70 : List Cond := u_ws RJ7 TJ7 0
theorem nmJ7 : ∀ a, a < 0 → ∀ b, b < 0 → a ≠ b → (TJ7 a).2.1 ≠ (TJ7 b).2.1 := by decide +kernel
theorem tyJ7_ok : ∀ k, k < 0 → parseFieldDescriptor (TJ7 k).2.2.1 = some (tyJ7 k) := by decide +kernel
abbrev cJ7_fill_53178 : ByteArray := prog_22_method_103_code
def yJ7_fill_53178 : MethodName := ⟨RJ7, "fill", "([II)V"⟩
abbrev cJ7_copyOf_1904c : ByteArray := prog_22_method_119_code
def yJ7_copyOf_1904c : MethodName := ⟨RJ7, "copyOf", "([Ljava/lang/Object;I)[Ljava/lang/Object;"⟩
abbrev cJ7_copyOf_6403c : ByteArray := prog_22_method_120_code
def yJ7_copyOf_6403c : MethodName := ⟨RJ7, "copyOf", "([Ljava/lang/Object;ILjava/lang/Class;)[Ljava/lang/Object;"⟩
def RJx5ef63 : String := "java/util/Collection"
def TJx5ef63 : u_T := fun k => match k with
  | _ => ("", "", "", false)
def tyJx5ef63 : Nat → FieldType := fun k => match k with
  | _ => .int
abbrev wsJx5ef630 : List Cond := u_ws RJx5ef63 TJx5ef63 0
theorem nmJx5ef63 : ∀ a, a < 0 → ∀ b, b < 0 → a ≠ b → (TJx5ef63 a).2.1 ≠ (TJx5ef63 b).2.1 := by decide +kernel
theorem tyJx5ef63_ok : ∀ k, k < 0 → parseFieldDescriptor (TJx5ef63 k).2.2.1 = some (tyJx5ef63 k) := by decide +kernel
def RJxbd725 : String := "java/util/List"
def TJxbd725 : u_T := fun k => match k with
  | _ => ("", "", "", false)
def tyJxbd725 : Nat → FieldType := fun k => match k with
  | _ => .int
abbrev wsJxbd7250 : List Cond := u_ws RJxbd725 TJxbd725 0
theorem nmJxbd725 : ∀ a, a < 0 → ∀ b, b < 0 → a ≠ b → (TJxbd725 a).2.1 ≠ (TJxbd725 b).2.1 := by decide +kernel
theorem tyJxbd725_ok : ∀ k, k < 0 → parseFieldDescriptor (TJxbd725 k).2.2.1 = some (tyJxbd725 k) := by decide +kernel
def RJ15 : String := "java/util/Objects"
def TJ15 : u_T := fun k => match k with
  | _ => ("", "", "", false)
def tyJ15 : Nat → FieldType := fun k => match k with
  | _ => .int
abbrev wsJ150 : List Cond := u_ws RJ15 TJ15 0
theorem nmJ15 : ∀ a, a < 0 → ∀ b, b < 0 → a ≠ b → (TJ15 a).2.1 ≠ (TJ15 b).2.1 := by decide +kernel
theorem tyJ15_ok : ∀ k, k < 0 → parseFieldDescriptor (TJ15 k).2.2.1 = some (tyJ15 k) := by decide +kernel
abbrev cJ15_checkIndex_7cf53 : ByteArray := prog_25_method_17_code
def yJ15_checkIndex_7cf53 : MethodName := ⟨RJ15, "checkIndex", "(II)I"⟩
def RJxf0a74 : String := "java/util/RandomAccess"
def TJxf0a74 : u_T := fun k => match k with
  | _ => ("", "", "", false)
def tyJxf0a74 : Nat → FieldType := fun k => match k with
  | _ => .int
abbrev wsJxf0a740 : List Cond := u_ws RJxf0a74 TJxf0a74 0
theorem nmJxf0a74 : ∀ a, a < 0 → ∀ b, b < 0 → a ≠ b → (TJxf0a74 a).2.1 ≠ (TJxf0a74 b).2.1 := by decide +kernel
theorem tyJxf0a74_ok : ∀ k, k < 0 → parseFieldDescriptor (TJxf0a74 k).2.2.1 = some (tyJxf0a74 k) := by decide +kernel
def RJxa66e6 : String := "java/util/SequencedCollection"
def TJxa66e6 : u_T := fun k => match k with
  | _ => ("", "", "", false)
def tyJxa66e6 : Nat → FieldType := fun k => match k with
  | _ => .int
abbrev wsJxa66e60 : List Cond := u_ws RJxa66e6 TJxa66e6 0
theorem nmJxa66e6 : ∀ a, a < 0 → ∀ b, b < 0 → a ≠ b → (TJxa66e6 a).2.1 ≠ (TJxa66e6 b).2.1 := by decide +kernel
theorem tyJxa66e6_ok : ∀ k, k < 0 → parseFieldDescriptor (TJxa66e6 k).2.2.1 = some (tyJxa66e6 k) := by decide +kernel
def RJ8 : String := "jdk/internal/util/ArraysSupport"
def TJ8 : u_T := fun k => match k with
  | _ => ("", "", "", false)
def tyJ8 : Nat → FieldType := fun k => match k with
  | _ => .int
abbrev wsJ80 : List Cond := u_ws RJ8 TJ8 0
theorem nmJ8 : ∀ a, a < 0 → ∀ b, b < 0 → a ≠ b → (TJ8 a).2.1 ≠ (TJ8 b).2.1 := by decide +kernel
theorem tyJ8_ok : ∀ k, k < 0 → parseFieldDescriptor (TJ8 k).2.2.1 = some (tyJ8 k) := by decide +kernel
abbrev cJ8_newLength_cabcc : ByteArray := prog_28_method_27_code
def yJ8_newLength_cabcc : MethodName := ⟨RJ8, "newLength", "(III)I"⟩
abbrev cJ8_hugeLength_7cf53 : ByteArray := prog_28_method_28_code
def yJ8_hugeLength_7cf53 : MethodName := ⟨RJ8, "hugeLength", "(II)I"⟩
def RJ3 : String := "jdk/internal/util/Preconditions"
def TJ3 : u_T := fun k => match k with
  | _ => ("", "", "", false)
def tyJ3 : Nat → FieldType := fun k => match k with
  | _ => .int
abbrev wsJ30 : List Cond := u_ws RJ3 TJ3 0
theorem nmJ3 : ∀ a, a < 0 → ∀ b, b < 0 → a ≠ b → (TJ3 a).2.1 ≠ (TJ3 b).2.1 := by decide +kernel
theorem tyJ3_ok : ∀ k, k < 0 → parseFieldDescriptor (TJ3 k).2.2.1 = some (tyJ3 k) := by decide +kernel
abbrev cJ3_checkIndex_8e157 : ByteArray := prog_29_method_11_code
def yJ3_checkIndex_8e157 : MethodName := ⟨RJ3, "checkIndex", "(IILjava/util/function/BiFunction;)I"⟩
def RL : String := "DiceForgeLaw"
abbrev cL_promise : ByteArray := method_3_code
def yL_promise : MethodName := ⟨RL, "promise", "(LDiceForge;I[J)I"⟩
abbrev cL_sign : ByteArray := method_4_code
def yL_sign : MethodName := ⟨RL, "sign", "(LDiceForge;I[J)I"⟩
abbrev cL_seedsOf : ByteArray := method_5_code
def yL_seedsOf : MethodName := ⟨RL, "seedsOf", "(LDiceForge;I[J)I"⟩
abbrev cL_open : ByteArray := method_6_code
def yL_open : MethodName := ⟨RL, "open", "(LDiceForge;I[J)I"⟩
abbrev cL_isOpened : ByteArray := method_7_code
def yL_isOpened : MethodName := ⟨RL, "isOpened", "(LDiceForge;I[J)I"⟩
abbrev cL_setPart : ByteArray := method_8_code
def yL_setPart : MethodName := ⟨RL, "setPart", "(LDiceForge;II[J)I"⟩
abbrev cL_roll : ByteArray := method_9_code
def yL_roll : MethodName := ⟨RL, "roll", "(LDiceForge;III[J)I"⟩
abbrev cL_value : ByteArray := method_10_code
def yL_value : MethodName := ⟨RL, "value", "(LDiceForge;I[J)I"⟩
abbrev cL_rejected : ByteArray := method_11_code
def yL_rejected : MethodName := ⟨RL, "rejected", "(LDiceForge;I[J)I"⟩
abbrev cL_sum : ByteArray := method_12_code
def yL_sum : MethodName := ⟨RL, "sum", "(LDiceForge;I[J)I"⟩
abbrev cL_alter : ByteArray := method_13_code
def yL_alter : MethodName := ⟨RL, "alter", "(LDiceForge;II[J)I"⟩
abbrev cL_found : ByteArray := method_14_code
def yL_found : MethodName := ⟨RL, "found", "(LDiceForge;I[J)I"⟩
abbrev cL_wrong : ByteArray := method_15_code
def yL_wrong : MethodName := ⟨RL, "wrong", "(LDiceForge;I[J)I"⟩
abbrev cL_dispute : ByteArray := method_16_code
def yL_dispute : MethodName := ⟨RL, "dispute", "(LDiceForge;I[J)I"⟩
abbrev cL_isStruck : ByteArray := method_17_code
def yL_isStruck : MethodName := ⟨RL, "isStruck", "(LDiceForge;I[J)I"⟩
abbrev cL_count : ByteArray := method_18_code
def yL_count : MethodName := ⟨RL, "count", "(LDiceForge;II[J)I"⟩
abbrev cL_uneven : ByteArray := method_19_code
def yL_uneven : MethodName := ⟨RL, "uneven", "(LDiceForge;I[J)I"⟩
abbrev cL_total : ByteArray := method_20_code
def yL_total : MethodName := ⟨RL, "total", "(LDiceForge;I[J)I"⟩
abbrev cL_law : ByteArray := code
def yL_law : MethodName := ⟨RL, "law", "([I)Z"⟩
abbrev vwCl : List vw_C := [(RJx4a65c, TJx4a65c, 3), (RX0, TX0, 2), (RX1, TX1, 8), (RX2, TX2, 4), (RX3, TX3, 4), (RX4, TX4, 18)]
end
section
/-! MY OWN LAYER, 0: one list of words for all contracts: the good words of the tables, and each by its place (written by wip/whole/gen_names.py) -/
def zc_W0 : List Cond := [(Jvm.Cond.selects "DiceForge$Entry" ⟨"DiceForge$Entry", "sumAfter", "(I)I"⟩ ⟨"DiceForge$Entry", "sumAfter", "(I)I"⟩), (Jvm.Cond.selects "java/lang/Throwable" ⟨"java/lang/Throwable", "fillInStackTrace", "(I)Ljava/lang/Throwable;"⟩ ⟨"java/lang/Throwable", "fillInStackTrace", "(I)Ljava/lang/Throwable;"⟩), (Jvm.Cond.selects "java/util/ArrayList" ⟨"java/util/ArrayList", "add", "(Ljava/lang/Object;[Ljava/lang/Object;I)V"⟩ ⟨"java/util/ArrayList", "add", "(Ljava/lang/Object;[Ljava/lang/Object;I)V"⟩), (Jvm.Cond.selects "java/util/ArrayList" ⟨"java/util/ArrayList", "grow", "()[Ljava/lang/Object;"⟩ ⟨"java/util/ArrayList", "grow", "()[Ljava/lang/Object;"⟩), (Jvm.Cond.selects "java/util/ArrayList" ⟨"java/util/ArrayList", "grow", "(I)[Ljava/lang/Object;"⟩ ⟨"java/util/ArrayList", "grow", "(I)[Ljava/lang/Object;"⟩), (Jvm.Cond.selects "DiceForge" ⟨"DiceForge", "promiseAt", "(I)LDiceForge$Promise;"⟩ ⟨"DiceForge", "promiseAt", "(I)LDiceForge$Promise;"⟩), (Jvm.Cond.selects "DiceForge$Draws" ⟨"DiceForge$Draws", "nextValue", "(II)I"⟩ ⟨"DiceForge$Draws", "nextValue", "(II)I"⟩), (Jvm.Cond.selects "DiceForge$Draws" ⟨"DiceForge$Draws", "draw", "(I)V"⟩ ⟨"DiceForge$Draws", "draw", "(I)V"⟩), (Jvm.Cond.selects "DiceForge" ⟨"DiceForge", "lastSum", "()I"⟩ ⟨"DiceForge", "lastSum", "()I"⟩), (Jvm.Cond.selects "DiceForge" ⟨"DiceForge", "entryAt", "(I)LDiceForge$Entry;"⟩ ⟨"DiceForge", "entryAt", "(I)LDiceForge$Entry;"⟩), (Jvm.Cond.selects "DiceForge" ⟨"DiceForge", "openedAt", "(I)LDiceForge$Promise;"⟩ ⟨"DiceForge", "openedAt", "(I)LDiceForge$Promise;"⟩), (Jvm.Cond.selects "DiceForge" ⟨"DiceForge", "firstWrong", "(II)I"⟩ ⟨"DiceForge", "firstWrong", "(II)I"⟩), (Jvm.Cond.selects "DiceForge" ⟨"DiceForge", "strikeFrom", "(II)I"⟩ ⟨"DiceForge", "strikeFrom", "(II)I"⟩), (Jvm.Cond.selects "DiceForge$Entry" ⟨"DiceForge$Entry", "countsFor", "(I)Z"⟩ ⟨"DiceForge$Entry", "countsFor", "(I)Z"⟩), (Jvm.Cond.selects "DiceForge" ⟨"DiceForge", "tallyValues", "(I)I"⟩ ⟨"DiceForge", "tallyValues", "(I)I"⟩), (Jvm.Cond.selects "DiceForgeModel" ⟨"DiceForgeModel", "fails", "(I)I"⟩ ⟨"DiceForgeModel", "fails", "(I)I"⟩), (Jvm.Cond.selects "DiceForgeModel" ⟨"DiceForgeModel", "isPromise", "(I)Z"⟩ ⟨"DiceForgeModel", "isPromise", "(I)Z"⟩), (Jvm.Cond.selects "DiceForgeModel" ⟨"DiceForgeModel", "rolls", "(III)I"⟩ ⟨"DiceForgeModel", "rolls", "(III)I"⟩), (Jvm.Cond.selects "DiceForgeModel" ⟨"DiceForgeModel", "sumOf", "(I)I"⟩ ⟨"DiceForgeModel", "sumOf", "(I)I"⟩), (Jvm.Cond.selects "DiceForgeModel" ⟨"DiceForgeModel", "isEntry", "(I)Z"⟩ ⟨"DiceForgeModel", "isEntry", "(I)Z"⟩), (Jvm.Cond.selects "DiceForgeModel" ⟨"DiceForgeModel", "again", "(I)I"⟩ ⟨"DiceForgeModel", "again", "(I)I"⟩), (Jvm.Cond.selects "DiceForgeModel" ⟨"DiceForgeModel", "firstWrong", "(I)I"⟩ ⟨"DiceForgeModel", "firstWrong", "(I)I"⟩), (Jvm.Cond.selects "DiceForgeModel" ⟨"DiceForgeModel", "counts", "(II)I"⟩ ⟨"DiceForgeModel", "counts", "(II)I"⟩), (Jvm.Cond.initialized "DiceForgeLaw"), (Jvm.Cond.initialized "DiceForge"), (Jvm.Cond.initialized "java/util/AbstractCollection"), (Jvm.Cond.initialized "java/util/AbstractList"), (Jvm.Cond.initialized "java/util/ArrayList"), (Jvm.Cond.initialized "DiceForgeModel"), (Jvm.Cond.initialized "java/lang/Throwable"), (Jvm.Cond.initialized "java/lang/Exception"), (Jvm.Cond.initialized "java/lang/RuntimeException"), (Jvm.Cond.initialized "java/lang/IllegalArgumentException"), (Jvm.Cond.initialized "java/lang/IllegalStateException"), (Jvm.Cond.initialized "DiceForge$Promise"), (Jvm.Cond.initialized "DiceForge$Draws"), (Jvm.Cond.initialized "jdk/internal/util/ArraysSupport"), (Jvm.Cond.initialized "java/lang/Math"), (Jvm.Cond.initialized "java/util/Arrays"), (Jvm.Cond.initialized "java/lang/System"), (Jvm.Cond.initialized "java/lang/IndexOutOfBoundsException"), (Jvm.Cond.initialized "java/util/Objects"), (Jvm.Cond.initialized "jdk/internal/util/Preconditions"), (Jvm.Cond.initialized "DiceForge$Entry"), (Jvm.Cond.classLink "DiceForgeLaw" (8 : Nat) "DiceForge"), (Jvm.Cond.instantiable "DiceForge" (4 : Nat)), (Jvm.Cond.methodLink "DiceForgeLaw" (74 : Nat) ({ cls := "DiceForge", name := "<init>", desc := "()V" } : Jvm.MethodName)), (Jvm.Cond.instanceMethod ({ cls := "DiceForge", name := "<init>", desc := "()V" } : Jvm.MethodName)), (Jvm.Cond.code ({ cls := "DiceForge", name := "<init>", desc := "()V" } : Jvm.MethodName) prog_1_method_1_code (1 : Nat) (Option.none : Option Jvm.ClassFile.FieldType)), (Jvm.Cond.methodLink "DiceForge" (1 : Nat) ({ cls := "java/lang/Object", name := "<init>", desc := "()V" } : Jvm.MethodName)), (Jvm.Cond.instanceMethod ({ cls := "java/lang/Object", name := "<init>", desc := "()V" } : Jvm.MethodName)), (Jvm.Cond.code ({ cls := "java/lang/Object", name := "<init>", desc := "()V" } : Jvm.MethodName) object_method_1_code (1 : Nat) (Option.none : Option Jvm.ClassFile.FieldType)), (Jvm.Cond.classLink "DiceForge" (7 : Nat) "java/util/ArrayList"), (Jvm.Cond.instantiable "java/util/ArrayList" (3 : Nat)), (Jvm.Cond.methodLink "DiceForge" (9 : Nat) ({ cls := "java/util/ArrayList", name := "<init>", desc := "()V" } : Jvm.MethodName)), (Jvm.Cond.instanceMethod ({ cls := "java/util/ArrayList", name := "<init>", desc := "()V" } : Jvm.MethodName)), (Jvm.Cond.code ({ cls := "java/util/ArrayList", name := "<init>", desc := "()V" } : Jvm.MethodName) prog_21_method_2_code (1 : Nat) (Option.none : Option Jvm.ClassFile.FieldType)), (Jvm.Cond.methodLink "java/util/ArrayList" (1 : Nat) ({ cls := "java/util/AbstractList", name := "<init>", desc := "()V" } : Jvm.MethodName)), (Jvm.Cond.instanceMethod ({ cls := "java/util/AbstractList", name := "<init>", desc := "()V" } : Jvm.MethodName)), (Jvm.Cond.code ({ cls := "java/util/AbstractList", name := "<init>", desc := "()V" } : Jvm.MethodName) prog_20_method_1_code (1 : Nat) (Option.none : Option Jvm.ClassFile.FieldType)), (Jvm.Cond.methodLink "java/util/AbstractList" (1 : Nat) ({ cls := "java/util/AbstractCollection", name := "<init>", desc := "()V" } : Jvm.MethodName)), (Jvm.Cond.instanceMethod ({ cls := "java/util/AbstractCollection", name := "<init>", desc := "()V" } : Jvm.MethodName)), (Jvm.Cond.code ({ cls := "java/util/AbstractCollection", name := "<init>", desc := "()V" } : Jvm.MethodName) prog_19_method_1_code (1 : Nat) (Option.none : Option Jvm.ClassFile.FieldType)), (Jvm.Cond.methodLink "java/util/AbstractCollection" (1 : Nat) ({ cls := "java/lang/Object", name := "<init>", desc := "()V" } : Jvm.MethodName)), (Jvm.Cond.fieldLink "java/util/ArrayList" (39 : Nat) "java/util/ArrayList" "DEFAULTCAPACITY_EMPTY_ELEMENTDATA" "[Ljava/lang/Object;"), (Jvm.Cond.fieldLink "java/util/ArrayList" (9 : Nat) "java/util/ArrayList" "elementData" "[Ljava/lang/Object;"), (Jvm.Cond.fieldLink "java/util/ArrayList" (48 : Nat) "java/util/ArrayList" "size" "I"), (Jvm.Cond.fieldLink "java/util/AbstractList" (7 : Nat) "java/util/AbstractList" "modCount" "I"), (Jvm.Cond.fieldLink "java/util/ArrayList" (63 : Nat) "java/util/ArrayList" "modCount" "I"), (Jvm.Cond.sameField "java/util/ArrayList" "java/util/AbstractList" "modCount" "I"), (Jvm.Cond.lays "java/util/ArrayList" "java/util/ArrayList" "elementData" "[Ljava/lang/Object;"), (Jvm.Cond.soleField "java/util/ArrayList" "elementData"), (Jvm.Cond.lays "java/util/ArrayList" "java/util/ArrayList" "size" "I"), (Jvm.Cond.soleField "java/util/ArrayList" "size"), (Jvm.Cond.lays "java/util/ArrayList" "java/util/AbstractList" "modCount" "I"), (Jvm.Cond.soleField "java/util/AbstractList" "modCount"), (Jvm.Cond.superclass "java/util/ArrayList" "java/util/AbstractList"), (Jvm.Cond.fieldLink "DiceForge" (10 : Nat) "DiceForge" "promises" "Ljava/util/ArrayList;"), (Jvm.Cond.fieldLink "DiceForge" (16 : Nat) "DiceForge" "log" "Ljava/util/ArrayList;"), (Jvm.Cond.fieldLink "DiceForge" (19 : Nat) "DiceForge" "parts" "[I")]
def zc_W1 : List Cond := [(Jvm.Cond.fieldLink "DiceForge" (23 : Nat) "DiceForge" "tally" "[I"), (Jvm.Cond.laysFinal "DiceForge" "DiceForge" "promises" "Ljava/util/ArrayList;"), (Jvm.Cond.soleField "DiceForge" "promises"), (Jvm.Cond.laysFinal "DiceForge" "DiceForge" "log" "Ljava/util/ArrayList;"), (Jvm.Cond.soleField "DiceForge" "log"), (Jvm.Cond.laysFinal "DiceForge" "DiceForge" "parts" "[I"), (Jvm.Cond.soleField "DiceForge" "parts"), (Jvm.Cond.laysFinal "DiceForge" "DiceForge" "tally" "[I"), (Jvm.Cond.soleField "DiceForge" "tally"), (Jvm.Cond.superclass "DiceForge" "java/lang/Object"), (Jvm.Cond.arrayClass Jvm.ClassFile.FieldType.int), (Jvm.Cond.methodLink "DiceForgeLaw" (108 : Nat) ({ cls := "DiceForge", name := "entries", desc := "()I" } : Jvm.MethodName)), (Jvm.Cond.instanceMethod ({ cls := "DiceForge", name := "entries", desc := "()I" } : Jvm.MethodName)), (Jvm.Cond.selects "DiceForge" ({ cls := "DiceForge", name := "entries", desc := "()I" } : Jvm.MethodName) ({ cls := "DiceForge", name := "entries", desc := "()I" } : Jvm.MethodName)), (Jvm.Cond.code ({ cls := "DiceForge", name := "entries", desc := "()I" } : Jvm.MethodName) prog_1_method_9_code (1 : Nat) (Option.some Jvm.ClassFile.FieldType.int)), (Jvm.Cond.methodLink "DiceForge" (34 : Nat) ({ cls := "java/util/ArrayList", name := "size", desc := "()I" } : Jvm.MethodName)), (Jvm.Cond.instanceMethod ({ cls := "java/util/ArrayList", name := "size", desc := "()I" } : Jvm.MethodName)), (Jvm.Cond.selects "java/util/ArrayList" ({ cls := "java/util/ArrayList", name := "size", desc := "()I" } : Jvm.MethodName) ({ cls := "java/util/ArrayList", name := "size", desc := "()I" } : Jvm.MethodName)), (Jvm.Cond.code ({ cls := "java/util/ArrayList", name := "size", desc := "()I" } : Jvm.MethodName) prog_21_method_8_code (1 : Nat) (Option.some Jvm.ClassFile.FieldType.int)), (Jvm.Cond.methodLink "DiceForgeLaw" (124 : Nat) ({ cls := "DiceForge", name := "broken", desc := "()I" } : Jvm.MethodName)), (Jvm.Cond.instanceMethod ({ cls := "DiceForge", name := "broken", desc := "()I" } : Jvm.MethodName)), (Jvm.Cond.selects "DiceForge" ({ cls := "DiceForge", name := "broken", desc := "()I" } : Jvm.MethodName) ({ cls := "DiceForge", name := "broken", desc := "()I" } : Jvm.MethodName)), (Jvm.Cond.code ({ cls := "DiceForge", name := "broken", desc := "()I" } : Jvm.MethodName) prog_1_method_14_code (4 : Nat) (Option.some Jvm.ClassFile.FieldType.int)), (Jvm.Cond.methodLink "DiceForge" (141 : Nat) ({ cls := "java/util/ArrayList", name := "get", desc := "(I)Ljava/lang/Object;" } : Jvm.MethodName)), (Jvm.Cond.instanceMethod ({ cls := "java/util/ArrayList", name := "get", desc := "(I)Ljava/lang/Object;" } : Jvm.MethodName)), (Jvm.Cond.selects "java/util/ArrayList" ({ cls := "java/util/ArrayList", name := "get", desc := "(I)Ljava/lang/Object;" } : Jvm.MethodName) ({ cls := "java/util/ArrayList", name := "get", desc := "(I)Ljava/lang/Object;" } : Jvm.MethodName)), (Jvm.Cond.code ({ cls := "java/util/ArrayList", name := "get", desc := "(I)Ljava/lang/Object;" } : Jvm.MethodName) prog_21_method_20_code (2 : Nat) (Option.some (Jvm.ClassFile.FieldType.object "java/lang/Object"))), (Jvm.Cond.methodLink "java/util/ArrayList" (118 : Nat) ({ cls := "java/util/Objects", name := "checkIndex", desc := "(II)I" } : Jvm.MethodName)), (Jvm.Cond.static ({ cls := "java/util/Objects", name := "checkIndex", desc := "(II)I" } : Jvm.MethodName)), (Jvm.Cond.code ({ cls := "java/util/Objects", name := "checkIndex", desc := "(II)I" } : Jvm.MethodName) prog_25_method_17_code (2 : Nat) (Option.some Jvm.ClassFile.FieldType.int)), (Jvm.Cond.methodLink "java/util/Objects" (105 : Nat) ({ cls := "jdk/internal/util/Preconditions", name := "checkIndex", desc := "(IILjava/util/function/BiFunction;)I" } : Jvm.MethodName)), (Jvm.Cond.static ({ cls := "jdk/internal/util/Preconditions", name := "checkIndex", desc := "(IILjava/util/function/BiFunction;)I" } : Jvm.MethodName)), (Jvm.Cond.code ({ cls := "jdk/internal/util/Preconditions", name := "checkIndex", desc := "(IILjava/util/function/BiFunction;)I" } : Jvm.MethodName) prog_29_method_11_code (3 : Nat) (Option.some Jvm.ClassFile.FieldType.int)), (Jvm.Cond.methodLink "java/util/ArrayList" (123 : Nat) ({ cls := "java/util/ArrayList", name := "elementData", desc := "(I)Ljava/lang/Object;" } : Jvm.MethodName)), (Jvm.Cond.instanceMethod ({ cls := "java/util/ArrayList", name := "elementData", desc := "(I)Ljava/lang/Object;" } : Jvm.MethodName)), (Jvm.Cond.selects "java/util/ArrayList" ({ cls := "java/util/ArrayList", name := "elementData", desc := "(I)Ljava/lang/Object;" } : Jvm.MethodName) ({ cls := "java/util/ArrayList", name := "elementData", desc := "(I)Ljava/lang/Object;" } : Jvm.MethodName)), (Jvm.Cond.code ({ cls := "java/util/ArrayList", name := "elementData", desc := "(I)Ljava/lang/Object;" } : Jvm.MethodName) prog_21_method_18_code (2 : Nat) (Option.some (Jvm.ClassFile.FieldType.object "java/lang/Object"))), (Jvm.Cond.classLink "DiceForge" (92 : Nat) "DiceForge$Entry"), (Jvm.Cond.instanceMethod ({ cls := "DiceForge$Entry", name := "sumAfter", desc := "(I)I" } : Jvm.MethodName)), (Jvm.Cond.instantiable "DiceForge$Entry" (8 : Nat)), (Jvm.Cond.code ({ cls := "DiceForge$Entry", name := "sumAfter", desc := "(I)I" } : Jvm.MethodName) prog_3_method_2_code (3 : Nat) (Option.some Jvm.ClassFile.FieldType.int)), (Jvm.Cond.constant "DiceForge$Entry" (30 : Nat) (1000003 : Int32)), (Jvm.Cond.methodLink "DiceForgeLaw" (78 : Nat) ({ cls := "DiceForgeLaw", name := "promise", desc := "(LDiceForge;I[J)I" } : Jvm.MethodName)), (Jvm.Cond.static ({ cls := "DiceForgeLaw", name := "promise", desc := "(LDiceForge;I[J)I" } : Jvm.MethodName)), (Jvm.Cond.codeWith ({ cls := "DiceForgeLaw", name := "promise", desc := "(LDiceForge;I[J)I" } : Jvm.MethodName) method_3_code (4 : Nat) (Option.some Jvm.ClassFile.FieldType.int) [((0 : Nat), (9 : Nat), (12 : Nat), (13 : Nat)), ((0 : Nat), (9 : Nat), (15 : Nat), (15 : Nat))]), (Jvm.Cond.classLink "DiceForgeLaw" (13 : Nat) "java/lang/IllegalArgumentException"), (Jvm.Cond.classLink "DiceForgeLaw" (15 : Nat) "java/lang/IllegalStateException"), (Jvm.Cond.methodLink "DiceForgeLaw" (7 : Nat) ({ cls := "DiceForge", name := "promise", desc := "(I)I" } : Jvm.MethodName)), (Jvm.Cond.instanceMethod ({ cls := "DiceForge", name := "promise", desc := "(I)I" } : Jvm.MethodName)), (Jvm.Cond.selects "DiceForge" ({ cls := "DiceForge", name := "promise", desc := "(I)I" } : Jvm.MethodName) ({ cls := "DiceForge", name := "promise", desc := "(I)I" } : Jvm.MethodName)), (Jvm.Cond.code ({ cls := "DiceForge", name := "promise", desc := "(I)I" } : Jvm.MethodName) prog_1_method_2_code (2 : Nat) (Option.some Jvm.ClassFile.FieldType.int)), (Jvm.Cond.constant "DiceForge" (26 : Nat) (65536 : Int32)), (Jvm.Cond.classLink "DiceForge" (27 : Nat) "java/lang/IllegalArgumentException"), (Jvm.Cond.instantiable "java/lang/IllegalArgumentException" (6 : Nat)), (Jvm.Cond.selects "java/lang/IllegalArgumentException" ({ cls := "java/lang/Throwable", name := "fillInStackTrace", desc := "(I)Ljava/lang/Throwable;" } : Jvm.MethodName) ({ cls := "java/lang/Throwable", name := "fillInStackTrace", desc := "(I)Ljava/lang/Throwable;" } : Jvm.MethodName)), (Jvm.Cond.selects "java/lang/IllegalArgumentException" ({ cls := "java/lang/Throwable", name := "fillInStackTrace", desc := "()Ljava/lang/Throwable;" } : Jvm.MethodName) ({ cls := "java/lang/Throwable", name := "fillInStackTrace", desc := "()Ljava/lang/Throwable;" } : Jvm.MethodName)), (Jvm.Cond.lays "java/lang/IllegalArgumentException" "java/lang/Throwable" "cause" "Ljava/lang/Throwable;"), (Jvm.Cond.lays "java/lang/Throwable" "java/lang/Throwable" "cause" "Ljava/lang/Throwable;"), (Jvm.Cond.lays "java/lang/IllegalArgumentException" "java/lang/Throwable" "stackTrace" "[Ljava/lang/StackTraceElement;"), (Jvm.Cond.lays "java/lang/Throwable" "java/lang/Throwable" "stackTrace" "[Ljava/lang/StackTraceElement;"), (Jvm.Cond.lays "java/lang/IllegalArgumentException" "java/lang/Throwable" "suppressedExceptions" "Ljava/util/List;"), (Jvm.Cond.lays "java/lang/Throwable" "java/lang/Throwable" "suppressedExceptions" "Ljava/util/List;"), (Jvm.Cond.lays "java/lang/IllegalArgumentException" "java/lang/Throwable" "detailMessage" "Ljava/lang/String;"), (Jvm.Cond.lays "java/lang/Throwable" "java/lang/Throwable" "detailMessage" "Ljava/lang/String;"), (Jvm.Cond.lays "java/lang/IllegalArgumentException" "java/lang/Throwable" "backtrace" "Ljava/lang/Object;"), (Jvm.Cond.lays "java/lang/Throwable" "java/lang/Throwable" "backtrace" "Ljava/lang/Object;"), (Jvm.Cond.fieldLink "java/lang/Throwable" (198 : Nat) "java/lang/Throwable" "backtrace" "Ljava/lang/Object;"), (Jvm.Cond.superclass "java/lang/Throwable" "java/lang/Object"), (Jvm.Cond.instanceMethod ({ cls := "java/lang/Throwable", name := "<init>", desc := "()V" } : Jvm.MethodName)), (Jvm.Cond.code ({ cls := "java/lang/Throwable", name := "<init>", desc := "()V" } : Jvm.MethodName) prog_18_method_1_code (1 : Nat) (Option.none : Option Jvm.ClassFile.FieldType)), (Jvm.Cond.methodLink "java/lang/Throwable" (1 : Nat) ({ cls := "java/lang/Object", name := "<init>", desc := "()V" } : Jvm.MethodName)), (Jvm.Cond.fieldLink "java/lang/Throwable" (13 : Nat) "java/lang/Throwable" "UNASSIGNED_STACK" "[Ljava/lang/StackTraceElement;"), (Jvm.Cond.fieldLink "java/lang/Throwable" (20 : Nat) "java/lang/Throwable" "SUPPRESSED_SENTINEL" "Ljava/util/List;"), (Jvm.Cond.methodLink "java/lang/Throwable" (27 : Nat) ({ cls := "java/lang/Throwable", name := "fillInStackTrace", desc := "()Ljava/lang/Throwable;" } : Jvm.MethodName)), (Jvm.Cond.instanceMethod ({ cls := "java/lang/Throwable", name := "fillInStackTrace", desc := "()Ljava/lang/Throwable;" } : Jvm.MethodName)), (Jvm.Cond.sameMethod "java/lang/Throwable" "java/lang/Throwable" "fillInStackTrace" "()Ljava/lang/Throwable;"), (Jvm.Cond.selects "java/lang/IllegalStateException" ({ cls := "java/lang/Throwable", name := "fillInStackTrace", desc := "()Ljava/lang/Throwable;" } : Jvm.MethodName) ({ cls := "java/lang/Throwable", name := "fillInStackTrace", desc := "()Ljava/lang/Throwable;" } : Jvm.MethodName)), (Jvm.Cond.selects "java/lang/IndexOutOfBoundsException" ({ cls := "java/lang/Throwable", name := "fillInStackTrace", desc := "()Ljava/lang/Throwable;" } : Jvm.MethodName) ({ cls := "java/lang/Throwable", name := "fillInStackTrace", desc := "()Ljava/lang/Throwable;" } : Jvm.MethodName)), (Jvm.Cond.codeSync ({ cls := "java/lang/Throwable", name := "fillInStackTrace", desc := "()Ljava/lang/Throwable;" } : Jvm.MethodName) prog_18_method_18_code (1 : Nat) (Option.some (Jvm.ClassFile.FieldType.object "java/lang/Throwable"))), (Jvm.Cond.methodLink "java/lang/Throwable" (202 : Nat) ({ cls := "java/lang/Throwable", name := "fillInStackTrace", desc := "(I)Ljava/lang/Throwable;" } : Jvm.MethodName))]
def zc_W2 : List Cond := [(Jvm.Cond.instanceMethod ({ cls := "java/lang/Throwable", name := "fillInStackTrace", desc := "(I)Ljava/lang/Throwable;" } : Jvm.MethodName)), (Jvm.Cond.instantiable "java/lang/Throwable" (6 : Nat)), (Jvm.Cond.native ({ cls := "java/lang/Throwable", name := "fillInStackTrace", desc := "(I)Ljava/lang/Throwable;" } : Jvm.MethodName)), (Jvm.Cond.methodLink "DiceForge" (31 : Nat) ({ cls := "java/lang/IllegalArgumentException", name := "<init>", desc := "(Ljava/lang/String;)V" } : Jvm.MethodName)), (Jvm.Cond.instanceMethod ({ cls := "java/lang/IllegalArgumentException", name := "<init>", desc := "(Ljava/lang/String;)V" } : Jvm.MethodName)), (Jvm.Cond.code ({ cls := "java/lang/IllegalArgumentException", name := "<init>", desc := "(Ljava/lang/String;)V" } : Jvm.MethodName) prog_10_method_2_code (2 : Nat) (Option.none : Option Jvm.ClassFile.FieldType)), (Jvm.Cond.methodLink "java/lang/IllegalArgumentException" (7 : Nat) ({ cls := "java/lang/RuntimeException", name := "<init>", desc := "(Ljava/lang/String;)V" } : Jvm.MethodName)), (Jvm.Cond.instanceMethod ({ cls := "java/lang/RuntimeException", name := "<init>", desc := "(Ljava/lang/String;)V" } : Jvm.MethodName)), (Jvm.Cond.code ({ cls := "java/lang/RuntimeException", name := "<init>", desc := "(Ljava/lang/String;)V" } : Jvm.MethodName) prog_15_method_2_code (2 : Nat) (Option.none : Option Jvm.ClassFile.FieldType)), (Jvm.Cond.methodLink "java/lang/RuntimeException" (7 : Nat) ({ cls := "java/lang/Exception", name := "<init>", desc := "(Ljava/lang/String;)V" } : Jvm.MethodName)), (Jvm.Cond.instanceMethod ({ cls := "java/lang/Exception", name := "<init>", desc := "(Ljava/lang/String;)V" } : Jvm.MethodName)), (Jvm.Cond.code ({ cls := "java/lang/Exception", name := "<init>", desc := "(Ljava/lang/String;)V" } : Jvm.MethodName) prog_9_method_2_code (2 : Nat) (Option.none : Option Jvm.ClassFile.FieldType)), (Jvm.Cond.methodLink "java/lang/Exception" (7 : Nat) ({ cls := "java/lang/Throwable", name := "<init>", desc := "(Ljava/lang/String;)V" } : Jvm.MethodName)), (Jvm.Cond.instanceMethod ({ cls := "java/lang/Throwable", name := "<init>", desc := "(Ljava/lang/String;)V" } : Jvm.MethodName)), (Jvm.Cond.code ({ cls := "java/lang/Throwable", name := "<init>", desc := "(Ljava/lang/String;)V" } : Jvm.MethodName) prog_18_method_2_code (2 : Nat) (Option.none : Option Jvm.ClassFile.FieldType)), (Jvm.Cond.fieldLink "java/lang/Throwable" (198 : Nat) "java/lang/Throwable" "backtrace" "Ljava/lang/Object;"), (Jvm.Cond.fieldLink "java/lang/Throwable" (31 : Nat) "java/lang/Throwable" "detailMessage" "Ljava/lang/String;"), (Jvm.Cond.fieldLink "java/lang/Throwable" (7 : Nat) "java/lang/Throwable" "cause" "Ljava/lang/Throwable;"), (Jvm.Cond.fieldLink "java/lang/Throwable" (17 : Nat) "java/lang/Throwable" "stackTrace" "[Ljava/lang/StackTraceElement;"), (Jvm.Cond.fieldLink "java/lang/Throwable" (24 : Nat) "java/lang/Throwable" "suppressedExceptions" "Ljava/util/List;"), (Jvm.Cond.soleField "java/lang/Throwable" "backtrace"), (Jvm.Cond.soleField "java/lang/Throwable" "detailMessage"), (Jvm.Cond.soleField "java/lang/Throwable" "cause"), (Jvm.Cond.soleField "java/lang/Throwable" "stackTrace"), (Jvm.Cond.lays "java/lang/IllegalArgumentException" "java/lang/Throwable" "depth" "I"), (Jvm.Cond.soleField "java/lang/Throwable" "depth"), (Jvm.Cond.soleField "java/lang/Throwable" "suppressedExceptions"), (Jvm.Cond.superclass "java/lang/IllegalArgumentException" "java/lang/RuntimeException"), (Jvm.Cond.arrayClass Jvm.ClassFile.FieldType.byte), (Jvm.Cond.classLink "DiceForge" (38 : Nat) "java/lang/IllegalStateException"), (Jvm.Cond.instantiable "java/lang/IllegalStateException" (6 : Nat)), (Jvm.Cond.selects "java/lang/IllegalStateException" ({ cls := "java/lang/Throwable", name := "fillInStackTrace", desc := "(I)Ljava/lang/Throwable;" } : Jvm.MethodName) ({ cls := "java/lang/Throwable", name := "fillInStackTrace", desc := "(I)Ljava/lang/Throwable;" } : Jvm.MethodName)), (Jvm.Cond.lays "java/lang/IllegalStateException" "java/lang/Throwable" "cause" "Ljava/lang/Throwable;"), (Jvm.Cond.lays "java/lang/IllegalStateException" "java/lang/Throwable" "stackTrace" "[Ljava/lang/StackTraceElement;"), (Jvm.Cond.lays "java/lang/IllegalStateException" "java/lang/Throwable" "suppressedExceptions" "Ljava/util/List;"), (Jvm.Cond.lays "java/lang/IllegalStateException" "java/lang/Throwable" "detailMessage" "Ljava/lang/String;"), (Jvm.Cond.lays "java/lang/IllegalStateException" "java/lang/Throwable" "backtrace" "Ljava/lang/Object;"), (Jvm.Cond.methodLink "DiceForge" (42 : Nat) ({ cls := "java/lang/IllegalStateException", name := "<init>", desc := "(Ljava/lang/String;)V" } : Jvm.MethodName)), (Jvm.Cond.instanceMethod ({ cls := "java/lang/IllegalStateException", name := "<init>", desc := "(Ljava/lang/String;)V" } : Jvm.MethodName)), (Jvm.Cond.code ({ cls := "java/lang/IllegalStateException", name := "<init>", desc := "(Ljava/lang/String;)V" } : Jvm.MethodName) prog_11_method_2_code (2 : Nat) (Option.none : Option Jvm.ClassFile.FieldType)), (Jvm.Cond.methodLink "java/lang/IllegalStateException" (7 : Nat) ({ cls := "java/lang/RuntimeException", name := "<init>", desc := "(Ljava/lang/String;)V" } : Jvm.MethodName)), (Jvm.Cond.lays "java/lang/IllegalStateException" "java/lang/Throwable" "depth" "I"), (Jvm.Cond.superclass "java/lang/IllegalStateException" "java/lang/RuntimeException"), (Jvm.Cond.classLink "DiceForge" (43 : Nat) "DiceForge$Promise"), (Jvm.Cond.instantiable "DiceForge$Promise" (4 : Nat)), (Jvm.Cond.instanceMethod ({ cls := "DiceForge$Promise", name := "<init>", desc := "(I)V" } : Jvm.MethodName)), (Jvm.Cond.code ({ cls := "DiceForge$Promise", name := "<init>", desc := "(I)V" } : Jvm.MethodName) prog_4_method_1_code (2 : Nat) (Option.none : Option Jvm.ClassFile.FieldType)), (Jvm.Cond.methodLink "DiceForge$Promise" (1 : Nat) ({ cls := "java/lang/Object", name := "<init>", desc := "()V" } : Jvm.MethodName)), (Jvm.Cond.classLink "DiceForge$Promise" (13 : Nat) "DiceForge$Draws"), (Jvm.Cond.instantiable "DiceForge$Draws" (2 : Nat)), (Jvm.Cond.instanceMethod ({ cls := "DiceForge$Draws", name := "<init>", desc := "(I)V" } : Jvm.MethodName)), (Jvm.Cond.code ({ cls := "DiceForge$Draws", name := "<init>", desc := "(I)V" } : Jvm.MethodName) prog_2_method_1_code (2 : Nat) (Option.none : Option Jvm.ClassFile.FieldType)), (Jvm.Cond.methodLink "DiceForge$Draws" (3 : Nat) ({ cls := "java/lang/Object", name := "<init>", desc := "()V" } : Jvm.MethodName)), (Jvm.Cond.fieldLink "DiceForge$Draws" (9 : Nat) "DiceForge$Draws" "state" "I"), (Jvm.Cond.fieldLink "DiceForge$Draws" (15 : Nat) "DiceForge$Draws" "rejected" "I"), (Jvm.Cond.lays "DiceForge$Draws" "DiceForge$Draws" "state" "I"), (Jvm.Cond.soleField "DiceForge$Draws" "state"), (Jvm.Cond.lays "DiceForge$Draws" "DiceForge$Draws" "rejected" "I"), (Jvm.Cond.soleField "DiceForge$Draws" "rejected"), (Jvm.Cond.superclass "DiceForge$Draws" "java/lang/Object"), (Jvm.Cond.fieldLink "DiceForge$Promise" (7 : Nat) "DiceForge$Promise" "seed" "I"), (Jvm.Cond.fieldLink "DiceForge$Promise" (18 : Nat) "DiceForge$Promise" "draws" "LDiceForge$Draws;"), (Jvm.Cond.laysFinal "DiceForge$Promise" "DiceForge$Promise" "seed" "I"), (Jvm.Cond.soleField "DiceForge$Promise" "seed"), (Jvm.Cond.laysFinal "DiceForge$Promise" "DiceForge$Promise" "draws" "LDiceForge$Draws;"), (Jvm.Cond.soleField "DiceForge$Promise" "draws"), (Jvm.Cond.lays "DiceForge$Promise" "DiceForge$Promise" "opened" "Z"), (Jvm.Cond.soleField "DiceForge$Promise" "opened"), (Jvm.Cond.lays "DiceForge$Promise" "DiceForge$Promise" "disputed" "Z"), (Jvm.Cond.soleField "DiceForge$Promise" "disputed"), (Jvm.Cond.superclass "DiceForge$Promise" "java/lang/Object"), (Jvm.Cond.methodLink "DiceForge" (48 : Nat) ({ cls := "java/util/ArrayList", name := "add", desc := "(Ljava/lang/Object;)Z" } : Jvm.MethodName)), (Jvm.Cond.instanceMethod ({ cls := "java/util/ArrayList", name := "add", desc := "(Ljava/lang/Object;)Z" } : Jvm.MethodName)), (Jvm.Cond.selects "java/util/ArrayList" ({ cls := "java/util/ArrayList", name := "add", desc := "(Ljava/lang/Object;)Z" } : Jvm.MethodName) ({ cls := "java/util/ArrayList", name := "add", desc := "(Ljava/lang/Object;)Z" } : Jvm.MethodName)), (Jvm.Cond.code ({ cls := "java/util/ArrayList", name := "add", desc := "(Ljava/lang/Object;)Z" } : Jvm.MethodName) prog_21_method_25_code (2 : Nat) (Option.some Jvm.ClassFile.FieldType.boolean)), (Jvm.Cond.methodLink "java/util/ArrayList" (131 : Nat) ({ cls := "java/util/ArrayList", name := "add", desc := "(Ljava/lang/Object;[Ljava/lang/Object;I)V" } : Jvm.MethodName)), (Jvm.Cond.instanceMethod ({ cls := "java/util/ArrayList", name := "add", desc := "(Ljava/lang/Object;[Ljava/lang/Object;I)V" } : Jvm.MethodName)), (Jvm.Cond.code ({ cls := "java/util/ArrayList", name := "add", desc := "(Ljava/lang/Object;[Ljava/lang/Object;I)V" } : Jvm.MethodName) prog_21_method_24_code (4 : Nat) (Option.none : Option Jvm.ClassFile.FieldType)), (Jvm.Cond.methodLink "java/util/ArrayList" (129 : Nat) ({ cls := "java/util/ArrayList", name := "grow", desc := "()[Ljava/lang/Object;" } : Jvm.MethodName)), (Jvm.Cond.instanceMethod ({ cls := "java/util/ArrayList", name := "grow", desc := "()[Ljava/lang/Object;" } : Jvm.MethodName))]
def zc_W3 : List Cond := [(Jvm.Cond.code ({ cls := "java/util/ArrayList", name := "grow", desc := "()[Ljava/lang/Object;" } : Jvm.MethodName) prog_21_method_7_code (1 : Nat) (Option.some (Jvm.ClassFile.FieldType.array (Jvm.ClassFile.FieldType.object "java/lang/Object")))), (Jvm.Cond.methodLink "java/util/ArrayList" (69 : Nat) ({ cls := "java/util/ArrayList", name := "grow", desc := "(I)[Ljava/lang/Object;" } : Jvm.MethodName)), (Jvm.Cond.instanceMethod ({ cls := "java/util/ArrayList", name := "grow", desc := "(I)[Ljava/lang/Object;" } : Jvm.MethodName)), (Jvm.Cond.code ({ cls := "java/util/ArrayList", name := "grow", desc := "(I)[Ljava/lang/Object;" } : Jvm.MethodName) prog_21_method_6_code (4 : Nat) (Option.some (Jvm.ClassFile.FieldType.array (Jvm.ClassFile.FieldType.object "java/lang/Object")))), (Jvm.Cond.methodLink "java/util/ArrayList" (73 : Nat) ({ cls := "jdk/internal/util/ArraysSupport", name := "newLength", desc := "(III)I" } : Jvm.MethodName)), (Jvm.Cond.static ({ cls := "jdk/internal/util/ArraysSupport", name := "newLength", desc := "(III)I" } : Jvm.MethodName)), (Jvm.Cond.code ({ cls := "jdk/internal/util/ArraysSupport", name := "newLength", desc := "(III)I" } : Jvm.MethodName) prog_28_method_27_code (4 : Nat) (Option.some Jvm.ClassFile.FieldType.int)), (Jvm.Cond.methodLink "jdk/internal/util/ArraysSupport" (194 : Nat) ({ cls := "java/lang/Math", name := "max", desc := "(II)I" } : Jvm.MethodName)), (Jvm.Cond.static ({ cls := "java/lang/Math", name := "max", desc := "(II)I" } : Jvm.MethodName)), (Jvm.Cond.code ({ cls := "java/lang/Math", name := "max", desc := "(II)I" } : Jvm.MethodName) prog_14_method_65_code (2 : Nat) (Option.some Jvm.ClassFile.FieldType.int)), (Jvm.Cond.constant "jdk/internal/util/ArraysSupport" (200 : Nat) (2147483639 : Int32)), (Jvm.Cond.methodLink "jdk/internal/util/ArraysSupport" (201 : Nat) ({ cls := "jdk/internal/util/ArraysSupport", name := "hugeLength", desc := "(II)I" } : Jvm.MethodName)), (Jvm.Cond.static ({ cls := "jdk/internal/util/ArraysSupport", name := "hugeLength", desc := "(II)I" } : Jvm.MethodName)), (Jvm.Cond.code ({ cls := "jdk/internal/util/ArraysSupport", name := "hugeLength", desc := "(II)I" } : Jvm.MethodName) prog_28_method_28_code (3 : Nat) (Option.some Jvm.ClassFile.FieldType.int)), (Jvm.Cond.methodLink "java/util/ArrayList" (66 : Nat) ({ cls := "java/util/Arrays", name := "copyOf", desc := "([Ljava/lang/Object;I)[Ljava/lang/Object;" } : Jvm.MethodName)), (Jvm.Cond.static ({ cls := "java/util/Arrays", name := "copyOf", desc := "([Ljava/lang/Object;I)[Ljava/lang/Object;" } : Jvm.MethodName)), (Jvm.Cond.code ({ cls := "java/util/Arrays", name := "copyOf", desc := "([Ljava/lang/Object;I)[Ljava/lang/Object;" } : Jvm.MethodName) prog_22_method_119_code (2 : Nat) (Option.some (Jvm.ClassFile.FieldType.array (Jvm.ClassFile.FieldType.object "java/lang/Object")))), (Jvm.Cond.methodLink "java/util/Arrays" (86 : Nat) ({ cls := "java/lang/Object", name := "getClass", desc := "()Ljava/lang/Class;" } : Jvm.MethodName)), (Jvm.Cond.instanceMethod ({ cls := "java/lang/Object", name := "getClass", desc := "()Ljava/lang/Class;" } : Jvm.MethodName)), (Jvm.Cond.sameMethod "java/lang/Object" "java/lang/Object" "getClass" "()Ljava/lang/Class;"), (Jvm.Cond.selects "DiceForge" ({ cls := "java/lang/Object", name := "getClass", desc := "()Ljava/lang/Class;" } : Jvm.MethodName) ({ cls := "java/lang/Object", name := "getClass", desc := "()Ljava/lang/Class;" } : Jvm.MethodName)), (Jvm.Cond.selects "DiceForge$Draws" ({ cls := "java/lang/Object", name := "getClass", desc := "()Ljava/lang/Class;" } : Jvm.MethodName) ({ cls := "java/lang/Object", name := "getClass", desc := "()Ljava/lang/Class;" } : Jvm.MethodName)), (Jvm.Cond.selects "DiceForge$Entry" ({ cls := "java/lang/Object", name := "getClass", desc := "()Ljava/lang/Class;" } : Jvm.MethodName) ({ cls := "java/lang/Object", name := "getClass", desc := "()Ljava/lang/Class;" } : Jvm.MethodName)), (Jvm.Cond.selects "DiceForge$Promise" ({ cls := "java/lang/Object", name := "getClass", desc := "()Ljava/lang/Class;" } : Jvm.MethodName) ({ cls := "java/lang/Object", name := "getClass", desc := "()Ljava/lang/Class;" } : Jvm.MethodName)), (Jvm.Cond.selects "DiceForgeModel" ({ cls := "java/lang/Object", name := "getClass", desc := "()Ljava/lang/Class;" } : Jvm.MethodName) ({ cls := "java/lang/Object", name := "getClass", desc := "()Ljava/lang/Class;" } : Jvm.MethodName)), (Jvm.Cond.selects "java/lang/IllegalArgumentException" ({ cls := "java/lang/Object", name := "getClass", desc := "()Ljava/lang/Class;" } : Jvm.MethodName) ({ cls := "java/lang/Object", name := "getClass", desc := "()Ljava/lang/Class;" } : Jvm.MethodName)), (Jvm.Cond.selects "java/lang/IllegalStateException" ({ cls := "java/lang/Object", name := "getClass", desc := "()Ljava/lang/Class;" } : Jvm.MethodName) ({ cls := "java/lang/Object", name := "getClass", desc := "()Ljava/lang/Class;" } : Jvm.MethodName)), (Jvm.Cond.selects "java/lang/IndexOutOfBoundsException" ({ cls := "java/lang/Object", name := "getClass", desc := "()Ljava/lang/Class;" } : Jvm.MethodName) ({ cls := "java/lang/Object", name := "getClass", desc := "()Ljava/lang/Class;" } : Jvm.MethodName)), (Jvm.Cond.selects "java/util/ArrayList" ({ cls := "java/lang/Object", name := "getClass", desc := "()Ljava/lang/Class;" } : Jvm.MethodName) ({ cls := "java/lang/Object", name := "getClass", desc := "()Ljava/lang/Class;" } : Jvm.MethodName)), (Jvm.Cond.native ({ cls := "java/lang/Object", name := "getClass", desc := "()Ljava/lang/Class;" } : Jvm.MethodName)), (Jvm.Cond.methodLink "java/util/Arrays" (300 : Nat) ({ cls := "java/util/Arrays", name := "copyOf", desc := "([Ljava/lang/Object;ILjava/lang/Class;)[Ljava/lang/Object;" } : Jvm.MethodName)), (Jvm.Cond.static ({ cls := "java/util/Arrays", name := "copyOf", desc := "([Ljava/lang/Object;ILjava/lang/Class;)[Ljava/lang/Object;" } : Jvm.MethodName)), (Jvm.Cond.code ({ cls := "java/util/Arrays", name := "copyOf", desc := "([Ljava/lang/Object;ILjava/lang/Class;)[Ljava/lang/Object;" } : Jvm.MethodName) prog_22_method_120_code (4 : Nat) (Option.some (Jvm.ClassFile.FieldType.array (Jvm.ClassFile.FieldType.object "java/lang/Object")))), (Jvm.Cond.classLink "java/util/Arrays" (110 : Nat) "[Ljava/lang/Object;"), (Jvm.Cond.classLink "java/util/Arrays" (2 : Nat) "java/lang/Object"), (Jvm.Cond.methodLink "java/util/Arrays" (304 : Nat) ({ cls := "java/lang/Math", name := "min", desc := "(II)I" } : Jvm.MethodName)), (Jvm.Cond.static ({ cls := "java/lang/Math", name := "min", desc := "(II)I" } : Jvm.MethodName)), (Jvm.Cond.code ({ cls := "java/lang/Math", name := "min", desc := "(II)I" } : Jvm.MethodName) prog_14_method_69_code (2 : Nat) (Option.some Jvm.ClassFile.FieldType.int)), (Jvm.Cond.methodLink "java/util/Arrays" (150 : Nat) ({ cls := "java/lang/System", name := "arraycopy", desc := "(Ljava/lang/Object;ILjava/lang/Object;II)V" } : Jvm.MethodName)), (Jvm.Cond.static ({ cls := "java/lang/System", name := "arraycopy", desc := "(Ljava/lang/Object;ILjava/lang/Object;II)V" } : Jvm.MethodName)), (Jvm.Cond.native ({ cls := "java/lang/System", name := "arraycopy", desc := "(Ljava/lang/Object;ILjava/lang/Object;II)V" } : Jvm.MethodName)), (Jvm.Cond.methodLink "java/util/ArrayList" (79 : Nat) ({ cls := "java/lang/Math", name := "max", desc := "(II)I" } : Jvm.MethodName)), (Jvm.Cond.classLink "java/util/ArrayList" (7 : Nat) "java/lang/Object"), (Jvm.Cond.methodLink "DiceForgeLaw" (88 : Nat) ({ cls := "DiceForgeLaw", name := "sign", desc := "(LDiceForge;I[J)I" } : Jvm.MethodName)), (Jvm.Cond.static ({ cls := "DiceForgeLaw", name := "sign", desc := "(LDiceForge;I[J)I" } : Jvm.MethodName)), (Jvm.Cond.codeWith ({ cls := "DiceForgeLaw", name := "sign", desc := "(LDiceForge;I[J)I" } : Jvm.MethodName) method_4_code (4 : Nat) (Option.some Jvm.ClassFile.FieldType.int) [((0 : Nat), (9 : Nat), (12 : Nat), (20 : Nat))]), (Jvm.Cond.classLink "DiceForgeLaw" (20 : Nat) "java/lang/IndexOutOfBoundsException"), (Jvm.Cond.methodLink "DiceForgeLaw" (17 : Nat) ({ cls := "DiceForge", name := "sign", desc := "(I)I" } : Jvm.MethodName)), (Jvm.Cond.instanceMethod ({ cls := "DiceForge", name := "sign", desc := "(I)I" } : Jvm.MethodName)), (Jvm.Cond.selects "DiceForge" ({ cls := "DiceForge", name := "sign", desc := "(I)I" } : Jvm.MethodName) ({ cls := "DiceForge", name := "sign", desc := "(I)I" } : Jvm.MethodName)), (Jvm.Cond.code ({ cls := "DiceForge", name := "sign", desc := "(I)I" } : Jvm.MethodName) prog_1_method_3_code (4 : Nat) (Option.some Jvm.ClassFile.FieldType.int)), (Jvm.Cond.methodLink "DiceForge" (52 : Nat) ({ cls := "DiceForge", name := "promiseAt", desc := "(I)LDiceForge$Promise;" } : Jvm.MethodName)), (Jvm.Cond.instanceMethod ({ cls := "DiceForge", name := "promiseAt", desc := "(I)LDiceForge$Promise;" } : Jvm.MethodName)), (Jvm.Cond.code ({ cls := "DiceForge", name := "promiseAt", desc := "(I)LDiceForge$Promise;" } : Jvm.MethodName) prog_1_method_22_code (2 : Nat) (Option.some (Jvm.ClassFile.FieldType.object "DiceForge$Promise"))), (Jvm.Cond.classLink "DiceForge" (173 : Nat) "java/lang/IndexOutOfBoundsException"), (Jvm.Cond.instantiable "java/lang/IndexOutOfBoundsException" (6 : Nat)), (Jvm.Cond.selects "java/lang/IndexOutOfBoundsException" ({ cls := "java/lang/Throwable", name := "fillInStackTrace", desc := "(I)Ljava/lang/Throwable;" } : Jvm.MethodName) ({ cls := "java/lang/Throwable", name := "fillInStackTrace", desc := "(I)Ljava/lang/Throwable;" } : Jvm.MethodName)), (Jvm.Cond.lays "java/lang/IndexOutOfBoundsException" "java/lang/Throwable" "cause" "Ljava/lang/Throwable;"), (Jvm.Cond.lays "java/lang/IndexOutOfBoundsException" "java/lang/Throwable" "stackTrace" "[Ljava/lang/StackTraceElement;"), (Jvm.Cond.lays "java/lang/IndexOutOfBoundsException" "java/lang/Throwable" "suppressedExceptions" "Ljava/util/List;"), (Jvm.Cond.lays "java/lang/IndexOutOfBoundsException" "java/lang/Throwable" "detailMessage" "Ljava/lang/String;"), (Jvm.Cond.lays "java/lang/IndexOutOfBoundsException" "java/lang/Throwable" "backtrace" "Ljava/lang/Object;"), (Jvm.Cond.methodLink "DiceForge" (177 : Nat) ({ cls := "java/lang/IndexOutOfBoundsException", name := "<init>", desc := "(Ljava/lang/String;)V" } : Jvm.MethodName)), (Jvm.Cond.instanceMethod ({ cls := "java/lang/IndexOutOfBoundsException", name := "<init>", desc := "(Ljava/lang/String;)V" } : Jvm.MethodName)), (Jvm.Cond.code ({ cls := "java/lang/IndexOutOfBoundsException", name := "<init>", desc := "(Ljava/lang/String;)V" } : Jvm.MethodName) prog_12_method_2_code (2 : Nat) (Option.none : Option Jvm.ClassFile.FieldType)), (Jvm.Cond.methodLink "java/lang/IndexOutOfBoundsException" (7 : Nat) ({ cls := "java/lang/RuntimeException", name := "<init>", desc := "(Ljava/lang/String;)V" } : Jvm.MethodName)), (Jvm.Cond.lays "java/lang/IndexOutOfBoundsException" "java/lang/Throwable" "depth" "I"), (Jvm.Cond.superclass "java/lang/IndexOutOfBoundsException" "java/lang/RuntimeException"), (Jvm.Cond.constantLong "DiceForge" (60 : Nat) (31 : Int64)), (Jvm.Cond.constantLong "DiceForge" (62 : Nat) (7 : Int64)), (Jvm.Cond.constantLong "DiceForge" (64 : Nat) (10007 : Int64)), (Jvm.Cond.methodLink "DiceForgeLaw" (91 : Nat) ({ cls := "DiceForgeLaw", name := "seedsOf", desc := "(LDiceForge;I[J)I" } : Jvm.MethodName)), (Jvm.Cond.static ({ cls := "DiceForgeLaw", name := "seedsOf", desc := "(LDiceForge;I[J)I" } : Jvm.MethodName)), (Jvm.Cond.codeWith ({ cls := "DiceForgeLaw", name := "seedsOf", desc := "(LDiceForge;I[J)I" } : Jvm.MethodName) method_5_code (4 : Nat) (Option.some Jvm.ClassFile.FieldType.int) [((0 : Nat), (9 : Nat), (12 : Nat), (20 : Nat))]), (Jvm.Cond.methodLink "DiceForgeLaw" (22 : Nat) ({ cls := "DiceForge", name := "seedsOf", desc := "(I)I" } : Jvm.MethodName)), (Jvm.Cond.instanceMethod ({ cls := "DiceForge", name := "seedsOf", desc := "(I)I" } : Jvm.MethodName)), (Jvm.Cond.selects "DiceForge" ({ cls := "DiceForge", name := "seedsOf", desc := "(I)I" } : Jvm.MethodName) ({ cls := "DiceForge", name := "seedsOf", desc := "(I)I" } : Jvm.MethodName)), (Jvm.Cond.code ({ cls := "DiceForge", name := "seedsOf", desc := "(I)I" } : Jvm.MethodName) prog_1_method_4_code (6 : Nat) (Option.some Jvm.ClassFile.FieldType.int)), (Jvm.Cond.methodLink "DiceForge" (66 : Nat) ({ cls := "java/lang/Math", name := "floorMod", desc := "(II)I" } : Jvm.MethodName)), (Jvm.Cond.static ({ cls := "java/lang/Math", name := "floorMod", desc := "(II)I" } : Jvm.MethodName))]
def zc_W4 : List Cond := [(Jvm.Cond.code ({ cls := "java/lang/Math", name := "floorMod", desc := "(II)I" } : Jvm.MethodName) prog_14_method_50_code (3 : Nat) (Option.some Jvm.ClassFile.FieldType.int)), (Jvm.Cond.methodLink "DiceForge" (72 : Nat) ({ cls := "DiceForge", name := "seedsWithRemainder", desc := "(I)I" } : Jvm.MethodName)), (Jvm.Cond.static ({ cls := "DiceForge", name := "seedsWithRemainder", desc := "(I)I" } : Jvm.MethodName)), (Jvm.Cond.code ({ cls := "DiceForge", name := "seedsWithRemainder", desc := "(I)I" } : Jvm.MethodName) prog_1_method_28_code (1 : Nat) (Option.some Jvm.ClassFile.FieldType.int)), (Jvm.Cond.constant "DiceForge" (188 : Nat) (65535 : Int32)), (Jvm.Cond.methodLink "DiceForgeLaw" (94 : Nat) ({ cls := "DiceForgeLaw", name := "open", desc := "(LDiceForge;I[J)I" } : Jvm.MethodName)), (Jvm.Cond.static ({ cls := "DiceForgeLaw", name := "open", desc := "(LDiceForge;I[J)I" } : Jvm.MethodName)), (Jvm.Cond.codeWith ({ cls := "DiceForgeLaw", name := "open", desc := "(LDiceForge;I[J)I" } : Jvm.MethodName) method_6_code (4 : Nat) (Option.some Jvm.ClassFile.FieldType.int) [((0 : Nat), (9 : Nat), (12 : Nat), (20 : Nat)), ((0 : Nat), (9 : Nat), (15 : Nat), (15 : Nat))]), (Jvm.Cond.methodLink "DiceForgeLaw" (25 : Nat) ({ cls := "DiceForge", name := "open", desc := "(I)I" } : Jvm.MethodName)), (Jvm.Cond.instanceMethod ({ cls := "DiceForge", name := "open", desc := "(I)I" } : Jvm.MethodName)), (Jvm.Cond.selects "DiceForge" ({ cls := "DiceForge", name := "open", desc := "(I)I" } : Jvm.MethodName) ({ cls := "DiceForge", name := "open", desc := "(I)I" } : Jvm.MethodName)), (Jvm.Cond.code ({ cls := "DiceForge", name := "open", desc := "(I)I" } : Jvm.MethodName) prog_1_method_5_code (3 : Nat) (Option.some Jvm.ClassFile.FieldType.int)), (Jvm.Cond.methodLink "DiceForgeLaw" (97 : Nat) ({ cls := "DiceForgeLaw", name := "isOpened", desc := "(LDiceForge;I[J)I" } : Jvm.MethodName)), (Jvm.Cond.static ({ cls := "DiceForgeLaw", name := "isOpened", desc := "(LDiceForge;I[J)I" } : Jvm.MethodName)), (Jvm.Cond.codeWith ({ cls := "DiceForgeLaw", name := "isOpened", desc := "(LDiceForge;I[J)I" } : Jvm.MethodName) method_7_code (4 : Nat) (Option.some Jvm.ClassFile.FieldType.int) [((0 : Nat), (16 : Nat), (19 : Nat), (20 : Nat))]), (Jvm.Cond.methodLink "DiceForgeLaw" (28 : Nat) ({ cls := "DiceForge", name := "isOpened", desc := "(I)Z" } : Jvm.MethodName)), (Jvm.Cond.instanceMethod ({ cls := "DiceForge", name := "isOpened", desc := "(I)Z" } : Jvm.MethodName)), (Jvm.Cond.selects "DiceForge" ({ cls := "DiceForge", name := "isOpened", desc := "(I)Z" } : Jvm.MethodName) ({ cls := "DiceForge", name := "isOpened", desc := "(I)Z" } : Jvm.MethodName)), (Jvm.Cond.code ({ cls := "DiceForge", name := "isOpened", desc := "(I)Z" } : Jvm.MethodName) prog_1_method_6_code (2 : Nat) (Option.some Jvm.ClassFile.FieldType.boolean)), (Jvm.Cond.methodLink "DiceForgeLaw" (100 : Nat) ({ cls := "DiceForgeLaw", name := "setPart", desc := "(LDiceForge;II[J)I" } : Jvm.MethodName)), (Jvm.Cond.static ({ cls := "DiceForgeLaw", name := "setPart", desc := "(LDiceForge;II[J)I" } : Jvm.MethodName)), (Jvm.Cond.codeWith ({ cls := "DiceForgeLaw", name := "setPart", desc := "(LDiceForge;II[J)I" } : Jvm.MethodName) method_8_code (5 : Nat) (Option.some Jvm.ClassFile.FieldType.int) [((0 : Nat), (10 : Nat), (13 : Nat), (20 : Nat)), ((0 : Nat), (10 : Nat), (17 : Nat), (13 : Nat))]), (Jvm.Cond.methodLink "DiceForgeLaw" (32 : Nat) ({ cls := "DiceForge", name := "setPart", desc := "(II)I" } : Jvm.MethodName)), (Jvm.Cond.instanceMethod ({ cls := "DiceForge", name := "setPart", desc := "(II)I" } : Jvm.MethodName)), (Jvm.Cond.selects "DiceForge" ({ cls := "DiceForge", name := "setPart", desc := "(II)I" } : Jvm.MethodName) ({ cls := "DiceForge", name := "setPart", desc := "(II)I" } : Jvm.MethodName)), (Jvm.Cond.code ({ cls := "DiceForge", name := "setPart", desc := "(II)I" } : Jvm.MethodName) prog_1_method_7_code (4 : Nat) (Option.some Jvm.ClassFile.FieldType.int)), (Jvm.Cond.methodLink "DiceForge" (82 : Nat) ({ cls := "DiceForge", name := "requireTable", desc := "(I)V" } : Jvm.MethodName)), (Jvm.Cond.static ({ cls := "DiceForge", name := "requireTable", desc := "(I)V" } : Jvm.MethodName)), (Jvm.Cond.code ({ cls := "DiceForge", name := "requireTable", desc := "(I)V" } : Jvm.MethodName) prog_1_method_25_code (1 : Nat) (Option.none : Option Jvm.ClassFile.FieldType)), (Jvm.Cond.methodLink "DiceForgeLaw" (104 : Nat) ({ cls := "DiceForgeLaw", name := "roll", desc := "(LDiceForge;III[J)I" } : Jvm.MethodName)), (Jvm.Cond.static ({ cls := "DiceForgeLaw", name := "roll", desc := "(LDiceForge;III[J)I" } : Jvm.MethodName)), (Jvm.Cond.codeWith ({ cls := "DiceForgeLaw", name := "roll", desc := "(LDiceForge;III[J)I" } : Jvm.MethodName) method_9_code (6 : Nat) (Option.some Jvm.ClassFile.FieldType.int) [((0 : Nat), (12 : Nat), (15 : Nat), (20 : Nat)), ((0 : Nat), (12 : Nat), (19 : Nat), (13 : Nat)), ((0 : Nat), (12 : Nat), (23 : Nat), (15 : Nat))]), (Jvm.Cond.methodLink "DiceForgeLaw" (36 : Nat) ({ cls := "DiceForge", name := "roll", desc := "(III)I" } : Jvm.MethodName)), (Jvm.Cond.instanceMethod ({ cls := "DiceForge", name := "roll", desc := "(III)I" } : Jvm.MethodName)), (Jvm.Cond.selects "DiceForge" ({ cls := "DiceForge", name := "roll", desc := "(III)I" } : Jvm.MethodName) ({ cls := "DiceForge", name := "roll", desc := "(III)I" } : Jvm.MethodName)), (Jvm.Cond.code ({ cls := "DiceForge", name := "roll", desc := "(III)I" } : Jvm.MethodName) prog_1_method_8_code (6 : Nat) (Option.some Jvm.ClassFile.FieldType.int)), (Jvm.Cond.methodLink "DiceForge" (87 : Nat) ({ cls := "DiceForge", name := "requireFaces", desc := "(I)V" } : Jvm.MethodName)), (Jvm.Cond.static ({ cls := "DiceForge", name := "requireFaces", desc := "(I)V" } : Jvm.MethodName)), (Jvm.Cond.code ({ cls := "DiceForge", name := "requireFaces", desc := "(I)V" } : Jvm.MethodName) prog_1_method_26_code (1 : Nat) (Option.none : Option Jvm.ClassFile.FieldType)), (Jvm.Cond.instanceMethod ({ cls := "DiceForge$Entry", name := "<init>", desc := "(IIII)V" } : Jvm.MethodName)), (Jvm.Cond.code ({ cls := "DiceForge$Entry", name := "<init>", desc := "(IIII)V" } : Jvm.MethodName) prog_3_method_1_code (5 : Nat) (Option.none : Option Jvm.ClassFile.FieldType)), (Jvm.Cond.methodLink "DiceForge$Entry" (3 : Nat) ({ cls := "java/lang/Object", name := "<init>", desc := "()V" } : Jvm.MethodName)), (Jvm.Cond.fieldLink "DiceForge$Entry" (9 : Nat) "DiceForge$Entry" "promise" "I"), (Jvm.Cond.fieldLink "DiceForge$Entry" (15 : Nat) "DiceForge$Entry" "table" "I"), (Jvm.Cond.fieldLink "DiceForge$Entry" (18 : Nat) "DiceForge$Entry" "part" "I"), (Jvm.Cond.fieldLink "DiceForge$Entry" (21 : Nat) "DiceForge$Entry" "faces" "I"), (Jvm.Cond.fieldLink "DiceForge$Entry" (24 : Nat) "DiceForge$Entry" "value" "I"), (Jvm.Cond.fieldLink "DiceForge$Entry" (27 : Nat) "DiceForge$Entry" "rejected" "I"), (Jvm.Cond.fieldLink "DiceForge$Entry" (31 : Nat) "DiceForge$Entry" "struck" "Z"), (Jvm.Cond.laysFinal "DiceForge$Entry" "DiceForge$Entry" "promise" "I"), (Jvm.Cond.soleField "DiceForge$Entry" "promise"), (Jvm.Cond.laysFinal "DiceForge$Entry" "DiceForge$Entry" "table" "I"), (Jvm.Cond.soleField "DiceForge$Entry" "table"), (Jvm.Cond.laysFinal "DiceForge$Entry" "DiceForge$Entry" "part" "I"), (Jvm.Cond.soleField "DiceForge$Entry" "part"), (Jvm.Cond.laysFinal "DiceForge$Entry" "DiceForge$Entry" "faces" "I"), (Jvm.Cond.soleField "DiceForge$Entry" "faces"), (Jvm.Cond.lays "DiceForge$Entry" "DiceForge$Entry" "value" "I"), (Jvm.Cond.soleField "DiceForge$Entry" "value"), (Jvm.Cond.lays "DiceForge$Entry" "DiceForge$Entry" "rejected" "I"), (Jvm.Cond.soleField "DiceForge$Entry" "rejected"), (Jvm.Cond.lays "DiceForge$Entry" "DiceForge$Entry" "sum" "I"), (Jvm.Cond.soleField "DiceForge$Entry" "sum"), (Jvm.Cond.lays "DiceForge$Entry" "DiceForge$Entry" "struck" "Z"), (Jvm.Cond.soleField "DiceForge$Entry" "struck"), (Jvm.Cond.superclass "DiceForge$Entry" "java/lang/Object"), (Jvm.Cond.instanceMethod ({ cls := "DiceForge$Draws", name := "nextValue", desc := "(II)I" } : Jvm.MethodName)), (Jvm.Cond.code ({ cls := "DiceForge$Draws", name := "nextValue", desc := "(II)I" } : Jvm.MethodName) prog_2_method_2_code (4 : Nat) (Option.some Jvm.ClassFile.FieldType.int)), (Jvm.Cond.constant "DiceForge$Draws" (18 : Nat) (65536 : Int32)), (Jvm.Cond.methodLink "DiceForge$Draws" (19 : Nat) ({ cls := "DiceForge$Draws", name := "draw", desc := "(I)V" } : Jvm.MethodName)), (Jvm.Cond.instanceMethod ({ cls := "DiceForge$Draws", name := "draw", desc := "(I)V" } : Jvm.MethodName)), (Jvm.Cond.code ({ cls := "DiceForge$Draws", name := "draw", desc := "(I)V" } : Jvm.MethodName) prog_2_method_3_code (2 : Nat) (Option.none : Option Jvm.ClassFile.FieldType)), (Jvm.Cond.methodLink "DiceForge" (116 : Nat) ({ cls := "DiceForge", name := "lastSum", desc := "()I" } : Jvm.MethodName)), (Jvm.Cond.instanceMethod ({ cls := "DiceForge", name := "lastSum", desc := "()I" } : Jvm.MethodName)), (Jvm.Cond.code ({ cls := "DiceForge", name := "lastSum", desc := "()I" } : Jvm.MethodName) prog_1_method_29_code (1 : Nat) (Option.some Jvm.ClassFile.FieldType.int)), (Jvm.Cond.methodLink "DiceForge" (189 : Nat) ({ cls := "java/util/ArrayList", name := "isEmpty", desc := "()Z" } : Jvm.MethodName)), (Jvm.Cond.instanceMethod ({ cls := "java/util/ArrayList", name := "isEmpty", desc := "()Z" } : Jvm.MethodName)), (Jvm.Cond.selects "java/util/ArrayList" ({ cls := "java/util/ArrayList", name := "isEmpty", desc := "()Z" } : Jvm.MethodName) ({ cls := "java/util/ArrayList", name := "isEmpty", desc := "()Z" } : Jvm.MethodName)), (Jvm.Cond.code ({ cls := "java/util/ArrayList", name := "isEmpty", desc := "()Z" } : Jvm.MethodName) prog_21_method_9_code (1 : Nat) (Option.some Jvm.ClassFile.FieldType.boolean)), (Jvm.Cond.methodLink "DiceForgeLaw" (112 : Nat) ({ cls := "DiceForgeLaw", name := "value", desc := "(LDiceForge;I[J)I" } : Jvm.MethodName))]
def zc_W5 : List Cond := [(Jvm.Cond.static ({ cls := "DiceForgeLaw", name := "value", desc := "(LDiceForge;I[J)I" } : Jvm.MethodName)), (Jvm.Cond.codeWith ({ cls := "DiceForgeLaw", name := "value", desc := "(LDiceForge;I[J)I" } : Jvm.MethodName) method_10_code (4 : Nat) (Option.some Jvm.ClassFile.FieldType.int) [((0 : Nat), (9 : Nat), (12 : Nat), (20 : Nat))]), (Jvm.Cond.methodLink "DiceForgeLaw" (40 : Nat) ({ cls := "DiceForge", name := "value", desc := "(I)I" } : Jvm.MethodName)), (Jvm.Cond.instanceMethod ({ cls := "DiceForge", name := "value", desc := "(I)I" } : Jvm.MethodName)), (Jvm.Cond.selects "DiceForge" ({ cls := "DiceForge", name := "value", desc := "(I)I" } : Jvm.MethodName) ({ cls := "DiceForge", name := "value", desc := "(I)I" } : Jvm.MethodName)), (Jvm.Cond.code ({ cls := "DiceForge", name := "value", desc := "(I)I" } : Jvm.MethodName) prog_1_method_10_code (2 : Nat) (Option.some Jvm.ClassFile.FieldType.int)), (Jvm.Cond.methodLink "DiceForge" (125 : Nat) ({ cls := "DiceForge", name := "entryAt", desc := "(I)LDiceForge$Entry;" } : Jvm.MethodName)), (Jvm.Cond.instanceMethod ({ cls := "DiceForge", name := "entryAt", desc := "(I)LDiceForge$Entry;" } : Jvm.MethodName)), (Jvm.Cond.code ({ cls := "DiceForge", name := "entryAt", desc := "(I)LDiceForge$Entry;" } : Jvm.MethodName) prog_1_method_24_code (2 : Nat) (Option.some (Jvm.ClassFile.FieldType.object "DiceForge$Entry"))), (Jvm.Cond.methodLink "DiceForgeLaw" (115 : Nat) ({ cls := "DiceForgeLaw", name := "rejected", desc := "(LDiceForge;I[J)I" } : Jvm.MethodName)), (Jvm.Cond.static ({ cls := "DiceForgeLaw", name := "rejected", desc := "(LDiceForge;I[J)I" } : Jvm.MethodName)), (Jvm.Cond.codeWith ({ cls := "DiceForgeLaw", name := "rejected", desc := "(LDiceForge;I[J)I" } : Jvm.MethodName) method_11_code (4 : Nat) (Option.some Jvm.ClassFile.FieldType.int) [((0 : Nat), (9 : Nat), (12 : Nat), (20 : Nat))]), (Jvm.Cond.methodLink "DiceForgeLaw" (43 : Nat) ({ cls := "DiceForge", name := "rejected", desc := "(I)I" } : Jvm.MethodName)), (Jvm.Cond.instanceMethod ({ cls := "DiceForge", name := "rejected", desc := "(I)I" } : Jvm.MethodName)), (Jvm.Cond.selects "DiceForge" ({ cls := "DiceForge", name := "rejected", desc := "(I)I" } : Jvm.MethodName) ({ cls := "DiceForge", name := "rejected", desc := "(I)I" } : Jvm.MethodName)), (Jvm.Cond.code ({ cls := "DiceForge", name := "rejected", desc := "(I)I" } : Jvm.MethodName) prog_1_method_11_code (2 : Nat) (Option.some Jvm.ClassFile.FieldType.int)), (Jvm.Cond.methodLink "DiceForgeLaw" (118 : Nat) ({ cls := "DiceForgeLaw", name := "sum", desc := "(LDiceForge;I[J)I" } : Jvm.MethodName)), (Jvm.Cond.static ({ cls := "DiceForgeLaw", name := "sum", desc := "(LDiceForge;I[J)I" } : Jvm.MethodName)), (Jvm.Cond.codeWith ({ cls := "DiceForgeLaw", name := "sum", desc := "(LDiceForge;I[J)I" } : Jvm.MethodName) method_12_code (4 : Nat) (Option.some Jvm.ClassFile.FieldType.int) [((0 : Nat), (9 : Nat), (12 : Nat), (20 : Nat))]), (Jvm.Cond.methodLink "DiceForgeLaw" (46 : Nat) ({ cls := "DiceForge", name := "sum", desc := "(I)I" } : Jvm.MethodName)), (Jvm.Cond.instanceMethod ({ cls := "DiceForge", name := "sum", desc := "(I)I" } : Jvm.MethodName)), (Jvm.Cond.selects "DiceForge" ({ cls := "DiceForge", name := "sum", desc := "(I)I" } : Jvm.MethodName) ({ cls := "DiceForge", name := "sum", desc := "(I)I" } : Jvm.MethodName)), (Jvm.Cond.code ({ cls := "DiceForge", name := "sum", desc := "(I)I" } : Jvm.MethodName) prog_1_method_12_code (2 : Nat) (Option.some Jvm.ClassFile.FieldType.int)), (Jvm.Cond.methodLink "DiceForgeLaw" (121 : Nat) ({ cls := "DiceForgeLaw", name := "alter", desc := "(LDiceForge;II[J)I" } : Jvm.MethodName)), (Jvm.Cond.static ({ cls := "DiceForgeLaw", name := "alter", desc := "(LDiceForge;II[J)I" } : Jvm.MethodName)), (Jvm.Cond.codeWith ({ cls := "DiceForgeLaw", name := "alter", desc := "(LDiceForge;II[J)I" } : Jvm.MethodName) method_13_code (5 : Nat) (Option.some Jvm.ClassFile.FieldType.int) [((0 : Nat), (10 : Nat), (13 : Nat), (20 : Nat)), ((0 : Nat), (10 : Nat), (17 : Nat), (13 : Nat)), ((0 : Nat), (10 : Nat), (21 : Nat), (15 : Nat))]), (Jvm.Cond.methodLink "DiceForgeLaw" (49 : Nat) ({ cls := "DiceForge", name := "alter", desc := "(II)I" } : Jvm.MethodName)), (Jvm.Cond.instanceMethod ({ cls := "DiceForge", name := "alter", desc := "(II)I" } : Jvm.MethodName)), (Jvm.Cond.selects "DiceForge" ({ cls := "DiceForge", name := "alter", desc := "(II)I" } : Jvm.MethodName) ({ cls := "DiceForge", name := "alter", desc := "(II)I" } : Jvm.MethodName)), (Jvm.Cond.code ({ cls := "DiceForge", name := "alter", desc := "(II)I" } : Jvm.MethodName) prog_1_method_13_code (5 : Nat) (Option.some Jvm.ClassFile.FieldType.int)), (Jvm.Cond.methodLink "DiceForge" (132 : Nat) ({ cls := "DiceForge", name := "requireValue", desc := "(II)V" } : Jvm.MethodName)), (Jvm.Cond.static ({ cls := "DiceForge", name := "requireValue", desc := "(II)V" } : Jvm.MethodName)), (Jvm.Cond.code ({ cls := "DiceForge", name := "requireValue", desc := "(II)V" } : Jvm.MethodName) prog_1_method_27_code (2 : Nat) (Option.none : Option Jvm.ClassFile.FieldType)), (Jvm.Cond.methodLink "DiceForgeLaw" (128 : Nat) ({ cls := "DiceForgeLaw", name := "found", desc := "(LDiceForge;I[J)I" } : Jvm.MethodName)), (Jvm.Cond.static ({ cls := "DiceForgeLaw", name := "found", desc := "(LDiceForge;I[J)I" } : Jvm.MethodName)), (Jvm.Cond.codeWith ({ cls := "DiceForgeLaw", name := "found", desc := "(LDiceForge;I[J)I" } : Jvm.MethodName) method_14_code (4 : Nat) (Option.some Jvm.ClassFile.FieldType.int) [((0 : Nat), (9 : Nat), (12 : Nat), (20 : Nat)), ((0 : Nat), (9 : Nat), (15 : Nat), (15 : Nat))]), (Jvm.Cond.methodLink "DiceForgeLaw" (52 : Nat) ({ cls := "DiceForge", name := "found", desc := "(I)I" } : Jvm.MethodName)), (Jvm.Cond.instanceMethod ({ cls := "DiceForge", name := "found", desc := "(I)I" } : Jvm.MethodName)), (Jvm.Cond.selects "DiceForge" ({ cls := "DiceForge", name := "found", desc := "(I)I" } : Jvm.MethodName) ({ cls := "DiceForge", name := "found", desc := "(I)I" } : Jvm.MethodName)), (Jvm.Cond.code ({ cls := "DiceForge", name := "found", desc := "(I)I" } : Jvm.MethodName) prog_1_method_15_code (7 : Nat) (Option.some Jvm.ClassFile.FieldType.int)), (Jvm.Cond.classLink "DiceForge" (105 : Nat) "DiceForge$Draws"), (Jvm.Cond.methodLink "DiceForge" (148 : Nat) ({ cls := "DiceForge", name := "openedAt", desc := "(I)LDiceForge$Promise;" } : Jvm.MethodName)), (Jvm.Cond.instanceMethod ({ cls := "DiceForge", name := "openedAt", desc := "(I)LDiceForge$Promise;" } : Jvm.MethodName)), (Jvm.Cond.code ({ cls := "DiceForge", name := "openedAt", desc := "(I)LDiceForge$Promise;" } : Jvm.MethodName) prog_1_method_23_code (3 : Nat) (Option.some (Jvm.ClassFile.FieldType.object "DiceForge$Promise"))), (Jvm.Cond.methodLink "DiceForgeLaw" (131 : Nat) ({ cls := "DiceForgeLaw", name := "wrong", desc := "(LDiceForge;I[J)I" } : Jvm.MethodName)), (Jvm.Cond.static ({ cls := "DiceForgeLaw", name := "wrong", desc := "(LDiceForge;I[J)I" } : Jvm.MethodName)), (Jvm.Cond.codeWith ({ cls := "DiceForgeLaw", name := "wrong", desc := "(LDiceForge;I[J)I" } : Jvm.MethodName) method_15_code (4 : Nat) (Option.some Jvm.ClassFile.FieldType.int) [((0 : Nat), (9 : Nat), (12 : Nat), (20 : Nat)), ((0 : Nat), (9 : Nat), (15 : Nat), (15 : Nat))]), (Jvm.Cond.methodLink "DiceForgeLaw" (55 : Nat) ({ cls := "DiceForge", name := "wrong", desc := "(I)I" } : Jvm.MethodName)), (Jvm.Cond.instanceMethod ({ cls := "DiceForge", name := "wrong", desc := "(I)I" } : Jvm.MethodName)), (Jvm.Cond.selects "DiceForge" ({ cls := "DiceForge", name := "wrong", desc := "(I)I" } : Jvm.MethodName) ({ cls := "DiceForge", name := "wrong", desc := "(I)I" } : Jvm.MethodName)), (Jvm.Cond.code ({ cls := "DiceForge", name := "wrong", desc := "(I)I" } : Jvm.MethodName) prog_1_method_16_code (2 : Nat) (Option.some Jvm.ClassFile.FieldType.int)), (Jvm.Cond.methodLink "DiceForge" (152 : Nat) ({ cls := "DiceForge", name := "firstWrong", desc := "(II)I" } : Jvm.MethodName)), (Jvm.Cond.instanceMethod ({ cls := "DiceForge", name := "firstWrong", desc := "(II)I" } : Jvm.MethodName)), (Jvm.Cond.code ({ cls := "DiceForge", name := "firstWrong", desc := "(II)I" } : Jvm.MethodName) prog_1_method_30_code (6 : Nat) (Option.some Jvm.ClassFile.FieldType.int)), (Jvm.Cond.methodLink "DiceForgeLaw" (134 : Nat) ({ cls := "DiceForgeLaw", name := "dispute", desc := "(LDiceForge;I[J)I" } : Jvm.MethodName)), (Jvm.Cond.static ({ cls := "DiceForgeLaw", name := "dispute", desc := "(LDiceForge;I[J)I" } : Jvm.MethodName)), (Jvm.Cond.codeWith ({ cls := "DiceForgeLaw", name := "dispute", desc := "(LDiceForge;I[J)I" } : Jvm.MethodName) method_16_code (4 : Nat) (Option.some Jvm.ClassFile.FieldType.int) [((0 : Nat), (9 : Nat), (12 : Nat), (20 : Nat)), ((0 : Nat), (9 : Nat), (15 : Nat), (15 : Nat))]), (Jvm.Cond.methodLink "DiceForgeLaw" (58 : Nat) ({ cls := "DiceForge", name := "dispute", desc := "(I)I" } : Jvm.MethodName)), (Jvm.Cond.instanceMethod ({ cls := "DiceForge", name := "dispute", desc := "(I)I" } : Jvm.MethodName)), (Jvm.Cond.selects "DiceForge" ({ cls := "DiceForge", name := "dispute", desc := "(I)I" } : Jvm.MethodName) ({ cls := "DiceForge", name := "dispute", desc := "(I)I" } : Jvm.MethodName)), (Jvm.Cond.code ({ cls := "DiceForge", name := "dispute", desc := "(I)I" } : Jvm.MethodName) prog_1_method_17_code (4 : Nat) (Option.some Jvm.ClassFile.FieldType.int)), (Jvm.Cond.methodLink "DiceForge" (160 : Nat) ({ cls := "DiceForge", name := "strikeFrom", desc := "(II)I" } : Jvm.MethodName)), (Jvm.Cond.instanceMethod ({ cls := "DiceForge", name := "strikeFrom", desc := "(II)I" } : Jvm.MethodName)), (Jvm.Cond.code ({ cls := "DiceForge", name := "strikeFrom", desc := "(II)I" } : Jvm.MethodName) prog_1_method_31_code (6 : Nat) (Option.some Jvm.ClassFile.FieldType.int)), (Jvm.Cond.methodLink "DiceForge" (193 : Nat) ({ cls := "java/lang/Math", name := "max", desc := "(II)I" } : Jvm.MethodName)), (Jvm.Cond.methodLink "DiceForgeLaw" (137 : Nat) ({ cls := "DiceForgeLaw", name := "isStruck", desc := "(LDiceForge;I[J)I" } : Jvm.MethodName)), (Jvm.Cond.static ({ cls := "DiceForgeLaw", name := "isStruck", desc := "(LDiceForge;I[J)I" } : Jvm.MethodName)), (Jvm.Cond.codeWith ({ cls := "DiceForgeLaw", name := "isStruck", desc := "(LDiceForge;I[J)I" } : Jvm.MethodName) method_17_code (4 : Nat) (Option.some Jvm.ClassFile.FieldType.int) [((0 : Nat), (16 : Nat), (19 : Nat), (20 : Nat))]), (Jvm.Cond.methodLink "DiceForgeLaw" (61 : Nat) ({ cls := "DiceForge", name := "isStruck", desc := "(I)Z" } : Jvm.MethodName)), (Jvm.Cond.instanceMethod ({ cls := "DiceForge", name := "isStruck", desc := "(I)Z" } : Jvm.MethodName)), (Jvm.Cond.selects "DiceForge" ({ cls := "DiceForge", name := "isStruck", desc := "(I)Z" } : Jvm.MethodName) ({ cls := "DiceForge", name := "isStruck", desc := "(I)Z" } : Jvm.MethodName)), (Jvm.Cond.code ({ cls := "DiceForge", name := "isStruck", desc := "(I)Z" } : Jvm.MethodName) prog_1_method_18_code (2 : Nat) (Option.some Jvm.ClassFile.FieldType.boolean)), (Jvm.Cond.methodLink "DiceForgeLaw" (140 : Nat) ({ cls := "DiceForgeLaw", name := "count", desc := "(LDiceForge;II[J)I" } : Jvm.MethodName)), (Jvm.Cond.static ({ cls := "DiceForgeLaw", name := "count", desc := "(LDiceForge;II[J)I" } : Jvm.MethodName)), (Jvm.Cond.codeWith ({ cls := "DiceForgeLaw", name := "count", desc := "(LDiceForge;II[J)I" } : Jvm.MethodName) method_18_code (5 : Nat) (Option.some Jvm.ClassFile.FieldType.int) [((0 : Nat), (10 : Nat), (13 : Nat), (13 : Nat))]), (Jvm.Cond.methodLink "DiceForgeLaw" (64 : Nat) ({ cls := "DiceForge", name := "count", desc := "(II)I" } : Jvm.MethodName)), (Jvm.Cond.instanceMethod ({ cls := "DiceForge", name := "count", desc := "(II)I" } : Jvm.MethodName)), (Jvm.Cond.selects "DiceForge" ({ cls := "DiceForge", name := "count", desc := "(II)I" } : Jvm.MethodName) ({ cls := "DiceForge", name := "count", desc := "(II)I" } : Jvm.MethodName)), (Jvm.Cond.code ({ cls := "DiceForge", name := "count", desc := "(II)I" } : Jvm.MethodName) prog_1_method_19_code (6 : Nat) (Option.some Jvm.ClassFile.FieldType.int)), (Jvm.Cond.instanceMethod ({ cls := "DiceForge$Entry", name := "countsFor", desc := "(I)Z" } : Jvm.MethodName))]
def zc_W6 : List Cond := [(Jvm.Cond.code ({ cls := "DiceForge$Entry", name := "countsFor", desc := "(I)Z" } : Jvm.MethodName) prog_3_method_3_code (2 : Nat) (Option.some Jvm.ClassFile.FieldType.boolean)), (Jvm.Cond.methodLink "DiceForgeLaw" (143 : Nat) ({ cls := "DiceForgeLaw", name := "uneven", desc := "(LDiceForge;I[J)I" } : Jvm.MethodName)), (Jvm.Cond.static ({ cls := "DiceForgeLaw", name := "uneven", desc := "(LDiceForge;I[J)I" } : Jvm.MethodName)), (Jvm.Cond.codeWith ({ cls := "DiceForgeLaw", name := "uneven", desc := "(LDiceForge;I[J)I" } : Jvm.MethodName) method_19_code (4 : Nat) (Option.some Jvm.ClassFile.FieldType.int) [((0 : Nat), (8 : Nat), (11 : Nat), (13 : Nat))]), (Jvm.Cond.methodLink "DiceForgeLaw" (67 : Nat) ({ cls := "DiceForge", name := "uneven", desc := "(I)J" } : Jvm.MethodName)), (Jvm.Cond.instanceMethod ({ cls := "DiceForge", name := "uneven", desc := "(I)J" } : Jvm.MethodName)), (Jvm.Cond.selects "DiceForge" ({ cls := "DiceForge", name := "uneven", desc := "(I)J" } : Jvm.MethodName) ({ cls := "DiceForge", name := "uneven", desc := "(I)J" } : Jvm.MethodName)), (Jvm.Cond.code ({ cls := "DiceForge", name := "uneven", desc := "(I)J" } : Jvm.MethodName) prog_1_method_20_code (8 : Nat) (Option.some Jvm.ClassFile.FieldType.long)), (Jvm.Cond.methodLink "DiceForge" (167 : Nat) ({ cls := "DiceForge", name := "tallyValues", desc := "(I)I" } : Jvm.MethodName)), (Jvm.Cond.instanceMethod ({ cls := "DiceForge", name := "tallyValues", desc := "(I)I" } : Jvm.MethodName)), (Jvm.Cond.code ({ cls := "DiceForge", name := "tallyValues", desc := "(I)I" } : Jvm.MethodName) prog_1_method_32_code (5 : Nat) (Option.some Jvm.ClassFile.FieldType.int)), (Jvm.Cond.methodLink "DiceForge" (196 : Nat) ({ cls := "java/util/Arrays", name := "fill", desc := "([II)V" } : Jvm.MethodName)), (Jvm.Cond.static ({ cls := "java/util/Arrays", name := "fill", desc := "([II)V" } : Jvm.MethodName)), (Jvm.Cond.code ({ cls := "java/util/Arrays", name := "fill", desc := "([II)V" } : Jvm.MethodName) prog_22_method_103_code (4 : Nat) (Option.none : Option Jvm.ClassFile.FieldType)), (Jvm.Cond.methodLink "DiceForgeLaw" (146 : Nat) ({ cls := "DiceForgeLaw", name := "total", desc := "(LDiceForge;I[J)I" } : Jvm.MethodName)), (Jvm.Cond.static ({ cls := "DiceForgeLaw", name := "total", desc := "(LDiceForge;I[J)I" } : Jvm.MethodName)), (Jvm.Cond.codeWith ({ cls := "DiceForgeLaw", name := "total", desc := "(LDiceForge;I[J)I" } : Jvm.MethodName) method_20_code (4 : Nat) (Option.some Jvm.ClassFile.FieldType.int) [((0 : Nat), (9 : Nat), (12 : Nat), (20 : Nat))]), (Jvm.Cond.methodLink "DiceForgeLaw" (71 : Nat) ({ cls := "DiceForge", name := "total", desc := "(I)I" } : Jvm.MethodName)), (Jvm.Cond.instanceMethod ({ cls := "DiceForge", name := "total", desc := "(I)I" } : Jvm.MethodName)), (Jvm.Cond.selects "DiceForge" ({ cls := "DiceForge", name := "total", desc := "(I)I" } : Jvm.MethodName) ({ cls := "DiceForge", name := "total", desc := "(I)I" } : Jvm.MethodName)), (Jvm.Cond.code ({ cls := "DiceForge", name := "total", desc := "(I)I" } : Jvm.MethodName) prog_1_method_21_code (5 : Nat) (Option.some Jvm.ClassFile.FieldType.int)), (Jvm.Cond.classLink "DiceForgeLaw" (75 : Nat) "DiceForgeModel"), (Jvm.Cond.instantiable "DiceForgeModel" (18 : Nat)), (Jvm.Cond.methodLink "DiceForgeLaw" (77 : Nat) ({ cls := "DiceForgeModel", name := "<init>", desc := "()V" } : Jvm.MethodName)), (Jvm.Cond.instanceMethod ({ cls := "DiceForgeModel", name := "<init>", desc := "()V" } : Jvm.MethodName)), (Jvm.Cond.code ({ cls := "DiceForgeModel", name := "<init>", desc := "()V" } : Jvm.MethodName) prog_6_method_1_code (1 : Nat) (Option.none : Option Jvm.ClassFile.FieldType)), (Jvm.Cond.methodLink "DiceForgeModel" (1 : Nat) ({ cls := "java/lang/Object", name := "<init>", desc := "()V" } : Jvm.MethodName)), (Jvm.Cond.fieldLink "DiceForgeModel" (50 : Nat) "DiceForgeModel" "thrown" "I"), (Jvm.Cond.fieldLink "DiceForgeModel" (54 : Nat) "DiceForgeModel" "promises" "I"), (Jvm.Cond.fieldLink "DiceForgeModel" (7 : Nat) "DiceForgeModel" "seed" "[I"), (Jvm.Cond.fieldLink "DiceForgeModel" (13 : Nat) "DiceForgeModel" "state" "[I"), (Jvm.Cond.fieldLink "DiceForgeModel" (16 : Nat) "DiceForgeModel" "opened" "[Z"), (Jvm.Cond.fieldLink "DiceForgeModel" (20 : Nat) "DiceForgeModel" "disputed" "[Z"), (Jvm.Cond.fieldLink "DiceForgeModel" (23 : Nat) "DiceForgeModel" "parts" "[I"), (Jvm.Cond.fieldLink "DiceForgeModel" (61 : Nat) "DiceForgeModel" "entries" "I"), (Jvm.Cond.fieldLink "DiceForgeModel" (26 : Nat) "DiceForgeModel" "of" "[I"), (Jvm.Cond.fieldLink "DiceForgeModel" (29 : Nat) "DiceForgeModel" "at" "[I"), (Jvm.Cond.fieldLink "DiceForgeModel" (32 : Nat) "DiceForgeModel" "part" "[I"), (Jvm.Cond.fieldLink "DiceForgeModel" (35 : Nat) "DiceForgeModel" "sides" "[I"), (Jvm.Cond.fieldLink "DiceForgeModel" (38 : Nat) "DiceForgeModel" "value" "[I"), (Jvm.Cond.fieldLink "DiceForgeModel" (41 : Nat) "DiceForgeModel" "rejected" "[I"), (Jvm.Cond.fieldLink "DiceForgeModel" (44 : Nat) "DiceForgeModel" "sum" "[I"), (Jvm.Cond.fieldLink "DiceForgeModel" (47 : Nat) "DiceForgeModel" "struck" "[Z"), (Jvm.Cond.fieldLink "DiceForgeModel" (86 : Nat) "DiceForgeModel" "behind" "I"), (Jvm.Cond.fieldLink "DiceForgeModel" (89 : Nat) "DiceForgeModel" "draws" "I"), (Jvm.Cond.lays "DiceForgeModel" "DiceForgeModel" "thrown" "I"), (Jvm.Cond.soleField "DiceForgeModel" "thrown"), (Jvm.Cond.lays "DiceForgeModel" "DiceForgeModel" "promises" "I"), (Jvm.Cond.soleField "DiceForgeModel" "promises"), (Jvm.Cond.laysFinal "DiceForgeModel" "DiceForgeModel" "seed" "[I"), (Jvm.Cond.soleField "DiceForgeModel" "seed"), (Jvm.Cond.laysFinal "DiceForgeModel" "DiceForgeModel" "state" "[I"), (Jvm.Cond.soleField "DiceForgeModel" "state"), (Jvm.Cond.laysFinal "DiceForgeModel" "DiceForgeModel" "opened" "[Z"), (Jvm.Cond.soleField "DiceForgeModel" "opened"), (Jvm.Cond.laysFinal "DiceForgeModel" "DiceForgeModel" "disputed" "[Z"), (Jvm.Cond.soleField "DiceForgeModel" "disputed"), (Jvm.Cond.laysFinal "DiceForgeModel" "DiceForgeModel" "parts" "[I"), (Jvm.Cond.soleField "DiceForgeModel" "parts"), (Jvm.Cond.lays "DiceForgeModel" "DiceForgeModel" "entries" "I"), (Jvm.Cond.soleField "DiceForgeModel" "entries"), (Jvm.Cond.laysFinal "DiceForgeModel" "DiceForgeModel" "of" "[I"), (Jvm.Cond.soleField "DiceForgeModel" "of"), (Jvm.Cond.laysFinal "DiceForgeModel" "DiceForgeModel" "at" "[I"), (Jvm.Cond.soleField "DiceForgeModel" "at"), (Jvm.Cond.laysFinal "DiceForgeModel" "DiceForgeModel" "part" "[I"), (Jvm.Cond.soleField "DiceForgeModel" "part"), (Jvm.Cond.laysFinal "DiceForgeModel" "DiceForgeModel" "sides" "[I"), (Jvm.Cond.soleField "DiceForgeModel" "sides"), (Jvm.Cond.laysFinal "DiceForgeModel" "DiceForgeModel" "value" "[I"), (Jvm.Cond.soleField "DiceForgeModel" "value"), (Jvm.Cond.laysFinal "DiceForgeModel" "DiceForgeModel" "rejected" "[I"), (Jvm.Cond.soleField "DiceForgeModel" "rejected"), (Jvm.Cond.laysFinal "DiceForgeModel" "DiceForgeModel" "sum" "[I"), (Jvm.Cond.soleField "DiceForgeModel" "sum"), (Jvm.Cond.laysFinal "DiceForgeModel" "DiceForgeModel" "struck" "[Z"), (Jvm.Cond.soleField "DiceForgeModel" "struck"), (Jvm.Cond.lays "DiceForgeModel" "DiceForgeModel" "behind" "I"), (Jvm.Cond.soleField "DiceForgeModel" "behind"), (Jvm.Cond.lays "DiceForgeModel" "DiceForgeModel" "draws" "I")]
def zc_W7 : List Cond := [(Jvm.Cond.soleField "DiceForgeModel" "draws"), (Jvm.Cond.superclass "DiceForgeModel" "java/lang/Object"), (Jvm.Cond.arrayClass Jvm.ClassFile.FieldType.boolean), (Jvm.Cond.methodLink "DiceForgeLaw" (84 : Nat) ({ cls := "DiceForgeModel", name := "thrown", desc := "()I" } : Jvm.MethodName)), (Jvm.Cond.instanceMethod ({ cls := "DiceForgeModel", name := "thrown", desc := "()I" } : Jvm.MethodName)), (Jvm.Cond.selects "DiceForgeModel" ({ cls := "DiceForgeModel", name := "thrown", desc := "()I" } : Jvm.MethodName) ({ cls := "DiceForgeModel", name := "thrown", desc := "()I" } : Jvm.MethodName)), (Jvm.Cond.code ({ cls := "DiceForgeModel", name := "thrown", desc := "()I" } : Jvm.MethodName) prog_6_method_2_code (1 : Nat) (Option.some Jvm.ClassFile.FieldType.int)), (Jvm.Cond.methodLink "DiceForgeLaw" (83 : Nat) ({ cls := "DiceForgeModel", name := "promise", desc := "(I)I" } : Jvm.MethodName)), (Jvm.Cond.instanceMethod ({ cls := "DiceForgeModel", name := "promise", desc := "(I)I" } : Jvm.MethodName)), (Jvm.Cond.selects "DiceForgeModel" ({ cls := "DiceForgeModel", name := "promise", desc := "(I)I" } : Jvm.MethodName) ({ cls := "DiceForgeModel", name := "promise", desc := "(I)I" } : Jvm.MethodName)), (Jvm.Cond.code ({ cls := "DiceForgeModel", name := "promise", desc := "(I)I" } : Jvm.MethodName) prog_6_method_10_code (2 : Nat) (Option.some Jvm.ClassFile.FieldType.int)), (Jvm.Cond.constant "DiceForgeModel" (70 : Nat) (65535 : Int32)), (Jvm.Cond.methodLink "DiceForgeModel" (57 : Nat) ({ cls := "DiceForgeModel", name := "in", desc := "(III)Z" } : Jvm.MethodName)), (Jvm.Cond.static ({ cls := "DiceForgeModel", name := "in", desc := "(III)Z" } : Jvm.MethodName)), (Jvm.Cond.code ({ cls := "DiceForgeModel", name := "in", desc := "(III)Z" } : Jvm.MethodName) prog_6_method_4_code (3 : Nat) (Option.some Jvm.ClassFile.FieldType.boolean)), (Jvm.Cond.methodLink "DiceForgeModel" (71 : Nat) ({ cls := "DiceForgeModel", name := "fails", desc := "(I)I" } : Jvm.MethodName)), (Jvm.Cond.instanceMethod ({ cls := "DiceForgeModel", name := "fails", desc := "(I)I" } : Jvm.MethodName)), (Jvm.Cond.code ({ cls := "DiceForgeModel", name := "fails", desc := "(I)I" } : Jvm.MethodName) prog_6_method_3_code (2 : Nat) (Option.some Jvm.ClassFile.FieldType.int)), (Jvm.Cond.methodLink "DiceForgeLaw" (90 : Nat) ({ cls := "DiceForgeModel", name := "sign", desc := "(I)I" } : Jvm.MethodName)), (Jvm.Cond.instanceMethod ({ cls := "DiceForgeModel", name := "sign", desc := "(I)I" } : Jvm.MethodName)), (Jvm.Cond.selects "DiceForgeModel" ({ cls := "DiceForgeModel", name := "sign", desc := "(I)I" } : Jvm.MethodName) ({ cls := "DiceForgeModel", name := "sign", desc := "(I)I" } : Jvm.MethodName)), (Jvm.Cond.code ({ cls := "DiceForgeModel", name := "sign", desc := "(I)I" } : Jvm.MethodName) prog_6_method_11_code (2 : Nat) (Option.some Jvm.ClassFile.FieldType.int)), (Jvm.Cond.methodLink "DiceForgeModel" (75 : Nat) ({ cls := "DiceForgeModel", name := "isPromise", desc := "(I)Z" } : Jvm.MethodName)), (Jvm.Cond.instanceMethod ({ cls := "DiceForgeModel", name := "isPromise", desc := "(I)Z" } : Jvm.MethodName)), (Jvm.Cond.code ({ cls := "DiceForgeModel", name := "isPromise", desc := "(I)Z" } : Jvm.MethodName) prog_6_method_5_code (2 : Nat) (Option.some Jvm.ClassFile.FieldType.boolean)), (Jvm.Cond.methodLink "DiceForgeModel" (79 : Nat) ({ cls := "DiceForgeModel", name := "signOf", desc := "(I)I" } : Jvm.MethodName)), (Jvm.Cond.static ({ cls := "DiceForgeModel", name := "signOf", desc := "(I)I" } : Jvm.MethodName)), (Jvm.Cond.code ({ cls := "DiceForgeModel", name := "signOf", desc := "(I)I" } : Jvm.MethodName) prog_6_method_9_code (1 : Nat) (Option.some Jvm.ClassFile.FieldType.int)), (Jvm.Cond.constantLong "DiceForgeModel" (64 : Nat) (31 : Int64)), (Jvm.Cond.constantLong "DiceForgeModel" (66 : Nat) (7 : Int64)), (Jvm.Cond.constantLong "DiceForgeModel" (68 : Nat) (10007 : Int64)), (Jvm.Cond.methodLink "DiceForgeLaw" (93 : Nat) ({ cls := "DiceForgeModel", name := "seedsOf", desc := "(I)I" } : Jvm.MethodName)), (Jvm.Cond.instanceMethod ({ cls := "DiceForgeModel", name := "seedsOf", desc := "(I)I" } : Jvm.MethodName)), (Jvm.Cond.selects "DiceForgeModel" ({ cls := "DiceForgeModel", name := "seedsOf", desc := "(I)I" } : Jvm.MethodName) ({ cls := "DiceForgeModel", name := "seedsOf", desc := "(I)I" } : Jvm.MethodName)), (Jvm.Cond.code ({ cls := "DiceForgeModel", name := "seedsOf", desc := "(I)I" } : Jvm.MethodName) prog_6_method_12_code (5 : Nat) (Option.some Jvm.ClassFile.FieldType.int)), (Jvm.Cond.constant "DiceForgeModel" (82 : Nat) (65536 : Int32)), (Jvm.Cond.methodLink "DiceForgeLaw" (96 : Nat) ({ cls := "DiceForgeModel", name := "open", desc := "(I)I" } : Jvm.MethodName)), (Jvm.Cond.instanceMethod ({ cls := "DiceForgeModel", name := "open", desc := "(I)I" } : Jvm.MethodName)), (Jvm.Cond.selects "DiceForgeModel" ({ cls := "DiceForgeModel", name := "open", desc := "(I)I" } : Jvm.MethodName) ({ cls := "DiceForgeModel", name := "open", desc := "(I)I" } : Jvm.MethodName)), (Jvm.Cond.code ({ cls := "DiceForgeModel", name := "open", desc := "(I)I" } : Jvm.MethodName) prog_6_method_13_code (2 : Nat) (Option.some Jvm.ClassFile.FieldType.int)), (Jvm.Cond.methodLink "DiceForgeLaw" (99 : Nat) ({ cls := "DiceForgeModel", name := "isOpened", desc := "(I)Z" } : Jvm.MethodName)), (Jvm.Cond.instanceMethod ({ cls := "DiceForgeModel", name := "isOpened", desc := "(I)Z" } : Jvm.MethodName)), (Jvm.Cond.selects "DiceForgeModel" ({ cls := "DiceForgeModel", name := "isOpened", desc := "(I)Z" } : Jvm.MethodName) ({ cls := "DiceForgeModel", name := "isOpened", desc := "(I)Z" } : Jvm.MethodName)), (Jvm.Cond.code ({ cls := "DiceForgeModel", name := "isOpened", desc := "(I)Z" } : Jvm.MethodName) prog_6_method_14_code (2 : Nat) (Option.some Jvm.ClassFile.FieldType.boolean)), (Jvm.Cond.methodLink "DiceForgeLaw" (103 : Nat) ({ cls := "DiceForgeModel", name := "setPart", desc := "(II)I" } : Jvm.MethodName)), (Jvm.Cond.instanceMethod ({ cls := "DiceForgeModel", name := "setPart", desc := "(II)I" } : Jvm.MethodName)), (Jvm.Cond.selects "DiceForgeModel" ({ cls := "DiceForgeModel", name := "setPart", desc := "(II)I" } : Jvm.MethodName) ({ cls := "DiceForgeModel", name := "setPart", desc := "(II)I" } : Jvm.MethodName)), (Jvm.Cond.code ({ cls := "DiceForgeModel", name := "setPart", desc := "(II)I" } : Jvm.MethodName) prog_6_method_15_code (4 : Nat) (Option.some Jvm.ClassFile.FieldType.int)), (Jvm.Cond.methodLink "DiceForgeModel" (83 : Nat) ({ cls := "DiceForgeModel", name := "isTable", desc := "(I)Z" } : Jvm.MethodName)), (Jvm.Cond.static ({ cls := "DiceForgeModel", name := "isTable", desc := "(I)Z" } : Jvm.MethodName)), (Jvm.Cond.code ({ cls := "DiceForgeModel", name := "isTable", desc := "(I)Z" } : Jvm.MethodName) prog_6_method_6_code (1 : Nat) (Option.some Jvm.ClassFile.FieldType.boolean)), (Jvm.Cond.methodLink "DiceForgeLaw" (107 : Nat) ({ cls := "DiceForgeModel", name := "roll", desc := "(III)I" } : Jvm.MethodName)), (Jvm.Cond.instanceMethod ({ cls := "DiceForgeModel", name := "roll", desc := "(III)I" } : Jvm.MethodName)), (Jvm.Cond.selects "DiceForgeModel" ({ cls := "DiceForgeModel", name := "roll", desc := "(III)I" } : Jvm.MethodName) ({ cls := "DiceForgeModel", name := "roll", desc := "(III)I" } : Jvm.MethodName)), (Jvm.Cond.code ({ cls := "DiceForgeModel", name := "roll", desc := "(III)I" } : Jvm.MethodName) prog_6_method_18_code (5 : Nat) (Option.some Jvm.ClassFile.FieldType.int)), (Jvm.Cond.methodLink "DiceForgeModel" (93 : Nat) ({ cls := "DiceForgeModel", name := "isDie", desc := "(I)Z" } : Jvm.MethodName)), (Jvm.Cond.static ({ cls := "DiceForgeModel", name := "isDie", desc := "(I)Z" } : Jvm.MethodName)), (Jvm.Cond.code ({ cls := "DiceForgeModel", name := "isDie", desc := "(I)Z" } : Jvm.MethodName) prog_6_method_8_code (1 : Nat) (Option.some Jvm.ClassFile.FieldType.boolean)), (Jvm.Cond.methodLink "DiceForgeModel" (96 : Nat) ({ cls := "DiceForgeModel", name := "rolls", desc := "(III)I" } : Jvm.MethodName)), (Jvm.Cond.instanceMethod ({ cls := "DiceForgeModel", name := "rolls", desc := "(III)I" } : Jvm.MethodName)), (Jvm.Cond.code ({ cls := "DiceForgeModel", name := "rolls", desc := "(III)I" } : Jvm.MethodName) prog_6_method_16_code (5 : Nat) (Option.some Jvm.ClassFile.FieldType.int)), (Jvm.Cond.methodLink "DiceForgeModel" (100 : Nat) ({ cls := "DiceForgeModel", name := "sumOf", desc := "(I)I" } : Jvm.MethodName)), (Jvm.Cond.instanceMethod ({ cls := "DiceForgeModel", name := "sumOf", desc := "(I)I" } : Jvm.MethodName)), (Jvm.Cond.code ({ cls := "DiceForgeModel", name := "sumOf", desc := "(I)I" } : Jvm.MethodName) prog_6_method_17_code (3 : Nat) (Option.some Jvm.ClassFile.FieldType.int)), (Jvm.Cond.constant "DiceForgeModel" (92 : Nat) (1000003 : Int32)), (Jvm.Cond.methodLink "DiceForgeLaw" (111 : Nat) ({ cls := "DiceForgeModel", name := "entries", desc := "()I" } : Jvm.MethodName)), (Jvm.Cond.instanceMethod ({ cls := "DiceForgeModel", name := "entries", desc := "()I" } : Jvm.MethodName)), (Jvm.Cond.selects "DiceForgeModel" ({ cls := "DiceForgeModel", name := "entries", desc := "()I" } : Jvm.MethodName) ({ cls := "DiceForgeModel", name := "entries", desc := "()I" } : Jvm.MethodName)), (Jvm.Cond.code ({ cls := "DiceForgeModel", name := "entries", desc := "()I" } : Jvm.MethodName) prog_6_method_19_code (1 : Nat) (Option.some Jvm.ClassFile.FieldType.int)), (Jvm.Cond.methodLink "DiceForgeLaw" (114 : Nat) ({ cls := "DiceForgeModel", name := "value", desc := "(I)I" } : Jvm.MethodName)), (Jvm.Cond.instanceMethod ({ cls := "DiceForgeModel", name := "value", desc := "(I)I" } : Jvm.MethodName)), (Jvm.Cond.selects "DiceForgeModel" ({ cls := "DiceForgeModel", name := "value", desc := "(I)I" } : Jvm.MethodName) ({ cls := "DiceForgeModel", name := "value", desc := "(I)I" } : Jvm.MethodName)), (Jvm.Cond.code ({ cls := "DiceForgeModel", name := "value", desc := "(I)I" } : Jvm.MethodName) prog_6_method_20_code (2 : Nat) (Option.some Jvm.ClassFile.FieldType.int)), (Jvm.Cond.methodLink "DiceForgeModel" (103 : Nat) ({ cls := "DiceForgeModel", name := "isEntry", desc := "(I)Z" } : Jvm.MethodName)), (Jvm.Cond.instanceMethod ({ cls := "DiceForgeModel", name := "isEntry", desc := "(I)Z" } : Jvm.MethodName)), (Jvm.Cond.code ({ cls := "DiceForgeModel", name := "isEntry", desc := "(I)Z" } : Jvm.MethodName) prog_6_method_7_code (2 : Nat) (Option.some Jvm.ClassFile.FieldType.boolean)), (Jvm.Cond.methodLink "DiceForgeLaw" (117 : Nat) ({ cls := "DiceForgeModel", name := "rejected", desc := "(I)I" } : Jvm.MethodName)), (Jvm.Cond.instanceMethod ({ cls := "DiceForgeModel", name := "rejected", desc := "(I)I" } : Jvm.MethodName)), (Jvm.Cond.selects "DiceForgeModel" ({ cls := "DiceForgeModel", name := "rejected", desc := "(I)I" } : Jvm.MethodName) ({ cls := "DiceForgeModel", name := "rejected", desc := "(I)I" } : Jvm.MethodName)), (Jvm.Cond.code ({ cls := "DiceForgeModel", name := "rejected", desc := "(I)I" } : Jvm.MethodName) prog_6_method_21_code (2 : Nat) (Option.some Jvm.ClassFile.FieldType.int))]
def zc_W8 : List Cond := [(Jvm.Cond.methodLink "DiceForgeLaw" (120 : Nat) ({ cls := "DiceForgeModel", name := "sum", desc := "(I)I" } : Jvm.MethodName)), (Jvm.Cond.instanceMethod ({ cls := "DiceForgeModel", name := "sum", desc := "(I)I" } : Jvm.MethodName)), (Jvm.Cond.selects "DiceForgeModel" ({ cls := "DiceForgeModel", name := "sum", desc := "(I)I" } : Jvm.MethodName) ({ cls := "DiceForgeModel", name := "sum", desc := "(I)I" } : Jvm.MethodName)), (Jvm.Cond.code ({ cls := "DiceForgeModel", name := "sum", desc := "(I)I" } : Jvm.MethodName) prog_6_method_22_code (2 : Nat) (Option.some Jvm.ClassFile.FieldType.int)), (Jvm.Cond.methodLink "DiceForgeLaw" (123 : Nat) ({ cls := "DiceForgeModel", name := "alter", desc := "(II)I" } : Jvm.MethodName)), (Jvm.Cond.instanceMethod ({ cls := "DiceForgeModel", name := "alter", desc := "(II)I" } : Jvm.MethodName)), (Jvm.Cond.selects "DiceForgeModel" ({ cls := "DiceForgeModel", name := "alter", desc := "(II)I" } : Jvm.MethodName) ({ cls := "DiceForgeModel", name := "alter", desc := "(II)I" } : Jvm.MethodName)), (Jvm.Cond.code ({ cls := "DiceForgeModel", name := "alter", desc := "(II)I" } : Jvm.MethodName) prog_6_method_23_code (4 : Nat) (Option.some Jvm.ClassFile.FieldType.int)), (Jvm.Cond.methodLink "DiceForgeLaw" (127 : Nat) ({ cls := "DiceForgeModel", name := "broken", desc := "()I" } : Jvm.MethodName)), (Jvm.Cond.instanceMethod ({ cls := "DiceForgeModel", name := "broken", desc := "()I" } : Jvm.MethodName)), (Jvm.Cond.selects "DiceForgeModel" ({ cls := "DiceForgeModel", name := "broken", desc := "()I" } : Jvm.MethodName) ({ cls := "DiceForgeModel", name := "broken", desc := "()I" } : Jvm.MethodName)), (Jvm.Cond.code ({ cls := "DiceForgeModel", name := "broken", desc := "()I" } : Jvm.MethodName) prog_6_method_24_code (3 : Nat) (Option.some Jvm.ClassFile.FieldType.int)), (Jvm.Cond.methodLink "DiceForgeLaw" (130 : Nat) ({ cls := "DiceForgeModel", name := "found", desc := "(I)I" } : Jvm.MethodName)), (Jvm.Cond.instanceMethod ({ cls := "DiceForgeModel", name := "found", desc := "(I)I" } : Jvm.MethodName)), (Jvm.Cond.selects "DiceForgeModel" ({ cls := "DiceForgeModel", name := "found", desc := "(I)I" } : Jvm.MethodName) ({ cls := "DiceForgeModel", name := "found", desc := "(I)I" } : Jvm.MethodName)), (Jvm.Cond.code ({ cls := "DiceForgeModel", name := "found", desc := "(I)I" } : Jvm.MethodName) prog_6_method_27_code (2 : Nat) (Option.some Jvm.ClassFile.FieldType.int)), (Jvm.Cond.methodLink "DiceForgeModel" (106 : Nat) ({ cls := "DiceForgeModel", name := "again", desc := "(I)I" } : Jvm.MethodName)), (Jvm.Cond.instanceMethod ({ cls := "DiceForgeModel", name := "again", desc := "(I)I" } : Jvm.MethodName)), (Jvm.Cond.code ({ cls := "DiceForgeModel", name := "again", desc := "(I)I" } : Jvm.MethodName) prog_6_method_25_code (5 : Nat) (Option.some Jvm.ClassFile.FieldType.int)), (Jvm.Cond.methodLink "DiceForgeLaw" (133 : Nat) ({ cls := "DiceForgeModel", name := "wrong", desc := "(I)I" } : Jvm.MethodName)), (Jvm.Cond.instanceMethod ({ cls := "DiceForgeModel", name := "wrong", desc := "(I)I" } : Jvm.MethodName)), (Jvm.Cond.selects "DiceForgeModel" ({ cls := "DiceForgeModel", name := "wrong", desc := "(I)I" } : Jvm.MethodName) ({ cls := "DiceForgeModel", name := "wrong", desc := "(I)I" } : Jvm.MethodName)), (Jvm.Cond.code ({ cls := "DiceForgeModel", name := "wrong", desc := "(I)I" } : Jvm.MethodName) prog_6_method_28_code (2 : Nat) (Option.some Jvm.ClassFile.FieldType.int)), (Jvm.Cond.methodLink "DiceForgeModel" (109 : Nat) ({ cls := "DiceForgeModel", name := "firstWrong", desc := "(I)I" } : Jvm.MethodName)), (Jvm.Cond.instanceMethod ({ cls := "DiceForgeModel", name := "firstWrong", desc := "(I)I" } : Jvm.MethodName)), (Jvm.Cond.code ({ cls := "DiceForgeModel", name := "firstWrong", desc := "(I)I" } : Jvm.MethodName) prog_6_method_26_code (4 : Nat) (Option.some Jvm.ClassFile.FieldType.int)), (Jvm.Cond.methodLink "DiceForgeLaw" (136 : Nat) ({ cls := "DiceForgeModel", name := "dispute", desc := "(I)I" } : Jvm.MethodName)), (Jvm.Cond.instanceMethod ({ cls := "DiceForgeModel", name := "dispute", desc := "(I)I" } : Jvm.MethodName)), (Jvm.Cond.selects "DiceForgeModel" ({ cls := "DiceForgeModel", name := "dispute", desc := "(I)I" } : Jvm.MethodName) ({ cls := "DiceForgeModel", name := "dispute", desc := "(I)I" } : Jvm.MethodName)), (Jvm.Cond.code ({ cls := "DiceForgeModel", name := "dispute", desc := "(I)I" } : Jvm.MethodName) prog_6_method_29_code (6 : Nat) (Option.some Jvm.ClassFile.FieldType.int)), (Jvm.Cond.methodLink "DiceForgeLaw" (139 : Nat) ({ cls := "DiceForgeModel", name := "isStruck", desc := "(I)Z" } : Jvm.MethodName)), (Jvm.Cond.instanceMethod ({ cls := "DiceForgeModel", name := "isStruck", desc := "(I)Z" } : Jvm.MethodName)), (Jvm.Cond.selects "DiceForgeModel" ({ cls := "DiceForgeModel", name := "isStruck", desc := "(I)Z" } : Jvm.MethodName) ({ cls := "DiceForgeModel", name := "isStruck", desc := "(I)Z" } : Jvm.MethodName)), (Jvm.Cond.code ({ cls := "DiceForgeModel", name := "isStruck", desc := "(I)Z" } : Jvm.MethodName) prog_6_method_30_code (2 : Nat) (Option.some Jvm.ClassFile.FieldType.boolean)), (Jvm.Cond.methodLink "DiceForgeLaw" (142 : Nat) ({ cls := "DiceForgeModel", name := "count", desc := "(II)I" } : Jvm.MethodName)), (Jvm.Cond.instanceMethod ({ cls := "DiceForgeModel", name := "count", desc := "(II)I" } : Jvm.MethodName)), (Jvm.Cond.selects "DiceForgeModel" ({ cls := "DiceForgeModel", name := "count", desc := "(II)I" } : Jvm.MethodName) ({ cls := "DiceForgeModel", name := "count", desc := "(II)I" } : Jvm.MethodName)), (Jvm.Cond.code ({ cls := "DiceForgeModel", name := "count", desc := "(II)I" } : Jvm.MethodName) prog_6_method_32_code (3 : Nat) (Option.some Jvm.ClassFile.FieldType.int)), (Jvm.Cond.methodLink "DiceForgeModel" (112 : Nat) ({ cls := "DiceForgeModel", name := "counts", desc := "(II)I" } : Jvm.MethodName)), (Jvm.Cond.instanceMethod ({ cls := "DiceForgeModel", name := "counts", desc := "(II)I" } : Jvm.MethodName)), (Jvm.Cond.code ({ cls := "DiceForgeModel", name := "counts", desc := "(II)I" } : Jvm.MethodName) prog_6_method_31_code (5 : Nat) (Option.some Jvm.ClassFile.FieldType.int)), (Jvm.Cond.methodLink "DiceForgeLaw" (145 : Nat) ({ cls := "DiceForgeModel", name := "uneven", desc := "(I)J" } : Jvm.MethodName)), (Jvm.Cond.instanceMethod ({ cls := "DiceForgeModel", name := "uneven", desc := "(I)J" } : Jvm.MethodName)), (Jvm.Cond.selects "DiceForgeModel" ({ cls := "DiceForgeModel", name := "uneven", desc := "(I)J" } : Jvm.MethodName) ({ cls := "DiceForgeModel", name := "uneven", desc := "(I)J" } : Jvm.MethodName)), (Jvm.Cond.code ({ cls := "DiceForgeModel", name := "uneven", desc := "(I)J" } : Jvm.MethodName) prog_6_method_33_code (9 : Nat) (Option.some Jvm.ClassFile.FieldType.long)), (Jvm.Cond.methodLink "DiceForgeLaw" (148 : Nat) ({ cls := "DiceForgeModel", name := "total", desc := "(I)I" } : Jvm.MethodName)), (Jvm.Cond.instanceMethod ({ cls := "DiceForgeModel", name := "total", desc := "(I)I" } : Jvm.MethodName)), (Jvm.Cond.selects "DiceForgeModel" ({ cls := "DiceForgeModel", name := "total", desc := "(I)I" } : Jvm.MethodName) ({ cls := "DiceForgeModel", name := "total", desc := "(I)I" } : Jvm.MethodName)), (Jvm.Cond.code ({ cls := "DiceForgeModel", name := "total", desc := "(I)I" } : Jvm.MethodName) prog_6_method_34_code (4 : Nat) (Option.some Jvm.ClassFile.FieldType.int)), (Jvm.Cond.arrayClass Jvm.ClassFile.FieldType.long), (Jvm.Cond.sameMethod "java/lang/Throwable" "java/lang/Throwable" "fillInStackTrace" "(I)Ljava/lang/Throwable;"), (Jvm.Cond.sameMethod "[Ljava/lang/Object;" "java/lang/Object" "getClass" "()Ljava/lang/Class;"), (Jvm.Cond.selects "[Ljava/lang/Object;" ({ cls := "java/lang/Object", name := "getClass", desc := "()Ljava/lang/Class;" } : Jvm.MethodName) ({ cls := "java/lang/Object", name := "getClass", desc := "()Ljava/lang/Class;" } : Jvm.MethodName))]
def zc_W : List Cond := zc_W0 ++ (zc_W1 ++ (zc_W2 ++ (zc_W3 ++ (zc_W4 ++ (zc_W5 ++ (zc_W6 ++ (zc_W7 ++ (zc_W8))))))))
theorem zc_good0 : zc_W0.all goodWord = true := by decide +kernel
set_option maxRecDepth 20000 in
theorem zc_tbl0 : ∀ w ∈ zc_W0, w ∈ lw_tbl := fun w hw => by
  have hp : zc_W0 = [0, 1, 2, 3, 4, 5, 6, 7, 8, 9, 10, 11, 12, 13, 14, 15, 16, 17, 18, 19, 20, 21, 22, 23, 24, 25, 26, 27, 28, 29, 30, 31, 32, 33, 34, 35, 36, 37, 38, 39, 40, 41, 42, 43, 44, 45, 46, 47, 48, 49, 50, 51, 52, 53, 54, 55, 56, 57, 58, 59, 60, 61, 62, 63, 64, 66, 67, 68, 69, 70, 71, 72, 73, 74, 75, 76, 77, 78, 79, 80].filterMap (fun i => lw_tbl[i]?) := rfl
  rw [hp] at hw
  obtain ⟨i, -, hi⟩ := List.mem_filterMap.mp hw
  exact List.mem_of_getElem? hi
theorem zc_good1 : zc_W1.all goodWord = true := by decide +kernel
set_option maxRecDepth 20000 in
theorem zc_tbl1 : ∀ w ∈ zc_W1, w ∈ lw_tbl := fun w hw => by
  have hp : zc_W1 = [81, 82, 83, 84, 85, 86, 87, 88, 89, 90, 91, 92, 93, 94, 95, 96, 97, 98, 99, 100, 101, 102, 103, 104, 105, 106, 107, 108, 109, 110, 111, 112, 113, 114, 115, 116, 117, 118, 121, 122, 123, 124, 125, 126, 127, 128, 129, 130, 131, 132, 133, 134, 135, 136, 144, 145, 146, 147, 148, 149, 150, 151, 152, 153, 154, 155, 156, 157, 158, 159, 160, 161, 163, 165, 166, 167, 168, 169, 170, 171].filterMap (fun i => lw_tbl[i]?) := rfl
  rw [hp] at hw
  obtain ⟨i, -, hi⟩ := List.mem_filterMap.mp hw
  exact List.mem_of_getElem? hi
theorem zc_good2 : zc_W2.all goodWord = true := by decide +kernel
set_option maxRecDepth 20000 in
theorem zc_tbl2 : ∀ w ∈ zc_W2, w ∈ lw_tbl := fun w hw => by
  have hp : zc_W2 = [173, 174, 175, 177, 178, 179, 180, 181, 182, 183, 184, 185, 186, 187, 188, 189, 190, 191, 192, 193, 194, 195, 196, 197, 198, 199, 200, 201, 202, 203, 204, 206, 207, 208, 209, 210, 211, 213, 214, 215, 216, 217, 218, 219, 220, 222, 223, 224, 225, 226, 228, 229, 230, 231, 232, 234, 235, 236, 237, 238, 239, 241, 245, 246, 247, 248, 249, 250, 251, 252, 253, 254, 255, 256, 257, 258, 260, 261, 262, 264].filterMap (fun i => lw_tbl[i]?) := rfl
  rw [hp] at hw
  obtain ⟨i, -, hi⟩ := List.mem_filterMap.mp hw
  exact List.mem_of_getElem? hi
theorem zc_good3 : zc_W3.all goodWord = true := by decide +kernel
set_option maxRecDepth 20000 in
theorem zc_tbl3 : ∀ w ∈ zc_W3, w ∈ lw_tbl := fun w hw => by
  have hp : zc_W3 = [265, 266, 268, 269, 270, 271, 272, 273, 274, 275, 276, 277, 278, 279, 280, 281, 282, 283, 284, 285, 286, 287, 288, 289, 290, 291, 292, 293, 294, 295, 296, 297, 298, 299, 301, 302, 303, 304, 305, 306, 307, 308, 309, 310, 311, 312, 313, 314, 315, 316, 317, 318, 320, 321, 322, 323, 325, 326, 327, 328, 329, 330, 332, 333, 334, 335, 336, 337, 338, 339, 340, 341, 342, 343, 344, 345, 346, 347, 348, 349].filterMap (fun i => lw_tbl[i]?) := rfl
  rw [hp] at hw
  obtain ⟨i, -, hi⟩ := List.mem_filterMap.mp hw
  exact List.mem_of_getElem? hi
theorem zc_good4 : zc_W4.all goodWord = true := by decide +kernel
set_option maxRecDepth 20000 in
theorem zc_tbl4 : ∀ w ∈ zc_W4, w ∈ lw_tbl := fun w hw => by
  have hp : zc_W4 = [350, 351, 352, 353, 354, 355, 356, 357, 358, 359, 360, 361, 363, 364, 365, 366, 367, 368, 369, 370, 371, 372, 373, 374, 375, 376, 377, 378, 379, 382, 383, 384, 385, 386, 387, 388, 389, 390, 391, 395, 396, 397, 398, 400, 402, 404, 406, 408, 411, 413, 414, 415, 416, 417, 418, 419, 420, 421, 422, 423, 424, 425, 426, 427, 428, 429, 432, 433, 434, 435, 437, 438, 439, 441, 442, 443, 444, 445, 446, 447].filterMap (fun i => lw_tbl[i]?) := rfl
  rw [hp] at hw
  obtain ⟨i, -, hi⟩ := List.mem_filterMap.mp hw
  exact List.mem_of_getElem? hi
theorem zc_good5 : zc_W5.all goodWord = true := by decide +kernel
set_option maxRecDepth 20000 in
theorem zc_tbl5 : ∀ w ∈ zc_W5, w ∈ lw_tbl := fun w hw => by
  have hp : zc_W5 = [448, 449, 450, 451, 452, 453, 454, 456, 457, 459, 460, 461, 462, 463, 464, 465, 466, 467, 468, 469, 470, 471, 472, 473, 474, 475, 476, 477, 478, 479, 480, 481, 482, 485, 486, 487, 488, 489, 490, 491, 492, 493, 495, 496, 499, 500, 501, 502, 503, 504, 505, 506, 508, 509, 510, 511, 512, 513, 514, 515, 516, 518, 520, 521, 522, 523, 524, 525, 526, 527, 528, 529, 530, 531, 532, 533, 534, 535, 536, 539].filterMap (fun i => lw_tbl[i]?) := rfl
  rw [hp] at hw
  obtain ⟨i, -, hi⟩ := List.mem_filterMap.mp hw
  exact List.mem_of_getElem? hi
theorem zc_good6 : zc_W6.all goodWord = true := by decide +kernel
set_option maxRecDepth 20000 in
theorem zc_tbl6 : ∀ w ∈ zc_W6, w ∈ lw_tbl := fun w hw => by
  have hp : zc_W6 = [540, 541, 542, 543, 544, 545, 546, 547, 548, 550, 551, 552, 553, 554, 555, 556, 557, 558, 559, 560, 561, 562, 563, 564, 565, 566, 567, 568, 569, 570, 571, 572, 573, 574, 575, 576, 577, 578, 579, 580, 581, 582, 583, 584, 585, 586, 587, 588, 589, 590, 591, 592, 593, 594, 595, 596, 597, 598, 599, 600, 601, 602, 603, 604, 605, 606, 607, 608, 609, 610, 611, 612, 613, 614, 615, 616, 617, 618, 619, 620].filterMap (fun i => lw_tbl[i]?) := rfl
  rw [hp] at hw
  obtain ⟨i, -, hi⟩ := List.mem_filterMap.mp hw
  exact List.mem_of_getElem? hi
theorem zc_good7 : zc_W7.all goodWord = true := by decide +kernel
set_option maxRecDepth 20000 in
theorem zc_tbl7 : ∀ w ∈ zc_W7, w ∈ lw_tbl := fun w hw => by
  have hp : zc_W7 = [621, 622, 623, 624, 625, 626, 627, 628, 629, 630, 631, 632, 633, 634, 635, 636, 638, 639, 640, 641, 642, 643, 644, 646, 647, 648, 649, 650, 651, 652, 653, 654, 655, 656, 657, 658, 659, 660, 661, 662, 663, 664, 665, 666, 667, 668, 669, 670, 671, 672, 673, 674, 675, 676, 677, 678, 679, 680, 681, 683, 684, 685, 687, 688, 689, 690, 691, 692, 693, 694, 695, 696, 697, 698, 700, 701, 702, 703, 704, 705].filterMap (fun i => lw_tbl[i]?) := rfl
  rw [hp] at hw
  obtain ⟨i, -, hi⟩ := List.mem_filterMap.mp hw
  exact List.mem_of_getElem? hi
theorem zc_good8 : zc_W8.all goodWord = true := by decide +kernel
set_option maxRecDepth 20000 in
theorem zc_tbl8 : ∀ w ∈ zc_W8, w ∈ lw_tbl := fun w hw => by
  have hp : zc_W8 = [706, 707, 708, 709, 710, 711, 712, 713, 714, 715, 716, 717, 718, 719, 720, 721, 722, 724, 725, 726, 727, 728, 729, 730, 732, 733, 734, 735, 736, 737, 738, 739, 740, 741, 742, 743, 744, 745, 746, 748, 749, 750, 751, 752, 753, 754, 755, 756, 757, 758, 759, 771, 772].filterMap (fun i => lw_tbl[i]?) := rfl
  rw [hp] at hw
  obtain ⟨i, -, hi⟩ := List.mem_filterMap.mp hw
  exact List.mem_of_getElem? hi
theorem zk_0 : ∀ w ∈ zc_W0, w ∈ zc_W := fun w h => List.mem_append_left _ h
theorem zk_1 : ∀ w ∈ zc_W1, w ∈ zc_W := fun w h => List.mem_append_right _ (List.mem_append_left _ h)
theorem zk_2 : ∀ w ∈ zc_W2, w ∈ zc_W := fun w h => List.mem_append_right _ (List.mem_append_right _ (List.mem_append_left _ h))
theorem zk_3 : ∀ w ∈ zc_W3, w ∈ zc_W := fun w h => List.mem_append_right _ (List.mem_append_right _ (List.mem_append_right _ (List.mem_append_left _ h)))
theorem zk_4 : ∀ w ∈ zc_W4, w ∈ zc_W := fun w h => List.mem_append_right _ (List.mem_append_right _ (List.mem_append_right _ (List.mem_append_right _ (List.mem_append_left _ h))))
theorem zk_5 : ∀ w ∈ zc_W5, w ∈ zc_W := fun w h => List.mem_append_right _ (List.mem_append_right _ (List.mem_append_right _ (List.mem_append_right _ (List.mem_append_right _ (List.mem_append_left _ h)))))
theorem zk_6 : ∀ w ∈ zc_W6, w ∈ zc_W := fun w h => List.mem_append_right _ (List.mem_append_right _ (List.mem_append_right _ (List.mem_append_right _ (List.mem_append_right _ (List.mem_append_right _ (List.mem_append_left _ h))))))
theorem zk_7 : ∀ w ∈ zc_W7, w ∈ zc_W := fun w h => List.mem_append_right _ (List.mem_append_right _ (List.mem_append_right _ (List.mem_append_right _ (List.mem_append_right _ (List.mem_append_right _ (List.mem_append_right _ (List.mem_append_left _ h)))))))
theorem zk_8 : ∀ w ∈ zc_W8, w ∈ zc_W := fun w h => List.mem_append_right _ (List.mem_append_right _ (List.mem_append_right _ (List.mem_append_right _ (List.mem_append_right _ (List.mem_append_right _ (List.mem_append_right _ (List.mem_append_right _ (h))))))))
theorem zc_tbl : ∀ w ∈ zc_W, w ∈ lw_tbl := fun w h => (List.mem_append.mp h).elim (fun h => zc_tbl0 w h) (fun h => (List.mem_append.mp h).elim (fun h => zc_tbl1 w h) (fun h => (List.mem_append.mp h).elim (fun h => zc_tbl2 w h) (fun h => (List.mem_append.mp h).elim (fun h => zc_tbl3 w h) (fun h => (List.mem_append.mp h).elim (fun h => zc_tbl4 w h) (fun h => (List.mem_append.mp h).elim (fun h => zc_tbl5 w h) (fun h => (List.mem_append.mp h).elim (fun h => zc_tbl6 w h) (fun h => (List.mem_append.mp h).elim (fun h => zc_tbl7 w h) (fun h => zc_tbl8 w h))))))))
theorem zc_gw0 : ∀ w ∈ zc_W0, goodWord w = true := fun w h => List.all_eq_true.mp zc_good0 w h
theorem zc_gw1 : ∀ w ∈ zc_W1, goodWord w = true := fun w h => List.all_eq_true.mp zc_good1 w h
theorem zc_gw2 : ∀ w ∈ zc_W2, goodWord w = true := fun w h => List.all_eq_true.mp zc_good2 w h
theorem zc_gw3 : ∀ w ∈ zc_W3, goodWord w = true := fun w h => List.all_eq_true.mp zc_good3 w h
theorem zc_gw4 : ∀ w ∈ zc_W4, goodWord w = true := fun w h => List.all_eq_true.mp zc_good4 w h
theorem zc_gw5 : ∀ w ∈ zc_W5, goodWord w = true := fun w h => List.all_eq_true.mp zc_good5 w h
theorem zc_gw6 : ∀ w ∈ zc_W6, goodWord w = true := fun w h => List.all_eq_true.mp zc_good6 w h
theorem zc_gw7 : ∀ w ∈ zc_W7, goodWord w = true := fun w h => List.all_eq_true.mp zc_good7 w h
theorem zc_gw8 : ∀ w ∈ zc_W8, goodWord w = true := fun w h => List.all_eq_true.mp zc_good8 w h
theorem zc_gw : ∀ w ∈ zc_W, goodWord w = true := fun w h => (List.mem_append.mp h).elim (fun h => zc_gw0 w h) (fun h => (List.mem_append.mp h).elim (fun h => zc_gw1 w h) (fun h => (List.mem_append.mp h).elim (fun h => zc_gw2 w h) (fun h => (List.mem_append.mp h).elim (fun h => zc_gw3 w h) (fun h => (List.mem_append.mp h).elim (fun h => zc_gw4 w h) (fun h => (List.mem_append.mp h).elim (fun h => zc_gw5 w h) (fun h => (List.mem_append.mp h).elim (fun h => zc_gw6 w h) (fun h => (List.mem_append.mp h).elim (fun h => zc_gw7 w h) (fun h => zc_gw8 w h))))))))
theorem zgood {c1 c2 : Cond} (h : c2 ∈ zc_W) : GoodIn (c1 :: zc_W) (c2 :: zc_W) := fun w hw => (List.mem_cons.mp hw).elim (fun e => by rw [e]; exact ⟨List.mem_cons_of_mem _ h, good_of_word (zc_gw _ h)⟩) (fun h9 => ⟨List.mem_cons_of_mem _ h9, good_of_word (zc_gw _ h9)⟩)
theorem zgood0 {c2 : Cond} (h : c2 ∈ zc_W) : GoodIn lw_tbl (c2 :: zc_W) := fun w hw => (List.mem_cons.mp hw).elim (fun e => by rw [e]; exact ⟨zc_tbl _ h, good_of_word (zc_gw _ h)⟩) (fun h9 => ⟨zc_tbl _ h9, good_of_word (zc_gw _ h9)⟩)
theorem zm_0 : (Jvm.Cond.selects "DiceForge$Entry" ⟨"DiceForge$Entry", "sumAfter", "(I)I"⟩ ⟨"DiceForge$Entry", "sumAfter", "(I)I"⟩) ∈ zc_W := zk_0 _ (List.mem_of_getElem? (i := 0) rfl)
theorem zm_1 : (Jvm.Cond.selects "java/lang/Throwable" ⟨"java/lang/Throwable", "fillInStackTrace", "(I)Ljava/lang/Throwable;"⟩ ⟨"java/lang/Throwable", "fillInStackTrace", "(I)Ljava/lang/Throwable;"⟩) ∈ zc_W := zk_0 _ (List.mem_of_getElem? (i := 1) rfl)
theorem zm_2 : (Jvm.Cond.selects "java/util/ArrayList" ⟨"java/util/ArrayList", "add", "(Ljava/lang/Object;[Ljava/lang/Object;I)V"⟩ ⟨"java/util/ArrayList", "add", "(Ljava/lang/Object;[Ljava/lang/Object;I)V"⟩) ∈ zc_W := zk_0 _ (List.mem_of_getElem? (i := 2) rfl)
theorem zm_3 : (Jvm.Cond.selects "java/util/ArrayList" ⟨"java/util/ArrayList", "grow", "()[Ljava/lang/Object;"⟩ ⟨"java/util/ArrayList", "grow", "()[Ljava/lang/Object;"⟩) ∈ zc_W := zk_0 _ (List.mem_of_getElem? (i := 3) rfl)
theorem zm_4 : (Jvm.Cond.selects "java/util/ArrayList" ⟨"java/util/ArrayList", "grow", "(I)[Ljava/lang/Object;"⟩ ⟨"java/util/ArrayList", "grow", "(I)[Ljava/lang/Object;"⟩) ∈ zc_W := zk_0 _ (List.mem_of_getElem? (i := 4) rfl)
theorem zm_5 : (Jvm.Cond.selects "DiceForge" ⟨"DiceForge", "promiseAt", "(I)LDiceForge$Promise;"⟩ ⟨"DiceForge", "promiseAt", "(I)LDiceForge$Promise;"⟩) ∈ zc_W := zk_0 _ (List.mem_of_getElem? (i := 5) rfl)
theorem zm_6 : (Jvm.Cond.selects "DiceForge$Draws" ⟨"DiceForge$Draws", "nextValue", "(II)I"⟩ ⟨"DiceForge$Draws", "nextValue", "(II)I"⟩) ∈ zc_W := zk_0 _ (List.mem_of_getElem? (i := 6) rfl)
theorem zm_7 : (Jvm.Cond.selects "DiceForge$Draws" ⟨"DiceForge$Draws", "draw", "(I)V"⟩ ⟨"DiceForge$Draws", "draw", "(I)V"⟩) ∈ zc_W := zk_0 _ (List.mem_of_getElem? (i := 7) rfl)
theorem zm_8 : (Jvm.Cond.selects "DiceForge" ⟨"DiceForge", "lastSum", "()I"⟩ ⟨"DiceForge", "lastSum", "()I"⟩) ∈ zc_W := zk_0 _ (List.mem_of_getElem? (i := 8) rfl)
theorem zm_9 : (Jvm.Cond.selects "DiceForge" ⟨"DiceForge", "entryAt", "(I)LDiceForge$Entry;"⟩ ⟨"DiceForge", "entryAt", "(I)LDiceForge$Entry;"⟩) ∈ zc_W := zk_0 _ (List.mem_of_getElem? (i := 9) rfl)
theorem zm_10 : (Jvm.Cond.selects "DiceForge" ⟨"DiceForge", "openedAt", "(I)LDiceForge$Promise;"⟩ ⟨"DiceForge", "openedAt", "(I)LDiceForge$Promise;"⟩) ∈ zc_W := zk_0 _ (List.mem_of_getElem? (i := 10) rfl)
theorem zm_11 : (Jvm.Cond.selects "DiceForge" ⟨"DiceForge", "firstWrong", "(II)I"⟩ ⟨"DiceForge", "firstWrong", "(II)I"⟩) ∈ zc_W := zk_0 _ (List.mem_of_getElem? (i := 11) rfl)
theorem zm_12 : (Jvm.Cond.selects "DiceForge" ⟨"DiceForge", "strikeFrom", "(II)I"⟩ ⟨"DiceForge", "strikeFrom", "(II)I"⟩) ∈ zc_W := zk_0 _ (List.mem_of_getElem? (i := 12) rfl)
theorem zm_13 : (Jvm.Cond.selects "DiceForge$Entry" ⟨"DiceForge$Entry", "countsFor", "(I)Z"⟩ ⟨"DiceForge$Entry", "countsFor", "(I)Z"⟩) ∈ zc_W := zk_0 _ (List.mem_of_getElem? (i := 13) rfl)
theorem zm_14 : (Jvm.Cond.selects "DiceForge" ⟨"DiceForge", "tallyValues", "(I)I"⟩ ⟨"DiceForge", "tallyValues", "(I)I"⟩) ∈ zc_W := zk_0 _ (List.mem_of_getElem? (i := 14) rfl)
theorem zm_15 : (Jvm.Cond.selects "DiceForgeModel" ⟨"DiceForgeModel", "fails", "(I)I"⟩ ⟨"DiceForgeModel", "fails", "(I)I"⟩) ∈ zc_W := zk_0 _ (List.mem_of_getElem? (i := 15) rfl)
theorem zm_16 : (Jvm.Cond.selects "DiceForgeModel" ⟨"DiceForgeModel", "isPromise", "(I)Z"⟩ ⟨"DiceForgeModel", "isPromise", "(I)Z"⟩) ∈ zc_W := zk_0 _ (List.mem_of_getElem? (i := 16) rfl)
theorem zm_17 : (Jvm.Cond.selects "DiceForgeModel" ⟨"DiceForgeModel", "rolls", "(III)I"⟩ ⟨"DiceForgeModel", "rolls", "(III)I"⟩) ∈ zc_W := zk_0 _ (List.mem_of_getElem? (i := 17) rfl)
theorem zm_18 : (Jvm.Cond.selects "DiceForgeModel" ⟨"DiceForgeModel", "sumOf", "(I)I"⟩ ⟨"DiceForgeModel", "sumOf", "(I)I"⟩) ∈ zc_W := zk_0 _ (List.mem_of_getElem? (i := 18) rfl)
theorem zm_19 : (Jvm.Cond.selects "DiceForgeModel" ⟨"DiceForgeModel", "isEntry", "(I)Z"⟩ ⟨"DiceForgeModel", "isEntry", "(I)Z"⟩) ∈ zc_W := zk_0 _ (List.mem_of_getElem? (i := 19) rfl)
theorem zm_20 : (Jvm.Cond.selects "DiceForgeModel" ⟨"DiceForgeModel", "again", "(I)I"⟩ ⟨"DiceForgeModel", "again", "(I)I"⟩) ∈ zc_W := zk_0 _ (List.mem_of_getElem? (i := 20) rfl)
theorem zm_21 : (Jvm.Cond.selects "DiceForgeModel" ⟨"DiceForgeModel", "firstWrong", "(I)I"⟩ ⟨"DiceForgeModel", "firstWrong", "(I)I"⟩) ∈ zc_W := zk_0 _ (List.mem_of_getElem? (i := 21) rfl)
theorem zm_22 : (Jvm.Cond.selects "DiceForgeModel" ⟨"DiceForgeModel", "counts", "(II)I"⟩ ⟨"DiceForgeModel", "counts", "(II)I"⟩) ∈ zc_W := zk_0 _ (List.mem_of_getElem? (i := 22) rfl)
theorem zm_23 : (Jvm.Cond.initialized "DiceForgeLaw") ∈ zc_W := zk_0 _ (List.mem_of_getElem? (i := 23) rfl)
theorem zm_24 : (Jvm.Cond.initialized "DiceForge") ∈ zc_W := zk_0 _ (List.mem_of_getElem? (i := 24) rfl)
theorem zm_25 : (Jvm.Cond.initialized "java/util/AbstractCollection") ∈ zc_W := zk_0 _ (List.mem_of_getElem? (i := 25) rfl)
theorem zm_26 : (Jvm.Cond.initialized "java/util/AbstractList") ∈ zc_W := zk_0 _ (List.mem_of_getElem? (i := 26) rfl)
theorem zm_27 : (Jvm.Cond.initialized "java/util/ArrayList") ∈ zc_W := zk_0 _ (List.mem_of_getElem? (i := 27) rfl)
theorem zm_28 : (Jvm.Cond.initialized "DiceForgeModel") ∈ zc_W := zk_0 _ (List.mem_of_getElem? (i := 28) rfl)
theorem zm_29 : (Jvm.Cond.initialized "java/lang/Throwable") ∈ zc_W := zk_0 _ (List.mem_of_getElem? (i := 29) rfl)
theorem zm_30 : (Jvm.Cond.initialized "java/lang/Exception") ∈ zc_W := zk_0 _ (List.mem_of_getElem? (i := 30) rfl)
theorem zm_31 : (Jvm.Cond.initialized "java/lang/RuntimeException") ∈ zc_W := zk_0 _ (List.mem_of_getElem? (i := 31) rfl)
theorem zm_32 : (Jvm.Cond.initialized "java/lang/IllegalArgumentException") ∈ zc_W := zk_0 _ (List.mem_of_getElem? (i := 32) rfl)
theorem zm_33 : (Jvm.Cond.initialized "java/lang/IllegalStateException") ∈ zc_W := zk_0 _ (List.mem_of_getElem? (i := 33) rfl)
theorem zm_34 : (Jvm.Cond.initialized "DiceForge$Promise") ∈ zc_W := zk_0 _ (List.mem_of_getElem? (i := 34) rfl)
theorem zm_35 : (Jvm.Cond.initialized "DiceForge$Draws") ∈ zc_W := zk_0 _ (List.mem_of_getElem? (i := 35) rfl)
theorem zm_36 : (Jvm.Cond.initialized "jdk/internal/util/ArraysSupport") ∈ zc_W := zk_0 _ (List.mem_of_getElem? (i := 36) rfl)
theorem zm_37 : (Jvm.Cond.initialized "java/lang/Math") ∈ zc_W := zk_0 _ (List.mem_of_getElem? (i := 37) rfl)
theorem zm_38 : (Jvm.Cond.initialized "java/util/Arrays") ∈ zc_W := zk_0 _ (List.mem_of_getElem? (i := 38) rfl)
theorem zm_39 : (Jvm.Cond.initialized "java/lang/System") ∈ zc_W := zk_0 _ (List.mem_of_getElem? (i := 39) rfl)
theorem zm_40 : (Jvm.Cond.initialized "java/lang/IndexOutOfBoundsException") ∈ zc_W := zk_0 _ (List.mem_of_getElem? (i := 40) rfl)
theorem zm_41 : (Jvm.Cond.initialized "java/util/Objects") ∈ zc_W := zk_0 _ (List.mem_of_getElem? (i := 41) rfl)
theorem zm_42 : (Jvm.Cond.initialized "jdk/internal/util/Preconditions") ∈ zc_W := zk_0 _ (List.mem_of_getElem? (i := 42) rfl)
theorem zm_43 : (Jvm.Cond.initialized "DiceForge$Entry") ∈ zc_W := zk_0 _ (List.mem_of_getElem? (i := 43) rfl)
theorem zm_44 : (Jvm.Cond.classLink "DiceForgeLaw" (8 : Nat) "DiceForge") ∈ zc_W := zk_0 _ (List.mem_of_getElem? (i := 44) rfl)
theorem zm_45 : (Jvm.Cond.instantiable "DiceForge" (4 : Nat)) ∈ zc_W := zk_0 _ (List.mem_of_getElem? (i := 45) rfl)
theorem zm_46 : (Jvm.Cond.methodLink "DiceForgeLaw" (74 : Nat) ({ cls := "DiceForge", name := "<init>", desc := "()V" } : Jvm.MethodName)) ∈ zc_W := zk_0 _ (List.mem_of_getElem? (i := 46) rfl)
theorem zm_47 : (Jvm.Cond.instanceMethod ({ cls := "DiceForge", name := "<init>", desc := "()V" } : Jvm.MethodName)) ∈ zc_W := zk_0 _ (List.mem_of_getElem? (i := 47) rfl)
theorem zm_48 : (Jvm.Cond.code ({ cls := "DiceForge", name := "<init>", desc := "()V" } : Jvm.MethodName) prog_1_method_1_code (1 : Nat) (Option.none : Option Jvm.ClassFile.FieldType)) ∈ zc_W := zk_0 _ (List.mem_of_getElem? (i := 48) rfl)
theorem zm_49 : (Jvm.Cond.methodLink "DiceForge" (1 : Nat) ({ cls := "java/lang/Object", name := "<init>", desc := "()V" } : Jvm.MethodName)) ∈ zc_W := zk_0 _ (List.mem_of_getElem? (i := 49) rfl)
theorem zm_50 : (Jvm.Cond.instanceMethod ({ cls := "java/lang/Object", name := "<init>", desc := "()V" } : Jvm.MethodName)) ∈ zc_W := zk_0 _ (List.mem_of_getElem? (i := 50) rfl)
theorem zm_51 : (Jvm.Cond.code ({ cls := "java/lang/Object", name := "<init>", desc := "()V" } : Jvm.MethodName) object_method_1_code (1 : Nat) (Option.none : Option Jvm.ClassFile.FieldType)) ∈ zc_W := zk_0 _ (List.mem_of_getElem? (i := 51) rfl)
theorem zm_52 : (Jvm.Cond.classLink "DiceForge" (7 : Nat) "java/util/ArrayList") ∈ zc_W := zk_0 _ (List.mem_of_getElem? (i := 52) rfl)
theorem zm_53 : (Jvm.Cond.instantiable "java/util/ArrayList" (3 : Nat)) ∈ zc_W := zk_0 _ (List.mem_of_getElem? (i := 53) rfl)
theorem zm_54 : (Jvm.Cond.methodLink "DiceForge" (9 : Nat) ({ cls := "java/util/ArrayList", name := "<init>", desc := "()V" } : Jvm.MethodName)) ∈ zc_W := zk_0 _ (List.mem_of_getElem? (i := 54) rfl)
theorem zm_55 : (Jvm.Cond.instanceMethod ({ cls := "java/util/ArrayList", name := "<init>", desc := "()V" } : Jvm.MethodName)) ∈ zc_W := zk_0 _ (List.mem_of_getElem? (i := 55) rfl)
theorem zm_56 : (Jvm.Cond.code ({ cls := "java/util/ArrayList", name := "<init>", desc := "()V" } : Jvm.MethodName) prog_21_method_2_code (1 : Nat) (Option.none : Option Jvm.ClassFile.FieldType)) ∈ zc_W := zk_0 _ (List.mem_of_getElem? (i := 56) rfl)
theorem zm_57 : (Jvm.Cond.methodLink "java/util/ArrayList" (1 : Nat) ({ cls := "java/util/AbstractList", name := "<init>", desc := "()V" } : Jvm.MethodName)) ∈ zc_W := zk_0 _ (List.mem_of_getElem? (i := 57) rfl)
theorem zm_58 : (Jvm.Cond.instanceMethod ({ cls := "java/util/AbstractList", name := "<init>", desc := "()V" } : Jvm.MethodName)) ∈ zc_W := zk_0 _ (List.mem_of_getElem? (i := 58) rfl)
theorem zm_59 : (Jvm.Cond.code ({ cls := "java/util/AbstractList", name := "<init>", desc := "()V" } : Jvm.MethodName) prog_20_method_1_code (1 : Nat) (Option.none : Option Jvm.ClassFile.FieldType)) ∈ zc_W := zk_0 _ (List.mem_of_getElem? (i := 59) rfl)
theorem zm_60 : (Jvm.Cond.methodLink "java/util/AbstractList" (1 : Nat) ({ cls := "java/util/AbstractCollection", name := "<init>", desc := "()V" } : Jvm.MethodName)) ∈ zc_W := zk_0 _ (List.mem_of_getElem? (i := 60) rfl)
theorem zm_61 : (Jvm.Cond.instanceMethod ({ cls := "java/util/AbstractCollection", name := "<init>", desc := "()V" } : Jvm.MethodName)) ∈ zc_W := zk_0 _ (List.mem_of_getElem? (i := 61) rfl)
theorem zm_62 : (Jvm.Cond.code ({ cls := "java/util/AbstractCollection", name := "<init>", desc := "()V" } : Jvm.MethodName) prog_19_method_1_code (1 : Nat) (Option.none : Option Jvm.ClassFile.FieldType)) ∈ zc_W := zk_0 _ (List.mem_of_getElem? (i := 62) rfl)
theorem zm_63 : (Jvm.Cond.methodLink "java/util/AbstractCollection" (1 : Nat) ({ cls := "java/lang/Object", name := "<init>", desc := "()V" } : Jvm.MethodName)) ∈ zc_W := zk_0 _ (List.mem_of_getElem? (i := 63) rfl)
theorem zm_64 : (Jvm.Cond.fieldLink "java/util/ArrayList" (39 : Nat) "java/util/ArrayList" "DEFAULTCAPACITY_EMPTY_ELEMENTDATA" "[Ljava/lang/Object;") ∈ zc_W := zk_0 _ (List.mem_of_getElem? (i := 64) rfl)
theorem zm_65 : (Jvm.Cond.fieldLink "java/util/ArrayList" (9 : Nat) "java/util/ArrayList" "elementData" "[Ljava/lang/Object;") ∈ zc_W := zk_0 _ (List.mem_of_getElem? (i := 65) rfl)
theorem zm_66 : (Jvm.Cond.fieldLink "java/util/ArrayList" (48 : Nat) "java/util/ArrayList" "size" "I") ∈ zc_W := zk_0 _ (List.mem_of_getElem? (i := 66) rfl)
theorem zm_67 : (Jvm.Cond.fieldLink "java/util/AbstractList" (7 : Nat) "java/util/AbstractList" "modCount" "I") ∈ zc_W := zk_0 _ (List.mem_of_getElem? (i := 67) rfl)
theorem zm_68 : (Jvm.Cond.fieldLink "java/util/ArrayList" (63 : Nat) "java/util/ArrayList" "modCount" "I") ∈ zc_W := zk_0 _ (List.mem_of_getElem? (i := 68) rfl)
theorem zm_69 : (Jvm.Cond.sameField "java/util/ArrayList" "java/util/AbstractList" "modCount" "I") ∈ zc_W := zk_0 _ (List.mem_of_getElem? (i := 69) rfl)
theorem zm_70 : (Jvm.Cond.lays "java/util/ArrayList" "java/util/ArrayList" "elementData" "[Ljava/lang/Object;") ∈ zc_W := zk_0 _ (List.mem_of_getElem? (i := 70) rfl)
theorem zm_71 : (Jvm.Cond.soleField "java/util/ArrayList" "elementData") ∈ zc_W := zk_0 _ (List.mem_of_getElem? (i := 71) rfl)
theorem zm_72 : (Jvm.Cond.lays "java/util/ArrayList" "java/util/ArrayList" "size" "I") ∈ zc_W := zk_0 _ (List.mem_of_getElem? (i := 72) rfl)
theorem zm_73 : (Jvm.Cond.soleField "java/util/ArrayList" "size") ∈ zc_W := zk_0 _ (List.mem_of_getElem? (i := 73) rfl)
theorem zm_74 : (Jvm.Cond.lays "java/util/ArrayList" "java/util/AbstractList" "modCount" "I") ∈ zc_W := zk_0 _ (List.mem_of_getElem? (i := 74) rfl)
theorem zm_75 : (Jvm.Cond.soleField "java/util/AbstractList" "modCount") ∈ zc_W := zk_0 _ (List.mem_of_getElem? (i := 75) rfl)
theorem zm_76 : (Jvm.Cond.superclass "java/util/ArrayList" "java/util/AbstractList") ∈ zc_W := zk_0 _ (List.mem_of_getElem? (i := 76) rfl)
theorem zm_77 : (Jvm.Cond.fieldLink "DiceForge" (10 : Nat) "DiceForge" "promises" "Ljava/util/ArrayList;") ∈ zc_W := zk_0 _ (List.mem_of_getElem? (i := 77) rfl)
theorem zm_78 : (Jvm.Cond.fieldLink "DiceForge" (16 : Nat) "DiceForge" "log" "Ljava/util/ArrayList;") ∈ zc_W := zk_0 _ (List.mem_of_getElem? (i := 78) rfl)
theorem zm_79 : (Jvm.Cond.fieldLink "DiceForge" (19 : Nat) "DiceForge" "parts" "[I") ∈ zc_W := zk_0 _ (List.mem_of_getElem? (i := 79) rfl)
theorem zm_80 : (Jvm.Cond.fieldLink "DiceForge" (23 : Nat) "DiceForge" "tally" "[I") ∈ zc_W := zk_1 _ (List.mem_of_getElem? (i := 0) rfl)
theorem zm_81 : (Jvm.Cond.laysFinal "DiceForge" "DiceForge" "promises" "Ljava/util/ArrayList;") ∈ zc_W := zk_1 _ (List.mem_of_getElem? (i := 1) rfl)
theorem zm_82 : (Jvm.Cond.soleField "DiceForge" "promises") ∈ zc_W := zk_1 _ (List.mem_of_getElem? (i := 2) rfl)
theorem zm_83 : (Jvm.Cond.laysFinal "DiceForge" "DiceForge" "log" "Ljava/util/ArrayList;") ∈ zc_W := zk_1 _ (List.mem_of_getElem? (i := 3) rfl)
theorem zm_84 : (Jvm.Cond.soleField "DiceForge" "log") ∈ zc_W := zk_1 _ (List.mem_of_getElem? (i := 4) rfl)
theorem zm_85 : (Jvm.Cond.laysFinal "DiceForge" "DiceForge" "parts" "[I") ∈ zc_W := zk_1 _ (List.mem_of_getElem? (i := 5) rfl)
theorem zm_86 : (Jvm.Cond.soleField "DiceForge" "parts") ∈ zc_W := zk_1 _ (List.mem_of_getElem? (i := 6) rfl)
theorem zm_87 : (Jvm.Cond.laysFinal "DiceForge" "DiceForge" "tally" "[I") ∈ zc_W := zk_1 _ (List.mem_of_getElem? (i := 7) rfl)
theorem zm_88 : (Jvm.Cond.soleField "DiceForge" "tally") ∈ zc_W := zk_1 _ (List.mem_of_getElem? (i := 8) rfl)
theorem zm_89 : (Jvm.Cond.superclass "DiceForge" "java/lang/Object") ∈ zc_W := zk_1 _ (List.mem_of_getElem? (i := 9) rfl)
theorem zm_90 : (Jvm.Cond.arrayClass Jvm.ClassFile.FieldType.int) ∈ zc_W := zk_1 _ (List.mem_of_getElem? (i := 10) rfl)
theorem zm_91 : (Jvm.Cond.methodLink "DiceForgeLaw" (108 : Nat) ({ cls := "DiceForge", name := "entries", desc := "()I" } : Jvm.MethodName)) ∈ zc_W := zk_1 _ (List.mem_of_getElem? (i := 11) rfl)
theorem zm_92 : (Jvm.Cond.instanceMethod ({ cls := "DiceForge", name := "entries", desc := "()I" } : Jvm.MethodName)) ∈ zc_W := zk_1 _ (List.mem_of_getElem? (i := 12) rfl)
theorem zm_93 : (Jvm.Cond.selects "DiceForge" ({ cls := "DiceForge", name := "entries", desc := "()I" } : Jvm.MethodName) ({ cls := "DiceForge", name := "entries", desc := "()I" } : Jvm.MethodName)) ∈ zc_W := zk_1 _ (List.mem_of_getElem? (i := 13) rfl)
theorem zm_94 : (Jvm.Cond.code ({ cls := "DiceForge", name := "entries", desc := "()I" } : Jvm.MethodName) prog_1_method_9_code (1 : Nat) (Option.some Jvm.ClassFile.FieldType.int)) ∈ zc_W := zk_1 _ (List.mem_of_getElem? (i := 14) rfl)
theorem zm_95 : (Jvm.Cond.methodLink "DiceForge" (34 : Nat) ({ cls := "java/util/ArrayList", name := "size", desc := "()I" } : Jvm.MethodName)) ∈ zc_W := zk_1 _ (List.mem_of_getElem? (i := 15) rfl)
theorem zm_96 : (Jvm.Cond.instanceMethod ({ cls := "java/util/ArrayList", name := "size", desc := "()I" } : Jvm.MethodName)) ∈ zc_W := zk_1 _ (List.mem_of_getElem? (i := 16) rfl)
theorem zm_97 : (Jvm.Cond.selects "java/util/ArrayList" ({ cls := "java/util/ArrayList", name := "size", desc := "()I" } : Jvm.MethodName) ({ cls := "java/util/ArrayList", name := "size", desc := "()I" } : Jvm.MethodName)) ∈ zc_W := zk_1 _ (List.mem_of_getElem? (i := 17) rfl)
theorem zm_98 : (Jvm.Cond.code ({ cls := "java/util/ArrayList", name := "size", desc := "()I" } : Jvm.MethodName) prog_21_method_8_code (1 : Nat) (Option.some Jvm.ClassFile.FieldType.int)) ∈ zc_W := zk_1 _ (List.mem_of_getElem? (i := 18) rfl)
theorem zm_99 : (Jvm.Cond.methodLink "DiceForgeLaw" (124 : Nat) ({ cls := "DiceForge", name := "broken", desc := "()I" } : Jvm.MethodName)) ∈ zc_W := zk_1 _ (List.mem_of_getElem? (i := 19) rfl)
theorem zm_100 : (Jvm.Cond.instanceMethod ({ cls := "DiceForge", name := "broken", desc := "()I" } : Jvm.MethodName)) ∈ zc_W := zk_1 _ (List.mem_of_getElem? (i := 20) rfl)
theorem zm_101 : (Jvm.Cond.selects "DiceForge" ({ cls := "DiceForge", name := "broken", desc := "()I" } : Jvm.MethodName) ({ cls := "DiceForge", name := "broken", desc := "()I" } : Jvm.MethodName)) ∈ zc_W := zk_1 _ (List.mem_of_getElem? (i := 21) rfl)
theorem zm_102 : (Jvm.Cond.code ({ cls := "DiceForge", name := "broken", desc := "()I" } : Jvm.MethodName) prog_1_method_14_code (4 : Nat) (Option.some Jvm.ClassFile.FieldType.int)) ∈ zc_W := zk_1 _ (List.mem_of_getElem? (i := 22) rfl)
theorem zm_103 : (Jvm.Cond.methodLink "DiceForge" (141 : Nat) ({ cls := "java/util/ArrayList", name := "get", desc := "(I)Ljava/lang/Object;" } : Jvm.MethodName)) ∈ zc_W := zk_1 _ (List.mem_of_getElem? (i := 23) rfl)
theorem zm_104 : (Jvm.Cond.instanceMethod ({ cls := "java/util/ArrayList", name := "get", desc := "(I)Ljava/lang/Object;" } : Jvm.MethodName)) ∈ zc_W := zk_1 _ (List.mem_of_getElem? (i := 24) rfl)
theorem zm_105 : (Jvm.Cond.selects "java/util/ArrayList" ({ cls := "java/util/ArrayList", name := "get", desc := "(I)Ljava/lang/Object;" } : Jvm.MethodName) ({ cls := "java/util/ArrayList", name := "get", desc := "(I)Ljava/lang/Object;" } : Jvm.MethodName)) ∈ zc_W := zk_1 _ (List.mem_of_getElem? (i := 25) rfl)
theorem zm_106 : (Jvm.Cond.code ({ cls := "java/util/ArrayList", name := "get", desc := "(I)Ljava/lang/Object;" } : Jvm.MethodName) prog_21_method_20_code (2 : Nat) (Option.some (Jvm.ClassFile.FieldType.object "java/lang/Object"))) ∈ zc_W := zk_1 _ (List.mem_of_getElem? (i := 26) rfl)
theorem zm_107 : (Jvm.Cond.methodLink "java/util/ArrayList" (118 : Nat) ({ cls := "java/util/Objects", name := "checkIndex", desc := "(II)I" } : Jvm.MethodName)) ∈ zc_W := zk_1 _ (List.mem_of_getElem? (i := 27) rfl)
theorem zm_108 : (Jvm.Cond.static ({ cls := "java/util/Objects", name := "checkIndex", desc := "(II)I" } : Jvm.MethodName)) ∈ zc_W := zk_1 _ (List.mem_of_getElem? (i := 28) rfl)
theorem zm_109 : (Jvm.Cond.code ({ cls := "java/util/Objects", name := "checkIndex", desc := "(II)I" } : Jvm.MethodName) prog_25_method_17_code (2 : Nat) (Option.some Jvm.ClassFile.FieldType.int)) ∈ zc_W := zk_1 _ (List.mem_of_getElem? (i := 29) rfl)
theorem zm_110 : (Jvm.Cond.methodLink "java/util/Objects" (105 : Nat) ({ cls := "jdk/internal/util/Preconditions", name := "checkIndex", desc := "(IILjava/util/function/BiFunction;)I" } : Jvm.MethodName)) ∈ zc_W := zk_1 _ (List.mem_of_getElem? (i := 30) rfl)
theorem zm_111 : (Jvm.Cond.static ({ cls := "jdk/internal/util/Preconditions", name := "checkIndex", desc := "(IILjava/util/function/BiFunction;)I" } : Jvm.MethodName)) ∈ zc_W := zk_1 _ (List.mem_of_getElem? (i := 31) rfl)
theorem zm_112 : (Jvm.Cond.code ({ cls := "jdk/internal/util/Preconditions", name := "checkIndex", desc := "(IILjava/util/function/BiFunction;)I" } : Jvm.MethodName) prog_29_method_11_code (3 : Nat) (Option.some Jvm.ClassFile.FieldType.int)) ∈ zc_W := zk_1 _ (List.mem_of_getElem? (i := 32) rfl)
theorem zm_113 : (Jvm.Cond.methodLink "java/util/ArrayList" (123 : Nat) ({ cls := "java/util/ArrayList", name := "elementData", desc := "(I)Ljava/lang/Object;" } : Jvm.MethodName)) ∈ zc_W := zk_1 _ (List.mem_of_getElem? (i := 33) rfl)
theorem zm_114 : (Jvm.Cond.instanceMethod ({ cls := "java/util/ArrayList", name := "elementData", desc := "(I)Ljava/lang/Object;" } : Jvm.MethodName)) ∈ zc_W := zk_1 _ (List.mem_of_getElem? (i := 34) rfl)
theorem zm_115 : (Jvm.Cond.selects "java/util/ArrayList" ({ cls := "java/util/ArrayList", name := "elementData", desc := "(I)Ljava/lang/Object;" } : Jvm.MethodName) ({ cls := "java/util/ArrayList", name := "elementData", desc := "(I)Ljava/lang/Object;" } : Jvm.MethodName)) ∈ zc_W := zk_1 _ (List.mem_of_getElem? (i := 35) rfl)
theorem zm_116 : (Jvm.Cond.code ({ cls := "java/util/ArrayList", name := "elementData", desc := "(I)Ljava/lang/Object;" } : Jvm.MethodName) prog_21_method_18_code (2 : Nat) (Option.some (Jvm.ClassFile.FieldType.object "java/lang/Object"))) ∈ zc_W := zk_1 _ (List.mem_of_getElem? (i := 36) rfl)
theorem zm_117 : (Jvm.Cond.classLink "DiceForge" (92 : Nat) "DiceForge$Entry") ∈ zc_W := zk_1 _ (List.mem_of_getElem? (i := 37) rfl)
theorem zm_118 : (Jvm.Cond.instanceMethod ({ cls := "DiceForge$Entry", name := "sumAfter", desc := "(I)I" } : Jvm.MethodName)) ∈ zc_W := zk_1 _ (List.mem_of_getElem? (i := 38) rfl)
theorem zm_119 : (Jvm.Cond.instantiable "DiceForge$Entry" (8 : Nat)) ∈ zc_W := zk_1 _ (List.mem_of_getElem? (i := 39) rfl)
theorem zm_120 : (Jvm.Cond.code ({ cls := "DiceForge$Entry", name := "sumAfter", desc := "(I)I" } : Jvm.MethodName) prog_3_method_2_code (3 : Nat) (Option.some Jvm.ClassFile.FieldType.int)) ∈ zc_W := zk_1 _ (List.mem_of_getElem? (i := 40) rfl)
theorem zm_121 : (Jvm.Cond.constant "DiceForge$Entry" (30 : Nat) (1000003 : Int32)) ∈ zc_W := zk_1 _ (List.mem_of_getElem? (i := 41) rfl)
theorem zm_122 : (Jvm.Cond.methodLink "DiceForgeLaw" (78 : Nat) ({ cls := "DiceForgeLaw", name := "promise", desc := "(LDiceForge;I[J)I" } : Jvm.MethodName)) ∈ zc_W := zk_1 _ (List.mem_of_getElem? (i := 42) rfl)
theorem zm_123 : (Jvm.Cond.static ({ cls := "DiceForgeLaw", name := "promise", desc := "(LDiceForge;I[J)I" } : Jvm.MethodName)) ∈ zc_W := zk_1 _ (List.mem_of_getElem? (i := 43) rfl)
theorem zm_124 : (Jvm.Cond.codeWith ({ cls := "DiceForgeLaw", name := "promise", desc := "(LDiceForge;I[J)I" } : Jvm.MethodName) method_3_code (4 : Nat) (Option.some Jvm.ClassFile.FieldType.int) [((0 : Nat), (9 : Nat), (12 : Nat), (13 : Nat)), ((0 : Nat), (9 : Nat), (15 : Nat), (15 : Nat))]) ∈ zc_W := zk_1 _ (List.mem_of_getElem? (i := 44) rfl)
theorem zm_125 : (Jvm.Cond.classLink "DiceForgeLaw" (13 : Nat) "java/lang/IllegalArgumentException") ∈ zc_W := zk_1 _ (List.mem_of_getElem? (i := 45) rfl)
theorem zm_126 : (Jvm.Cond.classLink "DiceForgeLaw" (15 : Nat) "java/lang/IllegalStateException") ∈ zc_W := zk_1 _ (List.mem_of_getElem? (i := 46) rfl)
theorem zm_127 : (Jvm.Cond.methodLink "DiceForgeLaw" (7 : Nat) ({ cls := "DiceForge", name := "promise", desc := "(I)I" } : Jvm.MethodName)) ∈ zc_W := zk_1 _ (List.mem_of_getElem? (i := 47) rfl)
theorem zm_128 : (Jvm.Cond.instanceMethod ({ cls := "DiceForge", name := "promise", desc := "(I)I" } : Jvm.MethodName)) ∈ zc_W := zk_1 _ (List.mem_of_getElem? (i := 48) rfl)
theorem zm_129 : (Jvm.Cond.selects "DiceForge" ({ cls := "DiceForge", name := "promise", desc := "(I)I" } : Jvm.MethodName) ({ cls := "DiceForge", name := "promise", desc := "(I)I" } : Jvm.MethodName)) ∈ zc_W := zk_1 _ (List.mem_of_getElem? (i := 49) rfl)
theorem zm_130 : (Jvm.Cond.code ({ cls := "DiceForge", name := "promise", desc := "(I)I" } : Jvm.MethodName) prog_1_method_2_code (2 : Nat) (Option.some Jvm.ClassFile.FieldType.int)) ∈ zc_W := zk_1 _ (List.mem_of_getElem? (i := 50) rfl)
theorem zm_131 : (Jvm.Cond.constant "DiceForge" (26 : Nat) (65536 : Int32)) ∈ zc_W := zk_1 _ (List.mem_of_getElem? (i := 51) rfl)
theorem zm_132 : (Jvm.Cond.classLink "DiceForge" (27 : Nat) "java/lang/IllegalArgumentException") ∈ zc_W := zk_1 _ (List.mem_of_getElem? (i := 52) rfl)
theorem zm_133 : (Jvm.Cond.instantiable "java/lang/IllegalArgumentException" (6 : Nat)) ∈ zc_W := zk_1 _ (List.mem_of_getElem? (i := 53) rfl)
theorem zm_134 : (Jvm.Cond.selects "java/lang/IllegalArgumentException" ({ cls := "java/lang/Throwable", name := "fillInStackTrace", desc := "(I)Ljava/lang/Throwable;" } : Jvm.MethodName) ({ cls := "java/lang/Throwable", name := "fillInStackTrace", desc := "(I)Ljava/lang/Throwable;" } : Jvm.MethodName)) ∈ zc_W := zk_1 _ (List.mem_of_getElem? (i := 54) rfl)
theorem zm_135 : (Jvm.Cond.selects "java/lang/IllegalArgumentException" ({ cls := "java/lang/Throwable", name := "fillInStackTrace", desc := "()Ljava/lang/Throwable;" } : Jvm.MethodName) ({ cls := "java/lang/Throwable", name := "fillInStackTrace", desc := "()Ljava/lang/Throwable;" } : Jvm.MethodName)) ∈ zc_W := zk_1 _ (List.mem_of_getElem? (i := 55) rfl)
theorem zm_136 : (Jvm.Cond.lays "java/lang/IllegalArgumentException" "java/lang/Throwable" "cause" "Ljava/lang/Throwable;") ∈ zc_W := zk_1 _ (List.mem_of_getElem? (i := 56) rfl)
theorem zm_137 : (Jvm.Cond.lays "java/lang/Throwable" "java/lang/Throwable" "cause" "Ljava/lang/Throwable;") ∈ zc_W := zk_1 _ (List.mem_of_getElem? (i := 57) rfl)
theorem zm_138 : (Jvm.Cond.lays "java/lang/IllegalArgumentException" "java/lang/Throwable" "stackTrace" "[Ljava/lang/StackTraceElement;") ∈ zc_W := zk_1 _ (List.mem_of_getElem? (i := 58) rfl)
theorem zm_139 : (Jvm.Cond.lays "java/lang/Throwable" "java/lang/Throwable" "stackTrace" "[Ljava/lang/StackTraceElement;") ∈ zc_W := zk_1 _ (List.mem_of_getElem? (i := 59) rfl)
theorem zm_140 : (Jvm.Cond.lays "java/lang/IllegalArgumentException" "java/lang/Throwable" "suppressedExceptions" "Ljava/util/List;") ∈ zc_W := zk_1 _ (List.mem_of_getElem? (i := 60) rfl)
theorem zm_141 : (Jvm.Cond.lays "java/lang/Throwable" "java/lang/Throwable" "suppressedExceptions" "Ljava/util/List;") ∈ zc_W := zk_1 _ (List.mem_of_getElem? (i := 61) rfl)
theorem zm_142 : (Jvm.Cond.lays "java/lang/IllegalArgumentException" "java/lang/Throwable" "detailMessage" "Ljava/lang/String;") ∈ zc_W := zk_1 _ (List.mem_of_getElem? (i := 62) rfl)
theorem zm_143 : (Jvm.Cond.lays "java/lang/Throwable" "java/lang/Throwable" "detailMessage" "Ljava/lang/String;") ∈ zc_W := zk_1 _ (List.mem_of_getElem? (i := 63) rfl)
theorem zm_144 : (Jvm.Cond.lays "java/lang/IllegalArgumentException" "java/lang/Throwable" "backtrace" "Ljava/lang/Object;") ∈ zc_W := zk_1 _ (List.mem_of_getElem? (i := 64) rfl)
theorem zm_145 : (Jvm.Cond.lays "java/lang/Throwable" "java/lang/Throwable" "backtrace" "Ljava/lang/Object;") ∈ zc_W := zk_1 _ (List.mem_of_getElem? (i := 65) rfl)
theorem zm_146 : (Jvm.Cond.fieldLink "java/lang/Throwable" (198 : Nat) "java/lang/Throwable" "backtrace" "Ljava/lang/Object;") ∈ zc_W := zk_1 _ (List.mem_of_getElem? (i := 66) rfl)
theorem zm_147 : (Jvm.Cond.superclass "java/lang/Throwable" "java/lang/Object") ∈ zc_W := zk_1 _ (List.mem_of_getElem? (i := 67) rfl)
theorem zm_148 : (Jvm.Cond.instanceMethod ({ cls := "java/lang/Throwable", name := "<init>", desc := "()V" } : Jvm.MethodName)) ∈ zc_W := zk_1 _ (List.mem_of_getElem? (i := 68) rfl)
theorem zm_149 : (Jvm.Cond.code ({ cls := "java/lang/Throwable", name := "<init>", desc := "()V" } : Jvm.MethodName) prog_18_method_1_code (1 : Nat) (Option.none : Option Jvm.ClassFile.FieldType)) ∈ zc_W := zk_1 _ (List.mem_of_getElem? (i := 69) rfl)
theorem zm_150 : (Jvm.Cond.methodLink "java/lang/Throwable" (1 : Nat) ({ cls := "java/lang/Object", name := "<init>", desc := "()V" } : Jvm.MethodName)) ∈ zc_W := zk_1 _ (List.mem_of_getElem? (i := 70) rfl)
theorem zm_151 : (Jvm.Cond.fieldLink "java/lang/Throwable" (13 : Nat) "java/lang/Throwable" "UNASSIGNED_STACK" "[Ljava/lang/StackTraceElement;") ∈ zc_W := zk_1 _ (List.mem_of_getElem? (i := 71) rfl)
theorem zm_152 : (Jvm.Cond.fieldLink "java/lang/Throwable" (20 : Nat) "java/lang/Throwable" "SUPPRESSED_SENTINEL" "Ljava/util/List;") ∈ zc_W := zk_1 _ (List.mem_of_getElem? (i := 72) rfl)
theorem zm_153 : (Jvm.Cond.methodLink "java/lang/Throwable" (27 : Nat) ({ cls := "java/lang/Throwable", name := "fillInStackTrace", desc := "()Ljava/lang/Throwable;" } : Jvm.MethodName)) ∈ zc_W := zk_1 _ (List.mem_of_getElem? (i := 73) rfl)
theorem zm_154 : (Jvm.Cond.instanceMethod ({ cls := "java/lang/Throwable", name := "fillInStackTrace", desc := "()Ljava/lang/Throwable;" } : Jvm.MethodName)) ∈ zc_W := zk_1 _ (List.mem_of_getElem? (i := 74) rfl)
theorem zm_155 : (Jvm.Cond.sameMethod "java/lang/Throwable" "java/lang/Throwable" "fillInStackTrace" "()Ljava/lang/Throwable;") ∈ zc_W := zk_1 _ (List.mem_of_getElem? (i := 75) rfl)
theorem zm_156 : (Jvm.Cond.selects "java/lang/IllegalStateException" ({ cls := "java/lang/Throwable", name := "fillInStackTrace", desc := "()Ljava/lang/Throwable;" } : Jvm.MethodName) ({ cls := "java/lang/Throwable", name := "fillInStackTrace", desc := "()Ljava/lang/Throwable;" } : Jvm.MethodName)) ∈ zc_W := zk_1 _ (List.mem_of_getElem? (i := 76) rfl)
theorem zm_157 : (Jvm.Cond.selects "java/lang/IndexOutOfBoundsException" ({ cls := "java/lang/Throwable", name := "fillInStackTrace", desc := "()Ljava/lang/Throwable;" } : Jvm.MethodName) ({ cls := "java/lang/Throwable", name := "fillInStackTrace", desc := "()Ljava/lang/Throwable;" } : Jvm.MethodName)) ∈ zc_W := zk_1 _ (List.mem_of_getElem? (i := 77) rfl)
theorem zm_158 : (Jvm.Cond.codeSync ({ cls := "java/lang/Throwable", name := "fillInStackTrace", desc := "()Ljava/lang/Throwable;" } : Jvm.MethodName) prog_18_method_18_code (1 : Nat) (Option.some (Jvm.ClassFile.FieldType.object "java/lang/Throwable"))) ∈ zc_W := zk_1 _ (List.mem_of_getElem? (i := 78) rfl)
theorem zm_159 : (Jvm.Cond.methodLink "java/lang/Throwable" (202 : Nat) ({ cls := "java/lang/Throwable", name := "fillInStackTrace", desc := "(I)Ljava/lang/Throwable;" } : Jvm.MethodName)) ∈ zc_W := zk_1 _ (List.mem_of_getElem? (i := 79) rfl)
theorem zm_160 : (Jvm.Cond.instanceMethod ({ cls := "java/lang/Throwable", name := "fillInStackTrace", desc := "(I)Ljava/lang/Throwable;" } : Jvm.MethodName)) ∈ zc_W := zk_2 _ (List.mem_of_getElem? (i := 0) rfl)
theorem zm_161 : (Jvm.Cond.instantiable "java/lang/Throwable" (6 : Nat)) ∈ zc_W := zk_2 _ (List.mem_of_getElem? (i := 1) rfl)
theorem zm_162 : (Jvm.Cond.native ({ cls := "java/lang/Throwable", name := "fillInStackTrace", desc := "(I)Ljava/lang/Throwable;" } : Jvm.MethodName)) ∈ zc_W := zk_2 _ (List.mem_of_getElem? (i := 2) rfl)
theorem zm_163 : (Jvm.Cond.methodLink "DiceForge" (31 : Nat) ({ cls := "java/lang/IllegalArgumentException", name := "<init>", desc := "(Ljava/lang/String;)V" } : Jvm.MethodName)) ∈ zc_W := zk_2 _ (List.mem_of_getElem? (i := 3) rfl)
theorem zm_164 : (Jvm.Cond.instanceMethod ({ cls := "java/lang/IllegalArgumentException", name := "<init>", desc := "(Ljava/lang/String;)V" } : Jvm.MethodName)) ∈ zc_W := zk_2 _ (List.mem_of_getElem? (i := 4) rfl)
theorem zm_165 : (Jvm.Cond.code ({ cls := "java/lang/IllegalArgumentException", name := "<init>", desc := "(Ljava/lang/String;)V" } : Jvm.MethodName) prog_10_method_2_code (2 : Nat) (Option.none : Option Jvm.ClassFile.FieldType)) ∈ zc_W := zk_2 _ (List.mem_of_getElem? (i := 5) rfl)
theorem zm_166 : (Jvm.Cond.methodLink "java/lang/IllegalArgumentException" (7 : Nat) ({ cls := "java/lang/RuntimeException", name := "<init>", desc := "(Ljava/lang/String;)V" } : Jvm.MethodName)) ∈ zc_W := zk_2 _ (List.mem_of_getElem? (i := 6) rfl)
theorem zm_167 : (Jvm.Cond.instanceMethod ({ cls := "java/lang/RuntimeException", name := "<init>", desc := "(Ljava/lang/String;)V" } : Jvm.MethodName)) ∈ zc_W := zk_2 _ (List.mem_of_getElem? (i := 7) rfl)
theorem zm_168 : (Jvm.Cond.code ({ cls := "java/lang/RuntimeException", name := "<init>", desc := "(Ljava/lang/String;)V" } : Jvm.MethodName) prog_15_method_2_code (2 : Nat) (Option.none : Option Jvm.ClassFile.FieldType)) ∈ zc_W := zk_2 _ (List.mem_of_getElem? (i := 8) rfl)
theorem zm_169 : (Jvm.Cond.methodLink "java/lang/RuntimeException" (7 : Nat) ({ cls := "java/lang/Exception", name := "<init>", desc := "(Ljava/lang/String;)V" } : Jvm.MethodName)) ∈ zc_W := zk_2 _ (List.mem_of_getElem? (i := 9) rfl)
theorem zm_170 : (Jvm.Cond.instanceMethod ({ cls := "java/lang/Exception", name := "<init>", desc := "(Ljava/lang/String;)V" } : Jvm.MethodName)) ∈ zc_W := zk_2 _ (List.mem_of_getElem? (i := 10) rfl)
theorem zm_171 : (Jvm.Cond.code ({ cls := "java/lang/Exception", name := "<init>", desc := "(Ljava/lang/String;)V" } : Jvm.MethodName) prog_9_method_2_code (2 : Nat) (Option.none : Option Jvm.ClassFile.FieldType)) ∈ zc_W := zk_2 _ (List.mem_of_getElem? (i := 11) rfl)
theorem zm_172 : (Jvm.Cond.methodLink "java/lang/Exception" (7 : Nat) ({ cls := "java/lang/Throwable", name := "<init>", desc := "(Ljava/lang/String;)V" } : Jvm.MethodName)) ∈ zc_W := zk_2 _ (List.mem_of_getElem? (i := 12) rfl)
theorem zm_173 : (Jvm.Cond.instanceMethod ({ cls := "java/lang/Throwable", name := "<init>", desc := "(Ljava/lang/String;)V" } : Jvm.MethodName)) ∈ zc_W := zk_2 _ (List.mem_of_getElem? (i := 13) rfl)
theorem zm_174 : (Jvm.Cond.code ({ cls := "java/lang/Throwable", name := "<init>", desc := "(Ljava/lang/String;)V" } : Jvm.MethodName) prog_18_method_2_code (2 : Nat) (Option.none : Option Jvm.ClassFile.FieldType)) ∈ zc_W := zk_2 _ (List.mem_of_getElem? (i := 14) rfl)
theorem zm_175 : (Jvm.Cond.fieldLink "java/lang/Throwable" (198 : Nat) "java/lang/Throwable" "backtrace" "Ljava/lang/Object;") ∈ zc_W := zk_2 _ (List.mem_of_getElem? (i := 15) rfl)
theorem zm_176 : (Jvm.Cond.fieldLink "java/lang/Throwable" (31 : Nat) "java/lang/Throwable" "detailMessage" "Ljava/lang/String;") ∈ zc_W := zk_2 _ (List.mem_of_getElem? (i := 16) rfl)
theorem zm_177 : (Jvm.Cond.fieldLink "java/lang/Throwable" (7 : Nat) "java/lang/Throwable" "cause" "Ljava/lang/Throwable;") ∈ zc_W := zk_2 _ (List.mem_of_getElem? (i := 17) rfl)
theorem zm_178 : (Jvm.Cond.fieldLink "java/lang/Throwable" (17 : Nat) "java/lang/Throwable" "stackTrace" "[Ljava/lang/StackTraceElement;") ∈ zc_W := zk_2 _ (List.mem_of_getElem? (i := 18) rfl)
theorem zm_179 : (Jvm.Cond.fieldLink "java/lang/Throwable" (24 : Nat) "java/lang/Throwable" "suppressedExceptions" "Ljava/util/List;") ∈ zc_W := zk_2 _ (List.mem_of_getElem? (i := 19) rfl)
theorem zm_180 : (Jvm.Cond.soleField "java/lang/Throwable" "backtrace") ∈ zc_W := zk_2 _ (List.mem_of_getElem? (i := 20) rfl)
theorem zm_181 : (Jvm.Cond.soleField "java/lang/Throwable" "detailMessage") ∈ zc_W := zk_2 _ (List.mem_of_getElem? (i := 21) rfl)
theorem zm_182 : (Jvm.Cond.soleField "java/lang/Throwable" "cause") ∈ zc_W := zk_2 _ (List.mem_of_getElem? (i := 22) rfl)
theorem zm_183 : (Jvm.Cond.soleField "java/lang/Throwable" "stackTrace") ∈ zc_W := zk_2 _ (List.mem_of_getElem? (i := 23) rfl)
theorem zm_184 : (Jvm.Cond.lays "java/lang/IllegalArgumentException" "java/lang/Throwable" "depth" "I") ∈ zc_W := zk_2 _ (List.mem_of_getElem? (i := 24) rfl)
theorem zm_185 : (Jvm.Cond.soleField "java/lang/Throwable" "depth") ∈ zc_W := zk_2 _ (List.mem_of_getElem? (i := 25) rfl)
theorem zm_186 : (Jvm.Cond.soleField "java/lang/Throwable" "suppressedExceptions") ∈ zc_W := zk_2 _ (List.mem_of_getElem? (i := 26) rfl)
theorem zm_187 : (Jvm.Cond.superclass "java/lang/IllegalArgumentException" "java/lang/RuntimeException") ∈ zc_W := zk_2 _ (List.mem_of_getElem? (i := 27) rfl)
theorem zm_188 : (Jvm.Cond.arrayClass Jvm.ClassFile.FieldType.byte) ∈ zc_W := zk_2 _ (List.mem_of_getElem? (i := 28) rfl)
theorem zm_189 : (Jvm.Cond.classLink "DiceForge" (38 : Nat) "java/lang/IllegalStateException") ∈ zc_W := zk_2 _ (List.mem_of_getElem? (i := 29) rfl)
theorem zm_190 : (Jvm.Cond.instantiable "java/lang/IllegalStateException" (6 : Nat)) ∈ zc_W := zk_2 _ (List.mem_of_getElem? (i := 30) rfl)
theorem zm_191 : (Jvm.Cond.selects "java/lang/IllegalStateException" ({ cls := "java/lang/Throwable", name := "fillInStackTrace", desc := "(I)Ljava/lang/Throwable;" } : Jvm.MethodName) ({ cls := "java/lang/Throwable", name := "fillInStackTrace", desc := "(I)Ljava/lang/Throwable;" } : Jvm.MethodName)) ∈ zc_W := zk_2 _ (List.mem_of_getElem? (i := 31) rfl)
theorem zm_192 : (Jvm.Cond.lays "java/lang/IllegalStateException" "java/lang/Throwable" "cause" "Ljava/lang/Throwable;") ∈ zc_W := zk_2 _ (List.mem_of_getElem? (i := 32) rfl)
theorem zm_193 : (Jvm.Cond.lays "java/lang/IllegalStateException" "java/lang/Throwable" "stackTrace" "[Ljava/lang/StackTraceElement;") ∈ zc_W := zk_2 _ (List.mem_of_getElem? (i := 33) rfl)
theorem zm_194 : (Jvm.Cond.lays "java/lang/IllegalStateException" "java/lang/Throwable" "suppressedExceptions" "Ljava/util/List;") ∈ zc_W := zk_2 _ (List.mem_of_getElem? (i := 34) rfl)
theorem zm_195 : (Jvm.Cond.lays "java/lang/IllegalStateException" "java/lang/Throwable" "detailMessage" "Ljava/lang/String;") ∈ zc_W := zk_2 _ (List.mem_of_getElem? (i := 35) rfl)
theorem zm_196 : (Jvm.Cond.lays "java/lang/IllegalStateException" "java/lang/Throwable" "backtrace" "Ljava/lang/Object;") ∈ zc_W := zk_2 _ (List.mem_of_getElem? (i := 36) rfl)
theorem zm_197 : (Jvm.Cond.methodLink "DiceForge" (42 : Nat) ({ cls := "java/lang/IllegalStateException", name := "<init>", desc := "(Ljava/lang/String;)V" } : Jvm.MethodName)) ∈ zc_W := zk_2 _ (List.mem_of_getElem? (i := 37) rfl)
theorem zm_198 : (Jvm.Cond.instanceMethod ({ cls := "java/lang/IllegalStateException", name := "<init>", desc := "(Ljava/lang/String;)V" } : Jvm.MethodName)) ∈ zc_W := zk_2 _ (List.mem_of_getElem? (i := 38) rfl)
theorem zm_199 : (Jvm.Cond.code ({ cls := "java/lang/IllegalStateException", name := "<init>", desc := "(Ljava/lang/String;)V" } : Jvm.MethodName) prog_11_method_2_code (2 : Nat) (Option.none : Option Jvm.ClassFile.FieldType)) ∈ zc_W := zk_2 _ (List.mem_of_getElem? (i := 39) rfl)
theorem zm_200 : (Jvm.Cond.methodLink "java/lang/IllegalStateException" (7 : Nat) ({ cls := "java/lang/RuntimeException", name := "<init>", desc := "(Ljava/lang/String;)V" } : Jvm.MethodName)) ∈ zc_W := zk_2 _ (List.mem_of_getElem? (i := 40) rfl)
theorem zm_201 : (Jvm.Cond.lays "java/lang/IllegalStateException" "java/lang/Throwable" "depth" "I") ∈ zc_W := zk_2 _ (List.mem_of_getElem? (i := 41) rfl)
theorem zm_202 : (Jvm.Cond.superclass "java/lang/IllegalStateException" "java/lang/RuntimeException") ∈ zc_W := zk_2 _ (List.mem_of_getElem? (i := 42) rfl)
theorem zm_203 : (Jvm.Cond.classLink "DiceForge" (43 : Nat) "DiceForge$Promise") ∈ zc_W := zk_2 _ (List.mem_of_getElem? (i := 43) rfl)
theorem zm_204 : (Jvm.Cond.instantiable "DiceForge$Promise" (4 : Nat)) ∈ zc_W := zk_2 _ (List.mem_of_getElem? (i := 44) rfl)
theorem zm_205 : (Jvm.Cond.instanceMethod ({ cls := "DiceForge$Promise", name := "<init>", desc := "(I)V" } : Jvm.MethodName)) ∈ zc_W := zk_2 _ (List.mem_of_getElem? (i := 45) rfl)
theorem zm_206 : (Jvm.Cond.code ({ cls := "DiceForge$Promise", name := "<init>", desc := "(I)V" } : Jvm.MethodName) prog_4_method_1_code (2 : Nat) (Option.none : Option Jvm.ClassFile.FieldType)) ∈ zc_W := zk_2 _ (List.mem_of_getElem? (i := 46) rfl)
theorem zm_207 : (Jvm.Cond.methodLink "DiceForge$Promise" (1 : Nat) ({ cls := "java/lang/Object", name := "<init>", desc := "()V" } : Jvm.MethodName)) ∈ zc_W := zk_2 _ (List.mem_of_getElem? (i := 47) rfl)
theorem zm_208 : (Jvm.Cond.classLink "DiceForge$Promise" (13 : Nat) "DiceForge$Draws") ∈ zc_W := zk_2 _ (List.mem_of_getElem? (i := 48) rfl)
theorem zm_209 : (Jvm.Cond.instantiable "DiceForge$Draws" (2 : Nat)) ∈ zc_W := zk_2 _ (List.mem_of_getElem? (i := 49) rfl)
theorem zm_210 : (Jvm.Cond.instanceMethod ({ cls := "DiceForge$Draws", name := "<init>", desc := "(I)V" } : Jvm.MethodName)) ∈ zc_W := zk_2 _ (List.mem_of_getElem? (i := 50) rfl)
theorem zm_211 : (Jvm.Cond.code ({ cls := "DiceForge$Draws", name := "<init>", desc := "(I)V" } : Jvm.MethodName) prog_2_method_1_code (2 : Nat) (Option.none : Option Jvm.ClassFile.FieldType)) ∈ zc_W := zk_2 _ (List.mem_of_getElem? (i := 51) rfl)
theorem zm_212 : (Jvm.Cond.methodLink "DiceForge$Draws" (3 : Nat) ({ cls := "java/lang/Object", name := "<init>", desc := "()V" } : Jvm.MethodName)) ∈ zc_W := zk_2 _ (List.mem_of_getElem? (i := 52) rfl)
theorem zm_213 : (Jvm.Cond.fieldLink "DiceForge$Draws" (9 : Nat) "DiceForge$Draws" "state" "I") ∈ zc_W := zk_2 _ (List.mem_of_getElem? (i := 53) rfl)
theorem zm_214 : (Jvm.Cond.fieldLink "DiceForge$Draws" (15 : Nat) "DiceForge$Draws" "rejected" "I") ∈ zc_W := zk_2 _ (List.mem_of_getElem? (i := 54) rfl)
theorem zm_215 : (Jvm.Cond.lays "DiceForge$Draws" "DiceForge$Draws" "state" "I") ∈ zc_W := zk_2 _ (List.mem_of_getElem? (i := 55) rfl)
theorem zm_216 : (Jvm.Cond.soleField "DiceForge$Draws" "state") ∈ zc_W := zk_2 _ (List.mem_of_getElem? (i := 56) rfl)
theorem zm_217 : (Jvm.Cond.lays "DiceForge$Draws" "DiceForge$Draws" "rejected" "I") ∈ zc_W := zk_2 _ (List.mem_of_getElem? (i := 57) rfl)
theorem zm_218 : (Jvm.Cond.soleField "DiceForge$Draws" "rejected") ∈ zc_W := zk_2 _ (List.mem_of_getElem? (i := 58) rfl)
theorem zm_219 : (Jvm.Cond.superclass "DiceForge$Draws" "java/lang/Object") ∈ zc_W := zk_2 _ (List.mem_of_getElem? (i := 59) rfl)
theorem zm_220 : (Jvm.Cond.fieldLink "DiceForge$Promise" (7 : Nat) "DiceForge$Promise" "seed" "I") ∈ zc_W := zk_2 _ (List.mem_of_getElem? (i := 60) rfl)
theorem zm_221 : (Jvm.Cond.fieldLink "DiceForge$Promise" (18 : Nat) "DiceForge$Promise" "draws" "LDiceForge$Draws;") ∈ zc_W := zk_2 _ (List.mem_of_getElem? (i := 61) rfl)
theorem zm_222 : (Jvm.Cond.laysFinal "DiceForge$Promise" "DiceForge$Promise" "seed" "I") ∈ zc_W := zk_2 _ (List.mem_of_getElem? (i := 62) rfl)
theorem zm_223 : (Jvm.Cond.soleField "DiceForge$Promise" "seed") ∈ zc_W := zk_2 _ (List.mem_of_getElem? (i := 63) rfl)
theorem zm_224 : (Jvm.Cond.laysFinal "DiceForge$Promise" "DiceForge$Promise" "draws" "LDiceForge$Draws;") ∈ zc_W := zk_2 _ (List.mem_of_getElem? (i := 64) rfl)
theorem zm_225 : (Jvm.Cond.soleField "DiceForge$Promise" "draws") ∈ zc_W := zk_2 _ (List.mem_of_getElem? (i := 65) rfl)
theorem zm_226 : (Jvm.Cond.lays "DiceForge$Promise" "DiceForge$Promise" "opened" "Z") ∈ zc_W := zk_2 _ (List.mem_of_getElem? (i := 66) rfl)
theorem zm_227 : (Jvm.Cond.soleField "DiceForge$Promise" "opened") ∈ zc_W := zk_2 _ (List.mem_of_getElem? (i := 67) rfl)
theorem zm_228 : (Jvm.Cond.lays "DiceForge$Promise" "DiceForge$Promise" "disputed" "Z") ∈ zc_W := zk_2 _ (List.mem_of_getElem? (i := 68) rfl)
theorem zm_229 : (Jvm.Cond.soleField "DiceForge$Promise" "disputed") ∈ zc_W := zk_2 _ (List.mem_of_getElem? (i := 69) rfl)
theorem zm_230 : (Jvm.Cond.superclass "DiceForge$Promise" "java/lang/Object") ∈ zc_W := zk_2 _ (List.mem_of_getElem? (i := 70) rfl)
theorem zm_231 : (Jvm.Cond.methodLink "DiceForge" (48 : Nat) ({ cls := "java/util/ArrayList", name := "add", desc := "(Ljava/lang/Object;)Z" } : Jvm.MethodName)) ∈ zc_W := zk_2 _ (List.mem_of_getElem? (i := 71) rfl)
theorem zm_232 : (Jvm.Cond.instanceMethod ({ cls := "java/util/ArrayList", name := "add", desc := "(Ljava/lang/Object;)Z" } : Jvm.MethodName)) ∈ zc_W := zk_2 _ (List.mem_of_getElem? (i := 72) rfl)
theorem zm_233 : (Jvm.Cond.selects "java/util/ArrayList" ({ cls := "java/util/ArrayList", name := "add", desc := "(Ljava/lang/Object;)Z" } : Jvm.MethodName) ({ cls := "java/util/ArrayList", name := "add", desc := "(Ljava/lang/Object;)Z" } : Jvm.MethodName)) ∈ zc_W := zk_2 _ (List.mem_of_getElem? (i := 73) rfl)
theorem zm_234 : (Jvm.Cond.code ({ cls := "java/util/ArrayList", name := "add", desc := "(Ljava/lang/Object;)Z" } : Jvm.MethodName) prog_21_method_25_code (2 : Nat) (Option.some Jvm.ClassFile.FieldType.boolean)) ∈ zc_W := zk_2 _ (List.mem_of_getElem? (i := 74) rfl)
theorem zm_235 : (Jvm.Cond.methodLink "java/util/ArrayList" (131 : Nat) ({ cls := "java/util/ArrayList", name := "add", desc := "(Ljava/lang/Object;[Ljava/lang/Object;I)V" } : Jvm.MethodName)) ∈ zc_W := zk_2 _ (List.mem_of_getElem? (i := 75) rfl)
theorem zm_236 : (Jvm.Cond.instanceMethod ({ cls := "java/util/ArrayList", name := "add", desc := "(Ljava/lang/Object;[Ljava/lang/Object;I)V" } : Jvm.MethodName)) ∈ zc_W := zk_2 _ (List.mem_of_getElem? (i := 76) rfl)
theorem zm_237 : (Jvm.Cond.code ({ cls := "java/util/ArrayList", name := "add", desc := "(Ljava/lang/Object;[Ljava/lang/Object;I)V" } : Jvm.MethodName) prog_21_method_24_code (4 : Nat) (Option.none : Option Jvm.ClassFile.FieldType)) ∈ zc_W := zk_2 _ (List.mem_of_getElem? (i := 77) rfl)
theorem zm_238 : (Jvm.Cond.methodLink "java/util/ArrayList" (129 : Nat) ({ cls := "java/util/ArrayList", name := "grow", desc := "()[Ljava/lang/Object;" } : Jvm.MethodName)) ∈ zc_W := zk_2 _ (List.mem_of_getElem? (i := 78) rfl)
theorem zm_239 : (Jvm.Cond.instanceMethod ({ cls := "java/util/ArrayList", name := "grow", desc := "()[Ljava/lang/Object;" } : Jvm.MethodName)) ∈ zc_W := zk_2 _ (List.mem_of_getElem? (i := 79) rfl)
theorem zm_240 : (Jvm.Cond.code ({ cls := "java/util/ArrayList", name := "grow", desc := "()[Ljava/lang/Object;" } : Jvm.MethodName) prog_21_method_7_code (1 : Nat) (Option.some (Jvm.ClassFile.FieldType.array (Jvm.ClassFile.FieldType.object "java/lang/Object")))) ∈ zc_W := zk_3 _ (List.mem_of_getElem? (i := 0) rfl)
theorem zm_241 : (Jvm.Cond.methodLink "java/util/ArrayList" (69 : Nat) ({ cls := "java/util/ArrayList", name := "grow", desc := "(I)[Ljava/lang/Object;" } : Jvm.MethodName)) ∈ zc_W := zk_3 _ (List.mem_of_getElem? (i := 1) rfl)
theorem zm_242 : (Jvm.Cond.instanceMethod ({ cls := "java/util/ArrayList", name := "grow", desc := "(I)[Ljava/lang/Object;" } : Jvm.MethodName)) ∈ zc_W := zk_3 _ (List.mem_of_getElem? (i := 2) rfl)
theorem zm_243 : (Jvm.Cond.code ({ cls := "java/util/ArrayList", name := "grow", desc := "(I)[Ljava/lang/Object;" } : Jvm.MethodName) prog_21_method_6_code (4 : Nat) (Option.some (Jvm.ClassFile.FieldType.array (Jvm.ClassFile.FieldType.object "java/lang/Object")))) ∈ zc_W := zk_3 _ (List.mem_of_getElem? (i := 3) rfl)
theorem zm_244 : (Jvm.Cond.methodLink "java/util/ArrayList" (73 : Nat) ({ cls := "jdk/internal/util/ArraysSupport", name := "newLength", desc := "(III)I" } : Jvm.MethodName)) ∈ zc_W := zk_3 _ (List.mem_of_getElem? (i := 4) rfl)
theorem zm_245 : (Jvm.Cond.static ({ cls := "jdk/internal/util/ArraysSupport", name := "newLength", desc := "(III)I" } : Jvm.MethodName)) ∈ zc_W := zk_3 _ (List.mem_of_getElem? (i := 5) rfl)
theorem zm_246 : (Jvm.Cond.code ({ cls := "jdk/internal/util/ArraysSupport", name := "newLength", desc := "(III)I" } : Jvm.MethodName) prog_28_method_27_code (4 : Nat) (Option.some Jvm.ClassFile.FieldType.int)) ∈ zc_W := zk_3 _ (List.mem_of_getElem? (i := 6) rfl)
theorem zm_247 : (Jvm.Cond.methodLink "jdk/internal/util/ArraysSupport" (194 : Nat) ({ cls := "java/lang/Math", name := "max", desc := "(II)I" } : Jvm.MethodName)) ∈ zc_W := zk_3 _ (List.mem_of_getElem? (i := 7) rfl)
theorem zm_248 : (Jvm.Cond.static ({ cls := "java/lang/Math", name := "max", desc := "(II)I" } : Jvm.MethodName)) ∈ zc_W := zk_3 _ (List.mem_of_getElem? (i := 8) rfl)
theorem zm_249 : (Jvm.Cond.code ({ cls := "java/lang/Math", name := "max", desc := "(II)I" } : Jvm.MethodName) prog_14_method_65_code (2 : Nat) (Option.some Jvm.ClassFile.FieldType.int)) ∈ zc_W := zk_3 _ (List.mem_of_getElem? (i := 9) rfl)
theorem zm_250 : (Jvm.Cond.constant "jdk/internal/util/ArraysSupport" (200 : Nat) (2147483639 : Int32)) ∈ zc_W := zk_3 _ (List.mem_of_getElem? (i := 10) rfl)
theorem zm_251 : (Jvm.Cond.methodLink "jdk/internal/util/ArraysSupport" (201 : Nat) ({ cls := "jdk/internal/util/ArraysSupport", name := "hugeLength", desc := "(II)I" } : Jvm.MethodName)) ∈ zc_W := zk_3 _ (List.mem_of_getElem? (i := 11) rfl)
theorem zm_252 : (Jvm.Cond.static ({ cls := "jdk/internal/util/ArraysSupport", name := "hugeLength", desc := "(II)I" } : Jvm.MethodName)) ∈ zc_W := zk_3 _ (List.mem_of_getElem? (i := 12) rfl)
theorem zm_253 : (Jvm.Cond.code ({ cls := "jdk/internal/util/ArraysSupport", name := "hugeLength", desc := "(II)I" } : Jvm.MethodName) prog_28_method_28_code (3 : Nat) (Option.some Jvm.ClassFile.FieldType.int)) ∈ zc_W := zk_3 _ (List.mem_of_getElem? (i := 13) rfl)
theorem zm_254 : (Jvm.Cond.methodLink "java/util/ArrayList" (66 : Nat) ({ cls := "java/util/Arrays", name := "copyOf", desc := "([Ljava/lang/Object;I)[Ljava/lang/Object;" } : Jvm.MethodName)) ∈ zc_W := zk_3 _ (List.mem_of_getElem? (i := 14) rfl)
theorem zm_255 : (Jvm.Cond.static ({ cls := "java/util/Arrays", name := "copyOf", desc := "([Ljava/lang/Object;I)[Ljava/lang/Object;" } : Jvm.MethodName)) ∈ zc_W := zk_3 _ (List.mem_of_getElem? (i := 15) rfl)
theorem zm_256 : (Jvm.Cond.code ({ cls := "java/util/Arrays", name := "copyOf", desc := "([Ljava/lang/Object;I)[Ljava/lang/Object;" } : Jvm.MethodName) prog_22_method_119_code (2 : Nat) (Option.some (Jvm.ClassFile.FieldType.array (Jvm.ClassFile.FieldType.object "java/lang/Object")))) ∈ zc_W := zk_3 _ (List.mem_of_getElem? (i := 16) rfl)
theorem zm_257 : (Jvm.Cond.methodLink "java/util/Arrays" (86 : Nat) ({ cls := "java/lang/Object", name := "getClass", desc := "()Ljava/lang/Class;" } : Jvm.MethodName)) ∈ zc_W := zk_3 _ (List.mem_of_getElem? (i := 17) rfl)
theorem zm_258 : (Jvm.Cond.instanceMethod ({ cls := "java/lang/Object", name := "getClass", desc := "()Ljava/lang/Class;" } : Jvm.MethodName)) ∈ zc_W := zk_3 _ (List.mem_of_getElem? (i := 18) rfl)
theorem zm_259 : (Jvm.Cond.sameMethod "java/lang/Object" "java/lang/Object" "getClass" "()Ljava/lang/Class;") ∈ zc_W := zk_3 _ (List.mem_of_getElem? (i := 19) rfl)
theorem zm_260 : (Jvm.Cond.selects "DiceForge" ({ cls := "java/lang/Object", name := "getClass", desc := "()Ljava/lang/Class;" } : Jvm.MethodName) ({ cls := "java/lang/Object", name := "getClass", desc := "()Ljava/lang/Class;" } : Jvm.MethodName)) ∈ zc_W := zk_3 _ (List.mem_of_getElem? (i := 20) rfl)
theorem zm_261 : (Jvm.Cond.selects "DiceForge$Draws" ({ cls := "java/lang/Object", name := "getClass", desc := "()Ljava/lang/Class;" } : Jvm.MethodName) ({ cls := "java/lang/Object", name := "getClass", desc := "()Ljava/lang/Class;" } : Jvm.MethodName)) ∈ zc_W := zk_3 _ (List.mem_of_getElem? (i := 21) rfl)
theorem zm_262 : (Jvm.Cond.selects "DiceForge$Entry" ({ cls := "java/lang/Object", name := "getClass", desc := "()Ljava/lang/Class;" } : Jvm.MethodName) ({ cls := "java/lang/Object", name := "getClass", desc := "()Ljava/lang/Class;" } : Jvm.MethodName)) ∈ zc_W := zk_3 _ (List.mem_of_getElem? (i := 22) rfl)
theorem zm_263 : (Jvm.Cond.selects "DiceForge$Promise" ({ cls := "java/lang/Object", name := "getClass", desc := "()Ljava/lang/Class;" } : Jvm.MethodName) ({ cls := "java/lang/Object", name := "getClass", desc := "()Ljava/lang/Class;" } : Jvm.MethodName)) ∈ zc_W := zk_3 _ (List.mem_of_getElem? (i := 23) rfl)
theorem zm_264 : (Jvm.Cond.selects "DiceForgeModel" ({ cls := "java/lang/Object", name := "getClass", desc := "()Ljava/lang/Class;" } : Jvm.MethodName) ({ cls := "java/lang/Object", name := "getClass", desc := "()Ljava/lang/Class;" } : Jvm.MethodName)) ∈ zc_W := zk_3 _ (List.mem_of_getElem? (i := 24) rfl)
theorem zm_265 : (Jvm.Cond.selects "java/lang/IllegalArgumentException" ({ cls := "java/lang/Object", name := "getClass", desc := "()Ljava/lang/Class;" } : Jvm.MethodName) ({ cls := "java/lang/Object", name := "getClass", desc := "()Ljava/lang/Class;" } : Jvm.MethodName)) ∈ zc_W := zk_3 _ (List.mem_of_getElem? (i := 25) rfl)
theorem zm_266 : (Jvm.Cond.selects "java/lang/IllegalStateException" ({ cls := "java/lang/Object", name := "getClass", desc := "()Ljava/lang/Class;" } : Jvm.MethodName) ({ cls := "java/lang/Object", name := "getClass", desc := "()Ljava/lang/Class;" } : Jvm.MethodName)) ∈ zc_W := zk_3 _ (List.mem_of_getElem? (i := 26) rfl)
theorem zm_267 : (Jvm.Cond.selects "java/lang/IndexOutOfBoundsException" ({ cls := "java/lang/Object", name := "getClass", desc := "()Ljava/lang/Class;" } : Jvm.MethodName) ({ cls := "java/lang/Object", name := "getClass", desc := "()Ljava/lang/Class;" } : Jvm.MethodName)) ∈ zc_W := zk_3 _ (List.mem_of_getElem? (i := 27) rfl)
theorem zm_268 : (Jvm.Cond.selects "java/util/ArrayList" ({ cls := "java/lang/Object", name := "getClass", desc := "()Ljava/lang/Class;" } : Jvm.MethodName) ({ cls := "java/lang/Object", name := "getClass", desc := "()Ljava/lang/Class;" } : Jvm.MethodName)) ∈ zc_W := zk_3 _ (List.mem_of_getElem? (i := 28) rfl)
theorem zm_269 : (Jvm.Cond.native ({ cls := "java/lang/Object", name := "getClass", desc := "()Ljava/lang/Class;" } : Jvm.MethodName)) ∈ zc_W := zk_3 _ (List.mem_of_getElem? (i := 29) rfl)
theorem zm_270 : (Jvm.Cond.methodLink "java/util/Arrays" (300 : Nat) ({ cls := "java/util/Arrays", name := "copyOf", desc := "([Ljava/lang/Object;ILjava/lang/Class;)[Ljava/lang/Object;" } : Jvm.MethodName)) ∈ zc_W := zk_3 _ (List.mem_of_getElem? (i := 30) rfl)
theorem zm_271 : (Jvm.Cond.static ({ cls := "java/util/Arrays", name := "copyOf", desc := "([Ljava/lang/Object;ILjava/lang/Class;)[Ljava/lang/Object;" } : Jvm.MethodName)) ∈ zc_W := zk_3 _ (List.mem_of_getElem? (i := 31) rfl)
theorem zm_272 : (Jvm.Cond.code ({ cls := "java/util/Arrays", name := "copyOf", desc := "([Ljava/lang/Object;ILjava/lang/Class;)[Ljava/lang/Object;" } : Jvm.MethodName) prog_22_method_120_code (4 : Nat) (Option.some (Jvm.ClassFile.FieldType.array (Jvm.ClassFile.FieldType.object "java/lang/Object")))) ∈ zc_W := zk_3 _ (List.mem_of_getElem? (i := 32) rfl)
theorem zm_273 : (Jvm.Cond.classLink "java/util/Arrays" (110 : Nat) "[Ljava/lang/Object;") ∈ zc_W := zk_3 _ (List.mem_of_getElem? (i := 33) rfl)
theorem zm_274 : (Jvm.Cond.classLink "java/util/Arrays" (2 : Nat) "java/lang/Object") ∈ zc_W := zk_3 _ (List.mem_of_getElem? (i := 34) rfl)
theorem zm_275 : (Jvm.Cond.methodLink "java/util/Arrays" (304 : Nat) ({ cls := "java/lang/Math", name := "min", desc := "(II)I" } : Jvm.MethodName)) ∈ zc_W := zk_3 _ (List.mem_of_getElem? (i := 35) rfl)
theorem zm_276 : (Jvm.Cond.static ({ cls := "java/lang/Math", name := "min", desc := "(II)I" } : Jvm.MethodName)) ∈ zc_W := zk_3 _ (List.mem_of_getElem? (i := 36) rfl)
theorem zm_277 : (Jvm.Cond.code ({ cls := "java/lang/Math", name := "min", desc := "(II)I" } : Jvm.MethodName) prog_14_method_69_code (2 : Nat) (Option.some Jvm.ClassFile.FieldType.int)) ∈ zc_W := zk_3 _ (List.mem_of_getElem? (i := 37) rfl)
theorem zm_278 : (Jvm.Cond.methodLink "java/util/Arrays" (150 : Nat) ({ cls := "java/lang/System", name := "arraycopy", desc := "(Ljava/lang/Object;ILjava/lang/Object;II)V" } : Jvm.MethodName)) ∈ zc_W := zk_3 _ (List.mem_of_getElem? (i := 38) rfl)
theorem zm_279 : (Jvm.Cond.static ({ cls := "java/lang/System", name := "arraycopy", desc := "(Ljava/lang/Object;ILjava/lang/Object;II)V" } : Jvm.MethodName)) ∈ zc_W := zk_3 _ (List.mem_of_getElem? (i := 39) rfl)
theorem zm_280 : (Jvm.Cond.native ({ cls := "java/lang/System", name := "arraycopy", desc := "(Ljava/lang/Object;ILjava/lang/Object;II)V" } : Jvm.MethodName)) ∈ zc_W := zk_3 _ (List.mem_of_getElem? (i := 40) rfl)
theorem zm_281 : (Jvm.Cond.methodLink "java/util/ArrayList" (79 : Nat) ({ cls := "java/lang/Math", name := "max", desc := "(II)I" } : Jvm.MethodName)) ∈ zc_W := zk_3 _ (List.mem_of_getElem? (i := 41) rfl)
theorem zm_282 : (Jvm.Cond.classLink "java/util/ArrayList" (7 : Nat) "java/lang/Object") ∈ zc_W := zk_3 _ (List.mem_of_getElem? (i := 42) rfl)
theorem zm_283 : (Jvm.Cond.methodLink "DiceForgeLaw" (88 : Nat) ({ cls := "DiceForgeLaw", name := "sign", desc := "(LDiceForge;I[J)I" } : Jvm.MethodName)) ∈ zc_W := zk_3 _ (List.mem_of_getElem? (i := 43) rfl)
theorem zm_284 : (Jvm.Cond.static ({ cls := "DiceForgeLaw", name := "sign", desc := "(LDiceForge;I[J)I" } : Jvm.MethodName)) ∈ zc_W := zk_3 _ (List.mem_of_getElem? (i := 44) rfl)
theorem zm_285 : (Jvm.Cond.codeWith ({ cls := "DiceForgeLaw", name := "sign", desc := "(LDiceForge;I[J)I" } : Jvm.MethodName) method_4_code (4 : Nat) (Option.some Jvm.ClassFile.FieldType.int) [((0 : Nat), (9 : Nat), (12 : Nat), (20 : Nat))]) ∈ zc_W := zk_3 _ (List.mem_of_getElem? (i := 45) rfl)
theorem zm_286 : (Jvm.Cond.classLink "DiceForgeLaw" (20 : Nat) "java/lang/IndexOutOfBoundsException") ∈ zc_W := zk_3 _ (List.mem_of_getElem? (i := 46) rfl)
theorem zm_287 : (Jvm.Cond.methodLink "DiceForgeLaw" (17 : Nat) ({ cls := "DiceForge", name := "sign", desc := "(I)I" } : Jvm.MethodName)) ∈ zc_W := zk_3 _ (List.mem_of_getElem? (i := 47) rfl)
theorem zm_288 : (Jvm.Cond.instanceMethod ({ cls := "DiceForge", name := "sign", desc := "(I)I" } : Jvm.MethodName)) ∈ zc_W := zk_3 _ (List.mem_of_getElem? (i := 48) rfl)
theorem zm_289 : (Jvm.Cond.selects "DiceForge" ({ cls := "DiceForge", name := "sign", desc := "(I)I" } : Jvm.MethodName) ({ cls := "DiceForge", name := "sign", desc := "(I)I" } : Jvm.MethodName)) ∈ zc_W := zk_3 _ (List.mem_of_getElem? (i := 49) rfl)
theorem zm_290 : (Jvm.Cond.code ({ cls := "DiceForge", name := "sign", desc := "(I)I" } : Jvm.MethodName) prog_1_method_3_code (4 : Nat) (Option.some Jvm.ClassFile.FieldType.int)) ∈ zc_W := zk_3 _ (List.mem_of_getElem? (i := 50) rfl)
theorem zm_291 : (Jvm.Cond.methodLink "DiceForge" (52 : Nat) ({ cls := "DiceForge", name := "promiseAt", desc := "(I)LDiceForge$Promise;" } : Jvm.MethodName)) ∈ zc_W := zk_3 _ (List.mem_of_getElem? (i := 51) rfl)
theorem zm_292 : (Jvm.Cond.instanceMethod ({ cls := "DiceForge", name := "promiseAt", desc := "(I)LDiceForge$Promise;" } : Jvm.MethodName)) ∈ zc_W := zk_3 _ (List.mem_of_getElem? (i := 52) rfl)
theorem zm_293 : (Jvm.Cond.code ({ cls := "DiceForge", name := "promiseAt", desc := "(I)LDiceForge$Promise;" } : Jvm.MethodName) prog_1_method_22_code (2 : Nat) (Option.some (Jvm.ClassFile.FieldType.object "DiceForge$Promise"))) ∈ zc_W := zk_3 _ (List.mem_of_getElem? (i := 53) rfl)
theorem zm_294 : (Jvm.Cond.classLink "DiceForge" (173 : Nat) "java/lang/IndexOutOfBoundsException") ∈ zc_W := zk_3 _ (List.mem_of_getElem? (i := 54) rfl)
theorem zm_295 : (Jvm.Cond.instantiable "java/lang/IndexOutOfBoundsException" (6 : Nat)) ∈ zc_W := zk_3 _ (List.mem_of_getElem? (i := 55) rfl)
theorem zm_296 : (Jvm.Cond.selects "java/lang/IndexOutOfBoundsException" ({ cls := "java/lang/Throwable", name := "fillInStackTrace", desc := "(I)Ljava/lang/Throwable;" } : Jvm.MethodName) ({ cls := "java/lang/Throwable", name := "fillInStackTrace", desc := "(I)Ljava/lang/Throwable;" } : Jvm.MethodName)) ∈ zc_W := zk_3 _ (List.mem_of_getElem? (i := 56) rfl)
theorem zm_297 : (Jvm.Cond.lays "java/lang/IndexOutOfBoundsException" "java/lang/Throwable" "cause" "Ljava/lang/Throwable;") ∈ zc_W := zk_3 _ (List.mem_of_getElem? (i := 57) rfl)
theorem zm_298 : (Jvm.Cond.lays "java/lang/IndexOutOfBoundsException" "java/lang/Throwable" "stackTrace" "[Ljava/lang/StackTraceElement;") ∈ zc_W := zk_3 _ (List.mem_of_getElem? (i := 58) rfl)
theorem zm_299 : (Jvm.Cond.lays "java/lang/IndexOutOfBoundsException" "java/lang/Throwable" "suppressedExceptions" "Ljava/util/List;") ∈ zc_W := zk_3 _ (List.mem_of_getElem? (i := 59) rfl)
theorem zm_300 : (Jvm.Cond.lays "java/lang/IndexOutOfBoundsException" "java/lang/Throwable" "detailMessage" "Ljava/lang/String;") ∈ zc_W := zk_3 _ (List.mem_of_getElem? (i := 60) rfl)
theorem zm_301 : (Jvm.Cond.lays "java/lang/IndexOutOfBoundsException" "java/lang/Throwable" "backtrace" "Ljava/lang/Object;") ∈ zc_W := zk_3 _ (List.mem_of_getElem? (i := 61) rfl)
theorem zm_302 : (Jvm.Cond.methodLink "DiceForge" (177 : Nat) ({ cls := "java/lang/IndexOutOfBoundsException", name := "<init>", desc := "(Ljava/lang/String;)V" } : Jvm.MethodName)) ∈ zc_W := zk_3 _ (List.mem_of_getElem? (i := 62) rfl)
theorem zm_303 : (Jvm.Cond.instanceMethod ({ cls := "java/lang/IndexOutOfBoundsException", name := "<init>", desc := "(Ljava/lang/String;)V" } : Jvm.MethodName)) ∈ zc_W := zk_3 _ (List.mem_of_getElem? (i := 63) rfl)
theorem zm_304 : (Jvm.Cond.code ({ cls := "java/lang/IndexOutOfBoundsException", name := "<init>", desc := "(Ljava/lang/String;)V" } : Jvm.MethodName) prog_12_method_2_code (2 : Nat) (Option.none : Option Jvm.ClassFile.FieldType)) ∈ zc_W := zk_3 _ (List.mem_of_getElem? (i := 64) rfl)
theorem zm_305 : (Jvm.Cond.methodLink "java/lang/IndexOutOfBoundsException" (7 : Nat) ({ cls := "java/lang/RuntimeException", name := "<init>", desc := "(Ljava/lang/String;)V" } : Jvm.MethodName)) ∈ zc_W := zk_3 _ (List.mem_of_getElem? (i := 65) rfl)
theorem zm_306 : (Jvm.Cond.lays "java/lang/IndexOutOfBoundsException" "java/lang/Throwable" "depth" "I") ∈ zc_W := zk_3 _ (List.mem_of_getElem? (i := 66) rfl)
theorem zm_307 : (Jvm.Cond.superclass "java/lang/IndexOutOfBoundsException" "java/lang/RuntimeException") ∈ zc_W := zk_3 _ (List.mem_of_getElem? (i := 67) rfl)
theorem zm_308 : (Jvm.Cond.constantLong "DiceForge" (60 : Nat) (31 : Int64)) ∈ zc_W := zk_3 _ (List.mem_of_getElem? (i := 68) rfl)
theorem zm_309 : (Jvm.Cond.constantLong "DiceForge" (62 : Nat) (7 : Int64)) ∈ zc_W := zk_3 _ (List.mem_of_getElem? (i := 69) rfl)
theorem zm_310 : (Jvm.Cond.constantLong "DiceForge" (64 : Nat) (10007 : Int64)) ∈ zc_W := zk_3 _ (List.mem_of_getElem? (i := 70) rfl)
theorem zm_311 : (Jvm.Cond.methodLink "DiceForgeLaw" (91 : Nat) ({ cls := "DiceForgeLaw", name := "seedsOf", desc := "(LDiceForge;I[J)I" } : Jvm.MethodName)) ∈ zc_W := zk_3 _ (List.mem_of_getElem? (i := 71) rfl)
theorem zm_312 : (Jvm.Cond.static ({ cls := "DiceForgeLaw", name := "seedsOf", desc := "(LDiceForge;I[J)I" } : Jvm.MethodName)) ∈ zc_W := zk_3 _ (List.mem_of_getElem? (i := 72) rfl)
theorem zm_313 : (Jvm.Cond.codeWith ({ cls := "DiceForgeLaw", name := "seedsOf", desc := "(LDiceForge;I[J)I" } : Jvm.MethodName) method_5_code (4 : Nat) (Option.some Jvm.ClassFile.FieldType.int) [((0 : Nat), (9 : Nat), (12 : Nat), (20 : Nat))]) ∈ zc_W := zk_3 _ (List.mem_of_getElem? (i := 73) rfl)
theorem zm_314 : (Jvm.Cond.methodLink "DiceForgeLaw" (22 : Nat) ({ cls := "DiceForge", name := "seedsOf", desc := "(I)I" } : Jvm.MethodName)) ∈ zc_W := zk_3 _ (List.mem_of_getElem? (i := 74) rfl)
theorem zm_315 : (Jvm.Cond.instanceMethod ({ cls := "DiceForge", name := "seedsOf", desc := "(I)I" } : Jvm.MethodName)) ∈ zc_W := zk_3 _ (List.mem_of_getElem? (i := 75) rfl)
theorem zm_316 : (Jvm.Cond.selects "DiceForge" ({ cls := "DiceForge", name := "seedsOf", desc := "(I)I" } : Jvm.MethodName) ({ cls := "DiceForge", name := "seedsOf", desc := "(I)I" } : Jvm.MethodName)) ∈ zc_W := zk_3 _ (List.mem_of_getElem? (i := 76) rfl)
theorem zm_317 : (Jvm.Cond.code ({ cls := "DiceForge", name := "seedsOf", desc := "(I)I" } : Jvm.MethodName) prog_1_method_4_code (6 : Nat) (Option.some Jvm.ClassFile.FieldType.int)) ∈ zc_W := zk_3 _ (List.mem_of_getElem? (i := 77) rfl)
theorem zm_318 : (Jvm.Cond.methodLink "DiceForge" (66 : Nat) ({ cls := "java/lang/Math", name := "floorMod", desc := "(II)I" } : Jvm.MethodName)) ∈ zc_W := zk_3 _ (List.mem_of_getElem? (i := 78) rfl)
theorem zm_319 : (Jvm.Cond.static ({ cls := "java/lang/Math", name := "floorMod", desc := "(II)I" } : Jvm.MethodName)) ∈ zc_W := zk_3 _ (List.mem_of_getElem? (i := 79) rfl)
theorem zm_320 : (Jvm.Cond.code ({ cls := "java/lang/Math", name := "floorMod", desc := "(II)I" } : Jvm.MethodName) prog_14_method_50_code (3 : Nat) (Option.some Jvm.ClassFile.FieldType.int)) ∈ zc_W := zk_4 _ (List.mem_of_getElem? (i := 0) rfl)
theorem zm_321 : (Jvm.Cond.methodLink "DiceForge" (72 : Nat) ({ cls := "DiceForge", name := "seedsWithRemainder", desc := "(I)I" } : Jvm.MethodName)) ∈ zc_W := zk_4 _ (List.mem_of_getElem? (i := 1) rfl)
theorem zm_322 : (Jvm.Cond.static ({ cls := "DiceForge", name := "seedsWithRemainder", desc := "(I)I" } : Jvm.MethodName)) ∈ zc_W := zk_4 _ (List.mem_of_getElem? (i := 2) rfl)
theorem zm_323 : (Jvm.Cond.code ({ cls := "DiceForge", name := "seedsWithRemainder", desc := "(I)I" } : Jvm.MethodName) prog_1_method_28_code (1 : Nat) (Option.some Jvm.ClassFile.FieldType.int)) ∈ zc_W := zk_4 _ (List.mem_of_getElem? (i := 3) rfl)
theorem zm_324 : (Jvm.Cond.constant "DiceForge" (188 : Nat) (65535 : Int32)) ∈ zc_W := zk_4 _ (List.mem_of_getElem? (i := 4) rfl)
theorem zm_325 : (Jvm.Cond.methodLink "DiceForgeLaw" (94 : Nat) ({ cls := "DiceForgeLaw", name := "open", desc := "(LDiceForge;I[J)I" } : Jvm.MethodName)) ∈ zc_W := zk_4 _ (List.mem_of_getElem? (i := 5) rfl)
theorem zm_326 : (Jvm.Cond.static ({ cls := "DiceForgeLaw", name := "open", desc := "(LDiceForge;I[J)I" } : Jvm.MethodName)) ∈ zc_W := zk_4 _ (List.mem_of_getElem? (i := 6) rfl)
theorem zm_327 : (Jvm.Cond.codeWith ({ cls := "DiceForgeLaw", name := "open", desc := "(LDiceForge;I[J)I" } : Jvm.MethodName) method_6_code (4 : Nat) (Option.some Jvm.ClassFile.FieldType.int) [((0 : Nat), (9 : Nat), (12 : Nat), (20 : Nat)), ((0 : Nat), (9 : Nat), (15 : Nat), (15 : Nat))]) ∈ zc_W := zk_4 _ (List.mem_of_getElem? (i := 7) rfl)
theorem zm_328 : (Jvm.Cond.methodLink "DiceForgeLaw" (25 : Nat) ({ cls := "DiceForge", name := "open", desc := "(I)I" } : Jvm.MethodName)) ∈ zc_W := zk_4 _ (List.mem_of_getElem? (i := 8) rfl)
theorem zm_329 : (Jvm.Cond.instanceMethod ({ cls := "DiceForge", name := "open", desc := "(I)I" } : Jvm.MethodName)) ∈ zc_W := zk_4 _ (List.mem_of_getElem? (i := 9) rfl)
theorem zm_330 : (Jvm.Cond.selects "DiceForge" ({ cls := "DiceForge", name := "open", desc := "(I)I" } : Jvm.MethodName) ({ cls := "DiceForge", name := "open", desc := "(I)I" } : Jvm.MethodName)) ∈ zc_W := zk_4 _ (List.mem_of_getElem? (i := 10) rfl)
theorem zm_331 : (Jvm.Cond.code ({ cls := "DiceForge", name := "open", desc := "(I)I" } : Jvm.MethodName) prog_1_method_5_code (3 : Nat) (Option.some Jvm.ClassFile.FieldType.int)) ∈ zc_W := zk_4 _ (List.mem_of_getElem? (i := 11) rfl)
theorem zm_332 : (Jvm.Cond.methodLink "DiceForgeLaw" (97 : Nat) ({ cls := "DiceForgeLaw", name := "isOpened", desc := "(LDiceForge;I[J)I" } : Jvm.MethodName)) ∈ zc_W := zk_4 _ (List.mem_of_getElem? (i := 12) rfl)
theorem zm_333 : (Jvm.Cond.static ({ cls := "DiceForgeLaw", name := "isOpened", desc := "(LDiceForge;I[J)I" } : Jvm.MethodName)) ∈ zc_W := zk_4 _ (List.mem_of_getElem? (i := 13) rfl)
theorem zm_334 : (Jvm.Cond.codeWith ({ cls := "DiceForgeLaw", name := "isOpened", desc := "(LDiceForge;I[J)I" } : Jvm.MethodName) method_7_code (4 : Nat) (Option.some Jvm.ClassFile.FieldType.int) [((0 : Nat), (16 : Nat), (19 : Nat), (20 : Nat))]) ∈ zc_W := zk_4 _ (List.mem_of_getElem? (i := 14) rfl)
theorem zm_335 : (Jvm.Cond.methodLink "DiceForgeLaw" (28 : Nat) ({ cls := "DiceForge", name := "isOpened", desc := "(I)Z" } : Jvm.MethodName)) ∈ zc_W := zk_4 _ (List.mem_of_getElem? (i := 15) rfl)
theorem zm_336 : (Jvm.Cond.instanceMethod ({ cls := "DiceForge", name := "isOpened", desc := "(I)Z" } : Jvm.MethodName)) ∈ zc_W := zk_4 _ (List.mem_of_getElem? (i := 16) rfl)
theorem zm_337 : (Jvm.Cond.selects "DiceForge" ({ cls := "DiceForge", name := "isOpened", desc := "(I)Z" } : Jvm.MethodName) ({ cls := "DiceForge", name := "isOpened", desc := "(I)Z" } : Jvm.MethodName)) ∈ zc_W := zk_4 _ (List.mem_of_getElem? (i := 17) rfl)
theorem zm_338 : (Jvm.Cond.code ({ cls := "DiceForge", name := "isOpened", desc := "(I)Z" } : Jvm.MethodName) prog_1_method_6_code (2 : Nat) (Option.some Jvm.ClassFile.FieldType.boolean)) ∈ zc_W := zk_4 _ (List.mem_of_getElem? (i := 18) rfl)
theorem zm_339 : (Jvm.Cond.methodLink "DiceForgeLaw" (100 : Nat) ({ cls := "DiceForgeLaw", name := "setPart", desc := "(LDiceForge;II[J)I" } : Jvm.MethodName)) ∈ zc_W := zk_4 _ (List.mem_of_getElem? (i := 19) rfl)
theorem zm_340 : (Jvm.Cond.static ({ cls := "DiceForgeLaw", name := "setPart", desc := "(LDiceForge;II[J)I" } : Jvm.MethodName)) ∈ zc_W := zk_4 _ (List.mem_of_getElem? (i := 20) rfl)
theorem zm_341 : (Jvm.Cond.codeWith ({ cls := "DiceForgeLaw", name := "setPart", desc := "(LDiceForge;II[J)I" } : Jvm.MethodName) method_8_code (5 : Nat) (Option.some Jvm.ClassFile.FieldType.int) [((0 : Nat), (10 : Nat), (13 : Nat), (20 : Nat)), ((0 : Nat), (10 : Nat), (17 : Nat), (13 : Nat))]) ∈ zc_W := zk_4 _ (List.mem_of_getElem? (i := 21) rfl)
theorem zm_342 : (Jvm.Cond.methodLink "DiceForgeLaw" (32 : Nat) ({ cls := "DiceForge", name := "setPart", desc := "(II)I" } : Jvm.MethodName)) ∈ zc_W := zk_4 _ (List.mem_of_getElem? (i := 22) rfl)
theorem zm_343 : (Jvm.Cond.instanceMethod ({ cls := "DiceForge", name := "setPart", desc := "(II)I" } : Jvm.MethodName)) ∈ zc_W := zk_4 _ (List.mem_of_getElem? (i := 23) rfl)
theorem zm_344 : (Jvm.Cond.selects "DiceForge" ({ cls := "DiceForge", name := "setPart", desc := "(II)I" } : Jvm.MethodName) ({ cls := "DiceForge", name := "setPart", desc := "(II)I" } : Jvm.MethodName)) ∈ zc_W := zk_4 _ (List.mem_of_getElem? (i := 24) rfl)
theorem zm_345 : (Jvm.Cond.code ({ cls := "DiceForge", name := "setPart", desc := "(II)I" } : Jvm.MethodName) prog_1_method_7_code (4 : Nat) (Option.some Jvm.ClassFile.FieldType.int)) ∈ zc_W := zk_4 _ (List.mem_of_getElem? (i := 25) rfl)
theorem zm_346 : (Jvm.Cond.methodLink "DiceForge" (82 : Nat) ({ cls := "DiceForge", name := "requireTable", desc := "(I)V" } : Jvm.MethodName)) ∈ zc_W := zk_4 _ (List.mem_of_getElem? (i := 26) rfl)
theorem zm_347 : (Jvm.Cond.static ({ cls := "DiceForge", name := "requireTable", desc := "(I)V" } : Jvm.MethodName)) ∈ zc_W := zk_4 _ (List.mem_of_getElem? (i := 27) rfl)
theorem zm_348 : (Jvm.Cond.code ({ cls := "DiceForge", name := "requireTable", desc := "(I)V" } : Jvm.MethodName) prog_1_method_25_code (1 : Nat) (Option.none : Option Jvm.ClassFile.FieldType)) ∈ zc_W := zk_4 _ (List.mem_of_getElem? (i := 28) rfl)
theorem zm_349 : (Jvm.Cond.methodLink "DiceForgeLaw" (104 : Nat) ({ cls := "DiceForgeLaw", name := "roll", desc := "(LDiceForge;III[J)I" } : Jvm.MethodName)) ∈ zc_W := zk_4 _ (List.mem_of_getElem? (i := 29) rfl)
theorem zm_350 : (Jvm.Cond.static ({ cls := "DiceForgeLaw", name := "roll", desc := "(LDiceForge;III[J)I" } : Jvm.MethodName)) ∈ zc_W := zk_4 _ (List.mem_of_getElem? (i := 30) rfl)
theorem zm_351 : (Jvm.Cond.codeWith ({ cls := "DiceForgeLaw", name := "roll", desc := "(LDiceForge;III[J)I" } : Jvm.MethodName) method_9_code (6 : Nat) (Option.some Jvm.ClassFile.FieldType.int) [((0 : Nat), (12 : Nat), (15 : Nat), (20 : Nat)), ((0 : Nat), (12 : Nat), (19 : Nat), (13 : Nat)), ((0 : Nat), (12 : Nat), (23 : Nat), (15 : Nat))]) ∈ zc_W := zk_4 _ (List.mem_of_getElem? (i := 31) rfl)
theorem zm_352 : (Jvm.Cond.methodLink "DiceForgeLaw" (36 : Nat) ({ cls := "DiceForge", name := "roll", desc := "(III)I" } : Jvm.MethodName)) ∈ zc_W := zk_4 _ (List.mem_of_getElem? (i := 32) rfl)
theorem zm_353 : (Jvm.Cond.instanceMethod ({ cls := "DiceForge", name := "roll", desc := "(III)I" } : Jvm.MethodName)) ∈ zc_W := zk_4 _ (List.mem_of_getElem? (i := 33) rfl)
theorem zm_354 : (Jvm.Cond.selects "DiceForge" ({ cls := "DiceForge", name := "roll", desc := "(III)I" } : Jvm.MethodName) ({ cls := "DiceForge", name := "roll", desc := "(III)I" } : Jvm.MethodName)) ∈ zc_W := zk_4 _ (List.mem_of_getElem? (i := 34) rfl)
theorem zm_355 : (Jvm.Cond.code ({ cls := "DiceForge", name := "roll", desc := "(III)I" } : Jvm.MethodName) prog_1_method_8_code (6 : Nat) (Option.some Jvm.ClassFile.FieldType.int)) ∈ zc_W := zk_4 _ (List.mem_of_getElem? (i := 35) rfl)
theorem zm_356 : (Jvm.Cond.methodLink "DiceForge" (87 : Nat) ({ cls := "DiceForge", name := "requireFaces", desc := "(I)V" } : Jvm.MethodName)) ∈ zc_W := zk_4 _ (List.mem_of_getElem? (i := 36) rfl)
theorem zm_357 : (Jvm.Cond.static ({ cls := "DiceForge", name := "requireFaces", desc := "(I)V" } : Jvm.MethodName)) ∈ zc_W := zk_4 _ (List.mem_of_getElem? (i := 37) rfl)
theorem zm_358 : (Jvm.Cond.code ({ cls := "DiceForge", name := "requireFaces", desc := "(I)V" } : Jvm.MethodName) prog_1_method_26_code (1 : Nat) (Option.none : Option Jvm.ClassFile.FieldType)) ∈ zc_W := zk_4 _ (List.mem_of_getElem? (i := 38) rfl)
theorem zm_359 : (Jvm.Cond.instanceMethod ({ cls := "DiceForge$Entry", name := "<init>", desc := "(IIII)V" } : Jvm.MethodName)) ∈ zc_W := zk_4 _ (List.mem_of_getElem? (i := 39) rfl)
theorem zm_360 : (Jvm.Cond.code ({ cls := "DiceForge$Entry", name := "<init>", desc := "(IIII)V" } : Jvm.MethodName) prog_3_method_1_code (5 : Nat) (Option.none : Option Jvm.ClassFile.FieldType)) ∈ zc_W := zk_4 _ (List.mem_of_getElem? (i := 40) rfl)
theorem zm_361 : (Jvm.Cond.methodLink "DiceForge$Entry" (3 : Nat) ({ cls := "java/lang/Object", name := "<init>", desc := "()V" } : Jvm.MethodName)) ∈ zc_W := zk_4 _ (List.mem_of_getElem? (i := 41) rfl)
theorem zm_362 : (Jvm.Cond.fieldLink "DiceForge$Entry" (9 : Nat) "DiceForge$Entry" "promise" "I") ∈ zc_W := zk_4 _ (List.mem_of_getElem? (i := 42) rfl)
theorem zm_363 : (Jvm.Cond.fieldLink "DiceForge$Entry" (15 : Nat) "DiceForge$Entry" "table" "I") ∈ zc_W := zk_4 _ (List.mem_of_getElem? (i := 43) rfl)
theorem zm_364 : (Jvm.Cond.fieldLink "DiceForge$Entry" (18 : Nat) "DiceForge$Entry" "part" "I") ∈ zc_W := zk_4 _ (List.mem_of_getElem? (i := 44) rfl)
theorem zm_365 : (Jvm.Cond.fieldLink "DiceForge$Entry" (21 : Nat) "DiceForge$Entry" "faces" "I") ∈ zc_W := zk_4 _ (List.mem_of_getElem? (i := 45) rfl)
theorem zm_366 : (Jvm.Cond.fieldLink "DiceForge$Entry" (24 : Nat) "DiceForge$Entry" "value" "I") ∈ zc_W := zk_4 _ (List.mem_of_getElem? (i := 46) rfl)
theorem zm_367 : (Jvm.Cond.fieldLink "DiceForge$Entry" (27 : Nat) "DiceForge$Entry" "rejected" "I") ∈ zc_W := zk_4 _ (List.mem_of_getElem? (i := 47) rfl)
theorem zm_368 : (Jvm.Cond.fieldLink "DiceForge$Entry" (31 : Nat) "DiceForge$Entry" "struck" "Z") ∈ zc_W := zk_4 _ (List.mem_of_getElem? (i := 48) rfl)
theorem zm_369 : (Jvm.Cond.laysFinal "DiceForge$Entry" "DiceForge$Entry" "promise" "I") ∈ zc_W := zk_4 _ (List.mem_of_getElem? (i := 49) rfl)
theorem zm_370 : (Jvm.Cond.soleField "DiceForge$Entry" "promise") ∈ zc_W := zk_4 _ (List.mem_of_getElem? (i := 50) rfl)
theorem zm_371 : (Jvm.Cond.laysFinal "DiceForge$Entry" "DiceForge$Entry" "table" "I") ∈ zc_W := zk_4 _ (List.mem_of_getElem? (i := 51) rfl)
theorem zm_372 : (Jvm.Cond.soleField "DiceForge$Entry" "table") ∈ zc_W := zk_4 _ (List.mem_of_getElem? (i := 52) rfl)
theorem zm_373 : (Jvm.Cond.laysFinal "DiceForge$Entry" "DiceForge$Entry" "part" "I") ∈ zc_W := zk_4 _ (List.mem_of_getElem? (i := 53) rfl)
theorem zm_374 : (Jvm.Cond.soleField "DiceForge$Entry" "part") ∈ zc_W := zk_4 _ (List.mem_of_getElem? (i := 54) rfl)
theorem zm_375 : (Jvm.Cond.laysFinal "DiceForge$Entry" "DiceForge$Entry" "faces" "I") ∈ zc_W := zk_4 _ (List.mem_of_getElem? (i := 55) rfl)
theorem zm_376 : (Jvm.Cond.soleField "DiceForge$Entry" "faces") ∈ zc_W := zk_4 _ (List.mem_of_getElem? (i := 56) rfl)
theorem zm_377 : (Jvm.Cond.lays "DiceForge$Entry" "DiceForge$Entry" "value" "I") ∈ zc_W := zk_4 _ (List.mem_of_getElem? (i := 57) rfl)
theorem zm_378 : (Jvm.Cond.soleField "DiceForge$Entry" "value") ∈ zc_W := zk_4 _ (List.mem_of_getElem? (i := 58) rfl)
theorem zm_379 : (Jvm.Cond.lays "DiceForge$Entry" "DiceForge$Entry" "rejected" "I") ∈ zc_W := zk_4 _ (List.mem_of_getElem? (i := 59) rfl)
theorem zm_380 : (Jvm.Cond.soleField "DiceForge$Entry" "rejected") ∈ zc_W := zk_4 _ (List.mem_of_getElem? (i := 60) rfl)
theorem zm_381 : (Jvm.Cond.lays "DiceForge$Entry" "DiceForge$Entry" "sum" "I") ∈ zc_W := zk_4 _ (List.mem_of_getElem? (i := 61) rfl)
theorem zm_382 : (Jvm.Cond.soleField "DiceForge$Entry" "sum") ∈ zc_W := zk_4 _ (List.mem_of_getElem? (i := 62) rfl)
theorem zm_383 : (Jvm.Cond.lays "DiceForge$Entry" "DiceForge$Entry" "struck" "Z") ∈ zc_W := zk_4 _ (List.mem_of_getElem? (i := 63) rfl)
theorem zm_384 : (Jvm.Cond.soleField "DiceForge$Entry" "struck") ∈ zc_W := zk_4 _ (List.mem_of_getElem? (i := 64) rfl)
theorem zm_385 : (Jvm.Cond.superclass "DiceForge$Entry" "java/lang/Object") ∈ zc_W := zk_4 _ (List.mem_of_getElem? (i := 65) rfl)
theorem zm_386 : (Jvm.Cond.instanceMethod ({ cls := "DiceForge$Draws", name := "nextValue", desc := "(II)I" } : Jvm.MethodName)) ∈ zc_W := zk_4 _ (List.mem_of_getElem? (i := 66) rfl)
theorem zm_387 : (Jvm.Cond.code ({ cls := "DiceForge$Draws", name := "nextValue", desc := "(II)I" } : Jvm.MethodName) prog_2_method_2_code (4 : Nat) (Option.some Jvm.ClassFile.FieldType.int)) ∈ zc_W := zk_4 _ (List.mem_of_getElem? (i := 67) rfl)
theorem zm_388 : (Jvm.Cond.constant "DiceForge$Draws" (18 : Nat) (65536 : Int32)) ∈ zc_W := zk_4 _ (List.mem_of_getElem? (i := 68) rfl)
theorem zm_389 : (Jvm.Cond.methodLink "DiceForge$Draws" (19 : Nat) ({ cls := "DiceForge$Draws", name := "draw", desc := "(I)V" } : Jvm.MethodName)) ∈ zc_W := zk_4 _ (List.mem_of_getElem? (i := 69) rfl)
theorem zm_390 : (Jvm.Cond.instanceMethod ({ cls := "DiceForge$Draws", name := "draw", desc := "(I)V" } : Jvm.MethodName)) ∈ zc_W := zk_4 _ (List.mem_of_getElem? (i := 70) rfl)
theorem zm_391 : (Jvm.Cond.code ({ cls := "DiceForge$Draws", name := "draw", desc := "(I)V" } : Jvm.MethodName) prog_2_method_3_code (2 : Nat) (Option.none : Option Jvm.ClassFile.FieldType)) ∈ zc_W := zk_4 _ (List.mem_of_getElem? (i := 71) rfl)
theorem zm_392 : (Jvm.Cond.methodLink "DiceForge" (116 : Nat) ({ cls := "DiceForge", name := "lastSum", desc := "()I" } : Jvm.MethodName)) ∈ zc_W := zk_4 _ (List.mem_of_getElem? (i := 72) rfl)
theorem zm_393 : (Jvm.Cond.instanceMethod ({ cls := "DiceForge", name := "lastSum", desc := "()I" } : Jvm.MethodName)) ∈ zc_W := zk_4 _ (List.mem_of_getElem? (i := 73) rfl)
theorem zm_394 : (Jvm.Cond.code ({ cls := "DiceForge", name := "lastSum", desc := "()I" } : Jvm.MethodName) prog_1_method_29_code (1 : Nat) (Option.some Jvm.ClassFile.FieldType.int)) ∈ zc_W := zk_4 _ (List.mem_of_getElem? (i := 74) rfl)
theorem zm_395 : (Jvm.Cond.methodLink "DiceForge" (189 : Nat) ({ cls := "java/util/ArrayList", name := "isEmpty", desc := "()Z" } : Jvm.MethodName)) ∈ zc_W := zk_4 _ (List.mem_of_getElem? (i := 75) rfl)
theorem zm_396 : (Jvm.Cond.instanceMethod ({ cls := "java/util/ArrayList", name := "isEmpty", desc := "()Z" } : Jvm.MethodName)) ∈ zc_W := zk_4 _ (List.mem_of_getElem? (i := 76) rfl)
theorem zm_397 : (Jvm.Cond.selects "java/util/ArrayList" ({ cls := "java/util/ArrayList", name := "isEmpty", desc := "()Z" } : Jvm.MethodName) ({ cls := "java/util/ArrayList", name := "isEmpty", desc := "()Z" } : Jvm.MethodName)) ∈ zc_W := zk_4 _ (List.mem_of_getElem? (i := 77) rfl)
theorem zm_398 : (Jvm.Cond.code ({ cls := "java/util/ArrayList", name := "isEmpty", desc := "()Z" } : Jvm.MethodName) prog_21_method_9_code (1 : Nat) (Option.some Jvm.ClassFile.FieldType.boolean)) ∈ zc_W := zk_4 _ (List.mem_of_getElem? (i := 78) rfl)
theorem zm_399 : (Jvm.Cond.methodLink "DiceForgeLaw" (112 : Nat) ({ cls := "DiceForgeLaw", name := "value", desc := "(LDiceForge;I[J)I" } : Jvm.MethodName)) ∈ zc_W := zk_4 _ (List.mem_of_getElem? (i := 79) rfl)
theorem zm_400 : (Jvm.Cond.static ({ cls := "DiceForgeLaw", name := "value", desc := "(LDiceForge;I[J)I" } : Jvm.MethodName)) ∈ zc_W := zk_5 _ (List.mem_of_getElem? (i := 0) rfl)
theorem zm_401 : (Jvm.Cond.codeWith ({ cls := "DiceForgeLaw", name := "value", desc := "(LDiceForge;I[J)I" } : Jvm.MethodName) method_10_code (4 : Nat) (Option.some Jvm.ClassFile.FieldType.int) [((0 : Nat), (9 : Nat), (12 : Nat), (20 : Nat))]) ∈ zc_W := zk_5 _ (List.mem_of_getElem? (i := 1) rfl)
theorem zm_402 : (Jvm.Cond.methodLink "DiceForgeLaw" (40 : Nat) ({ cls := "DiceForge", name := "value", desc := "(I)I" } : Jvm.MethodName)) ∈ zc_W := zk_5 _ (List.mem_of_getElem? (i := 2) rfl)
theorem zm_403 : (Jvm.Cond.instanceMethod ({ cls := "DiceForge", name := "value", desc := "(I)I" } : Jvm.MethodName)) ∈ zc_W := zk_5 _ (List.mem_of_getElem? (i := 3) rfl)
theorem zm_404 : (Jvm.Cond.selects "DiceForge" ({ cls := "DiceForge", name := "value", desc := "(I)I" } : Jvm.MethodName) ({ cls := "DiceForge", name := "value", desc := "(I)I" } : Jvm.MethodName)) ∈ zc_W := zk_5 _ (List.mem_of_getElem? (i := 4) rfl)
theorem zm_405 : (Jvm.Cond.code ({ cls := "DiceForge", name := "value", desc := "(I)I" } : Jvm.MethodName) prog_1_method_10_code (2 : Nat) (Option.some Jvm.ClassFile.FieldType.int)) ∈ zc_W := zk_5 _ (List.mem_of_getElem? (i := 5) rfl)
theorem zm_406 : (Jvm.Cond.methodLink "DiceForge" (125 : Nat) ({ cls := "DiceForge", name := "entryAt", desc := "(I)LDiceForge$Entry;" } : Jvm.MethodName)) ∈ zc_W := zk_5 _ (List.mem_of_getElem? (i := 6) rfl)
theorem zm_407 : (Jvm.Cond.instanceMethod ({ cls := "DiceForge", name := "entryAt", desc := "(I)LDiceForge$Entry;" } : Jvm.MethodName)) ∈ zc_W := zk_5 _ (List.mem_of_getElem? (i := 7) rfl)
theorem zm_408 : (Jvm.Cond.code ({ cls := "DiceForge", name := "entryAt", desc := "(I)LDiceForge$Entry;" } : Jvm.MethodName) prog_1_method_24_code (2 : Nat) (Option.some (Jvm.ClassFile.FieldType.object "DiceForge$Entry"))) ∈ zc_W := zk_5 _ (List.mem_of_getElem? (i := 8) rfl)
theorem zm_409 : (Jvm.Cond.methodLink "DiceForgeLaw" (115 : Nat) ({ cls := "DiceForgeLaw", name := "rejected", desc := "(LDiceForge;I[J)I" } : Jvm.MethodName)) ∈ zc_W := zk_5 _ (List.mem_of_getElem? (i := 9) rfl)
theorem zm_410 : (Jvm.Cond.static ({ cls := "DiceForgeLaw", name := "rejected", desc := "(LDiceForge;I[J)I" } : Jvm.MethodName)) ∈ zc_W := zk_5 _ (List.mem_of_getElem? (i := 10) rfl)
theorem zm_411 : (Jvm.Cond.codeWith ({ cls := "DiceForgeLaw", name := "rejected", desc := "(LDiceForge;I[J)I" } : Jvm.MethodName) method_11_code (4 : Nat) (Option.some Jvm.ClassFile.FieldType.int) [((0 : Nat), (9 : Nat), (12 : Nat), (20 : Nat))]) ∈ zc_W := zk_5 _ (List.mem_of_getElem? (i := 11) rfl)
theorem zm_412 : (Jvm.Cond.methodLink "DiceForgeLaw" (43 : Nat) ({ cls := "DiceForge", name := "rejected", desc := "(I)I" } : Jvm.MethodName)) ∈ zc_W := zk_5 _ (List.mem_of_getElem? (i := 12) rfl)
theorem zm_413 : (Jvm.Cond.instanceMethod ({ cls := "DiceForge", name := "rejected", desc := "(I)I" } : Jvm.MethodName)) ∈ zc_W := zk_5 _ (List.mem_of_getElem? (i := 13) rfl)
theorem zm_414 : (Jvm.Cond.selects "DiceForge" ({ cls := "DiceForge", name := "rejected", desc := "(I)I" } : Jvm.MethodName) ({ cls := "DiceForge", name := "rejected", desc := "(I)I" } : Jvm.MethodName)) ∈ zc_W := zk_5 _ (List.mem_of_getElem? (i := 14) rfl)
theorem zm_415 : (Jvm.Cond.code ({ cls := "DiceForge", name := "rejected", desc := "(I)I" } : Jvm.MethodName) prog_1_method_11_code (2 : Nat) (Option.some Jvm.ClassFile.FieldType.int)) ∈ zc_W := zk_5 _ (List.mem_of_getElem? (i := 15) rfl)
theorem zm_416 : (Jvm.Cond.methodLink "DiceForgeLaw" (118 : Nat) ({ cls := "DiceForgeLaw", name := "sum", desc := "(LDiceForge;I[J)I" } : Jvm.MethodName)) ∈ zc_W := zk_5 _ (List.mem_of_getElem? (i := 16) rfl)
theorem zm_417 : (Jvm.Cond.static ({ cls := "DiceForgeLaw", name := "sum", desc := "(LDiceForge;I[J)I" } : Jvm.MethodName)) ∈ zc_W := zk_5 _ (List.mem_of_getElem? (i := 17) rfl)
theorem zm_418 : (Jvm.Cond.codeWith ({ cls := "DiceForgeLaw", name := "sum", desc := "(LDiceForge;I[J)I" } : Jvm.MethodName) method_12_code (4 : Nat) (Option.some Jvm.ClassFile.FieldType.int) [((0 : Nat), (9 : Nat), (12 : Nat), (20 : Nat))]) ∈ zc_W := zk_5 _ (List.mem_of_getElem? (i := 18) rfl)
theorem zm_419 : (Jvm.Cond.methodLink "DiceForgeLaw" (46 : Nat) ({ cls := "DiceForge", name := "sum", desc := "(I)I" } : Jvm.MethodName)) ∈ zc_W := zk_5 _ (List.mem_of_getElem? (i := 19) rfl)
theorem zm_420 : (Jvm.Cond.instanceMethod ({ cls := "DiceForge", name := "sum", desc := "(I)I" } : Jvm.MethodName)) ∈ zc_W := zk_5 _ (List.mem_of_getElem? (i := 20) rfl)
theorem zm_421 : (Jvm.Cond.selects "DiceForge" ({ cls := "DiceForge", name := "sum", desc := "(I)I" } : Jvm.MethodName) ({ cls := "DiceForge", name := "sum", desc := "(I)I" } : Jvm.MethodName)) ∈ zc_W := zk_5 _ (List.mem_of_getElem? (i := 21) rfl)
theorem zm_422 : (Jvm.Cond.code ({ cls := "DiceForge", name := "sum", desc := "(I)I" } : Jvm.MethodName) prog_1_method_12_code (2 : Nat) (Option.some Jvm.ClassFile.FieldType.int)) ∈ zc_W := zk_5 _ (List.mem_of_getElem? (i := 22) rfl)
theorem zm_423 : (Jvm.Cond.methodLink "DiceForgeLaw" (121 : Nat) ({ cls := "DiceForgeLaw", name := "alter", desc := "(LDiceForge;II[J)I" } : Jvm.MethodName)) ∈ zc_W := zk_5 _ (List.mem_of_getElem? (i := 23) rfl)
theorem zm_424 : (Jvm.Cond.static ({ cls := "DiceForgeLaw", name := "alter", desc := "(LDiceForge;II[J)I" } : Jvm.MethodName)) ∈ zc_W := zk_5 _ (List.mem_of_getElem? (i := 24) rfl)
theorem zm_425 : (Jvm.Cond.codeWith ({ cls := "DiceForgeLaw", name := "alter", desc := "(LDiceForge;II[J)I" } : Jvm.MethodName) method_13_code (5 : Nat) (Option.some Jvm.ClassFile.FieldType.int) [((0 : Nat), (10 : Nat), (13 : Nat), (20 : Nat)), ((0 : Nat), (10 : Nat), (17 : Nat), (13 : Nat)), ((0 : Nat), (10 : Nat), (21 : Nat), (15 : Nat))]) ∈ zc_W := zk_5 _ (List.mem_of_getElem? (i := 25) rfl)
theorem zm_426 : (Jvm.Cond.methodLink "DiceForgeLaw" (49 : Nat) ({ cls := "DiceForge", name := "alter", desc := "(II)I" } : Jvm.MethodName)) ∈ zc_W := zk_5 _ (List.mem_of_getElem? (i := 26) rfl)
theorem zm_427 : (Jvm.Cond.instanceMethod ({ cls := "DiceForge", name := "alter", desc := "(II)I" } : Jvm.MethodName)) ∈ zc_W := zk_5 _ (List.mem_of_getElem? (i := 27) rfl)
theorem zm_428 : (Jvm.Cond.selects "DiceForge" ({ cls := "DiceForge", name := "alter", desc := "(II)I" } : Jvm.MethodName) ({ cls := "DiceForge", name := "alter", desc := "(II)I" } : Jvm.MethodName)) ∈ zc_W := zk_5 _ (List.mem_of_getElem? (i := 28) rfl)
theorem zm_429 : (Jvm.Cond.code ({ cls := "DiceForge", name := "alter", desc := "(II)I" } : Jvm.MethodName) prog_1_method_13_code (5 : Nat) (Option.some Jvm.ClassFile.FieldType.int)) ∈ zc_W := zk_5 _ (List.mem_of_getElem? (i := 29) rfl)
theorem zm_430 : (Jvm.Cond.methodLink "DiceForge" (132 : Nat) ({ cls := "DiceForge", name := "requireValue", desc := "(II)V" } : Jvm.MethodName)) ∈ zc_W := zk_5 _ (List.mem_of_getElem? (i := 30) rfl)
theorem zm_431 : (Jvm.Cond.static ({ cls := "DiceForge", name := "requireValue", desc := "(II)V" } : Jvm.MethodName)) ∈ zc_W := zk_5 _ (List.mem_of_getElem? (i := 31) rfl)
theorem zm_432 : (Jvm.Cond.code ({ cls := "DiceForge", name := "requireValue", desc := "(II)V" } : Jvm.MethodName) prog_1_method_27_code (2 : Nat) (Option.none : Option Jvm.ClassFile.FieldType)) ∈ zc_W := zk_5 _ (List.mem_of_getElem? (i := 32) rfl)
theorem zm_433 : (Jvm.Cond.methodLink "DiceForgeLaw" (128 : Nat) ({ cls := "DiceForgeLaw", name := "found", desc := "(LDiceForge;I[J)I" } : Jvm.MethodName)) ∈ zc_W := zk_5 _ (List.mem_of_getElem? (i := 33) rfl)
theorem zm_434 : (Jvm.Cond.static ({ cls := "DiceForgeLaw", name := "found", desc := "(LDiceForge;I[J)I" } : Jvm.MethodName)) ∈ zc_W := zk_5 _ (List.mem_of_getElem? (i := 34) rfl)
theorem zm_435 : (Jvm.Cond.codeWith ({ cls := "DiceForgeLaw", name := "found", desc := "(LDiceForge;I[J)I" } : Jvm.MethodName) method_14_code (4 : Nat) (Option.some Jvm.ClassFile.FieldType.int) [((0 : Nat), (9 : Nat), (12 : Nat), (20 : Nat)), ((0 : Nat), (9 : Nat), (15 : Nat), (15 : Nat))]) ∈ zc_W := zk_5 _ (List.mem_of_getElem? (i := 35) rfl)
theorem zm_436 : (Jvm.Cond.methodLink "DiceForgeLaw" (52 : Nat) ({ cls := "DiceForge", name := "found", desc := "(I)I" } : Jvm.MethodName)) ∈ zc_W := zk_5 _ (List.mem_of_getElem? (i := 36) rfl)
theorem zm_437 : (Jvm.Cond.instanceMethod ({ cls := "DiceForge", name := "found", desc := "(I)I" } : Jvm.MethodName)) ∈ zc_W := zk_5 _ (List.mem_of_getElem? (i := 37) rfl)
theorem zm_438 : (Jvm.Cond.selects "DiceForge" ({ cls := "DiceForge", name := "found", desc := "(I)I" } : Jvm.MethodName) ({ cls := "DiceForge", name := "found", desc := "(I)I" } : Jvm.MethodName)) ∈ zc_W := zk_5 _ (List.mem_of_getElem? (i := 38) rfl)
theorem zm_439 : (Jvm.Cond.code ({ cls := "DiceForge", name := "found", desc := "(I)I" } : Jvm.MethodName) prog_1_method_15_code (7 : Nat) (Option.some Jvm.ClassFile.FieldType.int)) ∈ zc_W := zk_5 _ (List.mem_of_getElem? (i := 39) rfl)
theorem zm_440 : (Jvm.Cond.classLink "DiceForge" (105 : Nat) "DiceForge$Draws") ∈ zc_W := zk_5 _ (List.mem_of_getElem? (i := 40) rfl)
theorem zm_441 : (Jvm.Cond.methodLink "DiceForge" (148 : Nat) ({ cls := "DiceForge", name := "openedAt", desc := "(I)LDiceForge$Promise;" } : Jvm.MethodName)) ∈ zc_W := zk_5 _ (List.mem_of_getElem? (i := 41) rfl)
theorem zm_442 : (Jvm.Cond.instanceMethod ({ cls := "DiceForge", name := "openedAt", desc := "(I)LDiceForge$Promise;" } : Jvm.MethodName)) ∈ zc_W := zk_5 _ (List.mem_of_getElem? (i := 42) rfl)
theorem zm_443 : (Jvm.Cond.code ({ cls := "DiceForge", name := "openedAt", desc := "(I)LDiceForge$Promise;" } : Jvm.MethodName) prog_1_method_23_code (3 : Nat) (Option.some (Jvm.ClassFile.FieldType.object "DiceForge$Promise"))) ∈ zc_W := zk_5 _ (List.mem_of_getElem? (i := 43) rfl)
theorem zm_444 : (Jvm.Cond.methodLink "DiceForgeLaw" (131 : Nat) ({ cls := "DiceForgeLaw", name := "wrong", desc := "(LDiceForge;I[J)I" } : Jvm.MethodName)) ∈ zc_W := zk_5 _ (List.mem_of_getElem? (i := 44) rfl)
theorem zm_445 : (Jvm.Cond.static ({ cls := "DiceForgeLaw", name := "wrong", desc := "(LDiceForge;I[J)I" } : Jvm.MethodName)) ∈ zc_W := zk_5 _ (List.mem_of_getElem? (i := 45) rfl)
theorem zm_446 : (Jvm.Cond.codeWith ({ cls := "DiceForgeLaw", name := "wrong", desc := "(LDiceForge;I[J)I" } : Jvm.MethodName) method_15_code (4 : Nat) (Option.some Jvm.ClassFile.FieldType.int) [((0 : Nat), (9 : Nat), (12 : Nat), (20 : Nat)), ((0 : Nat), (9 : Nat), (15 : Nat), (15 : Nat))]) ∈ zc_W := zk_5 _ (List.mem_of_getElem? (i := 46) rfl)
theorem zm_447 : (Jvm.Cond.methodLink "DiceForgeLaw" (55 : Nat) ({ cls := "DiceForge", name := "wrong", desc := "(I)I" } : Jvm.MethodName)) ∈ zc_W := zk_5 _ (List.mem_of_getElem? (i := 47) rfl)
theorem zm_448 : (Jvm.Cond.instanceMethod ({ cls := "DiceForge", name := "wrong", desc := "(I)I" } : Jvm.MethodName)) ∈ zc_W := zk_5 _ (List.mem_of_getElem? (i := 48) rfl)
theorem zm_449 : (Jvm.Cond.selects "DiceForge" ({ cls := "DiceForge", name := "wrong", desc := "(I)I" } : Jvm.MethodName) ({ cls := "DiceForge", name := "wrong", desc := "(I)I" } : Jvm.MethodName)) ∈ zc_W := zk_5 _ (List.mem_of_getElem? (i := 49) rfl)
theorem zm_450 : (Jvm.Cond.code ({ cls := "DiceForge", name := "wrong", desc := "(I)I" } : Jvm.MethodName) prog_1_method_16_code (2 : Nat) (Option.some Jvm.ClassFile.FieldType.int)) ∈ zc_W := zk_5 _ (List.mem_of_getElem? (i := 50) rfl)
theorem zm_451 : (Jvm.Cond.methodLink "DiceForge" (152 : Nat) ({ cls := "DiceForge", name := "firstWrong", desc := "(II)I" } : Jvm.MethodName)) ∈ zc_W := zk_5 _ (List.mem_of_getElem? (i := 51) rfl)
theorem zm_452 : (Jvm.Cond.instanceMethod ({ cls := "DiceForge", name := "firstWrong", desc := "(II)I" } : Jvm.MethodName)) ∈ zc_W := zk_5 _ (List.mem_of_getElem? (i := 52) rfl)
theorem zm_453 : (Jvm.Cond.code ({ cls := "DiceForge", name := "firstWrong", desc := "(II)I" } : Jvm.MethodName) prog_1_method_30_code (6 : Nat) (Option.some Jvm.ClassFile.FieldType.int)) ∈ zc_W := zk_5 _ (List.mem_of_getElem? (i := 53) rfl)
theorem zm_454 : (Jvm.Cond.methodLink "DiceForgeLaw" (134 : Nat) ({ cls := "DiceForgeLaw", name := "dispute", desc := "(LDiceForge;I[J)I" } : Jvm.MethodName)) ∈ zc_W := zk_5 _ (List.mem_of_getElem? (i := 54) rfl)
theorem zm_455 : (Jvm.Cond.static ({ cls := "DiceForgeLaw", name := "dispute", desc := "(LDiceForge;I[J)I" } : Jvm.MethodName)) ∈ zc_W := zk_5 _ (List.mem_of_getElem? (i := 55) rfl)
theorem zm_456 : (Jvm.Cond.codeWith ({ cls := "DiceForgeLaw", name := "dispute", desc := "(LDiceForge;I[J)I" } : Jvm.MethodName) method_16_code (4 : Nat) (Option.some Jvm.ClassFile.FieldType.int) [((0 : Nat), (9 : Nat), (12 : Nat), (20 : Nat)), ((0 : Nat), (9 : Nat), (15 : Nat), (15 : Nat))]) ∈ zc_W := zk_5 _ (List.mem_of_getElem? (i := 56) rfl)
theorem zm_457 : (Jvm.Cond.methodLink "DiceForgeLaw" (58 : Nat) ({ cls := "DiceForge", name := "dispute", desc := "(I)I" } : Jvm.MethodName)) ∈ zc_W := zk_5 _ (List.mem_of_getElem? (i := 57) rfl)
theorem zm_458 : (Jvm.Cond.instanceMethod ({ cls := "DiceForge", name := "dispute", desc := "(I)I" } : Jvm.MethodName)) ∈ zc_W := zk_5 _ (List.mem_of_getElem? (i := 58) rfl)
theorem zm_459 : (Jvm.Cond.selects "DiceForge" ({ cls := "DiceForge", name := "dispute", desc := "(I)I" } : Jvm.MethodName) ({ cls := "DiceForge", name := "dispute", desc := "(I)I" } : Jvm.MethodName)) ∈ zc_W := zk_5 _ (List.mem_of_getElem? (i := 59) rfl)
theorem zm_460 : (Jvm.Cond.code ({ cls := "DiceForge", name := "dispute", desc := "(I)I" } : Jvm.MethodName) prog_1_method_17_code (4 : Nat) (Option.some Jvm.ClassFile.FieldType.int)) ∈ zc_W := zk_5 _ (List.mem_of_getElem? (i := 60) rfl)
theorem zm_461 : (Jvm.Cond.methodLink "DiceForge" (160 : Nat) ({ cls := "DiceForge", name := "strikeFrom", desc := "(II)I" } : Jvm.MethodName)) ∈ zc_W := zk_5 _ (List.mem_of_getElem? (i := 61) rfl)
theorem zm_462 : (Jvm.Cond.instanceMethod ({ cls := "DiceForge", name := "strikeFrom", desc := "(II)I" } : Jvm.MethodName)) ∈ zc_W := zk_5 _ (List.mem_of_getElem? (i := 62) rfl)
theorem zm_463 : (Jvm.Cond.code ({ cls := "DiceForge", name := "strikeFrom", desc := "(II)I" } : Jvm.MethodName) prog_1_method_31_code (6 : Nat) (Option.some Jvm.ClassFile.FieldType.int)) ∈ zc_W := zk_5 _ (List.mem_of_getElem? (i := 63) rfl)
theorem zm_464 : (Jvm.Cond.methodLink "DiceForge" (193 : Nat) ({ cls := "java/lang/Math", name := "max", desc := "(II)I" } : Jvm.MethodName)) ∈ zc_W := zk_5 _ (List.mem_of_getElem? (i := 64) rfl)
theorem zm_465 : (Jvm.Cond.methodLink "DiceForgeLaw" (137 : Nat) ({ cls := "DiceForgeLaw", name := "isStruck", desc := "(LDiceForge;I[J)I" } : Jvm.MethodName)) ∈ zc_W := zk_5 _ (List.mem_of_getElem? (i := 65) rfl)
theorem zm_466 : (Jvm.Cond.static ({ cls := "DiceForgeLaw", name := "isStruck", desc := "(LDiceForge;I[J)I" } : Jvm.MethodName)) ∈ zc_W := zk_5 _ (List.mem_of_getElem? (i := 66) rfl)
theorem zm_467 : (Jvm.Cond.codeWith ({ cls := "DiceForgeLaw", name := "isStruck", desc := "(LDiceForge;I[J)I" } : Jvm.MethodName) method_17_code (4 : Nat) (Option.some Jvm.ClassFile.FieldType.int) [((0 : Nat), (16 : Nat), (19 : Nat), (20 : Nat))]) ∈ zc_W := zk_5 _ (List.mem_of_getElem? (i := 67) rfl)
theorem zm_468 : (Jvm.Cond.methodLink "DiceForgeLaw" (61 : Nat) ({ cls := "DiceForge", name := "isStruck", desc := "(I)Z" } : Jvm.MethodName)) ∈ zc_W := zk_5 _ (List.mem_of_getElem? (i := 68) rfl)
theorem zm_469 : (Jvm.Cond.instanceMethod ({ cls := "DiceForge", name := "isStruck", desc := "(I)Z" } : Jvm.MethodName)) ∈ zc_W := zk_5 _ (List.mem_of_getElem? (i := 69) rfl)
theorem zm_470 : (Jvm.Cond.selects "DiceForge" ({ cls := "DiceForge", name := "isStruck", desc := "(I)Z" } : Jvm.MethodName) ({ cls := "DiceForge", name := "isStruck", desc := "(I)Z" } : Jvm.MethodName)) ∈ zc_W := zk_5 _ (List.mem_of_getElem? (i := 70) rfl)
theorem zm_471 : (Jvm.Cond.code ({ cls := "DiceForge", name := "isStruck", desc := "(I)Z" } : Jvm.MethodName) prog_1_method_18_code (2 : Nat) (Option.some Jvm.ClassFile.FieldType.boolean)) ∈ zc_W := zk_5 _ (List.mem_of_getElem? (i := 71) rfl)
theorem zm_472 : (Jvm.Cond.methodLink "DiceForgeLaw" (140 : Nat) ({ cls := "DiceForgeLaw", name := "count", desc := "(LDiceForge;II[J)I" } : Jvm.MethodName)) ∈ zc_W := zk_5 _ (List.mem_of_getElem? (i := 72) rfl)
theorem zm_473 : (Jvm.Cond.static ({ cls := "DiceForgeLaw", name := "count", desc := "(LDiceForge;II[J)I" } : Jvm.MethodName)) ∈ zc_W := zk_5 _ (List.mem_of_getElem? (i := 73) rfl)
theorem zm_474 : (Jvm.Cond.codeWith ({ cls := "DiceForgeLaw", name := "count", desc := "(LDiceForge;II[J)I" } : Jvm.MethodName) method_18_code (5 : Nat) (Option.some Jvm.ClassFile.FieldType.int) [((0 : Nat), (10 : Nat), (13 : Nat), (13 : Nat))]) ∈ zc_W := zk_5 _ (List.mem_of_getElem? (i := 74) rfl)
theorem zm_475 : (Jvm.Cond.methodLink "DiceForgeLaw" (64 : Nat) ({ cls := "DiceForge", name := "count", desc := "(II)I" } : Jvm.MethodName)) ∈ zc_W := zk_5 _ (List.mem_of_getElem? (i := 75) rfl)
theorem zm_476 : (Jvm.Cond.instanceMethod ({ cls := "DiceForge", name := "count", desc := "(II)I" } : Jvm.MethodName)) ∈ zc_W := zk_5 _ (List.mem_of_getElem? (i := 76) rfl)
theorem zm_477 : (Jvm.Cond.selects "DiceForge" ({ cls := "DiceForge", name := "count", desc := "(II)I" } : Jvm.MethodName) ({ cls := "DiceForge", name := "count", desc := "(II)I" } : Jvm.MethodName)) ∈ zc_W := zk_5 _ (List.mem_of_getElem? (i := 77) rfl)
theorem zm_478 : (Jvm.Cond.code ({ cls := "DiceForge", name := "count", desc := "(II)I" } : Jvm.MethodName) prog_1_method_19_code (6 : Nat) (Option.some Jvm.ClassFile.FieldType.int)) ∈ zc_W := zk_5 _ (List.mem_of_getElem? (i := 78) rfl)
theorem zm_479 : (Jvm.Cond.instanceMethod ({ cls := "DiceForge$Entry", name := "countsFor", desc := "(I)Z" } : Jvm.MethodName)) ∈ zc_W := zk_5 _ (List.mem_of_getElem? (i := 79) rfl)
theorem zm_480 : (Jvm.Cond.code ({ cls := "DiceForge$Entry", name := "countsFor", desc := "(I)Z" } : Jvm.MethodName) prog_3_method_3_code (2 : Nat) (Option.some Jvm.ClassFile.FieldType.boolean)) ∈ zc_W := zk_6 _ (List.mem_of_getElem? (i := 0) rfl)
theorem zm_481 : (Jvm.Cond.methodLink "DiceForgeLaw" (143 : Nat) ({ cls := "DiceForgeLaw", name := "uneven", desc := "(LDiceForge;I[J)I" } : Jvm.MethodName)) ∈ zc_W := zk_6 _ (List.mem_of_getElem? (i := 1) rfl)
theorem zm_482 : (Jvm.Cond.static ({ cls := "DiceForgeLaw", name := "uneven", desc := "(LDiceForge;I[J)I" } : Jvm.MethodName)) ∈ zc_W := zk_6 _ (List.mem_of_getElem? (i := 2) rfl)
theorem zm_483 : (Jvm.Cond.codeWith ({ cls := "DiceForgeLaw", name := "uneven", desc := "(LDiceForge;I[J)I" } : Jvm.MethodName) method_19_code (4 : Nat) (Option.some Jvm.ClassFile.FieldType.int) [((0 : Nat), (8 : Nat), (11 : Nat), (13 : Nat))]) ∈ zc_W := zk_6 _ (List.mem_of_getElem? (i := 3) rfl)
theorem zm_484 : (Jvm.Cond.methodLink "DiceForgeLaw" (67 : Nat) ({ cls := "DiceForge", name := "uneven", desc := "(I)J" } : Jvm.MethodName)) ∈ zc_W := zk_6 _ (List.mem_of_getElem? (i := 4) rfl)
theorem zm_485 : (Jvm.Cond.instanceMethod ({ cls := "DiceForge", name := "uneven", desc := "(I)J" } : Jvm.MethodName)) ∈ zc_W := zk_6 _ (List.mem_of_getElem? (i := 5) rfl)
theorem zm_486 : (Jvm.Cond.selects "DiceForge" ({ cls := "DiceForge", name := "uneven", desc := "(I)J" } : Jvm.MethodName) ({ cls := "DiceForge", name := "uneven", desc := "(I)J" } : Jvm.MethodName)) ∈ zc_W := zk_6 _ (List.mem_of_getElem? (i := 6) rfl)
theorem zm_487 : (Jvm.Cond.code ({ cls := "DiceForge", name := "uneven", desc := "(I)J" } : Jvm.MethodName) prog_1_method_20_code (8 : Nat) (Option.some Jvm.ClassFile.FieldType.long)) ∈ zc_W := zk_6 _ (List.mem_of_getElem? (i := 7) rfl)
theorem zm_488 : (Jvm.Cond.methodLink "DiceForge" (167 : Nat) ({ cls := "DiceForge", name := "tallyValues", desc := "(I)I" } : Jvm.MethodName)) ∈ zc_W := zk_6 _ (List.mem_of_getElem? (i := 8) rfl)
theorem zm_489 : (Jvm.Cond.instanceMethod ({ cls := "DiceForge", name := "tallyValues", desc := "(I)I" } : Jvm.MethodName)) ∈ zc_W := zk_6 _ (List.mem_of_getElem? (i := 9) rfl)
theorem zm_490 : (Jvm.Cond.code ({ cls := "DiceForge", name := "tallyValues", desc := "(I)I" } : Jvm.MethodName) prog_1_method_32_code (5 : Nat) (Option.some Jvm.ClassFile.FieldType.int)) ∈ zc_W := zk_6 _ (List.mem_of_getElem? (i := 10) rfl)
theorem zm_491 : (Jvm.Cond.methodLink "DiceForge" (196 : Nat) ({ cls := "java/util/Arrays", name := "fill", desc := "([II)V" } : Jvm.MethodName)) ∈ zc_W := zk_6 _ (List.mem_of_getElem? (i := 11) rfl)
theorem zm_492 : (Jvm.Cond.static ({ cls := "java/util/Arrays", name := "fill", desc := "([II)V" } : Jvm.MethodName)) ∈ zc_W := zk_6 _ (List.mem_of_getElem? (i := 12) rfl)
theorem zm_493 : (Jvm.Cond.code ({ cls := "java/util/Arrays", name := "fill", desc := "([II)V" } : Jvm.MethodName) prog_22_method_103_code (4 : Nat) (Option.none : Option Jvm.ClassFile.FieldType)) ∈ zc_W := zk_6 _ (List.mem_of_getElem? (i := 13) rfl)
theorem zm_494 : (Jvm.Cond.methodLink "DiceForgeLaw" (146 : Nat) ({ cls := "DiceForgeLaw", name := "total", desc := "(LDiceForge;I[J)I" } : Jvm.MethodName)) ∈ zc_W := zk_6 _ (List.mem_of_getElem? (i := 14) rfl)
theorem zm_495 : (Jvm.Cond.static ({ cls := "DiceForgeLaw", name := "total", desc := "(LDiceForge;I[J)I" } : Jvm.MethodName)) ∈ zc_W := zk_6 _ (List.mem_of_getElem? (i := 15) rfl)
theorem zm_496 : (Jvm.Cond.codeWith ({ cls := "DiceForgeLaw", name := "total", desc := "(LDiceForge;I[J)I" } : Jvm.MethodName) method_20_code (4 : Nat) (Option.some Jvm.ClassFile.FieldType.int) [((0 : Nat), (9 : Nat), (12 : Nat), (20 : Nat))]) ∈ zc_W := zk_6 _ (List.mem_of_getElem? (i := 16) rfl)
theorem zm_497 : (Jvm.Cond.methodLink "DiceForgeLaw" (71 : Nat) ({ cls := "DiceForge", name := "total", desc := "(I)I" } : Jvm.MethodName)) ∈ zc_W := zk_6 _ (List.mem_of_getElem? (i := 17) rfl)
theorem zm_498 : (Jvm.Cond.instanceMethod ({ cls := "DiceForge", name := "total", desc := "(I)I" } : Jvm.MethodName)) ∈ zc_W := zk_6 _ (List.mem_of_getElem? (i := 18) rfl)
theorem zm_499 : (Jvm.Cond.selects "DiceForge" ({ cls := "DiceForge", name := "total", desc := "(I)I" } : Jvm.MethodName) ({ cls := "DiceForge", name := "total", desc := "(I)I" } : Jvm.MethodName)) ∈ zc_W := zk_6 _ (List.mem_of_getElem? (i := 19) rfl)
theorem zm_500 : (Jvm.Cond.code ({ cls := "DiceForge", name := "total", desc := "(I)I" } : Jvm.MethodName) prog_1_method_21_code (5 : Nat) (Option.some Jvm.ClassFile.FieldType.int)) ∈ zc_W := zk_6 _ (List.mem_of_getElem? (i := 20) rfl)
theorem zm_501 : (Jvm.Cond.classLink "DiceForgeLaw" (75 : Nat) "DiceForgeModel") ∈ zc_W := zk_6 _ (List.mem_of_getElem? (i := 21) rfl)
theorem zm_502 : (Jvm.Cond.instantiable "DiceForgeModel" (18 : Nat)) ∈ zc_W := zk_6 _ (List.mem_of_getElem? (i := 22) rfl)
theorem zm_503 : (Jvm.Cond.methodLink "DiceForgeLaw" (77 : Nat) ({ cls := "DiceForgeModel", name := "<init>", desc := "()V" } : Jvm.MethodName)) ∈ zc_W := zk_6 _ (List.mem_of_getElem? (i := 23) rfl)
theorem zm_504 : (Jvm.Cond.instanceMethod ({ cls := "DiceForgeModel", name := "<init>", desc := "()V" } : Jvm.MethodName)) ∈ zc_W := zk_6 _ (List.mem_of_getElem? (i := 24) rfl)
theorem zm_505 : (Jvm.Cond.code ({ cls := "DiceForgeModel", name := "<init>", desc := "()V" } : Jvm.MethodName) prog_6_method_1_code (1 : Nat) (Option.none : Option Jvm.ClassFile.FieldType)) ∈ zc_W := zk_6 _ (List.mem_of_getElem? (i := 25) rfl)
theorem zm_506 : (Jvm.Cond.methodLink "DiceForgeModel" (1 : Nat) ({ cls := "java/lang/Object", name := "<init>", desc := "()V" } : Jvm.MethodName)) ∈ zc_W := zk_6 _ (List.mem_of_getElem? (i := 26) rfl)
theorem zm_507 : (Jvm.Cond.fieldLink "DiceForgeModel" (50 : Nat) "DiceForgeModel" "thrown" "I") ∈ zc_W := zk_6 _ (List.mem_of_getElem? (i := 27) rfl)
theorem zm_508 : (Jvm.Cond.fieldLink "DiceForgeModel" (54 : Nat) "DiceForgeModel" "promises" "I") ∈ zc_W := zk_6 _ (List.mem_of_getElem? (i := 28) rfl)
theorem zm_509 : (Jvm.Cond.fieldLink "DiceForgeModel" (7 : Nat) "DiceForgeModel" "seed" "[I") ∈ zc_W := zk_6 _ (List.mem_of_getElem? (i := 29) rfl)
theorem zm_510 : (Jvm.Cond.fieldLink "DiceForgeModel" (13 : Nat) "DiceForgeModel" "state" "[I") ∈ zc_W := zk_6 _ (List.mem_of_getElem? (i := 30) rfl)
theorem zm_511 : (Jvm.Cond.fieldLink "DiceForgeModel" (16 : Nat) "DiceForgeModel" "opened" "[Z") ∈ zc_W := zk_6 _ (List.mem_of_getElem? (i := 31) rfl)
theorem zm_512 : (Jvm.Cond.fieldLink "DiceForgeModel" (20 : Nat) "DiceForgeModel" "disputed" "[Z") ∈ zc_W := zk_6 _ (List.mem_of_getElem? (i := 32) rfl)
theorem zm_513 : (Jvm.Cond.fieldLink "DiceForgeModel" (23 : Nat) "DiceForgeModel" "parts" "[I") ∈ zc_W := zk_6 _ (List.mem_of_getElem? (i := 33) rfl)
theorem zm_514 : (Jvm.Cond.fieldLink "DiceForgeModel" (61 : Nat) "DiceForgeModel" "entries" "I") ∈ zc_W := zk_6 _ (List.mem_of_getElem? (i := 34) rfl)
theorem zm_515 : (Jvm.Cond.fieldLink "DiceForgeModel" (26 : Nat) "DiceForgeModel" "of" "[I") ∈ zc_W := zk_6 _ (List.mem_of_getElem? (i := 35) rfl)
theorem zm_516 : (Jvm.Cond.fieldLink "DiceForgeModel" (29 : Nat) "DiceForgeModel" "at" "[I") ∈ zc_W := zk_6 _ (List.mem_of_getElem? (i := 36) rfl)
theorem zm_517 : (Jvm.Cond.fieldLink "DiceForgeModel" (32 : Nat) "DiceForgeModel" "part" "[I") ∈ zc_W := zk_6 _ (List.mem_of_getElem? (i := 37) rfl)
theorem zm_518 : (Jvm.Cond.fieldLink "DiceForgeModel" (35 : Nat) "DiceForgeModel" "sides" "[I") ∈ zc_W := zk_6 _ (List.mem_of_getElem? (i := 38) rfl)
theorem zm_519 : (Jvm.Cond.fieldLink "DiceForgeModel" (38 : Nat) "DiceForgeModel" "value" "[I") ∈ zc_W := zk_6 _ (List.mem_of_getElem? (i := 39) rfl)
theorem zm_520 : (Jvm.Cond.fieldLink "DiceForgeModel" (41 : Nat) "DiceForgeModel" "rejected" "[I") ∈ zc_W := zk_6 _ (List.mem_of_getElem? (i := 40) rfl)
theorem zm_521 : (Jvm.Cond.fieldLink "DiceForgeModel" (44 : Nat) "DiceForgeModel" "sum" "[I") ∈ zc_W := zk_6 _ (List.mem_of_getElem? (i := 41) rfl)
theorem zm_522 : (Jvm.Cond.fieldLink "DiceForgeModel" (47 : Nat) "DiceForgeModel" "struck" "[Z") ∈ zc_W := zk_6 _ (List.mem_of_getElem? (i := 42) rfl)
theorem zm_523 : (Jvm.Cond.fieldLink "DiceForgeModel" (86 : Nat) "DiceForgeModel" "behind" "I") ∈ zc_W := zk_6 _ (List.mem_of_getElem? (i := 43) rfl)
theorem zm_524 : (Jvm.Cond.fieldLink "DiceForgeModel" (89 : Nat) "DiceForgeModel" "draws" "I") ∈ zc_W := zk_6 _ (List.mem_of_getElem? (i := 44) rfl)
theorem zm_525 : (Jvm.Cond.lays "DiceForgeModel" "DiceForgeModel" "thrown" "I") ∈ zc_W := zk_6 _ (List.mem_of_getElem? (i := 45) rfl)
theorem zm_526 : (Jvm.Cond.soleField "DiceForgeModel" "thrown") ∈ zc_W := zk_6 _ (List.mem_of_getElem? (i := 46) rfl)
theorem zm_527 : (Jvm.Cond.lays "DiceForgeModel" "DiceForgeModel" "promises" "I") ∈ zc_W := zk_6 _ (List.mem_of_getElem? (i := 47) rfl)
theorem zm_528 : (Jvm.Cond.soleField "DiceForgeModel" "promises") ∈ zc_W := zk_6 _ (List.mem_of_getElem? (i := 48) rfl)
theorem zm_529 : (Jvm.Cond.laysFinal "DiceForgeModel" "DiceForgeModel" "seed" "[I") ∈ zc_W := zk_6 _ (List.mem_of_getElem? (i := 49) rfl)
theorem zm_530 : (Jvm.Cond.soleField "DiceForgeModel" "seed") ∈ zc_W := zk_6 _ (List.mem_of_getElem? (i := 50) rfl)
theorem zm_531 : (Jvm.Cond.laysFinal "DiceForgeModel" "DiceForgeModel" "state" "[I") ∈ zc_W := zk_6 _ (List.mem_of_getElem? (i := 51) rfl)
theorem zm_532 : (Jvm.Cond.soleField "DiceForgeModel" "state") ∈ zc_W := zk_6 _ (List.mem_of_getElem? (i := 52) rfl)
theorem zm_533 : (Jvm.Cond.laysFinal "DiceForgeModel" "DiceForgeModel" "opened" "[Z") ∈ zc_W := zk_6 _ (List.mem_of_getElem? (i := 53) rfl)
theorem zm_534 : (Jvm.Cond.soleField "DiceForgeModel" "opened") ∈ zc_W := zk_6 _ (List.mem_of_getElem? (i := 54) rfl)
theorem zm_535 : (Jvm.Cond.laysFinal "DiceForgeModel" "DiceForgeModel" "disputed" "[Z") ∈ zc_W := zk_6 _ (List.mem_of_getElem? (i := 55) rfl)
theorem zm_536 : (Jvm.Cond.soleField "DiceForgeModel" "disputed") ∈ zc_W := zk_6 _ (List.mem_of_getElem? (i := 56) rfl)
theorem zm_537 : (Jvm.Cond.laysFinal "DiceForgeModel" "DiceForgeModel" "parts" "[I") ∈ zc_W := zk_6 _ (List.mem_of_getElem? (i := 57) rfl)
theorem zm_538 : (Jvm.Cond.soleField "DiceForgeModel" "parts") ∈ zc_W := zk_6 _ (List.mem_of_getElem? (i := 58) rfl)
theorem zm_539 : (Jvm.Cond.lays "DiceForgeModel" "DiceForgeModel" "entries" "I") ∈ zc_W := zk_6 _ (List.mem_of_getElem? (i := 59) rfl)
theorem zm_540 : (Jvm.Cond.soleField "DiceForgeModel" "entries") ∈ zc_W := zk_6 _ (List.mem_of_getElem? (i := 60) rfl)
theorem zm_541 : (Jvm.Cond.laysFinal "DiceForgeModel" "DiceForgeModel" "of" "[I") ∈ zc_W := zk_6 _ (List.mem_of_getElem? (i := 61) rfl)
theorem zm_542 : (Jvm.Cond.soleField "DiceForgeModel" "of") ∈ zc_W := zk_6 _ (List.mem_of_getElem? (i := 62) rfl)
theorem zm_543 : (Jvm.Cond.laysFinal "DiceForgeModel" "DiceForgeModel" "at" "[I") ∈ zc_W := zk_6 _ (List.mem_of_getElem? (i := 63) rfl)
theorem zm_544 : (Jvm.Cond.soleField "DiceForgeModel" "at") ∈ zc_W := zk_6 _ (List.mem_of_getElem? (i := 64) rfl)
theorem zm_545 : (Jvm.Cond.laysFinal "DiceForgeModel" "DiceForgeModel" "part" "[I") ∈ zc_W := zk_6 _ (List.mem_of_getElem? (i := 65) rfl)
theorem zm_546 : (Jvm.Cond.soleField "DiceForgeModel" "part") ∈ zc_W := zk_6 _ (List.mem_of_getElem? (i := 66) rfl)
theorem zm_547 : (Jvm.Cond.laysFinal "DiceForgeModel" "DiceForgeModel" "sides" "[I") ∈ zc_W := zk_6 _ (List.mem_of_getElem? (i := 67) rfl)
theorem zm_548 : (Jvm.Cond.soleField "DiceForgeModel" "sides") ∈ zc_W := zk_6 _ (List.mem_of_getElem? (i := 68) rfl)
theorem zm_549 : (Jvm.Cond.laysFinal "DiceForgeModel" "DiceForgeModel" "value" "[I") ∈ zc_W := zk_6 _ (List.mem_of_getElem? (i := 69) rfl)
theorem zm_550 : (Jvm.Cond.soleField "DiceForgeModel" "value") ∈ zc_W := zk_6 _ (List.mem_of_getElem? (i := 70) rfl)
theorem zm_551 : (Jvm.Cond.laysFinal "DiceForgeModel" "DiceForgeModel" "rejected" "[I") ∈ zc_W := zk_6 _ (List.mem_of_getElem? (i := 71) rfl)
theorem zm_552 : (Jvm.Cond.soleField "DiceForgeModel" "rejected") ∈ zc_W := zk_6 _ (List.mem_of_getElem? (i := 72) rfl)
theorem zm_553 : (Jvm.Cond.laysFinal "DiceForgeModel" "DiceForgeModel" "sum" "[I") ∈ zc_W := zk_6 _ (List.mem_of_getElem? (i := 73) rfl)
theorem zm_554 : (Jvm.Cond.soleField "DiceForgeModel" "sum") ∈ zc_W := zk_6 _ (List.mem_of_getElem? (i := 74) rfl)
theorem zm_555 : (Jvm.Cond.laysFinal "DiceForgeModel" "DiceForgeModel" "struck" "[Z") ∈ zc_W := zk_6 _ (List.mem_of_getElem? (i := 75) rfl)
theorem zm_556 : (Jvm.Cond.soleField "DiceForgeModel" "struck") ∈ zc_W := zk_6 _ (List.mem_of_getElem? (i := 76) rfl)
theorem zm_557 : (Jvm.Cond.lays "DiceForgeModel" "DiceForgeModel" "behind" "I") ∈ zc_W := zk_6 _ (List.mem_of_getElem? (i := 77) rfl)
theorem zm_558 : (Jvm.Cond.soleField "DiceForgeModel" "behind") ∈ zc_W := zk_6 _ (List.mem_of_getElem? (i := 78) rfl)
theorem zm_559 : (Jvm.Cond.lays "DiceForgeModel" "DiceForgeModel" "draws" "I") ∈ zc_W := zk_6 _ (List.mem_of_getElem? (i := 79) rfl)
theorem zm_560 : (Jvm.Cond.soleField "DiceForgeModel" "draws") ∈ zc_W := zk_7 _ (List.mem_of_getElem? (i := 0) rfl)
theorem zm_561 : (Jvm.Cond.superclass "DiceForgeModel" "java/lang/Object") ∈ zc_W := zk_7 _ (List.mem_of_getElem? (i := 1) rfl)
theorem zm_562 : (Jvm.Cond.arrayClass Jvm.ClassFile.FieldType.boolean) ∈ zc_W := zk_7 _ (List.mem_of_getElem? (i := 2) rfl)
theorem zm_563 : (Jvm.Cond.methodLink "DiceForgeLaw" (84 : Nat) ({ cls := "DiceForgeModel", name := "thrown", desc := "()I" } : Jvm.MethodName)) ∈ zc_W := zk_7 _ (List.mem_of_getElem? (i := 3) rfl)
theorem zm_564 : (Jvm.Cond.instanceMethod ({ cls := "DiceForgeModel", name := "thrown", desc := "()I" } : Jvm.MethodName)) ∈ zc_W := zk_7 _ (List.mem_of_getElem? (i := 4) rfl)
theorem zm_565 : (Jvm.Cond.selects "DiceForgeModel" ({ cls := "DiceForgeModel", name := "thrown", desc := "()I" } : Jvm.MethodName) ({ cls := "DiceForgeModel", name := "thrown", desc := "()I" } : Jvm.MethodName)) ∈ zc_W := zk_7 _ (List.mem_of_getElem? (i := 5) rfl)
theorem zm_566 : (Jvm.Cond.code ({ cls := "DiceForgeModel", name := "thrown", desc := "()I" } : Jvm.MethodName) prog_6_method_2_code (1 : Nat) (Option.some Jvm.ClassFile.FieldType.int)) ∈ zc_W := zk_7 _ (List.mem_of_getElem? (i := 6) rfl)
theorem zm_567 : (Jvm.Cond.methodLink "DiceForgeLaw" (83 : Nat) ({ cls := "DiceForgeModel", name := "promise", desc := "(I)I" } : Jvm.MethodName)) ∈ zc_W := zk_7 _ (List.mem_of_getElem? (i := 7) rfl)
theorem zm_568 : (Jvm.Cond.instanceMethod ({ cls := "DiceForgeModel", name := "promise", desc := "(I)I" } : Jvm.MethodName)) ∈ zc_W := zk_7 _ (List.mem_of_getElem? (i := 8) rfl)
theorem zm_569 : (Jvm.Cond.selects "DiceForgeModel" ({ cls := "DiceForgeModel", name := "promise", desc := "(I)I" } : Jvm.MethodName) ({ cls := "DiceForgeModel", name := "promise", desc := "(I)I" } : Jvm.MethodName)) ∈ zc_W := zk_7 _ (List.mem_of_getElem? (i := 9) rfl)
theorem zm_570 : (Jvm.Cond.code ({ cls := "DiceForgeModel", name := "promise", desc := "(I)I" } : Jvm.MethodName) prog_6_method_10_code (2 : Nat) (Option.some Jvm.ClassFile.FieldType.int)) ∈ zc_W := zk_7 _ (List.mem_of_getElem? (i := 10) rfl)
theorem zm_571 : (Jvm.Cond.constant "DiceForgeModel" (70 : Nat) (65535 : Int32)) ∈ zc_W := zk_7 _ (List.mem_of_getElem? (i := 11) rfl)
theorem zm_572 : (Jvm.Cond.methodLink "DiceForgeModel" (57 : Nat) ({ cls := "DiceForgeModel", name := "in", desc := "(III)Z" } : Jvm.MethodName)) ∈ zc_W := zk_7 _ (List.mem_of_getElem? (i := 12) rfl)
theorem zm_573 : (Jvm.Cond.static ({ cls := "DiceForgeModel", name := "in", desc := "(III)Z" } : Jvm.MethodName)) ∈ zc_W := zk_7 _ (List.mem_of_getElem? (i := 13) rfl)
theorem zm_574 : (Jvm.Cond.code ({ cls := "DiceForgeModel", name := "in", desc := "(III)Z" } : Jvm.MethodName) prog_6_method_4_code (3 : Nat) (Option.some Jvm.ClassFile.FieldType.boolean)) ∈ zc_W := zk_7 _ (List.mem_of_getElem? (i := 14) rfl)
theorem zm_575 : (Jvm.Cond.methodLink "DiceForgeModel" (71 : Nat) ({ cls := "DiceForgeModel", name := "fails", desc := "(I)I" } : Jvm.MethodName)) ∈ zc_W := zk_7 _ (List.mem_of_getElem? (i := 15) rfl)
theorem zm_576 : (Jvm.Cond.instanceMethod ({ cls := "DiceForgeModel", name := "fails", desc := "(I)I" } : Jvm.MethodName)) ∈ zc_W := zk_7 _ (List.mem_of_getElem? (i := 16) rfl)
theorem zm_577 : (Jvm.Cond.code ({ cls := "DiceForgeModel", name := "fails", desc := "(I)I" } : Jvm.MethodName) prog_6_method_3_code (2 : Nat) (Option.some Jvm.ClassFile.FieldType.int)) ∈ zc_W := zk_7 _ (List.mem_of_getElem? (i := 17) rfl)
theorem zm_578 : (Jvm.Cond.methodLink "DiceForgeLaw" (90 : Nat) ({ cls := "DiceForgeModel", name := "sign", desc := "(I)I" } : Jvm.MethodName)) ∈ zc_W := zk_7 _ (List.mem_of_getElem? (i := 18) rfl)
theorem zm_579 : (Jvm.Cond.instanceMethod ({ cls := "DiceForgeModel", name := "sign", desc := "(I)I" } : Jvm.MethodName)) ∈ zc_W := zk_7 _ (List.mem_of_getElem? (i := 19) rfl)
theorem zm_580 : (Jvm.Cond.selects "DiceForgeModel" ({ cls := "DiceForgeModel", name := "sign", desc := "(I)I" } : Jvm.MethodName) ({ cls := "DiceForgeModel", name := "sign", desc := "(I)I" } : Jvm.MethodName)) ∈ zc_W := zk_7 _ (List.mem_of_getElem? (i := 20) rfl)
theorem zm_581 : (Jvm.Cond.code ({ cls := "DiceForgeModel", name := "sign", desc := "(I)I" } : Jvm.MethodName) prog_6_method_11_code (2 : Nat) (Option.some Jvm.ClassFile.FieldType.int)) ∈ zc_W := zk_7 _ (List.mem_of_getElem? (i := 21) rfl)
theorem zm_582 : (Jvm.Cond.methodLink "DiceForgeModel" (75 : Nat) ({ cls := "DiceForgeModel", name := "isPromise", desc := "(I)Z" } : Jvm.MethodName)) ∈ zc_W := zk_7 _ (List.mem_of_getElem? (i := 22) rfl)
theorem zm_583 : (Jvm.Cond.instanceMethod ({ cls := "DiceForgeModel", name := "isPromise", desc := "(I)Z" } : Jvm.MethodName)) ∈ zc_W := zk_7 _ (List.mem_of_getElem? (i := 23) rfl)
theorem zm_584 : (Jvm.Cond.code ({ cls := "DiceForgeModel", name := "isPromise", desc := "(I)Z" } : Jvm.MethodName) prog_6_method_5_code (2 : Nat) (Option.some Jvm.ClassFile.FieldType.boolean)) ∈ zc_W := zk_7 _ (List.mem_of_getElem? (i := 24) rfl)
theorem zm_585 : (Jvm.Cond.methodLink "DiceForgeModel" (79 : Nat) ({ cls := "DiceForgeModel", name := "signOf", desc := "(I)I" } : Jvm.MethodName)) ∈ zc_W := zk_7 _ (List.mem_of_getElem? (i := 25) rfl)
theorem zm_586 : (Jvm.Cond.static ({ cls := "DiceForgeModel", name := "signOf", desc := "(I)I" } : Jvm.MethodName)) ∈ zc_W := zk_7 _ (List.mem_of_getElem? (i := 26) rfl)
theorem zm_587 : (Jvm.Cond.code ({ cls := "DiceForgeModel", name := "signOf", desc := "(I)I" } : Jvm.MethodName) prog_6_method_9_code (1 : Nat) (Option.some Jvm.ClassFile.FieldType.int)) ∈ zc_W := zk_7 _ (List.mem_of_getElem? (i := 27) rfl)
theorem zm_588 : (Jvm.Cond.constantLong "DiceForgeModel" (64 : Nat) (31 : Int64)) ∈ zc_W := zk_7 _ (List.mem_of_getElem? (i := 28) rfl)
theorem zm_589 : (Jvm.Cond.constantLong "DiceForgeModel" (66 : Nat) (7 : Int64)) ∈ zc_W := zk_7 _ (List.mem_of_getElem? (i := 29) rfl)
theorem zm_590 : (Jvm.Cond.constantLong "DiceForgeModel" (68 : Nat) (10007 : Int64)) ∈ zc_W := zk_7 _ (List.mem_of_getElem? (i := 30) rfl)
theorem zm_591 : (Jvm.Cond.methodLink "DiceForgeLaw" (93 : Nat) ({ cls := "DiceForgeModel", name := "seedsOf", desc := "(I)I" } : Jvm.MethodName)) ∈ zc_W := zk_7 _ (List.mem_of_getElem? (i := 31) rfl)
theorem zm_592 : (Jvm.Cond.instanceMethod ({ cls := "DiceForgeModel", name := "seedsOf", desc := "(I)I" } : Jvm.MethodName)) ∈ zc_W := zk_7 _ (List.mem_of_getElem? (i := 32) rfl)
theorem zm_593 : (Jvm.Cond.selects "DiceForgeModel" ({ cls := "DiceForgeModel", name := "seedsOf", desc := "(I)I" } : Jvm.MethodName) ({ cls := "DiceForgeModel", name := "seedsOf", desc := "(I)I" } : Jvm.MethodName)) ∈ zc_W := zk_7 _ (List.mem_of_getElem? (i := 33) rfl)
theorem zm_594 : (Jvm.Cond.code ({ cls := "DiceForgeModel", name := "seedsOf", desc := "(I)I" } : Jvm.MethodName) prog_6_method_12_code (5 : Nat) (Option.some Jvm.ClassFile.FieldType.int)) ∈ zc_W := zk_7 _ (List.mem_of_getElem? (i := 34) rfl)
theorem zm_595 : (Jvm.Cond.constant "DiceForgeModel" (82 : Nat) (65536 : Int32)) ∈ zc_W := zk_7 _ (List.mem_of_getElem? (i := 35) rfl)
theorem zm_596 : (Jvm.Cond.methodLink "DiceForgeLaw" (96 : Nat) ({ cls := "DiceForgeModel", name := "open", desc := "(I)I" } : Jvm.MethodName)) ∈ zc_W := zk_7 _ (List.mem_of_getElem? (i := 36) rfl)
theorem zm_597 : (Jvm.Cond.instanceMethod ({ cls := "DiceForgeModel", name := "open", desc := "(I)I" } : Jvm.MethodName)) ∈ zc_W := zk_7 _ (List.mem_of_getElem? (i := 37) rfl)
theorem zm_598 : (Jvm.Cond.selects "DiceForgeModel" ({ cls := "DiceForgeModel", name := "open", desc := "(I)I" } : Jvm.MethodName) ({ cls := "DiceForgeModel", name := "open", desc := "(I)I" } : Jvm.MethodName)) ∈ zc_W := zk_7 _ (List.mem_of_getElem? (i := 38) rfl)
theorem zm_599 : (Jvm.Cond.code ({ cls := "DiceForgeModel", name := "open", desc := "(I)I" } : Jvm.MethodName) prog_6_method_13_code (2 : Nat) (Option.some Jvm.ClassFile.FieldType.int)) ∈ zc_W := zk_7 _ (List.mem_of_getElem? (i := 39) rfl)
theorem zm_600 : (Jvm.Cond.methodLink "DiceForgeLaw" (99 : Nat) ({ cls := "DiceForgeModel", name := "isOpened", desc := "(I)Z" } : Jvm.MethodName)) ∈ zc_W := zk_7 _ (List.mem_of_getElem? (i := 40) rfl)
theorem zm_601 : (Jvm.Cond.instanceMethod ({ cls := "DiceForgeModel", name := "isOpened", desc := "(I)Z" } : Jvm.MethodName)) ∈ zc_W := zk_7 _ (List.mem_of_getElem? (i := 41) rfl)
theorem zm_602 : (Jvm.Cond.selects "DiceForgeModel" ({ cls := "DiceForgeModel", name := "isOpened", desc := "(I)Z" } : Jvm.MethodName) ({ cls := "DiceForgeModel", name := "isOpened", desc := "(I)Z" } : Jvm.MethodName)) ∈ zc_W := zk_7 _ (List.mem_of_getElem? (i := 42) rfl)
theorem zm_603 : (Jvm.Cond.code ({ cls := "DiceForgeModel", name := "isOpened", desc := "(I)Z" } : Jvm.MethodName) prog_6_method_14_code (2 : Nat) (Option.some Jvm.ClassFile.FieldType.boolean)) ∈ zc_W := zk_7 _ (List.mem_of_getElem? (i := 43) rfl)
theorem zm_604 : (Jvm.Cond.methodLink "DiceForgeLaw" (103 : Nat) ({ cls := "DiceForgeModel", name := "setPart", desc := "(II)I" } : Jvm.MethodName)) ∈ zc_W := zk_7 _ (List.mem_of_getElem? (i := 44) rfl)
theorem zm_605 : (Jvm.Cond.instanceMethod ({ cls := "DiceForgeModel", name := "setPart", desc := "(II)I" } : Jvm.MethodName)) ∈ zc_W := zk_7 _ (List.mem_of_getElem? (i := 45) rfl)
theorem zm_606 : (Jvm.Cond.selects "DiceForgeModel" ({ cls := "DiceForgeModel", name := "setPart", desc := "(II)I" } : Jvm.MethodName) ({ cls := "DiceForgeModel", name := "setPart", desc := "(II)I" } : Jvm.MethodName)) ∈ zc_W := zk_7 _ (List.mem_of_getElem? (i := 46) rfl)
theorem zm_607 : (Jvm.Cond.code ({ cls := "DiceForgeModel", name := "setPart", desc := "(II)I" } : Jvm.MethodName) prog_6_method_15_code (4 : Nat) (Option.some Jvm.ClassFile.FieldType.int)) ∈ zc_W := zk_7 _ (List.mem_of_getElem? (i := 47) rfl)
theorem zm_608 : (Jvm.Cond.methodLink "DiceForgeModel" (83 : Nat) ({ cls := "DiceForgeModel", name := "isTable", desc := "(I)Z" } : Jvm.MethodName)) ∈ zc_W := zk_7 _ (List.mem_of_getElem? (i := 48) rfl)
theorem zm_609 : (Jvm.Cond.static ({ cls := "DiceForgeModel", name := "isTable", desc := "(I)Z" } : Jvm.MethodName)) ∈ zc_W := zk_7 _ (List.mem_of_getElem? (i := 49) rfl)
theorem zm_610 : (Jvm.Cond.code ({ cls := "DiceForgeModel", name := "isTable", desc := "(I)Z" } : Jvm.MethodName) prog_6_method_6_code (1 : Nat) (Option.some Jvm.ClassFile.FieldType.boolean)) ∈ zc_W := zk_7 _ (List.mem_of_getElem? (i := 50) rfl)
theorem zm_611 : (Jvm.Cond.methodLink "DiceForgeLaw" (107 : Nat) ({ cls := "DiceForgeModel", name := "roll", desc := "(III)I" } : Jvm.MethodName)) ∈ zc_W := zk_7 _ (List.mem_of_getElem? (i := 51) rfl)
theorem zm_612 : (Jvm.Cond.instanceMethod ({ cls := "DiceForgeModel", name := "roll", desc := "(III)I" } : Jvm.MethodName)) ∈ zc_W := zk_7 _ (List.mem_of_getElem? (i := 52) rfl)
theorem zm_613 : (Jvm.Cond.selects "DiceForgeModel" ({ cls := "DiceForgeModel", name := "roll", desc := "(III)I" } : Jvm.MethodName) ({ cls := "DiceForgeModel", name := "roll", desc := "(III)I" } : Jvm.MethodName)) ∈ zc_W := zk_7 _ (List.mem_of_getElem? (i := 53) rfl)
theorem zm_614 : (Jvm.Cond.code ({ cls := "DiceForgeModel", name := "roll", desc := "(III)I" } : Jvm.MethodName) prog_6_method_18_code (5 : Nat) (Option.some Jvm.ClassFile.FieldType.int)) ∈ zc_W := zk_7 _ (List.mem_of_getElem? (i := 54) rfl)
theorem zm_615 : (Jvm.Cond.methodLink "DiceForgeModel" (93 : Nat) ({ cls := "DiceForgeModel", name := "isDie", desc := "(I)Z" } : Jvm.MethodName)) ∈ zc_W := zk_7 _ (List.mem_of_getElem? (i := 55) rfl)
theorem zm_616 : (Jvm.Cond.static ({ cls := "DiceForgeModel", name := "isDie", desc := "(I)Z" } : Jvm.MethodName)) ∈ zc_W := zk_7 _ (List.mem_of_getElem? (i := 56) rfl)
theorem zm_617 : (Jvm.Cond.code ({ cls := "DiceForgeModel", name := "isDie", desc := "(I)Z" } : Jvm.MethodName) prog_6_method_8_code (1 : Nat) (Option.some Jvm.ClassFile.FieldType.boolean)) ∈ zc_W := zk_7 _ (List.mem_of_getElem? (i := 57) rfl)
theorem zm_618 : (Jvm.Cond.methodLink "DiceForgeModel" (96 : Nat) ({ cls := "DiceForgeModel", name := "rolls", desc := "(III)I" } : Jvm.MethodName)) ∈ zc_W := zk_7 _ (List.mem_of_getElem? (i := 58) rfl)
theorem zm_619 : (Jvm.Cond.instanceMethod ({ cls := "DiceForgeModel", name := "rolls", desc := "(III)I" } : Jvm.MethodName)) ∈ zc_W := zk_7 _ (List.mem_of_getElem? (i := 59) rfl)
theorem zm_620 : (Jvm.Cond.code ({ cls := "DiceForgeModel", name := "rolls", desc := "(III)I" } : Jvm.MethodName) prog_6_method_16_code (5 : Nat) (Option.some Jvm.ClassFile.FieldType.int)) ∈ zc_W := zk_7 _ (List.mem_of_getElem? (i := 60) rfl)
theorem zm_621 : (Jvm.Cond.methodLink "DiceForgeModel" (100 : Nat) ({ cls := "DiceForgeModel", name := "sumOf", desc := "(I)I" } : Jvm.MethodName)) ∈ zc_W := zk_7 _ (List.mem_of_getElem? (i := 61) rfl)
theorem zm_622 : (Jvm.Cond.instanceMethod ({ cls := "DiceForgeModel", name := "sumOf", desc := "(I)I" } : Jvm.MethodName)) ∈ zc_W := zk_7 _ (List.mem_of_getElem? (i := 62) rfl)
theorem zm_623 : (Jvm.Cond.code ({ cls := "DiceForgeModel", name := "sumOf", desc := "(I)I" } : Jvm.MethodName) prog_6_method_17_code (3 : Nat) (Option.some Jvm.ClassFile.FieldType.int)) ∈ zc_W := zk_7 _ (List.mem_of_getElem? (i := 63) rfl)
theorem zm_624 : (Jvm.Cond.constant "DiceForgeModel" (92 : Nat) (1000003 : Int32)) ∈ zc_W := zk_7 _ (List.mem_of_getElem? (i := 64) rfl)
theorem zm_625 : (Jvm.Cond.methodLink "DiceForgeLaw" (111 : Nat) ({ cls := "DiceForgeModel", name := "entries", desc := "()I" } : Jvm.MethodName)) ∈ zc_W := zk_7 _ (List.mem_of_getElem? (i := 65) rfl)
theorem zm_626 : (Jvm.Cond.instanceMethod ({ cls := "DiceForgeModel", name := "entries", desc := "()I" } : Jvm.MethodName)) ∈ zc_W := zk_7 _ (List.mem_of_getElem? (i := 66) rfl)
theorem zm_627 : (Jvm.Cond.selects "DiceForgeModel" ({ cls := "DiceForgeModel", name := "entries", desc := "()I" } : Jvm.MethodName) ({ cls := "DiceForgeModel", name := "entries", desc := "()I" } : Jvm.MethodName)) ∈ zc_W := zk_7 _ (List.mem_of_getElem? (i := 67) rfl)
theorem zm_628 : (Jvm.Cond.code ({ cls := "DiceForgeModel", name := "entries", desc := "()I" } : Jvm.MethodName) prog_6_method_19_code (1 : Nat) (Option.some Jvm.ClassFile.FieldType.int)) ∈ zc_W := zk_7 _ (List.mem_of_getElem? (i := 68) rfl)
theorem zm_629 : (Jvm.Cond.methodLink "DiceForgeLaw" (114 : Nat) ({ cls := "DiceForgeModel", name := "value", desc := "(I)I" } : Jvm.MethodName)) ∈ zc_W := zk_7 _ (List.mem_of_getElem? (i := 69) rfl)
theorem zm_630 : (Jvm.Cond.instanceMethod ({ cls := "DiceForgeModel", name := "value", desc := "(I)I" } : Jvm.MethodName)) ∈ zc_W := zk_7 _ (List.mem_of_getElem? (i := 70) rfl)
theorem zm_631 : (Jvm.Cond.selects "DiceForgeModel" ({ cls := "DiceForgeModel", name := "value", desc := "(I)I" } : Jvm.MethodName) ({ cls := "DiceForgeModel", name := "value", desc := "(I)I" } : Jvm.MethodName)) ∈ zc_W := zk_7 _ (List.mem_of_getElem? (i := 71) rfl)
theorem zm_632 : (Jvm.Cond.code ({ cls := "DiceForgeModel", name := "value", desc := "(I)I" } : Jvm.MethodName) prog_6_method_20_code (2 : Nat) (Option.some Jvm.ClassFile.FieldType.int)) ∈ zc_W := zk_7 _ (List.mem_of_getElem? (i := 72) rfl)
theorem zm_633 : (Jvm.Cond.methodLink "DiceForgeModel" (103 : Nat) ({ cls := "DiceForgeModel", name := "isEntry", desc := "(I)Z" } : Jvm.MethodName)) ∈ zc_W := zk_7 _ (List.mem_of_getElem? (i := 73) rfl)
theorem zm_634 : (Jvm.Cond.instanceMethod ({ cls := "DiceForgeModel", name := "isEntry", desc := "(I)Z" } : Jvm.MethodName)) ∈ zc_W := zk_7 _ (List.mem_of_getElem? (i := 74) rfl)
theorem zm_635 : (Jvm.Cond.code ({ cls := "DiceForgeModel", name := "isEntry", desc := "(I)Z" } : Jvm.MethodName) prog_6_method_7_code (2 : Nat) (Option.some Jvm.ClassFile.FieldType.boolean)) ∈ zc_W := zk_7 _ (List.mem_of_getElem? (i := 75) rfl)
theorem zm_636 : (Jvm.Cond.methodLink "DiceForgeLaw" (117 : Nat) ({ cls := "DiceForgeModel", name := "rejected", desc := "(I)I" } : Jvm.MethodName)) ∈ zc_W := zk_7 _ (List.mem_of_getElem? (i := 76) rfl)
theorem zm_637 : (Jvm.Cond.instanceMethod ({ cls := "DiceForgeModel", name := "rejected", desc := "(I)I" } : Jvm.MethodName)) ∈ zc_W := zk_7 _ (List.mem_of_getElem? (i := 77) rfl)
theorem zm_638 : (Jvm.Cond.selects "DiceForgeModel" ({ cls := "DiceForgeModel", name := "rejected", desc := "(I)I" } : Jvm.MethodName) ({ cls := "DiceForgeModel", name := "rejected", desc := "(I)I" } : Jvm.MethodName)) ∈ zc_W := zk_7 _ (List.mem_of_getElem? (i := 78) rfl)
theorem zm_639 : (Jvm.Cond.code ({ cls := "DiceForgeModel", name := "rejected", desc := "(I)I" } : Jvm.MethodName) prog_6_method_21_code (2 : Nat) (Option.some Jvm.ClassFile.FieldType.int)) ∈ zc_W := zk_7 _ (List.mem_of_getElem? (i := 79) rfl)
theorem zm_640 : (Jvm.Cond.methodLink "DiceForgeLaw" (120 : Nat) ({ cls := "DiceForgeModel", name := "sum", desc := "(I)I" } : Jvm.MethodName)) ∈ zc_W := zk_8 _ (List.mem_of_getElem? (i := 0) rfl)
theorem zm_641 : (Jvm.Cond.instanceMethod ({ cls := "DiceForgeModel", name := "sum", desc := "(I)I" } : Jvm.MethodName)) ∈ zc_W := zk_8 _ (List.mem_of_getElem? (i := 1) rfl)
theorem zm_642 : (Jvm.Cond.selects "DiceForgeModel" ({ cls := "DiceForgeModel", name := "sum", desc := "(I)I" } : Jvm.MethodName) ({ cls := "DiceForgeModel", name := "sum", desc := "(I)I" } : Jvm.MethodName)) ∈ zc_W := zk_8 _ (List.mem_of_getElem? (i := 2) rfl)
theorem zm_643 : (Jvm.Cond.code ({ cls := "DiceForgeModel", name := "sum", desc := "(I)I" } : Jvm.MethodName) prog_6_method_22_code (2 : Nat) (Option.some Jvm.ClassFile.FieldType.int)) ∈ zc_W := zk_8 _ (List.mem_of_getElem? (i := 3) rfl)
theorem zm_644 : (Jvm.Cond.methodLink "DiceForgeLaw" (123 : Nat) ({ cls := "DiceForgeModel", name := "alter", desc := "(II)I" } : Jvm.MethodName)) ∈ zc_W := zk_8 _ (List.mem_of_getElem? (i := 4) rfl)
theorem zm_645 : (Jvm.Cond.instanceMethod ({ cls := "DiceForgeModel", name := "alter", desc := "(II)I" } : Jvm.MethodName)) ∈ zc_W := zk_8 _ (List.mem_of_getElem? (i := 5) rfl)
theorem zm_646 : (Jvm.Cond.selects "DiceForgeModel" ({ cls := "DiceForgeModel", name := "alter", desc := "(II)I" } : Jvm.MethodName) ({ cls := "DiceForgeModel", name := "alter", desc := "(II)I" } : Jvm.MethodName)) ∈ zc_W := zk_8 _ (List.mem_of_getElem? (i := 6) rfl)
theorem zm_647 : (Jvm.Cond.code ({ cls := "DiceForgeModel", name := "alter", desc := "(II)I" } : Jvm.MethodName) prog_6_method_23_code (4 : Nat) (Option.some Jvm.ClassFile.FieldType.int)) ∈ zc_W := zk_8 _ (List.mem_of_getElem? (i := 7) rfl)
theorem zm_648 : (Jvm.Cond.methodLink "DiceForgeLaw" (127 : Nat) ({ cls := "DiceForgeModel", name := "broken", desc := "()I" } : Jvm.MethodName)) ∈ zc_W := zk_8 _ (List.mem_of_getElem? (i := 8) rfl)
theorem zm_649 : (Jvm.Cond.instanceMethod ({ cls := "DiceForgeModel", name := "broken", desc := "()I" } : Jvm.MethodName)) ∈ zc_W := zk_8 _ (List.mem_of_getElem? (i := 9) rfl)
theorem zm_650 : (Jvm.Cond.selects "DiceForgeModel" ({ cls := "DiceForgeModel", name := "broken", desc := "()I" } : Jvm.MethodName) ({ cls := "DiceForgeModel", name := "broken", desc := "()I" } : Jvm.MethodName)) ∈ zc_W := zk_8 _ (List.mem_of_getElem? (i := 10) rfl)
theorem zm_651 : (Jvm.Cond.code ({ cls := "DiceForgeModel", name := "broken", desc := "()I" } : Jvm.MethodName) prog_6_method_24_code (3 : Nat) (Option.some Jvm.ClassFile.FieldType.int)) ∈ zc_W := zk_8 _ (List.mem_of_getElem? (i := 11) rfl)
theorem zm_652 : (Jvm.Cond.methodLink "DiceForgeLaw" (130 : Nat) ({ cls := "DiceForgeModel", name := "found", desc := "(I)I" } : Jvm.MethodName)) ∈ zc_W := zk_8 _ (List.mem_of_getElem? (i := 12) rfl)
theorem zm_653 : (Jvm.Cond.instanceMethod ({ cls := "DiceForgeModel", name := "found", desc := "(I)I" } : Jvm.MethodName)) ∈ zc_W := zk_8 _ (List.mem_of_getElem? (i := 13) rfl)
theorem zm_654 : (Jvm.Cond.selects "DiceForgeModel" ({ cls := "DiceForgeModel", name := "found", desc := "(I)I" } : Jvm.MethodName) ({ cls := "DiceForgeModel", name := "found", desc := "(I)I" } : Jvm.MethodName)) ∈ zc_W := zk_8 _ (List.mem_of_getElem? (i := 14) rfl)
theorem zm_655 : (Jvm.Cond.code ({ cls := "DiceForgeModel", name := "found", desc := "(I)I" } : Jvm.MethodName) prog_6_method_27_code (2 : Nat) (Option.some Jvm.ClassFile.FieldType.int)) ∈ zc_W := zk_8 _ (List.mem_of_getElem? (i := 15) rfl)
theorem zm_656 : (Jvm.Cond.methodLink "DiceForgeModel" (106 : Nat) ({ cls := "DiceForgeModel", name := "again", desc := "(I)I" } : Jvm.MethodName)) ∈ zc_W := zk_8 _ (List.mem_of_getElem? (i := 16) rfl)
theorem zm_657 : (Jvm.Cond.instanceMethod ({ cls := "DiceForgeModel", name := "again", desc := "(I)I" } : Jvm.MethodName)) ∈ zc_W := zk_8 _ (List.mem_of_getElem? (i := 17) rfl)
theorem zm_658 : (Jvm.Cond.code ({ cls := "DiceForgeModel", name := "again", desc := "(I)I" } : Jvm.MethodName) prog_6_method_25_code (5 : Nat) (Option.some Jvm.ClassFile.FieldType.int)) ∈ zc_W := zk_8 _ (List.mem_of_getElem? (i := 18) rfl)
theorem zm_659 : (Jvm.Cond.methodLink "DiceForgeLaw" (133 : Nat) ({ cls := "DiceForgeModel", name := "wrong", desc := "(I)I" } : Jvm.MethodName)) ∈ zc_W := zk_8 _ (List.mem_of_getElem? (i := 19) rfl)
theorem zm_660 : (Jvm.Cond.instanceMethod ({ cls := "DiceForgeModel", name := "wrong", desc := "(I)I" } : Jvm.MethodName)) ∈ zc_W := zk_8 _ (List.mem_of_getElem? (i := 20) rfl)
theorem zm_661 : (Jvm.Cond.selects "DiceForgeModel" ({ cls := "DiceForgeModel", name := "wrong", desc := "(I)I" } : Jvm.MethodName) ({ cls := "DiceForgeModel", name := "wrong", desc := "(I)I" } : Jvm.MethodName)) ∈ zc_W := zk_8 _ (List.mem_of_getElem? (i := 21) rfl)
theorem zm_662 : (Jvm.Cond.code ({ cls := "DiceForgeModel", name := "wrong", desc := "(I)I" } : Jvm.MethodName) prog_6_method_28_code (2 : Nat) (Option.some Jvm.ClassFile.FieldType.int)) ∈ zc_W := zk_8 _ (List.mem_of_getElem? (i := 22) rfl)
theorem zm_663 : (Jvm.Cond.methodLink "DiceForgeModel" (109 : Nat) ({ cls := "DiceForgeModel", name := "firstWrong", desc := "(I)I" } : Jvm.MethodName)) ∈ zc_W := zk_8 _ (List.mem_of_getElem? (i := 23) rfl)
theorem zm_664 : (Jvm.Cond.instanceMethod ({ cls := "DiceForgeModel", name := "firstWrong", desc := "(I)I" } : Jvm.MethodName)) ∈ zc_W := zk_8 _ (List.mem_of_getElem? (i := 24) rfl)
theorem zm_665 : (Jvm.Cond.code ({ cls := "DiceForgeModel", name := "firstWrong", desc := "(I)I" } : Jvm.MethodName) prog_6_method_26_code (4 : Nat) (Option.some Jvm.ClassFile.FieldType.int)) ∈ zc_W := zk_8 _ (List.mem_of_getElem? (i := 25) rfl)
theorem zm_666 : (Jvm.Cond.methodLink "DiceForgeLaw" (136 : Nat) ({ cls := "DiceForgeModel", name := "dispute", desc := "(I)I" } : Jvm.MethodName)) ∈ zc_W := zk_8 _ (List.mem_of_getElem? (i := 26) rfl)
theorem zm_667 : (Jvm.Cond.instanceMethod ({ cls := "DiceForgeModel", name := "dispute", desc := "(I)I" } : Jvm.MethodName)) ∈ zc_W := zk_8 _ (List.mem_of_getElem? (i := 27) rfl)
theorem zm_668 : (Jvm.Cond.selects "DiceForgeModel" ({ cls := "DiceForgeModel", name := "dispute", desc := "(I)I" } : Jvm.MethodName) ({ cls := "DiceForgeModel", name := "dispute", desc := "(I)I" } : Jvm.MethodName)) ∈ zc_W := zk_8 _ (List.mem_of_getElem? (i := 28) rfl)
theorem zm_669 : (Jvm.Cond.code ({ cls := "DiceForgeModel", name := "dispute", desc := "(I)I" } : Jvm.MethodName) prog_6_method_29_code (6 : Nat) (Option.some Jvm.ClassFile.FieldType.int)) ∈ zc_W := zk_8 _ (List.mem_of_getElem? (i := 29) rfl)
theorem zm_670 : (Jvm.Cond.methodLink "DiceForgeLaw" (139 : Nat) ({ cls := "DiceForgeModel", name := "isStruck", desc := "(I)Z" } : Jvm.MethodName)) ∈ zc_W := zk_8 _ (List.mem_of_getElem? (i := 30) rfl)
theorem zm_671 : (Jvm.Cond.instanceMethod ({ cls := "DiceForgeModel", name := "isStruck", desc := "(I)Z" } : Jvm.MethodName)) ∈ zc_W := zk_8 _ (List.mem_of_getElem? (i := 31) rfl)
theorem zm_672 : (Jvm.Cond.selects "DiceForgeModel" ({ cls := "DiceForgeModel", name := "isStruck", desc := "(I)Z" } : Jvm.MethodName) ({ cls := "DiceForgeModel", name := "isStruck", desc := "(I)Z" } : Jvm.MethodName)) ∈ zc_W := zk_8 _ (List.mem_of_getElem? (i := 32) rfl)
theorem zm_673 : (Jvm.Cond.code ({ cls := "DiceForgeModel", name := "isStruck", desc := "(I)Z" } : Jvm.MethodName) prog_6_method_30_code (2 : Nat) (Option.some Jvm.ClassFile.FieldType.boolean)) ∈ zc_W := zk_8 _ (List.mem_of_getElem? (i := 33) rfl)
theorem zm_674 : (Jvm.Cond.methodLink "DiceForgeLaw" (142 : Nat) ({ cls := "DiceForgeModel", name := "count", desc := "(II)I" } : Jvm.MethodName)) ∈ zc_W := zk_8 _ (List.mem_of_getElem? (i := 34) rfl)
theorem zm_675 : (Jvm.Cond.instanceMethod ({ cls := "DiceForgeModel", name := "count", desc := "(II)I" } : Jvm.MethodName)) ∈ zc_W := zk_8 _ (List.mem_of_getElem? (i := 35) rfl)
theorem zm_676 : (Jvm.Cond.selects "DiceForgeModel" ({ cls := "DiceForgeModel", name := "count", desc := "(II)I" } : Jvm.MethodName) ({ cls := "DiceForgeModel", name := "count", desc := "(II)I" } : Jvm.MethodName)) ∈ zc_W := zk_8 _ (List.mem_of_getElem? (i := 36) rfl)
theorem zm_677 : (Jvm.Cond.code ({ cls := "DiceForgeModel", name := "count", desc := "(II)I" } : Jvm.MethodName) prog_6_method_32_code (3 : Nat) (Option.some Jvm.ClassFile.FieldType.int)) ∈ zc_W := zk_8 _ (List.mem_of_getElem? (i := 37) rfl)
theorem zm_678 : (Jvm.Cond.methodLink "DiceForgeModel" (112 : Nat) ({ cls := "DiceForgeModel", name := "counts", desc := "(II)I" } : Jvm.MethodName)) ∈ zc_W := zk_8 _ (List.mem_of_getElem? (i := 38) rfl)
theorem zm_679 : (Jvm.Cond.instanceMethod ({ cls := "DiceForgeModel", name := "counts", desc := "(II)I" } : Jvm.MethodName)) ∈ zc_W := zk_8 _ (List.mem_of_getElem? (i := 39) rfl)
theorem zm_680 : (Jvm.Cond.code ({ cls := "DiceForgeModel", name := "counts", desc := "(II)I" } : Jvm.MethodName) prog_6_method_31_code (5 : Nat) (Option.some Jvm.ClassFile.FieldType.int)) ∈ zc_W := zk_8 _ (List.mem_of_getElem? (i := 40) rfl)
theorem zm_681 : (Jvm.Cond.methodLink "DiceForgeLaw" (145 : Nat) ({ cls := "DiceForgeModel", name := "uneven", desc := "(I)J" } : Jvm.MethodName)) ∈ zc_W := zk_8 _ (List.mem_of_getElem? (i := 41) rfl)
theorem zm_682 : (Jvm.Cond.instanceMethod ({ cls := "DiceForgeModel", name := "uneven", desc := "(I)J" } : Jvm.MethodName)) ∈ zc_W := zk_8 _ (List.mem_of_getElem? (i := 42) rfl)
theorem zm_683 : (Jvm.Cond.selects "DiceForgeModel" ({ cls := "DiceForgeModel", name := "uneven", desc := "(I)J" } : Jvm.MethodName) ({ cls := "DiceForgeModel", name := "uneven", desc := "(I)J" } : Jvm.MethodName)) ∈ zc_W := zk_8 _ (List.mem_of_getElem? (i := 43) rfl)
theorem zm_684 : (Jvm.Cond.code ({ cls := "DiceForgeModel", name := "uneven", desc := "(I)J" } : Jvm.MethodName) prog_6_method_33_code (9 : Nat) (Option.some Jvm.ClassFile.FieldType.long)) ∈ zc_W := zk_8 _ (List.mem_of_getElem? (i := 44) rfl)
theorem zm_685 : (Jvm.Cond.methodLink "DiceForgeLaw" (148 : Nat) ({ cls := "DiceForgeModel", name := "total", desc := "(I)I" } : Jvm.MethodName)) ∈ zc_W := zk_8 _ (List.mem_of_getElem? (i := 45) rfl)
theorem zm_686 : (Jvm.Cond.instanceMethod ({ cls := "DiceForgeModel", name := "total", desc := "(I)I" } : Jvm.MethodName)) ∈ zc_W := zk_8 _ (List.mem_of_getElem? (i := 46) rfl)
theorem zm_687 : (Jvm.Cond.selects "DiceForgeModel" ({ cls := "DiceForgeModel", name := "total", desc := "(I)I" } : Jvm.MethodName) ({ cls := "DiceForgeModel", name := "total", desc := "(I)I" } : Jvm.MethodName)) ∈ zc_W := zk_8 _ (List.mem_of_getElem? (i := 47) rfl)
theorem zm_688 : (Jvm.Cond.code ({ cls := "DiceForgeModel", name := "total", desc := "(I)I" } : Jvm.MethodName) prog_6_method_34_code (4 : Nat) (Option.some Jvm.ClassFile.FieldType.int)) ∈ zc_W := zk_8 _ (List.mem_of_getElem? (i := 48) rfl)
theorem zm_689 : (Jvm.Cond.arrayClass Jvm.ClassFile.FieldType.long) ∈ zc_W := zk_8 _ (List.mem_of_getElem? (i := 49) rfl)
theorem zm_690 : (Jvm.Cond.sameMethod "java/lang/Throwable" "java/lang/Throwable" "fillInStackTrace" "(I)Ljava/lang/Throwable;") ∈ zc_W := zk_8 _ (List.mem_of_getElem? (i := 50) rfl)
theorem zm_691 : (Jvm.Cond.sameMethod "[Ljava/lang/Object;" "java/lang/Object" "getClass" "()Ljava/lang/Class;") ∈ zc_W := zk_8 _ (List.mem_of_getElem? (i := 51) rfl)
theorem zm_692 : (Jvm.Cond.selects "[Ljava/lang/Object;" ({ cls := "java/lang/Object", name := "getClass", desc := "()Ljava/lang/Class;" } : Jvm.MethodName) ({ cls := "java/lang/Object", name := "getClass", desc := "()Ljava/lang/Class;" } : Jvm.MethodName)) ∈ zc_W := zk_8 _ (List.mem_of_getElem? (i := 52) rfl)
end
section
/-! MY OWN LAYER, 1: the world as components (one function a field), what lies outside it, the rows over it. -/
abbrev zS : Type := List Nat × (Nat → Nat) × (Nat → Nat → Int32) × (Nat → Nat → Option Nat) × (Nat → Nat) × (Nat → Nat → Int32) × (Nat → Nat → Option Nat) × (Nat → Nat → Int64)
/-- the live addresses -/
def zh_L (S : zS) : List Nat := S.1
/-- the kind of a cell: 0 Draws, 1 Entry, 2 Promise, 3 DiceForge, 4 DiceForgeModel, 5 ArrayList, 6 int[], 7 boolean[], 8 Object[], 9 long[] -/
def zh_K (S : zS) : Nat → Nat := S.2.1
/-- int fields, by number and address -/
def zh_I (S : zS) : Nat → Nat → Int32 := S.2.2.1
/-- reference fields -/
def zh_R (S : zS) : Nat → Nat → Option Nat := S.2.2.2.1
/-- lengths of arrays -/
def zh_N (S : zS) : Nat → Nat := S.2.2.2.2.1
/-- rows of int arrays and boolean arrays -/
def zh_A (S : zS) : Nat → Nat → Int32 := S.2.2.2.2.2.1
/-- rows of reference arrays -/
def zh_Q (S : zS) : Nat → Nat → Option Nat := S.2.2.2.2.2.2.1
/-- rows of long arrays -/
def zh_J (S : zS) : Nat → Nat → Int64 := S.2.2.2.2.2.2.2
def zh_u {α : Type} (f : Nat → Nat → α) (j a : Nat) (v : α) : Nat → Nat → α := fun j' a' => if j' = j ∧ a' = a then v else f j' a'
def zh_sI (S : zS) (j a : Nat) (v : Int32) : zS := (zh_L S, zh_K S, zh_u (zh_I S) j a v, zh_R S, zh_N S, zh_A S, zh_Q S, zh_J S)
def zh_sR (S : zS) (j a : Nat) (v : Option Nat) : zS := (zh_L S, zh_K S, zh_I S, zh_u (zh_R S) j a v, zh_N S, zh_A S, zh_Q S, zh_J S)
def zh_sA (S : zS) (a : Nat) (f : Nat → Int32) : zS := (zh_L S, zh_K S, zh_I S, zh_R S, zh_N S, va_up (zh_A S) a f, zh_Q S, zh_J S)
def zh_sQ (S : zS) (a : Nat) (f : Nat → Option Nat) : zS := (zh_L S, zh_K S, zh_I S, zh_R S, zh_N S, zh_A S, va_up (zh_Q S) a f, zh_J S)
def zh_sJ (S : zS) (a : Nat) (f : Nat → Int64) : zS := (zh_L S, zh_K S, zh_I S, zh_R S, zh_N S, zh_A S, zh_Q S, va_up (zh_J S) a f)
/-- a new object of a kind: fields 0 and null -/
def zh_nO (S : zS) (q k : Nat) : zS := (zh_L S ++ [q], va_up (zh_K S) q k, (fun j a => if a = q then 0 else zh_I S j a), (fun j a => if a = q then none else zh_R S j a), zh_N S, zh_A S, zh_Q S, zh_J S)
/-- a new array of a kind -/
def zh_nA (S : zS) (q k n : Nat) : zS := (zh_L S ++ [q], va_up (zh_K S) q k, zh_I S, zh_R S, va_up (zh_N S) q n, va_up (zh_A S) q (fun _ => 0), va_up (zh_Q S) q (fun _ => none), va_up (zh_J S) q (fun _ => 0))
def zh_at (S : zS) (k a : Nat) : Prop := a ∈ zh_L S ∧ zh_K S a = k
/-- what is fixed for a run: the first address of the law's own cells, the empty list's shared array, the classes, the array classes -/
abbrev zG : Type := Nat × Nat × va_G × (Nat → ClassId)
def zh_e (g : zG) (S : zS) (a : Nat) (k : Nat) : va_E := match k with
  | 0 => .inr (1, [.int (zh_I S 0 a), .int (zh_I S 1 a)])
  | 1 => .inr (2, [.int (zh_I S 2 a), .int (zh_I S 3 a), .int (zh_I S 4 a), .int (zh_I S 5 a), .int (zh_I S 6 a), .int (zh_I S 7 a), .int (zh_I S 8 a), .int (zh_I S 9 a)])
  | 2 => .inr (3, [.int (zh_I S 10 a), va_rf (zh_R S 0 a), .int (zh_I S 11 a), .int (zh_I S 12 a)])
  | 3 => .inr (4, [va_rf (zh_R S 1 a), va_rf (zh_R S 2 a), va_rf (zh_R S 3 a), va_rf (zh_R S 4 a)])
  | 4 => .inr (5, [.int (zh_I S 20 a), .int (zh_I S 21 a), va_rf (zh_R S 10 a), va_rf (zh_R S 11 a), va_rf (zh_R S 12 a), va_rf (zh_R S 13 a), va_rf (zh_R S 14 a), .int (zh_I S 22 a), va_rf (zh_R S 15 a), va_rf (zh_R S 16 a), va_rf (zh_R S 17 a), va_rf (zh_R S 18 a), va_rf (zh_R S 19 a), va_rf (zh_R S 20 a), va_rf (zh_R S 21 a), va_rf (zh_R S 22 a), .int (zh_I S 23 a), .int (zh_I S 24 a)])
  | 5 => .inr (0, [.int (zh_I S 30 a), va_rf (zh_R S 30 a), .int (zh_I S 31 a)])
  | 6 => .inl (g.2.2.2 0, zh_N S a, .inl (zh_A S a))
  | 7 => .inl (g.2.2.2 1, zh_N S a, .inl (zh_A S a))
  | 8 => .inl (g.2.2.2 2, zh_N S a, .inr (.inr (.inr (.inr (zh_Q S a)))))
  | _ => .inl (g.2.2.2 3, zh_N S a, .inr (.inl (zh_J S a)))
def zh_w (g : zG) (S : zS) : va_W := va_pl (zh_L S) (fun a => zh_e g S a (zh_K S a))
def zh_T (g : zG) : List (ClassId × FieldType) := [(g.2.2.2 0, .int), (g.2.2.2 1, .boolean), (g.2.2.2 2, .object "java/lang/Object"), (g.2.2.2 3, .long)]
-- the components of the setters
section ZC
variable (S : zS) (j a q k n : Nat) (v : Int32) (r : Option Nat) (f : Nat → Int32) (fq : Nat → Option Nat) (fj : Nat → Int64)
theorem zh_I_sI : zh_I (zh_sI S j a v) = zh_u (zh_I S) j a v := rfl
theorem zh_I_sR : zh_I (zh_sR S j a r) = zh_I S := rfl
theorem zh_I_sA : zh_I (zh_sA S a f) = zh_I S := rfl
theorem zh_I_sQ : zh_I (zh_sQ S a fq) = zh_I S := rfl
theorem zh_I_sJ : zh_I (zh_sJ S a fj) = zh_I S := rfl
theorem zh_I_nA : zh_I (zh_nA S q k n) = zh_I S := rfl
theorem zh_R_sI : zh_R (zh_sI S j a v) = zh_R S := rfl
theorem zh_R_sR : zh_R (zh_sR S j a r) = zh_u (zh_R S) j a r := rfl
theorem zh_R_sA : zh_R (zh_sA S a f) = zh_R S := rfl
theorem zh_R_sQ : zh_R (zh_sQ S a fq) = zh_R S := rfl
theorem zh_R_sJ : zh_R (zh_sJ S a fj) = zh_R S := rfl
theorem zh_R_nA : zh_R (zh_nA S q k n) = zh_R S := rfl
theorem zh_A_sI : zh_A (zh_sI S j a v) = zh_A S := rfl
theorem zh_A_sR : zh_A (zh_sR S j a r) = zh_A S := rfl
theorem zh_A_sA : zh_A (zh_sA S a f) = va_up (zh_A S) a f := rfl
theorem zh_A_sQ : zh_A (zh_sQ S a fq) = zh_A S := rfl
theorem zh_A_sJ : zh_A (zh_sJ S a fj) = zh_A S := rfl
theorem zh_A_nO : zh_A (zh_nO S q k) = zh_A S := rfl
theorem zh_Q_sI : zh_Q (zh_sI S j a v) = zh_Q S := rfl
theorem zh_Q_sR : zh_Q (zh_sR S j a r) = zh_Q S := rfl
theorem zh_Q_sA : zh_Q (zh_sA S a f) = zh_Q S := rfl
theorem zh_Q_sQ : zh_Q (zh_sQ S a fq) = va_up (zh_Q S) a fq := rfl
theorem zh_Q_sJ : zh_Q (zh_sJ S a fj) = zh_Q S := rfl
theorem zh_Q_nO : zh_Q (zh_nO S q k) = zh_Q S := rfl
theorem zh_J_sI : zh_J (zh_sI S j a v) = zh_J S := rfl
theorem zh_J_sR : zh_J (zh_sR S j a r) = zh_J S := rfl
theorem zh_J_sA : zh_J (zh_sA S a f) = zh_J S := rfl
theorem zh_J_sQ : zh_J (zh_sQ S a fq) = zh_J S := rfl
theorem zh_J_sJ : zh_J (zh_sJ S a fj) = va_up (zh_J S) a fj := rfl
theorem zh_J_nO : zh_J (zh_nO S q k) = zh_J S := rfl
theorem zh_N_sI : zh_N (zh_sI S j a v) = zh_N S := rfl
theorem zh_N_sR : zh_N (zh_sR S j a r) = zh_N S := rfl
theorem zh_N_sA : zh_N (zh_sA S a f) = zh_N S := rfl
theorem zh_N_sQ : zh_N (zh_sQ S a fq) = zh_N S := rfl
theorem zh_N_sJ : zh_N (zh_sJ S a fj) = zh_N S := rfl
theorem zh_N_nO : zh_N (zh_nO S q k) = zh_N S := rfl
theorem zh_K_sI : zh_K (zh_sI S j a v) = zh_K S := rfl
theorem zh_K_sR : zh_K (zh_sR S j a r) = zh_K S := rfl
theorem zh_K_sA : zh_K (zh_sA S a f) = zh_K S := rfl
theorem zh_K_sQ : zh_K (zh_sQ S a fq) = zh_K S := rfl
theorem zh_K_sJ : zh_K (zh_sJ S a fj) = zh_K S := rfl
theorem zh_L_sI : zh_L (zh_sI S j a v) = zh_L S := rfl
theorem zh_L_sR : zh_L (zh_sR S j a r) = zh_L S := rfl
theorem zh_L_sA : zh_L (zh_sA S a f) = zh_L S := rfl
theorem zh_L_sQ : zh_L (zh_sQ S a fq) = zh_L S := rfl
theorem zh_L_sJ : zh_L (zh_sJ S a fj) = zh_L S := rfl
end ZC
theorem zh_u_s {α : Type} (f : Nat → Nat → α) (j a : Nat) (v : α) : zh_u f j a v j a = v := by simp [zh_u]
theorem zh_u_j {α : Type} (f : Nat → Nat → α) {j j' : Nat} (a a' : Nat) (v : α) (h : j' ≠ j) : zh_u f j a v j' a' = f j' a' := by simp [zh_u, h]
theorem zh_u_a {α : Type} (f : Nat → Nat → α) (j j' : Nat) {a a' : Nat} (v : α) (h : a' ≠ a) : zh_u f j a v j' a' = f j' a' := by simp [zh_u, h]
theorem zh_at_nO {S : zS} {k a : Nat} (h : zh_at S k a) {q k2 : Nat} (hq : q ∉ zh_L S) : zh_at (zh_nO S q k2) k a := by
  have hne : a ≠ q := fun e => hq (e ▸ h.1)
  exact ⟨List.mem_append_left _ h.1, by show va_up (zh_K S) q k2 a = k; rw [va_up_ne _ _ hne]; exact h.2⟩
theorem zh_at_nA {S : zS} {k a : Nat} (h : zh_at S k a) {q k2 n : Nat} (hq : q ∉ zh_L S) : zh_at (zh_nA S q k2 n) k a := by
  have hne : a ≠ q := fun e => hq (e ▸ h.1)
  exact ⟨List.mem_append_left _ h.1, by show va_up (zh_K S) q k2 a = k; rw [va_up_ne _ _ hne]; exact h.2⟩
theorem zh_at_new {S : zS} {q k : Nat} : zh_at (zh_nO S q k) k q := ⟨List.mem_append_right _ (List.mem_singleton.mpr rfl), by show va_up (zh_K S) q k q = k; rw [va_up_self]⟩
theorem zh_at_newA {S : zS} {q k n : Nat} : zh_at (zh_nA S q k n) k q := ⟨List.mem_append_right _ (List.mem_singleton.mpr rfl), by show va_up (zh_K S) q k q = k; rw [va_up_self]⟩
theorem zh_at_ne {S : zS} {k k' a b : Nat} (ha : zh_at S k a) (hb : zh_at S k' b) (h : k ≠ k') : a ≠ b := fun e => h (by rw [← ha.2, e, hb.2])
-- a cell that isn't written keeps its content
theorem zh_e_sI (g : zG) (S : zS) {j a b : Nat} (v : Int32) (h : b ≠ a) (k : Nat) : zh_e g (zh_sI S j a v) b k = zh_e g S b k := by
  unfold zh_e; split <;> simp only [zh_I_sI, zh_R_sI, zh_A_sI, zh_Q_sI, zh_J_sI, zh_N_sI, zh_u_a _ _ _ _ h]
theorem zh_e_sR (g : zG) (S : zS) {j a b : Nat} (v : Option Nat) (h : b ≠ a) (k : Nat) : zh_e g (zh_sR S j a v) b k = zh_e g S b k := by
  unfold zh_e; split <;> simp only [zh_I_sR, zh_R_sR, zh_A_sR, zh_Q_sR, zh_J_sR, zh_N_sR, zh_u_a _ _ _ _ h]
theorem zh_e_sA (g : zG) (S : zS) {a b : Nat} (f : Nat → Int32) (h : b ≠ a) (k : Nat) : zh_e g (zh_sA S a f) b k = zh_e g S b k := by
  unfold zh_e; split <;> simp only [zh_I_sA, zh_R_sA, zh_A_sA, zh_Q_sA, zh_J_sA, zh_N_sA, va_up_ne _ _ h]
theorem zh_e_sQ (g : zG) (S : zS) {a b : Nat} (f : Nat → Option Nat) (h : b ≠ a) (k : Nat) : zh_e g (zh_sQ S a f) b k = zh_e g S b k := by
  unfold zh_e; split <;> simp only [zh_I_sQ, zh_R_sQ, zh_A_sQ, zh_Q_sQ, zh_J_sQ, zh_N_sQ, va_up_ne _ _ h]
theorem zh_e_sJ (g : zG) (S : zS) {a b : Nat} (f : Nat → Int64) (h : b ≠ a) (k : Nat) : zh_e g (zh_sJ S a f) b k = zh_e g S b k := by
  unfold zh_e; split <;> simp only [zh_I_sJ, zh_R_sJ, zh_A_sJ, zh_Q_sJ, zh_J_sJ, zh_N_sJ, va_up_ne _ _ h]
theorem zh_e_nO (g : zG) (S : zS) {q b : Nat} (kq : Nat) (h : b ≠ q) (k : Nat) : zh_e g (zh_nO S q kq) b k = zh_e g S b k := by
  have hI : ∀ j, zh_I (zh_nO S q kq) j b = zh_I S j b := fun j => if_neg h
  have hR : ∀ j, zh_R (zh_nO S q kq) j b = zh_R S j b := fun j => if_neg h
  unfold zh_e; split <;> simp only [hI, hR, zh_A_nO, zh_Q_nO, zh_J_nO, zh_N_nO]
theorem zh_e_nA (g : zG) (S : zS) {q b : Nat} (kq n : Nat) (h : b ≠ q) (k : Nat) : zh_e g (zh_nA S q kq n) b k = zh_e g S b k := by
  have hA : zh_A (zh_nA S q kq n) b = zh_A S b := va_up_ne _ _ h
  have hQ : zh_Q (zh_nA S q kq n) b = zh_Q S b := va_up_ne _ _ h
  have hJ : zh_J (zh_nA S q kq n) b = zh_J S b := va_up_ne _ _ h
  have hN : zh_N (zh_nA S q kq n) b = zh_N S b := va_up_ne _ _ h
  unfold zh_e; split <;> simp only [zh_I_nA, zh_R_nA, hA, hQ, hJ, hN]
theorem zh_get {g : zG} {S : zS} {kd a : Nat} (X : va_W) (h : zh_at S kd a) : ∃ k : Nat, (X ++ zh_w g S)[k]? = some (a, zh_e g S a kd) := by
  obtain ⟨k, hk⟩ := va_pl_get (X := X) (f := fun a => zh_e g S a (zh_K S a)) h.1
  exact ⟨k, by rw [← h.2]; exact hk⟩
/-- a write of one cell: the world's list behind it is the world of the new components -/
theorem zh_set {g : zG} {S S' : zS} {kd a k : Nat} {A : Nat → Prop} {X : va_W} {e0 : va_E} (hD : va_D A (X ++ zh_w g S)) (h : zh_at S kd a) (hk : (X ++ zh_w g S)[k]? = some (a, zh_e g S a kd)) (hL : zh_L S' = zh_L S) (hK : zh_K S' = zh_K S) (he : zh_e g S' a kd = e0) (ho : ∀ b, b ≠ a → ∀ k, zh_e g S' b k = zh_e g S b k) :
    (X ++ zh_w g S).set k (a, e0) = X ++ zh_w g S' := by
  have hk' : (X ++ va_pl (zh_L S) (fun a => zh_e g S a (zh_K S a)))[k]? = some (a, zh_e g S a (zh_K S a)) := by rw [h.2]; exact hk
  refine (va_pl_set (f := fun a => zh_e g S a (zh_K S a)) hD h.1 hk').trans ?_
  show X ++ va_pl (zh_L S) _ = X ++ va_pl (zh_L S') _
  rw [hL]
  refine congrArg (fun l => X ++ l) (va_pl_congr fun b => ?_)
  by_cases hb : b = a
  · subst hb
    rw [va_up_self, hK, h.2, he]
  · rw [va_up_ne _ _ hb, hK, ho b hb]
theorem zh_push {g : zG} {S S' : zS} {q kq : Nat} {X : va_W} {e0 : va_E} (hq : q ∉ zh_L S) (hL : zh_L S' = zh_L S ++ [q]) (hK : zh_K S' = va_up (zh_K S) q kq) (he : zh_e g S' q kq = e0) (ho : ∀ b, b ≠ q → ∀ k, zh_e g S' b k = zh_e g S b k) :
    (X ++ zh_w g S) ++ [(q, e0)] = X ++ zh_w g S' := by
  rw [List.append_assoc]
  refine congrArg (fun l => X ++ l) ?_
  show va_pl (zh_L S) (fun a => zh_e g S a (zh_K S a)) ++ [(q, e0)] = va_pl (zh_L S') _
  rw [va_pl_push hq, hL]
  refine va_pl_congr fun b => ?_
  by_cases hb : b = q
  · subst hb
    rw [va_up_self, hK, va_up_self, he]
  · rw [va_up_ne _ _ hb, hK, va_up_ne _ _ hb, ho b hb]
end
