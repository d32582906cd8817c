/-! MY OWN LAYER, 2: what lies outside the world, the invariant of a walk, contracts over the world's components, calls and ends. -/
/-- words that the tables decide and a warmed machine keeps, but that aren't 'good' -/
def zn_ok : Cond → Bool
  | .fieldLinkNest .. => true
  | .methodLinkNest .. => true
  | .castable .. => true
  | .declares .. => true
  | _ => false
theorem zn_warm {w : Cond} (hw : zn_ok w = true) {s U : State} (hW : s.WarmedH U.vm) (h : va_Nw w s) : va_Nw w U := by
  cases w <;> first | exact va_Nw.warmF hW h | exact va_Nw.warmM hW h | exact va_Nw.warmC hW h | exact va_Nw.warmD hW h | exact absurd hw (by simp [zn_ok])
def zn_ws : List Cond := [
  .fieldLinkNest "DiceForge" 112 "DiceForge$Draws" "rejected" "I" "DiceForge",
  .fieldLinkNest "DiceForge" 56 "DiceForge$Promise" "seed" "I" "DiceForge",
  .fieldLinkNest "DiceForge" 97 "DiceForge$Promise" "draws" "LDiceForge$Draws;" "DiceForge",
  .fieldLinkNest "DiceForge" 76 "DiceForge$Promise" "opened" "Z" "DiceForge",
  .fieldLinkNest "DiceForge" 155 "DiceForge$Promise" "disputed" "Z" "DiceForge",
  .fieldLinkNest "DiceForge" 145 "DiceForge$Entry" "promise" "I" "DiceForge",
  .fieldLinkNest "DiceForge" 170 "DiceForge$Entry" "table" "I" "DiceForge",
  .fieldLinkNest "DiceForge" 101 "DiceForge$Entry" "part" "I" "DiceForge",
  .fieldLinkNest "DiceForge" 129 "DiceForge$Entry" "faces" "I" "DiceForge",
  .fieldLinkNest "DiceForge" 109 "DiceForge$Entry" "value" "I" "DiceForge",
  .fieldLinkNest "DiceForge" 115 "DiceForge$Entry" "rejected" "I" "DiceForge",
  .fieldLinkNest "DiceForge" 122 "DiceForge$Entry" "sum" "I" "DiceForge",
  .fieldLinkNest "DiceForge" 136 "DiceForge$Entry" "struck" "Z" "DiceForge",
  .methodLinkNest "DiceForge" 119 ⟨"DiceForge$Entry", "sumAfter", "(I)I"⟩ "DiceForge",
  .methodLinkNest "DiceForge" 45 ⟨"DiceForge$Promise", "<init>", "(I)V"⟩ "DiceForge",
  .methodLinkNest "DiceForge$Promise" 15 ⟨"DiceForge$Draws", "<init>", "(I)V"⟩ "DiceForge",
  .methodLinkNest "DiceForge" 94 ⟨"DiceForge$Entry", "<init>", "(IIII)V"⟩ "DiceForge",
  .methodLinkNest "DiceForge" 104 ⟨"DiceForge$Draws", "nextValue", "(II)I"⟩ "DiceForge",
  .methodLinkNest "DiceForge" 151 ⟨"DiceForge$Draws", "<init>", "(I)V"⟩ "DiceForge",
  .methodLinkNest "DiceForge" 163 ⟨"DiceForge$Entry", "countsFor", "(I)Z"⟩ "DiceForge",
  .castable "DiceForge$Promise" "java/lang/Object",
  .castable "DiceForge$Entry" "java/lang/Object",
  .castable "java/lang/IllegalArgumentException" "java/lang/IllegalArgumentException",
  .castable "java/lang/IllegalStateException" "java/lang/IllegalStateException",
  .castable "java/lang/IndexOutOfBoundsException" "java/lang/IndexOutOfBoundsException",
  .declares ⟨"java/lang/RuntimeException", "<init>", "(Ljava/lang/String;)V"⟩,
  .declares ⟨"java/lang/Exception", "<init>", "(Ljava/lang/String;)V"⟩,
  .declares ⟨"java/lang/Throwable", "<init>", "(Ljava/lang/String;)V"⟩,
  .declares ⟨"java/lang/Object", "getClass", "()Ljava/lang/Class;"⟩]
theorem zn_ws_ok : ∀ w ∈ zn_ws, zn_ok w = true := by decide +kernel
theorem zn_ws_tbl : ∀ w ∈ zn_ws, w ∈ lw_tbl := by decide +kernel
theorem zn_ws_on : ∀ w ∈ zn_ws, w.onTables = true := by decide +kernel
def zn_strs : List (Nat × String) := [(139, "the entry is struck"), (158, "the promise was disputed"), (175, "there is no such promise"), (178, "the promise is not opened"), (180, "there is no such entry"), (182, "there is no such table"), (184, "a die has 2 to 1000 faces"), (186, "a value is 1 to the faces"), (29, "a seed is 0 to 65535"), (40, "there are 16 promises"), (80, "the promise is opened"), (85, "a part is 0 to 999"), (90, "there are 100 entries")]
abbrev zn_IA : String := "java/lang/IllegalArgumentException"
abbrev zn_IS : String := "java/lang/IllegalStateException"
abbrev zn_IO : String := "java/lang/IndexOutOfBoundsException"
def zn_ncs : List (String × String) := [(zn_IA, zn_IS), (zn_IS, zn_IA), (zn_IO, zn_IA), (zn_IO, zn_IS)]
def zh_O (g : zG) (U : State) (H : Heap) : Prop :=
  (∀ w ∈ zn_ws, va_Nw w U) ∧ va_AO "java/lang/Object" U ∧ (∀ q ∈ zn_strs, ∃ sa : Nat, vk_R "DiceForge" q.1 q.2 sa U) ∧ (∀ q ∈ zn_ncs, va_Nc q.1 q.2 U) ∧ va_Mi "[Ljava/lang/Object;" (g.2.2.1.2 99 0) U ∧
  vx_Zq Bundle.tN "UNASSIGNED_STACK" Bundle.steD (fun q => g.1 ≤ q) U H ∧ vx_Zq Bundle.tN "SUPPRESSED_SENTINEL" Bundle.listD (fun q => g.1 ≤ q) U H ∧
  va_Z "java/util/ArrayList" "DEFAULTCAPACITY_EMPTY_ELEMENTDATA" "[Ljava/lang/Object;" (.ref g.2.1) (fun q => g.1 ≤ q) U H ∧
  (∃ ce : Cell, H[g.2.1]? = some ce ∧ U.isArrayOf ce (.object "java/lang/Object") ∧ ce.slots.size = 0) ∧ g.2.1 < g.1
theorem zh_O.moved {g : zG} {s U : State} {H H1 : Heap} (hW : s.WarmedH U.vm) (h : zh_O g s H) (hg : ∀ a : Nat, a < g.1 → H1[a]? = H[a]?) : zh_O g U H1 := by
  obtain ⟨h1, h2, h3, h4, h5, h6, h7, h8, h9, h10⟩ := h
  have k : ∀ a : Nat, a < H.size → ¬ (fun q : Nat => g.1 ≤ q) a → H1[a]? = H[a]? := fun a _ h => hg a (Nat.not_le.mp h)
  refine ⟨fun w hw => zn_warm (zn_ws_ok w hw) hW (h1 w hw), h2.moved hW.alike, fun q hq => ?_, fun q hq => (h4 q hq).moved hW.alike, h5.moved hW.alike, (h6.moved hW.alike).kept k, (h7.moved hW.alike).kept k, (h8.moved hW.alike).kept k, ?_, h10⟩
  · obtain ⟨sa, hs⟩ := h3 q hq
    exact ⟨sa, hs.warm hW⟩
  · obtain ⟨ce, k1, k2, k3⟩ := h9
    exact ⟨ce, by rw [hg _ h10]; exact k1, State.isArrayOf_alike hW.alike k2, k3⟩
/-- the invariant of a walk: X the cells beside the world -/
def zh_V (g : zG) (A : Nat → Prop) (s : State) (X : va_W) (S : zS) (H : Heap) (locs : List Loc) : Prop :=
  va_K g.2.2.1 vwCl (zh_T g) s ∧ va_P g.2.2.1 vwCl (X ++ zh_w g S) H ∧ va_D A (X ++ zh_w g S) ∧ va_S A s.heap H locs ∧ (∀ q, s.heap.size ≤ q → A q) ∧ (∀ q, A q → g.1 ≤ q) ∧ g.1 ≤ s.heap.size ∧ zh_O g s s.heap
theorem zh_V.K {g : zG} {A : Nat → Prop} {s : State} {X : va_W} {S : zS} {H : Heap} {locs : List Loc} (I : zh_V g A s X S H locs) : va_K g.2.2.1 vwCl (zh_T g) s := I.1
theorem zh_V.P {g : zG} {A : Nat → Prop} {s : State} {X : va_W} {S : zS} {H : Heap} {locs : List Loc} (I : zh_V g A s X S H locs) : va_P g.2.2.1 vwCl (X ++ zh_w g S) H := I.2.1
theorem zh_V.D {g : zG} {A : Nat → Prop} {s : State} {X : va_W} {S : zS} {H : Heap} {locs : List Loc} (I : zh_V g A s X S H locs) : va_D A (X ++ zh_w g S) := I.2.2.1
theorem zh_V.S {g : zG} {A : Nat → Prop} {s : State} {X : va_W} {S : zS} {H : Heap} {locs : List Loc} (I : zh_V g A s X S H locs) : va_S A s.heap H locs := I.2.2.2.1
theorem zh_V.A {g : zG} {A : Nat → Prop} {s : State} {X : va_W} {S : zS} {H : Heap} {locs : List Loc} (I : zh_V g A s X S H locs) : ∀ q, s.heap.size ≤ q → A q := I.2.2.2.2.1
theorem zh_V.lo {g : zG} {A : Nat → Prop} {s : State} {X : va_W} {S : zS} {H : Heap} {locs : List Loc} (I : zh_V g A s X S H locs) : ∀ q, A q → g.1 ≤ q := I.2.2.2.2.2.1
theorem zh_V.N {g : zG} {A : Nat → Prop} {s : State} {X : va_W} {S : zS} {H : Heap} {locs : List Loc} (I : zh_V g A s X S H locs) : g.1 ≤ s.heap.size := I.2.2.2.2.2.2.1
theorem zh_V.O {g : zG} {A : Nat → Prop} {s : State} {X : va_W} {S : zS} {H : Heap} {locs : List Loc} (I : zh_V g A s X S H locs) : zh_O g s s.heap := I.2.2.2.2.2.2.2
theorem zh_V.to {g : zG} {A : Nat → Prop} {s : State} {X : va_W} {S S' : zS} {H H1 : Heap} {locs locs1 : List Loc} (I : zh_V g A s X S H locs) {ws : va_W} (e : ws = X ++ zh_w g S') (hP : va_P g.2.2.1 vwCl ws H1) (hD : va_D A ws) (hS : va_S A s.heap H1 locs1) : zh_V g A s X S' H1 locs1 := by
  subst e
  exact ⟨I.1, hP, hD, hS, I.2.2.2.2⟩
theorem zh_V.out {g : zG} {A : Nat → Prop} {s : State} {X : va_W} {S : zS} {H : Heap} {locs : List Loc} (I : zh_V g A s X S H locs) : ∀ a : Nat, a < g.1 → H[a]? = s.heap[a]? := fun a ha =>
  I.S.2.1 a (Nat.lt_of_lt_of_le ha I.N) (fun z => Nat.not_lt.mpr (I.lo a z) ha)
theorem zh_V.fresh {g : zG} {A : Nat → Prop} {s : State} {X : va_W} {S : zS} {H : Heap} {locs : List Loc} (I : zh_V g A s X S H locs) {q : Nat} (h : H.size ≤ q) : q ∉ zh_L S := va_pl_fresh I.P h
-- what a contract asks of the start, and gives at the end
def zh_Pr (g : zG) (S : zS) (U : State) : Prop := va_K g.2.2.1 vwCl (zh_T g) U ∧ va_P g.2.2.1 vwCl (zh_w g S) U.heap ∧ va_D (fun q => g.1 ≤ q) (zh_w g S) ∧ g.1 ≤ U.heap.size ∧ zh_O g U U.heap
def zh_Po (g : zG) (A : Nat → Prop) (Q : Option Value → zS → Prop) : Array Value → State → Outcome → State → Prop := fun _ st oc t => (∃ (v : Option Value) (S' : zS), oc = .returned v ∧ Q v S' ∧ va_P g.2.2.1 vwCl (zh_w g S') t.heap ∧ va_D A (zh_w g S')) ∧ va_F A st t
def zh_Px (g : zG) (A : Nat → Prop) (QX : String → zS → Prop) : String → State → State → Prop := fun E st t => ∃ S' : zS, QX E S' ∧ va_P g.2.2.1 vwCl (zh_w g S') t.heap ∧ va_D A (zh_w g S') ∧ va_F A st t
abbrev zh_Pc (g : zG) (av : List Value) (S : zS) (sz : Nat) : Array Value → State → Prop := va_Pc av (fun U => U.heap.size = sz ∧ zh_Pr g S U)
/-- a contract: y, called with av in any heap that holds S, returns v and S' with Q -/
def zM (l : Launch) (y : MethodName) (b : ByteArray) (n : Nat) (ret : Option FieldType) (rm : Room) (g : zG) (av : List Value) (S : zS) (Q : Option Value → zS → Prop) : Prop := ∀ sz : Nat, Met l y (Cond.code y b n ret :: zc_W) rm (zh_Pc g av S sz) (zh_Po g (va_A (zh_w g S) sz) Q) rm.cells rm.slots (va_A (zh_w g S) sz)
/-- .. or throws a fresh E, with QX -/
def zX (l : Launch) (y : MethodName) (b : ByteArray) (n : Nat) (ret : Option FieldType) (rm : Room) (g : zG) (av : List Value) (S : zS) (Q : Option Value → zS → Prop) (QX : String → zS → Prop) : Prop := ∀ sz : Nat, vx_Met l y (Cond.code y b n ret :: zc_W) rm (zh_Pc g av S sz) (zh_Po g (va_A (zh_w g S) sz) Q) (zh_Px g (va_A (zh_w g S) sz) QX) rm.cells rm.slots (va_A (zh_w g S) sz)
theorem zh_blind (g : zG) (av : List Value) (S : zS) (sz : Nat) : FrameBlind (zh_Pc g av S sz) := fun a U gg mk h => by
  obtain ⟨h1, h2, hK, hP, hD, hN, hO⟩ := h
  exact ⟨h1, h2, va_K.moved (u := U) (U := U.calling gg mk a) (Vm.Alike.refl U.vm) hK, hP, hD, hN, zh_O.moved (U := U.calling gg mk a) (State.WarmedH.refl U) hO (fun _ _ => rfl)⟩
theorem zh_V.pre {g : zG} {A : Nat → Prop} {s : State} {X : va_W} {S : zS} {H : Heap} {locs : List Loc} (I : zh_V g A s X S H locs) : ∀ U : State, U.heap = H → s.WarmedH U.vm → U.heap.size = H.size ∧ zh_Pr g S U := fun U hU hW => by
  refine ⟨by rw [hU], va_K.moved hW.alike I.K, ?_, ?_, ?_, ?_⟩
  · rw [hU]; exact fun k q hk => I.P (X.length + k) q (by rw [List.getElem?_append_right (Nat.le_add_right _ _), Nat.add_sub_cancel_left]; exact hk)
  · refine ⟨fun i j p q hi hj e => ?_, fun k q hk => I.lo _ (I.D.2 (X.length + k) q (by rw [List.getElem?_append_right (Nat.le_add_right _ _), Nat.add_sub_cancel_left]; exact hk))⟩
    have := I.D.1 (X.length + i) (X.length + j) p q (by rw [List.getElem?_append_right (Nat.le_add_right _ _), Nat.add_sub_cancel_left]; exact hi) (by rw [List.getElem?_append_right (Nat.le_add_right _ _), Nat.add_sub_cancel_left]; exact hj) e
    omega
  · rw [hU]; exact Nat.le_trans I.N I.S.1
  · rw [hU]; exact zh_O.moved hW I.O I.out
theorem zh_V.sub {g : zG} {A : Nat → Prop} {s : State} {X : va_W} {S : zS} {H : Heap} {locs : List Loc} (I : zh_V g A s X S H locs) : ∀ q, va_A (zh_w g S) H.size q → A q := fun q h => by
  rcases h with ⟨k, e, hk⟩ | h
  · exact I.D.2 (X.length + k) (q, e) (by rw [List.getElem?_append_right (Nat.le_add_right _ _), Nat.add_sub_cancel_left]; exact hk)
  · exact I.A q (Nat.le_trans I.S.1 h)
/-- the invariant behind a call that had the world S and gave back S' -/
theorem zh_V.back {g : zG} {A : Nat → Prop} {s : State} {X : va_W} {S S' : zS} {H H1 : Heap} {locs locs1 : List Loc} (I : zh_V g A s X S H locs) (hz : H.size ≤ H1.size) (hk : ∀ q : Nat, q < H.size → ¬ va_A (zh_w g S) H.size q → H1[q]? = H[q]?) (hS : va_S A s.heap H1 locs1) (hP : va_P g.2.2.1 vwCl (zh_w g S') H1) (hD : va_D (va_A (zh_w g S) H.size) (zh_w g S')) : zh_V g A s X S' H1 locs1 := by
  have hX : ∀ (k : Nat) (q : Nat × va_E), X[k]? = some q → (X ++ zh_w g S)[k]? = some q := fun k q h => by
    rw [List.getElem?_append_left (List.getElem?_eq_some_iff.mp h).1]; exact h
  have ap : ∀ (k : Nat) (q : Nat × va_E), X[k]? = some q → q.1 < H.size ∧ ¬ va_A (zh_w g S) H.size q.1 := fun k q h => by
    have hlt := (I.P k q (hX k q h)).lt
    refine ⟨hlt, fun z => ?_⟩
    rcases z with ⟨i, e, hi⟩ | z
    · have h2 : (X ++ zh_w g S)[X.length + i]? = some (q.1, e) := by rw [List.getElem?_append_right (Nat.le_add_right _ _), Nat.add_sub_cancel_left]; exact hi
      have := I.D.1 k (X.length + i) q (q.1, e) (hX k q h) h2 rfl
      have hk2 := (List.getElem?_eq_some_iff.mp h).1
      omega
    · exact Nat.not_lt.mpr z hlt
  refine ⟨I.K, va_P.app (fun k q h => (I.P k q (hX k q h)).kept (hk q.1 (ap k q h).1 (ap k q h).2)) hP, va_D.app ⟨fun i j p q hi hj e => I.D.1 i j p q (hX i p hi) (hX j q hj) e, fun k q h => I.D.2 k q (hX k q h)⟩ (hD.weaken fun _ q _ h => I.sub q.1 h) (fun i j p q hi hj e => ?_), hS, I.2.2.2.2⟩
  exact (ap i p hi).2 (by rw [e]; exact hD.2 j q hj)
theorem zgoodW {c : Cond} (h : c ∈ zc_W) : GoodIn zc_W (c :: zc_W) := fun w hw => (List.mem_cons.mp hw).elim (fun e => by rw [e]; exact ⟨h, good_of_word (zc_gw _ h)⟩) (fun h9 => ⟨h9, good_of_word (zc_gw _ h9)⟩)
theorem zgoodV {own C : String} {index : Nat} {y : MethodName} {c : Cond} (h1 : Cond.methodLink own index y ∈ zc_W) (h2 : Cond.instanceMethod y ∈ zc_W) (h3 : Cond.selects C y y ∈ zc_W) (h4 : Cond.initialized C ∈ zc_W) (h5 : c ∈ zc_W) : GoodIn zc_W (wsV own index C y (c :: zc_W)) := by
  refine goodIn_app (fun w hw => ?_) (zgoodW h5)
  have : w ∈ zc_W := by
    rcases List.mem_cons.mp hw with e | hw
    · rw [e]; exact h1
    · rcases List.mem_cons.mp hw with e | hw
      · rw [e]; exact h2
      · rcases List.mem_cons.mp hw with e | hw
        · rw [e]; exact h3
        · rw [List.mem_singleton.mp hw]; exact h4
  exact ⟨this, good_of_word (zc_gw _ this)⟩
theorem zgoodS {own : String} {index : Nat} {y : MethodName} {c : Cond} (h1 : Cond.methodLink own index y ∈ zc_W) (h2 : Cond.static y ∈ zc_W) (h4 : Cond.initialized y.cls ∈ zc_W) (h5 : c ∈ zc_W) : GoodIn zc_W (va_wsS own index y (c :: zc_W)) := by
  refine goodIn_app (fun w hw => ?_) (zgoodW h5)
  have : w ∈ zc_W := by
    rcases List.mem_cons.mp hw with e | hw
    · rw [e]; exact h1
    · rcases List.mem_cons.mp hw with e | hw
      · rw [e]; exact h2
      · rw [List.mem_singleton.mp hw]; exact h4
  exact ⟨this, good_of_word (zc_gw _ this)⟩
section ZR
variable {p : Program} {l : Launch} {e : Env} {R : Room} {s : State} {m : MethodId} {args : Array Value} {below : List Frame} {meth : Method} {c : Code} {H : Heap} {locs : List Loc} {cells slots : Nat} {Q : State → Prop}
variable {g : zG} {A : Nat → Prop} {X : va_W} {S : zS} {cc bytes : ByteArray} {nL : Nat} {own : String} {pc : Nat} {ls : Array Slot} {rest st0 As : List Value} {rm : Room} {y : MethodName} {maxL index n : Nat} {ret : Option FieldType} {Qp : Option Value → zS → Prop} {QX : String → zS → Prop}
/-- behind a call that returns -/
theorem zc_ret {a : Array Value} {mc ms : Nat} (I : zh_V g A s X S H locs) (hr : va_Run p l e R s m args below meth c H locs cells slots mc ms (F0 m pc ls st0) rest (zh_Po g (va_A (zh_w g S) H.size) Qp a) (va_A (zh_w g S) H.size))
    (kk : ∀ (v : Option Value) (S' : zS) (H1 : Heap) (locs1 : List Loc), Qp v S' → zh_V g A s X S' H1 locs1 → W p l e R s m args below meth c H1 locs1 (cells + mc) (slots + ms) Q (F0 m (pc + 3) ls (v.toList ++ rest))) : W p l e R s m args below meth c H locs cells slots Q (F0 m pc ls st0) := by
  intro T hT Y
  obtain ⟨v, st₀, t, T', L, h0, Y', hL, e1, e2, ⟨⟨v', S', hv, hq, hP, hD⟩, hz, hk⟩, st⟩ := hr T hT Y
  cases hv
  rw [h0] at hz hk
  rw [← e1] at hz hP
  obtain ⟨t2, a1, b1⟩ := kk v S' T'.heap (locs ++ L) hq (I.back hz (fun q h1 h2 => by rw [e1]; exact hk q h1 h2) ⟨Nat.le_trans I.S.1 hz, fun q h1 h2 => by
      rw [e1, hk q (Nat.lt_of_lt_of_le h1 I.S.1) (fun z => h2 (I.sub q z))]; exact I.S.2.1 q h1 h2, fun q hq => by
      rcases List.mem_append.mp hq with h | h
      · exact I.S.2.2 q h
      · exact I.sub _ (hL q h)⟩ hP hD) T' rfl Y'
  exact ⟨t2, st t2 a1, b1⟩
/-- behind a call that returns or throws -/
theorem zc_retX {a : Array Value} {mc ms : Nat} (I : zh_V g A s X S H locs) (hr : vx_Run p l e R s m args below meth c H locs cells slots mc ms (F0 m pc ls st0) rest (zh_Po g (va_A (zh_w g S) H.size) Qp a) (zh_Px g (va_A (zh_w g S) H.size) QX) (va_A (zh_w g S) H.size))
    (kx : ∀ (E : String) (ce : Cell) (q9 : Addr) (S' : zS) (H1 : Heap) (locs1 : List Loc), QX E S' → zh_V g A s X S' H1 locs1 → H1[q9]? = some ce → ce.vm = .none → s.vm.findClass E = some ce.cls → vx_W p l e R s m args below meth c H1 locs1 (cells + mc) (slots + ms) Q (F0 m pc ls rest) q9)
    (kk : ∀ (v : Option Value) (S' : zS) (H1 : Heap) (locs1 : List Loc), Qp v S' → zh_V g A s X S' H1 locs1 → W p l e R s m args below meth c H1 locs1 (cells + mc) (slots + ms) Q (F0 m (pc + 3) ls (v.toList ++ rest))) : W p l e R s m args below meth c H locs cells slots Q (F0 m pc ls st0) := by
  intro T hT Y
  rcases hr T hT Y with ⟨v, st₀, t, T', L, h0, Y', hL, e1, e2, ⟨⟨v', S', hv, hq, hP, hD⟩, hz, hk⟩, st⟩ | ⟨q, st₀, t, T', L, E, ce, h0, Y', hL, e1, e2, ⟨S', hq, hP, hD, hz, hk⟩, hce, hcv, hcl, st⟩
  · cases hv
    rw [h0] at hz hk
    rw [← e1] at hz hP
    obtain ⟨t2, a1, b1⟩ := kk v S' T'.heap (locs ++ L) hq (I.back hz (fun q h1 h2 => by rw [e1]; exact hk q h1 h2) ⟨Nat.le_trans I.S.1 hz, fun q h1 h2 => by
        rw [e1, hk q (Nat.lt_of_lt_of_le h1 I.S.1) (fun z => h2 (I.sub q z))]; exact I.S.2.1 q h1 h2, fun q hq => by
        rcases List.mem_append.mp hq with h | h
        · exact I.S.2.2 q h
        · exact I.sub _ (hL q h)⟩ hP hD) T' rfl Y'
    exact ⟨t2, st t2 a1, b1⟩
  · rw [h0] at hz hk
    rw [← e1] at hz hP
    obtain ⟨t2, a1, b1⟩ := kx E ce q S' T'.heap (locs ++ L) hq (I.back hz (fun q h1 h2 => by rw [e1]; exact hk q h1 h2) ⟨Nat.le_trans I.S.1 hz, fun q h1 h2 => by
        rw [e1, hk q (Nat.lt_of_lt_of_le h1 I.S.1) (fun z => h2 (I.sub q z))]; exact I.S.2.1 q h1 h2, fun q hq => by
        rcases List.mem_append.mp hq with h | h
        · exact I.S.2.2 q h
        · exact I.sub _ (hL q h)⟩ hP hD) (by rw [e1]; exact hce) hcv hcl T' rfl Y'
    exact ⟨t2, st.trans a1, b1⟩
theorem zh_V.preS (I : zh_V g A s X S H locs) (av : List Value) : PreS s H (zh_Pc g av S H.size) av := ⟨zh_blind g av S H.size, fun U hU hW => ⟨rfl, I.pre U hU hW⟩⟩
theorem zh_V.preV (I : zh_V g A s X S H locs) {kd ci b : Nat} {q : vw_C} {fs : List Value} (hb : zh_at S kd b) (he : zh_e g S b kd = .inr (ci, fs)) (hc : vwCl[ci]? = some q) (av : List Value) : PreV s H q.1 b (zh_Pc g (.ref b :: av) S H.size) av := by
  obtain ⟨k, hk⟩ := zh_get X hb
  rw [he] at hk
  exact ⟨zh_blind g _ S H.size, va_recv I.K I.P hc hk, fun U hU hW => ⟨rfl, I.pre U hU hW⟩⟩
/-- invokevirtual of a method that returns -/
theorem zc_V (C : CallFix p m c cc nL s args zc_W own) (I : zh_V g A s X S H locs) {kd ci b : Nat} {q : vw_C} {fs : List Value} (hb : zh_at S kd b) (he : zh_e g S b kd = .inr (ci, fs)) (hc : vwCl[ci]? = some q) (hM : zM l y bytes maxL ret rm g (.ref b :: As) S Qp) (h1 : Cond.methodLink own index y ∈ zc_W) (h2 : Cond.instanceMethod y ∈ zc_W) (h3 : Cond.selects q.1 y y ∈ zc_W) (h4 : Cond.initialized q.1 ∈ zc_W) (h5 : Cond.code y bytes maxL ret ∈ zc_W) (hstack : st0 = As.reverse ++ .ref b :: rest) (hl : ls.size = nL) (hdg : decode cc pc = .ok (.invokevirtual index, 3))
    (hd : y.cls = q.1 ∧ y.cls ≠ "java/lang/invoke/MethodHandle" ∧ y.cls ≠ "java/lang/invoke/VarHandle" ∧ (parseMethodDescriptor y.desc).map (fun d => d.parameters.length) = some n) (hn : As.length = n) (hR : rm.frames + 1 ≤ R.frames ∧ 8 + (maxL + 11) + rm.locals ≤ R.locals) (hr8 : (rest.map fun v => v.category).sum ≤ 8) (hf : cells + rm.cells ≤ R.cells ∧ slots + rm.slots ≤ R.slots)
    (kk : ∀ (v : Option Value) (S' : zS) (H1 : Heap) (locs1 : List Loc), Qp v S' → zh_V g A s X S' H1 locs1 → W p l e R s m args below meth c H1 locs1 (cells + rm.cells) (slots + rm.slots) Q (F0 m (pc + 3) ls (v.toList ++ rest))) : W p l e R s m args below meth c H locs cells slots Q (F0 m pc ls st0) := by
  subst hstack
  exact zc_ret I (va_runV (As := As) (rest := rest) C (hM H.size) (cwV n C.2.2.2.2 (zgoodV h1 h2 h3 h4 h5) rfl rfl rfl hd hR) (I.preV hb he hc As) rfl hn hl rfl (lv_room hr8) hdg hf) kk
/-- .. that returns or throws -/
theorem zc_VX (C : CallFix p m c cc nL s args zc_W own) (I : zh_V g A s X S H locs) {kd ci b : Nat} {q : vw_C} {fs : List Value} (hb : zh_at S kd b) (he : zh_e g S b kd = .inr (ci, fs)) (hc : vwCl[ci]? = some q) (hM : zX l y bytes maxL ret rm g (.ref b :: As) S Qp QX) (h1 : Cond.methodLink own index y ∈ zc_W) (h2 : Cond.instanceMethod y ∈ zc_W) (h3 : Cond.selects q.1 y y ∈ zc_W) (h4 : Cond.initialized q.1 ∈ zc_W) (h5 : Cond.code y bytes maxL ret ∈ zc_W) (hstack : st0 = As.reverse ++ .ref b :: rest) (hl : ls.size = nL) (hdg : decode cc pc = .ok (.invokevirtual index, 3))
    (hd : y.cls = q.1 ∧ y.cls ≠ "java/lang/invoke/MethodHandle" ∧ y.cls ≠ "java/lang/invoke/VarHandle" ∧ (parseMethodDescriptor y.desc).map (fun d => d.parameters.length) = some n) (hn : As.length = n) (hR : rm.frames + 1 ≤ R.frames ∧ 8 + (maxL + 11) + rm.locals ≤ R.locals) (hr8 : (rest.map fun v => v.category).sum ≤ 8) (hf : cells + rm.cells ≤ R.cells ∧ slots + rm.slots ≤ R.slots)
    (kx : ∀ (E : String) (ce : Cell) (q9 : Addr) (S' : zS) (H1 : Heap) (locs1 : List Loc), QX E S' → zh_V g A s X S' H1 locs1 → H1[q9]? = some ce → ce.vm = .none → s.vm.findClass E = some ce.cls → vx_W p l e R s m args below meth c H1 locs1 (cells + rm.cells) (slots + rm.slots) Q (F0 m pc ls rest) q9)
    (kk : ∀ (v : Option Value) (S' : zS) (H1 : Heap) (locs1 : List Loc), Qp v S' → zh_V g A s X S' H1 locs1 → W p l e R s m args below meth c H1 locs1 (cells + rm.cells) (slots + rm.slots) Q (F0 m (pc + 3) ls (v.toList ++ rest))) : W p l e R s m args below meth c H locs cells slots Q (F0 m pc ls st0) := by
  subst hstack
  exact zc_retX I (vx_runV (As := As) (rest := rest) C (hM H.size) (cwV n C.2.2.2.2 (zgoodV h1 h2 h3 h4 h5) rfl rfl rfl hd hR) (I.preV hb he hc As) rfl hn hl rfl (lv_room hr8) hdg hf) kx kk
/-- invokestatic of a method that returns -/
theorem zc_S (C : CallFix p m c cc nL s args zc_W own) (I : zh_V g A s X S H locs) (hM : zM l y bytes maxL ret rm g As S Qp) (h1 : Cond.methodLink own index y ∈ zc_W) (h2 : Cond.static y ∈ zc_W) (h4 : Cond.initialized y.cls ∈ zc_W) (h5 : Cond.code y bytes maxL ret ∈ zc_W) (hstack : st0 = As.reverse ++ rest) (hl : ls.size = nL) (hdg : decode cc pc = .ok (.invokestatic index, 3))
    (hd : y.cls ≠ "java/lang/invoke/MethodHandle" ∧ y.cls ≠ "java/lang/invoke/VarHandle" ∧ (parseMethodDescriptor y.desc).map (fun d => d.parameters.length) = some n) (hn : As.length = n) (hR : rm.frames + 1 ≤ R.frames ∧ 8 + (maxL + 11) + rm.locals ≤ R.locals) (hr8 : (rest.map fun v => v.category).sum ≤ 8) (hf : cells + rm.cells ≤ R.cells ∧ slots + rm.slots ≤ R.slots)
    (kk : ∀ (v : Option Value) (S' : zS) (H1 : Heap) (locs1 : List Loc), Qp v S' → zh_V g A s X S' H1 locs1 → W p l e R s m args below meth c H1 locs1 (cells + rm.cells) (slots + rm.slots) Q (F0 m (pc + 3) ls (v.toList ++ rest))) : W p l e R s m args below meth c H locs cells slots Q (F0 m pc ls st0) := by
  subst hstack
  exact zc_ret I (va_runS (As := As) (rest := rest) C (hM H.size) (va_cwS n C.2.2.2.2 (zgoodS h1 h2 h4 h5) rfl rfl rfl hd hR) (I.preS As) rfl hn hl rfl (lv_room hr8) hdg hf) kk
theorem zc_SX (C : CallFix p m c cc nL s args zc_W own) (I : zh_V g A s X S H locs) (hM : zX l y bytes maxL ret rm g As S Qp QX) (h1 : Cond.methodLink own index y ∈ zc_W) (h2 : Cond.static y ∈ zc_W) (h4 : Cond.initialized y.cls ∈ zc_W) (h5 : Cond.code y bytes maxL ret ∈ zc_W) (hstack : st0 = As.reverse ++ rest) (hl : ls.size = nL) (hdg : decode cc pc = .ok (.invokestatic index, 3))
    (hd : y.cls ≠ "java/lang/invoke/MethodHandle" ∧ y.cls ≠ "java/lang/invoke/VarHandle" ∧ (parseMethodDescriptor y.desc).map (fun d => d.parameters.length) = some n) (hn : As.length = n) (hR : rm.frames + 1 ≤ R.frames ∧ 8 + (maxL + 11) + rm.locals ≤ R.locals) (hr8 : (rest.map fun v => v.category).sum ≤ 8) (hf : cells + rm.cells ≤ R.cells ∧ slots + rm.slots ≤ R.slots)
    (kx : ∀ (E : String) (ce : Cell) (q9 : Addr) (S' : zS) (H1 : Heap) (locs1 : List Loc), QX E S' → zh_V g A s X S' H1 locs1 → H1[q9]? = some ce → ce.vm = .none → s.vm.findClass E = some ce.cls → vx_W p l e R s m args below meth c H1 locs1 (cells + rm.cells) (slots + rm.slots) Q (F0 m pc ls rest) q9)
    (kk : ∀ (v : Option Value) (S' : zS) (H1 : Heap) (locs1 : List Loc), Qp v S' → zh_V g A s X S' H1 locs1 → W p l e R s m args below meth c H1 locs1 (cells + rm.cells) (slots + rm.slots) Q (F0 m (pc + 3) ls (v.toList ++ rest))) : W p l e R s m args below meth c H locs cells slots Q (F0 m pc ls st0) := by
  subst hstack
  exact zc_retX I (vx_runS (As := As) (rest := rest) C (hM H.size) (va_cwS n C.2.2.2.2 (zgoodS h1 h2 h4 h5) rfl rfl rfl hd hR) (I.preS As) rfl hn hl rfl (lv_room hr8) hdg hf) kx kk
/-- invokespecial of a constructor -/
theorem zc_I (C : CallFix p m c cc nL s args zc_W own) (I : zh_V g A s X S H locs) {b : Nat} (hM : zM l y bytes maxL none rm g (.ref b :: As) S Qp) (hlk : Cond.methodLink own index y ∈ zc_W) (hin : Cond.instanceMethod y ∈ zc_W) (hini : Cond.initialized y.cls ∈ zc_W) (h5 : Cond.code y bytes maxL none ∈ zc_W) (hy : y.name = "<init>") (hstack : st0 = As.reverse ++ .ref b :: rest) (hl : ls.size = nL) (hdg : decode cc pc = .ok (.invokespecial index, 3))
    (hd : y.cls ≠ "java/lang/invoke/MethodHandle" ∧ y.cls ≠ "java/lang/invoke/VarHandle" ∧ (parseMethodDescriptor y.desc).map (fun d => d.parameters.length) = some n) (hn : As.length = n) (hR : rm.frames + 1 ≤ R.frames ∧ 8 + (maxL + 11) + rm.locals ≤ R.locals) (hr8 : (rest.map fun v => v.category).sum ≤ 8) (hf : cells + rm.cells ≤ R.cells ∧ slots + rm.slots ≤ R.slots)
    (kk : ∀ (v : Option Value) (S' : zS) (H1 : Heap) (locs1 : List Loc), Qp v S' → zh_V g A s X S' H1 locs1 → W p l e R s m args below meth c H1 locs1 (cells + rm.cells) (slots + rm.slots) Q (F0 m (pc + 3) ls (v.toList ++ rest))) : W p l e R s m args below meth c H locs cells slots Q (F0 m pc ls st0) := by
  subst hstack
  exact zc_ret I (va_runI (As := As) (rest := rest) C (hM H.size) (cwI n C.2.2.2.2 (zgoodW h5) rfl rfl rfl (C.2.2.2.2 _ hini) (C.2.2.2.2 _ hlk) (C.2.2.2.2 _ hin) hy hd hR) (I.preS (.ref b :: As)) rfl hn hl rfl (lv_room hr8) hdg hf) kk
-- ends
theorem zr_iret {v : Int32} {mc ms : Nat} (C : CallFix p m c cc nL s args zc_W own) (I : zh_V g A s [] S H locs) (hr : meth.sig.returnType = some .int) (hlk : meth.locks = false) (hq : Qp (some (.int v)) S) (hc : cells ≤ mc) (hs : slots ≤ ms) (hdg : decode cc pc = .ok (.ireturn, 1)) : W p l e R s m args below meth c H locs cells slots (MQ below (zh_Po g A Qp) args s mc ms A) (F0 m pc ls [.int v]) := by
  refine W.widen hc hs ?_
  exact W.iret (v := v) C.1 C.2.1 hr (fun t ht hW => ⟨⟨_, S, rfl, hq, by rw [ht]; exact I.P, I.D⟩, I.S.F ht⟩) I.S.2.2 hdg hlk
theorem zr_zret {v : Int32} {mc ms : Nat} (C : CallFix p m c cc nL s args zc_W own) (I : zh_V g A s [] S H locs) (hr : meth.sig.returnType = some .boolean) (hn : narrow .boolean (.int v) = .int v) (hlk : meth.locks = false) (hq : Qp (some (.int v)) S) (hc : cells ≤ mc) (hs : slots ≤ ms) (hdg : decode cc pc = .ok (.ireturn, 1)) : W p l e R s m args below meth c H locs cells slots (MQ below (zh_Po g A Qp) args s mc ms A) (F0 m pc ls [.int v]) := by
  refine W.widen hc hs ?_
  exact W.zret (v := v) C.1 C.2.1 hr hn (fun t ht hW => ⟨⟨_, S, rfl, hq, by rw [ht]; exact I.P, I.D⟩, I.S.F ht⟩) I.S.2.2 hdg hlk
theorem zr_lret {v : Int64} {mc ms : Nat} (C : CallFix p m c cc nL s args zc_W own) (I : zh_V g A s [] S H locs) (hr : meth.sig.returnType = some .long) (hlk : meth.locks = false) (hq : Qp (some (.long v)) S) (hc : cells ≤ mc) (hs : slots ≤ ms) (hdg : decode cc pc = .ok (.lreturn, 1)) : W p l e R s m args below meth c H locs cells slots (MQ below (zh_Po g A Qp) args s mc ms A) (F0 m pc ls [.long v]) := by
  refine W.widen hc hs ?_
  exact W.lret (v := v) C.1 C.2.1 hr (fun t ht hW => ⟨⟨_, S, rfl, hq, by rw [ht]; exact I.P, I.D⟩, I.S.F ht⟩) I.S.2.2 hdg hlk
theorem zr_vret {mc ms : Nat} (C : CallFix p m c cc nL s args zc_W own) (I : zh_V g A s [] S H locs) (hr : meth.sig.returnType = none) (hlk : meth.locks = false) (hq : Qp none S) (hc : cells ≤ mc) (hs : slots ≤ ms) (hdg : decode cc pc = .ok (.return_, 1)) : W p l e R s m args below meth c H locs cells slots (MQ below (zh_Po g A Qp) args s mc ms A) (F0 m pc ls []) := by
  refine W.widen hc hs ?_
  exact W.vret C.1 C.2.1 hr (fun t ht hW => ⟨⟨_, S, rfl, hq, by rw [ht]; exact I.P, I.D⟩, I.S.F ht⟩) I.S.2.2 hdg hlk
end ZR
section ZN
variable {p : Program} {l : Launch} {e : Env} {R : Room} {s : State} {m : MethodId} {args : Array Value} {below : List Frame} {meth : Method} {c : Code} {H : Heap} {locs : List Loc} {cells slots : Nat} {Q : State → Prop}
variable {g : zG} {A : Nat → Prop} {X : va_W} {S : zS} {cc bytes : ByteArray} {nL : Nat} {own : String} {pc : Nat} {ls : Array Slot} {rest st0 As : List Value} {rm : Room} {y : MethodName} {maxL index n : Nat} {ret : Option FieldType} {Qp : Option Value → zS → Prop} {QX : String → zS → Prop}
/-- invokespecial of a nest mate's constructor -/
theorem zc_IN {host : String} (C : CallFix p m c cc nL s args zc_W own) (I : zh_V g A s X S H locs) {b : Nat} (hM : zM l y bytes maxL none rm g (.ref b :: As) S Qp) (hlk : Cond.methodLinkNest own index y host ∈ zn_ws) (hin : Cond.instanceMethod y ∈ zc_W) (hini : Cond.initialized y.cls ∈ zc_W) (h5 : Cond.code y bytes maxL none ∈ zc_W) (hy : y.name = "<init>") (hstack : st0 = As.reverse ++ .ref b :: rest) (hl : ls.size = nL) (hdg : decode cc pc = .ok (.invokespecial index, 3))
    (hd : y.cls ≠ "java/lang/invoke/MethodHandle" ∧ y.cls ≠ "java/lang/invoke/VarHandle" ∧ (parseMethodDescriptor y.desc).map (fun d => d.parameters.length) = some n) (hn : As.length = n) (hR : rm.frames + 1 ≤ R.frames ∧ 8 + (maxL + 11) + rm.locals ≤ R.locals) (hr8 : (rest.map fun v => v.category).sum ≤ 8) (hf : cells + rm.cells ≤ R.cells ∧ slots + rm.slots ≤ R.slots)
    (kk : ∀ (v : Option Value) (S' : zS) (H1 : Heap) (locs1 : List Loc), Qp v S' → zh_V g A s X S' H1 locs1 → W p l e R s m args below meth c H1 locs1 (cells + rm.cells) (slots + rm.slots) Q (F0 m (pc + 3) ls (v.toList ++ rest))) : W p l e R s m args below meth c H locs cells slots Q (F0 m pc ls st0) := by
  subst hstack
  exact zc_ret I (va_runIN (As := As) (rest := rest) C (hM H.size) ⟨va_cnB n C.2.2.2.2 (zgoodW h5) rfl rfl rfl (I.O.1 _ hlk) (C.2.2.2.2 _ hini) hd hR, hy, C.2.2.2.2 _ hin⟩ (I.preS (.ref b :: As)) rfl hn hl rfl (lv_room hr8) hdg hf) kk
/-- invokevirtual of a nest mate's private method -/
theorem zc_VN {host : String} (C : CallFix p m c cc nL s args zc_W own) (I : zh_V g A s X S H locs) {kd ci b : Nat} {q : vw_C} {fs : List Value} (hb : zh_at S kd b) (he : zh_e g S b kd = .inr (ci, fs)) (hc : vwCl[ci]? = some q) (hM : zM l y bytes maxL ret rm g (.ref b :: As) S Qp) (hlk : Cond.methodLinkNest own index y host ∈ zn_ws) (hin : Cond.instanceMethod y ∈ zc_W) (hsel : Cond.selects q.1 y y ∈ zc_W) (hini : Cond.initialized y.cls ∈ zc_W) (h5 : Cond.code y bytes maxL ret ∈ zc_W) (hstack : st0 = As.reverse ++ .ref b :: rest) (hl : ls.size = nL) (hdg : decode cc pc = .ok (.invokevirtual index, 3))
    (hd : y.cls ≠ "java/lang/invoke/MethodHandle" ∧ y.cls ≠ "java/lang/invoke/VarHandle" ∧ (parseMethodDescriptor y.desc).map (fun d => d.parameters.length) = some n) (hn : As.length = n) (hR : rm.frames + 1 ≤ R.frames ∧ 8 + (maxL + 11) + rm.locals ≤ R.locals) (hr8 : (rest.map fun v => v.category).sum ≤ 8) (hf : cells + rm.cells ≤ R.cells ∧ slots + rm.slots ≤ R.slots)
    (kk : ∀ (v : Option Value) (S' : zS) (H1 : Heap) (locs1 : List Loc), Qp v S' → zh_V g A s X S' H1 locs1 → W p l e R s m args below meth c H1 locs1 (cells + rm.cells) (slots + rm.slots) Q (F0 m (pc + 3) ls (v.toList ++ rest))) : W p l e R s m args below meth c H locs cells slots Q (F0 m pc ls st0) := by
  subst hstack
  exact zc_ret I (va_runVN (As := As) (rest := rest) C (hM H.size) ⟨va_cnB n C.2.2.2.2 (zgoodW h5) rfl rfl rfl (I.O.1 _ hlk) (C.2.2.2.2 _ hini) hd hR, C.2.2.2.2 _ hin, C.2.2.2.2 _ hsel⟩ (I.preV hb he hc As) rfl hn hl rfl (lv_room hr8) hdg hf) kk
theorem zr_aret {v : Value} {rt : FieldType} {mc ms : Nat} (C : CallFix p m c cc nL s args zc_W own) (I : zh_V g A s [] S H locs) (hr : meth.sig.returnType = some rt) (hrt : (∃ n, rt = .object n) ∨ ∃ t, rt = .array t) (hv : v = .null ∨ ∃ a, v = .ref a) (hlk : meth.locks = false) (hq : Qp (some v) S) (hc : cells ≤ mc) (hs : slots ≤ ms) (hdg : decode cc pc = .ok (.areturn, 1)) : W p l e R s m args below meth c H locs cells slots (MQ below (zh_Po g A Qp) args s mc ms A) (F0 m pc ls [v]) := by
  refine W.widen hc hs ?_
  exact W.aret (v := v) C.1 C.2.1 hr hrt hv (fun t ht hW => ⟨⟨_, S, rfl, hq, by rw [ht]; exact I.P, I.D⟩, I.S.F ht⟩) I.S.2.2 hdg hlk
/-- a method's body -/
theorem zM_of {av : List Value} {nm : String} (hy : plainName y.cls = true) (hnm : y.name = nm) (hlen : (lg_sl av).length ≤ maxL)
    (body : ∀ (p : Program) (e : Env) (s : State) (m : MethodId) (args : Array Value) (below : List Frame) (meth : Method) (c : Code) (A : Nat → Prop) (ls : Array Slot), CallFix p m c cc maxL s args zc_W y.cls → meth.sig.returnType = ret → meth.locks = false → meth.name = nm → zh_V g A s [] S s.heap [] → lv_has ls maxL (lv_args 0 av) →
      W p l e rm s m args below meth c s.heap [] 0 0 (MQ below (zh_Po g A Qp) args s rm.cells rm.slots A) (F0 m 0 ls [])) : zM l y cc maxL ret rm g av S Qp := by
  intro sz
  refine Met.ofW (cc := cc) (maxL := maxL) (ret := ret) hy rfl ?_
  intro p e s m args below meth c s₁ B hml hv
  obtain ⟨rfl, hsz, hK, hP, hD0, hN, hO⟩ := hv
  have hts := atoms_spec (ws := Cond.code y cc maxL ret :: zc_W) B.pre
  subst hsz
  have hl := lv_entry av (n := maxL) hlen
  rw [lg_entry_eq]
  refine body p e s m _ below meth c (va_A (zh_w g S) s.heap.size) _ ⟨B.exec, B.bytes, hml, findClass_of_methodNamed B.named, fun w h => hts w (List.mem_cons_of_mem _ h)⟩ B.returns B.notSynchronized ((name_of_methodNamed B.named B.method).1.trans hnm) ⟨hK, hP, hD0.self, va_S.rf, fun q h => Or.inr h, fun q h => ?_, hN, hO⟩ hl
  rcases h with ⟨k, e, hk⟩ | h
  · exact hD0.2 k _ hk
  · exact Nat.le_trans hN h
theorem zX_of {av : List Value} {nm : String} (hy : plainName y.cls = true) (hnm : y.name = nm) (hlen : (lg_sl av).length ≤ maxL)
    (body : ∀ (p : Program) (e : Env) (s : State) (m : MethodId) (args : Array Value) (below : List Frame) (meth : Method) (c : Code) (A : Nat → Prop) (ls : Array Slot), CallFix p m c cc maxL s args zc_W y.cls → meth.sig.returnType = ret → meth.locks = false → (∀ x ∈ c.exceptionTable.toList, False) → zh_V g A s [] S s.heap [] → lv_has ls maxL (lv_args 0 av) →
      W p l e rm s m args below meth c s.heap [] 0 0 (vx_MQ below (zh_Po g A Qp) (zh_Px g A QX) args s rm.cells rm.slots A) (F0 m 0 ls [])) : zX l y cc maxL ret rm g av S Qp QX := by
  intro sz
  refine vx_ofW (cc := cc) (maxL := maxL) (ret := ret) hy rfl ?_
  intro p e s m args below meth c s₁ B hml hx hv
  obtain ⟨rfl, hsz, hK, hP, hD0, hN, hO⟩ := hv
  have hts := atoms_spec (ws := Cond.code y cc maxL ret :: zc_W) B.pre
  subst hsz
  have hl := lv_entry av (n := maxL) hlen
  rw [lg_entry_eq]
  refine body p e s m _ below meth c (va_A (zh_w g S) s.heap.size) _ ⟨B.exec, B.bytes, hml, findClass_of_methodNamed B.named, fun w h => hts w (List.mem_cons_of_mem _ h)⟩ B.returns B.notSynchronized hx ⟨hK, hP, hD0.self, va_S.rf, fun q h => Or.inr h, fun q h => ?_, hN, hO⟩ hl
  rcases h with ⟨k, e, hk⟩ | h
  · exact hD0.2 k _ hk
  · exact Nat.le_trans hN h
/-- thrown by a callee, not caught here -/
theorem zr_out {E : String} {ce : Cell} {q : Addr} {mc ms : Nat} (I : zh_V g A s [] S H locs) (hx : ∀ x ∈ c.exceptionTable.toList, False) (hlk : meth.locks = false) (hq : QX E S) (hcell : H[q]? = some ce) (hv : ce.vm = .none) (hcl : s.vm.findClass E = some ce.cls) (hc : cells ≤ mc) (hs : slots ≤ ms) : vx_W p l e R s m args below meth c H locs cells slots (vx_MQ below (zh_Po g A Qp) (zh_Px g A QX) args s mc ms A) (F0 m pc ls rest) q :=
  vx_out (fun x h => (hx x h).elim) hlk hcell hv hcl (fun t ht hW => ⟨S, hq, by rw [ht]; exact I.P, I.D, I.S.F ht⟩) I.S.2.2 hc hs
/-- 'throw new E("text")' -/
theorem zr_throw {cls text : String} {ik is ic : Nat} {mc ms : Nat} (C : CallFix p m c cc nL s args zc_W own) (I : zh_V g A s [] S H locs) (hl : l.stackTraces = false) (hx : ∀ x ∈ c.exceptionTable.toList, False) (hlk : meth.locks = false) (hown : own = "DiceForge") (hcls : Bundle.fit cls = true) (hnames : ∀ n ∈ ["java/lang/RuntimeException", "java/lang/Exception"], Bundle.fit n = true)
    (hk : Cond.classLink own ik cls ∈ zc_W) (hini : Cond.initialized cls ∈ zc_W) (hstr : (is, text) ∈ zn_strs) (hat1 : ∀ w ∈ (vx_atS own ic cls ["java/lang/RuntimeException", "java/lang/Exception"]).filter goodWord, w ∈ zc_W) (hat2 : ∀ w ∈ (vx_atS own ic cls ["java/lang/RuntimeException", "java/lang/Exception"]).filter (fun w => !goodWord w), w ∈ zn_ws)
    (hgood : ∀ w ∈ Cond.classLink own ik cls :: Cond.initialized cls :: vx_atS own ic cls ["java/lang/RuntimeException", "java/lang/Exception"], vx_ot w = true) (hsize : ls.size = nL)
    (d0 : decode cc pc = .ok (.new ik, 3)) (d3 : decode cc (pc + 3) = .ok (.dup, 1)) (d4 : decode cc (pc + 4) = .ok (.ldc is, 2)) (d6 : decode cc (pc + 6) = .ok (.invokespecial ic, 3)) (d9 : decode cc (pc + 9) = .ok (.athrow, 1))
    (hRframes : 5 < R.frames) (hRlocals : (rest.map fun v => v.category).sum + 82 ≤ R.locals) (hRcells : cells + 1 ≤ R.cells) (hRslots : slots + 6 ≤ R.slots) (hq : QX cls S) (hc : cells + 1 ≤ mc) (hs : slots + 6 ≤ ms) :
    W p l e R s m args below meth c H locs cells slots (vx_MQ below (zh_Po g A Qp) (zh_Px g A QX) args s mc ms A) (F0 m pc ls rest) := by
  subst hown
  obtain ⟨sa, hsa⟩ := I.O.2.2.1 _ hstr
  refine vx_throwS (sa := sa) (names := ["java/lang/RuntimeException", "java/lang/Exception"]) (A := A) C.1 C.2.1 hl C.2.2.2.1 hcls hnames (C.2.2.2.2 _ hk) (C.2.2.2.2 _ hini) hsa
    (vx_hat (B := zn_ws) (fun w hw => C.2.2.2.2 w (hat1 w hw)) hat2 (fun w hw => va_Nw.use (zn_ws_on w hw) (I.O.1 w hw))) hgood
    (I.O.2.2.2.2.2.1.narrow I.lo) (I.O.2.2.2.2.2.2.1.narrow I.lo) I.S (hsize.trans C.2.2.1.symm) d0 d3 d4 d6 d9 (fun x h => (hx x h).elim) hRframes hRlocals hRcells hRslots hlk ?_ I.S.2.2 hc hs
  intro t hW hz hk
  refine ⟨S, hq, I.P.kept (fun k q h => hk q.1 (I.P k q h).lt), I.D, Nat.le_trans I.S.1 hz, fun q h1 h2 => ?_⟩
  rw [hk q (Nat.lt_of_lt_of_le h1 I.S.1)]
  exact I.S.2.1 q h1 h2
-- arrays
theorem zr_iald {a : Nat} {i v : Int32} (C : CallFix p m c cc nL s args zc_W own) (I : zh_V g A s X S H locs) (ha : zh_at S 6 a) (hin : vp_in i (zh_N S a)) (hv : zh_A S a i.toNatClampNeg = v) (hdg : decode cc pc = .ok (.iaload, 1)) (kk : W p l e R s m args below meth c H locs cells slots Q (F0 m (pc + 1) ls (.int v :: rest))) : W p l e R s m args below meth c H locs cells slots Q (F0 m pc ls (.int i :: .ref a :: rest)) := by
  obtain ⟨k, hk⟩ := zh_get (g := g) X ha
  subst hv
  exact va_iald C.1 C.2.1 I.K I.P k 0 hk rfl hin hdg kk
theorem zr_iast {a : Nat} {i v : Int32} (C : CallFix p m c cc nL s args zc_W own) (I : zh_V g A s X S H locs) (ha : zh_at S 6 a) (hin : vp_in i (zh_N S a)) (hdg : decode cc pc = .ok (.iastore, 1)) (kk : ∀ (H : Heap) (locs : List Loc), zh_V g A s X (zh_sA S a (upd (zh_A S a) i.toNatClampNeg v)) H locs → W p l e R s m args below meth c H locs cells slots Q (F0 m (pc + 1) ls rest)) : W p l e R s m args below meth c H locs cells slots Q (F0 m pc ls (.int v :: .int i :: .ref a :: rest)) := by
  obtain ⟨k, hk⟩ := zh_get (g := g) X ha
  refine va_iast C.1 C.2.1 I.K I.P I.D I.S k 0 hk rfl hin hdg fun H1 locs1 hP hD hS => kk H1 locs1 (I.to (zh_set I.D ha hk rfl rfl ?_ (fun b hb k => zh_e_sA g S _ hb k)) hP hD hS)
  show Sum.inl (g.2.2.2 0, zh_N S a, Sum.inl (va_up (zh_A S) a _ a)) = _
  rw [va_up_self]
theorem zr_qald {a v : Nat} {i : Int32} (C : CallFix p m c cc nL s args zc_W own) (I : zh_V g A s X S H locs) (ha : zh_at S 8 a) (hin : vp_in i (zh_N S a)) (hv : zh_Q S a i.toNatClampNeg = some v) (hdg : decode cc pc = .ok (.aaload, 1)) (kk : W p l e R s m args below meth c H locs cells slots Q (F0 m (pc + 1) ls (.ref v :: rest))) : W p l e R s m args below meth c H locs cells slots Q (F0 m pc ls (.int i :: .ref a :: rest)) := by
  obtain ⟨k, hk⟩ := zh_get (g := g) X ha
  refine va_aldq C.1 C.2.1 I.K I.P k 2 hk rfl hin hdg ?_
  rw [hv]
  exact kk
theorem zr_len {kd t a N : Nat} {ty : FieldType} {cA : ClassId} {x : (Nat → Int32) ⊕ (Nat → Int64) ⊕ (Nat → UInt32) ⊕ (Nat → UInt64) ⊕ (Nat → Option Nat)} (C : CallFix p m c cc nL s args zc_W own) (I : zh_V g A s X S H locs) (ha : zh_at S kd a) (he : zh_e g S a kd = .inl (cA, zh_N S a, x)) (ht : (zh_T g)[t]? = some (cA, ty)) (hN : zh_N S a = N) (hdg : decode cc pc = .ok (.arraylength, 1)) (kk : W p l e R s m args below meth c H locs cells slots Q (F0 m (pc + 1) ls (.int (nI N) :: rest))) : W p l e R s m args below meth c H locs cells slots Q (F0 m pc ls (.ref a :: rest)) := by
  obtain ⟨k, hk⟩ := zh_get (g := g) X ha
  rw [he] at hk
  subst hN
  exact va_alen C.1 C.2.1 I.K I.P k t hk ht rfl hdg kk
end ZN
