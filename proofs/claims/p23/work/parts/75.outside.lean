/-! the start: what lies outside the world -/
theorem zlen_spec {args : Array Value} {s : State} {t : Term} {v : Value} (h : (Term.length t).eval args s none [] s = some v) : ∃ (a : Addr) (ce : Cell), t.eval args s none [] s = some (.ref a) ∧ s.arrayAt? a = some ce ∧ v = .int ce.slots.size.toInt32 ∧ ce.slots.size < 2 ^ 31 := by
  simp only [Term.eval, Option.bind_eq_bind] at h
  cases ht : t.eval args s none [] s with
  | none => simp [ht] at h
  | some x =>
    cases x <;> simp [ht] at h
    case ref a =>
      obtain ⟨ce, hcell, h⟩ := Option.bind_eq_some_iff.mp h
      by_cases hn : ce.slots.size < 2147483648
      · rw [if_pos hn] at h; cases h; exact ⟨a, ce, rfl, hcell, rfl, hn⟩
      · rw [if_neg hn] at h; cases h
theorem zlen_zero {args : Array Value} {s : State} {t : Term} {a : Addr} {ce : Cell} (h : (Cond.eq (.length t) (.int 0)).before args s = true) (ht : t.eval args s none [] s = some (.ref a)) (hc : s.heap[a]? = some ce) : ce.slots.size = 0 := by
  cases hv : (Term.length t).eval args s none [] s with
  | none => simp [Cond.before, Cond.holds, Cond.value, hv] at h
  | some w =>
    obtain ⟨a2, ce2, e1, e2, rfl, e4⟩ := zlen_spec hv
    cases ht.symm.trans e1
    cases hc.symm.trans (State.arrayAt?_spec e2).1
    have h2 := Cond.eq_ints (args := args) (first := s) (o := none) (idx := []) (s := s) hv (show (Term.int 0).eval args s none [] s = some (.int 0) from rfl)
    have h3 : ce.slots.size.toInt32 = 0 := by
      have h4 : (Cond.eq (.length t) (.int 0)).value args s none s [] = some true := by
        simpa [Cond.before, Cond.holds] using h
      rw [h2] at h4
      exact of_decide_eq_true (Option.some.inj h4)
    exact (nI_eq (a := ce.slots.size) (b := 0) e4 (by decide)).mp (h3.trans nI_0.symm)
abbrev zAL : Term := .static "java/util/ArrayList" "DEFAULTCAPACITY_EMPTY_ELEMENTDATA" "[Ljava/lang/Object;"
theorem zo_strs : ∀ q ∈ zn_strs, Cond.stringRef "DiceForge" q.1 q.2 ∈ lw_tbl := by decide +kernel
theorem zo_strx : ∀ q ∈ zn_strs, Cond.exactly (.string "DiceForge" q.1) "java/lang/String" ∈ flatC (Jvm.Cond.and given_1 narrow_1) := by decide +kernel
theorem zo_ncs : ∀ q ∈ zn_ncs, Cond.not (.castable q.1 q.2) ∈ flatC (Jvm.Cond.and given_1 narrow_1) := by decide +kernel
theorem zo_given : ∀ w ∈ [Cond.isRef (.mirror "[Ljava/lang/Object;"), Cond.isRef (.static Bundle.tN "UNASSIGNED_STACK" Bundle.steD), Cond.isRef (.static Bundle.tN "SUPPRESSED_SENTINEL" Bundle.listD), Cond.arrayOf zAL (.object "java/lang/Object"), Cond.exactly zAL "[Ljava/lang/Object;", Cond.eq (.length zAL) (.int 0)], w ∈ flatC (Jvm.Cond.and given_1 narrow_1) := by decide +kernel
theorem zo_tbl : ∀ w ∈ [Cond.arrayOver (.object "java/lang/Object"), Cond.laysStatic Bundle.tN "UNASSIGNED_STACK" Bundle.steD, Cond.laysStatic Bundle.tN "SUPPRESSED_SENTINEL" Bundle.listD, Cond.laysStatic "java/util/ArrayList" "DEFAULTCAPACITY_EMPTY_ELEMENTDATA" "[Ljava/lang/Object;", Cond.initialized Bundle.tN, Cond.initialized "java/util/ArrayList"], w ∈ lw_tbl := by decide +kernel
/-- all that is fixed, at the start -/
theorem zstart_all {s : State} {args : Array Value} (hts : ∀ w ∈ lw_tbl, w.before args s = true) (hgv : (Jvm.Cond.and given_1 narrow_1).before args s = true) : ∃ g : zG, g.1 = s.heap.size ∧ va_K g.2.2.1 vwCl (zh_T g) s ∧ zh_O g s s.heap := by
  have hq := flat_of_before _ hgv
  have q0 := hq _ (zo_given _ (List.mem_of_getElem? (i := 0) rfl))
  have q1 := hq _ (zo_given _ (List.mem_of_getElem? (i := 1) rfl))
  have q2 := hq _ (zo_given _ (List.mem_of_getElem? (i := 2) rfl))
  have q3 := hq _ (zo_given _ (List.mem_of_getElem? (i := 3) rfl))
  have q4 := hq _ (zo_given _ (List.mem_of_getElem? (i := 4) rfl))
  have q5 := hq _ (zo_given _ (List.mem_of_getElem? (i := 5) rfl))
  have t0 := hts _ (zo_tbl _ (List.mem_of_getElem? (i := 0) rfl))
  have t1 := hts _ (zo_tbl _ (List.mem_of_getElem? (i := 1) rfl))
  have t2 := hts _ (zo_tbl _ (List.mem_of_getElem? (i := 2) rfl))
  have t3 := hts _ (zo_tbl _ (List.mem_of_getElem? (i := 3) rfl))
  have t4 := hts _ (zo_tbl _ (List.mem_of_getElem? (i := 4) rfl))
  have t5 := hts _ (zo_tbl _ (List.mem_of_getElem? (i := 5) rfl))
  obtain ⟨mi, hmi⟩ := va_Mi.of q0
  obtain ⟨d, cA, ce, kA, k1, k2, k3, k4, k5, k6, -⟩ := Cond.exactly_spec (args := args) (first := s) (o := none) (s := s) (idx := []) q4
  obtain ⟨g, rfl', hd, hm, hK⟩ := zstart_g (fun w hw => hts w (zc_tbl w hw)) t0 mi d
  have hA : ∀ a : Nat, a < s.heap.size → ¬ g.1 ≤ a := fun a h h2 => by rw [rfl'] at h2; omega
  refine ⟨g, rfl', hK, fun w hw => va_Nw.of (zn_ws_on w hw) (hts w (zn_ws_tbl w hw)), va_AO.of t0, fun q h => ?_, fun q h => va_Nc.of (hq _ (zo_ncs q h)), by rw [hm]; exact hmi, vx_Zqof t1 t4 q1 hA, vx_Zqof t2 t4 q2 hA, va_Zof t3 t5 (by rw [hd]; exact k1) hA, ⟨ce, by rw [hd]; exact k3, (Cond.arrayOf_spec (args := args) (first := s) (o := none) (s := s) (idx := []) q3 k1 k3).1, zlen_zero q5 k1 k3⟩, ?_⟩
  · obtain ⟨sa, cS, ceS, kS, s1, -⟩ := Cond.exactly_spec (args := args) (first := s) (o := none) (s := s) (idx := []) (hq _ (zo_strx q h))
    exact ⟨sa, vk_R.of (hts _ (zo_strs q h)) s1⟩
  · rw [hd, rfl']
    exact (Array.getElem?_eq_some_iff.mp k3).1
