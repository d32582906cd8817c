/-! the start: the classes -/
theorem zstart_1 {s : State} {args : Array Value} (hts : ∀ w ∈ zc_W, w.before args s = true) (k : Nat) : ∃ (c : ClassId) (i : Nat → Nat), ∀ q : vw_C, vwCl[k]? = some q → u_Kn s q.1 q.2.1 q.2.2 c i := by
  match k with
  | 0 => obtain ⟨c, i, h⟩ := u_known (n := 3) hts zin_List (hts _ zm_44); exact ⟨c, i, fun q hq => by cases hq; exact h⟩
  | 1 => obtain ⟨c, i, h⟩ := u_known (n := 2) hts zin_Draws (hts _ zm_168); exact ⟨c, i, fun q hq => by cases hq; exact h⟩
  | 2 => obtain ⟨c, i, h⟩ := u_known (n := 8) hts zin_Entry (hts _ zm_305); exact ⟨c, i, fun q hq => by cases hq; exact h⟩
  | 3 => obtain ⟨c, i, h⟩ := u_known (n := 4) hts zin_Promise (hts _ zm_163); exact ⟨c, i, fun q hq => by cases hq; exact h⟩
  | 4 => obtain ⟨c, i, h⟩ := u_known (n := 4) hts zin_Forge (hts _ zm_36); exact ⟨c, i, fun q hq => by cases hq; exact h⟩
  | k + 5 => exact ⟨(u_known (n := 3) hts zin_List (hts _ zm_44)).choose, fun _ => 0, fun q hq => by cases hq⟩
theorem zstart_K {s : State} {args : Array Value} (hts : ∀ w ∈ zc_W, w.before args s = true) (mi : Nat) : ∃ D : va_G, (∀ (k : Nat) (q : vw_C), vwCl[k]? = some q → u_Kn s q.1 q.2.1 q.2.2 (D.1 k) (D.2 k)) ∧ D.2 99 0 = mi := by
  have h := zstart_1 hts
  refine ⟨(fun k => (h k).choose, fun k => if k = 99 then fun _ => mi else (h k).choose_spec.choose), fun k q hq => ?_, rfl⟩
  have h9 : k ≠ 99 := fun e => by subst e; cases hq
  show u_Kn s q.1 q.2.1 q.2.2 _ (if k = 99 then _ else _)
  rw [if_neg h9]
  exact (h k).choose_spec.choose_spec q hq
/-! the array classes -/
theorem zstart_arr {s : State} {args : Array Value} {ty : FieldType} (h : (Cond.arrayClass ty).before args s = true) : ∃ cA : ClassId, ArrOfT s cA ty ∧ s.vm.findClass ("[" ++ ty.toString) = some cA := by
  obtain ⟨c, k, comp, h1, h2, h3⟩ := Cond.arrayClass_spec (args := args) (first := s) (o := none) (s := s) (idx := []) h
  exact ⟨c, fun n z => ⟨fun k h => (by cases h), k, h2, comp, h3⟩, h1⟩
theorem zstart_obj {s : State} {args : Array Value} {C : String} (h : (Cond.arrayOver (.object C)).before args s = true) : ∃ cA : ClassId, ArrOfT s cA (.object C) ∧ va_RA s cA (.object C) := by
  obtain ⟨comp, c, k, h1, h2, h3, h4, h5⟩ := Cond.arrayOver_spec (args := args) (first := s) (o := none) (s := s) (idx := []) h
  exact ⟨c, fun n z => ⟨fun k h => (by cases h), k, h3, comp, h4⟩, k, comp, h3, h4, h1, h5⟩
/-- the run's fixed things, out of the tables' words -/
theorem zstart_g {s : State} {args : Array Value} (hts : ∀ w ∈ zc_W, w.before args s = true) (hob : (Cond.arrayOver (.object "java/lang/Object")).before args s = true) (mi d : Nat) : ∃ g : zG, g.1 = s.heap.size ∧ g.2.1 = d ∧ g.2.2.1.2 99 0 = mi ∧ va_K g.2.2.1 vwCl (zh_T g) s := by
  obtain ⟨D, hD, hm⟩ := zstart_K hts mi
  obtain ⟨c0, a0, b0⟩ := zstart_arr (hts _ zm_81)
  obtain ⟨c2, a2, b2⟩ := zstart_obj hob
  refine ⟨(s.heap.size, d, D, fun k => if k = 2 then c2 else c0), rfl, rfl, hm, hD, fun k q hq => ?_⟩
  match k, hq with
  | 0, hq => cases hq; exact ⟨a0, b0⟩
  | 1, hq => cases hq; exact ⟨a0, b0⟩
  | 2, hq => cases hq; exact ⟨a2, b2⟩
  | 3, hq => cases hq; exact ⟨a0, b0⟩
  | k + 4, hq => exact absurd hq (by simp [zh_T])
