/-! the start: the classes -/
theorem zstart_1 {s : State} {args : Array Value} (hts : ∀ w ∈ zc_W, w.before args s = true) (k : Nat) : ∃ (c : ClassId) (i : Nat → Nat), ∀ q : vw_C, vwCl[k]? = some q → u_Kn s q.1 q.2.1 q.2.2 c i := by
  match k with
  | 0 => obtain ⟨c, i, h⟩ := u_known (n := 3) hts zin_List (hts _ zm_53); exact ⟨c, i, fun q hq => by cases hq; exact h⟩
  | 1 => obtain ⟨c, i, h⟩ := u_known (n := 2) hts zin_Draws (hts _ zm_209); exact ⟨c, i, fun q hq => by cases hq; exact h⟩
  | 2 => obtain ⟨c, i, h⟩ := u_known (n := 8) hts zin_Entry (hts _ zm_119); exact ⟨c, i, fun q hq => by cases hq; exact h⟩
  | 3 => obtain ⟨c, i, h⟩ := u_known (n := 4) hts zin_Promise (hts _ zm_204); exact ⟨c, i, fun q hq => by cases hq; exact h⟩
  | 4 => obtain ⟨c, i, h⟩ := u_known (n := 4) hts zin_Forge (hts _ zm_45); exact ⟨c, i, fun q hq => by cases hq; exact h⟩
  | 5 => obtain ⟨c, i, h⟩ := u_known (n := 18) hts zin_Model (hts _ zm_502); exact ⟨c, i, fun q hq => by cases hq; exact h⟩
  | k + 6 => exact ⟨(u_known (n := 3) hts zin_List (hts _ zm_53)).choose, fun _ => 0, fun q hq => by cases hq⟩
theorem zstart_K {s : State} {args : Array Value} (hts : ∀ w ∈ zc_W, w.before args s = true) (mi : Nat) : ∃ D : va_G, (∀ (k : Nat) (q : vw_C), vwCl[k]? = some q → u_Kn s q.1 q.2.1 q.2.2 (D.1 k) (D.2 k)) ∧ D.2 99 0 = mi := by
  have h := zstart_1 hts
  refine ⟨(fun k => (h k).choose, fun k => if k = 99 then fun _ => mi else (h k).choose_spec.choose), fun k q hq => ?_, rfl⟩
  have h9 : k ≠ 99 := fun e => by subst e; cases hq
  show u_Kn s q.1 q.2.1 q.2.2 _ (if k = 99 then _ else _)
  rw [if_neg h9]
  exact (h k).choose_spec.choose_spec q hq
