/-! THE NUMBERS: draws, rolls and sums of the document, over Nat. -/
def zd_d (st pt : Nat) : Nat := (1105 * st + 12345 + 2 * pt) % 65536
def zd_m (f : Nat) : Nat := 65536 - 65536 % f
/-- draws until one is below the limit m, at most n of them rejected: the state, how many were rejected -/
def zd_go : Nat → Nat → Nat → Nat → Nat × Nat
  | 0, st, _, _ => (st, 0)
  | n + 1, st, pt, m => if m ≤ st then ((zd_go n (zd_d st pt) pt m).1, (zd_go n (zd_d st pt) pt m).2 + 1) else (st, 0)
def zd_roll (st pt f : Nat) : Nat × Nat := zd_go 65536 (zd_d st pt) pt (zd_m f)
def zd_val (st pt f : Nat) : Nat := (zd_roll st pt f).1 % f + 1
theorem zd_d_lt (st pt : Nat) : zd_d st pt < 65536 := Nat.mod_lt _ (by decide)
theorem zd_go_0 (st pt m : Nat) : zd_go 0 st pt m = (st, 0) := rfl
theorem zd_go_s (n st pt m : Nat) (h : m ≤ st) : zd_go (n + 1) st pt m = ((zd_go n (zd_d st pt) pt m).1, (zd_go n (zd_d st pt) pt m).2 + 1) := by rw [zd_go, if_pos h]
theorem zd_go_e (n st pt m : Nat) (h : ¬ m ≤ st) : zd_go n st pt m = (st, 0) := by cases n with
  | zero => rfl
  | succ n => rw [zd_go, if_neg h]
theorem zd_go_lt (n : Nat) : ∀ (st pt m : Nat), st < 65536 → (zd_go n st pt m).1 < 65536 := by
  induction n with
  | zero => intro st pt m h; exact h
  | succ n ih =>
    intro st pt m h
    by_cases hm : m ≤ st
    · rw [zd_go_s n st pt m hm]; exact ih _ _ _ (zd_d_lt st pt)
    · rw [zd_go_e _ st pt m hm]; exact h
theorem zd_go_le (n : Nat) : ∀ (st pt m : Nat), (zd_go n st pt m).2 ≤ n := by
  induction n with
  | zero => intro st pt m; exact Nat.le_refl _
  | succ n ih =>
    intro st pt m
    by_cases hm : m ≤ st
    · rw [zd_go_s n st pt m hm]; exact Nat.succ_le_succ (ih _ _ _)
    · rw [zd_go_e _ st pt m hm]; exact Nat.zero_le _
theorem zd_roll_lt (st pt f : Nat) : (zd_roll st pt f).1 < 65536 := zd_go_lt _ _ _ _ (zd_d_lt st pt)
theorem zd_roll_le (st pt f : Nat) : (zd_roll st pt f).2 ≤ 65536 := zd_go_le _ _ _ _
theorem zd_m_div {f : Nat} (hf : 0 < f) : zd_m f = 65536 / f * f := by
  have h := Nat.div_add_mod 65536 f
  have h2 : 65536 / f * f = f * (65536 / f) := Nat.mul_comm _ _
  unfold zd_m
  omega
/-- the sum of an entry: by the sum before, its promise, table, faces, value and rejected draws -/
def zd_sum (before p t f v r : Nat) : Nat := (31 * before + (7 * p + 5 * t + 3 * f + 11 * v + r)) % 1000003
theorem zd_sum_lt (before p t f v r : Nat) : zd_sum before p t f v r < 1000003 := Nat.mod_lt _ (by decide)
-- at most three draws in a row are rejected
theorem zd_chain : ((List.range 1997).all fun i => ((i : Int) - 998) % 2 == 0 || !(decide (-998 ≤ Int.bmod (1105 * ((i : Int) - 998)) 65536 ∧ Int.bmod (1105 * ((i : Int) - 998)) 65536 ≤ 998)) || !(decide (-998 ≤ Int.bmod (1105 * Int.bmod (1105 * ((i : Int) - 998)) 65536) 65536 ∧ Int.bmod (1105 * Int.bmod (1105 * ((i : Int) - 998)) 65536) 65536 ≤ 998))) = true := by decide +kernel
theorem zd_bm {E D : Int} (h1 : -998 ≤ E) (h2 : E ≤ 998) (h : (E - 1105 * D) % 65536 = 0) : Int.bmod (1105 * D) 65536 = E := by
  rw [Int.bmod_def]
  split <;> omega
theorem zd_3 {x0 x1 x2 x3 pt : Nat} (h1 : x1 = zd_d x0 pt) (h2 : x2 = zd_d x1 pt) (h3 : x3 = zd_d x2 pt) (a0 : 64537 ≤ x0) (a1 : 64537 ≤ x1) (a2 : 64537 ≤ x2) (a3 : 64537 ≤ x3) (b0 : x0 < 65536) : False := by
  have b1 : x1 < 65536 := h1 ▸ zd_d_lt _ _
  have b2 : x2 < 65536 := h2 ▸ zd_d_lt _ _
  have b3 : x3 < 65536 := h3 ▸ zd_d_lt _ _
  unfold zd_d at h1 h2 h3
  obtain ⟨i, hi⟩ : ∃ i : Nat, (i : Int) - 998 = (x1 : Int) - x0 := ⟨((x1 : Int) - x0 + 998).toNat, by omega⟩
  have hlt : i < 1997 := by omega
  have hodd : ((x1 : Int) - x0) % 2 = 1 := by omega
  have e1 := zd_bm (E := (x2 : Int) - x1) (D := (x1 : Int) - x0) (by omega) (by omega) (by omega)
  have e2 := zd_bm (E := (x3 : Int) - x2) (D := (x2 : Int) - x1) (by omega) (by omega) (by omega)
  have h := List.all_eq_true.mp zd_chain i (List.mem_range.mpr hlt)
  rw [hi, e1, e2] at h
  simp only [Bool.or_eq_true, beq_iff_eq, Bool.not_eq_true', decide_eq_false_iff_not] at h
  omega
theorem zd_fin {n st pt m : Nat} (hm : 64537 ≤ m) (hs : st < 65536) (hn : 4 ≤ n) : (zd_go n st pt m).1 < m := by
  obtain ⟨k, rfl⟩ : ∃ k, n = k + 4 := ⟨n - 4, by omega⟩
  by_cases c0 : m ≤ st
  · rw [zd_go_s _ _ _ _ c0]
    by_cases c1 : m ≤ zd_d st pt
    · rw [zd_go_s _ _ _ _ c1]
      by_cases c2 : m ≤ zd_d (zd_d st pt) pt
      · rw [zd_go_s _ _ _ _ c2]
        by_cases c3 : m ≤ zd_d (zd_d (zd_d st pt) pt) pt
        · exact (zd_3 (x0 := st) (x1 := zd_d st pt) (x2 := zd_d (zd_d st pt) pt) (x3 := zd_d (zd_d (zd_d st pt) pt) pt) (pt := pt) rfl rfl rfl (by omega) (by omega) (by omega) (by omega) hs).elim
        · rw [zd_go_e _ _ _ _ c3]; exact Nat.not_le.mp c3
      · rw [zd_go_e _ _ _ _ c2]; exact Nat.not_le.mp c2
    · rw [zd_go_e _ _ _ _ c1]; exact Nat.not_le.mp c1
  · rw [zd_go_e _ _ _ _ c0]; exact Nat.not_le.mp c0
theorem zd_roll_fin {st pt f : Nat} (h2 : 2 ≤ f) (hf : f ≤ 1000) : (zd_roll st pt f).1 < zd_m f := by
  have : 65536 % f < f := Nat.mod_lt _ (by omega)
  exact zd_fin (by unfold zd_m; omega) (zd_d_lt _ _) (by decide)
-- writes of fields
theorem zu_uu {α : Type} (f : Nat → Nat → α) (j a : Nat) (v w : α) : zh_u (zh_u f j a v) j a w = zh_u f j a w := by
  funext j' a'
  unfold zh_u
  split <;> rfl
theorem zu_comm {α : Type} (f : Nat → Nat → α) {j k : Nat} (a b : Nat) (v w : α) (h : j ≠ k) : zh_u (zh_u f j a v) k b w = zh_u (zh_u f k b w) j a v := by
  funext j' a'
  unfold zh_u
  by_cases h1 : j' = k ∧ a' = b
  · have h2 : ¬ (j' = j ∧ a' = a) := fun q => h (q.1.symm.trans h1.1)
    rw [if_pos h1, if_neg h2, if_pos h1]
  · rw [if_neg h1]
    by_cases h2 : j' = j ∧ a' = a
    · rw [if_pos h2, if_pos h2]
    · rw [if_neg h2, if_neg h2, if_neg h1]
theorem zs_II (S : zS) (j a : Nat) (v w : Int32) : zh_sI (zh_sI S j a v) j a w = zh_sI S j a w := by
  show (_, _, zh_u (zh_u _ _ _ _) _ _ _, _) = _
  rw [zu_uu]; rfl
theorem zs_Ic (S : zS) {j k : Nat} (a b : Nat) (v w : Int32) (h : j ≠ k) : zh_sI (zh_sI S j a v) k b w = zh_sI (zh_sI S k b w) j a v := by
  show (_, _, zh_u (zh_u _ _ _ _) _ _ _, _) = (_, _, zh_u (zh_u _ _ _ _) _ _ _, _)
  rw [zu_comm _ _ _ _ _ h]; rfl
theorem zu_self {α : Type} (f : Nat → Nat → α) (j a : Nat) (v : α) (h : f j a = v) : zh_u f j a v = f := by
  funext j' a'
  unfold zh_u
  split
  · rename_i q; rw [q.1, q.2, h]
  · rfl
theorem zs_Is (S : zS) (j a : Nat) (v : Int32) (h : zh_I S j a = v) : zh_sI S j a v = S := by
  show (_, _, zh_u (zh_I S) j a v, _) = S
  rw [zu_self _ _ _ _ h]; rfl
