/-! MY OWN LAYER, 1: the world as components (one function a field), what lies outside it, the rows over it. -/
abbrev zS : Type := List Nat × (Nat → Nat) × (Nat → Nat → Int32) × (Nat → Nat → Option Nat) × (Nat → Nat) × (Nat → Nat → Int32) × (Nat → Nat → Option Nat) × (Nat → Nat → Int64)
/-- the live addresses -/
def zh_L (S : zS) : List Nat := S.1
/-- the kind of a cell: 0 Draws, 1 Entry, 2 Promise, 3 DiceForge, 4 DiceForgeModel, 5 ArrayList, 6 int[], 7 boolean[], 8 Object[], 9 long[] -/
def zh_K (S : zS) : Nat → Nat := S.2.1
/-- int fields, by number and address -/
def zh_I (S : zS) : Nat → Nat → Int32 := S.2.2.1
/-- reference fields -/
def zh_R (S : zS) : Nat → Nat → Option Nat := S.2.2.2.1
/-- lengths of arrays -/
def zh_N (S : zS) : Nat → Nat := S.2.2.2.2.1
/-- rows of int arrays and boolean arrays -/
def zh_A (S : zS) : Nat → Nat → Int32 := S.2.2.2.2.2.1
/-- rows of reference arrays -/
def zh_Q (S : zS) : Nat → Nat → Option Nat := S.2.2.2.2.2.2.1
/-- rows of long arrays -/
def zh_J (S : zS) : Nat → Nat → Int64 := S.2.2.2.2.2.2.2
def zh_u {α : Type} (f : Nat → Nat → α) (j a : Nat) (v : α) : Nat → Nat → α := fun j' a' => if j' = j ∧ a' = a then v else f j' a'
def zh_sI (S : zS) (j a : Nat) (v : Int32) : zS := (zh_L S, zh_K S, zh_u (zh_I S) j a v, zh_R S, zh_N S, zh_A S, zh_Q S, zh_J S)
def zh_sR (S : zS) (j a : Nat) (v : Option Nat) : zS := (zh_L S, zh_K S, zh_I S, zh_u (zh_R S) j a v, zh_N S, zh_A S, zh_Q S, zh_J S)
def zh_sA (S : zS) (a : Nat) (f : Nat → Int32) : zS := (zh_L S, zh_K S, zh_I S, zh_R S, zh_N S, va_up (zh_A S) a f, zh_Q S, zh_J S)
def zh_sQ (S : zS) (a : Nat) (f : Nat → Option Nat) : zS := (zh_L S, zh_K S, zh_I S, zh_R S, zh_N S, zh_A S, va_up (zh_Q S) a f, zh_J S)
def zh_sJ (S : zS) (a : Nat) (f : Nat → Int64) : zS := (zh_L S, zh_K S, zh_I S, zh_R S, zh_N S, zh_A S, zh_Q S, va_up (zh_J S) a f)
/-- a new object of a kind: fields 0 and null -/
def zh_nO (S : zS) (q k : Nat) : zS := (zh_L S ++ [q], va_up (zh_K S) q k, (fun j a => if a = q then 0 else zh_I S j a), (fun j a => if a = q then none else zh_R S j a), zh_N S, zh_A S, zh_Q S, zh_J S)
/-- a new array of a kind -/
def zh_nA (S : zS) (q k n : Nat) : zS := (zh_L S ++ [q], va_up (zh_K S) q k, zh_I S, zh_R S, va_up (zh_N S) q n, va_up (zh_A S) q (fun _ => 0), va_up (zh_Q S) q (fun _ => none), va_up (zh_J S) q (fun _ => 0))
def zh_at (S : zS) (k a : Nat) : Prop := a ∈ zh_L S ∧ zh_K S a = k
/-- what is fixed for a run: the first address of the law's own cells, the empty list's shared array, the classes, the array classes -/
abbrev zG : Type := Nat × Nat × va_G × (Nat → ClassId)
def zh_e (g : zG) (S : zS) (a : Nat) (k : Nat) : va_E := match k with
  | 0 => .inr (1, [.int (zh_I S 0 a), .int (zh_I S 1 a)])
  | 1 => .inr (2, [.int (zh_I S 2 a), .int (zh_I S 3 a), .int (zh_I S 4 a), .int (zh_I S 5 a), .int (zh_I S 6 a), .int (zh_I S 7 a), .int (zh_I S 8 a), .int (zh_I S 9 a)])
  | 2 => .inr (3, [.int (zh_I S 10 a), va_rf (zh_R S 0 a), .int (zh_I S 11 a), .int (zh_I S 12 a)])
  | 3 => .inr (4, [va_rf (zh_R S 1 a), va_rf (zh_R S 2 a), va_rf (zh_R S 3 a), va_rf (zh_R S 4 a)])
  | 4 => .inr (5, [.int (zh_I S 20 a), .int (zh_I S 21 a), va_rf (zh_R S 10 a), va_rf (zh_R S 11 a), va_rf (zh_R S 12 a), va_rf (zh_R S 13 a), va_rf (zh_R S 14 a), .int (zh_I S 22 a), va_rf (zh_R S 15 a), va_rf (zh_R S 16 a), va_rf (zh_R S 17 a), va_rf (zh_R S 18 a), va_rf (zh_R S 19 a), va_rf (zh_R S 20 a), va_rf (zh_R S 21 a), va_rf (zh_R S 22 a), .int (zh_I S 23 a), .int (zh_I S 24 a)])
  | 5 => .inr (0, [.int (zh_I S 30 a), va_rf (zh_R S 30 a), .int (zh_I S 31 a)])
  | 6 => .inl (g.2.2.2 0, zh_N S a, .inl (zh_A S a))
  | 7 => .inl (g.2.2.2 1, zh_N S a, .inl (zh_A S a))
  | 8 => .inl (g.2.2.2 2, zh_N S a, .inr (.inr (.inr (.inr (zh_Q S a)))))
  | _ => .inl (g.2.2.2 3, zh_N S a, .inr (.inl (zh_J S a)))
def zh_w (g : zG) (S : zS) : va_W := va_pl (zh_L S) (fun a => zh_e g S a (zh_K S a))
def zh_T (g : zG) : List (ClassId × FieldType) := [(g.2.2.2 0, .int), (g.2.2.2 0, .int), (g.2.2.2 2, .object "java/lang/Object"), (g.2.2.2 0, .int)]
-- the components of the setters
section ZC
variable (S : zS) (j a q k n : Nat) (v : Int32) (r : Option Nat) (f : Nat → Int32) (fq : Nat → Option Nat) (fj : Nat → Int64)
theorem zh_I_sI : zh_I (zh_sI S j a v) = zh_u (zh_I S) j a v := rfl
theorem zh_I_sR : zh_I (zh_sR S j a r) = zh_I S := rfl
theorem zh_I_sA : zh_I (zh_sA S a f) = zh_I S := rfl
theorem zh_I_sQ : zh_I (zh_sQ S a fq) = zh_I S := rfl
theorem zh_I_sJ : zh_I (zh_sJ S a fj) = zh_I S := rfl
theorem zh_I_nA : zh_I (zh_nA S q k n) = zh_I S := rfl
theorem zh_R_sI : zh_R (zh_sI S j a v) = zh_R S := rfl
theorem zh_R_sR : zh_R (zh_sR S j a r) = zh_u (zh_R S) j a r := rfl
theorem zh_R_sA : zh_R (zh_sA S a f) = zh_R S := rfl
theorem zh_R_sQ : zh_R (zh_sQ S a fq) = zh_R S := rfl
theorem zh_R_sJ : zh_R (zh_sJ S a fj) = zh_R S := rfl
theorem zh_R_nA : zh_R (zh_nA S q k n) = zh_R S := rfl
theorem zh_A_sI : zh_A (zh_sI S j a v) = zh_A S := rfl
theorem zh_A_sR : zh_A (zh_sR S j a r) = zh_A S := rfl
theorem zh_A_sA : zh_A (zh_sA S a f) = va_up (zh_A S) a f := rfl
theorem zh_A_sQ : zh_A (zh_sQ S a fq) = zh_A S := rfl
theorem zh_A_sJ : zh_A (zh_sJ S a fj) = zh_A S := rfl
theorem zh_A_nO : zh_A (zh_nO S q k) = zh_A S := rfl
theorem zh_Q_sI : zh_Q (zh_sI S j a v) = zh_Q S := rfl
theorem zh_Q_sR : zh_Q (zh_sR S j a r) = zh_Q S := rfl
theorem zh_Q_sA : zh_Q (zh_sA S a f) = zh_Q S := rfl
theorem zh_Q_sQ : zh_Q (zh_sQ S a fq) = va_up (zh_Q S) a fq := rfl
theorem zh_Q_sJ : zh_Q (zh_sJ S a fj) = zh_Q S := rfl
theorem zh_Q_nO : zh_Q (zh_nO S q k) = zh_Q S := rfl
theorem zh_J_sI : zh_J (zh_sI S j a v) = zh_J S := rfl
theorem zh_J_sR : zh_J (zh_sR S j a r) = zh_J S := rfl
theorem zh_J_sA : zh_J (zh_sA S a f) = zh_J S := rfl
theorem zh_J_sQ : zh_J (zh_sQ S a fq) = zh_J S := rfl
theorem zh_J_sJ : zh_J (zh_sJ S a fj) = va_up (zh_J S) a fj := rfl
theorem zh_J_nO : zh_J (zh_nO S q k) = zh_J S := rfl
theorem zh_N_sI : zh_N (zh_sI S j a v) = zh_N S := rfl
theorem zh_N_sR : zh_N (zh_sR S j a r) = zh_N S := rfl
theorem zh_N_sA : zh_N (zh_sA S a f) = zh_N S := rfl
theorem zh_N_sQ : zh_N (zh_sQ S a fq) = zh_N S := rfl
theorem zh_N_sJ : zh_N (zh_sJ S a fj) = zh_N S := rfl
theorem zh_N_nO : zh_N (zh_nO S q k) = zh_N S := rfl
theorem zh_K_sI : zh_K (zh_sI S j a v) = zh_K S := rfl
theorem zh_K_sR : zh_K (zh_sR S j a r) = zh_K S := rfl
theorem zh_K_sA : zh_K (zh_sA S a f) = zh_K S := rfl
theorem zh_K_sQ : zh_K (zh_sQ S a fq) = zh_K S := rfl
theorem zh_K_sJ : zh_K (zh_sJ S a fj) = zh_K S := rfl
theorem zh_L_sI : zh_L (zh_sI S j a v) = zh_L S := rfl
theorem zh_L_sR : zh_L (zh_sR S j a r) = zh_L S := rfl
theorem zh_L_sA : zh_L (zh_sA S a f) = zh_L S := rfl
theorem zh_L_sQ : zh_L (zh_sQ S a fq) = zh_L S := rfl
theorem zh_L_sJ : zh_L (zh_sJ S a fj) = zh_L S := rfl
end ZC
theorem zh_u_s {α : Type} (f : Nat → Nat → α) (j a : Nat) (v : α) : zh_u f j a v j a = v := by simp [zh_u]
theorem zh_u_j {α : Type} (f : Nat → Nat → α) {j j' : Nat} (a a' : Nat) (v : α) (h : j' ≠ j) : zh_u f j a v j' a' = f j' a' := by simp [zh_u, h]
theorem zh_u_a {α : Type} (f : Nat → Nat → α) (j j' : Nat) {a a' : Nat} (v : α) (h : a' ≠ a) : zh_u f j a v j' a' = f j' a' := by simp [zh_u, h]
theorem zh_at_nO {S : zS} {k a : Nat} (h : zh_at S k a) {q k2 : Nat} (hq : q ∉ zh_L S) : zh_at (zh_nO S q k2) k a := by
  have hne : a ≠ q := fun e => hq (e ▸ h.1)
  exact ⟨List.mem_append_left _ h.1, by show va_up (zh_K S) q k2 a = k; rw [va_up_ne _ _ hne]; exact h.2⟩
theorem zh_at_nA {S : zS} {k a : Nat} (h : zh_at S k a) {q k2 n : Nat} (hq : q ∉ zh_L S) : zh_at (zh_nA S q k2 n) k a := by
  have hne : a ≠ q := fun e => hq (e ▸ h.1)
  exact ⟨List.mem_append_left _ h.1, by show va_up (zh_K S) q k2 a = k; rw [va_up_ne _ _ hne]; exact h.2⟩
theorem zh_at_new {S : zS} {q k : Nat} : zh_at (zh_nO S q k) k q := ⟨List.mem_append_right _ (List.mem_singleton.mpr rfl), by show va_up (zh_K S) q k q = k; rw [va_up_self]⟩
theorem zh_at_newA {S : zS} {q k n : Nat} : zh_at (zh_nA S q k n) k q := ⟨List.mem_append_right _ (List.mem_singleton.mpr rfl), by show va_up (zh_K S) q k q = k; rw [va_up_self]⟩
theorem zh_at_ne {S : zS} {k k' a b : Nat} (ha : zh_at S k a) (hb : zh_at S k' b) (h : k ≠ k') : a ≠ b := fun e => h (by rw [← ha.2, e, hb.2])
-- a cell that isn't written keeps its content
theorem zh_e_sI (g : zG) (S : zS) {j a b : Nat} (v : Int32) (h : b ≠ a) (k : Nat) : zh_e g (zh_sI S j a v) b k = zh_e g S b k := by
  unfold zh_e; split <;> simp only [zh_I_sI, zh_R_sI, zh_A_sI, zh_Q_sI, zh_J_sI, zh_N_sI, zh_u_a _ _ _ _ h]
theorem zh_e_sR (g : zG) (S : zS) {j a b : Nat} (v : Option Nat) (h : b ≠ a) (k : Nat) : zh_e g (zh_sR S j a v) b k = zh_e g S b k := by
  unfold zh_e; split <;> simp only [zh_I_sR, zh_R_sR, zh_A_sR, zh_Q_sR, zh_J_sR, zh_N_sR, zh_u_a _ _ _ _ h]
theorem zh_e_sA (g : zG) (S : zS) {a b : Nat} (f : Nat → Int32) (h : b ≠ a) (k : Nat) : zh_e g (zh_sA S a f) b k = zh_e g S b k := by
  unfold zh_e; split <;> simp only [zh_I_sA, zh_R_sA, zh_A_sA, zh_Q_sA, zh_J_sA, zh_N_sA, va_up_ne _ _ h]
theorem zh_e_sQ (g : zG) (S : zS) {a b : Nat} (f : Nat → Option Nat) (h : b ≠ a) (k : Nat) : zh_e g (zh_sQ S a f) b k = zh_e g S b k := by
  unfold zh_e; split <;> simp only [zh_I_sQ, zh_R_sQ, zh_A_sQ, zh_Q_sQ, zh_J_sQ, zh_N_sQ, va_up_ne _ _ h]
theorem zh_e_sJ (g : zG) (S : zS) {a b : Nat} (f : Nat → Int64) (h : b ≠ a) (k : Nat) : zh_e g (zh_sJ S a f) b k = zh_e g S b k := by
  unfold zh_e; split <;> simp only [zh_I_sJ, zh_R_sJ, zh_A_sJ, zh_Q_sJ, zh_J_sJ, zh_N_sJ, va_up_ne _ _ h]
theorem zh_e_nO (g : zG) (S : zS) {q b : Nat} (kq : Nat) (h : b ≠ q) (k : Nat) : zh_e g (zh_nO S q kq) b k = zh_e g S b k := by
  have hI : ∀ j, zh_I (zh_nO S q kq) j b = zh_I S j b := fun j => if_neg h
  have hR : ∀ j, zh_R (zh_nO S q kq) j b = zh_R S j b := fun j => if_neg h
  unfold zh_e; split <;> simp only [hI, hR, zh_A_nO, zh_Q_nO, zh_J_nO, zh_N_nO]
theorem zh_e_nA (g : zG) (S : zS) {q b : Nat} (kq n : Nat) (h : b ≠ q) (k : Nat) : zh_e g (zh_nA S q kq n) b k = zh_e g S b k := by
  have hA : zh_A (zh_nA S q kq n) b = zh_A S b := va_up_ne _ _ h
  have hQ : zh_Q (zh_nA S q kq n) b = zh_Q S b := va_up_ne _ _ h
  have hJ : zh_J (zh_nA S q kq n) b = zh_J S b := va_up_ne _ _ h
  have hN : zh_N (zh_nA S q kq n) b = zh_N S b := va_up_ne _ _ h
  unfold zh_e; split <;> simp only [zh_I_nA, zh_R_nA, hA, hQ, hJ, hN]
theorem zh_get {g : zG} {S : zS} {kd a : Nat} (X : va_W) (h : zh_at S kd a) : ∃ k : Nat, (X ++ zh_w g S)[k]? = some (a, zh_e g S a kd) := by
  obtain ⟨k, hk⟩ := va_pl_get (X := X) (f := fun a => zh_e g S a (zh_K S a)) h.1
  exact ⟨k, by rw [← h.2]; exact hk⟩
/-- a write of one cell: the world's list behind it is the world of the new components -/
theorem zh_set {g : zG} {S S' : zS} {kd a k : Nat} {A : Nat → Prop} {X : va_W} {e0 : va_E} (hD : va_D A (X ++ zh_w g S)) (h : zh_at S kd a) (hk : (X ++ zh_w g S)[k]? = some (a, zh_e g S a kd)) (hL : zh_L S' = zh_L S) (hK : zh_K S' = zh_K S) (he : zh_e g S' a kd = e0) (ho : ∀ b, b ≠ a → ∀ k, zh_e g S' b k = zh_e g S b k) :
    (X ++ zh_w g S).set k (a, e0) = X ++ zh_w g S' := by
  have hk' : (X ++ va_pl (zh_L S) (fun a => zh_e g S a (zh_K S a)))[k]? = some (a, zh_e g S a (zh_K S a)) := by rw [h.2]; exact hk
  refine (va_pl_set (f := fun a => zh_e g S a (zh_K S a)) hD h.1 hk').trans ?_
  show X ++ va_pl (zh_L S) _ = X ++ va_pl (zh_L S') _
  rw [hL]
  refine congrArg (fun l => X ++ l) (va_pl_congr fun b => ?_)
  by_cases hb : b = a
  · subst hb
    rw [va_up_self, hK, h.2, he]
  · rw [va_up_ne _ _ hb, hK, ho b hb]
theorem zh_push {g : zG} {S S' : zS} {q kq : Nat} {X : va_W} {e0 : va_E} (hq : q ∉ zh_L S) (hL : zh_L S' = zh_L S ++ [q]) (hK : zh_K S' = va_up (zh_K S) q kq) (he : zh_e g S' q kq = e0) (ho : ∀ b, b ≠ q → ∀ k, zh_e g S' b k = zh_e g S b k) :
    (X ++ zh_w g S) ++ [(q, e0)] = X ++ zh_w g S' := by
  rw [List.append_assoc]
  refine congrArg (fun l => X ++ l) ?_
  show va_pl (zh_L S) (fun a => zh_e g S a (zh_K S a)) ++ [(q, e0)] = va_pl (zh_L S') _
  rw [va_pl_push hq, hL]
  refine va_pl_congr fun b => ?_
  by_cases hb : b = q
  · subst hb
    rw [va_up_self, hK, va_up_self, he]
  · rw [va_up_ne _ _ hb, hK, va_up_ne _ _ hb, ho b hb]
