/-! THE LAW'S ARRAYS: ar 0 the numbers q, 1 the seeds and states d, 2 .. 7 the entries' a p f v r u -/
def zLen (i : Nat) : Nat := if i = 0 then 11 else if i = 1 then 12 else 30
/-- the arrays stand in M, with the contents C -/
def LG (M : zS) (ar : Nat → Nat) (C : Nat → Nat → Int32) : Prop := (∀ i : Nat, i < 8 → zh_at M 6 (ar i) ∧ zh_N M (ar i) = zLen i) ∧ (∀ i j : Nat, i < 8 → j < 8 → ar i = ar j → i = j) ∧ (∀ i k : Nat, i < 8 → k < zLen i → zh_A M (ar i) k = C i k)
theorem zLen_lt (i : Nat) : zLen i < 2 ^ 31 := by unfold zLen; split <;> (try split) <;> omega
theorem LG.at {M : zS} {ar : Nat → Nat} {C : Nat → Nat → Int32} (h : LG M ar C) {i : Nat} (hi : i < 8) : zh_at M 6 (ar i) := (h.1 i hi).1
theorem LG.inn {M : zS} {ar : Nat → Nat} {C : Nat → Nat → Int32} (h : LG M ar C) {i k : Nat} (hi : i < 8) (hk : k < zLen i) : vp_in (nI k) (zh_N M (ar i)) := by
  rw [(h.1 i hi).2]; exact vp_in_nI hk (zLen_lt i)
theorem LG.rd {M : zS} {ar : Nat → Nat} {C : Nat → Nat → Int32} (h : LG M ar C) {i k : Nat} {v : Int32} (hi : i < 8) (hk : k < zLen i) (e : C i k = v) : zh_A M (ar i) (nI k).toNatClampNeg = v := by
  rw [nI_clamp (Nat.lt_trans hk (zLen_lt i))]; exact (h.2.2 i k hi hk).trans e
def zaw (M : zS) (ar : Nat → Nat) (i k : Nat) (v : Int32) : zS := zh_sA M (ar i) (upd (zh_A M (ar i)) (nI k).toNatClampNeg v)
theorem LG.wr {M : zS} {ar : Nat → Nat} {C : Nat → Nat → Int32} (h : LG M ar C) {i k : Nat} (v : Int32) (hi : i < 8) (hk : k < zLen i) : LG (zaw M ar i k v) ar (zh_u C i k v) := by
  refine ⟨fun j hj => h.1 j hj, h.2.1, fun j n hj hn => ?_⟩
  show va_up (zh_A M) (ar i) (upd (zh_A M (ar i)) (nI k).toNatClampNeg v) (ar j) n = zh_u C i k v j n
  rw [nI_clamp (Nat.lt_trans hk (zLen_lt i))]
  by_cases e : j = i
  · subst e
    rw [va_up_self]
    by_cases d : n = k
    · subst d; rw [zh_u_s]; exact if_pos rfl
    · rw [zh_u_a _ _ _ _ d]; exact (if_neg d).trans (h.2.2 j n hj hn)
  · rw [va_up_ne _ _ (fun e9 => e (h.2.1 j i hj hi e9)), zh_u_j _ _ _ _ e]; exact h.2.2 j n hj hn
/-- two contents that differ at q[9] and q[10] at most -/
def zQE (C C' : Nat → Nat → Int32) : Prop := ∀ i k : Nat, ¬ (i = 0 ∧ (k = 9 ∨ k = 10)) → C' i k = C i k
theorem zQE_rf (C : Nat → Nat → Int32) : zQE C C := fun _ _ _ => rfl
theorem zQE_tr {C C' C'' : Nat → Nat → Int32} (h : zQE C C') (h' : zQE C' C'') : zQE C C'' := fun i k e => (h' i k e).trans (h i k e)
theorem zQE_w {C C' : Nat → Nat → Int32} (h : zQE C C') {k : Nat} (v : Int32) (hk : k = 9 ∨ k = 10) : zQE C (zh_u C' 0 k v) := fun i j e => by
  by_cases c : i = 0 ∧ j = k
  · exact absurd ⟨c.1, by rw [c.2]; exact hk⟩ e
  · rw [show zh_u C' 0 k v i j = C' i j from if_neg c]; exact h i j e
/-- the contents tell the state T -/
def LC (C : Nat → Nat → Int32) (T : zT) : Prop := (T.1.1 ≤ 6 ∧ T.1.2 ≤ 30) ∧ (C 0 0 = nI T.1.1 ∧ C 0 1 = nI T.1.2) ∧ (zbt (C 0 2) (T.2 2) ∧ zbt (C 0 3) (T.2 3) ∧ zbt (C 0 4) (T.2 12)) ∧ (∀ t : Nat, t < 4 → C 0 (5 + t) = nI (T.2 4 t)) ∧ (∀ k : Nat, k < T.1.1 → C 1 k = nI (T.2 0 k) ∧ C 1 (6 + k) = nI (T.2 1 k)) ∧
  (∀ k : Nat, k < T.1.2 → C 2 k = nI (4 * T.2 5 k + T.2 6 k) ∧ C 3 k = nI (T.2 7 k) ∧ C 4 k = nI (T.2 8 k) ∧ C 5 k = nI (T.2 9 k) ∧ C 6 k = nI (T.2 10 k) ∧ C 7 k = nI (T.2 11 k))
theorem LC.q {C C' : Nat → Nat → Int32} {T : zT} (h : LC C T) (e : zQE C C') : LC C' T := by
  obtain ⟨h0, ⟨h1, h2⟩, ⟨h3, h4, h5⟩, h6, h7, h8⟩ := h
  refine ⟨h0, ⟨(e 0 0 (by omega)).trans h1, (e 0 1 (by omega)).trans h2⟩, ⟨?_, ?_, ?_⟩, fun t ht => (e 0 (5 + t) (by omega)).trans (h6 t ht), fun k hk => ⟨(e 1 k (by omega)).trans (h7 k hk).1, (e 1 (6 + k) (by omega)).trans (h7 k hk).2⟩, fun k hk => ?_⟩
  · rw [e 0 2 (by omega)]; exact h3
  · rw [e 0 3 (by omega)]; exact h4
  · rw [e 0 4 (by omega)]; exact h5
  · obtain ⟨k1, k2, k3, k4, k5, k6⟩ := h8 k hk
    exact ⟨(e 2 k (by omega)).trans k1, (e 3 k (by omega)).trans k2, (e 4 k (by omega)).trans k3, (e 5 k (by omega)).trans k4, (e 6 k (by omega)).trans k5, (e 7 k (by omega)).trans k6⟩
def LR (M : zS) (ar : Nat → Nat) (T : zT) : Prop := ∃ C : Nat → Nat → Int32, LG M ar C ∧ LC C T
/-! two worlds as one -/
def zh_U (S M : zS) : zS := (zh_L M ++ zh_L S, (fun a => if a ∈ zh_L M then zh_K M a else zh_K S a), (fun j a => if a ∈ zh_L M then zh_I M j a else zh_I S j a), (fun j a => if a ∈ zh_L M then zh_R M j a else zh_R S j a), (fun a => if a ∈ zh_L M then zh_N M a else zh_N S a), (fun a => if a ∈ zh_L M then zh_A M a else zh_A S a), (fun a => if a ∈ zh_L M then zh_Q M a else zh_Q S a), (fun a => if a ∈ zh_L M then zh_J M a else zh_J S a))
theorem zh_e_ext (g : zG) {S S' : zS} {a : Nat} (hI : ∀ j, zh_I S' j a = zh_I S j a) (hR : ∀ j, zh_R S' j a = zh_R S j a) (hN : zh_N S' a = zh_N S a) (hA : zh_A S' a = zh_A S a) (hQ : zh_Q S' a = zh_Q S a) (hJ : zh_J S' a = zh_J S a) (k : Nat) : zh_e g S' a k = zh_e g S a k := by
  unfold zh_e; split <;> simp only [hI, hR, hA, hQ, hJ, hN]
theorem zh_U_w (g : zG) {S M : zS} (hd : ∀ a, a ∈ zh_L S → a ∉ zh_L M) : zh_w g (zh_U S M) = zh_w g M ++ zh_w g S := by
  show (zh_L M ++ zh_L S).map _ = (zh_L M).map _ ++ (zh_L S).map _
  rw [List.map_append]
  congr 1
  · refine List.map_congr_left (fun a ha => ?_)
    have hK : zh_K (zh_U S M) a = zh_K M a := if_pos ha
    show (a, zh_e g (zh_U S M) a (zh_K (zh_U S M) a)) = (a, zh_e g M a (zh_K M a))
    rw [hK, zh_e_ext g (S := M) (S' := zh_U S M) (a := a) (fun j => if_pos ha) (fun j => if_pos ha) (if_pos ha) (if_pos ha) (if_pos ha) (if_pos ha)]
  · refine List.map_congr_left (fun a ha => ?_)
    have hn := hd a ha
    have hK : zh_K (zh_U S M) a = zh_K S a := if_neg hn
    show (a, zh_e g (zh_U S M) a (zh_K (zh_U S M) a)) = (a, zh_e g S a (zh_K S a))
    rw [hK, zh_e_ext g (S := S) (S' := zh_U S M) (a := a) (fun j => if_neg hn) (fun j => if_neg hn) (if_neg hn) (if_neg hn) (if_neg hn) (if_neg hn)]
abbrev zdis (S M : zS) : Prop := ∀ a, a ∈ zh_L S → a ∉ zh_L M
theorem zh_V.dis {g : zG} {A : Nat → Prop} {s : State} {S M : zS} {H : Heap} {locs : List Loc} (I : zh_V g A s (zh_w g M) S H locs) : zdis S M := fun a h1 h2 => by
  have hD := I.D
  obtain ⟨n, hn⟩ := List.getElem?_of_mem h1
  obtain ⟨m, hm⟩ := List.getElem?_of_mem h2
  have e1 : (zh_w g M ++ zh_w g S)[(zh_w g M).length + n]? = some (a, zh_e g S a (zh_K S a)) := by
    rw [List.getElem?_append_right (Nat.le_add_right _ _), Nat.add_sub_cancel_left]
    show ((zh_L S).map _)[n]? = _
    rw [List.getElem?_map, hn]; rfl
  have hml : m < (zh_w g M).length := by
    show m < ((zh_L M).map _).length
    rw [List.length_map]; exact (List.getElem?_eq_some_iff.mp hm).1
  have e2 : (zh_w g M ++ zh_w g S)[m]? = some (a, zh_e g M a (zh_K M a)) := by
    rw [List.getElem?_append_left hml]
    show ((zh_L M).map _)[m]? = _
    rw [List.getElem?_map, hm]; rfl
  have := hD.1 _ _ _ _ e1 e2 rfl
  omega
theorem zh_V.join {g : zG} {A : Nat → Prop} {s : State} {S M : zS} {H : Heap} {locs : List Loc} (I : zh_V g A s (zh_w g M) S H locs) : zh_V g A s [] (zh_U S M) H locs := by
  have e : [] ++ zh_w g (zh_U S M) = zh_w g M ++ zh_w g S := zh_U_w g I.dis
  exact ⟨I.1, e.symm ▸ I.2.1, e.symm ▸ I.2.2.1, I.2.2.2⟩
theorem zh_V.part {g : zG} {A : Nat → Prop} {s : State} {S M : zS} {H : Heap} {locs : List Loc} (hd : zdis S M) (I : zh_V g A s [] (zh_U S M) H locs) : zh_V g A s (zh_w g M) S H locs := by
  have e : [] ++ zh_w g (zh_U S M) = zh_w g M ++ zh_w g S := zh_U_w g hd
  exact ⟨I.1, e ▸ I.2.1, e ▸ I.2.2.1, I.2.2.2⟩
