/-! the forge grows: promise, roll, its making -/
theorem zn_out {g : zG} {A : Nat → Prop} {s : State} {X : va_W} {S : zS} {H : Heap} {locs : List Loc} (I : zh_V g A s X S H locs) : g.2.1 ∉ zh_L S := fun h => by
  obtain ⟨k, hk⟩ := va_pl_get (X := X) (f := fun a => zh_e g S a (zh_K S a)) h
  have h1 := I.lo _ (I.D.2 k _ hk)
  have h2 := I.O.2.2.2.2.2.2.2.2.2
  exact Nat.not_lt.mpr h1 h2
/-- a list behind add -/
theorem FL_add {g : zG} {S S' : zS} {pl n ar kd q : Nat} {el : Nat → Nat} (h : FL g S pl n ar kd el) (hA : zl_add S S' pl ar n q) (hq : zh_at S kd q) : ∃ ar' : Nat, FL g S' pl (n + 1) ar' kd (va_up el n q) ∧ (ar' = ar ∨ ar' ∉ zh_L S) ∧ zh_at S' 8 ar' := by
  obtain ⟨h1, h2, h3, h4, h5⟩ := h
  obtain ⟨a1, a2, a3, a4, ar', b1, b2, b3, b4, b5, b6, b7, b8⟩ := hA
  refine ⟨ar', ⟨⟨(a1 _ h1.1).1, (a1 _ h1.1).2.1.trans h1.2⟩, a4, b1, Or.inr ⟨b2, b3, b4, b5⟩, fun i hi => ?_⟩, b8, b2⟩
  by_cases e : i = n
  · subst e
    rw [va_up_self]
    exact ⟨b7, (a1 _ hq.1).1, (a1 _ hq.1).2.1.trans hq.2⟩
  · rw [va_up_ne _ _ e, b6 i (by omega)]
    have h6 := h5 i (by omega)
    exact ⟨h6.1, (a1 _ h6.2.1).1, (a1 _ h6.2.1).2.1.trans h6.2.2⟩
/-- another list -/
theorem FL_keep {g : zG} {S S' : zS} {pl n ar kd q lo ne la : Nat} {el : Nat → Nat} (h : FL g S lo ne la kd el) (hA : zl_add S S' pl ar n q) (hne : lo ≠ pl) (hla : zh_at S 8 la → la ≠ ar) : FL g S' lo ne la kd el := by
  obtain ⟨h1, h2, h3, h4, h5⟩ := h
  obtain ⟨a1, a2, a3, a4, -⟩ := hA
  refine ⟨⟨(a1 _ h1.1).1, (a1 _ h1.1).2.1.trans h1.2⟩, (a2 31 lo (by decide) (Or.inr hne)).trans h2, (a3 30 lo (Or.inr hne)).trans h3, ?_, fun i hi => ?_⟩
  · rcases h4 with h4 | ⟨h4, h6⟩
    · exact Or.inl h4
    · refine Or.inr ⟨⟨(a1 _ h4.1).1, (a1 _ h4.1).2.1.trans h4.2⟩, ?_⟩
      rw [(a1 _ h4.1).2.2.1]; exact h6
  · rcases h4 with ⟨h4, -⟩ | ⟨h4, h6⟩
    · omega
    · have h7 := h5 i hi
      rw [(a1 _ h4.1).2.2.2.2.2 (hla h4)]
      exact ⟨h7.1, (a1 _ h7.2.1).1, (a1 _ h7.2.1).2.1.trans h7.2.2⟩
theorem zl_k {S S' : zS} {pl ar n q : Nat} (hA : zl_add S S' pl ar n q) : zk_ S S' := fun a ha => ⟨(hA.1 a ha).1, (hA.1 a ha).2.1, (hA.1 a ha).2.2.1, (hA.1 a ha).2.2.2.2.1⟩
def zs_promised (T : zT) (sd : Nat) : zT := ((T.1.1 + 1, T.1.2), zh_u (zh_u T.2 0 T.1.1 sd) 1 T.1.1 sd)
/-- one promise more -/
theorem FR_addP {g : zG} {S S' : zS} {T : zT} {x pl lo pt ty pa la : Nat} {ap ad ae : Nat → Nat} {q d sd : Nat} (hF : FR g S T x pl lo pt ty pa la ap ad ae) (hA : zl_add S S' pl pa T.1.1 q) (hq : zh_at S 2 q) (hd : zh_at S 0 d) (e1 : zh_R S 0 q = some d) (e2 : zh_I S 10 q = nI sd) (e3 : zh_I S 0 d = nI sd) (e4 : zh_I S 11 q = 0) (e5 : zh_I S 12 q = 0) (nq : ∀ k : Nat, k < T.1.1 → ap k ≠ q) (nd : ∀ k : Nat, k < T.1.1 → ad k ≠ d) (hg : g.2.1 ∉ zh_L S') (hT : zt_ok T) : FE g S' (zs_promised T sd) x := by
  obtain ⟨⟨f1, f2, f3, f4, f5⟩, ⟨f6, f7, f8, f9, f10⟩, f11, f12, f13, f14, f15, f16, f17, f18, f19⟩ := hF
  have hat : ∀ k a : Nat, zh_at S k a → zh_at S' k a := fun k a h => ⟨(hA.1 _ h.1).1, (hA.1 _ h.1).2.1.trans h.2⟩
  have hI : ∀ j a : Nat, j ≠ 30 → j ≠ 31 → zh_I S' j a = zh_I S j a := fun j a h h2 => hA.2.1 j a h (Or.inl h2)
  have hR : ∀ j a : Nat, j ≠ 30 → zh_R S' j a = zh_R S j a := fun j a h => hA.2.2.1 j a (Or.inl h)
  obtain ⟨pa', hL, hpa, hpa8⟩ := FL_add f11 hA hq
  refine ⟨pl, lo, pt, ty, pa', la, va_up ap T.1.1 q, va_up ad T.1.1 d, ae, ⟨hat _ _ f1, (hR 1 x (by decide)).trans f2, (hR 2 x (by decide)).trans f3, (hR 3 x (by decide)).trans f4, (hR 4 x (by decide)).trans f5⟩, ⟨hat _ _ f6, (hA.1 _ f6.1).2.2.1.trans f7, hat _ _ f8, (hA.1 _ f8.1).2.2.1.trans f9, fun t ht => ?_⟩, hL, ?_, f13, fun _ e => ?_, fun k hk => ?_, fun k hk j hj => ?_, fun i j hi hj e => ?_, fun i j hi hj e => ?_, f19⟩
  · rw [(hA.1 _ f6.1).2.2.2.1, f10 t ht]
    show _ = nI (zh_u (zh_u T.2 0 T.1.1 sd) 1 T.1.1 sd 4 t)
    rw [zh_u_j _ _ _ _ (by decide), zh_u_j _ _ _ _ (by decide)]
  · exact FL_keep f12 hA (Ne.symm f13) (fun h e => f14 (by rw [← e]; exact h) e.symm)
  · rcases hpa with hpa | hpa
    · rcases f11.2.2.2.1 with ⟨-, h⟩ | ⟨h, -⟩
      · exact hg (by rw [← h, ← hpa]; exact hpa8.1)
      · exact f14 h (hpa.symm.trans e)
    · rcases f12.2.2.2.1 with ⟨-, h⟩ | ⟨h, -⟩
      · exact hg (by rw [← h, ← e]; exact hpa8.1)
      · exact hpa (by rw [e]; exact h.1)
  · have hk : k < T.1.1 + 1 := hk
    show zh_R S' 0 (va_up ap T.1.1 q k) = some (va_up ad T.1.1 d k) ∧ zh_at S' 0 (va_up ad T.1.1 d k) ∧ zh_I S' 10 (va_up ap T.1.1 q k) = nI (zh_u (zh_u T.2 0 T.1.1 sd) 1 T.1.1 sd 0 k) ∧ zh_I S' 0 (va_up ad T.1.1 d k) = nI (zh_u (zh_u T.2 0 T.1.1 sd) 1 T.1.1 sd 1 k) ∧ zh_I S' 11 (va_up ap T.1.1 q k) = nI (zh_u (zh_u T.2 0 T.1.1 sd) 1 T.1.1 sd 2 k) ∧ zh_I S' 12 (va_up ap T.1.1 q k) = nI (zh_u (zh_u T.2 0 T.1.1 sd) 1 T.1.1 sd 3 k)
    rw [hR _ _ (by decide), hI _ _ (by decide) (by decide), hI _ _ (by decide) (by decide), hI _ _ (by decide) (by decide), hI _ _ (by decide) (by decide), zh_u_j (zh_u T.2 0 T.1.1 sd) _ _ _ (show 0 ≠ 1 by decide), zh_u_j (zh_u T.2 0 T.1.1 sd) _ _ _ (show 2 ≠ 1 by decide), zh_u_j (zh_u T.2 0 T.1.1 sd) _ _ _ (show 3 ≠ 1 by decide), zh_u_j T.2 _ _ _ (show 2 ≠ 0 by decide), zh_u_j T.2 _ _ _ (show 3 ≠ 0 by decide)]
    by_cases e : k = T.1.1
    · rw [e, va_up_self, va_up_self, zh_u_s, zh_u_s]
      have h6 := hT.2.2.2.2.2.1 T.1.1 (Nat.le_refl _)
      rw [h6.1, h6.2]
      exact ⟨e1, hat _ _ hd, e2, e3, e4, e5⟩
    · rw [va_up_ne _ _ e, va_up_ne _ _ e, zh_u_a _ _ _ _ e, zh_u_a _ _ _ _ e, zh_u_j _ _ _ _ (show 1 ≠ 0 by decide)]
      have h6 := f15 k (by omega)
      exact ⟨h6.1, hat _ _ h6.2.1, h6.2.2⟩
  · show zh_I S' (2 + j) (ae k) = nI (zh_u (zh_u T.2 0 T.1.1 sd) 1 T.1.1 sd (5 + j) k)
    rw [hI _ _ (by omega) (by omega), zh_u_j _ _ _ _ (by omega), zh_u_j _ _ _ _ (by omega)]
    exact f16 k hk j hj
  · have hi : i < T.1.1 + 1 := hi
    have hj : j < T.1.1 + 1 := hj
    by_cases ei : i = T.1.1
    · by_cases ej : j = T.1.1
      · omega
      · rw [ei, va_up_self, va_up_ne _ _ ej] at e
        exact absurd e.symm (nq j (by omega))
    · by_cases ej : j = T.1.1
      · rw [ej, va_up_self, va_up_ne _ _ ei] at e
        exact absurd e (nq i (by omega))
      · rw [va_up_ne _ _ ei, va_up_ne _ _ ej] at e
        exact f17 i j (by omega) (by omega) e
  · have hi : i < T.1.1 + 1 := hi
    have hj : j < T.1.1 + 1 := hj
    by_cases ei : i = T.1.1
    · by_cases ej : j = T.1.1
      · omega
      · rw [ei, va_up_self, va_up_ne _ _ ej] at e
        exact absurd e.symm (nd j (by omega))
    · by_cases ej : j = T.1.1
      · rw [ej, va_up_self, va_up_ne _ _ ei] at e
        exact absurd e (nd i (by omega))
      · rw [va_up_ne _ _ ei, va_up_ne _ _ ej] at e
        exact f18 i j (by omega) (by omega) e
/-- one entry more -/
theorem FR_addE {g : zG} {S S' : zS} {T T' : zT} {x pl lo pt ty pa la : Nat} {ap ad ae : Nat → Nat} {q : Nat} (hF : FR g S T x pl lo pt ty pa la ap ad ae) (hA : zl_add S S' lo la T.1.2 q) (hq : zh_at S 1 q) (nq : ∀ k : Nat, k < T.1.2 → ae k ≠ q) (hp : 0 < T.1.1) (t0 : T'.1 = (T.1.1, T.1.2 + 1)) (t1 : ∀ j k : Nat, j < 5 → T'.2 j k = T.2 j k) (t2 : ∀ j k : Nat, j < 8 → k < T.1.2 → T'.2 (5 + j) k = T.2 (5 + j) k) (t3 : ∀ j : Nat, j < 8 → zh_I S (2 + j) q = nI (T'.2 (5 + j) T.1.2)) : FE g S' T' x := by
  obtain ⟨⟨f1, f2, f3, f4, f5⟩, ⟨f6, f7, f8, f9, f10⟩, f11, f12, f13, f14, f15, f16, f17, f18, f19⟩ := hF
  have hat : ∀ k a : Nat, zh_at S k a → zh_at S' k a := fun k a h => ⟨(hA.1 _ h.1).1, (hA.1 _ h.1).2.1.trans h.2⟩
  have hI : ∀ j a : Nat, j ≠ 30 → j ≠ 31 → zh_I S' j a = zh_I S j a := fun j a h h2 => hA.2.1 j a h (Or.inl h2)
  have hR : ∀ j a : Nat, j ≠ 30 → zh_R S' j a = zh_R S j a := fun j a h => hA.2.2.1 j a (Or.inl h)
  obtain ⟨la', hL, hla, hla8⟩ := FL_add f12 hA hq
  have hpa : zh_at S 8 pa := f11.2.2.2.1.elim (fun h => absurd h.1 (by omega)) (fun h => h.1)
  have n1 : T'.1.1 = T.1.1 := by rw [t0]
  have n2 : T'.1.2 = T.1.2 + 1 := by rw [t0]
  refine ⟨pl, lo, pt, ty, pa, la', ap, ad, va_up ae T.1.2 q, ⟨hat _ _ f1, (hR 1 x (by decide)).trans f2, (hR 2 x (by decide)).trans f3, (hR 3 x (by decide)).trans f4, (hR 4 x (by decide)).trans f5⟩, ⟨hat _ _ f6, (hA.1 _ f6.1).2.2.1.trans f7, hat _ _ f8, (hA.1 _ f8.1).2.2.1.trans f9, fun t ht => ?_⟩, ?_, ?_, f13, fun _ e => ?_, fun k hk => ?_, fun k hk j hj => ?_, fun i j hi hj => ?_, fun i j hi hj => ?_, fun i j hi hj e => ?_⟩
  · rw [(hA.1 _ f6.1).2.2.2.1, f10 t ht, t1 4 t (by decide)]
  · rw [n1]; exact FL_keep f11 hA f13 f14
  · rw [n2]; exact hL
  · rcases hla with h | h
    · exact f14 hpa (e.trans h)
    · exact h (by rw [← e]; exact hpa.1)
  · rw [n1] at hk
    rw [hR _ _ (by decide), hI _ _ (by decide) (by decide), hI _ _ (by decide) (by decide), hI _ _ (by decide) (by decide), hI _ _ (by decide) (by decide), t1 0 k (by decide), t1 1 k (by decide), t1 2 k (by decide), t1 3 k (by decide)]
    have h6 := f15 k hk
    exact ⟨h6.1, hat _ _ h6.2.1, h6.2.2⟩
  · rw [n2] at hk
    rw [hI _ _ (by omega) (by omega)]
    by_cases e : k = T.1.2
    · rw [e, va_up_self]; exact t3 j hj
    · rw [va_up_ne _ _ e, t2 j k hj (by omega)]; exact f16 k (by omega) j hj
  · rw [n1] at hi hj; exact f17 i j hi hj
  · rw [n1] at hi hj; exact f18 i j hi hj
  · rw [n2] at hi hj
    by_cases ei : i = T.1.2
    · by_cases ej : j = T.1.2
      · omega
      · rw [ei, va_up_self, va_up_ne _ _ ej] at e
        exact absurd e.symm (nq j (by omega))
    · by_cases ej : j = T.1.2
      · rw [ej, va_up_self, va_up_ne _ _ ei] at e
        exact absurd e (nq i (by omega))
      · rw [va_up_ne _ _ ei, va_up_ne _ _ ej] at e
        exact f19 i j (by omega) (by omega) e
/-- a promise's draws move on -/
theorem FR_drawn {g : zG} {S : zS} {T : zT} {x pl lo pt ty pa la : Nat} {ap ad ae : Nat → Nat} (hF : FR g S T x pl lo pt ty pa la ap ad ae) {k : Nat} (a r : Nat) (hk : k < T.1.1) : FR g (zD S (ad k) a r) (zt_s T 1 k a) x pl lo pt ty pa la ap ad ae := by
  have hF0 := hF
  obtain ⟨⟨f1, f2, f3, f4, f5⟩, ⟨f6, f7, f8, f9, f10⟩, f11, f12, f13, f14, f15, f16, f17, f18, f19⟩ := hF
  have hI : ∀ j b : Nat, j ≠ 0 → j ≠ 1 → zh_I (zD S (ad k) a r) j b = zh_I S j b := fun j b h h2 => (zI_j _ _ _ _ h2).trans (zI_j _ _ _ _ h)
  refine FR_mk hF0 (fun k a h => ⟨h, rfl, rfl, fun _ => rfl⟩) rfl (fun a _ => hI _ _ (by decide) (by decide)) (fun t ht => ?_) (fun i hi => ?_) (fun i hi j hj => ?_) id
  · rw [zt_s_j _ _ _ _ (by omega)]; exact f10 t ht
  · obtain ⟨-, -, q3, q4, q5, q6⟩ := f15 i hi
    rw [show (zt_s T 1 k a).2 0 i = T.2 0 i from zt_s_j _ _ _ _ (by decide), show (zt_s T 1 k a).2 2 i = T.2 2 i from zt_s_j _ _ _ _ (by decide), show (zt_s T 1 k a).2 3 i = T.2 3 i from zt_s_j _ _ _ _ (by decide)]
    refine ⟨(hI _ _ (by decide) (by decide)).trans q3, ?_, (hI _ _ (by decide) (by decide)).trans q5, (hI _ _ (by decide) (by decide)).trans q6⟩
    by_cases e : i = k
    · subst e; rw [zt_s_s]; exact zD_0 S (ad i) a r
    · rw [zt_s_k _ _ _ _ e]
      exact (zI_a _ _ _ _ (fun h => e (f18 _ _ hi hk h))).trans ((zI_a _ _ _ _ (fun h => e (f18 _ _ hi hk h))).trans q4)
  · rw [zt_s_j _ _ _ _ (by omega)]; exact (hI _ _ (by omega) (by omega)).trans (f16 i hi j hj)
/-- an entry that isn't in the log is written -/
theorem FR_oth {g : zG} {S : zS} {T : zT} {x pl lo pt ty pa la : Nat} {ap ad ae : Nat → Nat} (hF : FR g S T x pl lo pt ty pa la ap ad ae) {q j : Nat} (v : Int32) (nq : ∀ k : Nat, k < T.1.2 → ae k ≠ q) (h2 : 2 ≤ j) (h9 : j ≤ 9) : FR g (zh_sI S j q v) T x pl lo pt ty pa la ap ad ae := by
  have hF0 := hF
  obtain ⟨⟨f1, f2, f3, f4, f5⟩, ⟨f6, f7, f8, f9, f10⟩, f11, f12, f13, f14, f15, f16, f17, f18, f19⟩ := hF
  refine FR_mk hF0 (fun k a h => ⟨h, rfl, rfl, fun _ => rfl⟩) rfl (fun a _ => zI_j _ _ _ _ (by omega)) f10 (fun i hi => ?_) (fun i hi j hj => (zI_a _ _ _ _ (nq i hi)).trans (f16 i hi j hj)) id
  obtain ⟨-, -, q3, q4, q5, q6⟩ := f15 i hi
  exact ⟨(zI_j _ _ _ _ (by omega)).trans q3, (zI_j _ _ _ _ (by omega)).trans q4, (zI_j _ _ _ _ (by omega)).trans q5, (zI_j _ _ _ _ (by omega)).trans q6⟩
/-- a new promise with its draws, in no list -/
def zs_pr (S : zS) (q d : Nat) (sd : Int32) : zS := zh_sR (zh_sI (zh_nO (zh_sI (zh_nO S q 2) 10 q sd) d 0) 0 d sd) 0 q (some d)
theorem FR_pr {g : zG} {S : zS} {T : zT} {x pl lo pt ty pa la : Nat} {ap ad ae : Nat → Nat} (hF : FR g S T x pl lo pt ty pa la ap ad ae) {q d : Nat} (sd : Int32) (hq : q ∉ zh_L S) (hd : d ∉ zh_L S) (hdq : d ≠ q) : FR g (zs_pr S q d sd) T x pl lo pt ty pa la ap ad ae ∧ zk_ S (zs_pr S q d sd) := by
  have n1 : ∀ a : Nat, a ∈ zh_L S → a ≠ q := fun a h e => hq (e ▸ h)
  have n2 : ∀ a : Nat, a ∈ zh_L S → a ≠ d := fun a h e => hd (e ▸ h)
  have hI : ∀ j a : Nat, a ∈ zh_L S → zh_I (zs_pr S q d sd) j a = zh_I S j a := fun j a h => by
    show zh_u (fun j a => if a = d then 0 else zh_u (fun j a => if a = q then 0 else zh_I S j a) 10 q sd j a) 0 d sd j a = _
    rw [zh_u_a _ _ _ _ (n2 a h), if_neg (n2 a h), zh_u_a _ _ _ _ (n1 a h), if_neg (n1 a h)]
  have hR : ∀ j a : Nat, a ∈ zh_L S → zh_R (zs_pr S q d sd) j a = zh_R S j a := fun j a h => by
    show zh_u (fun j a => if a = d then none else (if a = q then none else zh_R S j a)) 0 q (some d) j a = _
    rw [zh_u_a _ _ _ _ (n1 a h), if_neg (n2 a h), if_neg (n1 a h)]
  have hL : ∀ a : Nat, a ∈ zh_L S → a ∈ zh_L (zs_pr S q d sd) := fun a h => List.mem_append_left _ (List.mem_append_left _ h)
  have hK : ∀ a : Nat, a ∈ zh_L S → zh_K (zs_pr S q d sd) a = zh_K S a := fun a h => by
    show va_up (va_up (zh_K S) q 2) d 0 a = _
    rw [va_up_ne _ _ (n2 a h), va_up_ne _ _ (n1 a h)]
  refine ⟨?_, fun a h => ⟨hL a h, hK a h, rfl, rfl⟩⟩
  have hF0 := hF
  obtain ⟨⟨f1, f2, f3, f4, f5⟩, ⟨f6, f7, f8, f9, f10⟩, f11, f12, f13, f14, f15, f16, f17, f18, f19⟩ := hF
  refine FR_mk hF0 (fun k a h => ⟨⟨hL a h.1, (hK a h.1).trans h.2⟩, rfl, rfl, fun j => hR j a h.1⟩) rfl (fun a h => hI 31 a h.1) f10 (fun i hi => ?_) (fun i hi j hj => ?_) (fun h => ?_)
  · obtain ⟨q1, q2, q3, q4, q5, q6⟩ := f15 i hi
    have e := (f11.2.2.2.2 i hi).2.1
    rw [hI _ _ e, hI _ _ q2.1, hI _ _ e, hI _ _ e]
    exact ⟨q3, q4, q5, q6⟩
  · rw [hI _ _ (f12.2.2.2.2 i hi).2.1]; exact f16 i hi j hj
  · have h1 := zh_at_nO_inv (S := zh_sI (zh_nO S q 2) 10 q sd) (d := d) (k0 := 0) (k := 8) (a := pa) h (by decide)
    exact zh_at_nO_inv (S := S) (d := q) (k0 := 2) h1 (by decide)
theorem zs_pr_I (S : zS) {q d : Nat} (sd : Int32) (h : d ≠ q) : zh_I (zs_pr S q d sd) 10 q = sd ∧ zh_I (zs_pr S q d sd) 0 d = sd ∧ zh_I (zs_pr S q d sd) 11 q = 0 ∧ zh_I (zs_pr S q d sd) 12 q = 0 := by
  have e : ∀ j a : Nat, zh_I (zs_pr S q d sd) j a = (if j = 0 ∧ a = d then sd else if a = d then 0 else if j = 10 ∧ a = q then sd else if a = q then 0 else zh_I S j a) := fun j a => rfl
  have h2 : ¬ q = d := fun h9 => h h9.symm
  rw [e, e, e, e]
  simp [h2]
theorem FL_hel {g : zG} {S : zS} {pl n ar kd : Nat} {el : Nat → Nat} (h : FL g S pl n ar kd el) (hkd : kd = 1 ∨ kd = 2) : ∀ i : Nat, i < n → ∀ y : Nat, zh_Q S ar i = some y → zh_at S 1 y ∨ zh_at S 2 y := fun i hi y hy => by
  obtain ⟨h1, h2⟩ := h.2.2.2.2 i hi
  cases h1.symm.trans hy
  rcases hkd with rfl | rfl
  · exact Or.inl h2
  · exact Or.inr h2
theorem zi_s65 {y : Int32} (h : ¬ y < 0) (h2 : y < 65536) : ¬ zi 65536 y := fun h9 => h9.elim h (fun h3 => zi_nlt h2 h3)

set_option maxRecDepth 100000 in
set_option maxHeartbeats 4000000 in
theorem k_X3_promise (l : Launch) (g : zG) (hst : l.stackTraces = false) (S : zS) (T : zT) (x pl lo pt ty pa la : Nat) (ap ad ae : Nat → Nat) (hT : zt_ok T) (hF : FR g S T x pl lo pt ty pa la ap ad ae) (i : Int32) : zX l yX3_promise cX3_promise 2 (some .int) (zrm 8 4 220) g [.ref x, .int i] S (fun w S' => zc_promise T i = 0 ∧ w = some (.int (nI T.1.1)) ∧ FE g S' (zs_promise T i) x ∧ zk_ S S') (fun E S' => ((zc_promise T i = 1 ∧ E = zn_IA) ∨ (zc_promise T i = 2 ∧ E = zn_IS)) ∧ S' = S) := by
  refine zX_of (nm := "promise") (by decide) rfl (Nat.le_of_ble_eq_true rfl) ?_
  intro p e s m args below meth c A ls C hr hlk hxt I hl
  have C : CallFix p m c cX3_promise 2 s args zc_W RX3 := C
  have hx := C.1
  have hb := C.2.1
  have hl : lv_has ls 2 [(0, .ref x), (1, .int i)] := hl
  have hF0 := hF
  obtain ⟨⟨f1, f2, f3, f4, f5⟩, ⟨f6, f7, f8, f9, f10⟩, f11, f12, f13, f14, f15, f16, f17, f18, f19⟩ := hF
  obtain ⟨t1, t2, t3, t4, t5, t6, t7⟩ := hT
  have hT0 : zt_ok T := ⟨t1, t2, t3, t4, t5, t6, t7⟩
  rcases zi_cases i (n := 65536) (by omega) with hb0 | ⟨hb0, hj0, hi0⟩
  · refine lv_iload_n hx hb dX3_promise_0 rfl (lv_at hl 1 rfl) ?_
    refine lv_if_lt (tgt := 10) hx hb dX3_promise_1 (by decide) (fun c1 => ?_) (fun c1 => ?_)
    · exact zr_throw (cls := "java/lang/IllegalArgumentException") (text := "a seed is 0 to 65535") (ik := 27) (is := 29) (ic := 31) C I hst hxt hlk rfl zt_fitIA zt_fitn zm_87 zm_23 (by decide +kernel) zt_aIA zt_bIA zt_cIA hl.1 dX3_promise_10 dX3_promise_13 dX3_promise_14 dX3_promise_16 dX3_promise_19 (Nat.le_of_ble_eq_true rfl) (Nat.le_of_ble_eq_true rfl) (Nat.le_of_ble_eq_true rfl) (Nat.le_of_ble_eq_true rfl) (⟨Or.inl ⟨if_pos hb0, rfl⟩, rfl⟩) (Nat.le_of_ble_eq_true rfl) (Nat.le_of_ble_eq_true rfl)
    · have hlt : ¬ i < 65536 := fun h => hb0.elim c1 (fun h3 => zi_nlt h h3)
      refine lv_iload_n hx hb dX3_promise_4 rfl (lv_at hl 1 rfl) ?_
      refine lv_ldc (v := 65536) hx hb C.2.2.2.1 (C.2.2.2.2 _ zm_86) dX3_promise_5 ?_
      refine lv_icmp_lt (tgt := 20) hx hb dX3_promise_7 (by decide) (fun h9 => absurd h9 (hlt)) (fun _ => ?_)
      exact zr_throw (cls := "java/lang/IllegalArgumentException") (text := "a seed is 0 to 65535") (ik := 27) (is := 29) (ic := 31) C I hst hxt hlk rfl zt_fitIA zt_fitn zm_87 zm_23 (by decide +kernel) zt_aIA zt_bIA zt_cIA hl.1 dX3_promise_10 dX3_promise_13 dX3_promise_14 dX3_promise_16 dX3_promise_19 (Nat.le_of_ble_eq_true rfl) (Nat.le_of_ble_eq_true rfl) (Nat.le_of_ble_eq_true rfl) (Nat.le_of_ble_eq_true rfl) (⟨Or.inl ⟨if_pos hb0, rfl⟩, rfl⟩) (Nat.le_of_ble_eq_true rfl) (Nat.le_of_ble_eq_true rfl)
  · obtain ⟨sd, hsd, rfl⟩ : ∃ sd : Nat, sd < 65536 ∧ i = nI sd := ⟨_, hj0, hi0⟩
    clear hj0 hi0
    have hsz : zx (nI sd) = sd := zx_nI (by omega)
    refine lv_iload_n hx hb dX3_promise_0 rfl (lv_at hl 1 rfl) ?_
    refine lv_if_lt (tgt := 10) hx hb dX3_promise_1 (by decide) (fun h9 => absurd h9 (fun h8 => absurd ((nI_ltI (a := sd) (b := 0) (by omega) (by omega)).mp h8) (by omega))) (fun _ => ?_)
    refine lv_iload_n hx hb dX3_promise_4 rfl (lv_at hl 1 rfl) ?_
    refine lv_ldc (v := 65536) hx hb C.2.2.2.1 (C.2.2.2.2 _ zm_86) dX3_promise_5 ?_
    refine lv_icmp_lt (tgt := 20) hx hb dX3_promise_7 (by decide) (fun _ => ?_) (fun h9 => absurd ((nI_ltI (a := sd) (b := 65536) (by omega) (by omega)).mpr (by omega)) h9)
    refine lv_aload_n hx hb dX3_promise_20 rfl (lv_at hl 0 rfl) ?_
    refine zg_Forge_promises (v := pl) C I f1 zm_68 (f2) dX3_promise_21 ?_
    refine zc_V (n := 0) (rest := []) C I f11.1 rfl rfl (k_Jx4a65c_size_8abf5 l g S pl T.1.1 f11.1 f11.2.1) zm_144 zm_145 zm_146 zm_19 zm_147 rfl hl.1 dX3_promise_24 (by decide +kernel) rfl ⟨Nat.le_of_ble_eq_true rfl, Nat.le_of_ble_eq_true rfl⟩ (Nat.le_of_ble_eq_true rfl) ⟨Nat.le_of_ble_eq_true rfl, Nat.le_of_ble_eq_true rfl⟩ (fun v S' H locs hq I => ?_)
    obtain ⟨rfl, eS⟩ := hq
    rw [eS] at I
    refine lv_bipush (v := 16) hx hb dX3_promise_27 (by decide) ?_
    refine lv_icmp_lt (tgt := 42) hx hb dX3_promise_29 (by decide) (fun c29 => ?_) (fun c29 => ?_)
    · have c29 : T.1.1 < 16 := (nI_ltI (a := T.1.1) (b := 16) (by omega) (by omega)).mp c29
      refine lv_aload_n hx hb dX3_promise_42 rfl (lv_at hl 0 rfl) ?_
      refine zg_Forge_promises (v := pl) C I f1 zm_68 (f2) dX3_promise_43 ?_
      refine zw_Promise C I zm_162 zm_163 zm_25 (Nat.le_of_ble_eq_true rfl) (Nat.le_of_ble_eq_true rfl) dX3_promise_46 (fun q46 H hq46 I => ?_)
      refine lv_dup hx hb dX3_promise_49 rfl ?_
      refine lv_iload_n hx hb dX3_promise_50 rfl (lv_at hl 1 rfl) ?_
      refine zc_IN (host := "DiceForge") (n := 1) (rest := [.ref q46, .ref pl]) C I (k_X2_init l g (zh_nO S q46 2) q46 (nI sd) zh_at_new) (by decide +kernel) zm_164 zm_25 zm_165 rfl rfl hl.1 dX3_promise_51 (by decide +kernel) rfl ⟨Nat.le_of_ble_eq_true rfl, Nat.le_of_ble_eq_true rfl⟩ (Nat.le_of_ble_eq_true rfl) ⟨Nat.le_of_ble_eq_true rfl, Nat.le_of_ble_eq_true rfl⟩ (fun v S' H locs hq I => ?_)
      obtain ⟨rfl, dd, hd1, eS⟩ := hq
      rw [eS] at I
      have I : zh_V g A s [] (zs_pr S q46 dd (nI sd)) H locs := I
      have hd2 : dd ∉ zh_L S := fun h => hd1 (List.mem_append_left _ h)
      have hd3 : dd ≠ q46 := fun h => hd1 (by rw [h]; exact List.mem_append_right _ (List.mem_singleton.mpr rfl))
      have hFk := FR_pr hF0 (nI sd) hq46 hd2 hd3
      have nq : ∀ k : Nat, k < T.1.1 → ap k ≠ q46 := fun k hk h => hq46 (h ▸ (f11.2.2.2.2 k hk).2.1)
      have nd : ∀ k : Nat, k < T.1.1 → ad k ≠ dd := fun k hk h => hd2 (h ▸ (f15 k hk).2.1.1)
      obtain ⟨⟨f1, f2, f3, f4, f5⟩, ⟨f6, f7, f8, f9, f10⟩, f11, f12, f13, f14, f15, f16, f17, f18, f19⟩ := id hFk.1
      have hq2 : zh_at (zs_pr S q46 dd (nI sd)) 2 q46 := zh_at_nO (S := zh_sI (zh_nO S q46 2) 10 q46 (nI sd)) (k := 2) zh_at_new hd1
      have hd4 : zh_at (zs_pr S q46 dd (nI sd)) 0 dd := zh_at_new (S := zh_sI (zh_nO S q46 2) 10 q46 (nI sd))
      refine zc_V (n := 1) (rest := []) C I f11.1 rfl rfl (k_add l g (zs_pr S q46 dd (nI sd)) pl pa T.1.1 q46 2 f11.1 f11.2.1 f11.2.2.1 f11.2.2.2.1 (by omega) hq2 (Or.inr rfl) (FL_hel f11 (Or.inr rfl))) zm_190 zm_191 zm_192 zm_19 zm_193 rfl hl.1 dX3_promise_54 (by decide +kernel) rfl ⟨Nat.le_of_ble_eq_true rfl, Nat.le_of_ble_eq_true rfl⟩ (Nat.le_of_ble_eq_true rfl) ⟨Nat.le_of_ble_eq_true rfl, Nat.le_of_ble_eq_true rfl⟩ (fun v S' H locs hq I => ?_)
      obtain ⟨rfl, hA⟩ := hq
      have hpi := zs_pr_I S (nI sd) hd3
      have hE : FE g S' (zs_promised T sd) x := FR_addP (d := dd) hFk.1 hA hq2 hd4 (zh_u_s _ _ _ _) hpi.1 hpi.2.1 hpi.2.2.1 hpi.2.2.2 nq nd (zn_out I) hT0
      refine lv_pop hx hb dX3_promise_57 rfl ?_
      refine lv_aload_n hx hb dX3_promise_58 rfl (lv_at hl 0 rfl) ?_
      refine zg_Forge_promises (v := pl) C I ⟨(hA.1 _ f1.1).1, (hA.1 _ f1.1).2.1.trans f1.2⟩ zm_68 ((hA.2.2.1 1 x (Or.inl (by decide))).trans f2) dX3_promise_59 ?_
      refine zc_V (n := 0) (rest := []) C I ⟨(hA.1 _ f11.1.1).1, (hA.1 _ f11.1.1).2.1.trans f11.1.2⟩ rfl rfl (k_Jx4a65c_size_8abf5 l g S' pl (T.1.1 + 1) ⟨(hA.1 _ f11.1.1).1, (hA.1 _ f11.1.1).2.1.trans f11.1.2⟩ hA.2.2.2.1) zm_144 zm_145 zm_146 zm_19 zm_147 rfl hl.1 dX3_promise_62 (by decide +kernel) rfl ⟨Nat.le_of_ble_eq_true rfl, Nat.le_of_ble_eq_true rfl⟩ (Nat.le_of_ble_eq_true rfl) ⟨Nat.le_of_ble_eq_true rfl, Nat.le_of_ble_eq_true rfl⟩ (fun v S' H locs hq I => ?_)
      obtain ⟨rfl, eS⟩ := hq
      rw [eS] at I
      have hc : zc_promise T (nI sd) = 0 := by unfold zc_promise; rw [if_neg hb0, if_neg (by omega)]
      refine lv_iconst (v := 1) hx hb dX3_promise_65 (by decide) ?_
      refine lv_isub hx hb dX3_promise_66 ?_
      refine zr_top (y := nI T.1.1) (pk_sub (a := T.1.1 + 1) (b := 1) (by omega)) ?_
      exact vx_ret (zr_iret C I hr hlk (⟨hc, rfl, by unfold zs_promise; rw [if_pos hc, hsz]; exact hE, zk_tr hFk.2 (zl_k hA)⟩) (Nat.le_of_ble_eq_true rfl) (Nat.le_of_ble_eq_true rfl) dX3_promise_67)
    · have c29 : ¬ T.1.1 < 16 := fun h9 => c29 ((nI_ltI (a := T.1.1) (b := 16) (by omega) (by omega)).mpr h9)
      exact zr_throw (cls := "java/lang/IllegalStateException") (text := "there are 16 promises") (ik := 38) (is := 40) (ic := 42) C I hst hxt hlk rfl zt_fitIS zt_fitn zm_148 zm_24 (by decide +kernel) zt_aIS zt_bIS zt_cIS hl.1 dX3_promise_32 dX3_promise_35 dX3_promise_36 dX3_promise_38 dX3_promise_41 (Nat.le_of_ble_eq_true rfl) (Nat.le_of_ble_eq_true rfl) (Nat.le_of_ble_eq_true rfl) (Nat.le_of_ble_eq_true rfl) (⟨Or.inr ⟨by unfold zc_promise; rw [if_neg hb0, if_pos (by omega)], rfl⟩, rfl⟩) (Nat.le_of_ble_eq_true rfl) (Nat.le_of_ble_eq_true rfl)

theorem zs_rolled_v (T : zT) (q u f : Nat) : (zs_rolled T q u f).2 5 T.1.2 = q ∧ (zs_rolled T q u f).2 6 T.1.2 = u ∧ (zs_rolled T q u f).2 7 T.1.2 = T.2 4 u ∧ (zs_rolled T q u f).2 8 T.1.2 = f ∧ (zs_rolled T q u f).2 9 T.1.2 = zd_val (T.2 1 q) (T.2 4 u) f ∧ (zs_rolled T q u f).2 10 T.1.2 = (zd_roll (T.2 1 q) (T.2 4 u) f).2 ∧ (zs_rolled T q u f).2 11 T.1.2 = zd_sum (zb_roll T) q u f (zd_val (T.2 1 q) (T.2 4 u) f) (zd_roll (T.2 1 q) (T.2 4 u) f).2 ∧ (zs_rolled T q u f).2 12 T.1.2 = T.2 12 T.1.2 := by
  refine ⟨?_, ?_, ?_, ?_, ?_, ?_, ?_, ?_⟩ <;> simp [zs_rolled, zh_u]
theorem zs_rolled_lo (T : zT) (q u f : Nat) {j : Nat} (k : Nat) (h : j < 5) : (zs_rolled T q u f).2 j k = (zt_s T 1 q (zd_roll (T.2 1 q) (T.2 4 u) f).1).2 j k := (zh_u_j _ _ _ _ (by omega)).trans ((zh_u_j _ _ _ _ (by omega)).trans ((zh_u_j _ _ _ _ (by omega)).trans ((zh_u_j _ _ _ _ (by omega)).trans ((zh_u_j _ _ _ _ (by omega)).trans ((zh_u_j _ _ _ _ (by omega)).trans (zh_u_j _ _ _ _ (by omega)))))))
theorem zs_rolled_k (T : zT) (q u f : Nat) (j : Nat) {k : Nat} (h : k < T.1.2) : (zs_rolled T q u f).2 (5 + j) k = (zt_s T 1 q (zd_roll (T.2 1 q) (T.2 4 u) f).1).2 (5 + j) k := (zh_u_a _ _ _ _ (by omega)).trans ((zh_u_a _ _ _ _ (by omega)).trans ((zh_u_a _ _ _ _ (by omega)).trans ((zh_u_a _ _ _ _ (by omega)).trans ((zh_u_a _ _ _ _ (by omega)).trans ((zh_u_a _ _ _ _ (by omega)).trans (zh_u_a _ _ _ _ (by omega)))))))
theorem zd_val_le {st pt f : Nat} (h : 2 ≤ f) : zd_val st pt f ≤ f := by
  have h1 := Nat.mod_lt (zd_roll st pt f).1 (show 0 < f by omega)
  unfold zd_val; omega
theorem zb_roll_lt {T : zT} (h : zt_ok T) : zb_roll T < 1000003 := by
  unfold zb_roll
  split
  · decide
  · exact (h.2.2.2.2.1 _ (by omega)).2.2.2.2.2.2.2.2.1

set_option maxRecDepth 100000 in
set_option maxHeartbeats 4000000 in
theorem k_X3_roll (l : Launch) (g : zG) (hst : l.stackTraces = false) (S : zS) (T : zT) (x pl lo pt ty pa la : Nat) (ap ad ae : Nat → Nat) (hT : zt_ok T) (hF : FR g S T x pl lo pt ty pa la ap ad ae) (i y z : Int32) : zX l yX3_roll cX3_roll 6 (some .int) (zrm 8 7 250) g [.ref x, .int i, .int y, .int z] S (fun w S' => zc_roll T i y z = 0 ∧ w = some (.int (nI (zr_roll T i y z))) ∧ FE g S' (zs_roll T i y z) x ∧ zk_ S S') (fun E S' => ((zc_roll T i y z = 1 ∧ E = zn_IO) ∨ (zc_roll T i y z = 2 ∧ E = zn_IA) ∨ (zc_roll T i y z = 3 ∧ E = zn_IS)) ∧ S' = S) := by
  refine zX_of (nm := "roll") (by decide) rfl (Nat.le_of_ble_eq_true rfl) ?_
  intro p e s m args below meth c A ls C hr hlk hxt I hl
  have C : CallFix p m c cX3_roll 6 s args zc_W RX3 := C
  have hx := C.1
  have hb := C.2.1
  have hl : lv_has ls 6 [(0, .ref x), (1, .int i), (2, .int y), (3, .int z)] := hl
  have hF0 := hF
  obtain ⟨⟨f1, f2, f3, f4, f5⟩, ⟨f6, f7, f8, f9, f10⟩, f11, f12, f13, f14, f15, f16, f17, f18, f19⟩ := hF
  obtain ⟨t1, t2, t3, t4, t5, t6, t7⟩ := hT
  have hT0 : zt_ok T := ⟨t1, t2, t3, t4, t5, t6, t7⟩
  rcases zi_cases i (n := T.1.1) (by omega) with hbi | ⟨hbi, hj0, hi0⟩
  · refine lv_aload_n hx hb dX3_roll_0 rfl (lv_at hl 0 rfl) ?_
    refine lv_iload_n hx hb dX3_roll_1 rfl (lv_at hl 1 rfl) ?_
    refine zc_VX (n := 1) (rest := []) C I f1 rfl rfl (k_X3_promiseAt l g hst S x pl T.1.1 pa ap i f1 f2 f11 (by omega)) zm_280 zm_281 zm_4 zm_16 zm_282 rfl hl.1 dX3_roll_2 (by decide +kernel) rfl ⟨Nat.le_of_ble_eq_true rfl, Nat.le_of_ble_eq_true rfl⟩ (Nat.le_of_ble_eq_true rfl) ⟨Nat.le_of_ble_eq_true rfl, Nat.le_of_ble_eq_true rfl⟩ (fun E ce q9 S' H locs hq I h1 h2 h3 => ?_) (fun v S' H locs hq I => ?_)
    · obtain ⟨hE, hz, eS⟩ := hq
      rw [eS] at I
      exact zr_out I hxt hlk (⟨Or.inl ⟨if_pos (Or.inl hz), hE⟩, rfl⟩) h1 h2 h3 (Nat.le_of_ble_eq_true rfl) (Nat.le_of_ble_eq_true rfl)
    · exact absurd hbi hq.1
  · obtain ⟨q, hqn, rfl⟩ : ∃ q : Nat, q < T.1.1 ∧ i = nI q := ⟨_, hj0, hi0⟩
    clear hj0 hi0
    have hqz : zx (nI q) = q := zx_nI (by omega)
    rcases zi_cases y (n := 4) (by omega) with hby | ⟨hby, hj0, hi0⟩
    · refine lv_aload_n hx hb dX3_roll_0 rfl (lv_at hl 0 rfl) ?_
      refine lv_iload_n hx hb dX3_roll_1 rfl (lv_at hl 1 rfl) ?_
      refine zc_VX (n := 1) (rest := []) C I f1 rfl rfl (k_X3_promiseAt l g hst S x pl T.1.1 pa ap (nI q) f1 f2 f11 (by omega)) zm_280 zm_281 zm_4 zm_16 zm_282 rfl hl.1 dX3_roll_2 (by decide +kernel) rfl ⟨Nat.le_of_ble_eq_true rfl, Nat.le_of_ble_eq_true rfl⟩ (Nat.le_of_ble_eq_true rfl) ⟨Nat.le_of_ble_eq_true rfl, Nat.le_of_ble_eq_true rfl⟩ (fun E ce q9 S' H locs hq I h1 h2 h3 => ?_) (fun v S' H locs hq I => ?_)
      · exact absurd hq.2.1 hbi
      · obtain ⟨hz, rfl, eS⟩ := hq
        rw [eS] at I
        rw [hqz]
        refine lv_astore (lv' := [(4, .ref (ap q)), (0, .ref x), (1, .int (nI q)), (2, .int y), (3, .int z)]) hx hb dX3_roll_5 hl (by decide) rfl (fun ls hl => ?_)
        refine lv_iload_n hx hb dX3_roll_7 rfl (lv_at hl 3 rfl) ?_
        refine zc_SX (n := 1) (rest := []) C I (k_X3_requireTable l g hst S y) zm_245 zm_246 zm_16 zm_247 rfl hl.1 dX3_roll_8 (by decide +kernel) rfl ⟨Nat.le_of_ble_eq_true rfl, Nat.le_of_ble_eq_true rfl⟩ (Nat.le_of_ble_eq_true rfl) ⟨Nat.le_of_ble_eq_true rfl, Nat.le_of_ble_eq_true rfl⟩ (fun E ce q9 S' H locs hq I h1 h2 h3 => ?_) (fun v S' H locs hq I => ?_)
        · obtain ⟨hE, hz2, eS⟩ := hq
          rw [eS] at I
          exact zr_out I hxt hlk (⟨Or.inl ⟨if_pos (Or.inr hz2), hE⟩, rfl⟩) h1 h2 h3 (Nat.le_of_ble_eq_true rfl) (Nat.le_of_ble_eq_true rfl)
        · exact absurd hby hq.1
    · obtain ⟨u, hu, rfl⟩ : ∃ u : Nat, u < 4 ∧ y = nI u := ⟨_, hj0, hi0⟩
      clear hj0 hi0
      have huz : zx (nI u) = u := zx_nI (by omega)
      have hn1 : ¬ (zi T.1.1 (nI q) ∨ zi 4 (nI u)) := fun h => h.elim hbi hby
      by_cases hfx : z < 2 ∨ 1000 < z
      · refine lv_aload_n hx hb dX3_roll_0 rfl (lv_at hl 0 rfl) ?_
        refine lv_iload_n hx hb dX3_roll_1 rfl (lv_at hl 1 rfl) ?_
        refine zc_VX (n := 1) (rest := []) C I f1 rfl rfl (k_X3_promiseAt l g hst S x pl T.1.1 pa ap (nI q) f1 f2 f11 (by omega)) zm_280 zm_281 zm_4 zm_16 zm_282 rfl hl.1 dX3_roll_2 (by decide +kernel) rfl ⟨Nat.le_of_ble_eq_true rfl, Nat.le_of_ble_eq_true rfl⟩ (Nat.le_of_ble_eq_true rfl) ⟨Nat.le_of_ble_eq_true rfl, Nat.le_of_ble_eq_true rfl⟩ (fun E ce q9 S' H locs hq I h1 h2 h3 => ?_) (fun v S' H locs hq I => ?_)
        · exact absurd hq.2.1 hbi
        · obtain ⟨hz, rfl, eS⟩ := hq
          rw [eS] at I
          rw [hqz]
          refine lv_astore (lv' := [(4, .ref (ap q)), (0, .ref x), (1, .int (nI q)), (2, .int (nI u)), (3, .int z)]) hx hb dX3_roll_5 hl (by decide) rfl (fun ls hl => ?_)
          refine lv_iload_n hx hb dX3_roll_7 rfl (lv_at hl 3 rfl) ?_
          refine zc_SX (n := 1) (rest := []) C I (k_X3_requireTable l g hst S (nI u)) zm_245 zm_246 zm_16 zm_247 rfl hl.1 dX3_roll_8 (by decide +kernel) rfl ⟨Nat.le_of_ble_eq_true rfl, Nat.le_of_ble_eq_true rfl⟩ (Nat.le_of_ble_eq_true rfl) ⟨Nat.le_of_ble_eq_true rfl, Nat.le_of_ble_eq_true rfl⟩ (fun E ce q9 S' H locs hq I h1 h2 h3 => ?_) (fun v S' H locs hq I => ?_)
          · exact absurd hq.2.1 hby
          · obtain ⟨hz2, rfl, eS⟩ := hq
            rw [eS] at I
            refine lv_iload_n hx hb dX3_roll_11 rfl (lv_at hl 4 rfl) ?_
            refine zc_SX (n := 1) (rest := []) C I (k_X3_requireFaces l g hst S z) zm_301 zm_302 zm_16 zm_303 rfl hl.1 dX3_roll_12 (by decide +kernel) rfl ⟨Nat.le_of_ble_eq_true rfl, Nat.le_of_ble_eq_true rfl⟩ (Nat.le_of_ble_eq_true rfl) ⟨Nat.le_of_ble_eq_true rfl, Nat.le_of_ble_eq_true rfl⟩ (fun E ce q9 S' H locs hq I h1 h2 h3 => ?_) (fun v S' H locs hq I => ?_)
            · obtain ⟨hE, hz3, eS⟩ := hq
              rw [eS] at I
              exact zr_out I hxt hlk (⟨Or.inr (Or.inl ⟨by unfold zc_roll; rw [if_neg hn1, if_pos hz3], hE⟩), rfl⟩) h1 h2 h3 (Nat.le_of_ble_eq_true rfl) (Nat.le_of_ble_eq_true rfl)
            · exact absurd hfx hq.1
      · obtain ⟨f, hf2, hf3, rfl⟩ := zi_faces hfx
        have hfz : zx (nI f) = f := zx_nI (by omega)
        have hc3 : (T.2 2 q ≠ 0 ∨ 100 ≤ T.1.2) → zc_roll T (nI q) (nI u) (nI f) = 3 := fun h => by unfold zc_roll; rw [if_neg hn1, if_neg hfx, hqz, if_pos h]
        have hc0 : ¬ (T.2 2 q ≠ 0 ∨ 100 ≤ T.1.2) → zc_roll T (nI q) (nI u) (nI f) = 0 := fun h => by unfold zc_roll; rw [if_neg hn1, if_neg hfx, hqz, if_neg h]
        refine lv_aload_n hx hb dX3_roll_0 rfl (lv_at hl 0 rfl) ?_
        refine lv_iload_n hx hb dX3_roll_1 rfl (lv_at hl 1 rfl) ?_
        refine zc_VX (n := 1) (rest := []) C I f1 rfl rfl (k_X3_promiseAt l g hst S x pl T.1.1 pa ap (nI q) f1 f2 f11 (by omega)) zm_280 zm_281 zm_4 zm_16 zm_282 rfl hl.1 dX3_roll_2 (by decide +kernel) rfl ⟨Nat.le_of_ble_eq_true rfl, Nat.le_of_ble_eq_true rfl⟩ (Nat.le_of_ble_eq_true rfl) ⟨Nat.le_of_ble_eq_true rfl, Nat.le_of_ble_eq_true rfl⟩ (fun E ce q9 S' H locs hq I h1 h2 h3 => ?_) (fun v S' H locs hq I => ?_)
        · exact absurd hq.2.1 hbi
        · obtain ⟨hz, rfl, eS⟩ := hq
          rw [eS] at I
          rw [hqz]
          refine lv_astore (lv' := [(4, .ref (ap q)), (0, .ref x), (1, .int (nI q)), (2, .int (nI u)), (3, .int (nI f))]) hx hb dX3_roll_5 hl (by decide) rfl (fun ls hl => ?_)
          refine lv_iload_n hx hb dX3_roll_7 rfl (lv_at hl 3 rfl) ?_
          refine zc_SX (n := 1) (rest := []) C I (k_X3_requireTable l g hst S (nI u)) zm_245 zm_246 zm_16 zm_247 rfl hl.1 dX3_roll_8 (by decide +kernel) rfl ⟨Nat.le_of_ble_eq_true rfl, Nat.le_of_ble_eq_true rfl⟩ (Nat.le_of_ble_eq_true rfl) ⟨Nat.le_of_ble_eq_true rfl, Nat.le_of_ble_eq_true rfl⟩ (fun E ce q9 S' H locs hq I h1 h2 h3 => ?_) (fun v S' H locs hq I => ?_)
          · exact absurd hq.2.1 hby
          · obtain ⟨hz2, rfl, eS⟩ := hq
            rw [eS] at I
            refine lv_iload_n hx hb dX3_roll_11 rfl (lv_at hl 4 rfl) ?_
            refine zc_SX (n := 1) (rest := []) C I (k_X3_requireFaces l g hst S (nI f)) zm_301 zm_302 zm_16 zm_303 rfl hl.1 dX3_roll_12 (by decide +kernel) rfl ⟨Nat.le_of_ble_eq_true rfl, Nat.le_of_ble_eq_true rfl⟩ (Nat.le_of_ble_eq_true rfl) ⟨Nat.le_of_ble_eq_true rfl, Nat.le_of_ble_eq_true rfl⟩ (fun E ce q9 S' H locs hq I h1 h2 h3 => ?_) (fun v S' H locs hq I => ?_)
            · exact absurd hq.2.1 hfx
            · obtain ⟨hz3, rfl, eS⟩ := hq
              rw [eS] at I
              have t3q := t3 q
              have t4u := t4 u
              refine lv_aload hx hb dX3_roll_15 (lv_at hl 0 rfl) ?_
              refine zn_Promise_opened (v := nI (T.2 2 q)) (host := "DiceForge") C I (f11.2.2.2.2 _ hqn).2 (by decide +kernel) ((f15 _ hqn).2.2.2.2.1) dX3_roll_17 ?_
              refine lv_if_eq (tgt := 33) hx hb dX3_roll_20 (by decide) (fun c20 => ?_) (fun c20 => ?_)
              · have c20 : (T.2 2 q) = 0 := (nI_eq (a := T.2 2 q) (b := 0) (by omega) (by omega)).mp c20
                refine lv_aload_n hx hb dX3_roll_33 rfl (lv_at hl 1 rfl) ?_
                refine zg_Forge_log (v := lo) C I f1 zm_69 (f3) dX3_roll_34 ?_
                refine zc_V (n := 0) (rest := []) C I f12.1 rfl rfl (k_Jx4a65c_size_8abf5 l g S lo T.1.2 f12.1 f12.2.1) zm_144 zm_145 zm_146 zm_19 zm_147 rfl hl.1 dX3_roll_37 (by decide +kernel) rfl ⟨Nat.le_of_ble_eq_true rfl, Nat.le_of_ble_eq_true rfl⟩ (Nat.le_of_ble_eq_true rfl) ⟨Nat.le_of_ble_eq_true rfl, Nat.le_of_ble_eq_true rfl⟩ (fun v S' H locs hq I => ?_)
                obtain ⟨rfl, eS⟩ := hq
                rw [eS] at I
                refine lv_bipush (v := 100) hx hb dX3_roll_40 (by decide) ?_
                refine lv_icmp_lt (tgt := 55) hx hb dX3_roll_42 (by decide) (fun c42 => ?_) (fun c42 => ?_)
                · have c42 : T.1.2 < 100 := (nI_ltI (a := T.1.2) (b := 100) (by omega) (by omega)).mp c42
                  have hcz := hc0 (fun h => h.elim (fun h => h c20) (fun h => by omega))
                  refine zw_Entry C I zm_304 zm_305 zm_34 (Nat.le_of_ble_eq_true rfl) (Nat.le_of_ble_eq_true rfl) dX3_roll_55 (fun q55 H hq55 I => ?_)
                  have nq : ∀ k : Nat, k < T.1.2 → ae k ≠ q55 := fun k hk h => hq55 (h ▸ (f12.2.2.2.2 k hk).2.1)
                  have hF1 := FR_nO hF0 hq55 (k0 := 1) (by decide)
                  obtain ⟨⟨f1, f2, f3, f4, f5⟩, ⟨f6, f7, f8, f9, f10⟩, f11, f12, f13, f14, f15, f16, f17, f18, f19⟩ := id hF1
                  refine lv_dup hx hb dX3_roll_58 rfl ?_
                  refine lv_iload_n hx hb dX3_roll_59 rfl (lv_at hl 2 rfl) ?_
                  refine lv_iload_n hx hb dX3_roll_60 rfl (lv_at hl 3 rfl) ?_
                  refine lv_aload_n hx hb dX3_roll_61 rfl (lv_at hl 1 rfl) ?_
                  refine zg_Forge_parts (v := pt) C I f1 zm_70 (f4) dX3_roll_62 ?_
                  refine lv_iload_n hx hb dX3_roll_65 rfl (lv_at hl 3 rfl) ?_
                  refine zr_iald (v := nI (T.2 4 u)) C I f6 (by rw [show zh_N (zh_nO S q55 1) pt = 4 from f7]; exact vp_in_nI (by omega) (by omega)) (by rw [nI_clamp (by omega)]; exact f10 u (by omega)) dX3_roll_66 ?_
                  refine lv_iload_n hx hb dX3_roll_67 rfl (lv_at hl 4 rfl) ?_
                  refine zc_IN (host := "DiceForge") (n := 4) (rest := [.ref q55]) C I (k_X1_init l g (zh_nO S q55 1) q55 (nI q) (nI u) (nI (T.2 4 u)) (nI f) zh_at_new) (by decide +kernel) zm_306 zm_34 zm_307 rfl rfl hl.1 dX3_roll_68 (by decide +kernel) rfl ⟨Nat.le_of_ble_eq_true rfl, Nat.le_of_ble_eq_true rfl⟩ (Nat.le_of_ble_eq_true rfl) ⟨Nat.le_of_ble_eq_true rfl, Nat.le_of_ble_eq_true rfl⟩ (fun v S' H locs hq I => ?_)
                  obtain ⟨rfl, eS⟩ := hq
                  rw [eS] at I
                  have hF2 : FR g (zh_sI (zh_sI (zh_sI (zh_sI (zh_nO S q55 1) 2 q55 (nI q)) 3 q55 (nI u)) 4 q55 (nI (T.2 4 u))) 5 q55 (nI f)) T x pl lo pt ty pa la ap ad ae := FR_oth (FR_oth (FR_oth (FR_oth hF1 _ nq (by decide) (by decide)) _ nq (by decide) (by decide)) _ nq (by decide) (by decide)) _ nq (by decide) (by decide)
                  obtain ⟨⟨f1, f2, f3, f4, f5⟩, ⟨f6, f7, f8, f9, f10⟩, f11, f12, f13, f14, f15, f16, f17, f18, f19⟩ := id hF2
                  have g2 : zh_I (zh_sI (zh_sI (zh_sI (zh_sI (zh_nO S q55 1) 2 q55 (nI q)) 3 q55 (nI u)) 4 q55 (nI (T.2 4 u))) 5 q55 (nI f)) 2 q55 = nI q := (zI_j _ _ _ _ (by decide)).trans ((zI_j _ _ _ _ (by decide)).trans ((zI_j _ _ _ _ (by decide)).trans (zI_s _ _ _ _)))
                  have g3 : zh_I (zh_sI (zh_sI (zh_sI (zh_sI (zh_nO S q55 1) 2 q55 (nI q)) 3 q55 (nI u)) 4 q55 (nI (T.2 4 u))) 5 q55 (nI f)) 3 q55 = nI u := (zI_j _ _ _ _ (by decide)).trans ((zI_j _ _ _ _ (by decide)).trans (zI_s _ _ _ _))
                  have g4 : zh_I (zh_sI (zh_sI (zh_sI (zh_sI (zh_nO S q55 1) 2 q55 (nI q)) 3 q55 (nI u)) 4 q55 (nI (T.2 4 u))) 5 q55 (nI f)) 4 q55 = nI (T.2 4 u) := (zI_j _ _ _ _ (by decide)).trans (zI_s _ _ _ _)
                  have g5 : zh_I (zh_sI (zh_sI (zh_sI (zh_sI (zh_nO S q55 1) 2 q55 (nI q)) 3 q55 (nI u)) 4 q55 (nI (T.2 4 u))) 5 q55 (nI f)) 5 q55 = nI f := zI_s _ _ _ _
                  have g9 : zh_I (zh_sI (zh_sI (zh_sI (zh_sI (zh_nO S q55 1) 2 q55 (nI q)) 3 q55 (nI u)) 4 q55 (nI (T.2 4 u))) 5 q55 (nI f)) 9 q55 = 0 := (zI_j _ _ _ _ (by decide)).trans ((zI_j _ _ _ _ (by decide)).trans ((zI_j _ _ _ _ (by decide)).trans ((zI_j _ _ _ _ (by decide)).trans (if_pos rfl))))
                  obtain ⟨v, hv⟩ : ∃ v, v = zd_val (T.2 1 q) (T.2 4 u) f := ⟨_, rfl⟩
                  obtain ⟨a1, ha1⟩ : ∃ a1, a1 = (zd_roll (T.2 1 q) (T.2 4 u) f).1 := ⟨_, rfl⟩
                  obtain ⟨r1, hr1⟩ : ∃ r1, r1 = (zd_roll (T.2 1 q) (T.2 4 u) f).2 := ⟨_, rfl⟩
                  have bv : v ≤ f := by rw [hv]; exact zd_val_le hf2
                  have br1 : r1 ≤ 65536 := by rw [hr1]; exact zd_roll_le _ _ _
                  refine lv_astore (lv' := [(5, .ref q55), (4, .ref (ap q)), (0, .ref x), (1, .int (nI q)), (2, .int (nI u)), (3, .int (nI f))]) hx hb dX3_roll_71 hl (by decide) rfl (fun ls hl => ?_)
                  refine lv_aload hx hb dX3_roll_73 (lv_at hl 0 rfl) ?_
                  refine lv_aload hx hb dX3_roll_75 (lv_at hl 1 rfl) ?_
                  refine zn_Promise_draws (v := ad q) (host := "DiceForge") C I (f11.2.2.2.2 _ hqn).2 (by decide +kernel) ((f15 _ hqn).1) dX3_roll_77 ?_
                  refine lv_aload hx hb dX3_roll_80 (lv_at hl 0 rfl) ?_
                  refine zn_Entry_part (v := nI (T.2 4 u)) (host := "DiceForge") C I (show zh_at (zh_sI (zh_sI (zh_sI (zh_sI (zh_nO S q55 1) 2 q55 (nI q)) 3 q55 (nI u)) 4 q55 (nI (T.2 4 u))) 5 q55 (nI f)) 1 q55 from zh_at_new) (by decide +kernel) (g4) dX3_roll_82 ?_
                  refine lv_iload_n hx hb dX3_roll_85 rfl (lv_at hl 5 rfl) ?_
                  refine zc_VN (host := "DiceForge") (n := 2) (rest := [.ref q55]) C I (f15 _ hqn).2.1 rfl rfl (k_X0_nextValue l g (zh_sI (zh_sI (zh_sI (zh_sI (zh_nO S q55 1) 2 q55 (nI q)) 3 q55 (nI u)) 4 q55 (nI (T.2 4 u))) 5 q55 (nI f)) (ad q) (T.2 1 q) (T.2 4 u) f (f15 _ hqn).2.1 (f15 _ hqn).2.2.2.1 (by omega) (by omega) (by omega) (by omega)) (by decide +kernel) zm_333 zm_5 zm_26 zm_334 rfl hl.1 dX3_roll_86 (by decide +kernel) rfl ⟨Nat.le_of_ble_eq_true rfl, Nat.le_of_ble_eq_true rfl⟩ (Nat.le_of_ble_eq_true rfl) ⟨Nat.le_of_ble_eq_true rfl, Nat.le_of_ble_eq_true rfl⟩ (fun v S' H locs hq I => ?_)
                  obtain ⟨rfl, eS⟩ := hq
                  rw [← hv]
                  rw [eS, ← ha1, ← hr1] at I
                  have hF3 := FR_drawn hF2 (k := q) a1 r1 hqn
                  refine zq_Entry_value (host := "DiceForge") C I (show zh_at (zD (zh_sI (zh_sI (zh_sI (zh_sI (zh_nO S q55 1) 2 q55 (nI q)) 3 q55 (nI u)) 4 q55 (nI (T.2 4 u))) 5 q55 (nI f)) (ad q) a1 r1) 1 q55 from zh_at_new) (by decide +kernel) dX3_roll_89 (fun H locs I => ?_)
                  have hF4 : FR g (zh_sI (zD (zh_sI (zh_sI (zh_sI (zh_sI (zh_nO S q55 1) 2 q55 (nI q)) 3 q55 (nI u)) 4 q55 (nI (T.2 4 u))) 5 q55 (nI f)) (ad q) a1 r1) 6 q55 (nI v)) (zt_s T 1 q a1) x pl lo pt ty pa la ap ad ae := FR_oth hF3 _ nq (by decide) (by decide)
                  obtain ⟨⟨f1, f2, f3, f4, f5⟩, ⟨f6, f7, f8, f9, f10⟩, f11, f12, f13, f14, f15, f16, f17, f18, f19⟩ := id hF4
                  refine lv_aload hx hb dX3_roll_92 (lv_at hl 0 rfl) ?_
                  refine lv_aload hx hb dX3_roll_94 (lv_at hl 1 rfl) ?_
                  refine zn_Promise_draws (v := ad q) (host := "DiceForge") C I (f11.2.2.2.2 _ hqn).2 (by decide +kernel) ((f15 _ hqn).1) dX3_roll_96 ?_
                  refine zn_Draws_rejected (v := nI r1) (host := "DiceForge") C I (f15 _ hqn).2.1 (by decide +kernel) ((zI_j _ _ _ _ (by decide)).trans (zD_1 _ _ _ _)) dX3_roll_99 ?_
                  refine zq_Entry_rejected (host := "DiceForge") C I (show zh_at (zh_sI (zD (zh_sI (zh_sI (zh_sI (zh_sI (zh_nO S q55 1) 2 q55 (nI q)) 3 q55 (nI u)) 4 q55 (nI (T.2 4 u))) 5 q55 (nI f)) (ad q) a1 r1) 6 q55 (nI v)) 1 q55 from zh_at_new) (by decide +kernel) dX3_roll_102 (fun H locs I => ?_)
                  have hF5 : FR g (zh_sI (zh_sI (zD (zh_sI (zh_sI (zh_sI (zh_sI (zh_nO S q55 1) 2 q55 (nI q)) 3 q55 (nI u)) 4 q55 (nI (T.2 4 u))) 5 q55 (nI f)) (ad q) a1 r1) 6 q55 (nI v)) 7 q55 (nI r1)) (zt_s T 1 q a1) x pl lo pt ty pa la ap ad ae := FR_oth hF4 _ nq (by decide) (by decide)
                  obtain ⟨⟨f1, f2, f3, f4, f5⟩, ⟨f6, f7, f8, f9, f10⟩, f11, f12, f13, f14, f15, f16, f17, f18, f19⟩ := id hF5
                  have h25 : ∀ j : Nat, 2 ≤ j → j ≠ 6 → j ≠ 7 → zh_I (zh_sI (zh_sI (zD (zh_sI (zh_sI (zh_sI (zh_sI (zh_nO S q55 1) 2 q55 (nI q)) 3 q55 (nI u)) 4 q55 (nI (T.2 4 u))) 5 q55 (nI f)) (ad q) a1 r1) 6 q55 (nI v)) 7 q55 (nI r1)) j q55 = zh_I (zh_sI (zh_sI (zh_sI (zh_sI (zh_nO S q55 1) 2 q55 (nI q)) 3 q55 (nI u)) 4 q55 (nI (T.2 4 u))) 5 q55 (nI f)) j q55 := fun j h h6 h7 => (zI_j _ _ _ _ h7).trans ((zI_j _ _ _ _ h6).trans ((zI_j _ _ _ _ (by omega)).trans (zI_j _ _ _ _ (by omega))))
                  have g7 : zh_I (zh_sI (zh_sI (zD (zh_sI (zh_sI (zh_sI (zh_sI (zh_nO S q55 1) 2 q55 (nI q)) 3 q55 (nI u)) 4 q55 (nI (T.2 4 u))) 5 q55 (nI f)) (ad q) a1 r1) 6 q55 (nI v)) 7 q55 (nI r1)) 7 q55 = nI r1 := zI_s _ _ _ _
                  have g6 : zh_I (zh_sI (zh_sI (zD (zh_sI (zh_sI (zh_sI (zh_sI (zh_nO S q55 1) 2 q55 (nI q)) 3 q55 (nI u)) 4 q55 (nI (T.2 4 u))) 5 q55 (nI f)) (ad q) a1 r1) 6 q55 (nI v)) 7 q55 (nI r1)) 6 q55 = nI v := (zI_j _ _ _ _ (by decide)).trans (zI_s _ _ _ _)
                  refine lv_aload hx hb dX3_roll_105 (lv_at hl 0 rfl) ?_
                  refine lv_aload hx hb dX3_roll_107 (lv_at hl 0 rfl) ?_
                  refine lv_aload_n hx hb dX3_roll_109 rfl (lv_at hl 2 rfl) ?_
                  refine zc_V (n := 0) (rest := [.ref q55, .ref q55]) C I f1 rfl rfl (k_X3_lastSum l g (zh_sI (zh_sI (zD (zh_sI (zh_sI (zh_sI (zh_sI (zh_nO S q55 1) 2 q55 (nI q)) 3 q55 (nI u)) 4 q55 (nI (T.2 4 u))) 5 q55 (nI f)) (ad q) a1 r1) 6 q55 (nI v)) 7 q55 (nI r1)) x lo T.1.2 la ae ((zt_s T 1 q a1).2 11) f1 f3 f12 (by omega) (fun k hk => f16 k hk 6 (by decide))) zm_339 zm_340 zm_7 zm_16 zm_341 rfl hl.1 dX3_roll_110 (by decide +kernel) rfl ⟨Nat.le_of_ble_eq_true rfl, Nat.le_of_ble_eq_true rfl⟩ (Nat.le_of_ble_eq_true rfl) ⟨Nat.le_of_ble_eq_true rfl, Nat.le_of_ble_eq_true rfl⟩ (fun v S' H locs hq I => ?_)
                  obtain ⟨rfl, eS⟩ := hq
                  rw [eS] at I
                  have hb9 : (if T.1.2 = 0 then 17 else (zt_s T 1 q a1).2 11 (T.1.2 - 1)) = zb_roll T := by rw [zt_s_j _ _ _ _ (by decide)]; rfl
                  refine zr_top (y := nI (zb_roll T)) (by rw [hb9]) ?_
                  refine zc_VN (host := "DiceForge") (n := 1) (rest := [.ref q55]) C I (show zh_at (zh_sI (zh_sI (zD (zh_sI (zh_sI (zh_sI (zh_sI (zh_nO S q55 1) 2 q55 (nI q)) 3 q55 (nI u)) 4 q55 (nI (T.2 4 u))) 5 q55 (nI f)) (ad q) a1 r1) 6 q55 (nI v)) 7 q55 (nI r1)) 1 q55 from zh_at_new) rfl rfl (k_X1_sumAfter l g (zh_sI (zh_sI (zD (zh_sI (zh_sI (zh_sI (zh_sI (zh_nO S q55 1) 2 q55 (nI q)) 3 q55 (nI u)) 4 q55 (nI (T.2 4 u))) 5 q55 (nI f)) (ad q) a1 r1) 6 q55 (nI v)) 7 q55 (nI r1)) q55 (zb_roll T) q u f v r1 zh_at_new ((h25 2 (by decide) (by decide) (by decide)).trans g2) ((h25 3 (by decide) (by decide) (by decide)).trans g3) ((h25 5 (by decide) (by decide) (by decide)).trans g5) g6 g7 (zb_roll_lt hT0) (by omega) (by omega) (by omega) (by omega) br1) (by decide +kernel) zm_346 zm_8 zm_34 zm_347 rfl hl.1 dX3_roll_113 (by decide +kernel) rfl ⟨Nat.le_of_ble_eq_true rfl, Nat.le_of_ble_eq_true rfl⟩ (Nat.le_of_ble_eq_true rfl) ⟨Nat.le_of_ble_eq_true rfl, Nat.le_of_ble_eq_true rfl⟩ (fun v S' H locs hq I => ?_)
                  obtain ⟨rfl, eS⟩ := hq
                  rw [eS] at I
                  refine zq_Entry_sum (host := "DiceForge") C I (show zh_at (zh_sI (zh_sI (zD (zh_sI (zh_sI (zh_sI (zh_sI (zh_nO S q55 1) 2 q55 (nI q)) 3 q55 (nI u)) 4 q55 (nI (T.2 4 u))) 5 q55 (nI f)) (ad q) a1 r1) 6 q55 (nI v)) 7 q55 (nI r1)) 1 q55 from zh_at_new) (by decide +kernel) dX3_roll_116 (fun H locs I => ?_)
                  have hF6 : FR g (zh_sI (zh_sI (zh_sI (zD (zh_sI (zh_sI (zh_sI (zh_sI (zh_nO S q55 1) 2 q55 (nI q)) 3 q55 (nI u)) 4 q55 (nI (T.2 4 u))) 5 q55 (nI f)) (ad q) a1 r1) 6 q55 (nI v)) 7 q55 (nI r1)) 8 q55 (nI (zd_sum (zb_roll T) q u f v r1))) (zt_s T 1 q a1) x pl lo pt ty pa la ap ad ae := FR_oth hF5 _ nq (by decide) (by decide)
                  obtain ⟨⟨f1, f2, f3, f4, f5⟩, ⟨f6, f7, f8, f9, f10⟩, f11, f12, f13, f14, f15, f16, f17, f18, f19⟩ := id hF6
                  refine lv_aload_n hx hb dX3_roll_119 rfl (lv_at hl 2 rfl) ?_
                  refine zg_Forge_log (v := lo) C I f1 zm_69 (f3) dX3_roll_120 ?_
                  refine lv_aload hx hb dX3_roll_123 (lv_at hl 0 rfl) ?_
                  refine zc_V (n := 1) (rest := []) C I f12.1 rfl rfl (k_add l g (zh_sI (zh_sI (zh_sI (zD (zh_sI (zh_sI (zh_sI (zh_sI (zh_nO S q55 1) 2 q55 (nI q)) 3 q55 (nI u)) 4 q55 (nI (T.2 4 u))) 5 q55 (nI f)) (ad q) a1 r1) 6 q55 (nI v)) 7 q55 (nI r1)) 8 q55 (nI (zd_sum (zb_roll T) q u f v r1))) lo la T.1.2 q55 1 f12.1 f12.2.1 f12.2.2.1 f12.2.2.2.1 (by omega) zh_at_new (Or.inl rfl) (FL_hel f12 (Or.inl rfl))) zm_190 zm_191 zm_192 zm_19 zm_193 rfl hl.1 dX3_roll_125 (by decide +kernel) rfl ⟨Nat.le_of_ble_eq_true rfl, Nat.le_of_ble_eq_true rfl⟩ (Nat.le_of_ble_eq_true rfl) ⟨Nat.le_of_ble_eq_true rfl, Nat.le_of_ble_eq_true rfl⟩ (fun v S' H locs hq I => ?_)
                  obtain ⟨rfl, hA⟩ := hq
                  have hq1 : zh_at (zh_sI (zh_sI (zh_sI (zD (zh_sI (zh_sI (zh_sI (zh_sI (zh_nO S q55 1) 2 q55 (nI q)) 3 q55 (nI u)) 4 q55 (nI (T.2 4 u))) 5 q55 (nI f)) (ad q) a1 r1) 6 q55 (nI v)) 7 q55 (nI r1)) 8 q55 (nI (zd_sum (zb_roll T) q u f v r1))) 1 q55 := zh_at_new
                  have hv8 := zs_rolled_v T q u f
                  rw [← hv, ← hr1] at hv8
                  obtain ⟨w5, w6, w7, w8, w9, w10, w11, w12⟩ := hv8
                  have hE : FE g S' (zs_rolled T q u f) x := FR_addE hF6 hA hq1 nq (show 0 < T.1.1 by omega) rfl (fun j k h => by rw [ha1]; exact zs_rolled_lo T q u f k h) (fun j k h h2 => by rw [ha1]; exact zs_rolled_k T q u f j h2) (fun j hj => by
                    rcases (show j = 0 ∨ j = 1 ∨ j = 2 ∨ j = 3 ∨ j = 4 ∨ j = 5 ∨ j = 6 ∨ j = 7 by omega) with rfl | rfl | rfl | rfl | rfl | rfl | rfl | rfl
                    · show zh_I _ 2 _ = nI ((zs_rolled T q u f).2 5 T.1.2)
                      rw [w5]; exact (zI_j _ _ _ _ (by decide)).trans ((h25 2 (by decide) (by decide) (by decide)).trans g2)
                    · show zh_I _ 3 _ = nI ((zs_rolled T q u f).2 6 T.1.2)
                      rw [w6]; exact (zI_j _ _ _ _ (by decide)).trans ((h25 3 (by decide) (by decide) (by decide)).trans g3)
                    · show zh_I _ 4 _ = nI ((zs_rolled T q u f).2 7 T.1.2)
                      rw [w7]; exact (zI_j _ _ _ _ (by decide)).trans ((h25 4 (by decide) (by decide) (by decide)).trans g4)
                    · show zh_I _ 5 _ = nI ((zs_rolled T q u f).2 8 T.1.2)
                      rw [w8]; exact (zI_j _ _ _ _ (by decide)).trans ((h25 5 (by decide) (by decide) (by decide)).trans g5)
                    · show zh_I _ 6 _ = nI ((zs_rolled T q u f).2 9 T.1.2)
                      rw [w9]; exact (zI_j _ _ _ _ (by decide)).trans (g6)
                    · show zh_I _ 7 _ = nI ((zs_rolled T q u f).2 10 T.1.2)
                      rw [w10]; exact (zI_j _ _ _ _ (by decide)).trans (g7)
                    · show zh_I _ 8 _ = nI ((zs_rolled T q u f).2 11 T.1.2)
                      rw [w11]; exact zI_s _ _ _ _
                    · show zh_I _ 9 _ = nI ((zs_rolled T q u f).2 12 T.1.2)
                      rw [w12, t7 T.1.2 (Nat.le_refl _)]; exact (zI_j _ _ _ _ (by decide)).trans ((h25 9 (by decide) (by decide) (by decide)).trans g9))
                  refine lv_pop hx hb dX3_roll_128 rfl ?_
                  refine lv_aload hx hb dX3_roll_129 (lv_at hl 0 rfl) ?_
                  refine zn_Entry_value (v := nI v) (host := "DiceForge") C I ⟨(hA.1 _ hq1.1).1, (hA.1 _ hq1.1).2.1.trans hq1.2⟩ (by decide +kernel) ((hA.2.1 6 _ (by decide) (Or.inl (by decide))).trans ((zI_j _ _ _ _ (by decide)).trans g6)) dX3_roll_131 ?_
                  exact vx_ret (zr_iret C I hr hlk (⟨hcz, by unfold zr_roll; rw [hqz, huz, hfz, ← hv], by unfold zs_roll; rw [if_pos hcz, hqz, huz, hfz]; exact hE, zk_tr (show zk_ S (zh_sI (zh_sI (zh_sI (zD (zh_sI (zh_sI (zh_sI (zh_sI (zh_nO S q55 1) 2 q55 (nI q)) 3 q55 (nI u)) 4 q55 (nI (T.2 4 u))) 5 q55 (nI f)) (ad q) a1 r1) 6 q55 (nI v)) 7 q55 (nI r1)) 8 q55 (nI (zd_sum (zb_roll T) q u f v r1))) from zk_nO hq55) (zl_k hA)⟩) (Nat.le_of_ble_eq_true rfl) (Nat.le_of_ble_eq_true rfl) dX3_roll_134)
                · have c42 : ¬ T.1.2 < 100 := fun h9 => c42 ((nI_ltI (a := T.1.2) (b := 100) (by omega) (by omega)).mpr h9)
                  exact zr_throw (cls := "java/lang/IllegalStateException") (text := "there are 100 entries") (ik := 38) (is := 90) (ic := 42) C I hst hxt hlk rfl zt_fitIS zt_fitn zm_148 zm_24 (by decide +kernel) zt_aIS zt_bIS zt_cIS hl.1 dX3_roll_45 dX3_roll_48 dX3_roll_49 dX3_roll_51 dX3_roll_54 (Nat.le_of_ble_eq_true rfl) (Nat.le_of_ble_eq_true rfl) (Nat.le_of_ble_eq_true rfl) (Nat.le_of_ble_eq_true rfl) (⟨Or.inr (Or.inr ⟨hc3 (Or.inr (by omega)), rfl⟩), rfl⟩) (Nat.le_of_ble_eq_true rfl) (Nat.le_of_ble_eq_true rfl)
              · have c20 : ¬ (T.2 2 q) = 0 := fun h9 => c20 ((nI_eq (a := T.2 2 q) (b := 0) (by omega) (by omega)).mpr h9)
                exact zr_throw (cls := "java/lang/IllegalStateException") (text := "the promise is opened") (ik := 38) (is := 80) (ic := 42) C I hst hxt hlk rfl zt_fitIS zt_fitn zm_148 zm_24 (by decide +kernel) zt_aIS zt_bIS zt_cIS hl.1 dX3_roll_23 dX3_roll_26 dX3_roll_27 dX3_roll_29 dX3_roll_32 (Nat.le_of_ble_eq_true rfl) (Nat.le_of_ble_eq_true rfl) (Nat.le_of_ble_eq_true rfl) (Nat.le_of_ble_eq_true rfl) (⟨Or.inr (Or.inr ⟨hc3 (Or.inl c20), rfl⟩), rfl⟩) (Nat.le_of_ble_eq_true rfl) (Nat.le_of_ble_eq_true rfl)

