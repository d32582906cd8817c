/-! the law's contents behind each of its turns -/
theorem zu_dc {α : Type} (f : Nat → Nat → α) (j a : Nat) (v : α) (j' a' : Nat) : zh_u f j a v j' a' = if j' = j ∧ a' = a then v else f j' a' := rfl
theorem LC_promise {C : Nat → Nat → Int32} {T : zT} (h : LC C T) (sd : Nat) (hn : T.1.1 < 6) : LC (zh_u (zh_u (zh_u C 1 T.1.1 (nI sd)) 1 (6 + T.1.1) (nI sd)) 0 0 (nI (T.1.1 + 1))) ((T.1.1 + 1, T.1.2), zh_u (zh_u T.2 0 T.1.1 sd) 1 T.1.1 sd) := by
  obtain ⟨⟨n1, n2⟩, ⟨q0, q1⟩, ⟨b2, b3, b4⟩, qp, dk, ek⟩ := h
  refine ⟨⟨by show T.1.1 + 1 ≤ 6; omega, n2⟩, ⟨?_, ?_⟩, ⟨zbt_ext b2 (fun k _ => ?_), zbt_ext b3 (fun k _ => ?_), zbt_ext b4 (fun k _ => ?_)⟩, fun t ht => ?_, fun k hk => ?_, fun k hk => ?_⟩
  all_goals simp only [zu_dc]
  all_goals first | rfl | grind
theorem LC_part {C : Nat → Nat → Int32} {T : zT} (h : LC C T) {tb pv : Nat} (ht : tb < 4) : LC (zh_u C 0 (5 + tb) (nI pv)) (zt_s T 4 tb pv) := by
  obtain ⟨⟨n1, n2⟩, ⟨q0, q1⟩, ⟨b2, b3, b4⟩, qp, dk, ek⟩ := h
  have e2 : zh_u C 0 (5 + tb) (nI pv) 0 2 = C 0 2 := if_neg (by omega)
  have e3 : zh_u C 0 (5 + tb) (nI pv) 0 3 = C 0 3 := if_neg (by omega)
  have e4 : zh_u C 0 (5 + tb) (nI pv) 0 4 = C 0 4 := if_neg (by omega)
  refine ⟨⟨n1, n2⟩, ⟨?_, ?_⟩, ⟨e2 ▸ zbt_ext b2 (fun k _ => ?_), e3 ▸ zbt_ext b3 (fun k _ => ?_), e4 ▸ zbt_ext b4 (fun k _ => ?_)⟩, fun t ht => ?_, fun k hk => ?_, fun k hk => ?_⟩
  all_goals simp only [zt_s, zu_dc]
  all_goals first | rfl | grind [zt_s]
theorem LC_alter {C : Nat → Nat → Int32} {T : zT} (h : LC C T) {k0 : Nat} (vv : Nat) : LC (zh_u C 5 k0 (nI vv)) (zt_s T 9 k0 vv) := by
  obtain ⟨⟨n1, n2⟩, ⟨q0, q1⟩, ⟨b2, b3, b4⟩, qp, dk, ek⟩ := h
  refine ⟨⟨n1, n2⟩, ⟨?_, ?_⟩, ⟨zbt_ext b2 (fun k _ => ?_), zbt_ext b3 (fun k _ => ?_), zbt_ext b4 (fun k _ => ?_)⟩, fun t ht => ?_, fun k hk => ?_, fun k hk => ?_⟩
  all_goals simp only [zt_s, zu_dc]
  all_goals first | rfl | grind [zt_s]
theorem zt_s_self (T : zT) (j k x : Nat) (h : T.2 j k = x) : zt_s T j k x = T := by
  show (T.1, zh_u T.2 j k x) = T
  rw [zu_self _ _ _ _ h]
theorem LC_open {C : Nat → Nat → Int32} {T : zT} (h : LC C T) {q : Nat} (hq : q < 31) : LC (zh_u C 0 2 (C 0 2 ||| ((1 : Int32) <<< (nI q &&& 31)))) (zt_s T 2 q 1) := by
  obtain ⟨⟨n1, n2⟩, ⟨q0, q1⟩, ⟨b2, b3, b4⟩, qp, dk, ek⟩ := h
  refine ⟨⟨n1, n2⟩, ⟨?_, ?_⟩, ⟨zbt_ext (zbt_or b2 hq) (fun k _ => ?_), zbt_ext b3 (fun k _ => ?_), zbt_ext b4 (fun k _ => ?_)⟩, fun t ht => ?_, fun k hk => ?_, fun k hk => ?_⟩
  all_goals simp only [zt_s, zu_dc]
  all_goals first | rfl | grind [zt_s]
theorem LC_disp {C : Nat → Nat → Int32} {T : zT} (h : LC C T) {q : Nat} (hq : q < 31) : LC (zh_u C 0 3 (C 0 3 ||| ((1 : Int32) <<< (nI q &&& 31)))) (zt_s T 3 q 1) := by
  obtain ⟨⟨n1, n2⟩, ⟨q0, q1⟩, ⟨b2, b3, b4⟩, qp, dk, ek⟩ := h
  refine ⟨⟨n1, n2⟩, ⟨?_, ?_⟩, ⟨zbt_ext b2 (fun k _ => ?_), zbt_ext (zbt_or b3 hq) (fun k _ => ?_), zbt_ext b4 (fun k _ => ?_)⟩, fun t ht => ?_, fun k hk => ?_, fun k hk => ?_⟩
  all_goals simp only [zt_s, zu_dc]
  all_goals first | rfl | grind [zt_s]
theorem LC_same {C C' : Nat → Nat → Int32} {T : zT} (h : LC C T) (e : C' = C) : LC C' T := e ▸ h
theorem zu_or0 (C : Nat → Nat → Int32) (i k : Nat) : zh_u C i k (C i k ||| 0) = C := by rw [zb_or0]; exact zu_self _ _ _ _ rfl
theorem LC_strike {C : Nat → Nat → Int32} {T : zT} {q a k0 : Nat} (h : LC C (zs_strike T q a k0)) (hk0 : k0 < 31) (hs : T.2 5 k0 = q) (ha : a ≤ k0) : LC (zh_u C 0 4 (C 0 4 ||| ((1 : Int32) <<< (nI k0 &&& 31)))) (zs_strike T q a (k0 + 1)) := by
  rw [← zs_strike_s T hs ha]
  obtain ⟨⟨n1, n2⟩, ⟨q0, q1⟩, ⟨b2, b3, b4⟩, qp, dk, ek⟩ := h
  generalize zs_strike T q a k0 = T1 at *
  refine ⟨⟨n1, n2⟩, ⟨?_, ?_⟩, ⟨zbt_ext b2 (fun k _ => ?_), zbt_ext b3 (fun k _ => ?_), zbt_ext (zbt_or b4 hk0) (fun k _ => ?_)⟩, fun t ht => ?_, fun k hk => ?_, fun k hk => ?_⟩
  all_goals simp only [zt_s, zu_dc]
  all_goals first | rfl | grind [zt_s]
theorem LC_roll {C : Nat → Nat → Int32} {T : zT} (h : LC C T) {q t f : Nat} (hq : q < T.1.1) (hn : T.1.2 < 30) (hz : T.2 12 T.1.2 = 0) : LC (zh_u (zh_u (zh_u (zh_u (zh_u (zh_u (zh_u (zh_u C 1 (6 + q) (nI (zd_roll (T.2 1 q) (T.2 4 t) f).1)) 2 T.1.2 (nI (4 * q + t))) 3 T.1.2 (nI (T.2 4 t))) 4 T.1.2 (nI f)) 5 T.1.2 (nI (zd_val (T.2 1 q) (T.2 4 t) f))) 6 T.1.2 (nI (zd_roll (T.2 1 q) (T.2 4 t) f).2)) 7 T.1.2 (nI (zd_sum (zb_roll T) q t f (zd_val (T.2 1 q) (T.2 4 t) f) (zd_roll (T.2 1 q) (T.2 4 t) f).2))) 0 1 (nI (T.1.2 + 1))) (zs_rolled T q t f) := by
  obtain ⟨⟨n1, n2⟩, ⟨q0, q1⟩, ⟨b2, b3, b4⟩, qp, dk, ek⟩ := h
  unfold zs_rolled
  generalize (zd_roll (T.2 1 q) (T.2 4 t) f).1 = r1
  generalize (zd_roll (T.2 1 q) (T.2 4 t) f).2 = r2
  generalize zd_val (T.2 1 q) (T.2 4 t) f = vv
  generalize zd_sum (zb_roll T) q t f vv r2 = sm
  refine ⟨⟨n1, by show T.1.2 + 1 ≤ 30; omega⟩, ⟨?_, ?_⟩, ⟨zbt_ext b2 (fun k _ => ?_), zbt_ext b3 (fun k _ => ?_), zbt_ext b4 (fun k _ => ?_)⟩, fun t ht => ?_, fun k hk => ?_, fun k hk => ?_⟩
  all_goals simp only [zu_dc]
  all_goals first | rfl | grind
