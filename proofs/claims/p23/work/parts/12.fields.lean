/-! MY OWN LAYER, 3: rows of the fields, written by wip/p23/gen_fields.py -/
theorem zin_Draws : ∀ w ∈ wsX00, w ∈ zc_W := by decide +kernel
theorem zin_Entry : ∀ w ∈ wsX10, w ∈ zc_W := by decide +kernel
theorem zin_Promise : ∀ w ∈ wsX20, w ∈ zc_W := by decide +kernel
theorem zin_Forge : ∀ w ∈ wsX30, w ∈ zc_W := by decide +kernel
theorem zin_List : ∀ w ∈ wsJx4a65c0, w ∈ zc_W := by decide +kernel
section ZF
variable {p : Program} {l : Launch} {e : Env} {R : Room} {s : State} {m : MethodId} {args : Array Value} {below : List Frame} {meth : Method} {c : Code} {H : Heap} {locs : List Loc} {cells slots : Nat} {Q : State → Prop}
variable {g : zG} {A : Nat → Prop} {X : va_W} {S : zS} {cc : ByteArray} {nL : Nat} {own host : String} {pc idx a : Nat} {ls : Array Slot} {rest : List Value}
theorem zf_fresh {q : Nat} {e0 : va_E} (hD : va_D A ((X ++ zh_w g S) ++ [(q, e0)])) : q ∉ zh_L S := fun h => by
  obtain ⟨k, hk⟩ := va_pl_get (X := X) (f := fun a => zh_e g S a (zh_K S a)) h
  have hk : (X ++ zh_w g S)[k]? = some (q, zh_e g S q (zh_K S q)) := hk
  have hl := (List.getElem?_eq_some_iff.mp hk).1
  have := hD.1 k (X ++ zh_w g S).length _ (q, e0) ((List.getElem?_append_left hl).trans hk) (by rw [List.getElem?_append_right (Nat.le_refl _), Nat.sub_self]; rfl) rfl
  omega
theorem zf_b {v : Int32} (h : v = 0 ∨ v = 1) : narrow .boolean (.int v) = .int v ∧ fits .boolean (.int v) = true := by rcases h with rfl | rfl <;> exact ⟨rfl, rfl⟩

theorem zg_Draws_state {v : Int32} (C : CallFix p m c cc nL s args zc_W own) (I : zh_V g A s X S H locs) (ha : zh_at S 0 a) (hl : Cond.fieldLink own idx "DiceForge$Draws" "state" "I" ∈ zc_W) (hv : zh_I S 0 a = v) (hdg : decode cc pc = .ok (.getfield idx, 3)) (kk : W p l e R s m args below meth c H locs cells slots Q (F0 m (pc + 3) ls (.int v :: rest))) : W p l e R s m args below meth c H locs cells slots Q (F0 m pc ls (.ref a :: rest)) := by
  obtain ⟨k, hk⟩ := zh_get (g := g) X ha
  have hk : (X ++ zh_w g S)[k]? = some (a, .inr (1, [.int (zh_I S 0 a), .int (zh_I S 1 a)])) := hk
  refine va_get (D := g.2.2.1) (ci := 1) (v := .int (zh_I S 0 a)) (C := RX0) (T := TX0) (N := 2) C.1 C.2.1 C.2.2.2.2 zin_Draws C.2.2.2.1 I.K I.P k hk rfl 0 (by decide) (C.2.2.2.2 _ hl) (fun _ h => h) rfl hdg ?_
  rw [hv]
  exact kk

theorem zp_Draws_state {v : Int32} (C : CallFix p m c cc nL s args zc_W own) (I : zh_V g A s X S H locs) (ha : zh_at S 0 a) (hl : Cond.fieldLink own idx "DiceForge$Draws" "state" "I" ∈ zc_W) (hdg : decode cc pc = .ok (.putfield idx, 3)) (kk : ∀ (H : Heap) (locs : List Loc), zh_V g A s X (zh_sI S 0 a v) H locs → W p l e R s m args below meth c H locs cells slots Q (F0 m (pc + 3) ls rest)) : W p l e R s m args below meth c H locs cells slots Q (F0 m pc ls (.int v :: .ref a :: rest)) := by
  obtain ⟨k, hk⟩ := zh_get (g := g) X ha
  have hk : (X ++ zh_w g S)[k]? = some (a, .inr (1, [.int (zh_I S 0 a), .int (zh_I S 1 a)])) := hk
  refine va_put (D := g.2.2.1) (ci := 1) (ty := .int) (v := .int v) (C := RX0) (T := TX0) (N := 2) C.1 C.2.1 C.2.2.2.2 zin_Draws tyX0 tyX0_ok nmX0 C.2.2.2.1 I.K I.P I.D I.S k hk rfl 0 (by decide) (C.2.2.2.2 _ hl) (fun _ h => h) rfl (by decide +kernel) rfl rfl (Nat.le_of_ble_eq_true rfl) hdg (fun H1 locs1 hP hD hS => kk H1 locs1 (I.to (zh_set I.D ha hk rfl rfl ?_ (fun b hb k => zh_e_sI g S _ hb k)) hP hD hS))
  simp [zh_e, zh_I_sI, zh_R_sI, zh_u]

theorem zg_Draws_rejected {v : Int32} (C : CallFix p m c cc nL s args zc_W own) (I : zh_V g A s X S H locs) (ha : zh_at S 0 a) (hl : Cond.fieldLink own idx "DiceForge$Draws" "rejected" "I" ∈ zc_W) (hv : zh_I S 1 a = v) (hdg : decode cc pc = .ok (.getfield idx, 3)) (kk : W p l e R s m args below meth c H locs cells slots Q (F0 m (pc + 3) ls (.int v :: rest))) : W p l e R s m args below meth c H locs cells slots Q (F0 m pc ls (.ref a :: rest)) := by
  obtain ⟨k, hk⟩ := zh_get (g := g) X ha
  have hk : (X ++ zh_w g S)[k]? = some (a, .inr (1, [.int (zh_I S 0 a), .int (zh_I S 1 a)])) := hk
  refine va_get (D := g.2.2.1) (ci := 1) (v := .int (zh_I S 1 a)) (C := RX0) (T := TX0) (N := 2) C.1 C.2.1 C.2.2.2.2 zin_Draws C.2.2.2.1 I.K I.P k hk rfl 1 (by decide) (C.2.2.2.2 _ hl) (fun _ h => h) rfl hdg ?_
  rw [hv]
  exact kk

theorem zn_Draws_rejected {v : Int32} (C : CallFix p m c cc nL s args zc_W own) (I : zh_V g A s X S H locs) (ha : zh_at S 0 a) (hl : Cond.fieldLinkNest own idx "DiceForge$Draws" "rejected" "I" host ∈ zn_ws) (hv : zh_I S 1 a = v) (hdg : decode cc pc = .ok (.getfield idx, 3)) (kk : W p l e R s m args below meth c H locs cells slots Q (F0 m (pc + 3) ls (.int v :: rest))) : W p l e R s m args below meth c H locs cells slots Q (F0 m pc ls (.ref a :: rest)) := by
  obtain ⟨k, hk⟩ := zh_get (g := g) X ha
  have hk : (X ++ zh_w g S)[k]? = some (a, .inr (1, [.int (zh_I S 0 a), .int (zh_I S 1 a)])) := hk
  refine va_getN (host := host) (D := g.2.2.1) (ci := 1) (v := .int (zh_I S 1 a)) (C := RX0) (T := TX0) (N := 2) C.1 C.2.1 C.2.2.2.2 zin_Draws C.2.2.2.1 I.K I.P k hk rfl 1 (by decide) (va_Nw.use rfl (I.O.1 _ hl)) (fun _ h => h) rfl hdg ?_
  rw [hv]
  exact kk

theorem zp_Draws_rejected {v : Int32} (C : CallFix p m c cc nL s args zc_W own) (I : zh_V g A s X S H locs) (ha : zh_at S 0 a) (hl : Cond.fieldLink own idx "DiceForge$Draws" "rejected" "I" ∈ zc_W) (hdg : decode cc pc = .ok (.putfield idx, 3)) (kk : ∀ (H : Heap) (locs : List Loc), zh_V g A s X (zh_sI S 1 a v) H locs → W p l e R s m args below meth c H locs cells slots Q (F0 m (pc + 3) ls rest)) : W p l e R s m args below meth c H locs cells slots Q (F0 m pc ls (.int v :: .ref a :: rest)) := by
  obtain ⟨k, hk⟩ := zh_get (g := g) X ha
  have hk : (X ++ zh_w g S)[k]? = some (a, .inr (1, [.int (zh_I S 0 a), .int (zh_I S 1 a)])) := hk
  refine va_put (D := g.2.2.1) (ci := 1) (ty := .int) (v := .int v) (C := RX0) (T := TX0) (N := 2) C.1 C.2.1 C.2.2.2.2 zin_Draws tyX0 tyX0_ok nmX0 C.2.2.2.1 I.K I.P I.D I.S k hk rfl 1 (by decide) (C.2.2.2.2 _ hl) (fun _ h => h) rfl (by decide +kernel) rfl rfl (Nat.le_of_ble_eq_true rfl) hdg (fun H1 locs1 hP hD hS => kk H1 locs1 (I.to (zh_set I.D ha hk rfl rfl ?_ (fun b hb k => zh_e_sI g S _ hb k)) hP hD hS))
  simp [zh_e, zh_I_sI, zh_R_sI, zh_u]

theorem zq_Draws_rejected {v : Int32} (C : CallFix p m c cc nL s args zc_W own) (I : zh_V g A s X S H locs) (ha : zh_at S 0 a) (hl : Cond.fieldLinkNest own idx "DiceForge$Draws" "rejected" "I" host ∈ zn_ws) (hdg : decode cc pc = .ok (.putfield idx, 3)) (kk : ∀ (H : Heap) (locs : List Loc), zh_V g A s X (zh_sI S 1 a v) H locs → W p l e R s m args below meth c H locs cells slots Q (F0 m (pc + 3) ls rest)) : W p l e R s m args below meth c H locs cells slots Q (F0 m pc ls (.int v :: .ref a :: rest)) := by
  obtain ⟨k, hk⟩ := zh_get (g := g) X ha
  have hk : (X ++ zh_w g S)[k]? = some (a, .inr (1, [.int (zh_I S 0 a), .int (zh_I S 1 a)])) := hk
  refine va_putN (host := host) (D := g.2.2.1) (ci := 1) (ty := .int) (v := .int v) (C := RX0) (T := TX0) (N := 2) C.1 C.2.1 C.2.2.2.2 zin_Draws tyX0 tyX0_ok nmX0 C.2.2.2.1 I.K I.P I.D I.S k hk rfl 1 (by decide) (va_Nw.use rfl (I.O.1 _ hl)) (fun _ h => h) rfl (by decide +kernel) rfl rfl (Nat.le_of_ble_eq_true rfl) hdg (fun H1 locs1 hP hD hS => kk H1 locs1 (I.to (zh_set I.D ha hk rfl rfl ?_ (fun b hb k => zh_e_sI g S _ hb k)) hP hD hS))
  simp [zh_e, zh_I_sI, zh_R_sI, zh_u]

theorem zw_Draws (C : CallFix p m c cc nL s args zc_W own) (I : zh_V g A s X S H locs) (hcl : Cond.classLink own idx RX0 ∈ zc_W) (hinst : Cond.instantiable RX0 2 ∈ zc_W) (hini : Cond.initialized RX0 ∈ zc_W) (hc1 : cells + 1 ≤ R.cells) (hs1 : slots + 2 ≤ R.slots) (hdg : decode cc pc = .ok (.new idx, 3)) (kk : ∀ (q : Nat) (H : Heap), q ∉ zh_L S → zh_V g A s X (zh_nO S q 0) H locs → W p l e R s m args below meth c H locs (cells + 1) (slots + 2) Q (F0 m (pc + 3) ls (.ref q :: rest))) : W p l e R s m args below meth c H locs cells slots Q (F0 m pc ls rest) := by
  refine va_new (ci := 1) (fs := [.int 0, .int 0]) (C := RX0) (T := TX0) (N := 2) C.1 C.2.1 C.2.2.2.2 zin_Draws tyX0 tyX0_ok C.2.2.2.1 (C.2.2.2.2 _ hcl) (C.2.2.2.2 _ hinst) (C.2.2.2.2 _ hini) I.K I.P I.D I.S I.A rfl (fun j hj => by rcases (show j = 0 ∨ j = 1 by omega) with rfl | rfl <;> rfl) hc1 hs1 hdg (fun q H1 hP hD hS => ?_)
  have hq : q ∉ zh_L S := zf_fresh hD
  exact kk q H1 hq (I.to (zh_push hq rfl rfl (by simp [zh_e, zh_nO, zh_I, zh_R, va_rf]) (fun b hb k => zh_e_nO g S _ hb k)) hP hD hS)

theorem zg_Entry_promise {v : Int32} (C : CallFix p m c cc nL s args zc_W own) (I : zh_V g A s X S H locs) (ha : zh_at S 1 a) (hl : Cond.fieldLink own idx "DiceForge$Entry" "promise" "I" ∈ zc_W) (hv : zh_I S 2 a = v) (hdg : decode cc pc = .ok (.getfield idx, 3)) (kk : W p l e R s m args below meth c H locs cells slots Q (F0 m (pc + 3) ls (.int v :: rest))) : W p l e R s m args below meth c H locs cells slots Q (F0 m pc ls (.ref a :: rest)) := by
  obtain ⟨k, hk⟩ := zh_get (g := g) X ha
  have hk : (X ++ zh_w g S)[k]? = some (a, .inr (2, [.int (zh_I S 2 a), .int (zh_I S 3 a), .int (zh_I S 4 a), .int (zh_I S 5 a), .int (zh_I S 6 a), .int (zh_I S 7 a), .int (zh_I S 8 a), .int (zh_I S 9 a)])) := hk
  refine va_get (D := g.2.2.1) (ci := 2) (v := .int (zh_I S 2 a)) (C := RX1) (T := TX1) (N := 8) C.1 C.2.1 C.2.2.2.2 zin_Entry C.2.2.2.1 I.K I.P k hk rfl 0 (by decide) (C.2.2.2.2 _ hl) (fun _ h => h) rfl hdg ?_
  rw [hv]
  exact kk

theorem zn_Entry_promise {v : Int32} (C : CallFix p m c cc nL s args zc_W own) (I : zh_V g A s X S H locs) (ha : zh_at S 1 a) (hl : Cond.fieldLinkNest own idx "DiceForge$Entry" "promise" "I" host ∈ zn_ws) (hv : zh_I S 2 a = v) (hdg : decode cc pc = .ok (.getfield idx, 3)) (kk : W p l e R s m args below meth c H locs cells slots Q (F0 m (pc + 3) ls (.int v :: rest))) : W p l e R s m args below meth c H locs cells slots Q (F0 m pc ls (.ref a :: rest)) := by
  obtain ⟨k, hk⟩ := zh_get (g := g) X ha
  have hk : (X ++ zh_w g S)[k]? = some (a, .inr (2, [.int (zh_I S 2 a), .int (zh_I S 3 a), .int (zh_I S 4 a), .int (zh_I S 5 a), .int (zh_I S 6 a), .int (zh_I S 7 a), .int (zh_I S 8 a), .int (zh_I S 9 a)])) := hk
  refine va_getN (host := host) (D := g.2.2.1) (ci := 2) (v := .int (zh_I S 2 a)) (C := RX1) (T := TX1) (N := 8) C.1 C.2.1 C.2.2.2.2 zin_Entry C.2.2.2.1 I.K I.P k hk rfl 0 (by decide) (va_Nw.use rfl (I.O.1 _ hl)) (fun _ h => h) rfl hdg ?_
  rw [hv]
  exact kk

theorem zf_Entry_promise {v : Int32} (C : CallFix p m c cc nL s args zc_W own) (I : zh_V g A s X S H locs) (ha : zh_at S 1 a) (hl : Cond.fieldLink own idx "DiceForge$Entry" "promise" "I" ∈ zc_W) (hin2 : meth.name = "<init>") (hdecl : "DiceForge$Entry" = own) (hdg : decode cc pc = .ok (.putfield idx, 3)) (kk : ∀ (H : Heap) (locs : List Loc), zh_V g A s X (zh_sI S 2 a v) H locs → W p l e R s m args below meth c H locs cells slots Q (F0 m (pc + 3) ls rest)) : W p l e R s m args below meth c H locs cells slots Q (F0 m pc ls (.int v :: .ref a :: rest)) := by
  obtain ⟨k, hk⟩ := zh_get (g := g) X ha
  have hk : (X ++ zh_w g S)[k]? = some (a, .inr (2, [.int (zh_I S 2 a), .int (zh_I S 3 a), .int (zh_I S 4 a), .int (zh_I S 5 a), .int (zh_I S 6 a), .int (zh_I S 7 a), .int (zh_I S 8 a), .int (zh_I S 9 a)])) := hk
  refine va_putF (D := g.2.2.1) (ci := 2) (ty := .int) (v := .int v) (C := RX1) (T := TX1) (N := 8) C.1 C.2.1 C.2.2.2.2 zin_Entry tyX1 tyX1_ok nmX1 C.2.2.2.1 I.K I.P I.D I.S k hk rfl 0 (by decide) (C.2.2.2.2 _ hl) (fun _ h => h) rfl hin2 hdecl (by decide +kernel) rfl rfl (Nat.le_of_ble_eq_true rfl) hdg (fun H1 locs1 hP hD hS => kk H1 locs1 (I.to (zh_set I.D ha hk rfl rfl ?_ (fun b hb k => zh_e_sI g S _ hb k)) hP hD hS))
  simp [zh_e, zh_I_sI, zh_R_sI, zh_u]

theorem zg_Entry_table {v : Int32} (C : CallFix p m c cc nL s args zc_W own) (I : zh_V g A s X S H locs) (ha : zh_at S 1 a) (hl : Cond.fieldLink own idx "DiceForge$Entry" "table" "I" ∈ zc_W) (hv : zh_I S 3 a = v) (hdg : decode cc pc = .ok (.getfield idx, 3)) (kk : W p l e R s m args below meth c H locs cells slots Q (F0 m (pc + 3) ls (.int v :: rest))) : W p l e R s m args below meth c H locs cells slots Q (F0 m pc ls (.ref a :: rest)) := by
  obtain ⟨k, hk⟩ := zh_get (g := g) X ha
  have hk : (X ++ zh_w g S)[k]? = some (a, .inr (2, [.int (zh_I S 2 a), .int (zh_I S 3 a), .int (zh_I S 4 a), .int (zh_I S 5 a), .int (zh_I S 6 a), .int (zh_I S 7 a), .int (zh_I S 8 a), .int (zh_I S 9 a)])) := hk
  refine va_get (D := g.2.2.1) (ci := 2) (v := .int (zh_I S 3 a)) (C := RX1) (T := TX1) (N := 8) C.1 C.2.1 C.2.2.2.2 zin_Entry C.2.2.2.1 I.K I.P k hk rfl 1 (by decide) (C.2.2.2.2 _ hl) (fun _ h => h) rfl hdg ?_
  rw [hv]
  exact kk

theorem zn_Entry_table {v : Int32} (C : CallFix p m c cc nL s args zc_W own) (I : zh_V g A s X S H locs) (ha : zh_at S 1 a) (hl : Cond.fieldLinkNest own idx "DiceForge$Entry" "table" "I" host ∈ zn_ws) (hv : zh_I S 3 a = v) (hdg : decode cc pc = .ok (.getfield idx, 3)) (kk : W p l e R s m args below meth c H locs cells slots Q (F0 m (pc + 3) ls (.int v :: rest))) : W p l e R s m args below meth c H locs cells slots Q (F0 m pc ls (.ref a :: rest)) := by
  obtain ⟨k, hk⟩ := zh_get (g := g) X ha
  have hk : (X ++ zh_w g S)[k]? = some (a, .inr (2, [.int (zh_I S 2 a), .int (zh_I S 3 a), .int (zh_I S 4 a), .int (zh_I S 5 a), .int (zh_I S 6 a), .int (zh_I S 7 a), .int (zh_I S 8 a), .int (zh_I S 9 a)])) := hk
  refine va_getN (host := host) (D := g.2.2.1) (ci := 2) (v := .int (zh_I S 3 a)) (C := RX1) (T := TX1) (N := 8) C.1 C.2.1 C.2.2.2.2 zin_Entry C.2.2.2.1 I.K I.P k hk rfl 1 (by decide) (va_Nw.use rfl (I.O.1 _ hl)) (fun _ h => h) rfl hdg ?_
  rw [hv]
  exact kk

theorem zf_Entry_table {v : Int32} (C : CallFix p m c cc nL s args zc_W own) (I : zh_V g A s X S H locs) (ha : zh_at S 1 a) (hl : Cond.fieldLink own idx "DiceForge$Entry" "table" "I" ∈ zc_W) (hin2 : meth.name = "<init>") (hdecl : "DiceForge$Entry" = own) (hdg : decode cc pc = .ok (.putfield idx, 3)) (kk : ∀ (H : Heap) (locs : List Loc), zh_V g A s X (zh_sI S 3 a v) H locs → W p l e R s m args below meth c H locs cells slots Q (F0 m (pc + 3) ls rest)) : W p l e R s m args below meth c H locs cells slots Q (F0 m pc ls (.int v :: .ref a :: rest)) := by
  obtain ⟨k, hk⟩ := zh_get (g := g) X ha
  have hk : (X ++ zh_w g S)[k]? = some (a, .inr (2, [.int (zh_I S 2 a), .int (zh_I S 3 a), .int (zh_I S 4 a), .int (zh_I S 5 a), .int (zh_I S 6 a), .int (zh_I S 7 a), .int (zh_I S 8 a), .int (zh_I S 9 a)])) := hk
  refine va_putF (D := g.2.2.1) (ci := 2) (ty := .int) (v := .int v) (C := RX1) (T := TX1) (N := 8) C.1 C.2.1 C.2.2.2.2 zin_Entry tyX1 tyX1_ok nmX1 C.2.2.2.1 I.K I.P I.D I.S k hk rfl 1 (by decide) (C.2.2.2.2 _ hl) (fun _ h => h) rfl hin2 hdecl (by decide +kernel) rfl rfl (Nat.le_of_ble_eq_true rfl) hdg (fun H1 locs1 hP hD hS => kk H1 locs1 (I.to (zh_set I.D ha hk rfl rfl ?_ (fun b hb k => zh_e_sI g S _ hb k)) hP hD hS))
  simp [zh_e, zh_I_sI, zh_R_sI, zh_u]

theorem zg_Entry_part {v : Int32} (C : CallFix p m c cc nL s args zc_W own) (I : zh_V g A s X S H locs) (ha : zh_at S 1 a) (hl : Cond.fieldLink own idx "DiceForge$Entry" "part" "I" ∈ zc_W) (hv : zh_I S 4 a = v) (hdg : decode cc pc = .ok (.getfield idx, 3)) (kk : W p l e R s m args below meth c H locs cells slots Q (F0 m (pc + 3) ls (.int v :: rest))) : W p l e R s m args below meth c H locs cells slots Q (F0 m pc ls (.ref a :: rest)) := by
  obtain ⟨k, hk⟩ := zh_get (g := g) X ha
  have hk : (X ++ zh_w g S)[k]? = some (a, .inr (2, [.int (zh_I S 2 a), .int (zh_I S 3 a), .int (zh_I S 4 a), .int (zh_I S 5 a), .int (zh_I S 6 a), .int (zh_I S 7 a), .int (zh_I S 8 a), .int (zh_I S 9 a)])) := hk
  refine va_get (D := g.2.2.1) (ci := 2) (v := .int (zh_I S 4 a)) (C := RX1) (T := TX1) (N := 8) C.1 C.2.1 C.2.2.2.2 zin_Entry C.2.2.2.1 I.K I.P k hk rfl 2 (by decide) (C.2.2.2.2 _ hl) (fun _ h => h) rfl hdg ?_
  rw [hv]
  exact kk

theorem zn_Entry_part {v : Int32} (C : CallFix p m c cc nL s args zc_W own) (I : zh_V g A s X S H locs) (ha : zh_at S 1 a) (hl : Cond.fieldLinkNest own idx "DiceForge$Entry" "part" "I" host ∈ zn_ws) (hv : zh_I S 4 a = v) (hdg : decode cc pc = .ok (.getfield idx, 3)) (kk : W p l e R s m args below meth c H locs cells slots Q (F0 m (pc + 3) ls (.int v :: rest))) : W p l e R s m args below meth c H locs cells slots Q (F0 m pc ls (.ref a :: rest)) := by
  obtain ⟨k, hk⟩ := zh_get (g := g) X ha
  have hk : (X ++ zh_w g S)[k]? = some (a, .inr (2, [.int (zh_I S 2 a), .int (zh_I S 3 a), .int (zh_I S 4 a), .int (zh_I S 5 a), .int (zh_I S 6 a), .int (zh_I S 7 a), .int (zh_I S 8 a), .int (zh_I S 9 a)])) := hk
  refine va_getN (host := host) (D := g.2.2.1) (ci := 2) (v := .int (zh_I S 4 a)) (C := RX1) (T := TX1) (N := 8) C.1 C.2.1 C.2.2.2.2 zin_Entry C.2.2.2.1 I.K I.P k hk rfl 2 (by decide) (va_Nw.use rfl (I.O.1 _ hl)) (fun _ h => h) rfl hdg ?_
  rw [hv]
  exact kk

theorem zf_Entry_part {v : Int32} (C : CallFix p m c cc nL s args zc_W own) (I : zh_V g A s X S H locs) (ha : zh_at S 1 a) (hl : Cond.fieldLink own idx "DiceForge$Entry" "part" "I" ∈ zc_W) (hin2 : meth.name = "<init>") (hdecl : "DiceForge$Entry" = own) (hdg : decode cc pc = .ok (.putfield idx, 3)) (kk : ∀ (H : Heap) (locs : List Loc), zh_V g A s X (zh_sI S 4 a v) H locs → W p l e R s m args below meth c H locs cells slots Q (F0 m (pc + 3) ls rest)) : W p l e R s m args below meth c H locs cells slots Q (F0 m pc ls (.int v :: .ref a :: rest)) := by
  obtain ⟨k, hk⟩ := zh_get (g := g) X ha
  have hk : (X ++ zh_w g S)[k]? = some (a, .inr (2, [.int (zh_I S 2 a), .int (zh_I S 3 a), .int (zh_I S 4 a), .int (zh_I S 5 a), .int (zh_I S 6 a), .int (zh_I S 7 a), .int (zh_I S 8 a), .int (zh_I S 9 a)])) := hk
  refine va_putF (D := g.2.2.1) (ci := 2) (ty := .int) (v := .int v) (C := RX1) (T := TX1) (N := 8) C.1 C.2.1 C.2.2.2.2 zin_Entry tyX1 tyX1_ok nmX1 C.2.2.2.1 I.K I.P I.D I.S k hk rfl 2 (by decide) (C.2.2.2.2 _ hl) (fun _ h => h) rfl hin2 hdecl (by decide +kernel) rfl rfl (Nat.le_of_ble_eq_true rfl) hdg (fun H1 locs1 hP hD hS => kk H1 locs1 (I.to (zh_set I.D ha hk rfl rfl ?_ (fun b hb k => zh_e_sI g S _ hb k)) hP hD hS))
  simp [zh_e, zh_I_sI, zh_R_sI, zh_u]

theorem zg_Entry_faces {v : Int32} (C : CallFix p m c cc nL s args zc_W own) (I : zh_V g A s X S H locs) (ha : zh_at S 1 a) (hl : Cond.fieldLink own idx "DiceForge$Entry" "faces" "I" ∈ zc_W) (hv : zh_I S 5 a = v) (hdg : decode cc pc = .ok (.getfield idx, 3)) (kk : W p l e R s m args below meth c H locs cells slots Q (F0 m (pc + 3) ls (.int v :: rest))) : W p l e R s m args below meth c H locs cells slots Q (F0 m pc ls (.ref a :: rest)) := by
  obtain ⟨k, hk⟩ := zh_get (g := g) X ha
  have hk : (X ++ zh_w g S)[k]? = some (a, .inr (2, [.int (zh_I S 2 a), .int (zh_I S 3 a), .int (zh_I S 4 a), .int (zh_I S 5 a), .int (zh_I S 6 a), .int (zh_I S 7 a), .int (zh_I S 8 a), .int (zh_I S 9 a)])) := hk
  refine va_get (D := g.2.2.1) (ci := 2) (v := .int (zh_I S 5 a)) (C := RX1) (T := TX1) (N := 8) C.1 C.2.1 C.2.2.2.2 zin_Entry C.2.2.2.1 I.K I.P k hk rfl 3 (by decide) (C.2.2.2.2 _ hl) (fun _ h => h) rfl hdg ?_
  rw [hv]
  exact kk

theorem zn_Entry_faces {v : Int32} (C : CallFix p m c cc nL s args zc_W own) (I : zh_V g A s X S H locs) (ha : zh_at S 1 a) (hl : Cond.fieldLinkNest own idx "DiceForge$Entry" "faces" "I" host ∈ zn_ws) (hv : zh_I S 5 a = v) (hdg : decode cc pc = .ok (.getfield idx, 3)) (kk : W p l e R s m args below meth c H locs cells slots Q (F0 m (pc + 3) ls (.int v :: rest))) : W p l e R s m args below meth c H locs cells slots Q (F0 m pc ls (.ref a :: rest)) := by
  obtain ⟨k, hk⟩ := zh_get (g := g) X ha
  have hk : (X ++ zh_w g S)[k]? = some (a, .inr (2, [.int (zh_I S 2 a), .int (zh_I S 3 a), .int (zh_I S 4 a), .int (zh_I S 5 a), .int (zh_I S 6 a), .int (zh_I S 7 a), .int (zh_I S 8 a), .int (zh_I S 9 a)])) := hk
  refine va_getN (host := host) (D := g.2.2.1) (ci := 2) (v := .int (zh_I S 5 a)) (C := RX1) (T := TX1) (N := 8) C.1 C.2.1 C.2.2.2.2 zin_Entry C.2.2.2.1 I.K I.P k hk rfl 3 (by decide) (va_Nw.use rfl (I.O.1 _ hl)) (fun _ h => h) rfl hdg ?_
  rw [hv]
  exact kk

theorem zf_Entry_faces {v : Int32} (C : CallFix p m c cc nL s args zc_W own) (I : zh_V g A s X S H locs) (ha : zh_at S 1 a) (hl : Cond.fieldLink own idx "DiceForge$Entry" "faces" "I" ∈ zc_W) (hin2 : meth.name = "<init>") (hdecl : "DiceForge$Entry" = own) (hdg : decode cc pc = .ok (.putfield idx, 3)) (kk : ∀ (H : Heap) (locs : List Loc), zh_V g A s X (zh_sI S 5 a v) H locs → W p l e R s m args below meth c H locs cells slots Q (F0 m (pc + 3) ls rest)) : W p l e R s m args below meth c H locs cells slots Q (F0 m pc ls (.int v :: .ref a :: rest)) := by
  obtain ⟨k, hk⟩ := zh_get (g := g) X ha
  have hk : (X ++ zh_w g S)[k]? = some (a, .inr (2, [.int (zh_I S 2 a), .int (zh_I S 3 a), .int (zh_I S 4 a), .int (zh_I S 5 a), .int (zh_I S 6 a), .int (zh_I S 7 a), .int (zh_I S 8 a), .int (zh_I S 9 a)])) := hk
  refine va_putF (D := g.2.2.1) (ci := 2) (ty := .int) (v := .int v) (C := RX1) (T := TX1) (N := 8) C.1 C.2.1 C.2.2.2.2 zin_Entry tyX1 tyX1_ok nmX1 C.2.2.2.1 I.K I.P I.D I.S k hk rfl 3 (by decide) (C.2.2.2.2 _ hl) (fun _ h => h) rfl hin2 hdecl (by decide +kernel) rfl rfl (Nat.le_of_ble_eq_true rfl) hdg (fun H1 locs1 hP hD hS => kk H1 locs1 (I.to (zh_set I.D ha hk rfl rfl ?_ (fun b hb k => zh_e_sI g S _ hb k)) hP hD hS))
  simp [zh_e, zh_I_sI, zh_R_sI, zh_u]

theorem zg_Entry_value {v : Int32} (C : CallFix p m c cc nL s args zc_W own) (I : zh_V g A s X S H locs) (ha : zh_at S 1 a) (hl : Cond.fieldLink own idx "DiceForge$Entry" "value" "I" ∈ zc_W) (hv : zh_I S 6 a = v) (hdg : decode cc pc = .ok (.getfield idx, 3)) (kk : W p l e R s m args below meth c H locs cells slots Q (F0 m (pc + 3) ls (.int v :: rest))) : W p l e R s m args below meth c H locs cells slots Q (F0 m pc ls (.ref a :: rest)) := by
  obtain ⟨k, hk⟩ := zh_get (g := g) X ha
  have hk : (X ++ zh_w g S)[k]? = some (a, .inr (2, [.int (zh_I S 2 a), .int (zh_I S 3 a), .int (zh_I S 4 a), .int (zh_I S 5 a), .int (zh_I S 6 a), .int (zh_I S 7 a), .int (zh_I S 8 a), .int (zh_I S 9 a)])) := hk
  refine va_get (D := g.2.2.1) (ci := 2) (v := .int (zh_I S 6 a)) (C := RX1) (T := TX1) (N := 8) C.1 C.2.1 C.2.2.2.2 zin_Entry C.2.2.2.1 I.K I.P k hk rfl 4 (by decide) (C.2.2.2.2 _ hl) (fun _ h => h) rfl hdg ?_
  rw [hv]
  exact kk

theorem zn_Entry_value {v : Int32} (C : CallFix p m c cc nL s args zc_W own) (I : zh_V g A s X S H locs) (ha : zh_at S 1 a) (hl : Cond.fieldLinkNest own idx "DiceForge$Entry" "value" "I" host ∈ zn_ws) (hv : zh_I S 6 a = v) (hdg : decode cc pc = .ok (.getfield idx, 3)) (kk : W p l e R s m args below meth c H locs cells slots Q (F0 m (pc + 3) ls (.int v :: rest))) : W p l e R s m args below meth c H locs cells slots Q (F0 m pc ls (.ref a :: rest)) := by
  obtain ⟨k, hk⟩ := zh_get (g := g) X ha
  have hk : (X ++ zh_w g S)[k]? = some (a, .inr (2, [.int (zh_I S 2 a), .int (zh_I S 3 a), .int (zh_I S 4 a), .int (zh_I S 5 a), .int (zh_I S 6 a), .int (zh_I S 7 a), .int (zh_I S 8 a), .int (zh_I S 9 a)])) := hk
  refine va_getN (host := host) (D := g.2.2.1) (ci := 2) (v := .int (zh_I S 6 a)) (C := RX1) (T := TX1) (N := 8) C.1 C.2.1 C.2.2.2.2 zin_Entry C.2.2.2.1 I.K I.P k hk rfl 4 (by decide) (va_Nw.use rfl (I.O.1 _ hl)) (fun _ h => h) rfl hdg ?_
  rw [hv]
  exact kk

theorem zp_Entry_value {v : Int32} (C : CallFix p m c cc nL s args zc_W own) (I : zh_V g A s X S H locs) (ha : zh_at S 1 a) (hl : Cond.fieldLink own idx "DiceForge$Entry" "value" "I" ∈ zc_W) (hdg : decode cc pc = .ok (.putfield idx, 3)) (kk : ∀ (H : Heap) (locs : List Loc), zh_V g A s X (zh_sI S 6 a v) H locs → W p l e R s m args below meth c H locs cells slots Q (F0 m (pc + 3) ls rest)) : W p l e R s m args below meth c H locs cells slots Q (F0 m pc ls (.int v :: .ref a :: rest)) := by
  obtain ⟨k, hk⟩ := zh_get (g := g) X ha
  have hk : (X ++ zh_w g S)[k]? = some (a, .inr (2, [.int (zh_I S 2 a), .int (zh_I S 3 a), .int (zh_I S 4 a), .int (zh_I S 5 a), .int (zh_I S 6 a), .int (zh_I S 7 a), .int (zh_I S 8 a), .int (zh_I S 9 a)])) := hk
  refine va_put (D := g.2.2.1) (ci := 2) (ty := .int) (v := .int v) (C := RX1) (T := TX1) (N := 8) C.1 C.2.1 C.2.2.2.2 zin_Entry tyX1 tyX1_ok nmX1 C.2.2.2.1 I.K I.P I.D I.S k hk rfl 4 (by decide) (C.2.2.2.2 _ hl) (fun _ h => h) rfl (by decide +kernel) rfl rfl (Nat.le_of_ble_eq_true rfl) hdg (fun H1 locs1 hP hD hS => kk H1 locs1 (I.to (zh_set I.D ha hk rfl rfl ?_ (fun b hb k => zh_e_sI g S _ hb k)) hP hD hS))
  simp [zh_e, zh_I_sI, zh_R_sI, zh_u]

theorem zq_Entry_value {v : Int32} (C : CallFix p m c cc nL s args zc_W own) (I : zh_V g A s X S H locs) (ha : zh_at S 1 a) (hl : Cond.fieldLinkNest own idx "DiceForge$Entry" "value" "I" host ∈ zn_ws) (hdg : decode cc pc = .ok (.putfield idx, 3)) (kk : ∀ (H : Heap) (locs : List Loc), zh_V g A s X (zh_sI S 6 a v) H locs → W p l e R s m args below meth c H locs cells slots Q (F0 m (pc + 3) ls rest)) : W p l e R s m args below meth c H locs cells slots Q (F0 m pc ls (.int v :: .ref a :: rest)) := by
  obtain ⟨k, hk⟩ := zh_get (g := g) X ha
  have hk : (X ++ zh_w g S)[k]? = some (a, .inr (2, [.int (zh_I S 2 a), .int (zh_I S 3 a), .int (zh_I S 4 a), .int (zh_I S 5 a), .int (zh_I S 6 a), .int (zh_I S 7 a), .int (zh_I S 8 a), .int (zh_I S 9 a)])) := hk
  refine va_putN (host := host) (D := g.2.2.1) (ci := 2) (ty := .int) (v := .int v) (C := RX1) (T := TX1) (N := 8) C.1 C.2.1 C.2.2.2.2 zin_Entry tyX1 tyX1_ok nmX1 C.2.2.2.1 I.K I.P I.D I.S k hk rfl 4 (by decide) (va_Nw.use rfl (I.O.1 _ hl)) (fun _ h => h) rfl (by decide +kernel) rfl rfl (Nat.le_of_ble_eq_true rfl) hdg (fun H1 locs1 hP hD hS => kk H1 locs1 (I.to (zh_set I.D ha hk rfl rfl ?_ (fun b hb k => zh_e_sI g S _ hb k)) hP hD hS))
  simp [zh_e, zh_I_sI, zh_R_sI, zh_u]

theorem zg_Entry_rejected {v : Int32} (C : CallFix p m c cc nL s args zc_W own) (I : zh_V g A s X S H locs) (ha : zh_at S 1 a) (hl : Cond.fieldLink own idx "DiceForge$Entry" "rejected" "I" ∈ zc_W) (hv : zh_I S 7 a = v) (hdg : decode cc pc = .ok (.getfield idx, 3)) (kk : W p l e R s m args below meth c H locs cells slots Q (F0 m (pc + 3) ls (.int v :: rest))) : W p l e R s m args below meth c H locs cells slots Q (F0 m pc ls (.ref a :: rest)) := by
  obtain ⟨k, hk⟩ := zh_get (g := g) X ha
  have hk : (X ++ zh_w g S)[k]? = some (a, .inr (2, [.int (zh_I S 2 a), .int (zh_I S 3 a), .int (zh_I S 4 a), .int (zh_I S 5 a), .int (zh_I S 6 a), .int (zh_I S 7 a), .int (zh_I S 8 a), .int (zh_I S 9 a)])) := hk
  refine va_get (D := g.2.2.1) (ci := 2) (v := .int (zh_I S 7 a)) (C := RX1) (T := TX1) (N := 8) C.1 C.2.1 C.2.2.2.2 zin_Entry C.2.2.2.1 I.K I.P k hk rfl 5 (by decide) (C.2.2.2.2 _ hl) (fun _ h => h) rfl hdg ?_
  rw [hv]
  exact kk

theorem zn_Entry_rejected {v : Int32} (C : CallFix p m c cc nL s args zc_W own) (I : zh_V g A s X S H locs) (ha : zh_at S 1 a) (hl : Cond.fieldLinkNest own idx "DiceForge$Entry" "rejected" "I" host ∈ zn_ws) (hv : zh_I S 7 a = v) (hdg : decode cc pc = .ok (.getfield idx, 3)) (kk : W p l e R s m args below meth c H locs cells slots Q (F0 m (pc + 3) ls (.int v :: rest))) : W p l e R s m args below meth c H locs cells slots Q (F0 m pc ls (.ref a :: rest)) := by
  obtain ⟨k, hk⟩ := zh_get (g := g) X ha
  have hk : (X ++ zh_w g S)[k]? = some (a, .inr (2, [.int (zh_I S 2 a), .int (zh_I S 3 a), .int (zh_I S 4 a), .int (zh_I S 5 a), .int (zh_I S 6 a), .int (zh_I S 7 a), .int (zh_I S 8 a), .int (zh_I S 9 a)])) := hk
  refine va_getN (host := host) (D := g.2.2.1) (ci := 2) (v := .int (zh_I S 7 a)) (C := RX1) (T := TX1) (N := 8) C.1 C.2.1 C.2.2.2.2 zin_Entry C.2.2.2.1 I.K I.P k hk rfl 5 (by decide) (va_Nw.use rfl (I.O.1 _ hl)) (fun _ h => h) rfl hdg ?_
  rw [hv]
  exact kk

theorem zp_Entry_rejected {v : Int32} (C : CallFix p m c cc nL s args zc_W own) (I : zh_V g A s X S H locs) (ha : zh_at S 1 a) (hl : Cond.fieldLink own idx "DiceForge$Entry" "rejected" "I" ∈ zc_W) (hdg : decode cc pc = .ok (.putfield idx, 3)) (kk : ∀ (H : Heap) (locs : List Loc), zh_V g A s X (zh_sI S 7 a v) H locs → W p l e R s m args below meth c H locs cells slots Q (F0 m (pc + 3) ls rest)) : W p l e R s m args below meth c H locs cells slots Q (F0 m pc ls (.int v :: .ref a :: rest)) := by
  obtain ⟨k, hk⟩ := zh_get (g := g) X ha
  have hk : (X ++ zh_w g S)[k]? = some (a, .inr (2, [.int (zh_I S 2 a), .int (zh_I S 3 a), .int (zh_I S 4 a), .int (zh_I S 5 a), .int (zh_I S 6 a), .int (zh_I S 7 a), .int (zh_I S 8 a), .int (zh_I S 9 a)])) := hk
  refine va_put (D := g.2.2.1) (ci := 2) (ty := .int) (v := .int v) (C := RX1) (T := TX1) (N := 8) C.1 C.2.1 C.2.2.2.2 zin_Entry tyX1 tyX1_ok nmX1 C.2.2.2.1 I.K I.P I.D I.S k hk rfl 5 (by decide) (C.2.2.2.2 _ hl) (fun _ h => h) rfl (by decide +kernel) rfl rfl (Nat.le_of_ble_eq_true rfl) hdg (fun H1 locs1 hP hD hS => kk H1 locs1 (I.to (zh_set I.D ha hk rfl rfl ?_ (fun b hb k => zh_e_sI g S _ hb k)) hP hD hS))
  simp [zh_e, zh_I_sI, zh_R_sI, zh_u]

theorem zq_Entry_rejected {v : Int32} (C : CallFix p m c cc nL s args zc_W own) (I : zh_V g A s X S H locs) (ha : zh_at S 1 a) (hl : Cond.fieldLinkNest own idx "DiceForge$Entry" "rejected" "I" host ∈ zn_ws) (hdg : decode cc pc = .ok (.putfield idx, 3)) (kk : ∀ (H : Heap) (locs : List Loc), zh_V g A s X (zh_sI S 7 a v) H locs → W p l e R s m args below meth c H locs cells slots Q (F0 m (pc + 3) ls rest)) : W p l e R s m args below meth c H locs cells slots Q (F0 m pc ls (.int v :: .ref a :: rest)) := by
  obtain ⟨k, hk⟩ := zh_get (g := g) X ha
  have hk : (X ++ zh_w g S)[k]? = some (a, .inr (2, [.int (zh_I S 2 a), .int (zh_I S 3 a), .int (zh_I S 4 a), .int (zh_I S 5 a), .int (zh_I S 6 a), .int (zh_I S 7 a), .int (zh_I S 8 a), .int (zh_I S 9 a)])) := hk
  refine va_putN (host := host) (D := g.2.2.1) (ci := 2) (ty := .int) (v := .int v) (C := RX1) (T := TX1) (N := 8) C.1 C.2.1 C.2.2.2.2 zin_Entry tyX1 tyX1_ok nmX1 C.2.2.2.1 I.K I.P I.D I.S k hk rfl 5 (by decide) (va_Nw.use rfl (I.O.1 _ hl)) (fun _ h => h) rfl (by decide +kernel) rfl rfl (Nat.le_of_ble_eq_true rfl) hdg (fun H1 locs1 hP hD hS => kk H1 locs1 (I.to (zh_set I.D ha hk rfl rfl ?_ (fun b hb k => zh_e_sI g S _ hb k)) hP hD hS))
  simp [zh_e, zh_I_sI, zh_R_sI, zh_u]

theorem zg_Entry_sum {v : Int32} (C : CallFix p m c cc nL s args zc_W own) (I : zh_V g A s X S H locs) (ha : zh_at S 1 a) (hl : Cond.fieldLink own idx "DiceForge$Entry" "sum" "I" ∈ zc_W) (hv : zh_I S 8 a = v) (hdg : decode cc pc = .ok (.getfield idx, 3)) (kk : W p l e R s m args below meth c H locs cells slots Q (F0 m (pc + 3) ls (.int v :: rest))) : W p l e R s m args below meth c H locs cells slots Q (F0 m pc ls (.ref a :: rest)) := by
  obtain ⟨k, hk⟩ := zh_get (g := g) X ha
  have hk : (X ++ zh_w g S)[k]? = some (a, .inr (2, [.int (zh_I S 2 a), .int (zh_I S 3 a), .int (zh_I S 4 a), .int (zh_I S 5 a), .int (zh_I S 6 a), .int (zh_I S 7 a), .int (zh_I S 8 a), .int (zh_I S 9 a)])) := hk
  refine va_get (D := g.2.2.1) (ci := 2) (v := .int (zh_I S 8 a)) (C := RX1) (T := TX1) (N := 8) C.1 C.2.1 C.2.2.2.2 zin_Entry C.2.2.2.1 I.K I.P k hk rfl 6 (by decide) (C.2.2.2.2 _ hl) (fun _ h => h) rfl hdg ?_
  rw [hv]
  exact kk

theorem zn_Entry_sum {v : Int32} (C : CallFix p m c cc nL s args zc_W own) (I : zh_V g A s X S H locs) (ha : zh_at S 1 a) (hl : Cond.fieldLinkNest own idx "DiceForge$Entry" "sum" "I" host ∈ zn_ws) (hv : zh_I S 8 a = v) (hdg : decode cc pc = .ok (.getfield idx, 3)) (kk : W p l e R s m args below meth c H locs cells slots Q (F0 m (pc + 3) ls (.int v :: rest))) : W p l e R s m args below meth c H locs cells slots Q (F0 m pc ls (.ref a :: rest)) := by
  obtain ⟨k, hk⟩ := zh_get (g := g) X ha
  have hk : (X ++ zh_w g S)[k]? = some (a, .inr (2, [.int (zh_I S 2 a), .int (zh_I S 3 a), .int (zh_I S 4 a), .int (zh_I S 5 a), .int (zh_I S 6 a), .int (zh_I S 7 a), .int (zh_I S 8 a), .int (zh_I S 9 a)])) := hk
  refine va_getN (host := host) (D := g.2.2.1) (ci := 2) (v := .int (zh_I S 8 a)) (C := RX1) (T := TX1) (N := 8) C.1 C.2.1 C.2.2.2.2 zin_Entry C.2.2.2.1 I.K I.P k hk rfl 6 (by decide) (va_Nw.use rfl (I.O.1 _ hl)) (fun _ h => h) rfl hdg ?_
  rw [hv]
  exact kk

theorem zp_Entry_sum {v : Int32} (C : CallFix p m c cc nL s args zc_W own) (I : zh_V g A s X S H locs) (ha : zh_at S 1 a) (hl : Cond.fieldLink own idx "DiceForge$Entry" "sum" "I" ∈ zc_W) (hdg : decode cc pc = .ok (.putfield idx, 3)) (kk : ∀ (H : Heap) (locs : List Loc), zh_V g A s X (zh_sI S 8 a v) H locs → W p l e R s m args below meth c H locs cells slots Q (F0 m (pc + 3) ls rest)) : W p l e R s m args below meth c H locs cells slots Q (F0 m pc ls (.int v :: .ref a :: rest)) := by
  obtain ⟨k, hk⟩ := zh_get (g := g) X ha
  have hk : (X ++ zh_w g S)[k]? = some (a, .inr (2, [.int (zh_I S 2 a), .int (zh_I S 3 a), .int (zh_I S 4 a), .int (zh_I S 5 a), .int (zh_I S 6 a), .int (zh_I S 7 a), .int (zh_I S 8 a), .int (zh_I S 9 a)])) := hk
  refine va_put (D := g.2.2.1) (ci := 2) (ty := .int) (v := .int v) (C := RX1) (T := TX1) (N := 8) C.1 C.2.1 C.2.2.2.2 zin_Entry tyX1 tyX1_ok nmX1 C.2.2.2.1 I.K I.P I.D I.S k hk rfl 6 (by decide) (C.2.2.2.2 _ hl) (fun _ h => h) rfl (by decide +kernel) rfl rfl (Nat.le_of_ble_eq_true rfl) hdg (fun H1 locs1 hP hD hS => kk H1 locs1 (I.to (zh_set I.D ha hk rfl rfl ?_ (fun b hb k => zh_e_sI g S _ hb k)) hP hD hS))
  simp [zh_e, zh_I_sI, zh_R_sI, zh_u]

theorem zq_Entry_sum {v : Int32} (C : CallFix p m c cc nL s args zc_W own) (I : zh_V g A s X S H locs) (ha : zh_at S 1 a) (hl : Cond.fieldLinkNest own idx "DiceForge$Entry" "sum" "I" host ∈ zn_ws) (hdg : decode cc pc = .ok (.putfield idx, 3)) (kk : ∀ (H : Heap) (locs : List Loc), zh_V g A s X (zh_sI S 8 a v) H locs → W p l e R s m args below meth c H locs cells slots Q (F0 m (pc + 3) ls rest)) : W p l e R s m args below meth c H locs cells slots Q (F0 m pc ls (.int v :: .ref a :: rest)) := by
  obtain ⟨k, hk⟩ := zh_get (g := g) X ha
  have hk : (X ++ zh_w g S)[k]? = some (a, .inr (2, [.int (zh_I S 2 a), .int (zh_I S 3 a), .int (zh_I S 4 a), .int (zh_I S 5 a), .int (zh_I S 6 a), .int (zh_I S 7 a), .int (zh_I S 8 a), .int (zh_I S 9 a)])) := hk
  refine va_putN (host := host) (D := g.2.2.1) (ci := 2) (ty := .int) (v := .int v) (C := RX1) (T := TX1) (N := 8) C.1 C.2.1 C.2.2.2.2 zin_Entry tyX1 tyX1_ok nmX1 C.2.2.2.1 I.K I.P I.D I.S k hk rfl 6 (by decide) (va_Nw.use rfl (I.O.1 _ hl)) (fun _ h => h) rfl (by decide +kernel) rfl rfl (Nat.le_of_ble_eq_true rfl) hdg (fun H1 locs1 hP hD hS => kk H1 locs1 (I.to (zh_set I.D ha hk rfl rfl ?_ (fun b hb k => zh_e_sI g S _ hb k)) hP hD hS))
  simp [zh_e, zh_I_sI, zh_R_sI, zh_u]

theorem zg_Entry_struck {v : Int32} (C : CallFix p m c cc nL s args zc_W own) (I : zh_V g A s X S H locs) (ha : zh_at S 1 a) (hl : Cond.fieldLink own idx "DiceForge$Entry" "struck" "Z" ∈ zc_W) (hv : zh_I S 9 a = v) (hdg : decode cc pc = .ok (.getfield idx, 3)) (kk : W p l e R s m args below meth c H locs cells slots Q (F0 m (pc + 3) ls (.int v :: rest))) : W p l e R s m args below meth c H locs cells slots Q (F0 m pc ls (.ref a :: rest)) := by
  obtain ⟨k, hk⟩ := zh_get (g := g) X ha
  have hk : (X ++ zh_w g S)[k]? = some (a, .inr (2, [.int (zh_I S 2 a), .int (zh_I S 3 a), .int (zh_I S 4 a), .int (zh_I S 5 a), .int (zh_I S 6 a), .int (zh_I S 7 a), .int (zh_I S 8 a), .int (zh_I S 9 a)])) := hk
  refine va_get (D := g.2.2.1) (ci := 2) (v := .int (zh_I S 9 a)) (C := RX1) (T := TX1) (N := 8) C.1 C.2.1 C.2.2.2.2 zin_Entry C.2.2.2.1 I.K I.P k hk rfl 7 (by decide) (C.2.2.2.2 _ hl) (fun _ h => h) rfl hdg ?_
  rw [hv]
  exact kk

theorem zn_Entry_struck {v : Int32} (C : CallFix p m c cc nL s args zc_W own) (I : zh_V g A s X S H locs) (ha : zh_at S 1 a) (hl : Cond.fieldLinkNest own idx "DiceForge$Entry" "struck" "Z" host ∈ zn_ws) (hv : zh_I S 9 a = v) (hdg : decode cc pc = .ok (.getfield idx, 3)) (kk : W p l e R s m args below meth c H locs cells slots Q (F0 m (pc + 3) ls (.int v :: rest))) : W p l e R s m args below meth c H locs cells slots Q (F0 m pc ls (.ref a :: rest)) := by
  obtain ⟨k, hk⟩ := zh_get (g := g) X ha
  have hk : (X ++ zh_w g S)[k]? = some (a, .inr (2, [.int (zh_I S 2 a), .int (zh_I S 3 a), .int (zh_I S 4 a), .int (zh_I S 5 a), .int (zh_I S 6 a), .int (zh_I S 7 a), .int (zh_I S 8 a), .int (zh_I S 9 a)])) := hk
  refine va_getN (host := host) (D := g.2.2.1) (ci := 2) (v := .int (zh_I S 9 a)) (C := RX1) (T := TX1) (N := 8) C.1 C.2.1 C.2.2.2.2 zin_Entry C.2.2.2.1 I.K I.P k hk rfl 7 (by decide) (va_Nw.use rfl (I.O.1 _ hl)) (fun _ h => h) rfl hdg ?_
  rw [hv]
  exact kk

theorem zp_Entry_struck {v : Int32} (C : CallFix p m c cc nL s args zc_W own) (I : zh_V g A s X S H locs) (ha : zh_at S 1 a) (hl : Cond.fieldLink own idx "DiceForge$Entry" "struck" "Z" ∈ zc_W) (hb01 : v = 0 ∨ v = 1) (hdg : decode cc pc = .ok (.putfield idx, 3)) (kk : ∀ (H : Heap) (locs : List Loc), zh_V g A s X (zh_sI S 9 a v) H locs → W p l e R s m args below meth c H locs cells slots Q (F0 m (pc + 3) ls rest)) : W p l e R s m args below meth c H locs cells slots Q (F0 m pc ls (.int v :: .ref a :: rest)) := by
  obtain ⟨k, hk⟩ := zh_get (g := g) X ha
  have hk : (X ++ zh_w g S)[k]? = some (a, .inr (2, [.int (zh_I S 2 a), .int (zh_I S 3 a), .int (zh_I S 4 a), .int (zh_I S 5 a), .int (zh_I S 6 a), .int (zh_I S 7 a), .int (zh_I S 8 a), .int (zh_I S 9 a)])) := hk
  refine va_put (D := g.2.2.1) (ci := 2) (ty := .boolean) (v := .int v) (C := RX1) (T := TX1) (N := 8) C.1 C.2.1 C.2.2.2.2 zin_Entry tyX1 tyX1_ok nmX1 C.2.2.2.1 I.K I.P I.D I.S k hk rfl 7 (by decide) (C.2.2.2.2 _ hl) (fun _ h => h) rfl (by decide +kernel) (zf_b hb01).1 (zf_b hb01).2 (Nat.le_of_ble_eq_true rfl) hdg (fun H1 locs1 hP hD hS => kk H1 locs1 (I.to (zh_set I.D ha hk rfl rfl ?_ (fun b hb k => zh_e_sI g S _ hb k)) hP hD hS))
  simp [zh_e, zh_I_sI, zh_R_sI, zh_u]

theorem zq_Entry_struck {v : Int32} (C : CallFix p m c cc nL s args zc_W own) (I : zh_V g A s X S H locs) (ha : zh_at S 1 a) (hl : Cond.fieldLinkNest own idx "DiceForge$Entry" "struck" "Z" host ∈ zn_ws) (hb01 : v = 0 ∨ v = 1) (hdg : decode cc pc = .ok (.putfield idx, 3)) (kk : ∀ (H : Heap) (locs : List Loc), zh_V g A s X (zh_sI S 9 a v) H locs → W p l e R s m args below meth c H locs cells slots Q (F0 m (pc + 3) ls rest)) : W p l e R s m args below meth c H locs cells slots Q (F0 m pc ls (.int v :: .ref a :: rest)) := by
  obtain ⟨k, hk⟩ := zh_get (g := g) X ha
  have hk : (X ++ zh_w g S)[k]? = some (a, .inr (2, [.int (zh_I S 2 a), .int (zh_I S 3 a), .int (zh_I S 4 a), .int (zh_I S 5 a), .int (zh_I S 6 a), .int (zh_I S 7 a), .int (zh_I S 8 a), .int (zh_I S 9 a)])) := hk
  refine va_putN (host := host) (D := g.2.2.1) (ci := 2) (ty := .boolean) (v := .int v) (C := RX1) (T := TX1) (N := 8) C.1 C.2.1 C.2.2.2.2 zin_Entry tyX1 tyX1_ok nmX1 C.2.2.2.1 I.K I.P I.D I.S k hk rfl 7 (by decide) (va_Nw.use rfl (I.O.1 _ hl)) (fun _ h => h) rfl (by decide +kernel) (zf_b hb01).1 (zf_b hb01).2 (Nat.le_of_ble_eq_true rfl) hdg (fun H1 locs1 hP hD hS => kk H1 locs1 (I.to (zh_set I.D ha hk rfl rfl ?_ (fun b hb k => zh_e_sI g S _ hb k)) hP hD hS))
  simp [zh_e, zh_I_sI, zh_R_sI, zh_u]

theorem zw_Entry (C : CallFix p m c cc nL s args zc_W own) (I : zh_V g A s X S H locs) (hcl : Cond.classLink own idx RX1 ∈ zc_W) (hinst : Cond.instantiable RX1 8 ∈ zc_W) (hini : Cond.initialized RX1 ∈ zc_W) (hc1 : cells + 1 ≤ R.cells) (hs1 : slots + 8 ≤ R.slots) (hdg : decode cc pc = .ok (.new idx, 3)) (kk : ∀ (q : Nat) (H : Heap), q ∉ zh_L S → zh_V g A s X (zh_nO S q 1) H locs → W p l e R s m args below meth c H locs (cells + 1) (slots + 8) Q (F0 m (pc + 3) ls (.ref q :: rest))) : W p l e R s m args below meth c H locs cells slots Q (F0 m pc ls rest) := by
  refine va_new (ci := 2) (fs := [.int 0, .int 0, .int 0, .int 0, .int 0, .int 0, .int 0, .int 0]) (C := RX1) (T := TX1) (N := 8) C.1 C.2.1 C.2.2.2.2 zin_Entry tyX1 tyX1_ok C.2.2.2.1 (C.2.2.2.2 _ hcl) (C.2.2.2.2 _ hinst) (C.2.2.2.2 _ hini) I.K I.P I.D I.S I.A rfl (fun j hj => by rcases (show j = 0 ∨ j = 1 ∨ j = 2 ∨ j = 3 ∨ j = 4 ∨ j = 5 ∨ j = 6 ∨ j = 7 by omega) with rfl | rfl | rfl | rfl | rfl | rfl | rfl | rfl <;> rfl) hc1 hs1 hdg (fun q H1 hP hD hS => ?_)
  have hq : q ∉ zh_L S := zf_fresh hD
  exact kk q H1 hq (I.to (zh_push hq rfl rfl (by simp [zh_e, zh_nO, zh_I, zh_R, va_rf]) (fun b hb k => zh_e_nO g S _ hb k)) hP hD hS)

theorem zg_Promise_seed {v : Int32} (C : CallFix p m c cc nL s args zc_W own) (I : zh_V g A s X S H locs) (ha : zh_at S 2 a) (hl : Cond.fieldLink own idx "DiceForge$Promise" "seed" "I" ∈ zc_W) (hv : zh_I S 10 a = v) (hdg : decode cc pc = .ok (.getfield idx, 3)) (kk : W p l e R s m args below meth c H locs cells slots Q (F0 m (pc + 3) ls (.int v :: rest))) : W p l e R s m args below meth c H locs cells slots Q (F0 m pc ls (.ref a :: rest)) := by
  obtain ⟨k, hk⟩ := zh_get (g := g) X ha
  have hk : (X ++ zh_w g S)[k]? = some (a, .inr (3, [.int (zh_I S 10 a), va_rf (zh_R S 0 a), .int (zh_I S 11 a), .int (zh_I S 12 a)])) := hk
  refine va_get (D := g.2.2.1) (ci := 3) (v := .int (zh_I S 10 a)) (C := RX2) (T := TX2) (N := 4) C.1 C.2.1 C.2.2.2.2 zin_Promise C.2.2.2.1 I.K I.P k hk rfl 0 (by decide) (C.2.2.2.2 _ hl) (fun _ h => h) rfl hdg ?_
  rw [hv]
  exact kk

theorem zn_Promise_seed {v : Int32} (C : CallFix p m c cc nL s args zc_W own) (I : zh_V g A s X S H locs) (ha : zh_at S 2 a) (hl : Cond.fieldLinkNest own idx "DiceForge$Promise" "seed" "I" host ∈ zn_ws) (hv : zh_I S 10 a = v) (hdg : decode cc pc = .ok (.getfield idx, 3)) (kk : W p l e R s m args below meth c H locs cells slots Q (F0 m (pc + 3) ls (.int v :: rest))) : W p l e R s m args below meth c H locs cells slots Q (F0 m pc ls (.ref a :: rest)) := by
  obtain ⟨k, hk⟩ := zh_get (g := g) X ha
  have hk : (X ++ zh_w g S)[k]? = some (a, .inr (3, [.int (zh_I S 10 a), va_rf (zh_R S 0 a), .int (zh_I S 11 a), .int (zh_I S 12 a)])) := hk
  refine va_getN (host := host) (D := g.2.2.1) (ci := 3) (v := .int (zh_I S 10 a)) (C := RX2) (T := TX2) (N := 4) C.1 C.2.1 C.2.2.2.2 zin_Promise C.2.2.2.1 I.K I.P k hk rfl 0 (by decide) (va_Nw.use rfl (I.O.1 _ hl)) (fun _ h => h) rfl hdg ?_
  rw [hv]
  exact kk

theorem zf_Promise_seed {v : Int32} (C : CallFix p m c cc nL s args zc_W own) (I : zh_V g A s X S H locs) (ha : zh_at S 2 a) (hl : Cond.fieldLink own idx "DiceForge$Promise" "seed" "I" ∈ zc_W) (hin2 : meth.name = "<init>") (hdecl : "DiceForge$Promise" = own) (hdg : decode cc pc = .ok (.putfield idx, 3)) (kk : ∀ (H : Heap) (locs : List Loc), zh_V g A s X (zh_sI S 10 a v) H locs → W p l e R s m args below meth c H locs cells slots Q (F0 m (pc + 3) ls rest)) : W p l e R s m args below meth c H locs cells slots Q (F0 m pc ls (.int v :: .ref a :: rest)) := by
  obtain ⟨k, hk⟩ := zh_get (g := g) X ha
  have hk : (X ++ zh_w g S)[k]? = some (a, .inr (3, [.int (zh_I S 10 a), va_rf (zh_R S 0 a), .int (zh_I S 11 a), .int (zh_I S 12 a)])) := hk
  refine va_putF (D := g.2.2.1) (ci := 3) (ty := .int) (v := .int v) (C := RX2) (T := TX2) (N := 4) C.1 C.2.1 C.2.2.2.2 zin_Promise tyX2 tyX2_ok nmX2 C.2.2.2.1 I.K I.P I.D I.S k hk rfl 0 (by decide) (C.2.2.2.2 _ hl) (fun _ h => h) rfl hin2 hdecl (by decide +kernel) rfl rfl (Nat.le_of_ble_eq_true rfl) hdg (fun H1 locs1 hP hD hS => kk H1 locs1 (I.to (zh_set I.D ha hk rfl rfl ?_ (fun b hb k => zh_e_sI g S _ hb k)) hP hD hS))
  simp [zh_e, zh_I_sI, zh_R_sI, zh_u]

theorem zg_Promise_draws {v : Nat} (C : CallFix p m c cc nL s args zc_W own) (I : zh_V g A s X S H locs) (ha : zh_at S 2 a) (hl : Cond.fieldLink own idx "DiceForge$Promise" "draws" "LDiceForge$Draws;" ∈ zc_W) (hv : zh_R S 0 a = some v) (hdg : decode cc pc = .ok (.getfield idx, 3)) (kk : W p l e R s m args below meth c H locs cells slots Q (F0 m (pc + 3) ls (.ref v :: rest))) : W p l e R s m args below meth c H locs cells slots Q (F0 m pc ls (.ref a :: rest)) := by
  obtain ⟨k, hk⟩ := zh_get (g := g) X ha
  have hk : (X ++ zh_w g S)[k]? = some (a, .inr (3, [.int (zh_I S 10 a), va_rf (zh_R S 0 a), .int (zh_I S 11 a), .int (zh_I S 12 a)])) := hk
  refine va_get (D := g.2.2.1) (ci := 3) (v := va_rf (zh_R S 0 a)) (C := RX2) (T := TX2) (N := 4) C.1 C.2.1 C.2.2.2.2 zin_Promise C.2.2.2.1 I.K I.P k hk rfl 1 (by decide) (C.2.2.2.2 _ hl) (fun _ h => h) rfl hdg ?_
  rw [hv]
  exact kk

theorem zn_Promise_draws {v : Nat} (C : CallFix p m c cc nL s args zc_W own) (I : zh_V g A s X S H locs) (ha : zh_at S 2 a) (hl : Cond.fieldLinkNest own idx "DiceForge$Promise" "draws" "LDiceForge$Draws;" host ∈ zn_ws) (hv : zh_R S 0 a = some v) (hdg : decode cc pc = .ok (.getfield idx, 3)) (kk : W p l e R s m args below meth c H locs cells slots Q (F0 m (pc + 3) ls (.ref v :: rest))) : W p l e R s m args below meth c H locs cells slots Q (F0 m pc ls (.ref a :: rest)) := by
  obtain ⟨k, hk⟩ := zh_get (g := g) X ha
  have hk : (X ++ zh_w g S)[k]? = some (a, .inr (3, [.int (zh_I S 10 a), va_rf (zh_R S 0 a), .int (zh_I S 11 a), .int (zh_I S 12 a)])) := hk
  refine va_getN (host := host) (D := g.2.2.1) (ci := 3) (v := va_rf (zh_R S 0 a)) (C := RX2) (T := TX2) (N := 4) C.1 C.2.1 C.2.2.2.2 zin_Promise C.2.2.2.1 I.K I.P k hk rfl 1 (by decide) (va_Nw.use rfl (I.O.1 _ hl)) (fun _ h => h) rfl hdg ?_
  rw [hv]
  exact kk

theorem zf_Promise_draws {v : Nat} (C : CallFix p m c cc nL s args zc_W own) (I : zh_V g A s X S H locs) (ha : zh_at S 2 a) (hl : Cond.fieldLink own idx "DiceForge$Promise" "draws" "LDiceForge$Draws;" ∈ zc_W) (hin2 : meth.name = "<init>") (hdecl : "DiceForge$Promise" = own) (hdg : decode cc pc = .ok (.putfield idx, 3)) (kk : ∀ (H : Heap) (locs : List Loc), zh_V g A s X (zh_sR S 0 a (some v)) H locs → W p l e R s m args below meth c H locs cells slots Q (F0 m (pc + 3) ls rest)) : W p l e R s m args below meth c H locs cells slots Q (F0 m pc ls (.ref v :: .ref a :: rest)) := by
  obtain ⟨k, hk⟩ := zh_get (g := g) X ha
  have hk : (X ++ zh_w g S)[k]? = some (a, .inr (3, [.int (zh_I S 10 a), va_rf (zh_R S 0 a), .int (zh_I S 11 a), .int (zh_I S 12 a)])) := hk
  refine va_putF (D := g.2.2.1) (ci := 3) (ty := .object "DiceForge$Draws") (v := .ref v) (C := RX2) (T := TX2) (N := 4) C.1 C.2.1 C.2.2.2.2 zin_Promise tyX2 tyX2_ok nmX2 C.2.2.2.1 I.K I.P I.D I.S k hk rfl 1 (by decide) (C.2.2.2.2 _ hl) (fun _ h => h) rfl hin2 hdecl (by decide +kernel) rfl rfl (Nat.le_of_ble_eq_true rfl) hdg (fun H1 locs1 hP hD hS => kk H1 locs1 (I.to (zh_set I.D ha hk rfl rfl ?_ (fun b hb k => zh_e_sR g S _ hb k)) hP hD hS))
  simp [zh_e, zh_I_sR, zh_R_sR, zh_u, va_rf]

theorem zg_Promise_opened {v : Int32} (C : CallFix p m c cc nL s args zc_W own) (I : zh_V g A s X S H locs) (ha : zh_at S 2 a) (hl : Cond.fieldLink own idx "DiceForge$Promise" "opened" "Z" ∈ zc_W) (hv : zh_I S 11 a = v) (hdg : decode cc pc = .ok (.getfield idx, 3)) (kk : W p l e R s m args below meth c H locs cells slots Q (F0 m (pc + 3) ls (.int v :: rest))) : W p l e R s m args below meth c H locs cells slots Q (F0 m pc ls (.ref a :: rest)) := by
  obtain ⟨k, hk⟩ := zh_get (g := g) X ha
  have hk : (X ++ zh_w g S)[k]? = some (a, .inr (3, [.int (zh_I S 10 a), va_rf (zh_R S 0 a), .int (zh_I S 11 a), .int (zh_I S 12 a)])) := hk
  refine va_get (D := g.2.2.1) (ci := 3) (v := .int (zh_I S 11 a)) (C := RX2) (T := TX2) (N := 4) C.1 C.2.1 C.2.2.2.2 zin_Promise C.2.2.2.1 I.K I.P k hk rfl 2 (by decide) (C.2.2.2.2 _ hl) (fun _ h => h) rfl hdg ?_
  rw [hv]
  exact kk

theorem zn_Promise_opened {v : Int32} (C : CallFix p m c cc nL s args zc_W own) (I : zh_V g A s X S H locs) (ha : zh_at S 2 a) (hl : Cond.fieldLinkNest own idx "DiceForge$Promise" "opened" "Z" host ∈ zn_ws) (hv : zh_I S 11 a = v) (hdg : decode cc pc = .ok (.getfield idx, 3)) (kk : W p l e R s m args below meth c H locs cells slots Q (F0 m (pc + 3) ls (.int v :: rest))) : W p l e R s m args below meth c H locs cells slots Q (F0 m pc ls (.ref a :: rest)) := by
  obtain ⟨k, hk⟩ := zh_get (g := g) X ha
  have hk : (X ++ zh_w g S)[k]? = some (a, .inr (3, [.int (zh_I S 10 a), va_rf (zh_R S 0 a), .int (zh_I S 11 a), .int (zh_I S 12 a)])) := hk
  refine va_getN (host := host) (D := g.2.2.1) (ci := 3) (v := .int (zh_I S 11 a)) (C := RX2) (T := TX2) (N := 4) C.1 C.2.1 C.2.2.2.2 zin_Promise C.2.2.2.1 I.K I.P k hk rfl 2 (by decide) (va_Nw.use rfl (I.O.1 _ hl)) (fun _ h => h) rfl hdg ?_
  rw [hv]
  exact kk

theorem zp_Promise_opened {v : Int32} (C : CallFix p m c cc nL s args zc_W own) (I : zh_V g A s X S H locs) (ha : zh_at S 2 a) (hl : Cond.fieldLink own idx "DiceForge$Promise" "opened" "Z" ∈ zc_W) (hb01 : v = 0 ∨ v = 1) (hdg : decode cc pc = .ok (.putfield idx, 3)) (kk : ∀ (H : Heap) (locs : List Loc), zh_V g A s X (zh_sI S 11 a v) H locs → W p l e R s m args below meth c H locs cells slots Q (F0 m (pc + 3) ls rest)) : W p l e R s m args below meth c H locs cells slots Q (F0 m pc ls (.int v :: .ref a :: rest)) := by
  obtain ⟨k, hk⟩ := zh_get (g := g) X ha
  have hk : (X ++ zh_w g S)[k]? = some (a, .inr (3, [.int (zh_I S 10 a), va_rf (zh_R S 0 a), .int (zh_I S 11 a), .int (zh_I S 12 a)])) := hk
  refine va_put (D := g.2.2.1) (ci := 3) (ty := .boolean) (v := .int v) (C := RX2) (T := TX2) (N := 4) C.1 C.2.1 C.2.2.2.2 zin_Promise tyX2 tyX2_ok nmX2 C.2.2.2.1 I.K I.P I.D I.S k hk rfl 2 (by decide) (C.2.2.2.2 _ hl) (fun _ h => h) rfl (by decide +kernel) (zf_b hb01).1 (zf_b hb01).2 (Nat.le_of_ble_eq_true rfl) hdg (fun H1 locs1 hP hD hS => kk H1 locs1 (I.to (zh_set I.D ha hk rfl rfl ?_ (fun b hb k => zh_e_sI g S _ hb k)) hP hD hS))
  simp [zh_e, zh_I_sI, zh_R_sI, zh_u]

theorem zq_Promise_opened {v : Int32} (C : CallFix p m c cc nL s args zc_W own) (I : zh_V g A s X S H locs) (ha : zh_at S 2 a) (hl : Cond.fieldLinkNest own idx "DiceForge$Promise" "opened" "Z" host ∈ zn_ws) (hb01 : v = 0 ∨ v = 1) (hdg : decode cc pc = .ok (.putfield idx, 3)) (kk : ∀ (H : Heap) (locs : List Loc), zh_V g A s X (zh_sI S 11 a v) H locs → W p l e R s m args below meth c H locs cells slots Q (F0 m (pc + 3) ls rest)) : W p l e R s m args below meth c H locs cells slots Q (F0 m pc ls (.int v :: .ref a :: rest)) := by
  obtain ⟨k, hk⟩ := zh_get (g := g) X ha
  have hk : (X ++ zh_w g S)[k]? = some (a, .inr (3, [.int (zh_I S 10 a), va_rf (zh_R S 0 a), .int (zh_I S 11 a), .int (zh_I S 12 a)])) := hk
  refine va_putN (host := host) (D := g.2.2.1) (ci := 3) (ty := .boolean) (v := .int v) (C := RX2) (T := TX2) (N := 4) C.1 C.2.1 C.2.2.2.2 zin_Promise tyX2 tyX2_ok nmX2 C.2.2.2.1 I.K I.P I.D I.S k hk rfl 2 (by decide) (va_Nw.use rfl (I.O.1 _ hl)) (fun _ h => h) rfl (by decide +kernel) (zf_b hb01).1 (zf_b hb01).2 (Nat.le_of_ble_eq_true rfl) hdg (fun H1 locs1 hP hD hS => kk H1 locs1 (I.to (zh_set I.D ha hk rfl rfl ?_ (fun b hb k => zh_e_sI g S _ hb k)) hP hD hS))
  simp [zh_e, zh_I_sI, zh_R_sI, zh_u]

theorem zg_Promise_disputed {v : Int32} (C : CallFix p m c cc nL s args zc_W own) (I : zh_V g A s X S H locs) (ha : zh_at S 2 a) (hl : Cond.fieldLink own idx "DiceForge$Promise" "disputed" "Z" ∈ zc_W) (hv : zh_I S 12 a = v) (hdg : decode cc pc = .ok (.getfield idx, 3)) (kk : W p l e R s m args below meth c H locs cells slots Q (F0 m (pc + 3) ls (.int v :: rest))) : W p l e R s m args below meth c H locs cells slots Q (F0 m pc ls (.ref a :: rest)) := by
  obtain ⟨k, hk⟩ := zh_get (g := g) X ha
  have hk : (X ++ zh_w g S)[k]? = some (a, .inr (3, [.int (zh_I S 10 a), va_rf (zh_R S 0 a), .int (zh_I S 11 a), .int (zh_I S 12 a)])) := hk
  refine va_get (D := g.2.2.1) (ci := 3) (v := .int (zh_I S 12 a)) (C := RX2) (T := TX2) (N := 4) C.1 C.2.1 C.2.2.2.2 zin_Promise C.2.2.2.1 I.K I.P k hk rfl 3 (by decide) (C.2.2.2.2 _ hl) (fun _ h => h) rfl hdg ?_
  rw [hv]
  exact kk

theorem zn_Promise_disputed {v : Int32} (C : CallFix p m c cc nL s args zc_W own) (I : zh_V g A s X S H locs) (ha : zh_at S 2 a) (hl : Cond.fieldLinkNest own idx "DiceForge$Promise" "disputed" "Z" host ∈ zn_ws) (hv : zh_I S 12 a = v) (hdg : decode cc pc = .ok (.getfield idx, 3)) (kk : W p l e R s m args below meth c H locs cells slots Q (F0 m (pc + 3) ls (.int v :: rest))) : W p l e R s m args below meth c H locs cells slots Q (F0 m pc ls (.ref a :: rest)) := by
  obtain ⟨k, hk⟩ := zh_get (g := g) X ha
  have hk : (X ++ zh_w g S)[k]? = some (a, .inr (3, [.int (zh_I S 10 a), va_rf (zh_R S 0 a), .int (zh_I S 11 a), .int (zh_I S 12 a)])) := hk
  refine va_getN (host := host) (D := g.2.2.1) (ci := 3) (v := .int (zh_I S 12 a)) (C := RX2) (T := TX2) (N := 4) C.1 C.2.1 C.2.2.2.2 zin_Promise C.2.2.2.1 I.K I.P k hk rfl 3 (by decide) (va_Nw.use rfl (I.O.1 _ hl)) (fun _ h => h) rfl hdg ?_
  rw [hv]
  exact kk

theorem zp_Promise_disputed {v : Int32} (C : CallFix p m c cc nL s args zc_W own) (I : zh_V g A s X S H locs) (ha : zh_at S 2 a) (hl : Cond.fieldLink own idx "DiceForge$Promise" "disputed" "Z" ∈ zc_W) (hb01 : v = 0 ∨ v = 1) (hdg : decode cc pc = .ok (.putfield idx, 3)) (kk : ∀ (H : Heap) (locs : List Loc), zh_V g A s X (zh_sI S 12 a v) H locs → W p l e R s m args below meth c H locs cells slots Q (F0 m (pc + 3) ls rest)) : W p l e R s m args below meth c H locs cells slots Q (F0 m pc ls (.int v :: .ref a :: rest)) := by
  obtain ⟨k, hk⟩ := zh_get (g := g) X ha
  have hk : (X ++ zh_w g S)[k]? = some (a, .inr (3, [.int (zh_I S 10 a), va_rf (zh_R S 0 a), .int (zh_I S 11 a), .int (zh_I S 12 a)])) := hk
  refine va_put (D := g.2.2.1) (ci := 3) (ty := .boolean) (v := .int v) (C := RX2) (T := TX2) (N := 4) C.1 C.2.1 C.2.2.2.2 zin_Promise tyX2 tyX2_ok nmX2 C.2.2.2.1 I.K I.P I.D I.S k hk rfl 3 (by decide) (C.2.2.2.2 _ hl) (fun _ h => h) rfl (by decide +kernel) (zf_b hb01).1 (zf_b hb01).2 (Nat.le_of_ble_eq_true rfl) hdg (fun H1 locs1 hP hD hS => kk H1 locs1 (I.to (zh_set I.D ha hk rfl rfl ?_ (fun b hb k => zh_e_sI g S _ hb k)) hP hD hS))
  simp [zh_e, zh_I_sI, zh_R_sI, zh_u]

theorem zq_Promise_disputed {v : Int32} (C : CallFix p m c cc nL s args zc_W own) (I : zh_V g A s X S H locs) (ha : zh_at S 2 a) (hl : Cond.fieldLinkNest own idx "DiceForge$Promise" "disputed" "Z" host ∈ zn_ws) (hb01 : v = 0 ∨ v = 1) (hdg : decode cc pc = .ok (.putfield idx, 3)) (kk : ∀ (H : Heap) (locs : List Loc), zh_V g A s X (zh_sI S 12 a v) H locs → W p l e R s m args below meth c H locs cells slots Q (F0 m (pc + 3) ls rest)) : W p l e R s m args below meth c H locs cells slots Q (F0 m pc ls (.int v :: .ref a :: rest)) := by
  obtain ⟨k, hk⟩ := zh_get (g := g) X ha
  have hk : (X ++ zh_w g S)[k]? = some (a, .inr (3, [.int (zh_I S 10 a), va_rf (zh_R S 0 a), .int (zh_I S 11 a), .int (zh_I S 12 a)])) := hk
  refine va_putN (host := host) (D := g.2.2.1) (ci := 3) (ty := .boolean) (v := .int v) (C := RX2) (T := TX2) (N := 4) C.1 C.2.1 C.2.2.2.2 zin_Promise tyX2 tyX2_ok nmX2 C.2.2.2.1 I.K I.P I.D I.S k hk rfl 3 (by decide) (va_Nw.use rfl (I.O.1 _ hl)) (fun _ h => h) rfl (by decide +kernel) (zf_b hb01).1 (zf_b hb01).2 (Nat.le_of_ble_eq_true rfl) hdg (fun H1 locs1 hP hD hS => kk H1 locs1 (I.to (zh_set I.D ha hk rfl rfl ?_ (fun b hb k => zh_e_sI g S _ hb k)) hP hD hS))
  simp [zh_e, zh_I_sI, zh_R_sI, zh_u]

theorem zw_Promise (C : CallFix p m c cc nL s args zc_W own) (I : zh_V g A s X S H locs) (hcl : Cond.classLink own idx RX2 ∈ zc_W) (hinst : Cond.instantiable RX2 4 ∈ zc_W) (hini : Cond.initialized RX2 ∈ zc_W) (hc1 : cells + 1 ≤ R.cells) (hs1 : slots + 4 ≤ R.slots) (hdg : decode cc pc = .ok (.new idx, 3)) (kk : ∀ (q : Nat) (H : Heap), q ∉ zh_L S → zh_V g A s X (zh_nO S q 2) H locs → W p l e R s m args below meth c H locs (cells + 1) (slots + 4) Q (F0 m (pc + 3) ls (.ref q :: rest))) : W p l e R s m args below meth c H locs cells slots Q (F0 m pc ls rest) := by
  refine va_new (ci := 3) (fs := [.int 0, .null, .int 0, .int 0]) (C := RX2) (T := TX2) (N := 4) C.1 C.2.1 C.2.2.2.2 zin_Promise tyX2 tyX2_ok C.2.2.2.1 (C.2.2.2.2 _ hcl) (C.2.2.2.2 _ hinst) (C.2.2.2.2 _ hini) I.K I.P I.D I.S I.A rfl (fun j hj => by rcases (show j = 0 ∨ j = 1 ∨ j = 2 ∨ j = 3 by omega) with rfl | rfl | rfl | rfl <;> rfl) hc1 hs1 hdg (fun q H1 hP hD hS => ?_)
  have hq : q ∉ zh_L S := zf_fresh hD
  exact kk q H1 hq (I.to (zh_push hq rfl rfl (by simp [zh_e, zh_nO, zh_I, zh_R, va_rf]) (fun b hb k => zh_e_nO g S _ hb k)) hP hD hS)

theorem zg_Forge_promises {v : Nat} (C : CallFix p m c cc nL s args zc_W own) (I : zh_V g A s X S H locs) (ha : zh_at S 3 a) (hl : Cond.fieldLink own idx "DiceForge" "promises" "Ljava/util/ArrayList;" ∈ zc_W) (hv : zh_R S 1 a = some v) (hdg : decode cc pc = .ok (.getfield idx, 3)) (kk : W p l e R s m args below meth c H locs cells slots Q (F0 m (pc + 3) ls (.ref v :: rest))) : W p l e R s m args below meth c H locs cells slots Q (F0 m pc ls (.ref a :: rest)) := by
  obtain ⟨k, hk⟩ := zh_get (g := g) X ha
  have hk : (X ++ zh_w g S)[k]? = some (a, .inr (4, [va_rf (zh_R S 1 a), va_rf (zh_R S 2 a), va_rf (zh_R S 3 a), va_rf (zh_R S 4 a)])) := hk
  refine va_get (D := g.2.2.1) (ci := 4) (v := va_rf (zh_R S 1 a)) (C := RX3) (T := TX3) (N := 4) C.1 C.2.1 C.2.2.2.2 zin_Forge C.2.2.2.1 I.K I.P k hk rfl 0 (by decide) (C.2.2.2.2 _ hl) (fun _ h => h) rfl hdg ?_
  rw [hv]
  exact kk

theorem zf_Forge_promises {v : Nat} (C : CallFix p m c cc nL s args zc_W own) (I : zh_V g A s X S H locs) (ha : zh_at S 3 a) (hl : Cond.fieldLink own idx "DiceForge" "promises" "Ljava/util/ArrayList;" ∈ zc_W) (hin2 : meth.name = "<init>") (hdecl : "DiceForge" = own) (hdg : decode cc pc = .ok (.putfield idx, 3)) (kk : ∀ (H : Heap) (locs : List Loc), zh_V g A s X (zh_sR S 1 a (some v)) H locs → W p l e R s m args below meth c H locs cells slots Q (F0 m (pc + 3) ls rest)) : W p l e R s m args below meth c H locs cells slots Q (F0 m pc ls (.ref v :: .ref a :: rest)) := by
  obtain ⟨k, hk⟩ := zh_get (g := g) X ha
  have hk : (X ++ zh_w g S)[k]? = some (a, .inr (4, [va_rf (zh_R S 1 a), va_rf (zh_R S 2 a), va_rf (zh_R S 3 a), va_rf (zh_R S 4 a)])) := hk
  refine va_putF (D := g.2.2.1) (ci := 4) (ty := .object "java/util/ArrayList") (v := .ref v) (C := RX3) (T := TX3) (N := 4) C.1 C.2.1 C.2.2.2.2 zin_Forge tyX3 tyX3_ok nmX3 C.2.2.2.1 I.K I.P I.D I.S k hk rfl 0 (by decide) (C.2.2.2.2 _ hl) (fun _ h => h) rfl hin2 hdecl (by decide +kernel) rfl rfl (Nat.le_of_ble_eq_true rfl) hdg (fun H1 locs1 hP hD hS => kk H1 locs1 (I.to (zh_set I.D ha hk rfl rfl ?_ (fun b hb k => zh_e_sR g S _ hb k)) hP hD hS))
  simp [zh_e, zh_I_sR, zh_R_sR, zh_u, va_rf]

theorem zg_Forge_log {v : Nat} (C : CallFix p m c cc nL s args zc_W own) (I : zh_V g A s X S H locs) (ha : zh_at S 3 a) (hl : Cond.fieldLink own idx "DiceForge" "log" "Ljava/util/ArrayList;" ∈ zc_W) (hv : zh_R S 2 a = some v) (hdg : decode cc pc = .ok (.getfield idx, 3)) (kk : W p l e R s m args below meth c H locs cells slots Q (F0 m (pc + 3) ls (.ref v :: rest))) : W p l e R s m args below meth c H locs cells slots Q (F0 m pc ls (.ref a :: rest)) := by
  obtain ⟨k, hk⟩ := zh_get (g := g) X ha
  have hk : (X ++ zh_w g S)[k]? = some (a, .inr (4, [va_rf (zh_R S 1 a), va_rf (zh_R S 2 a), va_rf (zh_R S 3 a), va_rf (zh_R S 4 a)])) := hk
  refine va_get (D := g.2.2.1) (ci := 4) (v := va_rf (zh_R S 2 a)) (C := RX3) (T := TX3) (N := 4) C.1 C.2.1 C.2.2.2.2 zin_Forge C.2.2.2.1 I.K I.P k hk rfl 1 (by decide) (C.2.2.2.2 _ hl) (fun _ h => h) rfl hdg ?_
  rw [hv]
  exact kk

theorem zf_Forge_log {v : Nat} (C : CallFix p m c cc nL s args zc_W own) (I : zh_V g A s X S H locs) (ha : zh_at S 3 a) (hl : Cond.fieldLink own idx "DiceForge" "log" "Ljava/util/ArrayList;" ∈ zc_W) (hin2 : meth.name = "<init>") (hdecl : "DiceForge" = own) (hdg : decode cc pc = .ok (.putfield idx, 3)) (kk : ∀ (H : Heap) (locs : List Loc), zh_V g A s X (zh_sR S 2 a (some v)) H locs → W p l e R s m args below meth c H locs cells slots Q (F0 m (pc + 3) ls rest)) : W p l e R s m args below meth c H locs cells slots Q (F0 m pc ls (.ref v :: .ref a :: rest)) := by
  obtain ⟨k, hk⟩ := zh_get (g := g) X ha
  have hk : (X ++ zh_w g S)[k]? = some (a, .inr (4, [va_rf (zh_R S 1 a), va_rf (zh_R S 2 a), va_rf (zh_R S 3 a), va_rf (zh_R S 4 a)])) := hk
  refine va_putF (D := g.2.2.1) (ci := 4) (ty := .object "java/util/ArrayList") (v := .ref v) (C := RX3) (T := TX3) (N := 4) C.1 C.2.1 C.2.2.2.2 zin_Forge tyX3 tyX3_ok nmX3 C.2.2.2.1 I.K I.P I.D I.S k hk rfl 1 (by decide) (C.2.2.2.2 _ hl) (fun _ h => h) rfl hin2 hdecl (by decide +kernel) rfl rfl (Nat.le_of_ble_eq_true rfl) hdg (fun H1 locs1 hP hD hS => kk H1 locs1 (I.to (zh_set I.D ha hk rfl rfl ?_ (fun b hb k => zh_e_sR g S _ hb k)) hP hD hS))
  simp [zh_e, zh_I_sR, zh_R_sR, zh_u, va_rf]

theorem zg_Forge_parts {v : Nat} (C : CallFix p m c cc nL s args zc_W own) (I : zh_V g A s X S H locs) (ha : zh_at S 3 a) (hl : Cond.fieldLink own idx "DiceForge" "parts" "[I" ∈ zc_W) (hv : zh_R S 3 a = some v) (hdg : decode cc pc = .ok (.getfield idx, 3)) (kk : W p l e R s m args below meth c H locs cells slots Q (F0 m (pc + 3) ls (.ref v :: rest))) : W p l e R s m args below meth c H locs cells slots Q (F0 m pc ls (.ref a :: rest)) := by
  obtain ⟨k, hk⟩ := zh_get (g := g) X ha
  have hk : (X ++ zh_w g S)[k]? = some (a, .inr (4, [va_rf (zh_R S 1 a), va_rf (zh_R S 2 a), va_rf (zh_R S 3 a), va_rf (zh_R S 4 a)])) := hk
  refine va_get (D := g.2.2.1) (ci := 4) (v := va_rf (zh_R S 3 a)) (C := RX3) (T := TX3) (N := 4) C.1 C.2.1 C.2.2.2.2 zin_Forge C.2.2.2.1 I.K I.P k hk rfl 2 (by decide) (C.2.2.2.2 _ hl) (fun _ h => h) rfl hdg ?_
  rw [hv]
  exact kk

theorem zf_Forge_parts {v : Nat} (C : CallFix p m c cc nL s args zc_W own) (I : zh_V g A s X S H locs) (ha : zh_at S 3 a) (hl : Cond.fieldLink own idx "DiceForge" "parts" "[I" ∈ zc_W) (hin2 : meth.name = "<init>") (hdecl : "DiceForge" = own) (hdg : decode cc pc = .ok (.putfield idx, 3)) (kk : ∀ (H : Heap) (locs : List Loc), zh_V g A s X (zh_sR S 3 a (some v)) H locs → W p l e R s m args below meth c H locs cells slots Q (F0 m (pc + 3) ls rest)) : W p l e R s m args below meth c H locs cells slots Q (F0 m pc ls (.ref v :: .ref a :: rest)) := by
  obtain ⟨k, hk⟩ := zh_get (g := g) X ha
  have hk : (X ++ zh_w g S)[k]? = some (a, .inr (4, [va_rf (zh_R S 1 a), va_rf (zh_R S 2 a), va_rf (zh_R S 3 a), va_rf (zh_R S 4 a)])) := hk
  refine va_putF (D := g.2.2.1) (ci := 4) (ty := .array .int) (v := .ref v) (C := RX3) (T := TX3) (N := 4) C.1 C.2.1 C.2.2.2.2 zin_Forge tyX3 tyX3_ok nmX3 C.2.2.2.1 I.K I.P I.D I.S k hk rfl 2 (by decide) (C.2.2.2.2 _ hl) (fun _ h => h) rfl hin2 hdecl (by decide +kernel) rfl rfl (Nat.le_of_ble_eq_true rfl) hdg (fun H1 locs1 hP hD hS => kk H1 locs1 (I.to (zh_set I.D ha hk rfl rfl ?_ (fun b hb k => zh_e_sR g S _ hb k)) hP hD hS))
  simp [zh_e, zh_I_sR, zh_R_sR, zh_u, va_rf]

theorem zg_Forge_tally {v : Nat} (C : CallFix p m c cc nL s args zc_W own) (I : zh_V g A s X S H locs) (ha : zh_at S 3 a) (hl : Cond.fieldLink own idx "DiceForge" "tally" "[I" ∈ zc_W) (hv : zh_R S 4 a = some v) (hdg : decode cc pc = .ok (.getfield idx, 3)) (kk : W p l e R s m args below meth c H locs cells slots Q (F0 m (pc + 3) ls (.ref v :: rest))) : W p l e R s m args below meth c H locs cells slots Q (F0 m pc ls (.ref a :: rest)) := by
  obtain ⟨k, hk⟩ := zh_get (g := g) X ha
  have hk : (X ++ zh_w g S)[k]? = some (a, .inr (4, [va_rf (zh_R S 1 a), va_rf (zh_R S 2 a), va_rf (zh_R S 3 a), va_rf (zh_R S 4 a)])) := hk
  refine va_get (D := g.2.2.1) (ci := 4) (v := va_rf (zh_R S 4 a)) (C := RX3) (T := TX3) (N := 4) C.1 C.2.1 C.2.2.2.2 zin_Forge C.2.2.2.1 I.K I.P k hk rfl 3 (by decide) (C.2.2.2.2 _ hl) (fun _ h => h) rfl hdg ?_
  rw [hv]
  exact kk

theorem zf_Forge_tally {v : Nat} (C : CallFix p m c cc nL s args zc_W own) (I : zh_V g A s X S H locs) (ha : zh_at S 3 a) (hl : Cond.fieldLink own idx "DiceForge" "tally" "[I" ∈ zc_W) (hin2 : meth.name = "<init>") (hdecl : "DiceForge" = own) (hdg : decode cc pc = .ok (.putfield idx, 3)) (kk : ∀ (H : Heap) (locs : List Loc), zh_V g A s X (zh_sR S 4 a (some v)) H locs → W p l e R s m args below meth c H locs cells slots Q (F0 m (pc + 3) ls rest)) : W p l e R s m args below meth c H locs cells slots Q (F0 m pc ls (.ref v :: .ref a :: rest)) := by
  obtain ⟨k, hk⟩ := zh_get (g := g) X ha
  have hk : (X ++ zh_w g S)[k]? = some (a, .inr (4, [va_rf (zh_R S 1 a), va_rf (zh_R S 2 a), va_rf (zh_R S 3 a), va_rf (zh_R S 4 a)])) := hk
  refine va_putF (D := g.2.2.1) (ci := 4) (ty := .array .int) (v := .ref v) (C := RX3) (T := TX3) (N := 4) C.1 C.2.1 C.2.2.2.2 zin_Forge tyX3 tyX3_ok nmX3 C.2.2.2.1 I.K I.P I.D I.S k hk rfl 3 (by decide) (C.2.2.2.2 _ hl) (fun _ h => h) rfl hin2 hdecl (by decide +kernel) rfl rfl (Nat.le_of_ble_eq_true rfl) hdg (fun H1 locs1 hP hD hS => kk H1 locs1 (I.to (zh_set I.D ha hk rfl rfl ?_ (fun b hb k => zh_e_sR g S _ hb k)) hP hD hS))
  simp [zh_e, zh_I_sR, zh_R_sR, zh_u, va_rf]

theorem zw_Forge (C : CallFix p m c cc nL s args zc_W own) (I : zh_V g A s X S H locs) (hcl : Cond.classLink own idx RX3 ∈ zc_W) (hinst : Cond.instantiable RX3 4 ∈ zc_W) (hini : Cond.initialized RX3 ∈ zc_W) (hc1 : cells + 1 ≤ R.cells) (hs1 : slots + 4 ≤ R.slots) (hdg : decode cc pc = .ok (.new idx, 3)) (kk : ∀ (q : Nat) (H : Heap), q ∉ zh_L S → zh_V g A s X (zh_nO S q 3) H locs → W p l e R s m args below meth c H locs (cells + 1) (slots + 4) Q (F0 m (pc + 3) ls (.ref q :: rest))) : W p l e R s m args below meth c H locs cells slots Q (F0 m pc ls rest) := by
  refine va_new (ci := 4) (fs := [.null, .null, .null, .null]) (C := RX3) (T := TX3) (N := 4) C.1 C.2.1 C.2.2.2.2 zin_Forge tyX3 tyX3_ok C.2.2.2.1 (C.2.2.2.2 _ hcl) (C.2.2.2.2 _ hinst) (C.2.2.2.2 _ hini) I.K I.P I.D I.S I.A rfl (fun j hj => by rcases (show j = 0 ∨ j = 1 ∨ j = 2 ∨ j = 3 by omega) with rfl | rfl | rfl | rfl <;> rfl) hc1 hs1 hdg (fun q H1 hP hD hS => ?_)
  have hq : q ∉ zh_L S := zf_fresh hD
  exact kk q H1 hq (I.to (zh_push hq rfl rfl (by simp [zh_e, zh_nO, zh_I, zh_R, va_rf]) (fun b hb k => zh_e_nO g S _ hb k)) hP hD hS)

theorem zg_List_modCount {v : Int32} (C : CallFix p m c cc nL s args zc_W own) (I : zh_V g A s X S H locs) (ha : zh_at S 5 a) (hsf : Cond.sameField "java/util/ArrayList" "java/util/AbstractList" "modCount" "I" ∈ zc_W) (hl : Cond.fieldLink own idx "java/util/ArrayList" "modCount" "I" ∈ zc_W) (hv : zh_I S 30 a = v) (hdg : decode cc pc = .ok (.getfield idx, 3)) (kk : W p l e R s m args below meth c H locs cells slots Q (F0 m (pc + 3) ls (.int v :: rest))) : W p l e R s m args below meth c H locs cells slots Q (F0 m pc ls (.ref a :: rest)) := by
  obtain ⟨k, hk⟩ := zh_get (g := g) X ha
  have hk : (X ++ zh_w g S)[k]? = some (a, .inr (0, [.int (zh_I S 30 a), va_rf (zh_R S 30 a), .int (zh_I S 31 a)])) := hk
  refine va_get (D := g.2.2.1) (ci := 0) (v := .int (zh_I S 30 a)) (C := RJx4a65c) (T := TJx4a65c) (N := 3) C.1 C.2.1 C.2.2.2.2 zin_List C.2.2.2.1 I.K I.P k hk rfl 0 (by decide) (C.2.2.2.2 _ hl) (fun x hx => u_same (C.2.2.2.2 _ hsf) x hx) rfl hdg ?_
  rw [hv]
  exact kk

theorem zp_List_modCount {v : Int32} (C : CallFix p m c cc nL s args zc_W own) (I : zh_V g A s X S H locs) (ha : zh_at S 5 a) (hsf : Cond.sameField "java/util/ArrayList" "java/util/AbstractList" "modCount" "I" ∈ zc_W) (hl : Cond.fieldLink own idx "java/util/ArrayList" "modCount" "I" ∈ zc_W) (hdg : decode cc pc = .ok (.putfield idx, 3)) (kk : ∀ (H : Heap) (locs : List Loc), zh_V g A s X (zh_sI S 30 a v) H locs → W p l e R s m args below meth c H locs cells slots Q (F0 m (pc + 3) ls rest)) : W p l e R s m args below meth c H locs cells slots Q (F0 m pc ls (.int v :: .ref a :: rest)) := by
  obtain ⟨k, hk⟩ := zh_get (g := g) X ha
  have hk : (X ++ zh_w g S)[k]? = some (a, .inr (0, [.int (zh_I S 30 a), va_rf (zh_R S 30 a), .int (zh_I S 31 a)])) := hk
  refine va_put (D := g.2.2.1) (ci := 0) (ty := .int) (v := .int v) (C := RJx4a65c) (T := TJx4a65c) (N := 3) C.1 C.2.1 C.2.2.2.2 zin_List tyJx4a65c tyJx4a65c_ok nmJx4a65c C.2.2.2.1 I.K I.P I.D I.S k hk rfl 0 (by decide) (C.2.2.2.2 _ hl) (fun x hx => u_same (C.2.2.2.2 _ hsf) x hx) rfl (by decide +kernel) rfl rfl (Nat.le_of_ble_eq_true rfl) hdg (fun H1 locs1 hP hD hS => kk H1 locs1 (I.to (zh_set I.D ha hk rfl rfl ?_ (fun b hb k => zh_e_sI g S _ hb k)) hP hD hS))
  simp [zh_e, zh_I_sI, zh_R_sI, zh_u]

theorem zg_List_elementData {v : Nat} (C : CallFix p m c cc nL s args zc_W own) (I : zh_V g A s X S H locs) (ha : zh_at S 5 a) (hl : Cond.fieldLink own idx "java/util/ArrayList" "elementData" "[Ljava/lang/Object;" ∈ zc_W) (hv : zh_R S 30 a = some v) (hdg : decode cc pc = .ok (.getfield idx, 3)) (kk : W p l e R s m args below meth c H locs cells slots Q (F0 m (pc + 3) ls (.ref v :: rest))) : W p l e R s m args below meth c H locs cells slots Q (F0 m pc ls (.ref a :: rest)) := by
  obtain ⟨k, hk⟩ := zh_get (g := g) X ha
  have hk : (X ++ zh_w g S)[k]? = some (a, .inr (0, [.int (zh_I S 30 a), va_rf (zh_R S 30 a), .int (zh_I S 31 a)])) := hk
  refine va_get (D := g.2.2.1) (ci := 0) (v := va_rf (zh_R S 30 a)) (C := RJx4a65c) (T := TJx4a65c) (N := 3) C.1 C.2.1 C.2.2.2.2 zin_List C.2.2.2.1 I.K I.P k hk rfl 1 (by decide) (C.2.2.2.2 _ hl) (fun _ h => h) rfl hdg ?_
  rw [hv]
  exact kk

theorem zp_List_elementData {v : Nat} (C : CallFix p m c cc nL s args zc_W own) (I : zh_V g A s X S H locs) (ha : zh_at S 5 a) (hl : Cond.fieldLink own idx "java/util/ArrayList" "elementData" "[Ljava/lang/Object;" ∈ zc_W) (hdg : decode cc pc = .ok (.putfield idx, 3)) (kk : ∀ (H : Heap) (locs : List Loc), zh_V g A s X (zh_sR S 30 a (some v)) H locs → W p l e R s m args below meth c H locs cells slots Q (F0 m (pc + 3) ls rest)) : W p l e R s m args below meth c H locs cells slots Q (F0 m pc ls (.ref v :: .ref a :: rest)) := by
  obtain ⟨k, hk⟩ := zh_get (g := g) X ha
  have hk : (X ++ zh_w g S)[k]? = some (a, .inr (0, [.int (zh_I S 30 a), va_rf (zh_R S 30 a), .int (zh_I S 31 a)])) := hk
  refine va_put (D := g.2.2.1) (ci := 0) (ty := .array (.object "java/lang/Object")) (v := .ref v) (C := RJx4a65c) (T := TJx4a65c) (N := 3) C.1 C.2.1 C.2.2.2.2 zin_List tyJx4a65c tyJx4a65c_ok nmJx4a65c C.2.2.2.1 I.K I.P I.D I.S k hk rfl 1 (by decide) (C.2.2.2.2 _ hl) (fun _ h => h) rfl (by decide +kernel) rfl rfl (Nat.le_of_ble_eq_true rfl) hdg (fun H1 locs1 hP hD hS => kk H1 locs1 (I.to (zh_set I.D ha hk rfl rfl ?_ (fun b hb k => zh_e_sR g S _ hb k)) hP hD hS))
  simp [zh_e, zh_I_sR, zh_R_sR, zh_u, va_rf]

theorem zg_List_size {v : Int32} (C : CallFix p m c cc nL s args zc_W own) (I : zh_V g A s X S H locs) (ha : zh_at S 5 a) (hl : Cond.fieldLink own idx "java/util/ArrayList" "size" "I" ∈ zc_W) (hv : zh_I S 31 a = v) (hdg : decode cc pc = .ok (.getfield idx, 3)) (kk : W p l e R s m args below meth c H locs cells slots Q (F0 m (pc + 3) ls (.int v :: rest))) : W p l e R s m args below meth c H locs cells slots Q (F0 m pc ls (.ref a :: rest)) := by
  obtain ⟨k, hk⟩ := zh_get (g := g) X ha
  have hk : (X ++ zh_w g S)[k]? = some (a, .inr (0, [.int (zh_I S 30 a), va_rf (zh_R S 30 a), .int (zh_I S 31 a)])) := hk
  refine va_get (D := g.2.2.1) (ci := 0) (v := .int (zh_I S 31 a)) (C := RJx4a65c) (T := TJx4a65c) (N := 3) C.1 C.2.1 C.2.2.2.2 zin_List C.2.2.2.1 I.K I.P k hk rfl 2 (by decide) (C.2.2.2.2 _ hl) (fun _ h => h) rfl hdg ?_
  rw [hv]
  exact kk

theorem zp_List_size {v : Int32} (C : CallFix p m c cc nL s args zc_W own) (I : zh_V g A s X S H locs) (ha : zh_at S 5 a) (hl : Cond.fieldLink own idx "java/util/ArrayList" "size" "I" ∈ zc_W) (hdg : decode cc pc = .ok (.putfield idx, 3)) (kk : ∀ (H : Heap) (locs : List Loc), zh_V g A s X (zh_sI S 31 a v) H locs → W p l e R s m args below meth c H locs cells slots Q (F0 m (pc + 3) ls rest)) : W p l e R s m args below meth c H locs cells slots Q (F0 m pc ls (.int v :: .ref a :: rest)) := by
  obtain ⟨k, hk⟩ := zh_get (g := g) X ha
  have hk : (X ++ zh_w g S)[k]? = some (a, .inr (0, [.int (zh_I S 30 a), va_rf (zh_R S 30 a), .int (zh_I S 31 a)])) := hk
  refine va_put (D := g.2.2.1) (ci := 0) (ty := .int) (v := .int v) (C := RJx4a65c) (T := TJx4a65c) (N := 3) C.1 C.2.1 C.2.2.2.2 zin_List tyJx4a65c tyJx4a65c_ok nmJx4a65c C.2.2.2.1 I.K I.P I.D I.S k hk rfl 2 (by decide) (C.2.2.2.2 _ hl) (fun _ h => h) rfl (by decide +kernel) rfl rfl (Nat.le_of_ble_eq_true rfl) hdg (fun H1 locs1 hP hD hS => kk H1 locs1 (I.to (zh_set I.D ha hk rfl rfl ?_ (fun b hb k => zh_e_sI g S _ hb k)) hP hD hS))
  simp [zh_e, zh_I_sI, zh_R_sI, zh_u]

theorem zp_List_modCountA {v : Int32} (C : CallFix p m c cc nL s args zc_W own) (I : zh_V g A s X S H locs) (ha : zh_at S 5 a) (hl : Cond.fieldLink own idx "java/util/AbstractList" "modCount" "I" ∈ zc_W) (hdg : decode cc pc = .ok (.putfield idx, 3)) (kk : ∀ (H : Heap) (locs : List Loc), zh_V g A s X (zh_sI S 30 a v) H locs → W p l e R s m args below meth c H locs cells slots Q (F0 m (pc + 3) ls rest)) : W p l e R s m args below meth c H locs cells slots Q (F0 m pc ls (.int v :: .ref a :: rest)) := by
  obtain ⟨k, hk⟩ := zh_get (g := g) X ha
  have hk : (X ++ zh_w g S)[k]? = some (a, .inr (0, [.int (zh_I S 30 a), va_rf (zh_R S 30 a), .int (zh_I S 31 a)])) := hk
  refine va_put (D := g.2.2.1) (ci := 0) (ty := .int) (v := .int v) (C := RJx4a65c) (T := TJx4a65c) (N := 3) C.1 C.2.1 C.2.2.2.2 zin_List tyJx4a65c tyJx4a65c_ok nmJx4a65c C.2.2.2.1 I.K I.P I.D I.S k hk rfl 0 (by decide) (C.2.2.2.2 _ hl) (fun _ h => h) rfl (by decide +kernel) rfl rfl (Nat.le_of_ble_eq_true rfl) hdg (fun H1 locs1 hP hD hS => kk H1 locs1 (I.to (zh_set I.D ha hk rfl rfl ?_ (fun b hb k => zh_e_sI g S _ hb k)) hP hD hS))
  simp [zh_e, zh_I_sI, zh_R_sI, zh_u]

theorem zw_List (C : CallFix p m c cc nL s args zc_W own) (I : zh_V g A s X S H locs) (hcl : Cond.classLink own idx RJx4a65c ∈ zc_W) (hinst : Cond.instantiable RJx4a65c 3 ∈ zc_W) (hini : Cond.initialized RJx4a65c ∈ zc_W) (hc1 : cells + 1 ≤ R.cells) (hs1 : slots + 3 ≤ R.slots) (hdg : decode cc pc = .ok (.new idx, 3)) (kk : ∀ (q : Nat) (H : Heap), q ∉ zh_L S → zh_V g A s X (zh_nO S q 5) H locs → W p l e R s m args below meth c H locs (cells + 1) (slots + 3) Q (F0 m (pc + 3) ls (.ref q :: rest))) : W p l e R s m args below meth c H locs cells slots Q (F0 m pc ls rest) := by
  refine va_new (ci := 0) (fs := [.int 0, .null, .int 0]) (C := RJx4a65c) (T := TJx4a65c) (N := 3) C.1 C.2.1 C.2.2.2.2 zin_List tyJx4a65c tyJx4a65c_ok C.2.2.2.1 (C.2.2.2.2 _ hcl) (C.2.2.2.2 _ hinst) (C.2.2.2.2 _ hini) I.K I.P I.D I.S I.A rfl (fun j hj => by rcases (show j = 0 ∨ j = 1 ∨ j = 2 by omega) with rfl | rfl | rfl <;> rfl) hc1 hs1 hdg (fun q H1 hP hD hS => ?_)
  have hq : q ∉ zh_L S := zf_fresh hD
  exact kk q H1 hq (I.to (zh_push hq rfl rfl (by simp [zh_e, zh_nO, zh_I, zh_R, va_rf]) (fun b hb k => zh_e_nO g S _ hb k)) hP hD hS)

end ZF
