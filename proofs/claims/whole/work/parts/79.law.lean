/-! the law's loop: its invariant -/
theorem lg_self (v : Int64) : lg_cmp v v = 0 := by
  have h : ¬ v > v := Int64.lt_irrefl
  simp [lg_cmp, h]
def zLI (g : zG) (s : State) (b x mo oa : Nat) (ar : Nat → Nat) (i : Nat) (H : Heap) (locs : List Loc) (ls : Array Slot) : Prop := ∃ (S M : zS) (T : zT), zt_ok T ∧ FE g S T x ∧ zh_at S 9 oa ∧ zh_N S oa = 1 ∧ MR M T mo ar ∧ zh_V g (fun q => s.heap.size ≤ q) s (zh_w g M) S H locs ∧ lv_has ls 8 [(0, .ref b), (1, .ref x), (2, .ref mo), (3, .ref oa), (4, .int (nI i))]
def zLC (p : Program) (l : Launch) (s : State) (m : MethodId) (c : Code) (b L : Nat) (xs : Nat → Int32) : Prop := l.stackTraces = false ∧ CallFix p m c cL_law 8 s #[Value.ref b] zc_W RL ∧ va_X b L xs s s.heap ∧ b < s.heap.size ∧ L ≤ 2048
theorem zb_promise (T : zT) (x : Int32) : zc_promise T x ≤ 3 := by unfold zc_promise; split <;> (try split) <;> omega
theorem zb_prom (T : zT) (x : Int32) : zc_prom T x ≤ 3 := by unfold zc_prom; split <;> omega
theorem zb_entry (T : zT) (x : Int32) : zc_entry T x ≤ 3 := by unfold zc_entry; split <;> omega
theorem zb_open (T : zT) (x : Int32) : zc_open T x ≤ 3 := by unfold zc_open; split <;> (try split) <;> omega
theorem zb_part (x y : Int32) : zc_part x y ≤ 3 := by unfold zc_part; split <;> (try split) <;> omega
theorem zb_rollc (T : zT) (x t f : Int32) : zc_roll T x t f ≤ 3 := by unfold zc_roll; split <;> (try split) <;> (try split) <;> omega
theorem zb_alter (T : zT) (x y : Int32) : zc_alter T x y ≤ 3 := by unfold zc_alter; split <;> (try split) <;> (try split) <;> omega
theorem zb_found (T : zT) (x : Int32) : zc_found T x ≤ 3 := by unfold zc_found; split <;> (try split) <;> omega
theorem zb_wrong (T : zT) (x : Int32) : zc_wrong T x ≤ 3 := by unfold zc_wrong; split <;> (try split) <;> omega
theorem zb_disp (T : zT) (x : Int32) : zc_disp T x ≤ 3 := by unfold zc_disp; split <;> (try split) <;> omega
theorem zb_count (x y : Int32) : zc_count x y ≤ 3 := by unfold zc_count; split <;> omega
theorem zb_unev (x : Int32) : zc_unev x ≤ 3 := by unfold zc_unev; split <;> omega
theorem zb_tab (x : Int32) : zc_tab x ≤ 3 := by unfold zc_tab; split <;> omega

