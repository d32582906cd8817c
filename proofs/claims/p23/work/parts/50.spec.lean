/-! THE STATE OF A FORGE, in numbers: promises and entries; what each call answers and leaves. -/
/-- (promises, entries), and by a number of kind: 0 seed, 1 state, 2 opened, 3 disputed (of a promise), 4 part (of a table), 5 promise, 6 table, 7 part, 8 faces, 9 value, 10 rejected, 11 sum, 12 struck (of an entry) -/
abbrev zT : Type := (Nat × Nat) × (Nat → Nat → Nat)
def zt_s (T : zT) (j k x : Nat) : zT := (T.1, zh_u T.2 j k x)
def zt_ok (T : zT) : Prop := T.1.1 ≤ 16 ∧ T.1.2 ≤ 100 ∧ (∀ k : Nat, T.2 0 k < 65536 ∧ T.2 1 k < 65536 ∧ T.2 2 k ≤ 1 ∧ T.2 3 k ≤ 1) ∧ (∀ k : Nat, T.2 4 k ≤ 999) ∧
  (∀ k : Nat, k < T.1.2 → T.2 5 k < T.1.1 ∧ T.2 6 k < 4 ∧ T.2 7 k ≤ 999 ∧ 2 ≤ T.2 8 k ∧ T.2 8 k ≤ 1000 ∧ 1 ≤ T.2 9 k ∧ T.2 9 k ≤ T.2 8 k ∧ T.2 10 k ≤ 65536 ∧ T.2 11 k < 1000003 ∧ T.2 12 k ≤ 1) ∧
  (∀ k : Nat, T.1.1 ≤ k → T.2 2 k = 0 ∧ T.2 3 k = 0) ∧ (∀ k : Nat, T.1.2 ≤ k → T.2 12 k = 0)
/-- no such number below n -/
abbrev zi (n : Nat) (x : Int32) : Prop := x < 0 ∨ nI n ≤ x
abbrev zx (x : Int32) : Nat := x.toNatClampNeg
theorem zi_no {n j : Nat} (h : j < n) (hn : n < 2 ^ 31) : ¬ zi n (nI j) := fun h9 => h9.elim (fun h => nI_pos (by omega) h) (fun h8 => absurd ((nI_leI hn (by omega)).mp h8) (by omega))
theorem zx_nI {j : Nat} (h : j < 2 ^ 31) : zx (nI j) = j := nI_clamp h
theorem zi_cases (x : Int32) {n : Nat} (hn : n < 2 ^ 31) : zi n x ∨ (¬ zi n x ∧ zx x < n ∧ x = nI (zx x)) := by
  rcases pk_ix x hn with h | h | ⟨j, hj, rfl⟩
  · exact Or.inl (Or.inl h)
  · exact Or.inl (Or.inr h)
  · rw [zx_nI (by omega)]
    exact Or.inr ⟨zi_no hj hn, hj, rfl⟩
def zd_sign (s : Nat) : Nat := (s * s + 31 * s + 7) % 10007
/-- how many of the seeds below n have the sign g -/
def zd_cnt (sg : Nat) : Nat → Nat
  | 0 => 0
  | n + 1 => zd_cnt sg n + (if zd_sign n = sg then 1 else 0)
def zd_seeds (s : Nat) : Nat := zd_cnt (zd_sign s) 65536
/-- the sum of entry k, by the rule -/
def zt_sum (T : zT) (k : Nat) : Nat := zd_sum (if k = 0 then 17 else T.2 11 (k - 1)) (T.2 5 k) (T.2 6 k) (T.2 8 k) (T.2 9 k) (T.2 10 k)
/-- the first entry from k on, among n, whose sum isn't what the rule gives -/
def zt_broken (T : zT) : Nat → Nat → Int32
  | 0, _ => -1
  | n + 1, k => if T.2 11 k ≠ zt_sum T k then nI k else zt_broken T n (k + 1)
/-- the state of promise p behind its rolls among the first n entries, found again -/
def zt_ag (T : zT) (q : Nat) : Nat → Nat
  | 0 => T.2 0 q
  | n + 1 => if T.2 5 n = q then (zd_roll (zt_ag T q n) (T.2 7 n) (T.2 8 n)).1 else zt_ag T q n
/-- the value of entry k, found again for promise q -/
def zt_fd (T : zT) (q k : Nat) : Nat := zd_val (zt_ag T q k) (T.2 7 k) (T.2 8 k)
def zt_bad (T : zT) (q k : Nat) : Prop := T.2 5 k = q ∧ T.2 9 k ≠ zt_fd T q k
/-- the first entry of promise q, from k on, among n, that doesn't have its value -/
def zt_wrong (T : zT) (q : Nat) : Nat → Nat → Int32
  | 0, _ => -1
  | n + 1, k => if T.2 5 k = q ∧ T.2 9 k ≠ zt_fd T q k then nI k else zt_wrong T q n (k + 1)
/-- the entries of promise q from a on, among the first n -/
def zt_own (T : zT) (q a : Nat) : Nat → Nat
  | 0 => 0
  | n + 1 => zt_own T q a n + (if T.2 5 n = q ∧ a ≤ n then 1 else 0)
/-- the entries of faces f with the value x (0: any), not struck, among the first n -/
def zt_cnt (T : zT) (f x : Nat) : Nat → Nat
  | 0 => 0
  | n + 1 => zt_cnt T f x n + (if T.2 12 n = 0 ∧ T.2 8 n = f ∧ (T.2 9 n = x ∨ x = 0) then 1 else 0)
def zt_total (T : zT) (t : Nat) : Nat → Nat
  | 0 => 0
  | n + 1 => zt_total T t n + (if T.2 6 n = t ∧ T.2 12 n = 0 then T.2 9 n else 0)
/-- the sum of squares over the values 1 .. n -/
def zt_unev (T : zT) (f : Nat) : Nat → Int64
  | 0 => 0
  | n + 1 => zt_unev T f n + ((nI f).toInt64 * (nI (zt_cnt T f (n + 1) T.1.2)).toInt64 - (nI (zt_cnt T f 0 T.1.2)).toInt64) * ((nI f).toInt64 * (nI (zt_cnt T f (n + 1) T.1.2)).toInt64 - (nI (zt_cnt T f 0 T.1.2)).toInt64)
-- the calls: the code (0: it answers; else the place in its throws clause), the state behind it
def zc_promise (T : zT) (x : Int32) : Nat := if zi 65536 x then 1 else if 16 ≤ T.1.1 then 2 else 0
def zs_promise (T : zT) (x : Int32) : zT := if zc_promise T x = 0 then ((T.1.1 + 1, T.1.2), zh_u (zh_u T.2 0 T.1.1 (zx x)) 1 T.1.1 (zx x)) else T
def zc_prom (T : zT) (x : Int32) : Nat := if zi T.1.1 x then 1 else 0
def zc_entry (T : zT) (x : Int32) : Nat := if zi T.1.2 x then 1 else 0
def zc_open (T : zT) (x : Int32) : Nat := if zi T.1.1 x then 1 else if T.2 2 (zx x) ≠ 0 then 2 else 0
def zs_open (T : zT) (x : Int32) : zT := if zc_open T x = 0 then zt_s T 2 (zx x) 1 else T
def zc_part (x y : Int32) : Nat := if zi 4 x then 1 else if zi 1000 y then 2 else 0
def zs_part (T : zT) (x y : Int32) : zT := if zc_part x y = 0 then zt_s T 4 (zx x) (zx y) else T
def zc_roll (T : zT) (x t f : Int32) : Nat := if zi T.1.1 x ∨ zi 4 t then 1 else if f < 2 ∨ 1000 < f then 2 else if T.2 2 (zx x) ≠ 0 ∨ 100 ≤ T.1.2 then 3 else 0
def zr_roll (T : zT) (x t f : Int32) : Nat := zd_val (T.2 1 (zx x)) (T.2 4 (zx t)) (zx f)
def zb_roll (T : zT) : Nat := if T.1.2 = 0 then 17 else T.2 11 (T.1.2 - 1)
def zs_rolled (T : zT) (q t f : Nat) : zT := ((T.1.1, T.1.2 + 1), zh_u (zh_u (zh_u (zh_u (zh_u (zh_u (zh_u (zh_u T.2 1 q (zd_roll (T.2 1 q) (T.2 4 t) f).1) 5 T.1.2 q) 6 T.1.2 t) 7 T.1.2 (T.2 4 t)) 8 T.1.2 f) 9 T.1.2 (zd_val (T.2 1 q) (T.2 4 t) f)) 10 T.1.2 (zd_roll (T.2 1 q) (T.2 4 t) f).2) 11 T.1.2 (zd_sum (zb_roll T) q t f (zd_val (T.2 1 q) (T.2 4 t) f) (zd_roll (T.2 1 q) (T.2 4 t) f).2))
def zs_roll (T : zT) (x t f : Int32) : zT := if zc_roll T x t f = 0 then zs_rolled T (zx x) (zx t) (zx f) else T
def zc_alter (T : zT) (x y : Int32) : Nat := if zi T.1.2 x then 1 else if y < 1 ∨ nI (T.2 8 (zx x)) < y then 2 else if T.2 12 (zx x) ≠ 0 then 3 else 0
def zs_alter (T : zT) (x y : Int32) : zT := if zc_alter T x y = 0 then zt_s T 9 (zx x) (zx y) else T
def zc_found (T : zT) (x : Int32) : Nat := if zi T.1.2 x then 1 else if T.2 2 (T.2 5 (zx x)) = 0 then 2 else 0
def zc_wrong (T : zT) (x : Int32) : Nat := if zi T.1.1 x then 1 else if T.2 2 (zx x) = 0 then 2 else 0
def zv_wrong (T : zT) (q : Nat) : Int32 := zt_wrong T q T.1.2 0
def zc_disp (T : zT) (x : Int32) : Nat := if zi T.1.1 x then 1 else if T.2 2 (zx x) = 0 ∨ T.2 3 (zx x) ≠ 0 then 2 else 0
def zv_disp (T : zT) (q : Nat) : Nat := if zv_wrong T q = -1 then 0 else zt_own T q (zx (zv_wrong T q)) T.1.2
def zs_strike (T : zT) (q a n : Nat) : zT := (T.1, fun j k => if j = 12 ∧ T.2 5 k = q ∧ a ≤ k ∧ k < n then 1 else T.2 j k)
def zs_disp (T : zT) (x : Int32) : zT := if zc_disp T x = 0 then (if zv_wrong T (zx x) = -1 then zt_s T 3 (zx x) 1 else zs_strike (zt_s T 3 (zx x) 1) (zx x) (zx (zv_wrong T (zx x))) T.1.2) else T
def zc_count (x y : Int32) : Nat := if (x < 2 ∨ 1000 < x) ∨ (y < 1 ∨ x < y) then 1 else 0
def zc_unev (x : Int32) : Nat := if x < 2 ∨ 1000 < x then 1 else 0
def zc_tab (x : Int32) : Nat := if zi 4 x then 1 else 0
-- THE CLASS'S OWN STATE: a list of n elements of a kind
def FL (g : zG) (S : zS) (pl n ar kd : Nat) (el : Nat → Nat) : Prop := zh_at S 5 pl ∧ zh_I S 31 pl = nI n ∧ zh_R S 30 pl = some ar ∧ ((n = 0 ∧ ar = g.2.1) ∨ (zh_at S 8 ar ∧ n ≤ zh_N S ar ∧ 10 ≤ zh_N S ar ∧ zh_N S ar ≤ 150)) ∧ ∀ i : Nat, i < n → zh_Q S ar i = some (el i) ∧ zh_at S kd (el i)
/-- the forge x: pl, lo its lists (arrays pa, la), pt its parts, ty its tally; promise k at ap k, its draws at ad k; entry k at ae k -/
def FR (g : zG) (S : zS) (T : zT) (x pl lo pt ty pa la : Nat) (ap ad ae : Nat → Nat) : Prop :=
  (zh_at S 3 x ∧ zh_R S 1 x = some pl ∧ zh_R S 2 x = some lo ∧ zh_R S 3 x = some pt ∧ zh_R S 4 x = some ty) ∧
  (zh_at S 6 pt ∧ zh_N S pt = 4 ∧ zh_at S 6 ty ∧ zh_N S ty = 1001 ∧ ∀ t : Nat, t < 4 → zh_A S pt t = nI (T.2 4 t)) ∧
  FL g S pl T.1.1 pa 2 ap ∧ FL g S lo T.1.2 la 1 ae ∧ pl ≠ lo ∧ (zh_at S 8 pa → pa ≠ la) ∧
  (∀ k : Nat, k < T.1.1 → zh_R S 0 (ap k) = some (ad k) ∧ zh_at S 0 (ad k) ∧ zh_I S 10 (ap k) = nI (T.2 0 k) ∧ zh_I S 0 (ad k) = nI (T.2 1 k) ∧ zh_I S 11 (ap k) = nI (T.2 2 k) ∧ zh_I S 12 (ap k) = nI (T.2 3 k)) ∧
  (∀ k : Nat, k < T.1.2 → ∀ j : Nat, j < 8 → zh_I S (2 + j) (ae k) = nI (T.2 (5 + j) k)) ∧
  (∀ i j : Nat, i < T.1.1 → j < T.1.1 → ap i = ap j → i = j) ∧ (∀ i j : Nat, i < T.1.1 → j < T.1.1 → ad i = ad j → i = j) ∧ (∀ i j : Nat, i < T.1.2 → j < T.1.2 → ae i = ae j → i = j)
/-- some forge at x -/
def FE (g : zG) (S : zS) (T : zT) (x : Nat) : Prop := ∃ (pl lo pt ty pa la : Nat) (ap ad ae : Nat → Nat), FR g S T x pl lo pt ty pa la ap ad ae
/-- what isn't the forge's stays -/
def zk_ (S S' : zS) : Prop := ∀ a : Nat, a ∈ zh_L S → a ∈ zh_L S' ∧ zh_K S' a = zh_K S a ∧ zh_N S' a = zh_N S a ∧ zh_J S' a = zh_J S a
theorem zk_rf (S : zS) : zk_ S S := fun a h => ⟨h, rfl, rfl, rfl⟩
theorem zk_tr {S S' S'' : zS} (h : zk_ S S') (h' : zk_ S' S'') : zk_ S S'' := fun a ha => by
  obtain ⟨h1, h2, h3, h4⟩ := h a ha
  obtain ⟨k1, k2, k3, k4⟩ := h' a h1
  exact ⟨k1, k2.trans h2, k3.trans h3, k4.trans h4⟩
