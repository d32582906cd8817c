/-! THE LAW'S NUMBERS. The first rows are pasted from kit/laws/BITS. -/
def bt (x : Int32) (i : Nat) : Bool := x.toBitVec.getLsbD i
theorem b_ext {x y : Int32} (h : ∀ i, i < 32 → bt x i = bt y i) : x = y := Int32.toBitVec_inj.mp (BitVec.eq_of_getLsbD_eq (fun i hi => h i hi))
theorem b_or (x y : Int32) (i : Nat) : bt (x ||| y) i = (bt x i || bt y i) := by unfold bt; rw [Int32.toBitVec_or, BitVec.getLsbD_or]
theorem b_and (x y : Int32) (i : Nat) : bt (x &&& y) i = (bt x i && bt y i) := by unfold bt; rw [Int32.toBitVec_and, BitVec.getLsbD_and]
theorem b_0 (i : Nat) : bt 0 i = false := BitVec.getLsbD_zero
theorem s_l : ∀ n, n < 32 → ((nI n &&& 31).toBitVec.smod 32).toNat = n := by decide +kernel
theorem b_sshr (n : Nat) (hn : n < 32) (x : Int32) {i : Nat} (hi : i < 32) : bt (x >>> (nI n &&& 31)) i = if n + i < 32 then bt x (n + i) else bt x 31 := by
  unfold bt
  rw [Int32.toBitVec_shiftRight]
  show (x.toBitVec.sshiftRight ((nI n &&& 31).toBitVec.smod 32).toNat).getLsbD i = _
  rw [s_l n hn, BitVec.getLsbD_sshiftRight, BitVec.msb_eq_getLsbD_last]
  simp [hi]
theorem nf_sh : ∀ l, l < 32 → ((1 : Int32) <<< (nI l &&& 31)).toBitVec = BitVec.twoPow 32 l := by decide +kernel

theorem zb_1 : ∀ i, i < 32 → bt 1 i = decide (i = 0) := by decide +kernel
theorem zb_rd (x : Int32) {k : Nat} (hk : k < 31) : (x >>> (nI k &&& 31)) &&& 1 = nI (if bt x k = true then 1 else 0) := by
  apply b_ext
  intro i hi
  rw [b_and, b_sshr k (by omega) x hi, zb_1 i hi]
  by_cases h : i = 0
  · subst h
    rw [if_pos (by omega), Nat.add_zero]
    cases bt x k <;> decide
  · rw [decide_eq_false h, Bool.and_false]
    cases bt x k
    · exact (b_0 i).symm
    · show false = bt 1 i
      rw [zb_1 i hi, decide_eq_false h]
/-- the bits of x are f's numbers 0 and 1 -/
def zbt (x : Int32) (f : Nat → Nat) : Prop := ∀ k : Nat, k < 31 → (if bt x k = true then 1 else 0) = f k
theorem zbt_rd {x : Int32} {f : Nat → Nat} (h : zbt x f) {k : Nat} (hk : k < 31) : (x >>> (nI k &&& 31)) &&& 1 = nI (f k) := by rw [zb_rd x hk, h k hk]
theorem zbt_ext {x : Int32} {f f' : Nat → Nat} (h : zbt x f) (e : ∀ k : Nat, k < 31 → f' k = f k) : zbt x f' := fun k hk => by rw [e k hk]; exact h k hk
theorem zb_or0 (x : Int32) : x ||| 0 = x := b_ext (fun i hi => by rw [b_or, b_0, Bool.or_false])
theorem zbt_or {x : Int32} {f : Nat → Nat} (h : zbt x f) {n : Nat} (hn : n < 31) : zbt (x ||| ((1 : Int32) <<< (nI n &&& 31))) (fun k => if k = n then 1 else f k) := fun k hk => by
  have e : bt ((1 : Int32) <<< (nI n &&& 31)) k = decide (k = n) := by
    unfold bt
    rw [nf_sh n (by omega), BitVec.getLsbD_twoPow]
    by_cases c : k = n
    · subst c; simp; omega
    · rw [decide_eq_false c, decide_eq_false (fun e9 : n = k => c e9.symm), Bool.and_false]
  rw [b_or, e]
  show _ = if k = n then 1 else f k
  by_cases c : k = n
  · rw [decide_eq_true c, Bool.or_true, if_pos rfl, if_pos c]
  · rw [decide_eq_false c, Bool.or_false, if_neg c]; exact h k hk
theorem zbt_0 : zbt 0 (fun _ => 0) := fun k _ => by rw [b_0]; rfl
-- signs
theorem zd_sign_r (s : Nat) : ((s % 10007) * (s % 10007 + 31) + 7) % 10007 = zd_sign s := by
  have e : s * s + 31 * s + 7 = s * (s + 31) + 7 := by rw [Nat.mul_add, Nat.mul_comm s 31]
  unfold zd_sign
  rw [e]
  simp [Nat.add_mod, Nat.mul_mod]
theorem zd_sign_lt (s : Nat) : zd_sign s < 10007 := Nat.mod_lt _ (by decide)
theorem zd_sign_p {M : Nat} (hM : M = 10007) (s : Nat) : zd_sign (s + M) = zd_sign s := by
  subst hM
  rw [← zd_sign_r, ← zd_sign_r, Nat.add_mod_right]
theorem zd_cnt_s (sg n : Nat) : zd_cnt sg (n + 1) = zd_cnt sg n + (if zd_sign n = sg then 1 else 0) := rfl
theorem zd_cnt_p {M : Nat} (hM : M = 10007) (sg n : Nat) : zd_cnt sg (n + M) = zd_cnt sg n + zd_cnt sg M := by
  induction n with
  | zero => rw [Nat.zero_add]; exact (Nat.zero_add _).symm
  | succ n ih => rw [Nat.add_right_comm, zd_cnt_s, zd_cnt_s, ih, zd_sign_p hM]; omega
def zd_sv (sg : Nat) : Nat → Nat
  | 0 => 0
  | n + 1 => zd_sv sg n + (if zd_sign n = sg then (if n < 5494 then 7 else 6) else 0)
theorem zd_sv_s (sg n : Nat) : zd_sv sg (n + 1) = zd_sv sg n + (if zd_sign n = sg then (if n < 5494 then 7 else 6) else 0) := rfl
theorem zd_sv_lo {K : Nat} (hK : K = 5494) (sg n : Nat) : zd_sv sg n = 6 * zd_cnt sg n + zd_cnt sg (min n K) := by
  induction n with
  | zero => rw [Nat.zero_min]; rfl
  | succ n ih =>
    rw [zd_sv_s, zd_cnt_s, ih]
    rcases Nat.lt_or_ge n K with h | h
    · rw [Nat.min_eq_left (Nat.le_of_lt h), Nat.min_eq_left (Nat.succ_le_of_lt h), zd_cnt_s]
      split
      · rw [if_pos (by omega)]; omega
      · omega
    · rw [Nat.min_eq_right h, Nat.min_eq_right (by omega)]
      split
      · rw [if_neg (by omega)]; omega
      · omega
theorem zd_cnt_6 {M K N : Nat} (hM : M = 10007) (hK : K = 5494) (hN : N = 65536) (sg : Nat) : zd_cnt sg N = 6 * zd_cnt sg M + zd_cnt sg K := by
  have e : N = K + M + M + M + M + M + M := by omega
  rw [e, zd_cnt_p hM, zd_cnt_p hM, zd_cnt_p hM, zd_cnt_p hM, zd_cnt_p hM, zd_cnt_p hM]
  omega
theorem zd_seeds_sv {M : Nat} (hM : M = 10007) (s : Nat) : zd_sv (zd_sign s) M = zd_seeds s := by
  have h := zd_sv_lo (K := 5494) rfl (zd_sign s) M
  rw [Nat.min_eq_right (by omega)] at h
  rw [h]
  exact (zd_cnt_6 hM rfl rfl (zd_sign s)).symm
theorem zd_sv_le (sg n : Nat) : zd_sv sg n ≤ 7 * n := by
  induction n with
  | zero => exact Nat.le_refl _
  | succ n ih => rw [zd_sv_s]; split <;> (try split) <;> omega
-- evenness
def zw_sum (w : Nat → Nat) : Nat → Nat
  | 0 => 0
  | m + 1 => zw_sum w m + w (m + 1)
theorem zw_add (w v : Nat → Nat) (m : Nat) : zw_sum (fun x => w x + v x) m = zw_sum w m + zw_sum v m := by
  induction m with
  | zero => rfl
  | succ m ih => show zw_sum _ m + (w (m + 1) + v (m + 1)) = zw_sum w m + w (m + 1) + (zw_sum v m + v (m + 1)); rw [ih]; omega
theorem zw_0 {w : Nat → Nat} {m : Nat} (h : ∀ x : Nat, 1 ≤ x → x ≤ m → w x = 0) : zw_sum w m = 0 := by
  induction m with
  | zero => rfl
  | succ m ih => show zw_sum w m + w (m + 1) = 0; rw [ih (fun x h1 h2 => h x h1 (by omega)), h (m + 1) (by omega) (Nat.le_refl _)]
theorem zw_congr {w v : Nat → Nat} {m : Nat} (h : ∀ x : Nat, 1 ≤ x → x ≤ m → w x = v x) : zw_sum w m = zw_sum v m := by
  induction m with
  | zero => rfl
  | succ m ih => show zw_sum w m + w (m + 1) = zw_sum v m + v (m + 1); rw [ih (fun x h1 h2 => h x h1 (by omega)), h (m + 1) (by omega) (Nat.le_refl _)]
theorem zw_one {w : Nat → Nat} {j m : Nat} (h1 : 1 ≤ j) (h2 : j ≤ m) : zw_sum (fun x => if x = j then w x else 0) m = w j := by
  induction m with
  | zero => omega
  | succ m ih =>
    show zw_sum _ m + (if m + 1 = j then w (m + 1) else 0) = w j
    by_cases c : m + 1 = j
    · rw [if_pos c, zw_0 (fun x _ h4 => if_neg (by omega)), Nat.zero_add, c]
    · rw [if_neg c, ih (by omega), Nat.add_zero]
/-- not struck, of faces f -/
abbrev zt_un (T : zT) (f k : Nat) : Prop := T.2 12 k = 0 ∧ T.2 8 k = f
/-- over the entries that count: the sum of a weight of their values -/
def zt_wt (T : zT) (f : Nat) (w : Nat → Nat) : Nat → Nat
  | 0 => 0
  | n + 1 => zt_wt T f w n + (if zt_un T f n then w (T.2 9 n) else 0)
theorem zt_wt_s (T : zT) (f : Nat) (w : Nat → Nat) (n : Nat) : zt_wt T f w (n + 1) = zt_wt T f w n + (if zt_un T f n then w (T.2 9 n) else 0) := rfl
theorem zt_cnt_s (T : zT) (f x n : Nat) : zt_cnt T f x (n + 1) = zt_cnt T f x n + (if T.2 12 n = 0 ∧ T.2 8 n = f ∧ (T.2 9 n = x ∨ x = 0) then 1 else 0) := rfl
theorem zt_wt_eq (T : zT) (f : Nat) (w : Nat → Nat) (n : Nat) (h : ∀ k : Nat, k < n → 1 ≤ T.2 9 k ∧ T.2 9 k ≤ T.2 8 k) : zw_sum (fun x => w x * zt_cnt T f x n) f = zt_wt T f w n := by
  induction n with
  | zero => exact zw_0 (fun x _ _ => Nat.mul_zero _)
  | succ n ih =>
    have hn := h n (Nat.lt_succ_self n)
    rw [zt_wt_s, ← ih (fun k hk => h k (by omega))]
    by_cases c : zt_un T f n
    · rw [if_pos c]
      have e := zw_add (fun x => w x * zt_cnt T f x n) (fun x => if x = T.2 9 n then w x else 0) f
      rw [zw_one hn.1 (by rw [← c.2]; exact hn.2)] at e
      rw [← e]
      refine zw_congr (fun x h1 _ => ?_)
      show w x * zt_cnt T f x (n + 1) = w x * zt_cnt T f x n + (if x = T.2 9 n then w x else 0)
      rw [zt_cnt_s, Nat.mul_add]
      by_cases d : x = T.2 9 n
      · rw [if_pos d, if_pos ⟨c.1, c.2, Or.inl d.symm⟩, Nat.mul_one]
      · rw [if_neg d, if_neg (fun h9 => h9.2.2.elim (fun h8 => d h8.symm) (fun h8 => by omega)), Nat.mul_zero]
    · rw [if_neg c, Nat.add_zero]
      refine zw_congr (fun x h1 _ => ?_)
      show w x * zt_cnt T f x (n + 1) = _
      rw [zt_cnt_s, if_neg (fun h9 => c ⟨h9.1, h9.2.1⟩), Nat.add_zero]
theorem zt_wt_1 (T : zT) (f n : Nat) : zt_wt T f (fun _ => 1) n = zt_cnt T f 0 n := by
  induction n with
  | zero => rfl
  | succ n ih =>
    rw [zt_wt_s, zt_cnt_s, ih]
    by_cases c : zt_un T f n
    · rw [if_pos c, if_pos ⟨c.1, c.2, Or.inr rfl⟩]
    · rw [if_neg c, if_neg (fun h9 => c ⟨h9.1, h9.2.1⟩)]
def zt_sq (T : zT) (f : Nat) : Nat := zt_wt T f (fun x => zt_cnt T f x T.1.2) T.1.2
theorem zt_sq_le (T : zT) (f : Nat) (n : Nat) : zt_wt T f (fun x => zt_cnt T f x T.1.2) n ≤ T.1.2 * n := by
  induction n with
  | zero => exact Nat.le_refl _
  | succ n ih =>
    rw [zt_wt_s, Nat.mul_add]
    have := zt_cnt_le T f (T.2 9 n) T.1.2
    split <;> omega
-- .. in longs
theorem zl_N (n : Nat) : lN n = Int64.ofInt (n : Int) := rfl
/-- the sum of squares over the values 1 .. m, of a count c, in integers -/
def zv_sum (f a : Int) (c : Nat → Nat) : Nat → Int
  | 0 => 0
  | m + 1 => zv_sum f a c m + (f * (c (m + 1) : Int) - a) * (f * (c (m + 1) : Int) - a)
theorem zv_eq (f a : Int) (c : Nat → Nat) (m : Nat) : zv_sum f a c m = f * f * ((zw_sum (fun x => c x * c x) m : Nat) : Int) - 2 * f * a * ((zw_sum c m : Nat) : Int) + (m : Int) * a * a := by
  induction m with
  | zero => simp [zv_sum, zw_sum]
  | succ m ih =>
    show zv_sum f a c m + (f * (c (m + 1) : Int) - a) * (f * (c (m + 1) : Int) - a) = f * f * ((zw_sum (fun x => c x * c x) m + c (m + 1) * c (m + 1) : Nat) : Int) - 2 * f * a * ((zw_sum c m + c (m + 1) : Nat) : Int) + ((m + 1 : Nat) : Int) * a * a
    rw [ih]
    push_cast
    grind
theorem zt_unev_v (T : zT) {f : Nat} (hf : f ≤ 1000) (hn : T.1.2 ≤ 100) (m : Nat) : zt_unev T f m = Int64.ofInt (zv_sum (f : Int) (zt_cnt T f 0 T.1.2 : Int) (fun x => zt_cnt T f x T.1.2) m) := by
  induction m with
  | zero => rfl
  | succ m ih =>
    have h0 := zt_cnt_le T f 0 T.1.2
    have h1 := zt_cnt_le T f (m + 1) T.1.2
    show zt_unev T f m + _ = Int64.ofInt (zv_sum (f : Int) (zt_cnt T f 0 T.1.2 : Int) (fun x => zt_cnt T f x T.1.2) m + ((f : Int) * (zt_cnt T f (m + 1) T.1.2 : Int) - (zt_cnt T f 0 T.1.2 : Int)) * ((f : Int) * (zt_cnt T f (m + 1) T.1.2 : Int) - (zt_cnt T f 0 T.1.2 : Int)))
    rw [ih, nI_l (n := f) (by omega), nI_l (n := zt_cnt T f (m + 1) T.1.2) (by omega), nI_l (n := zt_cnt T f 0 T.1.2) (by omega), zl_N, zl_N, zl_N, Int64.ofInt_add, Int64.ofInt_mul, Int64.ofInt_sub, Int64.ofInt_mul]
theorem zt_unev_sq (T : zT) {f : Nat} (hT : zt_ok T) (hf : f ≤ 1000) : lN f * (lN f * lN (zt_sq T f) - lN (zt_cnt T f 0 T.1.2) * lN (zt_cnt T f 0 T.1.2)) = zt_unev T f f := by
  have hv : ∀ k : Nat, k < T.1.2 → 1 ≤ T.2 9 k ∧ T.2 9 k ≤ T.2 8 k := fun k hk => ⟨(hT.2.2.2.2.1 k hk).2.2.2.2.2.1, (hT.2.2.2.2.1 k hk).2.2.2.2.2.2.1⟩
  have e1 := zt_wt_eq T f (fun x => zt_cnt T f x T.1.2) T.1.2 hv
  have e2 := zt_wt_eq T f (fun _ => 1) T.1.2 hv
  rw [zt_wt_1] at e2
  have e3 : zw_sum (fun x => zt_cnt T f x T.1.2) f = zt_cnt T f 0 T.1.2 := by
    rw [← e2]
    exact zw_congr (fun x _ _ => (Nat.one_mul _).symm)
  rw [zt_unev_v T hf hT.2.1 f, zv_eq, e1, e3]
  show _ = Int64.ofInt ((f : Int) * f * (zt_sq T f : Int) - 2 * f * (zt_cnt T f 0 T.1.2 : Int) * (zt_cnt T f 0 T.1.2 : Int) + (f : Int) * (zt_cnt T f 0 T.1.2 : Int) * (zt_cnt T f 0 T.1.2 : Int))
  rw [zl_N, zl_N, zl_N, ← Int64.ofInt_mul, ← Int64.ofInt_mul, ← Int64.ofInt_sub, ← Int64.ofInt_mul]
  congr 1
  grind

