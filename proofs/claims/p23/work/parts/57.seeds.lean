/-! seedsOf -/
theorem zd_gcd : ((List.range 10007).all fun x => x == 0 || Nat.gcd x 10007 == 1) = true := by decide +kernel
theorem zd_cop {x : Nat} (h : x % 10007 ≠ 0) : Nat.Coprime 10007 x := by
  have h1 := List.all_eq_true.mp zd_gcd (x % 10007) (List.mem_range.mpr (Nat.mod_lt _ (by decide)))
  have h2 : (x % 10007 == 0) = false := by simpa using h
  rw [h2, Bool.false_or] at h1
  have h3 : Nat.gcd (x % 10007) 10007 = 1 := by simpa using h1
  show Nat.gcd 10007 x = 1
  rw [Nat.gcd_rec]; exact h3
theorem zd_pr {x y : Nat} (h : (x * y) % 10007 = 0) : x % 10007 = 0 ∨ y % 10007 = 0 := by
  by_cases hx : x % 10007 = 0
  · exact Or.inl hx
  · exact Or.inr (Nat.mod_eq_zero_of_dvd ((zd_cop hx).dvd_of_dvd_mul_left (Nat.dvd_of_mod_eq_zero h)))
theorem zd_sub {a b : Nat} (hb : b ≤ a) : (zd_sign a = zd_sign b ↔ ((a - b) * (a + b + 31)) % 10007 = 0) := by
  obtain ⟨d, rfl⟩ : ∃ d, a = b + d := ⟨a - b, by omega⟩
  rw [Nat.add_sub_cancel_left]
  have e : (b + d) * (b + d) + 31 * (b + d) + 7 = d * (b + d + b + 31) + (b * b + 31 * b + 7) := by
    rw [Nat.add_mul b d (b + d), Nat.mul_add b b d, Nat.mul_add d b d, Nat.mul_add d _ 31, Nat.mul_add d _ b, Nat.mul_add d b d, Nat.mul_comm b d]
    omega
  unfold zd_sign
  rw [e]
  generalize d * (b + d + b + 31) = u
  omega
theorem zd_same (n s : Nat) (hs : s < 65536) : zd_sign n = zd_sign s ↔ (n % 10007 = s % 10007 ∨ n % 10007 = (70018 - s) % 10007) := by
  rcases Nat.le_total s n with h | h
  · rw [zd_sub h]
    constructor
    · intro h2; rcases zd_pr h2 with h3 | h3 <;> omega
    · rintro (h2 | h2)
      · rw [Nat.mul_mod, show (n - s) % 10007 = 0 by omega, Nat.zero_mul, Nat.zero_mod]
      · rw [Nat.mul_mod, show (n + s + 31) % 10007 = 0 by omega, Nat.mul_zero, Nat.zero_mod]
  · rw [eq_comm, zd_sub h]
    constructor
    · intro h2; rcases zd_pr h2 with h3 | h3 <;> omega
    · rintro (h2 | h2)
      · rw [Nat.mul_mod, show (s - n) % 10007 = 0 by omega, Nat.zero_mul, Nat.zero_mod]
      · rw [Nat.mul_mod, show (s + n + 31) % 10007 = 0 by omega, Nat.mul_zero, Nat.zero_mod]
theorem zd_cnt_mod (s : Nat) (hs : s < 65536) (N : Nat) : zd_cnt (zd_sign s) N = (N + 10006 - s % 10007) / 10007 + (if (70018 - s) % 10007 = s % 10007 then 0 else (N + 10006 - (70018 - s) % 10007) / 10007) := by
  have hr := Nat.mod_lt s (show 0 < 10007 by decide)
  have hm := Nat.mod_lt (70018 - s) (show 0 < 10007 by decide)
  have hsame : ∀ n, zd_sign n = zd_sign s ↔ (n % 10007 = s % 10007 ∨ n % 10007 = (70018 - s) % 10007) := fun n => zd_same n s hs
  revert hsame
  generalize zd_sign s = sg
  generalize s % 10007 = r at *
  generalize (70018 - s) % 10007 = m at *
  intro hsame
  induction N with
  | zero => show 0 = _; split <;> omega
  | succ N ih =>
    show zd_cnt sg N + _ = _
    rw [ih]
    by_cases h : zd_sign N = sg
    · rw [if_pos h]
      have h2 := (hsame N).mp h
      split <;> omega
    · rw [if_neg h]
      have h2 : ¬ N % 10007 = r := fun h9 => h ((hsame N).mpr (Or.inl h9))
      have h3 : ¬ N % 10007 = m := fun h9 => h ((hsame N).mpr (Or.inr h9))
      split <;> omega
theorem zd_seeds_eq {s : Nat} (hs : s < 65536) : zd_seeds s = (65535 - s % 10007) / 10007 + 1 + (if (70018 - s) % 10007 = s % 10007 then 0 else (65535 - (70018 - s) % 10007) / 10007 + 1) := by
  have hr := Nat.mod_lt s (show 0 < 10007 by decide)
  have hm := Nat.mod_lt (70018 - s) (show 0 < 10007 by decide)
  unfold zd_seeds
  rw [zd_cnt_mod s hs]
  split <;> omega
theorem zd_seeds_le (s : Nat) : zd_seeds s ≤ 65536 := by
  have h : ∀ sg n : Nat, zd_cnt sg n ≤ n := fun sg n => by
    induction n with
    | zero => exact Nat.le_refl _
    | succ n ih => show zd_cnt sg n + (if _ then 1 else 0) ≤ n + 1; split <;> omega
  exact h _ _
-- numbers below zero
theorem zi_neg {a : Nat} (ha : a < 2 ^ 31) : (-(nI a)).toInt = -(a : Int) := by
  rw [Int32.toInt_neg, nI_toInt ha, Int.bmod_def]; omega
theorem zi_31 (s : Nat) : (-31 : Int32) - nI s = -(nI (31 + s)) := by
  rw [← nI_add]
  apply Int32.toBitVec_inj.mp
  simp only [Int32.toBitVec_sub, Int32.toBitVec_neg, Int32.toBitVec_add]
  show BitVec.ofInt 32 (-31) - _ = -(BitVec.ofNat 32 31 + _)
  rw [BitVec.neg_add]; rfl
theorem zi_rem {a : Nat} (ha : a < 200000) : -(nI a) - -(nI a) / 10007 * 10007 = -(nI (a % 10007)) := by
  apply Int32.toInt_inj.mp
  have e : (10007 : Int32).toInt = 10007 := by decide
  have e2 : (-(a : Int)).tdiv 10007 = -((a / 10007 : Nat) : Int) := by
    rw [Int.neg_tdiv]; rfl
  rw [Int32.toInt_sub, Int32.toInt_mul, Int32.toInt_div, zi_neg (by omega), zi_neg (by omega), e, e2]
  simp only [Int.bmod_def]
  omega
theorem zi_xor {a : Nat} (h0 : 0 < a) (ha : a < 200000) : ¬ (0 : Int32) ≤ -(nI a) ^^^ 10007 := fun h => by
  have h1 := Int32.le_iff_toInt_le.mp h
  have h2 : (0 : Int32).toInt = 0 := by decide
  rw [h2] at h1
  have h3 : ((-(nI a)).toBitVec ^^^ (10007 : Int32).toBitVec).msb = true := by
    rw [BitVec.msb_xor, BitVec.msb_eq_toInt]
    have h4 : (-(nI a)).toBitVec.toInt = -(a : Int) := zi_neg (by omega)
    have h5 : (10007 : Int32).toBitVec.msb = false := by decide
    rw [h4, h5]
    simp; omega
  rw [BitVec.msb_eq_toInt] at h3
  have h6 : ((-(nI a)).toBitVec ^^^ (10007 : Int32).toBitVec).toInt < 0 := by simpa using h3
  have h7 : (-(nI a) ^^^ 10007).toInt = ((-(nI a)).toBitVec ^^^ (10007 : Int32).toBitVec).toInt := rfl
  rw [h7] at h1
  omega
/-- the body of a method of a class that has entries, itself none -/
theorem zM_ofF {l : Launch} {y : MethodName} {cc : ByteArray} {maxL : Nat} {ret : Option FieldType} {rm : Room} {g : zG} {S : zS} {Qp : Option Value → zS → Prop} {av : List Value} {nm : String} (hy : plainFor y = true) (hnm : y.name = nm) (hlen : (lg_sl av).length ≤ maxL)
    (body : ∀ (p : Program) (e : Env) (s : State) (m : MethodId) (args : Array Value) (below : List Frame) (meth : Method) (c : Code) (A : Nat → Prop) (ls : Array Slot), CallFix p m c cc maxL s args zc_W y.cls → meth.sig.returnType = ret → meth.locks = false → meth.name = nm → zh_V g A s [] S s.heap [] → lv_has ls maxL (lv_args 0 av) →
      W p l e rm s m args below meth c s.heap [] 0 0 (MQ below (zh_Po g A Qp) args s rm.cells rm.slots A) (F0 m 0 ls [])) : zM l y cc maxL ret rm g av S Qp := by
  intro sz
  refine va_MetF (cc := cc) (maxL := maxL) (ret := ret) hy rfl ?_
  intro p e s m args below meth c s₁ B hml hv
  obtain ⟨rfl, hsz, hK, hP, hD0, hN, hO⟩ := hv
  have hts := atoms_spec (ws := Cond.code y cc maxL ret :: zc_W) B.pre
  subst hsz
  have hl := lv_entry av (n := maxL) hlen
  rw [lg_entry_eq]
  refine body p e s m _ below meth c (va_A (zh_w g S) s.heap.size) _ ⟨B.exec, B.bytes, hml, findClass_of_methodNamed B.named, fun w h => hts w (List.mem_cons_of_mem _ h)⟩ B.returns B.notSynchronized ((name_of_methodNamed B.named B.method).1.trans hnm) ⟨hK, hP, hD0.self, va_S.rf, fun q h => Or.inr h, fun q h => ?_, hN, hO⟩ hl
  rcases h with ⟨k, e, hk⟩ | h
  · exact hD0.2 k _ hk
  · exact Nat.le_trans hN h
theorem zi_n0 {r : Nat} (h : r < 10007) (h0 : r ≠ 0) : ¬ -(nI r) = 0 := fun h8 => h0 (by
  have h7 := zi_neg (a := r) (by omega)
  rw [h8] at h7
  have h6 : (0 : Int32).toInt = 0 := by decide
  omega)
theorem zi_up {r : Nat} (h : r < 10007) (h0 : r ≠ 0) : -(nI r) + 10007 = nI ((10007 - r) % 10007) := by
  apply Int32.toInt_inj.mp
  have e : (10007 : Int32).toInt = 10007 := by decide
  rw [Int32.toInt_add, zi_neg (by omega), nI_toInt (by omega), e, Int.bmod_def]
  omega

set_option maxRecDepth 100000 in
set_option maxHeartbeats 4000000 in
theorem k_floorMod (l : Launch) (g : zG) (S : zS) (a : Nat) (h0 : 0 < a) (ha : a < 200000) : zM l yJ9_floorMod_7cf53 cJ9_floorMod_7cf53 3 (some .int) (zrm 0 0 0) g [.int (-(nI a)), .int 10007] S (fun w S' => w = some (.int (nI ((10007 - a % 10007) % 10007))) ∧ S' = S) := by
  refine zM_ofF (nm := "floorMod") (by decide +kernel) rfl (Nat.le_of_ble_eq_true rfl) ?_
  intro p e s m args below meth c A ls C hr hlk hin I hl
  have C : CallFix p m c cJ9_floorMod_7cf53 3 s args zc_W RJ9 := C
  have hx := C.1
  have hb := C.2.1
  have hl : lv_has ls 3 [(0, .int (-(nI a))), (1, .int 10007)] := hl
  refine lv_iload_n hx hb dJ9_floorMod_7cf53_0 rfl (lv_at hl 0 rfl) ?_
  refine lv_iload_n hx hb dJ9_floorMod_7cf53_1 rfl (lv_at hl 1 rfl) ?_
  refine lv_irem hx hb dJ9_floorMod_7cf53_2 (by decide) ?_
  refine zr_top (y := -(nI (a % 10007))) (zi_rem ha) ?_
  refine lv_istore_n (lv' := [(2, .int (-(nI (a % 10007)))), (0, .int (-(nI a))), (1, .int 10007)]) hx hb dJ9_floorMod_7cf53_3 rfl hl (by decide) rfl (fun ls hl => ?_)
  refine lv_iload_n hx hb dJ9_floorMod_7cf53_4 rfl (lv_at hl 1 rfl) ?_
  refine lv_iload_n hx hb dJ9_floorMod_7cf53_5 rfl (lv_at hl 2 rfl) ?_
  refine lv_ixor hx hb dJ9_floorMod_7cf53_6 ?_
  refine lv_if_ge (tgt := 18) hx hb dJ9_floorMod_7cf53_7 (by decide) (fun h9 => absurd h9 (zi_xor h0 ha)) (fun _ => ?_)
  refine lv_iload_n hx hb dJ9_floorMod_7cf53_10 rfl (lv_at hl 0 rfl) ?_
  have hm := Nat.mod_lt a (show 0 < 10007 by decide)
  by_cases h9 : a % 10007 = 0
  · refine zr_top (y := 0) (by rw [h9]; rfl) ?_
    have hz : (10007 - a % 10007) % 10007 = 0 := by omega
    rw [h9] at hl
    refine lv_if_eq (tgt := 18) hx hb dJ9_floorMod_7cf53_11 (by decide) (fun _ => ?_) (fun h9 => absurd (rfl) h9)
    refine lv_iload_n hx hb dJ9_floorMod_7cf53_18 rfl (lv_at hl 0 rfl) ?_
    exact zr_iret C I hr hlk (⟨by rw [hz]; rfl, rfl⟩) (Nat.le_of_ble_eq_true rfl) (Nat.le_of_ble_eq_true rfl) dJ9_floorMod_7cf53_19
  · have h79 := zi_n0 hm h9
    refine lv_if_eq (tgt := 18) hx hb dJ9_floorMod_7cf53_11 (by decide) (fun h9 => absurd h9 (h79)) (fun _ => ?_)
    refine lv_iload_n hx hb dJ9_floorMod_7cf53_14 rfl (lv_at hl 0 rfl) ?_
    refine lv_iload_n hx hb dJ9_floorMod_7cf53_15 rfl (lv_at hl 2 rfl) ?_
    refine lv_iadd hx hb dJ9_floorMod_7cf53_16 ?_
    refine zr_top (y := nI ((10007 - a % 10007) % 10007)) (zi_up hm h9) ?_
    exact zr_iret C I hr hlk (⟨rfl, rfl⟩) (Nat.le_of_ble_eq_true rfl) (Nat.le_of_ble_eq_true rfl) dJ9_floorMod_7cf53_17

set_option maxRecDepth 100000 in
set_option maxHeartbeats 4000000 in
theorem k_X3_seedsOf (l : Launch) (g : zG) (hst : l.stackTraces = false) (S : zS) (T : zT) (x pl lo pt ty pa la : Nat) (ap ad ae : Nat → Nat) (hT : zt_ok T) (hF : FR g S T x pl lo pt ty pa la ap ad ae) (i : Int32) : zX l yX3_seedsOf cX3_seedsOf 6 (some .int) (zrm 7 1 6) g [.ref x, .int i] S (fun w S' => zc_prom T i = 0 ∧ w = some (.int (nI (zd_seeds (T.2 0 (zx i))))) ∧ S' = S) (fun E S' => zc_prom T i = 1 ∧ E = zn_IO ∧ S' = S) := by
  refine zX_of (nm := "seedsOf") (by decide) rfl (Nat.le_of_ble_eq_true rfl) ?_
  intro p e s m args below meth c A ls C hr hlk hxt I hl
  have C : CallFix p m c cX3_seedsOf 6 s args zc_W RX3 := C
  have hx := C.1
  have hb := C.2.1
  have hl : lv_has ls 6 [(0, .ref x), (1, .int i)] := hl
  have hF0 := hF
  obtain ⟨⟨f1, f2, f3, f4, f5⟩, ⟨f6, f7, f8, f9, f10⟩, f11, f12, f13, f14, f15, f16, f17, f18, f19⟩ := hF
  obtain ⟨t1, t2, t3, t4, t5, t6, t7⟩ := hT
  refine lv_aload_n hx hb dX3_seedsOf_0 rfl (lv_at hl 0 rfl) ?_
  refine lv_iload_n hx hb dX3_seedsOf_1 rfl (lv_at hl 1 rfl) ?_
  refine zc_VX (n := 1) (rest := []) C I f1 rfl rfl (k_X3_promiseAt l g hst S x pl T.1.1 pa ap i f1 f2 f11 (by omega)) zm_280 zm_281 zm_4 zm_16 zm_282 rfl hl.1 dX3_seedsOf_2 (by decide +kernel) rfl ⟨Nat.le_of_ble_eq_true rfl, Nat.le_of_ble_eq_true rfl⟩ (Nat.le_of_ble_eq_true rfl) ⟨Nat.le_of_ble_eq_true rfl, Nat.le_of_ble_eq_true rfl⟩ (fun E ce q9 S' H locs hq I h1 h2 h3 => ?_) (fun v S' H locs hq I => ?_)
  · obtain ⟨hE, hz, eS⟩ := hq
    rw [eS] at I
    exact zr_out I hxt hlk (⟨if_pos hz, hE, rfl⟩) h1 h2 h3 (Nat.le_of_ble_eq_true rfl) (Nat.le_of_ble_eq_true rfl)
  · obtain ⟨hz, rfl, eS⟩ := hq
    rw [eS] at I
    have hj : zx i < T.1.1 := (zi_cases i (n := T.1.1) (by omega)).elim (fun h => absurd h hz) (fun h => h.2.1)
    have h3j := (t3 (zx i)).1
    obtain ⟨sd, hsd⟩ : ∃ sd, sd = T.2 0 (zx i) := ⟨_, rfl⟩
    rw [← hsd] at h3j ⊢
    refine zn_Promise_seed (v := nI sd) (host := "DiceForge") C I (f11.2.2.2.2 _ hj).2 (by decide +kernel) ((f15 _ hj).2.2.1.trans (by rw [hsd])) dX3_seedsOf_5 ?_
    refine lv_istore_n (lv' := [(2, .int (nI sd)), (0, .ref x), (1, .int i)]) hx hb dX3_seedsOf_8 rfl hl (by decide) rfl (fun ls hl => ?_)
    refine lv_iload_n hx hb dX3_seedsOf_9 rfl (lv_at hl 0 rfl) ?_
    refine lv_sipush (v := 10007) hx hb dX3_seedsOf_10 (by decide) ?_
    refine lv_irem hx hb dX3_seedsOf_13 (by decide) ?_
    refine zr_top (y := nI (sd % 10007)) (pk_rem (a := sd) (d := 10007) (by omega) (by omega) (by omega)) ?_
    refine lv_istore_n (lv' := [(3, .int (nI (sd % 10007))), (2, .int (nI sd)), (0, .ref x), (1, .int i)]) hx hb dX3_seedsOf_14 rfl hl (by decide) rfl (fun ls hl => ?_)
    refine lv_bipush (v := (-31)) hx hb dX3_seedsOf_15 (by decide) ?_
    refine lv_iload_n hx hb dX3_seedsOf_17 rfl (lv_at hl 1 rfl) ?_
    refine lv_isub hx hb dX3_seedsOf_18 ?_
    refine zr_top (y := -(nI (31 + sd))) (zi_31 sd) ?_
    refine lv_sipush (v := 10007) hx hb dX3_seedsOf_19 (by decide) ?_
    refine zc_S (n := 2) (rest := []) C I (k_floorMod l g S (31 + sd) (by omega) (by omega)) zm_473 zm_474 zm_28 zm_475 rfl hl.1 dX3_seedsOf_22 (by decide +kernel) rfl ⟨Nat.le_of_ble_eq_true rfl, Nat.le_of_ble_eq_true rfl⟩ (Nat.le_of_ble_eq_true rfl) ⟨Nat.le_of_ble_eq_true rfl, Nat.le_of_ble_eq_true rfl⟩ (fun v S' H locs hq I => ?_)
    obtain ⟨rfl, eS⟩ := hq
    rw [eS] at I
    have em : (10007 - (31 + sd) % 10007) % 10007 = (70018 - sd) % 10007 := by omega
    refine zr_top (y := nI ((70018 - sd) % 10007)) (by rw [em]) ?_
    have hse := zd_seeds_eq h3j
    have hr9 := Nat.mod_lt sd (show 0 < 10007 by decide)
    have hm := Nat.mod_lt (70018 - sd) (show 0 < 10007 by decide)
    refine lv_istore (lv' := [(4, .int (nI ((70018 - sd) % 10007))), (3, .int (nI (sd % 10007))), (2, .int (nI sd)), (0, .ref x), (1, .int i)]) hx hb dX3_seedsOf_25 hl (by decide) rfl (fun ls hl => ?_)
    refine lv_iload_n hx hb dX3_seedsOf_27 rfl (lv_at hl 1 rfl) ?_
    refine zc_S (n := 1) (rest := []) C I (k_X3_seedsWithRemainder l g S (sd % 10007) hr9) zm_476 zm_477 zm_16 zm_478 rfl hl.1 dX3_seedsOf_28 (by decide +kernel) rfl ⟨Nat.le_of_ble_eq_true rfl, Nat.le_of_ble_eq_true rfl⟩ (Nat.le_of_ble_eq_true rfl) ⟨Nat.le_of_ble_eq_true rfl, Nat.le_of_ble_eq_true rfl⟩ (fun v S' H locs hq I => ?_)
    obtain ⟨rfl, eS⟩ := hq
    rw [eS] at I
    refine lv_istore (lv' := [(5, .int (nI ((65535 - sd % 10007) / 10007 + 1))), (4, .int (nI ((70018 - sd) % 10007))), (3, .int (nI (sd % 10007))), (2, .int (nI sd)), (0, .ref x), (1, .int i)]) hx hb dX3_seedsOf_31 hl (by decide) rfl (fun ls hl => ?_)
    refine lv_iload hx hb dX3_seedsOf_33 (lv_at hl 1 rfl) ?_
    refine lv_iload_n hx hb dX3_seedsOf_35 rfl (lv_at hl 2 rfl) ?_
    refine lv_icmp_ne (tgt := 44) hx hb dX3_seedsOf_36 (by decide) (fun c36 => ?_) (fun c36 => ?_)
    · have c36 : ¬ ((70018 - sd) % 10007) = (sd % 10007) := fun h9 => c36 ((nI_eq (a := (70018 - sd) % 10007) (b := sd % 10007) (by omega) (by omega)).mpr h9)
      refine lv_iload hx hb dX3_seedsOf_44 (lv_at hl 0 rfl) ?_
      refine lv_iload hx hb dX3_seedsOf_46 (lv_at hl 1 rfl) ?_
      refine zc_S (n := 1) (rest := [.int (nI ((65535 - sd % 10007) / 10007 + 1))]) C I (k_X3_seedsWithRemainder l g S ((70018 - sd) % 10007) hm) zm_476 zm_477 zm_16 zm_478 rfl hl.1 dX3_seedsOf_48 (by decide +kernel) rfl ⟨Nat.le_of_ble_eq_true rfl, Nat.le_of_ble_eq_true rfl⟩ (Nat.le_of_ble_eq_true rfl) ⟨Nat.le_of_ble_eq_true rfl, Nat.le_of_ble_eq_true rfl⟩ (fun v S' H locs hq I => ?_)
      obtain ⟨rfl, eS⟩ := hq
      rw [eS] at I
      refine lv_iadd hx hb dX3_seedsOf_51 ?_
      refine zr_top (y := nI (((65535 - sd % 10007) / 10007 + 1) + ((65535 - (70018 - sd) % 10007) / 10007 + 1))) (nI_add ((65535 - sd % 10007) / 10007 + 1) ((65535 - (70018 - sd) % 10007) / 10007 + 1)) ?_
      exact vx_ret (zr_iret C I hr hlk (⟨if_neg hz, by rw [hse, if_neg c36], rfl⟩) (Nat.le_of_ble_eq_true rfl) (Nat.le_of_ble_eq_true rfl) dX3_seedsOf_52)
    · have c36 : ((70018 - sd) % 10007) = (sd % 10007) := (nI_eq (a := (70018 - sd) % 10007) (b := sd % 10007) (by omega) (by omega)).mp c36
      refine lv_iload hx hb dX3_seedsOf_39 (lv_at hl 0 rfl) ?_
      refine lv_goto (tgt := 52) hx hb dX3_seedsOf_41 (by decide) ?_
      exact vx_ret (zr_iret C I hr hlk (⟨if_neg hz, by rw [hse, if_pos c36], rfl⟩) (Nat.le_of_ble_eq_true rfl) (Nat.le_of_ble_eq_true rfl) dX3_seedsOf_52)

