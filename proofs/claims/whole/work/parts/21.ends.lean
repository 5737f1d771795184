/-! the instruction itself; sums, differences and products of ends -/
theorem wide_eq (p0 : Int32) (p1 p2 : Int64) : s_X0_makeWide p0 p1 p2 63 = s_X3_reckon0 p0 p1 p2 := by
  unfold s_X0_makeWide s_X3_reckon0
  rw [rem_eq, div_eq, sh63]
theorem wide_mask {p0 : Int32} (a b : Int64) (h9 : ¬ p0 = 9) (h10 : ¬ p0 = 10) (h11 : ¬ p0 = 11) : s_X0_makeWide p0 a b 31 = s_X0_makeWide p0 a b 63 := by
  unfold s_X0_makeWide
  simp only [if_neg h9, if_neg h10, if_neg h11]
theorem n_32 : ∀ n, n < 32 → ct (nI n) = n ∧ ((nI n &&& 31).toBitVec.smod 32).toNat = n := by decide +kernel
theorem shr32 (z c : Int32) : pl_shr z.toInt64 (c &&& 31) = (pi_shr z (c &&& 31)).toInt64 := by
  have e : c &&& 31 = nI (c.toBitVec.toNat % 2 ^ 5) := pk_and c 5 (by decide)
  rw [e]
  obtain ⟨h1, h2⟩ := n_32 (c.toBitVec.toNat % 2 ^ 5) (by omega)
  generalize c.toBitVec.toNat % 2 ^ 5 = n at h1 h2
  apply Int64.toInt_inj.mp
  rw [toInt_pshr, h1, Int32.toInt_toInt64, Int32.toInt_toInt64]
  unfold pi_shr
  rw [pk_shr _ _ n h2, Int.shiftRight_eq_div_pow]
theorem low32 (x : Int64) : (x &&& 4294967295).toInt32 = x.toInt32 := by
  rw [and_i32, show (4294967295 : Int64).toInt32 = -1 from by decide]
  apply Int32.toBitVec_inj.mp
  rw [Int32.toBitVec_and, show (-1 : Int32).toBitVec = BitVec.allOnes 32 from by decide, BitVec.and_allOnes]
theorem make_eq (p0 : Int32) (p1 p2 : Int64) (p3 : Int32) : s_X0_make p0 p1 p2 p3 = s_X3_reckon p0 p1 p2 p3 := by
  unfold s_X0_make s_X3_reckon
  by_cases h3 : p3 = 0
  · rw [if_pos h3, if_pos h3]
    exact wide_eq p0 p1 p2
  · rw [if_neg h3, if_neg h3]
    by_cases h9 : p0 = 9
    · subst h9
      show pl_shl (p1 &&& 4294967295) ((p2 &&& 4294967295).toInt32 &&& 31) &&& 4294967295 = pl_shl (p1 &&& 4294967295) (((p2 &&& 4294967295) &&& 31).toInt32) &&& 4294967295
      rw [sh31]
    · rw [if_neg h9]
      by_cases h10 : p0 = 10
      · subst h10
        show pl_ushr (p1 &&& 4294967295) ((p2 &&& 4294967295).toInt32 &&& 31) &&& 4294967295 = pl_ushr (p1 &&& 4294967295) (((p2 &&& 4294967295) &&& 31).toInt32)
        rw [sh31]
        apply uN_inj
        rw [uN_lo, uN_pushr, uN_lo]
        have := Nat.div_le_self (uN p1 % 4294967296) (2 ^ ct ((p2 &&& 4294967295).toInt32 &&& 31))
        exact Nat.mod_eq_of_lt (by omega)
      · rw [if_neg h10]
        by_cases h11 : p0 = 11
        · subst h11
          show pl_shr p1.toInt32.toInt64 ((p2 &&& 4294967295).toInt32 &&& 31) &&& 4294967295 = (pi_shr ((p1 &&& 4294967295).toInt32) (((p2 &&& 4294967295) &&& 31).toInt32)).toInt64 &&& 4294967295
          rw [sh31, low32 p1, shr32]
        · rw [if_neg h11, if_neg h11, wide_mask _ _ h9 h10 h11, wide_eq]
-- sums and differences
theorem bm (n : Int) : n.bmod (2 ^ 64) = (if n % 18446744073709551616 < 9223372036854775808 then n % 18446744073709551616 else n % 18446744073709551616 - 18446744073709551616) := rfl
theorem i_lo (x : Int64) : -9223372036854775808 ≤ x.toInt := x.le_toInt
theorem i_hi (x : Int64) : x.toInt < 9223372036854775808 := x.toInt_lt
theorem lt_i (x y : Int64) : x < y ↔ x.toInt < y.toInt := Int64.lt_iff_toInt_lt
theorem lt0_i (x : Int64) : x < 0 ↔ x.toInt < 0 := by rw [lt_i, e0_64]
theorem min_i (x y : Int64) : (pl_min x y).toInt = min x.toInt y.toInt := by
  unfold pl_min
  split <;> rename_i h <;> rw [lt_i] at h <;> omega
theorem max_i (x y : Int64) : (pl_max x y).toInt = max x.toInt y.toInt := by
  unfold pl_max
  split <;> rename_i h <;> rw [lt_i] at h <;> omega
theorem add_i (x y : Int64) : ((x + y).toInt = x.toInt + y.toInt ∧ -9223372036854775808 ≤ x.toInt + y.toInt ∧ x.toInt + y.toInt < 9223372036854775808) ∨ (9223372036854775808 ≤ x.toInt + y.toInt ∧ (x + y).toInt = x.toInt + y.toInt - 18446744073709551616) ∨ (x.toInt + y.toInt < -9223372036854775808 ∧ (x + y).toInt = x.toInt + y.toInt + 18446744073709551616) := by
  have a1 := i_lo x; have a2 := i_hi x; have b1 := i_lo y; have b2 := i_hi y
  rw [Int64.toInt_add, bm]
  split <;> omega
theorem sub_i (x y : Int64) : ((x - y).toInt = x.toInt - y.toInt ∧ -9223372036854775808 ≤ x.toInt - y.toInt ∧ x.toInt - y.toInt < 9223372036854775808) ∨ (9223372036854775808 ≤ x.toInt - y.toInt ∧ (x - y).toInt = x.toInt - y.toInt - 18446744073709551616) ∨ (x.toInt - y.toInt < -9223372036854775808 ∧ (x - y).toInt = x.toInt - y.toInt + 18446744073709551616) := by
  have a1 := i_lo x; have a2 := i_hi x; have b1 := i_lo y; have b2 := i_hi y
  rw [Int64.toInt_sub, bm]
  split <;> omega
theorem add_ov (x y : Int64) : ((x ^^^ (x + y)) &&& (y ^^^ (x + y)) < 0) ↔ ¬ (-9223372036854775808 ≤ x.toInt + y.toInt ∧ x.toInt + y.toInt < 9223372036854775808) := by
  have a1 := i_lo x; have a2 := i_hi x; have b1 := i_lo y; have b2 := i_hi y
  rw [neg_and, neg_xor, neg_xor, lt0_i, lt0_i, lt0_i]
  rcases add_i x y with h | h | h <;> omega
theorem sub_ov (x y : Int64) : ((x ^^^ y) &&& (x ^^^ (x - y)) < 0) ↔ ¬ (-9223372036854775808 ≤ x.toInt - y.toInt ∧ x.toInt - y.toInt < 9223372036854775808) := by
  have a1 := i_lo x; have a2 := i_hi x; have b1 := i_lo y; have b2 := i_hi y
  rw [neg_and, neg_xor, neg_xor, lt0_i, lt0_i, lt0_i]
  rcases sub_i x y with h | h | h <;> omega
/-- what 'ends' makes, by which of the four don't fit -/
theorem ends_gen (op : Int32) (f : Int64 → Int64 → Int64) (ov : Int64 → Int64 → Bool) (h : ∀ ft x y, s_X3_whole ft op x y = if ov x y = true then (0, 0) else (f x y, ft)) (a b c d : Int64) :
    s_X3_ends op a b c d = if (ov a c || ov a d || ov b c || ov b d) = true then (-9223372036854775808, 9223372036854775807, 0) else (pl_min (pl_min (f a c) (f a d)) (pl_min (f b c) (f b d)), pl_max (pl_max (f a c) (f a d)) (pl_max (f b c) (f b d)), 1) := by
  unfold s_X3_ends
  cases h1 : ov a c <;> cases h2 : ov a d <;> cases h3 : ov b c <;> cases h4 : ov b d <;> simp [h, h1, h2, h3, h4]
def ov_add (x y : Int64) : Bool := decide ((x ^^^ (x + y)) &&& (y ^^^ (x + y)) < 0)
def ov_sub (x y : Int64) : Bool := decide ((x ^^^ y) &&& (x ^^^ (x - y)) < 0)
theorem whole_add (ft : Int32) (x y : Int64) : s_X3_whole ft 1 x y = if ov_add x y = true then (0, 0) else (x + y, ft) := by
  unfold s_X3_whole s_J9_addExact ov_add
  rw [if_pos rfl]
  by_cases c : (x ^^^ (x + y)) &&& (y ^^^ (x + y)) < 0 <;> simp [c]
theorem whole_sub (ft : Int32) (x y : Int64) : s_X3_whole ft 2 x y = if ov_sub x y = true then (0, 0) else (x - y, ft) := by
  unfold s_X3_whole s_J9_subtractExact ov_sub
  rw [if_neg (by decide), if_pos rfl]
  by_cases c : (x ^^^ y) &&& (x ^^^ (x - y)) < 0 <;> simp [c]
theorem ends_add {a b c d : Int64} (h1 : ¬ b < a) (h2 : ¬ d < c) : (s_X3_ends 1 a b c d).1 = (s_X1_add a b c d).1 ∧ (s_X3_ends 1 a b c d).2.1 = (s_X1_add a b c d).2 := by
  rw [ends_gen 1 (fun x y => x + y) ov_add whole_add]
  unfold s_X1_add s_X1_isSumLong
  rw [lt_i] at h1 h2
  have k1 := add_ov a c; have k2 := add_ov a d; have k3 := add_ov b c; have k4 := add_ov b d
  by_cases c1 : (a ^^^ (a + c)) &&& (c ^^^ (a + c)) < 0
  · have e : ov_add a c = true := decide_eq_true c1
    rw [e, if_pos c1]
    exact ⟨rfl, rfl⟩
  · by_cases c4 : (b ^^^ (b + d)) &&& (d ^^^ (b + d)) < 0
    · have e : ov_add b d = true := decide_eq_true c4
      rw [e, Bool.or_true, if_neg c1, if_pos c4]
      exact ⟨rfl, rfl⟩
    · have z2 : ¬ ((a ^^^ (a + d)) &&& (d ^^^ (a + d)) < 0) := by rw [k2]; rw [k1] at c1; rw [k4] at c4; omega
      have z3 : ¬ ((b ^^^ (b + c)) &&& (c ^^^ (b + c)) < 0) := by rw [k3]; rw [k1] at c1; rw [k4] at c4; omega
      have e1 : ov_add a c = false := decide_eq_false c1
      have e2 : ov_add a d = false := decide_eq_false z2
      have e3 : ov_add b c = false := decide_eq_false z3
      have e4 : ov_add b d = false := decide_eq_false c4
      rw [if_neg c1, if_neg c4, e1, e2, e3, e4]
      rw [k1] at c1; rw [k2] at z2; rw [k3] at z3; rw [k4] at c4
      have q1 := add_i a c; have q2 := add_i a d; have q3 := add_i b c; have q4 := add_i b d
      constructor
      · apply Int64.toInt_inj.mp
        show (pl_min (pl_min (a + c) (a + d)) (pl_min (b + c) (b + d))).toInt = (a + c).toInt
        rw [min_i, min_i, min_i]
        omega
      · apply Int64.toInt_inj.mp
        show (pl_max (pl_max (a + c) (a + d)) (pl_max (b + c) (b + d))).toInt = (b + d).toInt
        rw [max_i, max_i, max_i]
        omega
theorem ends_sub {a b c d : Int64} (h1 : ¬ b < a) (h2 : ¬ d < c) : (s_X3_ends 2 a b c d).1 = (s_X1_subtract a b c d).1 ∧ (s_X3_ends 2 a b c d).2.1 = (s_X1_subtract a b c d).2 := by
  rw [ends_gen 2 (fun x y => x - y) ov_sub whole_sub]
  unfold s_X1_subtract s_X1_isDifferenceLong
  rw [lt_i] at h1 h2
  have k1 := sub_ov a c; have k2 := sub_ov a d; have k3 := sub_ov b c; have k4 := sub_ov b d
  by_cases c2 : (a ^^^ d) &&& (a ^^^ (a - d)) < 0
  · have e : ov_sub a d = true := decide_eq_true c2
    rw [e, Bool.or_true, Bool.true_or, Bool.true_or, if_pos c2]
    exact ⟨rfl, rfl⟩
  · by_cases c3 : (b ^^^ c) &&& (b ^^^ (b - c)) < 0
    · have e : ov_sub b c = true := decide_eq_true c3
      rw [e, Bool.or_true, Bool.true_or, if_neg c2, if_pos c3]
      exact ⟨rfl, rfl⟩
    · have z1 : ¬ ((a ^^^ c) &&& (a ^^^ (a - c)) < 0) := by rw [k1]; rw [k2] at c2; rw [k3] at c3; omega
      have z4 : ¬ ((b ^^^ d) &&& (b ^^^ (b - d)) < 0) := by rw [k4]; rw [k2] at c2; rw [k3] at c3; omega
      have e1 : ov_sub a c = false := decide_eq_false z1
      have e2 : ov_sub a d = false := decide_eq_false c2
      have e3 : ov_sub b c = false := decide_eq_false c3
      have e4 : ov_sub b d = false := decide_eq_false z4
      rw [if_neg c2, if_neg c3, e1, e2, e3, e4]
      rw [k1] at z1; rw [k2] at c2; rw [k3] at c3; rw [k4] at z4
      have q1 := sub_i a c; have q2 := sub_i a d; have q3 := sub_i b c; have q4 := sub_i b d
      constructor
      · apply Int64.toInt_inj.mp
        show (pl_min (pl_min (a - c) (a - d)) (pl_min (b - c) (b - d))).toInt = (a - d).toInt
        rw [min_i, min_i, min_i]
        omega
      · apply Int64.toInt_inj.mp
        show (pl_max (pl_max (a - c) (a - d)) (pl_max (b - c) (b - d))).toInt = (b - c).toInt
        rw [max_i, max_i, max_i]
        omega
-- products
def fitsP (x y : Int64) : Prop := -9223372036854775808 ≤ x.toInt * y.toInt ∧ x.toInt * y.toInt < 9223372036854775808
theorem mul_w (x y : Int64) : ∃ k : Int, (x * y).toInt = x.toInt * y.toInt + k * 18446744073709551616 := by
  rw [Int64.toInt_mul, bm]
  generalize x.toInt * y.toInt = n
  have h := Int.emod_add_mul_ediv n 18446744073709551616
  split
  · exact ⟨-(n / 18446744073709551616), by omega⟩
  · exact ⟨-(n / 18446744073709551616) - 1, by omega⟩
theorem mul_fit {x y : Int64} (h : fitsP x y) : (x * y).toInt = x.toInt * y.toInt := by
  obtain ⟨k, hk⟩ := mul_w x y
  have a1 := i_lo (x * y); have a2 := i_hi (x * y)
  unfold fitsP at h
  generalize x.toInt * y.toInt = n at hk h
  omega
theorem div_i {x y : Int64} (h0 : ¬ y = 0) (h1 : ¬ y = -1) : (x / y).toInt = x.toInt.tdiv y.toInt := by
  rw [Int64.toInt_div]
  have a1 := i_lo x; have a2 := i_hi x
  have n0 : y.toInt ≠ 0 := fun z => h0 (Int64.toInt_inj.mp (z.trans e0_64.symm))
  have n1 : y.toInt ≠ -1 := fun z => h1 (Int64.toInt_inj.mp (z.trans (by decide)))
  have hb : (x.toInt.tdiv y.toInt).natAbs ≤ x.toInt.natAbs / 2 ∨ y.toInt.natAbs = 1 := by
    rw [Int.natAbs_tdiv]
    by_cases c : y.toInt.natAbs = 1
    · exact Or.inr c
    · left
      exact Nat.div_le_div_left (by omega) (by decide)
  rcases hb with hb | hb
  · rw [bm]
    split <;> omega
  · have h1 : y.toInt = 1 := by omega
    rw [h1, Int.tdiv_one, bm]
    split <;> omega
/-- dividing the wrapped product by one factor gives the other one just where nothing was lost -/
theorem quot_fit {x y : Int64} (h0 : ¬ x = 0) (h1 : ¬ x = -1) : (x * y) / x = y ↔ fitsP x y := by
  have a1 := i_lo x; have a2 := i_hi x
  have n0 : x.toInt ≠ 0 := fun z => h0 (Int64.toInt_inj.mp (z.trans e0_64.symm))
  constructor
  · intro h
    have h2 := congrArg Int64.toInt h
    rw [div_i h0 h1] at h2
    obtain ⟨k, hk⟩ := mul_w x y
    have t1 := Int.tmod_add_mul_tdiv (x * y).toInt x.toInt
    rw [h2] at t1
    have t2 : ((x * y).toInt.tmod x.toInt).natAbs < x.toInt.natAbs := by
      rw [Int.natAbs_tmod]
      exact Nat.mod_lt _ (by omega)
    have w1 := i_lo (x * y); have w2 := i_hi (x * y)
    unfold fitsP
    generalize x.toInt * y.toInt = n at hk t1 ⊢
    generalize (x * y).toInt.tmod x.toInt = r at t1 t2
    omega
  · intro h
    apply Int64.toInt_inj.mp
    rw [div_i h0 h1, mul_fit h]
    exact Int.mul_tdiv_cancel_left _ n0
theorem fit_comm {x y : Int64} : fitsP x y ↔ fitsP y x := by unfold fitsP; rw [Int.mul_comm]
theorem prod_class (x y : Int64) : s_X1_isProductLong x y = 0 ↔ ¬ fitsP x y := by
  have b1 := i_lo y; have b2 := i_hi y
  unfold s_X1_isProductLong
  by_cases c0 : x = 0
  · rw [if_pos c0]
    have : fitsP x y := by unfold fitsP; rw [c0, e0_64, Int.zero_mul]; omega
    exact ⟨fun z => absurd z (by decide), fun z => absurd this z⟩
  · rw [if_neg c0]
    by_cases c1 : x = -1
    · rw [if_pos c1]
      have em : (-1 : Int64).toInt = -1 := by decide
      have el : (-9223372036854775808 : Int64).toInt = -9223372036854775808 := by decide
      unfold fitsP
      rw [c1, em]
      by_cases c2 : y = -9223372036854775808
      · rw [if_pos c2, c2, el]
        exact ⟨fun _ => by decide, fun _ => rfl⟩
      · rw [if_neg c2]
        have n : y.toInt ≠ -9223372036854775808 := fun z => c2 (Int64.toInt_inj.mp (z.trans el.symm))
        exact ⟨fun z => absurd z (by decide), fun z => absurd (by omega) z⟩
    · rw [if_neg c1]
      have q := quot_fit (y := y) c0 c1
      by_cases c2 : (x * y) / x = y
      · rw [if_pos c2]
        exact ⟨fun z => absurd z (by decide), fun z => absurd (q.mp c2) z⟩
      · rw [if_neg c2]
        exact ⟨fun _ z => c2 (q.mpr z), fun _ => rfl⟩
theorem abs_small {x y : Int64} (h : pl_ushr ((pl_abs x) ||| (pl_abs y)) 31 = 0) : x.toInt.natAbs < 2147483648 ∧ y.toInt.natAbs < 2147483648 := by
  have h1 := congrArg uN h
  rw [uN_pushr, show ct 31 = 31 from by decide, show uN 0 = 0 from by decide] at h1
  have h2 : uN ((pl_abs x) ||| (pl_abs y)) = uN (pl_abs x) ||| uN (pl_abs y) := UInt64.toNat_or _ _
  have l1 := Nat.left_le_or (n := uN (pl_abs x)) (m := uN (pl_abs y))
  have l2 := Nat.right_le_or (n := uN (pl_abs x)) (m := uN (pl_abs y))
  rw [h2] at h1
  have key : ∀ z : Int64, uN (pl_abs z) < 2147483648 → z.toInt.natAbs < 2147483648 := by
    intro z hz
    have e := uN_int (pl_abs z)
    rw [if_pos (by omega)] at e
    unfold pl_abs at e hz
    by_cases c : 0 < z
    · rw [if_pos c] at e hz
      omega
    · rw [if_neg c] at e hz
      rw [Int64.toInt_neg, bm] at e
      have a1 := i_lo z; have a2 := i_hi z
      rw [lt_i, e0_64] at c
      split at e <;> omega
  exact ⟨key x (by omega), key y (by omega)⟩
theorem small_fit {x y : Int64} (h1 : x.toInt.natAbs < 2147483648) (h2 : y.toInt.natAbs < 2147483648) : fitsP x y := by
  have h : (x.toInt * y.toInt).natAbs < 2147483648 * 2147483648 := by
    rw [Int.natAbs_mul]
    exact Nat.mul_lt_mul_of_lt_of_lt h1 h2
  unfold fitsP
  generalize x.toInt * y.toInt = n at h ⊢
  omega
theorem prod_jdk (x y : Int64) : (s_J9_multiplyExact x y).1 = 1 ↔ ¬ fitsP x y := by
  have a1 := i_lo x; have a2 := i_hi x
  unfold s_J9_multiplyExact
  by_cases c : pl_ushr ((pl_abs x) ||| (pl_abs y)) 31 = 0
  · rw [if_pos c]
    obtain ⟨h1, h2⟩ := abs_small c
    exact ⟨fun z => absurd (show (0 : Int32) = 1 from z) (by decide), fun z => absurd (small_fit h1 h2) z⟩
  · rw [if_neg c]
    by_cases c0 : y = 0
    · rw [if_pos c0]
      have hf : fitsP x y := by unfold fitsP; rw [c0, e0_64, Int.mul_zero]; omega
      have hn : ¬ y = -1 := by rw [c0]; decide
      rw [if_neg hn]
      split <;> exact ⟨fun z => absurd (show (0 : Int32) = 1 from z) (by decide), fun z => absurd hf z⟩
    · rw [if_neg c0]
      by_cases c1 : y = -1
      · have em : (-1 : Int64).toInt = -1 := by decide
        have el : (-9223372036854775808 : Int64).toInt = -9223372036854775808 := by decide
        by_cases c2 : x = -9223372036854775808
        · rw [c1, c2]
          exact ⟨fun _ => by unfold fitsP; rw [em, el]; decide, fun _ => by decide⟩
        · have n : x.toInt ≠ -9223372036854775808 := fun z => c2 (Int64.toInt_inj.mp (z.trans el.symm))
          have hf : fitsP x y := by unfold fitsP; rw [c1, em]; omega
          have hq : (x * y) / y = x := by
            apply Int64.toInt_inj.mp
            rw [Int64.toInt_div, mul_fit hf, c1, em, bm]
            have : (x.toInt * -1).tdiv (-1) = x.toInt := Int.mul_tdiv_cancel _ (by decide)
            rw [this]
            split <;> omega
          rw [if_pos hq, if_neg c2]
          exact ⟨fun z => absurd (show (0 : Int32) = 1 from z) (by decide), fun z => absurd hf z⟩
      · have q := quot_fit (y := x) c0 c1
        rw [Int64.mul_comm] at q
        rw [fit_comm] at q
        by_cases c2 : (x * y) / y = x
        · rw [if_pos c2, if_neg c1]
          split <;> exact ⟨fun z => absurd (show (0 : Int32) = 1 from z) (by decide), fun z => absurd (q.mp c2) z⟩
        · rw [if_neg c2]
          exact ⟨fun _ z => c2 (q.mpr z), fun _ => rfl⟩
def ov_mul (x y : Int64) : Bool := decide ((s_J9_multiplyExact x y).1 = 1)
theorem whole_mul (ft : Int32) (x y : Int64) : s_X3_whole ft 3 x y = if ov_mul x y = true then (0, 0) else (x * y, ft) := by
  unfold s_X3_whole ov_mul
  rw [if_neg (by decide), if_neg (by decide)]
  by_cases c : (s_J9_multiplyExact x y).1 = 1
  · simp [c]
  · have e : (s_J9_multiplyExact x y).2 = x * y := by
      unfold s_J9_multiplyExact at c ⊢
      (repeat' split) <;> simp_all
    simp [c, e]
theorem ends_mul (a b c d : Int64) : (s_X3_ends 3 a b c d).1 = (s_X1_multiply a b c d).1 ∧ (s_X3_ends 3 a b c d).2.1 = (s_X1_multiply a b c d).2 := by
  rw [ends_gen 3 (fun x y => x * y) ov_mul whole_mul]
  have key : ∀ x y : Int64, (s_X1_isProductLong x y = 0 ∧ ov_mul x y = true) ∨ (¬ s_X1_isProductLong x y = 0 ∧ ov_mul x y = false) := by
    intro x y
    by_cases h : fitsP x y
    · exact Or.inr ⟨fun z => (prod_class x y).mp z h, decide_eq_false (fun z => (prod_jdk x y).mp z h)⟩
    · exact Or.inl ⟨(prod_class x y).mpr h, decide_eq_true ((prod_jdk x y).mpr h)⟩
  unfold s_X1_multiply
  rcases key a c with ⟨h1, g1⟩ | ⟨h1, g1⟩
  · rw [if_pos h1, g1]; exact ⟨rfl, rfl⟩
  · rcases key a d with ⟨h2, g2⟩ | ⟨h2, g2⟩
    · rw [if_neg h1, if_pos h2, g1, g2]; exact ⟨rfl, rfl⟩
    · rcases key b c with ⟨h3, g3⟩ | ⟨h3, g3⟩
      · rw [if_neg h1, if_neg h2, if_pos h3, g1, g2, g3]; exact ⟨rfl, rfl⟩
      · rcases key b d with ⟨h4, g4⟩ | ⟨h4, g4⟩
        · rw [if_neg h1, if_neg h2, if_neg h3, if_pos h4, g1, g2, g3, g4]; exact ⟨rfl, rfl⟩
        · rw [if_neg h1, if_neg h2, if_neg h3, if_neg h4, g1, g2, g3, g4]; exact ⟨rfl, rfl⟩
