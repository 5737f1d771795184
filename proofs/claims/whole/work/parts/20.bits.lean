/-! numbers: the family uN and two rows more out of kit/laws/BITS.to-paste; then own rows: signs, shifts, compares and division without sign -/
/-! ===== Int64 as an unsigned number: uN x ===== -/
def uN (x : Int64) : Nat := x.toUInt64.toNat
theorem uN_lt (x : Int64) : uN x < 18446744073709551616 := x.toUInt64.toNat_lt
theorem uN_inj {x y : Int64} (h : uN x = uN y) : x = y := congrArg UInt64.toInt64 (UInt64.toNat_inj.mp h)
theorem uN_add (x y : Int64) : uN (x + y) = (uN x + uN y) % 18446744073709551616 := by
  show (x.toUInt64 + y.toUInt64).toNat = _
  exact UInt64.toNat_add _ _
theorem uN_mul (x y : Int64) : uN (x * y) = (uN x * uN y) % 18446744073709551616 := by
  show (x.toUInt64 * y.toUInt64).toNat = _
  exact UInt64.toNat_mul _ _
theorem uN_shl (x : Int64) : uN (x <<< ((1 : Int32).toInt64 &&& 63)) = (2 * uN x) % 18446744073709551616 := by
  have h : (((1 : Int32).toInt64 &&& 63).toBitVec.smod 64).toNat = 1 := by decide
  show (x.toBitVec <<< (((1 : Int32).toInt64 &&& 63).toBitVec.smod 64).toNat).toNat = _
  rw [h, BitVec.toNat_shiftLeft, Nat.shiftLeft_eq, Nat.mul_comm]
  rfl
theorem uN_shr (x : Int64) (s : UInt64) : uN (x.toUInt64 >>> s).toInt64 = uN x / 2 ^ (s.toNat % 64) := by
  show (x.toUInt64 >>> s).toNat = _
  rw [UInt64.toNat_shiftRight, Nat.shiftRight_eq_div_pow]
  rfl
theorem uN_s32 (x : Int64) : uN (x.toUInt64 >>> ((32 : Int32).toInt64.toUInt64 &&& Int64.toUInt64 63)).toInt64 = uN x / 4294967296 := by
  have h : ((32 : Int32).toInt64.toUInt64 &&& Int64.toUInt64 63).toNat % 64 = 32 := by decide
  rw [uN_shr, h]
theorem uN_s63 (x : Int64) : uN (x.toUInt64 >>> ((63 : Int32).toInt64.toUInt64 &&& Int64.toUInt64 63)).toInt64 = uN x / 9223372036854775808 := by
  have h : ((63 : Int32).toInt64.toUInt64 &&& Int64.toUInt64 63).toNat % 64 = 63 := by decide
  rw [uN_shr, h]
theorem uN_lo (x : Int64) : uN (x &&& 4294967295) = uN x % 4294967296 := by
  show (x.toUInt64 &&& Int64.toUInt64 4294967295).toNat = _
  rw [UInt64.toNat_and]
  exact Nat.and_two_pow_sub_one_eq_mod _ 32
theorem uN_bit (x : Int64) : (x &&& 1) = 0 ↔ uN x % 2 = 0 := by
  have h : uN (x &&& 1) = uN x % 2 := by
    show (x.toUInt64 &&& Int64.toUInt64 1).toNat = _
    rw [UInt64.toNat_and]
    exact Nat.and_two_pow_sub_one_eq_mod _ 1
  rw [← h]
  exact ⟨fun z => by rw [z]; rfl, fun z => uN_inj (z.trans rfl)⟩
theorem uN_or {x y : Int64} (hy : uN y < 2) : uN ((x <<< ((1 : Int32).toInt64 &&& 63)) ||| y) = (2 * uN x) % 18446744073709551616 + uN y := by
  have h1 : uN ((x <<< ((1 : Int32).toInt64 &&& 63)) ||| y) = uN (x <<< ((1 : Int32).toInt64 &&& 63)) ||| uN y := UInt64.toNat_or _ _
  have h2 : (2 * uN x) % 18446744073709551616 = 2 ^ 1 * (uN x % 9223372036854775808) := by omega
  rw [h1, uN_shl, h2]
  exact (Nat.two_pow_add_eq_or_of_lt (i := 1) hy _).symm
theorem nat_xor {a : Nat} (h : a < 18446744073709551616) : a ^^^ 2 ^ 63 = (a + 9223372036854775808) % 18446744073709551616 := by
  have h1 : (a ^^^ 2 ^ 63) % 2 ^ 63 = a % 2 ^ 63 := by rw [Nat.xor_mod_two_pow, Nat.mod_self, Nat.xor_zero]
  have h2 : (a ^^^ 2 ^ 63) / 2 ^ 63 = (a / 2 ^ 63) ^^^ 1 := by rw [Nat.xor_div_two_pow, Nat.div_self (Nat.two_pow_pos 63)]
  have h3 : a / 2 ^ 63 = 0 ∨ a / 2 ^ 63 = 1 := by omega
  generalize a ^^^ 2 ^ 63 = t at h1 h2
  rcases h3 with h3 | h3
  · rw [h3] at h2
    have h2 : t / 2 ^ 63 = 1 := h2
    omega
  · rw [h3] at h2
    have h2 : t / 2 ^ 63 = 0 := h2
    omega
theorem uN_xor (x : Int64) : uN (x ^^^ (-9223372036854775808)) = (uN x + 9223372036854775808) % 18446744073709551616 := by
  rw [← nat_xor (uN_lt x)]
  exact UInt64.toNat_xor _ _
theorem uN_int (x : Int64) : x.toInt = if 2 * uN x < 18446744073709551616 then (uN x : Int) else (uN x : Int) - 18446744073709551616 := BitVec.toInt_eq_toNat_cond _
theorem uN_le (x y : Int64) : (x ^^^ (-9223372036854775808)) ≤ (y ^^^ (-9223372036854775808)) ↔ uN x ≤ uN y := by
  have hx := uN_lt x
  have hy := uN_lt y
  rw [Int64.le_iff_toInt_le, uN_int, uN_int, uN_xor, uN_xor]
  omega
theorem uN_sk (x : Int64) {k : Nat} (hk : k < 64) : uN (x.toUInt64 >>> ((nI k).toInt64.toUInt64 &&& Int64.toUInt64 63)).toInt64 = uN x / 2 ^ k := by
  have h : ((nI k).toInt64.toUInt64 &&& Int64.toUInt64 63).toNat % 64 = k := by
    rw [nI_l (by omega), UInt64.toNat_and]
    have e : (lN k).toUInt64.toNat = k % 2 ^ 64 := rfl
    have e2 : (Int64.toUInt64 63).toNat = 2 ^ 6 - 1 := by decide
    rw [e, e2, Nat.and_two_pow_sub_one_eq_mod]
    omega
  rw [uN_shr, h]
theorem cr_amt (s : Int64) : ∃ n, n < 64 ∧ s &&& 63 = lN n ∧ (s.toUInt64 &&& Int64.toUInt64 63).toNat % 64 = n := by
  have e : (s.toUInt64 &&& Int64.toUInt64 63).toNat = s.toUInt64.toNat % 2 ^ 6 := by
    rw [UInt64.toNat_and, show (Int64.toUInt64 63).toNat = 2 ^ 6 - 1 from by decide, Nat.and_two_pow_sub_one_eq_mod]
  refine ⟨s.toUInt64.toNat % 2 ^ 6, by omega, ?_, by omega⟩
  rw [← Int64.toBitVec_inj, ← BitVec.toNat_inj]
  show (s.toUInt64 &&& Int64.toUInt64 63).toNat = (BitVec.ofNat 64 (s.toUInt64.toNat % 2 ^ 6)).toNat
  rw [e, BitVec.toNat_ofNat]
  omega

theorem wb_sm9 : ∀ k, k < 64 → (BitVec.ofNat 64 k).smod 64 = BitVec.ofNat 64 k := by decide +kernel
theorem e0_64 : (0 : Int64).toInt = 0 := by decide
theorem neg_iff (x : Int64) : x < 0 ↔ 9223372036854775808 ≤ uN x := by
  rw [Int64.lt_iff_toInt_lt, uN_int, e0_64]
  have := uN_lt x
  split <;> omega
theorem neg_msb (x : Int64) : x < 0 ↔ x.toBitVec.msb = true := by
  rw [Int64.lt_iff_toInt_lt, BitVec.msb_eq_toInt, e0_64, decide_eq_true_eq]
  exact Iff.rfl
theorem neg_and (x y : Int64) : (x &&& y) < 0 ↔ x < 0 ∧ y < 0 := by
  rw [neg_msb, neg_msb, neg_msb, Int64.toBitVec_and, BitVec.msb_and, Bool.and_eq_true]
theorem neg_or (x y : Int64) : (x ||| y) < 0 ↔ x < 0 ∨ y < 0 := by
  rw [neg_msb, neg_msb, neg_msb, Int64.toBitVec_or, BitVec.msb_or, Bool.or_eq_true]
theorem neg_xor (x y : Int64) : (x ^^^ y) < 0 ↔ ((x < 0 ∧ ¬ y < 0) ∨ (¬ x < 0 ∧ y < 0)) := by
  rw [neg_msb, neg_msb, neg_msb, Int64.toBitVec_xor, BitVec.msb_xor]
  cases x.toBitVec.msb <;> cases y.toBitVec.msb <;> simp
theorem neg_not (x : Int64) : (x ^^^ (-1)) < 0 ↔ ¬ x < 0 := by
  rw [neg_xor]
  have h : (-1 : Int64) < 0 := by decide
  constructor
  · rintro (⟨-, z⟩ | ⟨z, -⟩)
    · exact absurd h z
    · exact z
  · exact fun z => Or.inr ⟨z, h⟩
/-- the amount of a shift -/
def ct (y : Int32) : Nat := (y.toInt64.toUInt64 &&& Int64.toUInt64 63).toNat
theorem ct_lt (y : Int32) : ct y < 64 := by
  unfold ct
  rw [UInt64.toNat_and, show (Int64.toUInt64 63).toNat = 2 ^ 6 - 1 from by decide, Nat.and_two_pow_sub_one_eq_mod]
  omega
theorem ct_s (y : Int32) : ((y.toInt64 &&& 63).toBitVec.smod 64).toNat = ct y := by
  obtain ⟨n, h1, h2, h3⟩ := cr_amt y.toInt64
  have h4 : ct y = n := by
    have := ct_lt y
    unfold ct at this ⊢
    omega
  rw [h2, h4]
  show ((BitVec.ofNat 64 n).smod 64).toNat = n
  rw [wb_sm9 n h1, BitVec.toNat_ofNat]
  omega
theorem uN_pshl (x : Int64) (y : Int32) : uN (pl_shl x y) = uN x * 2 ^ ct y % 18446744073709551616 := by
  show (x.toBitVec <<< ((y.toInt64 &&& 63).toBitVec.smod 64).toNat).toNat = _
  rw [ct_s, BitVec.toNat_shiftLeft, Nat.shiftLeft_eq]
  rfl
theorem uN_pushr (x : Int64) (y : Int32) : uN (pl_ushr x y) = uN x / 2 ^ ct y := by
  unfold pl_ushr
  rw [uN_shr]
  have := ct_lt y
  unfold ct at this ⊢
  rw [Nat.mod_eq_of_lt this]
theorem toInt_pshr (x : Int64) (y : Int32) : (pl_shr x y).toInt = x.toInt / ((2 ^ ct y : Nat) : Int) := by
  show (x.toBitVec.sshiftRight ((y.toInt64 &&& 63).toBitVec.smod 64).toNat).toInt = _
  rw [ct_s, BitVec.toInt_sshiftRight, Int.shiftRight_eq_div_pow]
  rfl
theorem ct_63 : ct 63 = 63 := by decide
theorem ct_1 : ct 1 = 1 := by decide
theorem ushr63 (z : Int64) : pl_ushr z 63 = if z < 0 then 1 else 0 := by
  apply uN_inj
  rw [uN_pushr, ct_63]
  have h := uN_lt z
  have e1 : uN 1 = 1 := by decide
  have e2 : uN 0 = 0 := by decide
  by_cases c : z < 0
  · rw [if_pos c, e1]
    have := (neg_iff z).mp c
    omega
  · rw [if_neg c, e2]
    have h9 : ¬ 9223372036854775808 ≤ uN z := fun q => c ((neg_iff z).mpr q)
    omega
theorem shr63 (z : Int64) : pl_shr z 63 = if z < 0 then -1 else 0 := by
  apply Int64.toInt_inj.mp
  rw [toInt_pshr, ct_63]
  have h1 := z.le_toInt
  have h2 := z.toInt_lt
  have e1 : (-1 : Int64).toInt = -1 := by decide
  by_cases c : z < 0
  · rw [if_pos c, e1]
    rw [Int64.lt_iff_toInt_lt, e0_64] at c
    omega
  · rw [if_neg c, e0_64]
    rw [Int64.lt_iff_toInt_lt, e0_64] at c
    omega
theorem uN_sub (x y : Int64) : uN (x - y) = (uN x + (18446744073709551616 - uN y)) % 18446744073709551616 := by
  show (x.toUInt64 - y.toUInt64).toNat = _
  rw [UInt64.toNat_sub, Nat.add_comm]
  rfl
theorem uN_pos {x : Int64} (h : ¬ x < 0) : x.toInt = (uN x : Int) ∧ uN x < 9223372036854775808 := by
  have h1 : ¬ 9223372036854775808 ≤ uN x := fun q => h ((neg_iff x).mpr q)
  have h2 := uN_int x
  rw [h2, if_pos (by omega)]
  exact ⟨rfl, by omega⟩
theorem uN_of {x : Int64} {n : Nat} (h : x.toInt = (n : Int)) : uN x = n := by
  have h1 := uN_int x
  have h2 := uN_lt x
  have h3 := x.toInt_lt
  rw [h] at h1
  split at h1 <;> omega
theorem uN_div {x y : Int64} (hx : ¬ x < 0) (hy : ¬ y < 0) (h0 : ¬ y = 0) : uN (x / y) = uN x / uN y := by
  obtain ⟨a1, a2⟩ := uN_pos hx
  obtain ⟨b1, b2⟩ := uN_pos hy
  have hY : 0 < uN y := Nat.pos_of_ne_zero (fun z => h0 (uN_inj (z.trans (by decide))))
  apply uN_of
  rw [lg_ldiv_nonneg (by omega) (by omega), a1, b1]
  exact (Int.natCast_ediv _ _).symm
-- compares without sign
theorem below_eq (x y : Int64) : s_X0_isBelow x y = if uN x < uN y then 1 else 0 := by
  unfold s_X0_isBelow
  have h := uN_le y x
  by_cases c : uN x < uN y
  · rw [if_pos c, if_pos (Int64.not_le.mp (fun z => by have := h.mp z; omega))]
  · rw [if_neg c, if_neg (fun z => absurd (h.mpr (by omega)) (Int64.not_le.mpr z))]
theorem addMin (x : Int64) : x + (-9223372036854775808) = x ^^^ (-9223372036854775808) := by
  apply uN_inj
  rw [uN_add, uN_xor, show uN (-9223372036854775808) = 9223372036854775808 from by decide]
theorem cmp_eq (x y : Int64) : s_J13_compareUnsigned x y = if uN x < uN y then -1 else if uN x = uN y then 0 else 1 := by
  unfold s_J13_compareUnsigned s_J13_compare
  rw [addMin, addMin]
  have h := uN_le y x
  have h' := uN_le x y
  by_cases c : uN x < uN y
  · rw [if_pos c, if_pos (Int64.not_le.mp (fun z => by have := h.mp z; omega))]
  · rw [if_neg c, if_neg (fun z => absurd (h.mpr (by omega)) (Int64.not_le.mpr z))]
    by_cases c2 : uN x = uN y
    · rw [if_pos c2, if_pos (by rw [uN_inj c2])]
    · rw [if_neg c2, if_neg (fun z => by
        have q := h'.mp (by rw [z]; exact Int64.le_refl _)
        omega)]
theorem isSo_eq (p0 : Int32) (p1 p2 : Int64) : s_X0_isSo p0 p1 p2 = s_X3_holds p0 p1 p2 := by
  have hb := below_eq p1 p2
  have hb2 := below_eq p2 p1
  have hc := cmp_eq p1 p2
  unfold s_X0_isSo s_X3_holds
  rcases Nat.lt_trichotomy (uN p1) (uN p2) with h | h | h
  · rw [if_pos h] at hb hc
    rw [if_neg (by omega)] at hb2
    rw [hb, hb2, hc]
    rfl
  · rw [if_neg (by omega)] at hb hb2
    rw [if_neg (by omega), if_pos h] at hc
    rw [hb, hb2, hc]
    rfl
  · rw [if_neg (by omega)] at hb
    rw [if_pos h] at hb2
    rw [if_neg (by omega), if_neg (by omega)] at hc
    rw [hb, hb2, hc]
    rfl
-- division without sign
theorem nat_half (X Y : Nat) (hY : 0 < Y) : 2 * (X / 2 / Y) * Y ≤ X ∧ X - 2 * (X / 2 / Y) * Y < 2 * Y ∧ X / Y = 2 * (X / 2 / Y) + (if X - 2 * (X / 2 / Y) * Y < Y then 0 else 1) ∧ X % Y = (if X - 2 * (X / 2 / Y) * Y < Y then X - 2 * (X / 2 / Y) * Y else X - 2 * (X / 2 / Y) * Y - Y) := by
  have h1 := Nat.div_add_mod (X / 2) Y
  have h2 := Nat.mod_lt (X / 2) hY
  generalize X / 2 / Y = d at h1 ⊢
  generalize X / 2 % Y = r at h1 h2
  have e : 2 * d * Y = 2 * (Y * d) := by rw [Nat.mul_assoc, Nat.mul_comm d Y]
  rw [e]
  have hX : X = (X - 2 * (Y * d)) + Y * (2 * d) := by
    have : Y * (2 * d) = 2 * (Y * d) := by rw [Nat.mul_left_comm]
    omega
  have hq : X / Y = (X - 2 * (Y * d)) / Y + 2 * d := by
    conv => lhs; rw [hX]
    exact Nat.add_mul_div_left _ _ hY
  have hm : X % Y = (X - 2 * (Y * d)) % Y := by
    conv => lhs; rw [hX]
    exact Nat.add_mul_mod_self_left _ _ _
  refine ⟨by omega, by omega, ?_, ?_⟩
  · rw [hq]
    by_cases c : X - 2 * (Y * d) < Y
    · rw [if_pos c, Nat.div_eq_of_lt c]; omega
    · rw [if_neg c, Nat.div_eq_of_lt_le (k := 1) (by omega) (by omega)]; omega
  · rw [hm]
    by_cases c : X - 2 * (Y * d) < Y
    · rw [if_pos c, Nat.mod_eq_of_lt c]
    · rw [if_neg c, Nat.mod_eq_sub_mod (by omega), Nat.mod_eq_of_lt (by omega)]
/-- twice the quotient of the half, and what it leaves -/
theorem half_q (x y : Int64) (hy : ¬ y < 0) (h0 : ¬ y = 0) : uN (pl_shl ((pl_ushr x 1) / y) 1) = 2 * (uN x / 2 / uN y) ∧ uN (x - (pl_shl ((pl_ushr x 1) / y) 1) * y) = uN x - 2 * (uN x / 2 / uN y) * uN y := by
  have hX := uN_lt x
  obtain ⟨b1, b2⟩ := uN_pos hy
  have hY : 0 < uN y := Nat.pos_of_ne_zero (fun z => h0 (uN_inj (z.trans (by decide))))
  obtain ⟨k1, k2, k3, k4⟩ := nat_half (uN x) (uN y) hY
  have hu : uN (pl_ushr x 1) = uN x / 2 := by rw [uN_pushr, ct_1]
  have hn : ¬ pl_ushr x 1 < 0 := fun z => by
    have := (neg_iff _).mp z
    omega
  have hd : uN ((pl_ushr x 1) / y) = uN x / 2 / uN y := by rw [uN_div hn hy h0, hu]
  have hle : 2 * (uN x / 2 / uN y) ≤ uN x := by
    have : uN x / 2 / uN y ≤ uN x / 2 := Nat.div_le_self _ _
    omega
  have hq : uN (pl_shl ((pl_ushr x 1) / y) 1) = 2 * (uN x / 2 / uN y) := by
    rw [uN_pshl, ct_1, hd, Nat.mod_eq_of_lt (by omega)]
    omega
  refine ⟨hq, ?_⟩
  rw [uN_sub, uN_mul, hq]
  rw [Nat.mod_eq_of_lt (by omega : 2 * (uN x / 2 / uN y) * uN y < 18446744073709551616)]
  omega
theorem div_class (x y : Int64) (h0 : ¬ y = 0) : uN (s_X0_divide x y) = uN x / uN y := by
  have hX := uN_lt x
  have hYl := uN_lt y
  have hY : 0 < uN y := Nat.pos_of_ne_zero (fun z => h0 (uN_inj (z.trans (by decide))))
  have e1 : uN 1 = 1 := by decide
  have e2 : uN 0 = 0 := by decide
  unfold s_X0_divide
  rw [if_neg h0, below_eq, below_eq]
  by_cases c1 : y < 0
  · rw [if_pos c1]
    have := (neg_iff y).mp c1
    by_cases c2 : uN x < uN y
    · rw [if_pos c2, if_neg (by decide), e2, Nat.div_eq_of_lt c2]
    · rw [if_neg c2, if_pos rfl, e1, Nat.div_eq_of_lt_le (k := 1) (by omega) (by omega)]
  · rw [if_neg c1]
    obtain ⟨b1, b2⟩ := uN_pos c1
    by_cases c2 : x < 0
    · rw [if_pos c2]
      obtain ⟨q1, q2⟩ := half_q x y c1 h0
      obtain ⟨k1, k2, k3, k4⟩ := nat_half (uN x) (uN y) hY
      rw [q2]
      by_cases c3 : uN x - 2 * (uN x / 2 / uN y) * uN y < uN y
      · rw [if_pos c3, if_neg (by decide), q1, k3, if_pos c3]; rfl
      · rw [if_neg c3, if_pos rfl, uN_add, q1, e1, k3, if_neg c3]
        have hq := Nat.div_le_self (uN x) (uN y)
        rw [k3, if_neg c3] at hq
        rw [Nat.mod_eq_of_lt (by omega)]
    · rw [if_neg c2]
      exact uN_div c2 c1 h0
theorem div_jdk (x y : Int64) (h0 : ¬ y = 0) : uN (s_J13_divideUnsigned x y) = uN x / uN y := by
  have hX := uN_lt x
  have hYl := uN_lt y
  have hY : 0 < uN y := Nat.pos_of_ne_zero (fun z => h0 (uN_inj (z.trans (by decide))))
  have e1 : uN 1 = 1 := by decide
  have e2 : uN 0 = 0 := by decide
  unfold s_J13_divideUnsigned
  rw [ushr63, ushr63]
  by_cases c1 : y < 0
  · rw [if_pos c1]
    have hy := (neg_iff y).mp c1
    have hs := uN_sub x y
    by_cases c2 : uN x < uN y
    · rw [if_neg, e2, Nat.div_eq_of_lt c2]
      rw [neg_and, neg_not, neg_iff, neg_iff, hs]
      omega
    · rw [if_pos, e1, Nat.div_eq_of_lt_le (k := 1) (by omega) (by omega)]
      rw [neg_and, neg_not, neg_iff, neg_iff, hs]
      omega
  · rw [if_neg c1]
    obtain ⟨b1, b2⟩ := uN_pos c1
    obtain ⟨q1, q2⟩ := half_q x y c1 h0
    obtain ⟨k1, k2, k3, k4⟩ := nat_half (uN x) (uN y) hY
    generalize hr : x - (pl_shl ((pl_ushr x 1) / y) 1) * y = r at q2 ⊢
    generalize hqq : pl_shl ((pl_ushr x 1) / y) 1 = q at q1 ⊢
    have hs := uN_sub r y
    rw [uN_add, q1, k3]
    by_cases c3 : uN x - 2 * (uN x / 2 / uN y) * uN y < uN y
    · rw [if_neg, e2, if_pos c3]
      · have hq := Nat.div_le_self (uN x) (uN y)
        rw [k3, if_pos c3] at hq
        rw [Nat.mod_eq_of_lt (by omega)]
      · rw [neg_or, neg_not, neg_iff, neg_iff, hs, q2]
        omega
    · rw [if_pos, e1, if_neg c3]
      · have hq := Nat.div_le_self (uN x) (uN y)
        rw [k3, if_neg c3] at hq
        rw [Nat.mod_eq_of_lt (by omega)]
      · rw [neg_or, neg_not, neg_iff, neg_iff, hs, q2]
        omega
theorem rem_jdk (x y : Int64) (h0 : ¬ y = 0) : uN (s_J13_remainderUnsigned x y) = uN x % uN y := by
  have hX := uN_lt x
  have hYl := uN_lt y
  have hY : 0 < uN y := Nat.pos_of_ne_zero (fun z => h0 (uN_inj (z.trans (by decide))))
  have e3 : ∀ z : Int64, (-1 : Int64) &&& z = z := fun z => by
    apply Int64.toBitVec_inj.mp
    rw [Int64.toBitVec_and, show (-1 : Int64).toBitVec = BitVec.allOnes 64 from by decide, BitVec.allOnes_and]
  have e4 : ∀ z : Int64, (0 : Int64) &&& z = 0 := fun z => by
    apply Int64.toBitVec_inj.mp
    rw [Int64.toBitVec_and, show (0 : Int64).toBitVec = 0#64 from by decide, BitVec.zero_and]
  have e2 : uN 0 = 0 := by decide
  unfold s_J13_remainderUnsigned
  rw [shr63, shr63]
  by_cases c1 : y < 0
  · rw [if_pos c1]
    have hy := (neg_iff y).mp c1
    have hs := uN_sub x y
    by_cases c2 : uN x < uN y
    · rw [if_neg, e4, uN_sub, e2, Nat.mod_eq_of_lt c2]
      · omega
      · rw [neg_and, neg_not, neg_iff, neg_iff, hs]
        omega
    · have e : uN x % uN y = uN x - uN y := by
        rw [Nat.mod_eq_sub_mod (by omega), Nat.mod_eq_of_lt (by omega)]
      rw [if_pos, e3, uN_sub, e]
      · omega
      · rw [neg_and, neg_not, neg_iff, neg_iff, hs]
        omega
  · rw [if_neg c1]
    obtain ⟨b1, b2⟩ := uN_pos c1
    obtain ⟨q1, q2⟩ := half_q x y c1 h0
    obtain ⟨k1, k2, k3, k4⟩ := nat_half (uN x) (uN y) hY
    generalize hr : x - (pl_shl ((pl_ushr x 1) / y) 1) * y = r at q2 ⊢
    have hs := uN_sub r y
    rw [k4]
    by_cases c3 : uN x - 2 * (uN x / 2 / uN y) * uN y < uN y
    · rw [if_neg, e4, uN_sub, e2, if_pos c3, q2]
      · omega
      · rw [neg_not, neg_iff, hs, q2]
        omega
    · rw [if_pos, e3, uN_sub, if_neg c3, q2]
      · omega
      · rw [neg_not, neg_iff, hs, q2]
        omega
theorem div_eq (x y : Int64) : s_X0_divide x y = if y = 0 then 0 else s_J13_divideUnsigned x y := by
  by_cases c : y = 0
  · rw [if_pos c]
    unfold s_X0_divide
    rw [if_pos c]
  · rw [if_neg c]
    exact uN_inj ((div_class x y c).trans (div_jdk x y c).symm)
theorem rem_eq (x y : Int64) : x - (s_X0_divide x y) * y = if y = 0 then x else s_J13_remainderUnsigned x y := by
  by_cases c : y = 0
  · rw [if_pos c, c]
    apply uN_inj
    rw [uN_sub, uN_mul, show uN 0 = 0 from by decide]
    have := uN_lt x
    rw [Nat.mul_zero]
    omega
  · rw [if_neg c]
    apply uN_inj
    rw [rem_jdk x y c, uN_sub, uN_mul, div_class x y c]
    have h1 := Nat.div_add_mod (uN x) (uN y)
    have hX := uN_lt x
    rw [Nat.mul_comm] at h1
    rw [Nat.mod_eq_of_lt (by omega : uN x / uN y * uN y < 18446744073709551616)]
    omega
-- the instruction itself
theorem and_i32 (a b : Int64) : (a &&& b).toInt32 = a.toInt32 &&& b.toInt32 := by
  first | exact Int64.toInt32_and a b | simp
theorem sh63 (y : Int64) : (y &&& 63).toInt32 = y.toInt32 &&& 63 := by rw [and_i32]; rfl
theorem sh31 (y : Int64) : (y &&& 31).toInt32 = y.toInt32 &&& 31 := by rw [and_i32]; rfl
