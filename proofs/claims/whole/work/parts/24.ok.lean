/-! what is made of two ranges is a range -/
theorem lt_irr (x : Int64) : ¬ x < x := by rw [lt_i]; omega
theorem all_ok : ¬ ((9223372036854775807 : Int64) < (-9223372036854775808 : Int64)) := by decide
theorem add_ok {a b c d : Int64} (h1 : ¬ b < a) (h2 : ¬ d < c) : ¬ (s_X1_add a b c d).2 < (s_X1_add a b c d).1 := by
  rw [lt_i] at h1 h2
  unfold s_X1_add s_X1_isSumLong
  have k1 := add_ov a c; have k4 := add_ov b d
  by_cases c1 : (a ^^^ (a + c)) &&& (c ^^^ (a + c)) < 0
  · rw [if_pos c1]; exact all_ok
  · by_cases c4 : (b ^^^ (b + d)) &&& (d ^^^ (b + d)) < 0
    · rw [if_neg c1, if_pos c4]; exact all_ok
    · rw [if_neg c1, if_neg c4]
      rw [k1] at c1; rw [k4] at c4
      have q1 := add_i a c; have q4 := add_i b d
      show ¬ (b + d) < (a + c)
      rw [lt_i]
      omega
theorem sub_ok {a b c d : Int64} (h1 : ¬ b < a) (h2 : ¬ d < c) : ¬ (s_X1_subtract a b c d).2 < (s_X1_subtract a b c d).1 := by
  rw [lt_i] at h1 h2
  unfold s_X1_subtract s_X1_isDifferenceLong
  have k1 := sub_ov a d; have k4 := sub_ov b c
  by_cases c1 : (a ^^^ d) &&& (a ^^^ (a - d)) < 0
  · rw [if_pos c1]; exact all_ok
  · by_cases c4 : (b ^^^ c) &&& (b ^^^ (b - c)) < 0
    · rw [if_neg c1, if_pos c4]; exact all_ok
    · rw [if_neg c1, if_neg c4]
      rw [k1] at c1; rw [k4] at c4
      have q1 := sub_i a d; have q4 := sub_i b c
      show ¬ (b - c) < (a - d)
      rw [lt_i]
      omega
theorem mul_ok (a b c d : Int64) : ¬ (s_X1_multiply a b c d).2 < (s_X1_multiply a b c d).1 := by
  unfold s_X1_multiply
  (repeat' split) <;> first | exact all_ok | skip
  show ¬ pl_max (pl_max (a * c) (a * d)) (pl_max (b * c) (b * d)) < pl_min (pl_min (a * c) (a * d)) (pl_min (b * c) (b * d))
  rw [lt_i, max_i, max_i, max_i, min_i, min_i, min_i]
  omega
theorem uN_le_i {x y : Int64} (hx : ¬ x < 0) (hy : ¬ y < 0) (h : uN x ≤ uN y) : ¬ y < x := by
  obtain ⟨a1, a2⟩ := uN_pos hx
  obtain ⟨b1, b2⟩ := uN_pos hy
  rw [lt_i]
  omega
theorem i_uN_le {x y : Int64} (hx : ¬ x < 0) (hy : ¬ y < 0) (h : ¬ y < x) : uN x ≤ uN y := by
  obtain ⟨a1, a2⟩ := uN_pos hx
  obtain ⟨b1, b2⟩ := uN_pos hy
  rw [lt_i] at h
  omega
theorem nn_of {x : Int64} (h : uN x < 9223372036854775808) : ¬ x < 0 := fun z => by
  have := (neg_iff x).mp z
  omega
theorem div_ok {a b c d : Int64} (h1 : ¬ b < a) (h2 : ¬ d < c) : ¬ (s_X1_divide a b c d).2 < (s_X1_divide a b c d).1 := by
  unfold s_X1_divide
  by_cases c1 : a < 0
  · rw [if_pos c1]; exact all_ok
  · by_cases c2 : 0 < c
    · rw [if_neg c1, if_pos c2]
      have b0 := up_neg h1 c1
      have d0 := up_pos h2 c2
      show ¬ s_X0_divide b c < s_X0_divide a d
      rw [div_pos9 c1 d0, div_pos9 b0 c2]
      have e1 := uN_div c1 (pos_nn d0) (nz_pos d0)
      have e2 := uN_div b0 (pos_nn c2) (nz_pos c2)
      obtain ⟨-, a2⟩ := uN_pos c1
      obtain ⟨-, b2⟩ := uN_pos b0
      have hC : 0 < uN c := Nat.pos_of_ne_zero (fun z => nz_pos c2 (uN_inj (z.trans (by decide))))
      have m1 := i_uN_le c1 b0 h1
      have m2 := i_uN_le (pos_nn c2) (pos_nn d0) h2
      have l1 := Nat.div_le_self (uN a) (uN d)
      have l2 := Nat.div_le_self (uN b) (uN c)
      have l3 : uN a / uN d ≤ uN b / uN c := Nat.div_le_div m1 m2 (by omega)
      exact uN_le_i (nn_of (by omega)) (nn_of (by omega)) (by omega)
    · by_cases c3 : c < 0
      · rw [if_neg c1, if_neg c2, if_pos c3]; exact all_ok
      · rw [if_neg c1, if_neg c2, if_neg c3]; exact up_neg h1 c1
theorem rest_ok {a b c d : Int64} (h1 : ¬ b < a) (h2 : ¬ d < c) : ¬ (s_X1_rest a b c d).2 < (s_X1_rest a b c d).1 := by
  unfold s_X1_rest
  by_cases c1 : a < 0
  · rw [if_pos c1]; exact all_ok
  · by_cases c2 : 0 < c
    · rw [if_neg c1, if_pos c2]
      have b0 := up_neg h1 c1
      have d0 := up_pos h2 c2
      show ¬ pl_min b (d - 1) < 0
      rw [lt0_i] at b0
      rw [lt_i, e0_64] at d0
      rw [lt0_i, min_i]
      have := sub_i d 1
      rw [show (1 : Int64).toInt = 1 from by decide] at this
      have := i_hi d
      omega
    · by_cases c3 : c < 0
      · rw [if_neg c1, if_neg c2, if_pos c3]; exact all_ok
      · rw [if_neg c1, if_neg c2, if_neg c3]; exact up_neg h1 c1
theorem and_ok {a b c d : Int64} (h1 : ¬ b < a) (h2 : ¬ d < c) : ¬ (s_X1_and a b c d).2 < (s_X1_and a b c d).1 := by
  unfold s_X1_and
  by_cases c1 : a < 0
  · by_cases c2 : c < 0
    · rw [if_pos c1, if_pos c2]; exact all_ok
    · rw [if_pos c1, if_neg c2]; exact up_neg h2 c2
  · by_cases c2 : c < 0
    · rw [if_neg c1, if_pos c2]; exact up_neg h1 c1
    · rw [if_neg c1, if_neg c2]
      have b0 := up_neg h1 c1
      have d0 := up_neg h2 c2
      show ¬ pl_min b d < 0
      rw [lt0_i] at b0 d0 ⊢
      rw [min_i]
      omega
theorem ones_ge {x : Int64} (hx : ¬ x < 0) (h0 : ¬ x = 0) : ¬ pl_ushr (-1) (s_J13_nlz x) < x := by
  obtain ⟨z, z1, z2, z3, z4⟩ := nlz64 hx h0
  obtain ⟨a1, a2⟩ := uN_pos hx
  have e : uN (pl_ushr (-1) (s_J13_nlz x)) = 2 ^ (64 - z) - 1 := by
    rw [z2, uN_pushr, ct_n z (by omega), show uN (-1) = 18446744073709551615 from by decide, ones_n z (by omega)]
  have hz : 1 ≤ z := Nat.pos_of_ne_zero (fun q => by
    rw [q] at z3
    have : (2 : Nat) ^ (63 - 0) = 9223372036854775808 := by decide
    omega)
  have hp : 2 ^ (64 - z) ≤ 2 ^ 63 := Nat.pow_le_pow_right (by decide) (by omega)
  have hp2 : (2 : Nat) ^ 63 = 9223372036854775808 := by decide
  exact uN_le_i hx (nn_of (by omega)) (by omega)
theorem join_ok {a b c d m : Int64} (h1 : ¬ b < a) (h2 : ¬ d < c) (hm : m = pl_max a c ∨ m = 0) : ¬ (s_X1_joinBits a b c d m).2 < (s_X1_joinBits a b c d m).1 := by
  unfold s_X1_joinBits
  by_cases c1 : a < 0
  · rw [if_pos c1]; exact all_ok
  · by_cases c2 : c < 0
    · rw [if_neg c1, if_pos c2]; exact all_ok
    · rw [if_neg c1, if_neg c2]
      have b0 := up_neg h1 c1
      have d0 := up_neg h2 c2
      show ¬ s_X1_allBitsUpTo (b ||| d) < m
      rw [join_eq b0 d0]
      have key : ¬ (if pl_max b d = 0 then 0 else pl_ushr (-1) (s_J13_nlz (pl_max b d))) < pl_max b d := by
        by_cases c3 : pl_max b d = 0
        · rw [if_pos c3, c3]; decide
        · rw [if_neg c3]
          refine ones_ge ?_ c3
          rw [lt0_i] at b0 d0 ⊢
          rw [max_i]
          omega
      generalize (if pl_max b d = 0 then 0 else pl_ushr (-1) (s_J13_nlz (pl_max b d))) = w at key
      rw [lt_i, max_i] at key
      rw [lt0_i] at b0 d0
      rw [lt_i] at h1 h2
      rcases hm with hm | hm
      · rw [hm, lt_i, max_i]; omega
      · rw [hm, lt0_i]; omega
theorem any_ok {a b : Int64} (h1 : ¬ b < a) : ¬ (s_X1_shiftRightByAny a b).2 < (s_X1_shiftRightByAny a b).1 := by
  unfold s_X1_shiftRightByAny
  by_cases c1 : a < 0
  · rw [if_pos c1]; exact all_ok
  · rw [if_neg c1]; exact up_neg h1 c1
theorem left_ok {a b : Int64} (c d : Int64) (k : Int32) (h1 : ¬ b < a) : ¬ (s_X1_shiftLeft a b c d k).2 < (s_X1_shiftLeft a b c d k).1 := by
  unfold s_X1_shiftLeft
  by_cases c0 : c = d
  · by_cases c1 : a < 0
    · rw [if_pos c0, if_pos c1]; exact all_ok
    · by_cases c2 : pl_shr (pl_shl b k) k = b
      · rw [if_pos c0, if_neg c1, if_pos c2]
        have b0 := up_neg h1 c1
        have n0 := shl_back b0 c2
        obtain ⟨q1, q2⟩ := uN_pos n0
        obtain ⟨w1, w2⟩ := uN_pos b0
        have m := i_uN_le c1 b0 h1
        rw [shr_ushr n0] at c2
        have e := congrArg uN c2
        rw [uN_pushr] at e
        have g1 : uN b * 2 ^ ct k ≤ uN (pl_shl b k) := by
          rw [← e]
          exact Nat.div_mul_le_self _ _
        have g2 : uN a * 2 ^ ct k ≤ uN b * 2 ^ ct k := Nat.mul_le_mul_right _ m
        have e1 : uN (pl_shl a k) = uN a * 2 ^ ct k := by
          rw [uN_pshl]
          exact Nat.mod_eq_of_lt (by omega)
        show ¬ pl_shl b k < pl_shl a k
        exact uN_le_i (nn_of (by omega)) n0 (by omega)
      · rw [if_pos c0, if_neg c1, if_neg c2]; exact all_ok
  · rw [if_neg c0]; exact all_ok
theorem right_ok {a b : Int64} (c d : Int64) {k : Int32} (h1 : ¬ b < a) (hk : ∃ n, n < 64 ∧ k = nI n) : ¬ (s_X1_shiftRight a b c d k).2 < (s_X1_shiftRight a b c d k).1 := by
  unfold s_X1_shiftRight
  by_cases c0 : c = d
  · by_cases c1 : a < 0
    · by_cases c2 : k = 0
      · rw [if_pos c0, if_pos c1, if_pos c2]; exact h1
      · rw [if_pos c0, if_pos c1, if_neg c2]
        obtain ⟨n, n1, n2⟩ := hk
        show ¬ pl_ushr (-1) k < 0
        apply nn_of
        rw [uN_pushr, n2, ct_n n n1, show uN (-1) = 18446744073709551615 from by decide, ones_n n n1]
        have hn : 1 ≤ n := Nat.pos_of_ne_zero (fun q => c2 (by rw [n2, q]; rfl))
        have hp : 2 ^ (64 - n) ≤ 2 ^ 63 := Nat.pow_le_pow_right (by decide) (by omega)
        have hp2 : (2 : Nat) ^ 63 = 9223372036854775808 := by decide
        have := Nat.two_pow_pos (64 - n)
        omega
    · rw [if_pos c0, if_neg c1]
      have b0 := up_neg h1 c1
      have m := i_uN_le c1 b0 h1
      obtain ⟨w1, w2⟩ := uN_pos b0
      have e1 := uN_pushr a k
      have e2 := uN_pushr b k
      have l2 := Nat.div_le_self (uN b) (2 ^ ct k)
      have l3 : uN a / 2 ^ ct k ≤ uN b / 2 ^ ct k := Nat.div_le_div_right m
      show ¬ pl_ushr b k < pl_ushr a k
      exact uN_le_i (nn_of (by omega)) (nn_of (by omega)) (by omega)
  · rw [if_neg c0]; exact any_ok h1
theorem sright_ok {a b : Int64} (c d : Int64) (k : Int32) (h1 : ¬ b < a) : ¬ (s_X1_shiftSignedRight a b c d k).2 < (s_X1_shiftSignedRight a b c d k).1 := by
  unfold s_X1_shiftSignedRight
  by_cases c0 : c = d
  · rw [if_pos c0]
    show ¬ pl_shr b k < pl_shr a k
    rw [lt_i] at h1 ⊢
    rw [toInt_pshr, toInt_pshr]
    have hp : (0 : Int) < ((2 ^ ct k : Nat) : Int) := by
      have := Nat.two_pow_pos (ct k)
      omega
    have := Int.ediv_le_ediv hp (by omega : a.toInt ≤ b.toInt)
    omega
  · rw [if_neg c0]; exact any_ok h1
theorem mask_n {m : Int32} (x : Int32) (hm : m = 63 ∨ m = 31) : ∃ n, n < 64 ∧ x &&& m = nI n := by
  rcases hm with h | h
  · rw [h]
    exact ⟨_, by omega, pk_and x 6 (by decide)⟩
  · rw [h]
    exact ⟨_, by omega, pk_and x 5 (by decide)⟩
theorem wide_ok {a b c d : Int64} (op : Int32) {m : Int32} (h1 : ¬ b < a) (h2 : ¬ d < c) (hm : m = 63 ∨ m = 31) : ¬ (s_X1_makeWide a b c d op m).2 < (s_X1_makeWide a b c d op m).1 := by
  by_cases k0 : op = 0
  · subst k0; rw [m_0]; exact h2
  by_cases k1 : op = 1
  · subst k1; rw [m_1]; exact add_ok h1 h2
  by_cases k2 : op = 2
  · subst k2; rw [m_2]; exact sub_ok h1 h2
  by_cases k3 : op = 3
  · subst k3; rw [m_3]; exact mul_ok a b c d
  by_cases k4 : op = 4
  · subst k4; rw [m_4]; exact div_ok h1 h2
  by_cases k5 : op = 5
  · subst k5; rw [m_5]; exact rest_ok h1 h2
  by_cases k6 : op = 6
  · subst k6; rw [m_6]; exact and_ok h1 h2
  by_cases k7 : op = 7
  · subst k7; rw [m_7]; exact join_ok h1 h2 (Or.inl rfl)
  by_cases k8 : op = 8
  · subst k8; rw [m_8]; exact join_ok h1 h2 (Or.inr rfl)
  by_cases k9 : op = 9
  · subst k9; rw [m_9]; exact left_ok c d _ h1
  by_cases k10 : op = 10
  · subst k10; rw [m_10]; exact right_ok c d h1 (mask_n _ hm)
  by_cases k11 : op = 11
  · subst k11; rw [m_11]; exact sright_ok c d _ h1
  rw [m_12 k0 k1 k2 k3 k4 k5 k6 k7 k8 k9 k10 k11]
  exact sub_ok (by decide) h1
