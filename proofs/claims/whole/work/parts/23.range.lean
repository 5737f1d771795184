/-! what the reference makes of two ranges is what the class makes of them; and it is a range -/
set_option maxRecDepth 100000 in
theorem r_0 (ft : Int32) (p1 p2 p3 p4 : Int64) (p5 : Int32) : s_X3_range ft 0 p1 p2 p3 p4 p5 = (p3, p4, ft) := by
  unfold s_X3_range
  simp only [Int32.reduceEq, ↓reduceIte, ite_self]
set_option maxRecDepth 100000 in
theorem r_1 (ft : Int32) (p1 p2 p3 p4 : Int64) (p5 : Int32) : s_X3_range ft 1 p1 p2 p3 p4 p5 = ((s_X3_ends (1 : Int32) p1 p2 p3 p4).1, (s_X3_ends (1 : Int32) p1 p2 p3 p4).2.1, (s_X3_ends (1 : Int32) p1 p2 p3 p4).2.2) := by
  unfold s_X3_range
  simp only [Int32.reduceEq, ↓reduceIte, ite_self]
set_option maxRecDepth 100000 in
theorem r_2 (ft : Int32) (p1 p2 p3 p4 : Int64) (p5 : Int32) : s_X3_range ft 2 p1 p2 p3 p4 p5 = ((s_X3_ends (2 : Int32) p1 p2 p3 p4).1, (s_X3_ends (2 : Int32) p1 p2 p3 p4).2.1, (s_X3_ends (2 : Int32) p1 p2 p3 p4).2.2) := by
  unfold s_X3_range
  simp only [Int32.reduceEq, ↓reduceIte, ite_self]
set_option maxRecDepth 100000 in
theorem r_3 (ft : Int32) (p1 p2 p3 p4 : Int64) (p5 : Int32) : s_X3_range ft 3 p1 p2 p3 p4 p5 = ((s_X3_ends (3 : Int32) p1 p2 p3 p4).1, (s_X3_ends (3 : Int32) p1 p2 p3 p4).2.1, (s_X3_ends (3 : Int32) p1 p2 p3 p4).2.2) := by
  unfold s_X3_range
  simp only [Int32.reduceEq, ↓reduceIte, ite_self]
set_option maxRecDepth 100000 in
theorem r_4 (ft : Int32) (p1 p2 p3 p4 : Int64) (p5 : Int32) : s_X3_range ft 4 p1 p2 p3 p4 p5 = (if p1 < (0 : Int64) then ((-9223372036854775808 : Int64), (9223372036854775807 : Int64), ft) else (if p3 < (0 : Int64) then (if (0 : Int64) < p3 then ((p1 / p4), (p2 / p3), ft) else ((-9223372036854775808 : Int64), (9223372036854775807 : Int64), ft)) else (if (0 : Int64) < p3 then ((p1 / p4), (p2 / p3), ft) else ((0 : Int64), p2, ft)))) := by
  unfold s_X3_range
  simp only [Int32.reduceEq, ↓reduceIte, ite_self]
set_option maxRecDepth 100000 in
theorem r_5 (ft : Int32) (p1 p2 p3 p4 : Int64) (p5 : Int32) : s_X3_range ft 5 p1 p2 p3 p4 p5 = (if p1 < (0 : Int64) then ((-9223372036854775808 : Int64), (9223372036854775807 : Int64), ft) else (if p3 < (0 : Int64) then (if (0 : Int64) < p3 then ((0 : Int64), (pl_min p2 (p4 - (1 : Int64))), ft) else ((-9223372036854775808 : Int64), (9223372036854775807 : Int64), ft)) else (if (0 : Int64) < p3 then ((0 : Int64), (pl_min p2 (p4 - (1 : Int64))), ft) else ((0 : Int64), p2, ft)))) := by
  unfold s_X3_range
  simp only [Int32.reduceEq, ↓reduceIte, ite_self]
set_option maxRecDepth 100000 in
theorem r_6 (ft : Int32) (p1 p2 p3 p4 : Int64) (p5 : Int32) : s_X3_range ft 6 p1 p2 p3 p4 p5 = (if p1 < (0 : Int64) then (if p3 < (0 : Int64) then ((-9223372036854775808 : Int64), (9223372036854775807 : Int64), ft) else ((0 : Int64), p4, ft)) else (if p3 < (0 : Int64) then ((0 : Int64), p2, ft) else ((0 : Int64), (pl_min p2 p4), ft))) := by
  unfold s_X3_range
  simp only [Int32.reduceEq, ↓reduceIte, ite_self]
set_option maxRecDepth 100000 in
theorem r_7 (ft : Int32) (p1 p2 p3 p4 : Int64) (p5 : Int32) : s_X3_range ft 7 p1 p2 p3 p4 p5 = (if p1 < (0 : Int64) then ((-9223372036854775808 : Int64), (9223372036854775807 : Int64), ft) else (if p3 < (0 : Int64) then ((-9223372036854775808 : Int64), (9223372036854775807 : Int64), ft) else (if pl_max p2 p4 = (0 : Int64) then ((pl_max p1 p3), (0 : Int64), ft) else ((pl_max p1 p3), (pl_ushr (-1 : Int64) (s_J13_nlz (pl_max p2 p4))), ft)))) := by
  unfold s_X3_range
  simp only [Int32.reduceEq, ↓reduceIte, ite_self]
set_option maxRecDepth 100000 in
theorem r_8 (ft : Int32) (p1 p2 p3 p4 : Int64) (p5 : Int32) : s_X3_range ft 8 p1 p2 p3 p4 p5 = (if p1 < (0 : Int64) then ((-9223372036854775808 : Int64), (9223372036854775807 : Int64), ft) else (if p3 < (0 : Int64) then ((-9223372036854775808 : Int64), (9223372036854775807 : Int64), ft) else (if pl_max p2 p4 = (0 : Int64) then ((0 : Int64), (0 : Int64), ft) else ((0 : Int64), (pl_ushr (-1 : Int64) (s_J13_nlz (pl_max p2 p4))), ft)))) := by
  unfold s_X3_range
  simp only [Int32.reduceEq, ↓reduceIte, ite_self]
set_option maxRecDepth 100000 in
theorem r_9 (ft : Int32) (p1 p2 p3 p4 : Int64) (p5 : Int32) : s_X3_range ft 9 p1 p2 p3 p4 p5 = (if p1 < (0 : Int64) then ((-9223372036854775808 : Int64), (9223372036854775807 : Int64), ft) else (if p3 = p4 then (if pl_shl p2 (p3.toInt32 &&& p5) < (0 : Int64) then ((-9223372036854775808 : Int64), (9223372036854775807 : Int64), ft) else (if pl_shr (pl_shl p2 (p3.toInt32 &&& p5)) (p3.toInt32 &&& p5) = p2 then ((pl_shl p1 (p3.toInt32 &&& p5)), (pl_shl p2 (p3.toInt32 &&& p5)), ft) else ((-9223372036854775808 : Int64), (9223372036854775807 : Int64), ft))) else ((-9223372036854775808 : Int64), (9223372036854775807 : Int64), ft))) := by
  unfold s_X3_range
  simp only [Int32.reduceEq, ↓reduceIte, ite_self]
set_option maxRecDepth 100000 in
theorem r_10 (ft : Int32) (p1 p2 p3 p4 : Int64) (p5 : Int32) : s_X3_range ft 10 p1 p2 p3 p4 p5 = (if p1 < (0 : Int64) then (if p3 = p4 then (if p3.toInt32 &&& p5 = (0 : Int32) then (p1, p2, ft) else ((0 : Int64), (pl_ushr (-1 : Int64) (p3.toInt32 &&& p5)), ft)) else ((-9223372036854775808 : Int64), (9223372036854775807 : Int64), ft)) else (if p3 = p4 then ((pl_shr p1 (p3.toInt32 &&& p5)), (pl_shr p2 (p3.toInt32 &&& p5)), ft) else ((0 : Int64), p2, ft))) := by
  unfold s_X3_range
  simp only [Int32.reduceEq, ↓reduceIte, ite_self]
set_option maxRecDepth 100000 in
theorem r_11 (ft : Int32) (p1 p2 p3 p4 : Int64) (p5 : Int32) : s_X3_range ft 11 p1 p2 p3 p4 p5 = (if p1 < (0 : Int64) then (if p3 = p4 then ((pl_shr p1 (p3.toInt32 &&& p5)), (pl_shr p2 (p3.toInt32 &&& p5)), ft) else ((-9223372036854775808 : Int64), (9223372036854775807 : Int64), ft)) else (if p3 = p4 then ((pl_shr p1 (p3.toInt32 &&& p5)), (pl_shr p2 (p3.toInt32 &&& p5)), ft) else ((0 : Int64), p2, ft))) := by
  unfold s_X3_range
  simp only [Int32.reduceEq, ↓reduceIte, ite_self]
set_option maxRecDepth 100000 in
theorem r_12 {p0 : Int32} (h0 : ¬ p0 = 0) (h1 : ¬ p0 = 1) (h2 : ¬ p0 = 2) (h3 : ¬ p0 = 3) (h4 : ¬ p0 = 4) (h5 : ¬ p0 = 5) (h6 : ¬ p0 = 6) (h7 : ¬ p0 = 7) (h8 : ¬ p0 = 8) (h9 : ¬ p0 = 9) (h10 : ¬ p0 = 10) (h11 : ¬ p0 = 11) (ft : Int32) (p1 p2 p3 p4 : Int64) (p5 : Int32) : s_X3_range ft p0 p1 p2 p3 p4 p5 = ((s_X3_ends (2 : Int32) (0 : Int64) (0 : Int64) p1 p2).1, (s_X3_ends (2 : Int32) (0 : Int64) (0 : Int64) p1 p2).2.1, (s_X3_ends (2 : Int32) (0 : Int64) (0 : Int64) p1 p2).2.2) := by
  unfold s_X3_range
  simp only [if_neg h0, if_neg h1, if_neg h2, if_neg h3, if_neg h4, if_neg h5, if_neg h6, if_neg h7, if_neg h8, if_neg h9, if_neg h10, if_neg h11, ite_self]
theorem m_0 (p1 p2 p3 p4 : Int64) (p5 : Int32) : s_X1_makeWide p1 p2 p3 p4 0 p5 = (p3, p4) := by
  unfold s_X1_makeWide
  simp only [Int32.reduceEq, ↓reduceIte]
theorem m_1 (p1 p2 p3 p4 : Int64) (p5 : Int32) : s_X1_makeWide p1 p2 p3 p4 1 p5 = ((s_X1_add p1 p2 p3 p4).1, (s_X1_add p1 p2 p3 p4).2) := by
  unfold s_X1_makeWide
  simp only [Int32.reduceEq, ↓reduceIte]
theorem m_2 (p1 p2 p3 p4 : Int64) (p5 : Int32) : s_X1_makeWide p1 p2 p3 p4 2 p5 = ((s_X1_subtract p1 p2 p3 p4).1, (s_X1_subtract p1 p2 p3 p4).2) := by
  unfold s_X1_makeWide
  simp only [Int32.reduceEq, ↓reduceIte]
theorem m_3 (p1 p2 p3 p4 : Int64) (p5 : Int32) : s_X1_makeWide p1 p2 p3 p4 3 p5 = ((s_X1_multiply p1 p2 p3 p4).1, (s_X1_multiply p1 p2 p3 p4).2) := by
  unfold s_X1_makeWide
  simp only [Int32.reduceEq, ↓reduceIte]
theorem m_4 (p1 p2 p3 p4 : Int64) (p5 : Int32) : s_X1_makeWide p1 p2 p3 p4 4 p5 = ((s_X1_divide p1 p2 p3 p4).1, (s_X1_divide p1 p2 p3 p4).2) := by
  unfold s_X1_makeWide
  simp only [Int32.reduceEq, ↓reduceIte]
theorem m_5 (p1 p2 p3 p4 : Int64) (p5 : Int32) : s_X1_makeWide p1 p2 p3 p4 5 p5 = ((s_X1_rest p1 p2 p3 p4).1, (s_X1_rest p1 p2 p3 p4).2) := by
  unfold s_X1_makeWide
  simp only [Int32.reduceEq, ↓reduceIte]
theorem m_6 (p1 p2 p3 p4 : Int64) (p5 : Int32) : s_X1_makeWide p1 p2 p3 p4 6 p5 = ((s_X1_and p1 p2 p3 p4).1, (s_X1_and p1 p2 p3 p4).2) := by
  unfold s_X1_makeWide
  simp only [Int32.reduceEq, ↓reduceIte]
theorem m_7 (p1 p2 p3 p4 : Int64) (p5 : Int32) : s_X1_makeWide p1 p2 p3 p4 7 p5 = ((s_X1_joinBits p1 p2 p3 p4 (pl_max p1 p3)).1, (s_X1_joinBits p1 p2 p3 p4 (pl_max p1 p3)).2) := by
  unfold s_X1_makeWide
  simp only [Int32.reduceEq, ↓reduceIte]
theorem m_8 (p1 p2 p3 p4 : Int64) (p5 : Int32) : s_X1_makeWide p1 p2 p3 p4 8 p5 = ((s_X1_joinBits p1 p2 p3 p4 (0 : Int64)).1, (s_X1_joinBits p1 p2 p3 p4 (0 : Int64)).2) := by
  unfold s_X1_makeWide
  simp only [Int32.reduceEq, ↓reduceIte]
theorem m_9 (p1 p2 p3 p4 : Int64) (p5 : Int32) : s_X1_makeWide p1 p2 p3 p4 9 p5 = ((s_X1_shiftLeft p1 p2 p3 p4 (p3.toInt32 &&& p5)).1, (s_X1_shiftLeft p1 p2 p3 p4 (p3.toInt32 &&& p5)).2) := by
  unfold s_X1_makeWide
  simp only [Int32.reduceEq, ↓reduceIte]
theorem m_10 (p1 p2 p3 p4 : Int64) (p5 : Int32) : s_X1_makeWide p1 p2 p3 p4 10 p5 = ((s_X1_shiftRight p1 p2 p3 p4 (p3.toInt32 &&& p5)).1, (s_X1_shiftRight p1 p2 p3 p4 (p3.toInt32 &&& p5)).2) := by
  unfold s_X1_makeWide
  simp only [Int32.reduceEq, ↓reduceIte]
theorem m_11 (p1 p2 p3 p4 : Int64) (p5 : Int32) : s_X1_makeWide p1 p2 p3 p4 11 p5 = ((s_X1_shiftSignedRight p1 p2 p3 p4 (p3.toInt32 &&& p5)).1, (s_X1_shiftSignedRight p1 p2 p3 p4 (p3.toInt32 &&& p5)).2) := by
  unfold s_X1_makeWide
  simp only [Int32.reduceEq, ↓reduceIte]
theorem m_12 {p0 : Int32} (h0 : ¬ p0 = 0) (h1 : ¬ p0 = 1) (h2 : ¬ p0 = 2) (h3 : ¬ p0 = 3) (h4 : ¬ p0 = 4) (h5 : ¬ p0 = 5) (h6 : ¬ p0 = 6) (h7 : ¬ p0 = 7) (h8 : ¬ p0 = 8) (h9 : ¬ p0 = 9) (h10 : ¬ p0 = 10) (h11 : ¬ p0 = 11) (p1 p2 p3 p4 : Int64) (p5 : Int32) : s_X1_makeWide p1 p2 p3 p4 p0 p5 = ((s_X1_subtract (0 : Int64) (0 : Int64) p1 p2).1, (s_X1_subtract (0 : Int64) (0 : Int64) p1 p2).2) := by
  unfold s_X1_makeWide
  simp only [if_neg h0, if_neg h1, if_neg h2, if_neg h3, if_neg h4, if_neg h5, if_neg h6, if_neg h7, if_neg h8, if_neg h9, if_neg h10, if_neg h11]

theorem up_neg {a b : Int64} (h : ¬ b < a) (ha : ¬ a < 0) : ¬ b < 0 := by
  rw [lt_i] at *
  rw [e0_64] at *
  omega
theorem up_pos {a b : Int64} (h : ¬ b < a) (ha : 0 < a) : 0 < b := by
  rw [lt_i] at *
  rw [e0_64] at *
  omega
theorem pos_nn {a : Int64} (ha : 0 < a) : ¬ a < 0 := by
  rw [lt_i] at *
  rw [e0_64] at *
  omega
theorem div_pos9 {x y : Int64} (hx : ¬ x < 0) (hy : 0 < y) : s_X0_divide x y = x / y := by
  unfold s_X0_divide
  rw [if_neg (nz_pos hy), if_neg (pos_nn hy), if_neg hx]
theorem shr_ushr {x : Int64} (hx : ¬ x < 0) (c : Int32) : pl_shr x c = pl_ushr x c := by
  obtain ⟨h1, h2⟩ := uN_pos hx
  apply uN_inj
  rw [uN_pushr]
  apply uN_of
  rw [toInt_pshr, h1]
  exact (Int.natCast_ediv _ _).symm
theorem shl_back {x : Int64} {c : Int32} (hx : ¬ x < 0) (h : pl_shr (pl_shl x c) c = x) : ¬ pl_shl x c < 0 := by
  have h1 := congrArg Int64.toInt h
  rw [toInt_pshr] at h1
  obtain ⟨a1, a2⟩ := uN_pos hx
  rw [lt0_i]
  intro z
  have hp : (0 : Int) < ((2 ^ ct c : Nat) : Int) := by
    have := Nat.two_pow_pos (ct c)
    omega
  have := Int.ediv_neg_of_neg_of_pos z hp
  omega
theorem range_eq (ft p0 : Int32) {p1 p2 p3 p4 : Int64} (p5 : Int32) (hx : ¬ p2 < p1) (hy : ¬ p4 < p3) : (s_X3_range ft p0 p1 p2 p3 p4 p5).1 = (s_X1_makeWide p1 p2 p3 p4 p0 p5).1 ∧ (s_X3_range ft p0 p1 p2 p3 p4 p5).2.1 = (s_X1_makeWide p1 p2 p3 p4 p0 p5).2 := by
  by_cases h0 : p0 = 0
  · subst h0; rw [r_0, m_0]; exact ⟨rfl, rfl⟩
  by_cases h1 : p0 = 1
  · subst h1; rw [r_1, m_1]; exact ends_add hx hy
  by_cases h2 : p0 = 2
  · subst h2; rw [r_2, m_2]; exact ends_sub hx hy
  by_cases h3 : p0 = 3
  · subst h3; rw [r_3, m_3]; exact ends_mul p1 p2 p3 p4
  by_cases h4 : p0 = 4
  · subst h4; rw [r_4, m_4]
    unfold s_X1_divide
    by_cases c1 : p1 < 0
    · simp only [if_pos c1]; (repeat' split) <;> exact ⟨rfl, rfl⟩
    · by_cases c4 : 0 < p3
      · have c2 := pos_nn c4
        simp only [if_neg c1, if_neg c2, if_pos c4]
        rw [div_pos9 c1 (up_pos hy c4), div_pos9 (up_neg hx c1) c4]
        (repeat' split) <;> exact ⟨rfl, rfl⟩
      · simp only [if_neg c1, if_neg c4]; (repeat' split) <;> exact ⟨rfl, rfl⟩
  by_cases h5 : p0 = 5
  · subst h5; rw [r_5, m_5]
    unfold s_X1_rest
    by_cases c1 : p1 < 0
    · simp only [if_pos c1]; (repeat' split) <;> exact ⟨rfl, rfl⟩
    · by_cases c4 : 0 < p3
      · have c2 := pos_nn c4
        simp only [if_neg c1, if_neg c2, if_pos c4]
        (repeat' split) <;> exact ⟨rfl, rfl⟩
      · simp only [if_neg c1, if_neg c4]; (repeat' split) <;> exact ⟨rfl, rfl⟩
  by_cases h6 : p0 = 6
  · subst h6; rw [r_6, m_6]
    unfold s_X1_and
    by_cases c1 : p1 < 0 <;> by_cases c2 : p3 < 0
    · simp only [if_pos c1, if_pos c2]; (repeat' split) <;> exact ⟨rfl, rfl⟩
    · simp only [if_pos c1, if_neg c2]; (repeat' split) <;> exact ⟨rfl, rfl⟩
    · simp only [if_neg c1, if_pos c2]; (repeat' split) <;> exact ⟨rfl, rfl⟩
    · simp only [if_neg c1, if_neg c2]; (repeat' split) <;> exact ⟨rfl, rfl⟩
  by_cases h7 : p0 = 7
  · subst h7; rw [r_7, m_7]
    unfold s_X1_joinBits
    by_cases c1 : p1 < 0
    · simp only [if_pos c1]; (repeat' split) <;> exact ⟨rfl, rfl⟩
    · by_cases c2 : p3 < 0
      · simp only [if_neg c1, if_pos c2]; (repeat' split) <;> exact ⟨rfl, rfl⟩
      · simp only [if_neg c1, if_neg c2, join_eq (up_neg hx c1) (up_neg hy c2)]
        (repeat' split) <;> exact ⟨rfl, rfl⟩
  by_cases h8 : p0 = 8
  · subst h8; rw [r_8, m_8]
    unfold s_X1_joinBits
    by_cases c1 : p1 < 0
    · simp only [if_pos c1]; (repeat' split) <;> exact ⟨rfl, rfl⟩
    · by_cases c2 : p3 < 0
      · simp only [if_neg c1, if_pos c2]; (repeat' split) <;> exact ⟨rfl, rfl⟩
      · simp only [if_neg c1, if_neg c2, join_eq (up_neg hx c1) (up_neg hy c2)]
        (repeat' split) <;> exact ⟨rfl, rfl⟩
  by_cases h9 : p0 = 9
  · subst h9; rw [r_9, m_9]
    unfold s_X1_shiftLeft
    by_cases c3 : p3 = p4
    · by_cases c1 : p1 < 0
      · simp only [if_pos c1, if_pos c3]; (repeat' split) <;> exact ⟨rfl, rfl⟩
      · by_cases c5 : pl_shr (pl_shl p2 (p3.toInt32 &&& p5)) (p3.toInt32 &&& p5) = p2
        · have c6 := shl_back (up_neg hx c1) c5
          simp only [if_neg c1, if_pos c3, if_pos c5, if_neg c6]; (repeat' split) <;> exact ⟨rfl, rfl⟩
        · simp only [if_neg c1, if_pos c3, if_neg c5]; (repeat' split) <;> exact ⟨rfl, rfl⟩
    · simp only [if_neg c3]; (repeat' split) <;> exact ⟨rfl, rfl⟩
  by_cases h10 : p0 = 10
  · subst h10; rw [r_10, m_10]
    unfold s_X1_shiftRight s_X1_shiftRightByAny
    by_cases c3 : p3 = p4
    · by_cases c1 : p1 < 0
      · simp only [if_pos c1, if_pos c3]; (repeat' split) <;> exact ⟨rfl, rfl⟩
      · simp only [if_neg c1, if_pos c3]
        rw [shr_ushr c1, shr_ushr (up_neg hx c1)]
        (repeat' split) <;> exact ⟨rfl, rfl⟩
    · by_cases c1 : p1 < 0
      · simp only [if_pos c1, if_neg c3]; (repeat' split) <;> exact ⟨rfl, rfl⟩
      · simp only [if_neg c1, if_neg c3]; (repeat' split) <;> exact ⟨rfl, rfl⟩
  by_cases h11 : p0 = 11
  · subst h11; rw [r_11, m_11]
    unfold s_X1_shiftSignedRight s_X1_shiftRightByAny
    by_cases c3 : p3 = p4
    · simp only [if_pos c3]; (repeat' split) <;> exact ⟨rfl, rfl⟩
    · by_cases c1 : p1 < 0
      · simp only [if_pos c1, if_neg c3]; (repeat' split) <;> exact ⟨rfl, rfl⟩
      · simp only [if_neg c1, if_neg c3]; (repeat' split) <;> exact ⟨rfl, rfl⟩
  rw [r_12 h0 h1 h2 h3 h4 h5 h6 h7 h8 h9 h10 h11, m_12 h0 h1 h2 h3 h4 h5 h6 h7 h8 h9 h10 h11]
  exact ends_sub (by decide) hx

