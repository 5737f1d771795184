/-! what the reference makes of two ranges is what the class makes of them; and it is a range -/
theorem i_0_1 : ((0 : Int32) = 1) = False := eq_false (by decide)
theorem i_0_2 : ((0 : Int32) = 2) = False := eq_false (by decide)
theorem i_0_3 : ((0 : Int32) = 3) = False := eq_false (by decide)
theorem i_0_4 : ((0 : Int32) = 4) = False := eq_false (by decide)
theorem i_0_5 : ((0 : Int32) = 5) = False := eq_false (by decide)
theorem i_0_6 : ((0 : Int32) = 6) = False := eq_false (by decide)
theorem i_0_7 : ((0 : Int32) = 7) = False := eq_false (by decide)
theorem i_0_8 : ((0 : Int32) = 8) = False := eq_false (by decide)
theorem i_0_9 : ((0 : Int32) = 9) = False := eq_false (by decide)
theorem i_0_10 : ((0 : Int32) = 10) = False := eq_false (by decide)
theorem i_0_11 : ((0 : Int32) = 11) = False := eq_false (by decide)
theorem i_1_0 : ((1 : Int32) = 0) = False := eq_false (by decide)
theorem i_1_2 : ((1 : Int32) = 2) = False := eq_false (by decide)
theorem i_1_3 : ((1 : Int32) = 3) = False := eq_false (by decide)
theorem i_1_4 : ((1 : Int32) = 4) = False := eq_false (by decide)
theorem i_1_5 : ((1 : Int32) = 5) = False := eq_false (by decide)
theorem i_1_6 : ((1 : Int32) = 6) = False := eq_false (by decide)
theorem i_1_7 : ((1 : Int32) = 7) = False := eq_false (by decide)
theorem i_1_8 : ((1 : Int32) = 8) = False := eq_false (by decide)
theorem i_1_9 : ((1 : Int32) = 9) = False := eq_false (by decide)
theorem i_1_10 : ((1 : Int32) = 10) = False := eq_false (by decide)
theorem i_1_11 : ((1 : Int32) = 11) = False := eq_false (by decide)
theorem i_2_0 : ((2 : Int32) = 0) = False := eq_false (by decide)
theorem i_2_1 : ((2 : Int32) = 1) = False := eq_false (by decide)
theorem i_2_3 : ((2 : Int32) = 3) = False := eq_false (by decide)
theorem i_2_4 : ((2 : Int32) = 4) = False := eq_false (by decide)
theorem i_2_5 : ((2 : Int32) = 5) = False := eq_false (by decide)
theorem i_2_6 : ((2 : Int32) = 6) = False := eq_false (by decide)
theorem i_2_7 : ((2 : Int32) = 7) = False := eq_false (by decide)
theorem i_2_8 : ((2 : Int32) = 8) = False := eq_false (by decide)
theorem i_2_9 : ((2 : Int32) = 9) = False := eq_false (by decide)
theorem i_2_10 : ((2 : Int32) = 10) = False := eq_false (by decide)
theorem i_2_11 : ((2 : Int32) = 11) = False := eq_false (by decide)
theorem i_3_0 : ((3 : Int32) = 0) = False := eq_false (by decide)
theorem i_3_1 : ((3 : Int32) = 1) = False := eq_false (by decide)
theorem i_3_2 : ((3 : Int32) = 2) = False := eq_false (by decide)
theorem i_3_4 : ((3 : Int32) = 4) = False := eq_false (by decide)
theorem i_3_5 : ((3 : Int32) = 5) = False := eq_false (by decide)
theorem i_3_6 : ((3 : Int32) = 6) = False := eq_false (by decide)
theorem i_3_7 : ((3 : Int32) = 7) = False := eq_false (by decide)
theorem i_3_8 : ((3 : Int32) = 8) = False := eq_false (by decide)
theorem i_3_9 : ((3 : Int32) = 9) = False := eq_false (by decide)
theorem i_3_10 : ((3 : Int32) = 10) = False := eq_false (by decide)
theorem i_3_11 : ((3 : Int32) = 11) = False := eq_false (by decide)
theorem i_4_0 : ((4 : Int32) = 0) = False := eq_false (by decide)
theorem i_4_1 : ((4 : Int32) = 1) = False := eq_false (by decide)
theorem i_4_2 : ((4 : Int32) = 2) = False := eq_false (by decide)
theorem i_4_3 : ((4 : Int32) = 3) = False := eq_false (by decide)
theorem i_4_5 : ((4 : Int32) = 5) = False := eq_false (by decide)
theorem i_4_6 : ((4 : Int32) = 6) = False := eq_false (by decide)
theorem i_4_7 : ((4 : Int32) = 7) = False := eq_false (by decide)
theorem i_4_8 : ((4 : Int32) = 8) = False := eq_false (by decide)
theorem i_4_9 : ((4 : Int32) = 9) = False := eq_false (by decide)
theorem i_4_10 : ((4 : Int32) = 10) = False := eq_false (by decide)
theorem i_4_11 : ((4 : Int32) = 11) = False := eq_false (by decide)
theorem i_5_0 : ((5 : Int32) = 0) = False := eq_false (by decide)
theorem i_5_1 : ((5 : Int32) = 1) = False := eq_false (by decide)
theorem i_5_2 : ((5 : Int32) = 2) = False := eq_false (by decide)
theorem i_5_3 : ((5 : Int32) = 3) = False := eq_false (by decide)
theorem i_5_4 : ((5 : Int32) = 4) = False := eq_false (by decide)
theorem i_5_6 : ((5 : Int32) = 6) = False := eq_false (by decide)
theorem i_5_7 : ((5 : Int32) = 7) = False := eq_false (by decide)
theorem i_5_8 : ((5 : Int32) = 8) = False := eq_false (by decide)
theorem i_5_9 : ((5 : Int32) = 9) = False := eq_false (by decide)
theorem i_5_10 : ((5 : Int32) = 10) = False := eq_false (by decide)
theorem i_5_11 : ((5 : Int32) = 11) = False := eq_false (by decide)
theorem i_6_0 : ((6 : Int32) = 0) = False := eq_false (by decide)
theorem i_6_1 : ((6 : Int32) = 1) = False := eq_false (by decide)
theorem i_6_2 : ((6 : Int32) = 2) = False := eq_false (by decide)
theorem i_6_3 : ((6 : Int32) = 3) = False := eq_false (by decide)
theorem i_6_4 : ((6 : Int32) = 4) = False := eq_false (by decide)
theorem i_6_5 : ((6 : Int32) = 5) = False := eq_false (by decide)
theorem i_6_7 : ((6 : Int32) = 7) = False := eq_false (by decide)
theorem i_6_8 : ((6 : Int32) = 8) = False := eq_false (by decide)
theorem i_6_9 : ((6 : Int32) = 9) = False := eq_false (by decide)
theorem i_6_10 : ((6 : Int32) = 10) = False := eq_false (by decide)
theorem i_6_11 : ((6 : Int32) = 11) = False := eq_false (by decide)
theorem i_7_0 : ((7 : Int32) = 0) = False := eq_false (by decide)
theorem i_7_1 : ((7 : Int32) = 1) = False := eq_false (by decide)
theorem i_7_2 : ((7 : Int32) = 2) = False := eq_false (by decide)
theorem i_7_3 : ((7 : Int32) = 3) = False := eq_false (by decide)
theorem i_7_4 : ((7 : Int32) = 4) = False := eq_false (by decide)
theorem i_7_5 : ((7 : Int32) = 5) = False := eq_false (by decide)
theorem i_7_6 : ((7 : Int32) = 6) = False := eq_false (by decide)
theorem i_7_8 : ((7 : Int32) = 8) = False := eq_false (by decide)
theorem i_7_9 : ((7 : Int32) = 9) = False := eq_false (by decide)
theorem i_7_10 : ((7 : Int32) = 10) = False := eq_false (by decide)
theorem i_7_11 : ((7 : Int32) = 11) = False := eq_false (by decide)
theorem i_8_0 : ((8 : Int32) = 0) = False := eq_false (by decide)
theorem i_8_1 : ((8 : Int32) = 1) = False := eq_false (by decide)
theorem i_8_2 : ((8 : Int32) = 2) = False := eq_false (by decide)
theorem i_8_3 : ((8 : Int32) = 3) = False := eq_false (by decide)
theorem i_8_4 : ((8 : Int32) = 4) = False := eq_false (by decide)
theorem i_8_5 : ((8 : Int32) = 5) = False := eq_false (by decide)
theorem i_8_6 : ((8 : Int32) = 6) = False := eq_false (by decide)
theorem i_8_7 : ((8 : Int32) = 7) = False := eq_false (by decide)
theorem i_8_9 : ((8 : Int32) = 9) = False := eq_false (by decide)
theorem i_8_10 : ((8 : Int32) = 10) = False := eq_false (by decide)
theorem i_8_11 : ((8 : Int32) = 11) = False := eq_false (by decide)
theorem i_9_0 : ((9 : Int32) = 0) = False := eq_false (by decide)
theorem i_9_1 : ((9 : Int32) = 1) = False := eq_false (by decide)
theorem i_9_2 : ((9 : Int32) = 2) = False := eq_false (by decide)
theorem i_9_3 : ((9 : Int32) = 3) = False := eq_false (by decide)
theorem i_9_4 : ((9 : Int32) = 4) = False := eq_false (by decide)
theorem i_9_5 : ((9 : Int32) = 5) = False := eq_false (by decide)
theorem i_9_6 : ((9 : Int32) = 6) = False := eq_false (by decide)
theorem i_9_7 : ((9 : Int32) = 7) = False := eq_false (by decide)
theorem i_9_8 : ((9 : Int32) = 8) = False := eq_false (by decide)
theorem i_9_10 : ((9 : Int32) = 10) = False := eq_false (by decide)
theorem i_9_11 : ((9 : Int32) = 11) = False := eq_false (by decide)
theorem i_10_0 : ((10 : Int32) = 0) = False := eq_false (by decide)
theorem i_10_1 : ((10 : Int32) = 1) = False := eq_false (by decide)
theorem i_10_2 : ((10 : Int32) = 2) = False := eq_false (by decide)
theorem i_10_3 : ((10 : Int32) = 3) = False := eq_false (by decide)
theorem i_10_4 : ((10 : Int32) = 4) = False := eq_false (by decide)
theorem i_10_5 : ((10 : Int32) = 5) = False := eq_false (by decide)
theorem i_10_6 : ((10 : Int32) = 6) = False := eq_false (by decide)
theorem i_10_7 : ((10 : Int32) = 7) = False := eq_false (by decide)
theorem i_10_8 : ((10 : Int32) = 8) = False := eq_false (by decide)
theorem i_10_9 : ((10 : Int32) = 9) = False := eq_false (by decide)
theorem i_10_11 : ((10 : Int32) = 11) = False := eq_false (by decide)
theorem i_11_0 : ((11 : Int32) = 0) = False := eq_false (by decide)
theorem i_11_1 : ((11 : Int32) = 1) = False := eq_false (by decide)
theorem i_11_2 : ((11 : Int32) = 2) = False := eq_false (by decide)
theorem i_11_3 : ((11 : Int32) = 3) = False := eq_false (by decide)
theorem i_11_4 : ((11 : Int32) = 4) = False := eq_false (by decide)
theorem i_11_5 : ((11 : Int32) = 5) = False := eq_false (by decide)
theorem i_11_6 : ((11 : Int32) = 6) = False := eq_false (by decide)
theorem i_11_7 : ((11 : Int32) = 7) = False := eq_false (by decide)
theorem i_11_8 : ((11 : Int32) = 8) = False := eq_false (by decide)
theorem i_11_9 : ((11 : Int32) = 9) = False := eq_false (by decide)
theorem i_11_10 : ((11 : Int32) = 10) = False := eq_false (by decide)
set_option maxRecDepth 100000 in
theorem r_0 (ft : Int32) (p1 p2 p3 p4 : Int64) (p5 : Int32) : s_X3_range ft 0 p1 p2 p3 p4 p5 = (p3, p4, ft) := by
  unfold s_X3_range
  simp only [i_0_1, i_0_2, i_0_3, i_0_4, i_0_5, i_0_6, i_0_7, i_0_8, i_0_9, i_0_10, i_0_11, ↓reduceIte, ite_self]
set_option maxRecDepth 100000 in
theorem r_1 (ft : Int32) (p1 p2 p3 p4 : Int64) (p5 : Int32) : s_X3_range ft 1 p1 p2 p3 p4 p5 = ((s_X3_ends (1 : Int32) p1 p2 p3 p4).1, (s_X3_ends (1 : Int32) p1 p2 p3 p4).2.1, (s_X3_ends (1 : Int32) p1 p2 p3 p4).2.2) := by
  unfold s_X3_range
  simp only [i_1_0, i_1_2, i_1_3, i_1_4, i_1_5, i_1_6, i_1_7, i_1_8, i_1_9, i_1_10, i_1_11, ↓reduceIte, ite_self]
set_option maxRecDepth 100000 in
theorem r_2 (ft : Int32) (p1 p2 p3 p4 : Int64) (p5 : Int32) : s_X3_range ft 2 p1 p2 p3 p4 p5 = ((s_X3_ends (2 : Int32) p1 p2 p3 p4).1, (s_X3_ends (2 : Int32) p1 p2 p3 p4).2.1, (s_X3_ends (2 : Int32) p1 p2 p3 p4).2.2) := by
  unfold s_X3_range
  simp only [i_2_0, i_2_1, i_2_3, i_2_4, i_2_5, i_2_6, i_2_7, i_2_8, i_2_9, i_2_10, i_2_11, ↓reduceIte, ite_self]
set_option maxRecDepth 100000 in
theorem r_3 (ft : Int32) (p1 p2 p3 p4 : Int64) (p5 : Int32) : s_X3_range ft 3 p1 p2 p3 p4 p5 = ((s_X3_ends (3 : Int32) p1 p2 p3 p4).1, (s_X3_ends (3 : Int32) p1 p2 p3 p4).2.1, (s_X3_ends (3 : Int32) p1 p2 p3 p4).2.2) := by
  unfold s_X3_range
  simp only [i_3_0, i_3_1, i_3_2, i_3_4, i_3_5, i_3_6, i_3_7, i_3_8, i_3_9, i_3_10, i_3_11, ↓reduceIte, ite_self]
set_option maxRecDepth 100000 in
theorem r_4 (ft : Int32) (p1 p2 p3 p4 : Int64) (p5 : Int32) : s_X3_range ft 4 p1 p2 p3 p4 p5 = (if p1 < (0 : Int64) then ((-9223372036854775808 : Int64), (9223372036854775807 : Int64), ft) else (if p3 < (0 : Int64) then (if (0 : Int64) < p3 then ((p1 / p4), (p2 / p3), ft) else ((-9223372036854775808 : Int64), (9223372036854775807 : Int64), ft)) else (if (0 : Int64) < p3 then ((p1 / p4), (p2 / p3), ft) else ((0 : Int64), p2, ft)))) := by
  unfold s_X3_range
  simp only [i_4_0, i_4_1, i_4_2, i_4_3, i_4_5, i_4_6, i_4_7, i_4_8, i_4_9, i_4_10, i_4_11, ↓reduceIte, ite_self]
set_option maxRecDepth 100000 in
theorem r_5 (ft : Int32) (p1 p2 p3 p4 : Int64) (p5 : Int32) : s_X3_range ft 5 p1 p2 p3 p4 p5 = (if p1 < (0 : Int64) then ((-9223372036854775808 : Int64), (9223372036854775807 : Int64), ft) else (if p3 < (0 : Int64) then (if (0 : Int64) < p3 then ((0 : Int64), (pl_min p2 (p4 - (1 : Int64))), ft) else ((-9223372036854775808 : Int64), (9223372036854775807 : Int64), ft)) else (if (0 : Int64) < p3 then ((0 : Int64), (pl_min p2 (p4 - (1 : Int64))), ft) else ((0 : Int64), p2, ft)))) := by
  unfold s_X3_range
  simp only [i_5_0, i_5_1, i_5_2, i_5_3, i_5_4, i_5_6, i_5_7, i_5_8, i_5_9, i_5_10, i_5_11, ↓reduceIte, ite_self]
set_option maxRecDepth 100000 in
theorem r_6 (ft : Int32) (p1 p2 p3 p4 : Int64) (p5 : Int32) : s_X3_range ft 6 p1 p2 p3 p4 p5 = (if p1 < (0 : Int64) then (if p3 < (0 : Int64) then ((-9223372036854775808 : Int64), (9223372036854775807 : Int64), ft) else ((0 : Int64), p4, ft)) else (if p3 < (0 : Int64) then ((0 : Int64), p2, ft) else ((0 : Int64), (pl_min p2 p4), ft))) := by
  unfold s_X3_range
  simp only [i_6_0, i_6_1, i_6_2, i_6_3, i_6_4, i_6_5, i_6_7, i_6_8, i_6_9, i_6_10, i_6_11, ↓reduceIte, ite_self]
set_option maxRecDepth 100000 in
theorem r_7 (ft : Int32) (p1 p2 p3 p4 : Int64) (p5 : Int32) : s_X3_range ft 7 p1 p2 p3 p4 p5 = (if p1 < (0 : Int64) then ((-9223372036854775808 : Int64), (9223372036854775807 : Int64), ft) else (if p3 < (0 : Int64) then ((-9223372036854775808 : Int64), (9223372036854775807 : Int64), ft) else (if pl_max p2 p4 = (0 : Int64) then ((pl_max p1 p3), (0 : Int64), ft) else ((pl_max p1 p3), (pl_ushr (-1 : Int64) (s_J13_nlz (pl_max p2 p4))), ft)))) := by
  unfold s_X3_range
  simp only [i_7_0, i_7_1, i_7_2, i_7_3, i_7_4, i_7_5, i_7_6, i_7_8, i_7_9, i_7_10, i_7_11, ↓reduceIte, ite_self]
set_option maxRecDepth 100000 in
theorem r_8 (ft : Int32) (p1 p2 p3 p4 : Int64) (p5 : Int32) : s_X3_range ft 8 p1 p2 p3 p4 p5 = (if p1 < (0 : Int64) then ((-9223372036854775808 : Int64), (9223372036854775807 : Int64), ft) else (if p3 < (0 : Int64) then ((-9223372036854775808 : Int64), (9223372036854775807 : Int64), ft) else (if pl_max p2 p4 = (0 : Int64) then ((0 : Int64), (0 : Int64), ft) else ((0 : Int64), (pl_ushr (-1 : Int64) (s_J13_nlz (pl_max p2 p4))), ft)))) := by
  unfold s_X3_range
  simp only [i_8_0, i_8_1, i_8_2, i_8_3, i_8_4, i_8_5, i_8_6, i_8_7, i_8_9, i_8_10, i_8_11, ↓reduceIte, ite_self]
set_option maxRecDepth 100000 in
theorem r_9 (ft : Int32) (p1 p2 p3 p4 : Int64) (p5 : Int32) : s_X3_range ft 9 p1 p2 p3 p4 p5 = (if p1 < (0 : Int64) then ((-9223372036854775808 : Int64), (9223372036854775807 : Int64), ft) else (if p3 = p4 then (if pl_shl p2 (p3.toInt32 &&& p5) < (0 : Int64) then ((-9223372036854775808 : Int64), (9223372036854775807 : Int64), ft) else (if pl_shr (pl_shl p2 (p3.toInt32 &&& p5)) (p3.toInt32 &&& p5) = p2 then ((pl_shl p1 (p3.toInt32 &&& p5)), (pl_shl p2 (p3.toInt32 &&& p5)), ft) else ((-9223372036854775808 : Int64), (9223372036854775807 : Int64), ft))) else ((-9223372036854775808 : Int64), (9223372036854775807 : Int64), ft))) := by
  unfold s_X3_range
  simp only [i_9_0, i_9_1, i_9_2, i_9_3, i_9_4, i_9_5, i_9_6, i_9_7, i_9_8, i_9_10, i_9_11, ↓reduceIte, ite_self]
set_option maxRecDepth 100000 in
theorem r_10 (ft : Int32) (p1 p2 p3 p4 : Int64) (p5 : Int32) : s_X3_range ft 10 p1 p2 p3 p4 p5 = (if p1 < (0 : Int64) then (if p3 = p4 then (if p3.toInt32 &&& p5 = (0 : Int32) then (p1, p2, ft) else ((0 : Int64), (pl_ushr (-1 : Int64) (p3.toInt32 &&& p5)), ft)) else ((-9223372036854775808 : Int64), (9223372036854775807 : Int64), ft)) else (if p3 = p4 then ((pl_shr p1 (p3.toInt32 &&& p5)), (pl_shr p2 (p3.toInt32 &&& p5)), ft) else ((0 : Int64), p2, ft))) := by
  unfold s_X3_range
  simp only [i_10_0, i_10_1, i_10_2, i_10_3, i_10_4, i_10_5, i_10_6, i_10_7, i_10_8, i_10_9, i_10_11, ↓reduceIte, ite_self]
set_option maxRecDepth 100000 in
theorem r_11 (ft : Int32) (p1 p2 p3 p4 : Int64) (p5 : Int32) : s_X3_range ft 11 p1 p2 p3 p4 p5 = (if p1 < (0 : Int64) then (if p3 = p4 then ((pl_shr p1 (p3.toInt32 &&& p5)), (pl_shr p2 (p3.toInt32 &&& p5)), ft) else ((-9223372036854775808 : Int64), (9223372036854775807 : Int64), ft)) else (if p3 = p4 then ((pl_shr p1 (p3.toInt32 &&& p5)), (pl_shr p2 (p3.toInt32 &&& p5)), ft) else ((0 : Int64), p2, ft))) := by
  unfold s_X3_range
  simp only [i_11_0, i_11_1, i_11_2, i_11_3, i_11_4, i_11_5, i_11_6, i_11_7, i_11_8, i_11_9, i_11_10, ↓reduceIte, ite_self]
set_option maxRecDepth 100000 in
theorem r_12 {p0 : Int32} (h0 : ¬ p0 = 0) (h1 : ¬ p0 = 1) (h2 : ¬ p0 = 2) (h3 : ¬ p0 = 3) (h4 : ¬ p0 = 4) (h5 : ¬ p0 = 5) (h6 : ¬ p0 = 6) (h7 : ¬ p0 = 7) (h8 : ¬ p0 = 8) (h9 : ¬ p0 = 9) (h10 : ¬ p0 = 10) (h11 : ¬ p0 = 11) (ft : Int32) (p1 p2 p3 p4 : Int64) (p5 : Int32) : s_X3_range ft p0 p1 p2 p3 p4 p5 = ((s_X3_ends (2 : Int32) (0 : Int64) (0 : Int64) p1 p2).1, (s_X3_ends (2 : Int32) (0 : Int64) (0 : Int64) p1 p2).2.1, (s_X3_ends (2 : Int32) (0 : Int64) (0 : Int64) p1 p2).2.2) := by
  unfold s_X3_range
  simp only [if_neg h0, if_neg h1, if_neg h2, if_neg h3, if_neg h4, if_neg h5, if_neg h6, if_neg h7, if_neg h8, if_neg h9, if_neg h10, if_neg h11, ite_self]
theorem m_0 (p1 p2 p3 p4 : Int64) (p5 : Int32) : s_X1_makeWide p1 p2 p3 p4 0 p5 = (p3, p4) := by
  unfold s_X1_makeWide
  simp only [i_0_1, i_0_2, i_0_3, i_0_4, i_0_5, i_0_6, i_0_7, i_0_8, i_0_9, i_0_10, i_0_11, ↓reduceIte]
theorem m_1 (p1 p2 p3 p4 : Int64) (p5 : Int32) : s_X1_makeWide p1 p2 p3 p4 1 p5 = ((s_X1_add p1 p2 p3 p4).1, (s_X1_add p1 p2 p3 p4).2) := by
  unfold s_X1_makeWide
  simp only [i_1_0, i_1_2, i_1_3, i_1_4, i_1_5, i_1_6, i_1_7, i_1_8, i_1_9, i_1_10, i_1_11, ↓reduceIte]
theorem m_2 (p1 p2 p3 p4 : Int64) (p5 : Int32) : s_X1_makeWide p1 p2 p3 p4 2 p5 = ((s_X1_subtract p1 p2 p3 p4).1, (s_X1_subtract p1 p2 p3 p4).2) := by
  unfold s_X1_makeWide
  simp only [i_2_0, i_2_1, i_2_3, i_2_4, i_2_5, i_2_6, i_2_7, i_2_8, i_2_9, i_2_10, i_2_11, ↓reduceIte]
theorem m_3 (p1 p2 p3 p4 : Int64) (p5 : Int32) : s_X1_makeWide p1 p2 p3 p4 3 p5 = ((s_X1_multiply p1 p2 p3 p4).1, (s_X1_multiply p1 p2 p3 p4).2) := by
  unfold s_X1_makeWide
  simp only [i_3_0, i_3_1, i_3_2, i_3_4, i_3_5, i_3_6, i_3_7, i_3_8, i_3_9, i_3_10, i_3_11, ↓reduceIte]
theorem m_4 (p1 p2 p3 p4 : Int64) (p5 : Int32) : s_X1_makeWide p1 p2 p3 p4 4 p5 = ((s_X1_divide p1 p2 p3 p4).1, (s_X1_divide p1 p2 p3 p4).2) := by
  unfold s_X1_makeWide
  simp only [i_4_0, i_4_1, i_4_2, i_4_3, i_4_5, i_4_6, i_4_7, i_4_8, i_4_9, i_4_10, i_4_11, ↓reduceIte]
theorem m_5 (p1 p2 p3 p4 : Int64) (p5 : Int32) : s_X1_makeWide p1 p2 p3 p4 5 p5 = ((s_X1_rest p1 p2 p3 p4).1, (s_X1_rest p1 p2 p3 p4).2) := by
  unfold s_X1_makeWide
  simp only [i_5_0, i_5_1, i_5_2, i_5_3, i_5_4, i_5_6, i_5_7, i_5_8, i_5_9, i_5_10, i_5_11, ↓reduceIte]
theorem m_6 (p1 p2 p3 p4 : Int64) (p5 : Int32) : s_X1_makeWide p1 p2 p3 p4 6 p5 = ((s_X1_and p1 p2 p3 p4).1, (s_X1_and p1 p2 p3 p4).2) := by
  unfold s_X1_makeWide
  simp only [i_6_0, i_6_1, i_6_2, i_6_3, i_6_4, i_6_5, i_6_7, i_6_8, i_6_9, i_6_10, i_6_11, ↓reduceIte]
theorem m_7 (p1 p2 p3 p4 : Int64) (p5 : Int32) : s_X1_makeWide p1 p2 p3 p4 7 p5 = ((s_X1_joinBits p1 p2 p3 p4 (pl_max p1 p3)).1, (s_X1_joinBits p1 p2 p3 p4 (pl_max p1 p3)).2) := by
  unfold s_X1_makeWide
  simp only [i_7_0, i_7_1, i_7_2, i_7_3, i_7_4, i_7_5, i_7_6, i_7_8, i_7_9, i_7_10, i_7_11, ↓reduceIte]
theorem m_8 (p1 p2 p3 p4 : Int64) (p5 : Int32) : s_X1_makeWide p1 p2 p3 p4 8 p5 = ((s_X1_joinBits p1 p2 p3 p4 (0 : Int64)).1, (s_X1_joinBits p1 p2 p3 p4 (0 : Int64)).2) := by
  unfold s_X1_makeWide
  simp only [i_8_0, i_8_1, i_8_2, i_8_3, i_8_4, i_8_5, i_8_6, i_8_7, i_8_9, i_8_10, i_8_11, ↓reduceIte]
theorem m_9 (p1 p2 p3 p4 : Int64) (p5 : Int32) : s_X1_makeWide p1 p2 p3 p4 9 p5 = ((s_X1_shiftLeft p1 p2 p3 p4 (p3.toInt32 &&& p5)).1, (s_X1_shiftLeft p1 p2 p3 p4 (p3.toInt32 &&& p5)).2) := by
  unfold s_X1_makeWide
  simp only [i_9_0, i_9_1, i_9_2, i_9_3, i_9_4, i_9_5, i_9_6, i_9_7, i_9_8, i_9_10, i_9_11, ↓reduceIte]
theorem m_10 (p1 p2 p3 p4 : Int64) (p5 : Int32) : s_X1_makeWide p1 p2 p3 p4 10 p5 = ((s_X1_shiftRight p1 p2 p3 p4 (p3.toInt32 &&& p5)).1, (s_X1_shiftRight p1 p2 p3 p4 (p3.toInt32 &&& p5)).2) := by
  unfold s_X1_makeWide
  simp only [i_10_0, i_10_1, i_10_2, i_10_3, i_10_4, i_10_5, i_10_6, i_10_7, i_10_8, i_10_9, i_10_11, ↓reduceIte]
theorem m_11 (p1 p2 p3 p4 : Int64) (p5 : Int32) : s_X1_makeWide p1 p2 p3 p4 11 p5 = ((s_X1_shiftSignedRight p1 p2 p3 p4 (p3.toInt32 &&& p5)).1, (s_X1_shiftSignedRight p1 p2 p3 p4 (p3.toInt32 &&& p5)).2) := by
  unfold s_X1_makeWide
  simp only [i_11_0, i_11_1, i_11_2, i_11_3, i_11_4, i_11_5, i_11_6, i_11_7, i_11_8, i_11_9, i_11_10, ↓reduceIte]
theorem m_12 {p0 : Int32} (h0 : ¬ p0 = 0) (h1 : ¬ p0 = 1) (h2 : ¬ p0 = 2) (h3 : ¬ p0 = 3) (h4 : ¬ p0 = 4) (h5 : ¬ p0 = 5) (h6 : ¬ p0 = 6) (h7 : ¬ p0 = 7) (h8 : ¬ p0 = 8) (h9 : ¬ p0 = 9) (h10 : ¬ p0 = 10) (h11 : ¬ p0 = 11) (p1 p2 p3 p4 : Int64) (p5 : Int32) : s_X1_makeWide p1 p2 p3 p4 p0 p5 = ((s_X1_subtract (0 : Int64) (0 : Int64) p1 p2).1, (s_X1_subtract (0 : Int64) (0 : Int64) p1 p2).2) := by
  unfold s_X1_makeWide
  simp only [if_neg h0, if_neg h1, if_neg h2, if_neg h3, if_neg h4, if_neg h5, if_neg h6, if_neg h7, if_neg h8, if_neg h9, if_neg h10, if_neg h11]

theorem up_neg {a b : Int64} (h : ¬ b < a) (ha : ¬ a < 0) : ¬ b < 0 := by
  rw [lt_i] at *
  rw [e0_64] at *
  omega
theorem up_pos {a b : Int64} (h : ¬ b < a) (ha : 0 < a) : 0 < b := by
  rw [lt_i] at *
  rw [e0_64] at *
  omega
theorem pos_nn {a : Int64} (ha : 0 < a) : ¬ a < 0 := by
  rw [lt_i] at *
  rw [e0_64] at *
  omega
theorem div_pos9 {x y : Int64} (hx : ¬ x < 0) (hy : 0 < y) : s_X0_divide x y = x / y := by
  unfold s_X0_divide
  rw [if_neg (nz_pos hy), if_neg (pos_nn hy), if_neg hx]
theorem shr_ushr {x : Int64} (hx : ¬ x < 0) (c : Int32) : pl_shr x c = pl_ushr x c := by
  obtain ⟨h1, h2⟩ := uN_pos hx
  apply uN_inj
  rw [uN_pushr]
  apply uN_of
  rw [toInt_pshr, h1]
  exact (Int.natCast_ediv _ _).symm
theorem shl_back {x : Int64} {c : Int32} (hx : ¬ x < 0) (h : pl_shr (pl_shl x c) c = x) : ¬ pl_shl x c < 0 := by
  have h1 := congrArg Int64.toInt h
  rw [toInt_pshr] at h1
  obtain ⟨a1, a2⟩ := uN_pos hx
  rw [lt0_i]
  intro z
  have hp : (0 : Int) < ((2 ^ ct c : Nat) : Int) := by
    have := Nat.two_pow_pos (ct c)
    omega
  have := Int.ediv_neg_of_neg_of_pos z hp
  omega
theorem range_eq (ft p0 : Int32) {p1 p2 p3 p4 : Int64} (p5 : Int32) (hx : ¬ p2 < p1) (hy : ¬ p4 < p3) : (s_X3_range ft p0 p1 p2 p3 p4 p5).1 = (s_X1_makeWide p1 p2 p3 p4 p0 p5).1 ∧ (s_X3_range ft p0 p1 p2 p3 p4 p5).2.1 = (s_X1_makeWide p1 p2 p3 p4 p0 p5).2 := by
  by_cases h0 : p0 = 0
  · subst h0; rw [r_0, m_0]; exact ⟨rfl, rfl⟩
  by_cases h1 : p0 = 1
  · subst h1; rw [r_1, m_1]; exact ends_add hx hy
  by_cases h2 : p0 = 2
  · subst h2; rw [r_2, m_2]; exact ends_sub hx hy
  by_cases h3 : p0 = 3
  · subst h3; rw [r_3, m_3]; exact ends_mul p1 p2 p3 p4
  by_cases h4 : p0 = 4
  · subst h4; rw [r_4, m_4]
    unfold s_X1_divide
    by_cases c1 : p1 < 0
    · simp only [if_pos c1]; (repeat' split) <;> first | exact ⟨rfl, rfl⟩ | exact ⟨trivial, trivial⟩
    · by_cases c4 : 0 < p3
      · have c2 := pos_nn c4
        simp only [if_neg c1, if_neg c2, if_pos c4]
        rw [div_pos9 c1 (up_pos hy c4), div_pos9 (up_neg hx c1) c4]
        (repeat' split) <;> first | exact ⟨rfl, rfl⟩ | exact ⟨trivial, trivial⟩
      · simp only [if_neg c1, if_neg c4]; (repeat' split) <;> first | exact ⟨rfl, rfl⟩ | exact ⟨trivial, trivial⟩
  by_cases h5 : p0 = 5
  · subst h5; rw [r_5, m_5]
    unfold s_X1_rest
    by_cases c1 : p1 < 0
    · simp only [if_pos c1]; (repeat' split) <;> first | exact ⟨rfl, rfl⟩ | exact ⟨trivial, trivial⟩
    · by_cases c4 : 0 < p3
      · have c2 := pos_nn c4
        simp only [if_neg c1, if_neg c2, if_pos c4]
        (repeat' split) <;> first | exact ⟨rfl, rfl⟩ | exact ⟨trivial, trivial⟩
      · simp only [if_neg c1, if_neg c4]; (repeat' split) <;> first | exact ⟨rfl, rfl⟩ | exact ⟨trivial, trivial⟩
  by_cases h6 : p0 = 6
  · subst h6; rw [r_6, m_6]
    unfold s_X1_and
    by_cases c1 : p1 < 0 <;> by_cases c2 : p3 < 0
    · simp only [if_pos c1, if_pos c2]; (repeat' split) <;> first | exact ⟨rfl, rfl⟩ | exact ⟨trivial, trivial⟩
    · simp only [if_pos c1, if_neg c2]; (repeat' split) <;> first | exact ⟨rfl, rfl⟩ | exact ⟨trivial, trivial⟩
    · simp only [if_neg c1, if_pos c2]; (repeat' split) <;> first | exact ⟨rfl, rfl⟩ | exact ⟨trivial, trivial⟩
    · simp only [if_neg c1, if_neg c2]; (repeat' split) <;> first | exact ⟨rfl, rfl⟩ | exact ⟨trivial, trivial⟩
  by_cases h7 : p0 = 7
  · subst h7; rw [r_7, m_7]
    unfold s_X1_joinBits
    by_cases c1 : p1 < 0
    · simp only [if_pos c1]; (repeat' split) <;> first | exact ⟨rfl, rfl⟩ | exact ⟨trivial, trivial⟩
    · by_cases c2 : p3 < 0
      · simp only [if_neg c1, if_pos c2]; (repeat' split) <;> first | exact ⟨rfl, rfl⟩ | exact ⟨trivial, trivial⟩
      · simp only [if_neg c1, if_neg c2, join_eq (up_neg hx c1) (up_neg hy c2)]
        (repeat' split) <;> first | exact ⟨rfl, rfl⟩ | exact ⟨trivial, trivial⟩
  by_cases h8 : p0 = 8
  · subst h8; rw [r_8, m_8]
    unfold s_X1_joinBits
    by_cases c1 : p1 < 0
    · simp only [if_pos c1]; (repeat' split) <;> first | exact ⟨rfl, rfl⟩ | exact ⟨trivial, trivial⟩
    · by_cases c2 : p3 < 0
      · simp only [if_neg c1, if_pos c2]; (repeat' split) <;> first | exact ⟨rfl, rfl⟩ | exact ⟨trivial, trivial⟩
      · simp only [if_neg c1, if_neg c2, join_eq (up_neg hx c1) (up_neg hy c2)]
        (repeat' split) <;> first | exact ⟨rfl, rfl⟩ | exact ⟨trivial, trivial⟩
  by_cases h9 : p0 = 9
  · subst h9; rw [r_9, m_9]
    unfold s_X1_shiftLeft
    by_cases c3 : p3 = p4
    · by_cases c1 : p1 < 0
      · simp only [if_pos c1, if_pos c3]; (repeat' split) <;> first | exact ⟨rfl, rfl⟩ | exact ⟨trivial, trivial⟩
      · by_cases c5 : pl_shr (pl_shl p2 (p3.toInt32 &&& p5)) (p3.toInt32 &&& p5) = p2
        · have c6 := shl_back (up_neg hx c1) c5
          simp only [if_neg c1, if_pos c3, if_pos c5, if_neg c6]; (repeat' split) <;> first | exact ⟨rfl, rfl⟩ | exact ⟨trivial, trivial⟩
        · simp only [if_neg c1, if_pos c3, if_neg c5]; (repeat' split) <;> first | exact ⟨rfl, rfl⟩ | exact ⟨trivial, trivial⟩
    · simp only [if_neg c3]; (repeat' split) <;> first | exact ⟨rfl, rfl⟩ | exact ⟨trivial, trivial⟩
  by_cases h10 : p0 = 10
  · subst h10; rw [r_10, m_10]
    unfold s_X1_shiftRight s_X1_shiftRightByAny
    by_cases c3 : p3 = p4
    · by_cases c1 : p1 < 0
      · simp only [if_pos c1, if_pos c3]; (repeat' split) <;> first | exact ⟨rfl, rfl⟩ | exact ⟨trivial, trivial⟩
      · simp only [if_neg c1, if_pos c3]
        rw [shr_ushr c1, shr_ushr (up_neg hx c1)]
        (repeat' split) <;> first | exact ⟨rfl, rfl⟩ | exact ⟨trivial, trivial⟩
    · by_cases c1 : p1 < 0
      · simp only [if_pos c1, if_neg c3]; (repeat' split) <;> first | exact ⟨rfl, rfl⟩ | exact ⟨trivial, trivial⟩
      · simp only [if_neg c1, if_neg c3]; (repeat' split) <;> first | exact ⟨rfl, rfl⟩ | exact ⟨trivial, trivial⟩
  by_cases h11 : p0 = 11
  · subst h11; rw [r_11, m_11]
    unfold s_X1_shiftSignedRight s_X1_shiftRightByAny
    by_cases c3 : p3 = p4
    · simp only [if_pos c3]; (repeat' split) <;> first | exact ⟨rfl, rfl⟩ | exact ⟨trivial, trivial⟩
    · by_cases c1 : p1 < 0
      · simp only [if_pos c1, if_neg c3]; (repeat' split) <;> first | exact ⟨rfl, rfl⟩ | exact ⟨trivial, trivial⟩
      · simp only [if_neg c1, if_neg c3]; (repeat' split) <;> first | exact ⟨rfl, rfl⟩ | exact ⟨trivial, trivial⟩
  rw [r_12 h0 h1 h2 h3 h4 h5 h6 h7 h8 h9 h10 h11, m_12 h0 h1 h2 h3 h4 h5 h6 h7 h8 h9 h10 h11]
  exact ends_sub (by decide) hx

