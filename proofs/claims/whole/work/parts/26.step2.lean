/-! a step of the class is a step of the reference: work, exact, holds, low, high -/
theorem n01 {x : Int32} (h : x = 0) : ¬ x = 1 := by rw [h]; decide
theorem n10 {x : Int32} (h : x = 1) : ¬ x = 0 := by rw [h]; decide
theorem word_full : s_X3_word 0 4294967295 = (0, 4294967295) := by decide
/-- the two ends that 'work' keeps -/
def mEnds (ft : Int32) (op : Int32) (a b c d : Int64) (nw : Int32) : Int64 × Int64 :=
  (if ((op = 0 ∨ a = b) ∧ (op = 12 ∨ c = d)) then (s_X3_reckon op a c nw, s_X3_reckon op a c nw)
       else if nw = 0 then ((s_X3_range ft op a b c d 63).1, (s_X3_range ft op a b c d 63).2.1)
       else if op = 11 ∨ op = 12 then (0, 4294967295)
       else s_X3_word (s_X3_range ft op (s_X3_word a b).1 (s_X3_word a b).2 (s_X3_word c d).1 (s_X3_word c d).2 31).1 (s_X3_range ft op (s_X3_word a b).1 (s_X3_word a b).2 (s_X3_word c d).1 (s_X3_word c d).2 31).2.1)
set_option maxRecDepth 4000 in
theorem work_ref (fa fb : Int64) (ft : Int32) (lo hi : Nat → Int64) (p0 p1 p2 p3 p4 : Int32) (h0 : s_X3_isRange p0 = 1) (h2 : s_X3_isRange p2 = 1) (h3 : s_X3_isRange p3 = 1) (h1 : ¬ p1 < 0) (h1' : ¬ 12 < p1) :
    ∃ t', s_X3_work fa fb ft lo hi p0 p1 p2 p3 p4 = (0, (mEnds ft p1 (lo p2.toNatClampNeg) (hi p2.toNatClampNeg) (lo p3.toNatClampNeg) (hi p3.toNatClampNeg) p4).1, (mEnds ft p1 (lo p2.toNatClampNeg) (hi p2.toNatClampNeg) (lo p3.toNatClampNeg) (hi p3.toNatClampNeg) p4).2, t', vp_updL lo p0.toNatClampNeg (mEnds ft p1 (lo p2.toNatClampNeg) (hi p2.toNatClampNeg) (lo p3.toNatClampNeg) (hi p3.toNatClampNeg) p4).1, vp_updL hi p0.toNatClampNeg (mEnds ft p1 (lo p2.toNatClampNeg) (hi p2.toNatClampNeg) (lo p3.toNatClampNeg) (hi p3.toNatClampNeg) p4).2) := by
  unfold s_X3_work mEnds
  simp only [h0, h2, h3, if_neg h1, if_neg h1', i_1_0, ↓reduceIte, word_full]
  by_cases k1 : lo p2.toNatClampNeg = hi p2.toNatClampNeg
  · by_cases k3 : lo p3.toNatClampNeg = hi p3.toNatClampNeg
    · rw [if_pos k1, if_pos k3, if_pos ⟨Or.inr k1, Or.inr k3⟩]; exact ⟨_, rfl⟩
    · by_cases k12 : p1 = 12
      · rw [if_pos k1, if_neg k3, if_pos k12, if_pos ⟨Or.inr k1, Or.inl k12⟩]; exact ⟨_, rfl⟩
      · have kc : ¬ ((p1 = 0 ∨ lo p2.toNatClampNeg = hi p2.toNatClampNeg) ∧ (p1 = 12 ∨ lo p3.toNatClampNeg = hi p3.toNatClampNeg)) := fun z => z.2.elim k12 k3
        by_cases k4 : p4 = 0
        · rw [if_pos k1, if_neg k3, if_neg k12, if_pos k4, if_neg kc, if_pos k4]; exact ⟨_, rfl⟩
        · by_cases k11 : p1 = 11
          · rw [if_pos k1, if_neg k3, if_neg k12, if_neg k4, if_pos k11, if_neg kc, if_neg k4, if_pos (Or.inl k11)]; exact ⟨_, rfl⟩
          · rw [if_pos k1, if_neg k3, if_neg k12, if_neg k4, if_neg k11, if_neg kc, if_neg k4, if_neg (fun z => z.elim k11 k12)]; exact ⟨_, rfl⟩
  · by_cases k0 : p1 = 0
    · have n12 : ¬ p1 = 12 := by rw [k0]; decide
      have n11 : ¬ p1 = 11 := by rw [k0]; decide
      by_cases k3 : lo p3.toNatClampNeg = hi p3.toNatClampNeg
      · rw [if_neg k1, if_pos k0, if_pos k3, if_pos ⟨Or.inl k0, Or.inr k3⟩]; exact ⟨_, rfl⟩
      · have kc : ¬ ((p1 = 0 ∨ lo p2.toNatClampNeg = hi p2.toNatClampNeg) ∧ (p1 = 12 ∨ lo p3.toNatClampNeg = hi p3.toNatClampNeg)) := fun z => z.2.elim n12 k3
        by_cases k4 : p4 = 0
        · rw [if_neg k1, if_pos k0, if_neg k3, if_neg n12, if_pos k4, if_neg kc, if_pos k4]; exact ⟨_, rfl⟩
        · rw [if_neg k1, if_pos k0, if_neg k3, if_neg n12, if_neg k4, if_neg n11, if_neg kc, if_neg k4, if_neg (fun z => z.elim n11 n12)]; exact ⟨_, rfl⟩
    · have kc : ¬ ((p1 = 0 ∨ lo p2.toNatClampNeg = hi p2.toNatClampNeg) ∧ (p1 = 12 ∨ lo p3.toNatClampNeg = hi p3.toNatClampNeg)) := fun z => z.1.elim k0 k1
      by_cases k4 : p4 = 0
      · rw [if_neg k1, if_neg k0, if_pos k4, if_neg kc, if_pos k4]; exact ⟨_, rfl⟩
      · by_cases k11 : p1 = 11
        · rw [if_neg k1, if_neg k0, if_neg k4, if_pos k11, if_neg kc, if_neg k4, if_pos (Or.inl k11)]; exact ⟨_, rfl⟩
        · by_cases k12 : p1 = 12
          · rw [if_neg k1, if_neg k0, if_neg k4, if_neg k11, if_pos k12, if_neg kc, if_neg k4, if_pos (Or.inr k12)]; exact ⟨_, rfl⟩
          · rw [if_neg k1, if_neg k0, if_neg k4, if_neg k11, if_neg k12, if_neg kc, if_neg k4, if_neg (fun z => z.elim k11 k12)]; exact ⟨_, rfl⟩
theorem work_bad (fa fb : Int64) (ft : Int32) (lo hi : Nat → Int64) (p0 p1 p2 p3 p4 : Int32) (h : s_X3_isRange p0 = 0 ∨ s_X3_isRange p2 = 0 ∨ s_X3_isRange p3 = 0 ∨ p1 < 0 ∨ 12 < p1) : s_X3_work fa fb ft lo hi p0 p1 p2 p3 p4 = (1, fa, fb, ft, lo, hi) := by
  unfold s_X3_work
  by_cases k0 : s_X3_isRange p0 = 0
  · rw [if_pos k0]
  rw [if_neg k0]
  by_cases k2 : s_X3_isRange p2 = 0
  · rw [if_pos k2]
  rw [if_neg k2]
  by_cases k3 : s_X3_isRange p3 = 0
  · rw [if_pos k3]
  rw [if_neg k3]
  by_cases k1 : p1 < 0
  · rw [if_pos k1]
  rw [if_neg k1]
  by_cases k4 : 12 < p1
  · rw [if_pos k4]
  · rcases h with h | h | h | h | h <;> contradiction
theorem work_eq (fa fb : Int64) (ft : Int32) (lo hi : Nat → Int64) (f0 f1 f2 f3 f4 f5 : Int64) (p0 p1 p2 p3 p4 : Int32) (h : okR lo hi) :
    ((s_X3_work fa fb ft lo hi p0 p1 p2 p3 p4).1 = (s_X2_work lo hi f0 f1 f2 f3 f4 f5 p0 p1 p2 p3 p4).1 ∧ (s_X3_work fa fb ft lo hi p0 p1 p2 p3 p4).2.2.2.2.1 = (s_X2_work lo hi f0 f1 f2 f3 f4 f5 p0 p1 p2 p3 p4).2.1 ∧ (s_X3_work fa fb ft lo hi p0 p1 p2 p3 p4).2.2.2.2.2 = (s_X2_work lo hi f0 f1 f2 f3 f4 f5 p0 p1 p2 p3 p4).2.2.1) ∧ okR (s_X2_work lo hi f0 f1 f2 f3 f4 f5 p0 p1 p2 p3 p4).2.1 (s_X2_work lo hi f0 f1 f2 f3 f4 f5 p0 p1 p2 p3 p4).2.2.1 := by
  rcases need_r p0 with ⟨a0, b0⟩ | ⟨a0, b0, c0⟩
  · rw [work_bad fa fb ft lo hi p0 p1 p2 p3 p4 (Or.inl b0)]; unfold s_X2_work; rw [if_pos a0]; exact ⟨⟨rfl, rfl, rfl⟩, h⟩
  rcases need_i p1 with ⟨a1, b1⟩ | ⟨a1, b1, c1⟩
  · rw [work_bad fa fb ft lo hi p0 p1 p2 p3 p4 (Or.inr (Or.inr (Or.inr b1)))]; unfold s_X2_work; rw [if_neg (n01 a0), if_pos a1]; exact ⟨⟨rfl, rfl, rfl⟩, h⟩
  rcases need_r p2 with ⟨a2, b2⟩ | ⟨a2, b2, c2⟩
  · rw [work_bad fa fb ft lo hi p0 p1 p2 p3 p4 (Or.inr (Or.inl b2))]; unfold s_X2_work; rw [if_neg (n01 a0), if_neg (n01 a1), if_pos a2]; exact ⟨⟨rfl, rfl, rfl⟩, h⟩
  rcases need_r p3 with ⟨a3, b3⟩ | ⟨a3, b3, c3⟩
  · rw [work_bad fa fb ft lo hi p0 p1 p2 p3 p4 (Or.inr (Or.inr (Or.inl b3)))]; unfold s_X2_work; rw [if_neg (n01 a0), if_neg (n01 a1), if_neg (n01 a2), if_pos a3]; exact ⟨⟨rfl, rfl, rfl⟩, h⟩
  obtain ⟨t', e⟩ := work_ref fa fb ft lo hi p0 p1 p2 p3 p4 b0 b2 b3 b1 c1
  obtain ⟨m1, m2⟩ := made_eq ft p1 p4 (h _ c2) (h _ c3)
  have m1 : _ = mEnds ft p1 (lo p2.toNatClampNeg) (hi p2.toNatClampNeg) (lo p3.toNatClampNeg) (hi p3.toNatClampNeg) p4 := m1
  rw [e, ← m1]
  unfold s_X2_work
  rw [if_neg (n01 a0), if_neg (n01 a1), if_neg (n01 a2), if_neg (n01 a3)]
  exact ⟨⟨rfl, rfl, rfl⟩, h.put _ m2⟩
theorem exact_eq (p0 : Int32) (p1 p2 : Int64) (p3 : Int32) : s_X3_exact p0 p1 p2 p3 = ((s_X2_exact p0 p1 p2 p3).2, (s_X2_exact p0 p1 p2 p3).1) := by
  unfold s_X2_exact s_X3_exact
  rcases need_i p0 with ⟨a, b⟩ | ⟨a, b, c⟩
  · rw [if_pos a]
    rcases b with b | b
    · rw [if_pos b]; rfl
    · by_cases k : p0 < 0
      · rw [if_pos k]; rfl
      · rw [if_neg k, if_pos b]; rfl
  · rw [if_neg (n01 a), if_neg b, if_neg c, make_eq]
theorem holds_eq (p0 : Int32) (p1 p2 : Int64) : s_X3_holds_ p0 p1 p2 = ((s_X2_holds p0 p1 p2).2, (s_X2_holds p0 p1 p2).1) := by
  unfold s_X2_holds s_X3_holds_
  rcases need_c p0 with ⟨a, b⟩ | ⟨a, b, c, -, -⟩
  · rw [if_pos a]
    rcases b with b | b
    · rw [if_pos b]
    · by_cases k : p0 < 0
      · rw [if_pos k]
      · rw [if_neg k, if_pos b]
  · rw [if_neg (n01 a), if_neg b, if_neg c, isSo_eq]
theorem low_eq9 (lo : Nat → Int64) (p0 : Int32) : s_X3_low lo p0 = ((s_X2_low lo p0).2, (s_X2_low lo p0).1) := by
  unfold s_X2_low s_X3_low
  rcases need_r p0 with ⟨a, b⟩ | ⟨a, b, -⟩
  · rw [if_pos a, if_pos b]; rfl
  · rw [if_neg (n01 a), if_neg (n10 b)]
theorem high_eq9 (hi : Nat → Int64) (p0 : Int32) : s_X3_high hi p0 = ((s_X2_high hi p0).2, (s_X2_high hi p0).1) := by
  unfold s_X2_high s_X3_high
  rcases need_r p0 with ⟨a, b⟩ | ⟨a, b, -⟩
  · rw [if_pos a, if_pos b]; rfl
  · rw [if_neg (n01 a), if_neg (n10 b)]
