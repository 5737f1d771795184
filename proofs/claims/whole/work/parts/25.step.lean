/-! a step of the class is a step of the reference -/
theorem i_0_12 : ((0 : Int32) = 12) = False := eq_false (by decide)
theorem i_12_0 : ((12 : Int32) = 0) = False := eq_false (by decide)
theorem low_eq (p q : Int64) : s_X1_narrowLow p q = (s_X3_word p q).1 ∧ s_X1_narrowHigh p q = (s_X3_word p q).2 := by
  unfold s_X1_narrowLow s_X1_narrowHigh s_X3_word s_X1_isNarrow
  by_cases c : p = q
  · subst c
    by_cases c1 : p < 0
    · simp only [↓reduceIte, if_pos c1, and_self]
    · by_cases c2 : (4294967295 : Int64) < p
      · simp only [↓reduceIte, if_neg c1, if_pos c2, and_self]
      · simp only [↓reduceIte, if_neg c1, if_neg c2]
        have e : p &&& 4294967295 = p := by
          apply uN_inj
          rw [uN_lo]
          obtain ⟨a1, a2⟩ := uN_pos c1
          rw [lt_i, show (4294967295 : Int64).toInt = 4294967295 from by decide] at c2
          exact Nat.mod_eq_of_lt (by omega)
        exact ⟨e, e⟩
  · by_cases c1 : p < 0
    · simp only [if_neg c, if_pos c1, ↓reduceIte, and_self]
    · by_cases c2 : (4294967295 : Int64) < q
      · simp only [if_neg c, if_neg c1, if_pos c2, ↓reduceIte, and_self]
      · simp only [if_neg c, if_neg c1, if_neg c2, i_1_0, ↓reduceIte, and_self]
theorem need_r (p : Int32) : (s_X2_needRange p = 1 ∧ s_X3_isRange p = 0) ∨ (s_X2_needRange p = 0 ∧ s_X3_isRange p = 1 ∧ p.toNatClampNeg < 16) := by
  unfold s_X2_needRange s_X3_isRange
  by_cases c1 : p < 0
  · rw [if_pos c1, if_pos c1]; exact Or.inl ⟨rfl, rfl⟩
  · by_cases c2 : p < 16
    · rw [if_neg c1, if_neg c1, if_pos c2, if_pos c2]
      refine Or.inr ⟨rfl, rfl, ?_⟩
      rw [Int32.lt_iff_toInt_lt, show (0 : Int32).toInt = 0 from by decide] at c1
      rw [Int32.lt_iff_toInt_lt, show (16 : Int32).toInt = 16 from by decide] at c2
      show p.toInt.toNat < 16
      omega
    · rw [if_neg c1, if_neg c1, if_neg c2, if_neg c2]; exact Or.inl ⟨rfl, rfl⟩
theorem need_i (p : Int32) : (s_X2_needInstruction p = 1 ∧ (p < 0 ∨ 12 < p)) ∨ (s_X2_needInstruction p = 0 ∧ ¬ p < 0 ∧ ¬ 12 < p) := by
  unfold s_X2_needInstruction
  by_cases c1 : p < 0
  · rw [if_pos c1]; exact Or.inl ⟨rfl, Or.inl c1⟩
  · have k : p < 13 ↔ ¬ 12 < p := by
      rw [Int32.lt_iff_toInt_lt, Int32.lt_iff_toInt_lt, show (13 : Int32).toInt = 13 from by decide, show (12 : Int32).toInt = 12 from by decide]
      omega
    by_cases c2 : p < 13
    · rw [if_neg c1, if_pos c2]; exact Or.inr ⟨rfl, c1, k.mp c2⟩
    · rw [if_neg c1, if_neg c2]; exact Or.inl ⟨rfl, Or.inr (Classical.not_not.mp (fun z => c2 (k.mpr z)))⟩
theorem need_c (p : Int32) : (s_X2_needCondition p = 1 ∧ (p < 0 ∨ 10 < p)) ∨ (s_X2_needCondition p = 0 ∧ ¬ p < 0 ∧ ¬ 10 < p ∧ p.toNatClampNeg < 11 ∧ p = nI p.toNatClampNeg) := by
  unfold s_X2_needCondition
  by_cases c1 : p < 0
  · rw [if_pos c1]; exact Or.inl ⟨rfl, Or.inl c1⟩
  · have k : p < 11 ↔ ¬ 10 < p := by
      rw [Int32.lt_iff_toInt_lt, Int32.lt_iff_toInt_lt, show (11 : Int32).toInt = 11 from by decide, show (10 : Int32).toInt = 10 from by decide]
      omega
    by_cases c2 : p < 11
    · rw [if_neg c1, if_pos c2]
      refine Or.inr ⟨rfl, c1, k.mp c2, ?_, ?_⟩
      · rw [Int32.lt_iff_toInt_lt, show (0 : Int32).toInt = 0 from by decide] at c1
        rw [Int32.lt_iff_toInt_lt, show (11 : Int32).toInt = 11 from by decide] at c2
        show p.toInt.toNat < 11
        omega
      · rw [Int32.lt_iff_toInt_lt, show (0 : Int32).toInt = 0 from by decide] at c1
        apply Int32.toInt_inj.mp
        rw [nI_toInt (by have := p.toInt_lt; show p.toInt.toNat < 2 ^ 31; omega)]
        show p.toInt = (p.toInt.toNat : Int)
        omega
    · rw [if_neg c1, if_neg c2]; exact Or.inl ⟨rfl, Or.inr (Classical.not_not.mp (fun z => c2 (k.mpr z)))⟩
/-- all sixteen are ranges -/
def okR (lo hi : Nat → Int64) : Prop := ∀ j, j < 16 → ¬ hi j < lo j
theorem okR.put {lo hi : Nat → Int64} (h : okR lo hi) {a b : Int64} (i : Nat) (hab : ¬ b < a) : okR (vp_updL lo i a) (vp_updL hi i b) := by
  intro j hj
  unfold vp_updL
  by_cases c : j = i
  · rw [if_pos c, if_pos c]; exact hab
  · rw [if_neg c, if_neg c]; exact h j hj
theorem put_eq (lo hi : Nat → Int64) (h : okR lo hi) (p0 : Int32) (p1 p2 : Int64) : s_X2_put lo hi p0 p1 p2 = s_X3_put lo hi p0 p1 p2 ∧ okR (s_X2_put lo hi p0 p1 p2).2.1 (s_X2_put lo hi p0 p1 p2).2.2 ∧ ((s_X2_put lo hi p0 p1 p2).1 = 0 ∨ (s_X2_put lo hi p0 p1 p2).1 = 1) := by
  unfold s_X2_put s_X3_put
  rcases need_r p0 with ⟨a, b⟩ | ⟨a, b, c⟩
  · rw [a, b, if_pos rfl, if_pos rfl]; exact ⟨rfl, h, Or.inr rfl⟩
  · by_cases c1 : p2 < p1
    · simp only [a, b, i_0_1, i_1_0, ↓reduceIte, if_pos c1]; exact ⟨trivial, h, Or.inr trivial⟩
    · simp only [a, b, i_0_1, i_1_0, ↓reduceIte, if_neg c1]; exact ⟨trivial, h.put _ c1, Or.inl trivial⟩
/-- what the class makes, as its two ends -/
theorem made_eq (ft : Int32) {a b c d : Int64} (op nw : Int32) (h1 : ¬ b < a) (h2 : ¬ d < c) :
    ((s_X1_make a b c d op nw).2.2.2.2.1, (s_X1_make a b c d op nw).2.2.2.2.2) =
      (if ((op = 0 ∨ a = b) ∧ (op = 12 ∨ c = d)) then (s_X3_reckon op a c nw, s_X3_reckon op a c nw)
       else if nw = 0 then ((s_X3_range ft op a b c d 63).1, (s_X3_range ft op a b c d 63).2.1)
       else if op = 11 ∨ op = 12 then (0, 4294967295)
       else s_X3_word (s_X3_range ft op (s_X3_word a b).1 (s_X3_word a b).2 (s_X3_word c d).1 (s_X3_word c d).2 31).1 (s_X3_range ft op (s_X3_word a b).1 (s_X3_word a b).2 (s_X3_word c d).1 (s_X3_word c d).2 31).2.1) ∧
    ¬ (s_X1_make a b c d op nw).2.2.2.2.2 < (s_X1_make a b c d op nw).2.2.2.2.1 := by
  have hc : s_X1_isOfConsts a b c d op = if ((op = 0 ∨ a = b) ∧ (op = 12 ∨ c = d)) then 1 else 0 := by
    unfold s_X1_isOfConsts
    by_cases k0 : op = 0
    · subst k0; by_cases k3 : c = d <;> simp [k3, i_0_12]
    · by_cases k1 : a = b <;> by_cases k2 : op = 12 <;> by_cases k3 : c = d <;> simp [k0, k1, k2, k3, i_12_0]
  unfold s_X1_make
  rw [hc]
  by_cases k : (op = 0 ∨ a = b) ∧ (op = 12 ∨ c = d)
  · rw [if_pos k, if_pos k, if_neg (by decide)]
    rw [make_eq]
    exact ⟨rfl, lt_irr _⟩
  · rw [if_neg k, if_neg k, if_pos rfl]
    by_cases kn : nw = 0
    · rw [if_pos kn, if_pos kn]
      obtain ⟨e1, e2⟩ := range_eq ft op 63 h1 h2
      rw [e1, e2]
      exact ⟨rfl, wide_ok op h1 h2 (Or.inl rfl)⟩
    · rw [if_neg kn, if_neg kn]
      unfold s_X1_makeNarrow
      by_cases k11 : op = 11
      · rw [if_pos k11, if_pos (Or.inl k11)]
        exact ⟨rfl, (by decide : ¬ (4294967295 : Int64) < 0)⟩
      · by_cases k12 : op = 12
        · rw [if_neg k11, if_pos k12, if_pos (Or.inr k12)]
          exact ⟨rfl, (by decide : ¬ (4294967295 : Int64) < 0)⟩
        · rw [if_neg k11, if_neg k12, if_neg (fun z => z.elim k11 k12)]
          obtain ⟨x1, x2⟩ := low_eq a b
          obtain ⟨y1, y2⟩ := low_eq c d
          have v1 := word_ok h1
          have v2 := word_ok h2
          obtain ⟨e1, e2⟩ := range_eq ft op 31 v1 v2
          have v3 := word_ok (wide_ok op v1 v2 (Or.inr rfl : (31 : Int32) = 63 ∨ (31 : Int32) = 31))
          rw [x1, x2, y1, y2, e1, e2]
          obtain ⟨z1, z2⟩ := low_eq (s_X1_makeWide (s_X3_word a b).1 (s_X3_word a b).2 (s_X3_word c d).1 (s_X3_word c d).2 op 31).1 (s_X1_makeWide (s_X3_word a b).1 (s_X3_word a b).2 (s_X3_word c d).1 (s_X3_word c d).2 op 31).2
          refine ⟨?_, ?_⟩
          · show (s_X1_narrowLow _ _, s_X1_narrowHigh _ _) = _
            rw [z1, z2]
          · show ¬ s_X1_narrowHigh _ _ < s_X1_narrowLow _ _
            rw [z1, z2]
            exact v3
