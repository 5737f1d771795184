/-! a step of the class is a step of the reference: cut -/
theorem upd_self (f : Nat → Int64) (i : Nat) : vp_updL f i (f i) = f := by
  funext k
  unfold vp_updL
  by_cases c : k = i
  · rw [if_pos c, c]
  · rw [if_neg c]
theorem upd_comm (f : Nat → Int64) {i j : Nat} (h : i ≠ j) (a b : Int64) : vp_updL (vp_updL f i a) j b = vp_updL (vp_updL f j b) i a := by
  funext k
  unfold vp_updL
  by_cases c : k = i
  · by_cases d : k = j
    · exact absurd (c.symm.trans d) h
    · rw [if_neg d, if_pos c, if_pos c]
  · by_cases d : k = j
    · rw [if_pos d, if_neg c, if_pos d]
    · rw [if_neg d, if_neg c, if_neg c, if_neg d]
theorem upd_self' (f : Nat → Int64) {i j : Nat} (h : i ≠ j) (a : Int64) : vp_updL (vp_updL f i a) j (f j) = vp_updL f i a := by
  rw [upd_comm f h, upd_self]
theorem t0_64 : (0 : Int32).toInt64 = 0 := by decide
theorem t1_64 : (1 : Int32).toInt64 = 1 := by decide
/-- what the class did to the two ranges, against what the reference tells -/
def okB (lo hi : Nat → Int64) (A B : Nat) (R : Int32 × Int64 × Int64 × Int64) (C : Int32 × (Nat → Int64) × (Nat → Int64)) : Prop :=
  (R.1 = 0 ∧ C = (0, lo, hi)) ∨ (R.1 = 1 ∧ C = (1, vp_updL (vp_updL lo A R.2.1) B R.2.2.2, vp_updL hi A R.2.2.1) ∧ ¬ R.2.2.1 < R.2.1 ∧ ¬ hi B < R.2.2.2)
theorem sb_eq (lo hi : Nat → Int64) (a b : Int32) {s : Int32} (hs : s = 0 ∨ s = 1) : okB lo hi a.toNatClampNeg b.toNatClampNeg (s_X3_below (lo a.toNatClampNeg) (hi a.toNatClampNeg) (lo b.toNatClampNeg) (hi b.toNatClampNeg) s 0) (s_X2_cutSignedBelow lo hi a b s) := by
  unfold okB s_X3_below s_X2_cutSignedBelow
  rcases hs with h | h
  · subst h
    simp only [↓reduceIte, t0_64, Int64.sub_zero, Int64.add_zero]
    by_cases c1 : pl_min (hi a.toNatClampNeg) (hi b.toNatClampNeg) < lo a.toNatClampNeg
    · simp only [if_pos c1]; exact Or.inl ⟨trivial, trivial⟩
    · by_cases c2 : hi b.toNatClampNeg < pl_max (lo b.toNatClampNeg) (lo a.toNatClampNeg)
      · simp only [if_neg c1, if_pos c2]; exact Or.inl ⟨trivial, trivial⟩
      · simp only [if_neg c1, if_neg c2, upd_self]; exact Or.inr ⟨trivial, trivial, c1, c2⟩
  · subst h
    simp only [↓reduceIte, t1_64, i_1_0]
    by_cases c3 : hi b.toNatClampNeg = (-9223372036854775808 : Int64)
    · simp only [if_pos c3]; exact Or.inl ⟨trivial, trivial⟩
    · by_cases c4 : lo a.toNatClampNeg = (9223372036854775807 : Int64)
      · simp only [if_neg c3, if_pos c4]; exact Or.inl ⟨trivial, trivial⟩
      · by_cases c1 : pl_min (hi a.toNatClampNeg) (hi b.toNatClampNeg - 1) < lo a.toNatClampNeg
        · simp only [if_neg c3, if_neg c4, if_pos c1]; exact Or.inl ⟨trivial, trivial⟩
        · by_cases c2 : hi b.toNatClampNeg < pl_max (lo b.toNatClampNeg) (lo a.toNatClampNeg + 1)
          · simp only [if_neg c3, if_neg c4, if_neg c1, if_pos c2]; exact Or.inl ⟨trivial, trivial⟩
          · simp only [if_neg c3, if_neg c4, if_neg c1, if_neg c2, upd_self]; exact Or.inr ⟨trivial, trivial, c1, c2⟩
theorem max0 {x : Int64} (h : x < 0) : pl_max x 0 = 0 := by
  apply Int64.toInt_inj.mp
  rw [max_i]
  rw [lt0_i] at h
  rw [e0_64]
  omega
theorem bel_pos {xl yl : Int64} (xh yh : Int64) (s : Int32) (h1 : ¬ xl < 0) (h2 : ¬ yl < 0) : s_X3_below xl xh yl yh s 1 = s_X3_below xl xh yl yh s 0 := by
  unfold s_X3_below
  simp only [if_neg h1, if_neg h2, i_1_0, ↓reduceIte]
theorem ub_eq (lo hi : Nat → Int64) (a b : Int32) {s : Int32} (hs : s = 0 ∨ s = 1) (hab : a.toNatClampNeg ≠ b.toNatClampNeg) (ha : ¬ hi a.toNatClampNeg < lo a.toNatClampNeg) (hb : ¬ hi b.toNatClampNeg < lo b.toNatClampNeg) : okB lo hi a.toNatClampNeg b.toNatClampNeg (s_X3_below (lo a.toNatClampNeg) (hi a.toNatClampNeg) (lo b.toNatClampNeg) (hi b.toNatClampNeg) s 1) (s_X2_cutBelow lo hi a b s) := by
  by_cases d2 : lo b.toNatClampNeg < 0
  · have e : s_X3_below (lo a.toNatClampNeg) (hi a.toNatClampNeg) (lo b.toNatClampNeg) (hi b.toNatClampNeg) s 1 = (1, lo a.toNatClampNeg, hi a.toNatClampNeg, lo b.toNatClampNeg) := by
      unfold s_X3_below
      simp only [i_1_0, ↓reduceIte, if_pos d2, ite_self]
    rw [e]
    unfold okB s_X2_cutBelow
    simp only [if_pos d2, upd_self]
    exact Or.inr ⟨trivial, trivial, ha, hb⟩
  · by_cases d1 : lo a.toNatClampNeg < 0
    · unfold okB s_X3_below s_X2_cutBelow
      rcases hs with h | h
      · subst h
        simp only [i_1_0, ↓reduceIte, if_pos d1, if_neg d2, t0_64, Int64.sub_zero, max0 d1]
        by_cases c1 : pl_min (hi a.toNatClampNeg) (hi b.toNatClampNeg) < 0
        · simp only [if_pos c1]; exact Or.inl ⟨trivial, trivial⟩
        · simp only [if_neg c1, upd_self' lo hab]; exact Or.inr ⟨trivial, trivial, c1, hb⟩
      · subst h
        simp only [i_1_0, ↓reduceIte, if_pos d1, if_neg d2, t1_64, max0 d1]
        by_cases c1 : pl_min (hi a.toNatClampNeg) (hi b.toNatClampNeg - 1) < 0
        · simp only [if_pos c1]; exact Or.inl ⟨trivial, trivial⟩
        · simp only [if_neg c1, upd_self' lo hab]; exact Or.inr ⟨trivial, trivial, c1, hb⟩
    · rw [bel_pos _ _ s d1 d2]
      have h := sb_eq lo hi a b hs
      unfold s_X2_cutBelow
      rw [if_neg d2, if_neg d1]
      exact h
/-- the same of the two ranges p1 and p2 -/
def okS (lo hi : Nat → Int64) (i j : Nat) (R : Int32 × Int64 × Int64 × Int64 × Int64) (C : Int32 × (Nat → Int64) × (Nat → Int64)) : Prop :=
  (R.1 = 0 ∧ C = (0, lo, hi)) ∨ (R.1 = 1 ∧ C = (1, vp_updL (vp_updL lo i R.2.1) j R.2.2.2.1, vp_updL (vp_updL hi i R.2.2.1) j R.2.2.2.2) ∧ ¬ R.2.2.1 < R.2.1 ∧ ¬ R.2.2.2.2 < R.2.2.2.1)
theorem okS.one {lo hi : Nat → Int64} {i j : Nat} (hij : i ≠ j) {R : Int32 × Int64 × Int64 × Int64} {C : Int32 × (Nat → Int64) × (Nat → Int64)} (h : okB lo hi i j R C) : okS lo hi i j (R.1, R.2.1, R.2.2.1, R.2.2.2, hi j) (C.1, C.2.1, C.2.2) := by
  rcases h with ⟨h1, h2⟩ | ⟨h1, h2, h3, h4⟩
  · exact Or.inl ⟨h1, h2⟩
  · refine Or.inr ⟨h1, ?_, h3, h4⟩
    rw [h2]
    show (_, _, _) = (_, _, vp_updL (vp_updL hi i R.2.2.1) j (hi j))
    rw [upd_self' hi hij]
theorem okS.two {lo hi : Nat → Int64} {i j : Nat} (hij : i ≠ j) {R : Int32 × Int64 × Int64 × Int64} {C : Int32 × (Nat → Int64) × (Nat → Int64)} (h : okB lo hi j i R C) : okS lo hi i j (R.1, R.2.2.2, hi i, R.2.1, R.2.2.1) (C.1, C.2.1, C.2.2) := by
  rcases h with ⟨h1, h2⟩ | ⟨h1, h2, h3, h4⟩
  · exact Or.inl ⟨h1, h2⟩
  · refine Or.inr ⟨h1, ?_, h4, h3⟩
    rw [h2]
    show (_, _, _) = (_, vp_updL (vp_updL lo i R.2.2.2) j R.2.1, vp_updL (vp_updL hi i (hi i)) j R.2.2.1)
    rw [upd_self hi i, upd_comm lo hij]
theorem apart_eq (lo hi : Nat → Int64) (p q : Int32) (hij : p.toNatClampNeg ≠ q.toNatClampNeg) (ha : ¬ hi p.toNatClampNeg < lo p.toNatClampNeg) (hb : ¬ hi q.toNatClampNeg < lo q.toNatClampNeg) (hc : ¬ (lo p.toNatClampNeg = hi p.toNatClampNeg ∧ lo q.toNatClampNeg = hi q.toNatClampNeg)) :
    okS lo hi p.toNatClampNeg q.toNatClampNeg (1, s_X3_apart (lo p.toNatClampNeg) (hi p.toNatClampNeg) (lo q.toNatClampNeg) (hi q.toNatClampNeg)) (s_X2_cutApart lo hi p q) := by
  unfold okS s_X3_apart s_X2_cutApart s_X2_isConst s_X2_dropEnd
  have up : ∀ {x y : Int64}, ¬ y < x → ¬ x = y → ¬ y < x + 1 := fun {x y} h1 h2 => by
    have n : x.toInt ≠ y.toInt := fun z => h2 (Int64.toInt_inj.mp z)
    rw [lt_i] at h1 ⊢
    have := add_i x 1
    rw [show (1 : Int64).toInt = 1 from by decide] at this
    have g1 := i_hi y; have g2 := i_lo x
    omega
  have dn : ∀ {x y : Int64}, ¬ y < x → ¬ x = y → ¬ y - 1 < x := fun {x y} h1 h2 => by
    have n : x.toInt ≠ y.toInt := fun z => h2 (Int64.toInt_inj.mp z)
    rw [lt_i] at h1 ⊢
    have := sub_i y 1
    rw [show (1 : Int64).toInt = 1 from by decide] at this
    have g1 := i_hi y; have g2 := i_lo x
    omega
  by_cases k1 : lo p.toNatClampNeg = hi p.toNatClampNeg
  · have k2 : ¬ lo q.toNatClampNeg = hi q.toNatClampNeg := fun z => hc ⟨k1, z⟩
    simp only [if_pos k1, if_neg k2, i_1_0, ↓reduceIte]
    by_cases k3 : lo q.toNatClampNeg = lo p.toNatClampNeg
    · simp only [if_pos k3, upd_self]
      exact Or.inr ⟨trivial, trivial, ha, up hb k2⟩
    · by_cases k4 : hi q.toNatClampNeg = lo p.toNatClampNeg
      · simp only [if_neg k3, if_pos k4, upd_self]
        exact Or.inr ⟨trivial, trivial, ha, dn hb k2⟩
      · simp only [if_neg k3, if_neg k4, upd_self]
        exact Or.inr ⟨trivial, trivial, ha, hb⟩
  · by_cases k2 : lo q.toNatClampNeg = hi q.toNatClampNeg
    · simp only [if_neg k1, if_pos k2, i_1_0, ↓reduceIte]
      by_cases k3 : lo p.toNatClampNeg = lo q.toNatClampNeg
      · simp only [if_pos k3, upd_self, upd_self' _ hij]
        exact Or.inr ⟨trivial, trivial, up ha k1, hb⟩
      · by_cases k4 : hi p.toNatClampNeg = lo q.toNatClampNeg
        · simp only [if_neg k3, if_pos k4, upd_self, upd_self' _ hij]
          exact Or.inr ⟨trivial, trivial, dn ha k1, hb⟩
        · simp only [if_neg k3, if_neg k4, upd_self]
          exact Or.inr ⟨trivial, trivial, ha, hb⟩
    · simp only [if_neg k1, if_neg k2, ↓reduceIte, upd_self]
      exact Or.inr ⟨trivial, trivial, ha, hb⟩
theorem side_eq (lo hi : Nat → Int64) (c p q : Int32) (hij : p.toNatClampNeg ≠ q.toNatClampNeg) (ha : ¬ hi p.toNatClampNeg < lo p.toNatClampNeg) (hb : ¬ hi q.toNatClampNeg < lo q.toNatClampNeg) (hc : ¬ (lo p.toNatClampNeg = hi p.toNatClampNeg ∧ lo q.toNatClampNeg = hi q.toNatClampNeg)) :
    okS lo hi p.toNatClampNeg q.toNatClampNeg (s_X3_side (lo p.toNatClampNeg) (hi p.toNatClampNeg) (lo q.toNatClampNeg) (hi q.toNatClampNeg) c) (s_X2_cutSo lo hi c p q) := by
  unfold s_X3_side s_X2_cutSo
  by_cases k0 : c = 0
  · rw [if_pos k0, if_pos k0]
    unfold s_X2_cutToCommon
    by_cases d : pl_min (hi p.toNatClampNeg) (hi q.toNatClampNeg) < pl_max (lo p.toNatClampNeg) (lo q.toNatClampNeg)
    · rw [if_pos d, if_pos d]; exact Or.inl ⟨rfl, rfl⟩
    · rw [if_neg d, if_neg d]; exact Or.inr ⟨rfl, rfl, d, d⟩
  rw [if_neg k0, if_neg k0]
  by_cases k1 : c = 1
  · rw [if_pos k1, if_pos k1]
    have h := apart_eq lo hi p q hij ha hb hc
    rcases h with ⟨h1, -⟩ | ⟨h1, h2, h3, h4⟩
    · exact absurd (show (1 : Int32) = 0 from h1) (by decide)
    · have h3 : ¬ (s_X3_apart (lo p.toNatClampNeg) (hi p.toNatClampNeg) (lo q.toNatClampNeg) (hi q.toNatClampNeg)).2.1 < (s_X3_apart (lo p.toNatClampNeg) (hi p.toNatClampNeg) (lo q.toNatClampNeg) (hi q.toNatClampNeg)).1 := h3
      have h4 : ¬ (s_X3_apart (lo p.toNatClampNeg) (hi p.toNatClampNeg) (lo q.toNatClampNeg) (hi q.toNatClampNeg)).2.2.2 < (s_X3_apart (lo p.toNatClampNeg) (hi p.toNatClampNeg) (lo q.toNatClampNeg) (hi q.toNatClampNeg)).2.2.1 := h4
      rw [if_neg h3, if_neg h4, h2]
      exact Or.inr ⟨rfl, rfl, h3, h4⟩
  rw [if_neg k1, if_neg k1]
  by_cases k2 : c = 2
  · rw [if_pos k2, if_pos k2]; exact okS.one hij (ub_eq lo hi p q (Or.inr rfl) hij ha hb)
  rw [if_neg k2, if_neg k2]
  by_cases k3 : c = 3
  · rw [if_pos k3, if_pos k3]; exact okS.one hij (ub_eq lo hi p q (Or.inl rfl) hij ha hb)
  rw [if_neg k3, if_neg k3]
  by_cases k4 : c = 4
  · rw [if_pos k4, if_pos k4]; exact okS.two hij (ub_eq lo hi q p (Or.inr rfl) hij.symm hb ha)
  rw [if_neg k4, if_neg k4]
  by_cases k5 : c = 5
  · rw [if_pos k5, if_pos k5]; exact okS.two hij (ub_eq lo hi q p (Or.inl rfl) hij.symm hb ha)
  rw [if_neg k5, if_neg k5]
  by_cases k6 : c = 6
  · rw [if_pos k6, if_pos k6]; exact okS.one hij (sb_eq lo hi p q (Or.inr rfl))
  rw [if_neg k6, if_neg k6]
  by_cases k7 : c = 7
  · rw [if_pos k7, if_pos k7]; exact okS.one hij (sb_eq lo hi p q (Or.inl rfl))
  rw [if_neg k7, if_neg k7]
  by_cases k8 : c = 8
  · rw [if_pos k8, if_pos k8]; exact okS.two hij (sb_eq lo hi q p (Or.inr rfl))
  rw [if_neg k8, if_neg k8]
  by_cases k9 : c = 9
  · rw [if_pos k9, if_pos k9]; exact okS.two hij (sb_eq lo hi q p (Or.inl rfl))
  rw [if_neg k9, if_neg k9, if_neg ha, if_neg hb]
  refine Or.inr ⟨rfl, ?_, ha, hb⟩
  show _ = (_, vp_updL (vp_updL lo p.toNatClampNeg (lo p.toNatClampNeg)) q.toNatClampNeg (lo q.toNatClampNeg), vp_updL (vp_updL hi p.toNatClampNeg (hi p.toNatClampNeg)) q.toNatClampNeg (hi q.toNatClampNeg))
  rw [upd_self, upd_self, upd_self, upd_self]
theorem side_m1 (a b c d : Int64) : s_X3_side a b c d (-1) = s_X3_side a b c d 10 := by
  unfold s_X3_side
  simp only [i_10_0, i_10_1, i_10_2, i_10_3, i_10_4, i_10_5, i_10_6, i_10_7, i_10_8, i_10_9, show ((-1 : Int32) = 0) = False from eq_false (by decide), show ((-1 : Int32) = 1) = False from eq_false (by decide), show ((-1 : Int32) = 2) = False from eq_false (by decide), show ((-1 : Int32) = 3) = False from eq_false (by decide), show ((-1 : Int32) = 4) = False from eq_false (by decide), show ((-1 : Int32) = 5) = False from eq_false (by decide), show ((-1 : Int32) = 6) = False from eq_false (by decide), show ((-1 : Int32) = 7) = False from eq_false (by decide), show ((-1 : Int32) = 8) = False from eq_false (by decide), show ((-1 : Int32) = 9) = False from eq_false (by decide), ↓reduceIte]
theorem opp_n : ∀ k, k < 11 → s_X3_opposite (nI k) = ctr k ∨ (s_X3_opposite (nI k) = -1 ∧ ctr k = 10) := by decide +kernel
theorem side_opp {p0 : Int32} (h1 : p0.toNatClampNeg < 11) (h2 : p0 = nI p0.toNatClampNeg) (a b c d : Int64) : s_X3_side a b c d (s_X3_opposite p0) = s_X3_side a b c d (ctr p0.toNatClampNeg) := by
  have h := opp_n _ h1
  rw [← h2] at h
  rcases h with h | ⟨h, g⟩
  · rw [h]
  · rw [h, g, side_m1]
theorem okR.two {lo hi : Nat → Int64} (h : okR lo hi) {i j : Nat} {a b c d : Int64} (h1 : ¬ b < a) (h2 : ¬ d < c) : okR (vp_updL (vp_updL lo i a) j c) (vp_updL (vp_updL hi i b) j d) := (h.put i h1).put j h2
theorem toN_ne {p q : Int32} (h1 : s_X3_isRange p = 1) (h2 : s_X3_isRange q = 1) (h : ¬ p = q) : p.toNatClampNeg ≠ q.toNatClampNeg := by
  have key : ∀ {x : Int32}, s_X3_isRange x = 1 → ¬ x < 0 := fun {x} hx z => by
    unfold s_X3_isRange at hx
    rw [if_pos z] at hx
    exact absurd hx (by decide)
  intro z
  have k1 := key h1
  have k2 := key h2
  rw [Int32.lt_iff_toInt_lt, show (0 : Int32).toInt = 0 from by decide] at k1 k2
  have z : p.toInt.toNat = q.toInt.toNat := z
  exact h (Int32.toInt_inj.mp (by omega))
theorem cut_eq (xl xh yl yh : Int64) (lo hi : Nat → Int64) (h : okR lo hi) (p0 p1 p2 p3 : Int32) :
    ((s_X3_cut xl xh yl yh lo hi p0 p1 p2 p3).1 = (s_X2_cut lo hi p0 p1 p2 p3).2.1 ∧ (s_X3_cut xl xh yl yh lo hi p0 p1 p2 p3).2.1 = (s_X2_cut lo hi p0 p1 p2 p3).1 ∧ (s_X3_cut xl xh yl yh lo hi p0 p1 p2 p3).2.2.2.2.2.2.1 = (s_X2_cut lo hi p0 p1 p2 p3).2.2.1 ∧ (s_X3_cut xl xh yl yh lo hi p0 p1 p2 p3).2.2.2.2.2.2.2 = (s_X2_cut lo hi p0 p1 p2 p3).2.2.2) ∧ okR (s_X2_cut lo hi p0 p1 p2 p3).2.2.1 (s_X2_cut lo hi p0 p1 p2 p3).2.2.2 := by
  unfold s_X2_cut
  unfold s_X3_cut
  rcases need_c p0 with ⟨a0, b0⟩ | ⟨a0, b0, c0, d0, e0⟩
  · rw [if_pos a0]
    by_cases k : p0 < 0
    · rw [if_pos k]; exact ⟨⟨rfl, rfl, rfl, rfl⟩, h⟩
    · rw [if_neg k, if_pos (b0.resolve_left k)]; exact ⟨⟨rfl, rfl, rfl, rfl⟩, h⟩
  rw [if_neg (n01 a0), if_neg b0, if_neg c0]
  rcases need_r p1 with ⟨a1, b1⟩ | ⟨a1, b1, c1⟩
  · rw [if_pos a1, if_pos b1]; exact ⟨⟨rfl, rfl, rfl, rfl⟩, h⟩
  rw [if_neg (n01 a1), if_neg (n10 b1)]
  rcases need_r p2 with ⟨a2, b2⟩ | ⟨a2, b2, c2⟩
  · rw [if_pos a2, if_pos b2]; exact ⟨⟨rfl, rfl, rfl, rfl⟩, h⟩
  rw [if_neg (n01 a2), if_neg (n10 b2)]
  by_cases k : p1 = p2
  · rw [if_pos k, if_pos k]; exact ⟨⟨rfl, rfl, rfl, rfl⟩, h⟩
  rw [if_neg k, if_neg k]
  have hij := toN_ne b1 b2 k
  have v1 := h _ c1
  have v2 := h _ c2
  have key : ∀ c : Int32, ¬ (lo p1.toNatClampNeg = hi p1.toNatClampNeg ∧ lo p2.toNatClampNeg = hi p2.toNatClampNeg) → ((s_X3_side (lo p1.toNatClampNeg) (hi p1.toNatClampNeg) (lo p2.toNatClampNeg) (hi p2.toNatClampNeg) c).1 = 0 ∧ s_X2_cutSo lo hi c p1 p2 = (0, lo, hi)) ∨ ((s_X3_side (lo p1.toNatClampNeg) (hi p1.toNatClampNeg) (lo p2.toNatClampNeg) (hi p2.toNatClampNeg) c).1 = 1 ∧ s_X2_cutSo lo hi c p1 p2 = (1, vp_updL (vp_updL lo p1.toNatClampNeg (s_X3_side (lo p1.toNatClampNeg) (hi p1.toNatClampNeg) (lo p2.toNatClampNeg) (hi p2.toNatClampNeg) c).2.1) p2.toNatClampNeg (s_X3_side (lo p1.toNatClampNeg) (hi p1.toNatClampNeg) (lo p2.toNatClampNeg) (hi p2.toNatClampNeg) c).2.2.2.1, vp_updL (vp_updL hi p1.toNatClampNeg (s_X3_side (lo p1.toNatClampNeg) (hi p1.toNatClampNeg) (lo p2.toNatClampNeg) (hi p2.toNatClampNeg) c).2.2.1) p2.toNatClampNeg (s_X3_side (lo p1.toNatClampNeg) (hi p1.toNatClampNeg) (lo p2.toNatClampNeg) (hi p2.toNatClampNeg) c).2.2.2.2) ∧ okR (s_X2_cutSo lo hi c p1 p2).2.1 (s_X2_cutSo lo hi c p1 p2).2.2) := by
    intro c hc
    rcases side_eq lo hi c p1 p2 hij v1 v2 hc with z | ⟨z1, z2, z3, z4⟩
    · exact Or.inl z
    · exact Or.inr ⟨z1, z2, by rw [z2]; exact h.two z3 z4⟩
  rw [side_opp d0 e0]
  have i1 : s_X2_isConst lo hi p1 = if lo p1.toNatClampNeg = hi p1.toNatClampNeg then 1 else 0 := rfl
  have i2 : s_X2_isConst lo hi p2 = if lo p2.toNatClampNeg = hi p2.toNatClampNeg then 1 else 0 := rfl
  rw [i1, i2, isSo_eq]
  by_cases q1 : lo p1.toNatClampNeg = hi p1.toNatClampNeg
  · by_cases q2 : lo p2.toNatClampNeg = hi p2.toNatClampNeg
    · simp only [if_pos q1, if_pos q2, i_1_0, ↓reduceIte]
      by_cases q3 : s_X3_holds p0 (lo p1.toNatClampNeg) (lo p2.toNatClampNeg) = p3
      · simp only [if_pos q3]; exact ⟨⟨trivial, trivial, trivial, trivial⟩, h⟩
      · simp only [if_neg q3]; exact ⟨⟨trivial, trivial, trivial, trivial⟩, h⟩
    · have hc : ¬ (lo p1.toNatClampNeg = hi p1.toNatClampNeg ∧ lo p2.toNatClampNeg = hi p2.toNatClampNeg) := fun z => q2 z.2
      simp only [if_pos q1, if_neg q2, i_1_0, ↓reduceIte]
      by_cases q4 : p3 = 0
      · rcases key (ctr p0.toNatClampNeg) hc with ⟨z1, z2⟩ | ⟨z1, z2, z3⟩
        · simp only [if_pos q4, z1, z2, ↓reduceIte]; exact ⟨⟨trivial, trivial, trivial, trivial⟩, h⟩
        · rw [z2] at z3; simp only [if_pos q4, z1, z2, i_1_0, ↓reduceIte]; exact ⟨⟨trivial, trivial, trivial, trivial⟩, z3⟩
      · rcases key p0 hc with ⟨z1, z2⟩ | ⟨z1, z2, z3⟩
        · simp only [if_neg q4, z1, z2, ↓reduceIte]; exact ⟨⟨trivial, trivial, trivial, trivial⟩, h⟩
        · rw [z2] at z3; simp only [if_neg q4, z1, z2, i_1_0, ↓reduceIte]; exact ⟨⟨trivial, trivial, trivial, trivial⟩, z3⟩
  · have hc : ¬ (lo p1.toNatClampNeg = hi p1.toNatClampNeg ∧ lo p2.toNatClampNeg = hi p2.toNatClampNeg) := fun z => q1 z.1
    simp only [if_neg q1, ↓reduceIte]
    by_cases q4 : p3 = 0
    · rcases key (ctr p0.toNatClampNeg) hc with ⟨z1, z2⟩ | ⟨z1, z2, z3⟩
      · simp only [if_pos q4, z1, z2, ↓reduceIte]; exact ⟨⟨trivial, trivial, trivial, trivial⟩, h⟩
      · rw [z2] at z3; simp only [if_pos q4, z1, z2, i_1_0, ↓reduceIte]; exact ⟨⟨trivial, trivial, trivial, trivial⟩, z3⟩
    · rcases key p0 hc with ⟨z1, z2⟩ | ⟨z1, z2, z3⟩
      · simp only [if_neg q4, z1, z2, ↓reduceIte]; exact ⟨⟨trivial, trivial, trivial, trivial⟩, h⟩
      · rw [z2] at z3; simp only [if_neg q4, z1, z2, i_1_0, ↓reduceIte]; exact ⟨⟨trivial, trivial, trivial, trivial⟩, z3⟩
