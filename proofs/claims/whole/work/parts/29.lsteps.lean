/-! what the law's own methods tell is what the reference tells -/
theorem L_put_eq (lo hi : Nat → Int64) (h : okR lo hi) (p0 : Int32) (p1 p2 : Int64) : ((s_X3_put lo hi p0 p1 p2).1 = (s_L_put lo hi p0 p1 p2).1 ∧ (s_X3_put lo hi p0 p1 p2).2.1 = (s_L_put lo hi p0 p1 p2).2.1 ∧ (s_X3_put lo hi p0 p1 p2).2.2 = (s_L_put lo hi p0 p1 p2).2.2) ∧ okR (s_L_put lo hi p0 p1 p2).2.1 (s_L_put lo hi p0 p1 p2).2.2 := by
  obtain ⟨e, ho, -⟩ := put_eq lo hi h p0 p1 p2
  have k : s_L_put lo hi p0 p1 p2 = s_X2_put lo hi p0 p1 p2 := by
    unfold s_L_put s_X2_put
    by_cases c1 : s_X2_needRange p0 = 1
    · simp only [if_pos c1, ↓reduceIte]
    · by_cases c2 : p2 < p1
      · simp only [if_neg c1, if_pos c2, ↓reduceIte]
      · simp only [if_neg c1, if_neg c2, i_0_1, ↓reduceIte]
  rw [k, ← e]
  rw [e] at ho ⊢
  exact ⟨⟨rfl, rfl, rfl⟩, ho⟩
theorem L_work_eq (fa fb : Int64) (ft : Int32) (lo hi : Nat → Int64) (f0 f1 f2 f3 f4 f5 : Int64) (p0 p1 p2 p3 p4 : Int32) (h : okR lo hi) :
    ((s_X3_work fa fb ft lo hi p0 p1 p2 p3 p4).1 = (s_L_work lo hi f0 f1 f2 f3 f4 f5 p0 p1 p2 p3 p4).1 ∧ (s_X3_work fa fb ft lo hi p0 p1 p2 p3 p4).2.2.2.2.1 = (s_L_work lo hi f0 f1 f2 f3 f4 f5 p0 p1 p2 p3 p4).2.1 ∧ (s_X3_work fa fb ft lo hi p0 p1 p2 p3 p4).2.2.2.2.2 = (s_L_work lo hi f0 f1 f2 f3 f4 f5 p0 p1 p2 p3 p4).2.2.1) ∧ okR (s_L_work lo hi f0 f1 f2 f3 f4 f5 p0 p1 p2 p3 p4).2.1 (s_L_work lo hi f0 f1 f2 f3 f4 f5 p0 p1 p2 p3 p4).2.2.1 := by
  have e := work_eq fa fb ft lo hi f0 f1 f2 f3 f4 f5 p0 p1 p2 p3 p4 h
  have k : s_L_work lo hi f0 f1 f2 f3 f4 f5 p0 p1 p2 p3 p4 = s_X2_work lo hi f0 f1 f2 f3 f4 f5 p0 p1 p2 p3 p4 := by
    unfold s_L_work s_X2_work
    by_cases c1 : s_X2_needRange p0 = 1
    · simp only [if_pos c1, ↓reduceIte]
    by_cases c2 : s_X2_needInstruction p1 = 1
    · simp only [if_neg c1, if_pos c2, ↓reduceIte]
    by_cases c3 : s_X2_needRange p2 = 1
    · simp only [if_neg c1, if_neg c2, if_pos c3, ↓reduceIte]
    by_cases c4 : s_X2_needRange p3 = 1
    · simp only [if_neg c1, if_neg c2, if_neg c3, if_pos c4, ↓reduceIte]
    · simp only [if_neg c1, if_neg c2, if_neg c3, if_neg c4, i_0_1, ↓reduceIte]
  rw [k]
  exact e
theorem updL_at (f : Nat → Int64) (k : Nat) (v : Int64) : vp_updL f k v k = v := if_pos rfl
theorem L_exact_eq (ou : Nat → Int64) (p1 : Int32) (p2 p3 : Int64) (p4 : Int32) : (s_X3_exact p1 p2 p3 p4).2 = (s_L_exact ou p1 p2 p3 p4).1 ∧ ((s_L_exact ou p1 p2 p3 p4).1 = 0 → (s_L_exact ou p1 p2 p3 p4).2 (0 : Int32).toNatClampNeg = (s_X3_exact p1 p2 p3 p4).1) := by
  rw [exact_eq]
  unfold s_L_exact
  by_cases c : (s_X2_exact p1 p2 p3 p4).1 = 1
  · rw [if_pos c]
    exact ⟨c, fun z => absurd (show (1 : Int32) = 0 from z) (by decide)⟩
  · rw [if_neg c]
    refine ⟨?_, fun _ => by dsimp only; exact updL_at _ _ _⟩
    show (s_X2_exact p1 p2 p3 p4).1 = 0
    unfold s_X2_exact at c ⊢
    by_cases k : s_X2_needInstruction p1 = 1
    · rw [if_pos k] at c; exact absurd rfl c
    · rw [if_neg k]
theorem L_low_eq (lo ou : Nat → Int64) (p1 : Int32) : (s_X3_low lo p1).2 = (s_L_low lo ou p1).1 ∧ ((s_L_low lo ou p1).1 = 0 → (s_L_low lo ou p1).2 (0 : Int32).toNatClampNeg = (s_X3_low lo p1).1) := by
  rw [low_eq9]
  unfold s_L_low
  by_cases c : (s_X2_low lo p1).1 = 1
  · rw [if_pos c]
    exact ⟨c, fun z => absurd (show (1 : Int32) = 0 from z) (by decide)⟩
  · rw [if_neg c]
    refine ⟨?_, fun _ => by dsimp only; exact updL_at _ _ _⟩
    show (s_X2_low lo p1).1 = 0
    unfold s_X2_low at c ⊢
    by_cases k : s_X2_needRange p1 = 1
    · rw [if_pos k] at c; exact absurd rfl c
    · rw [if_neg k]
theorem L_high_eq (hi ou : Nat → Int64) (p1 : Int32) : (s_X3_high hi p1).2 = (s_L_high hi ou p1).1 ∧ ((s_L_high hi ou p1).1 = 0 → (s_L_high hi ou p1).2 (0 : Int32).toNatClampNeg = (s_X3_high hi p1).1) := by
  rw [high_eq9]
  unfold s_L_high
  by_cases c : (s_X2_high hi p1).1 = 1
  · rw [if_pos c]
    exact ⟨c, fun z => absurd (show (1 : Int32) = 0 from z) (by decide)⟩
  · rw [if_neg c]
    refine ⟨?_, fun _ => by dsimp only; exact updL_at _ _ _⟩
    show (s_X2_high hi p1).1 = 0
    unfold s_X2_high at c ⊢
    by_cases k : s_X2_needRange p1 = 1
    · rw [if_pos k] at c; exact absurd rfl c
    · rw [if_neg k]
theorem L_holds_eq (ou : Nat → Int64) (p1 : Int32) (p2 p3 : Int64) : (s_X3_holds_ p1 p2 p3).2 = (s_L_holds ou p1 p2 p3).1 ∧ ((s_L_holds ou p1 p2 p3).1 = 0 → (s_L_holds ou p1 p2 p3).2 (0 : Int32).toNatClampNeg = if (s_X3_holds_ p1 p2 p3).1 = 0 then 0 else 1) := by
  rw [holds_eq]
  unfold s_L_holds
  by_cases c : (s_X2_holds p1 p2 p3).1 = 1
  · rw [if_pos c]
    exact ⟨c, fun z => absurd (show (1 : Int32) = 0 from z) (by decide)⟩
  · rw [if_neg c]
    have k0 : (s_X2_holds p1 p2 p3).1 = 0 := by
      unfold s_X2_holds at c ⊢
      by_cases k : s_X2_needCondition p1 = 1
      · rw [if_pos k] at c; exact absurd rfl c
      · rw [if_neg k]
    by_cases d : (s_X2_holds p1 p2 p3).2 = 0
    · rw [if_pos d, if_pos d]
      exact ⟨k0, fun _ => by dsimp only; exact updL_at _ _ _⟩
    · rw [if_neg d, if_neg d]
      exact ⟨k0, fun _ => by dsimp only; exact updL_at _ _ _⟩
theorem cut_fl (lo hi : Nat → Int64) (p0 p1 p2 p3 : Int32) (c : ¬ (s_X2_cut lo hi p0 p1 p2 p3).1 = 1) : (s_X2_cut lo hi p0 p1 p2 p3).1 = 0 := by
  unfold s_X2_cut at c ⊢
  by_cases k1 : s_X2_needCondition p0 = 1
  · rw [if_pos k1] at c; exact absurd rfl c
  rw [if_neg k1] at c ⊢
  by_cases k2 : s_X2_needRange p1 = 1
  · rw [if_pos k2] at c; exact absurd rfl c
  rw [if_neg k2] at c ⊢
  by_cases k3 : s_X2_needRange p2 = 1
  · rw [if_pos k3] at c; exact absurd rfl c
  rw [if_neg k3] at c ⊢
  by_cases k4 : p1 = p2
  · rw [if_pos k4] at c; exact absurd rfl c
  rw [if_neg k4]
  (repeat' split) <;> rfl
theorem cut_kept (lo hi : Nat → Int64) (p0 p1 p2 p3 : Int32) (c : (s_X2_cut lo hi p0 p1 p2 p3).1 = 1) : (s_X2_cut lo hi p0 p1 p2 p3).2.2 = (lo, hi) := by
  unfold s_X2_cut at c ⊢
  by_cases k1 : s_X2_needCondition p0 = 1
  · rw [if_pos k1]
  rw [if_neg k1] at c ⊢
  by_cases k2 : s_X2_needRange p1 = 1
  · rw [if_pos k2]
  rw [if_neg k2] at c ⊢
  by_cases k3 : s_X2_needRange p2 = 1
  · rw [if_pos k3]
  rw [if_neg k3] at c ⊢
  by_cases k4 : p1 = p2
  · rw [if_pos k4]
  rw [if_neg k4] at c
  exfalso
  revert c
  (repeat' split) <;> exact fun z => absurd (show (0 : Int32) = 1 from z) (by decide)
theorem L_cut_eq (xl xh yl yh : Int64) (lo hi ou : Nat → Int64) (h : okR lo hi) (p0 p1 p2 p3 : Int32) :
    ((s_X3_cut xl xh yl yh lo hi p0 p1 p2 p3).2.1 = (s_L_cut lo hi ou p0 p1 p2 p3).1 ∧ (s_X3_cut xl xh yl yh lo hi p0 p1 p2 p3).2.2.2.2.2.2.1 = (s_L_cut lo hi ou p0 p1 p2 p3).2.1 ∧ (s_X3_cut xl xh yl yh lo hi p0 p1 p2 p3).2.2.2.2.2.2.2 = (s_L_cut lo hi ou p0 p1 p2 p3).2.2.1) ∧ okR (s_L_cut lo hi ou p0 p1 p2 p3).2.1 (s_L_cut lo hi ou p0 p1 p2 p3).2.2.1 ∧ ((s_L_cut lo hi ou p0 p1 p2 p3).1 = 0 → (s_L_cut lo hi ou p0 p1 p2 p3).2.2.2 (0 : Int32).toNatClampNeg = if (s_X3_cut xl xh yl yh lo hi p0 p1 p2 p3).1 = 0 then 0 else 1) := by
  obtain ⟨⟨e1, e2, e3, e4⟩, ho⟩ := cut_eq xl xh yl yh lo hi h p0 p1 p2 p3
  rw [e1, e2, e3, e4]
  unfold s_L_cut
  by_cases c : (s_X2_cut lo hi p0 p1 p2 p3).1 = 1
  · rw [if_pos c]
    have q := cut_kept lo hi p0 p1 p2 p3 c
    exact ⟨⟨c, congrArg Prod.fst q, congrArg Prod.snd q⟩, h, fun z => absurd (show (1 : Int32) = 0 from z) (by decide)⟩
  · rw [if_neg c]
    have k0 := cut_fl lo hi p0 p1 p2 p3 c
    by_cases d : (s_X2_cut lo hi p0 p1 p2 p3).2.1 = 0
    · rw [if_pos d, if_pos d]
      exact ⟨⟨k0, rfl, rfl⟩, ho, fun _ => by dsimp only; exact updL_at _ _ _⟩
    · rw [if_neg d, if_neg d]
      exact ⟨⟨k0, rfl, rfl⟩, ho, fun _ => by dsimp only; exact updL_at _ _ _⟩
theorem gl_X3_work2 : GoodIn lw_tbl (wsV RL 57 RX3 yX3_work (wsX3_work ++ wz_A)) := by
  have h := gl_X3_work
  unfold wsV at h ⊢
  rw [← List.append_assoc]
  intro w hw
  rcases List.mem_append.mp hw with h1 | h1
  · exact h w h1
  · exact ⟨wz_A_tbl w h1, good_of_word (wz_A_good w h1)⟩
