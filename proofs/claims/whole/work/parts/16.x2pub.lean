theorem in_need {k : Int32} (h : ¬ s_X2_needRange k = 1) : vp_in k 16 := by
  unfold s_X2_needRange at h
  rw [vp_in_iff]
  have e1 : (0 : Int32).toInt = 0 := by decide
  have e2 : (16 : Int32).toInt = 16 := by decide
  split at h
  · exact absurd rfl h
  · split at h
    · rename_i h1 h2
      rw [Int32.lt_iff_toInt_lt] at h1 h2
      omega
    · exact absurd rfl h
theorem in_need11 {k : Int32} (h : ¬ s_X2_needCondition k = 1) : vp_in k 11 := by
  unfold s_X2_needCondition at h
  rw [vp_in_iff]
  have e1 : (0 : Int32).toInt = 0 := by decide
  have e2 : (11 : Int32).toInt = 11 := by decide
  split at h
  · exact absurd rfl h
  · split at h
    · rename_i h1 h2
      rw [Int32.lt_iff_toInt_lt] at h1 h2
      omega
    · exact absurd rfl h
theorem ydS_X0_isSo : yX0_isSo.cls ≠ "java/lang/invoke/MethodHandle" ∧ yX0_isSo.cls ≠ "java/lang/invoke/VarHandle" ∧ (parseMethodDescriptor yX0_isSo.desc).map (fun d => d.parameters.length) = some 3 := by decide +kernel
theorem ydS_X2_needCondition : yX2_needCondition.cls ≠ "java/lang/invoke/MethodHandle" ∧ yX2_needCondition.cls ≠ "java/lang/invoke/VarHandle" ∧ (parseMethodDescriptor yX2_needCondition.desc).map (fun d => d.parameters.length) = some 1 := by decide +kernel
theorem ydS_X2_needInstruction : yX2_needInstruction.cls ≠ "java/lang/invoke/MethodHandle" ∧ yX2_needInstruction.cls ≠ "java/lang/invoke/VarHandle" ∧ (parseMethodDescriptor yX2_needInstruction.desc).map (fun d => d.parameters.length) = some 1 := by decide +kernel
theorem ydS_X2_needRange : yX2_needRange.cls ≠ "java/lang/invoke/MethodHandle" ∧ yX2_needRange.cls ≠ "java/lang/invoke/VarHandle" ∧ (parseMethodDescriptor yX2_needRange.desc).map (fun d => d.parameters.length) = some 1 := by decide +kernel
theorem ydV_X1_make : yX1_make.cls = RX1 ∧ yX1_make.cls ≠ "java/lang/invoke/MethodHandle" ∧ yX1_make.cls ≠ "java/lang/invoke/VarHandle" ∧ (parseMethodDescriptor yX1_make.desc).map (fun d => d.parameters.length) = some 2 := by decide +kernel
theorem ydV_X2_cutSo : yX2_cutSo.cls = RX2 ∧ yX2_cutSo.cls ≠ "java/lang/invoke/MethodHandle" ∧ yX2_cutSo.cls ≠ "java/lang/invoke/VarHandle" ∧ (parseMethodDescriptor yX2_cutSo.desc).map (fun d => d.parameters.length) = some 3 := by decide +kernel
def s_X2_put (lo : Nat → Int64) (hi : Nat → Int64) (p0 : Int32) (p1 : Int64) (p2 : Int64) : Int32 × (Nat → Int64) × (Nat → Int64) :=
  if (s_X2_needRange p0) = (1 : Int32) then ((1 : Int32), lo, hi)
  else if p2 < p1 then ((1 : Int32), lo, hi)
  else ((0 : Int32), vp_updL lo p0.toNatClampNeg p1, vp_updL hi p0.toNatClampNeg p2)
set_option maxHeartbeats 4000000 in
set_option maxRecDepth 100000 in
theorem c_X2_put (l : Launch) (S0 : Nat) (hst : l.stackTraces = false) (dC : Nat → ClassId) (dI : Nat → Nat → Nat) (cA cB : ClassId) (h0 q1 q2 q3 sz : Nat) (lo : Nat → Int64) (hi : Nat → Int64) (p0 : Int32) (p1 : Int64) (p2 : Int64) : vx_Met l yX2_put wsX2_put ({ frames := 7, cells := 2, slots := 12, locals := 102 }) (twp S0 (dC, dI) vwCl [(cA, .long), (cB, .long)] [.ref h0, .int p0, .long p1, .long p2] sz [(h0, .inr (1, [.ref q1, .ref q2, .ref q3])), (q1, .inl (cA, 16, .inr (.inl lo))), (q2, .inl (cB, 16, .inr (.inl hi)))]) (twq ((s_X2_put lo hi p0 p1 p2).1) none (dC, dI) vwCl [(h0, .inr (1, [.ref q1, .ref q2, .ref q3])), (q1, .inl (cA, 16, .inr (.inl ((s_X2_put lo hi p0 p1 p2).2.1)))), (q2, .inl (cB, 16, .inr (.inl ((s_X2_put lo hi p0 p1 p2).2.2))))] (va_A [(h0, .inr (1, [.ref q1, .ref q2, .ref q3])), (q1, .inl (cA, 16, .inr (.inl lo))), (q2, .inl (cB, 16, .inr (.inl hi)))] sz)) (xq ((s_X2_put lo hi p0 p1 p2).1) n_IAE) 2 12 (va_A [(h0, .inr (1, [.ref q1, .ref q2, .ref q3])), (q1, .inl (cA, 16, .inr (.inl lo))), (q2, .inl (cB, 16, .inr (.inl hi)))] sz) := by
  refine vx_ofW (cc := cX2_put) (maxL := 6) (ret := none) (by decide) rfl ?_
  intro p e s m args below meth c s₁ B hml htab hv
  obtain ⟨rfl, hsz, hP, hK, hD0, ham⟩ := hv
  have hx := B.exec
  have hb := B.bytes
  have hr := B.returns
  have hts := atoms_spec (ws := wsX2_put) B.pre
  have hown : s.vm.findClass RX2 = some m.cls := findClass_of_methodNamed B.named
  have hlocks := B.notSynchronized
  subst hsz
  have hD := hD0.self (sz := s.heap.size)
  generalize hAe : va_A [(h0, .inr (1, [.ref q1, .ref q2, .ref q3])), (q1, .inl (cA, 16, .inr (.inl lo))), (q2, .inl (cB, 16, .inr (.inl hi)))] s.heap.size = A at hD ⊢
  have hA : ∀ q : Nat, s.heap.size ≤ q → A q := fun q h => by rw [← hAe]; exact Or.inr h
  have hS : va_S A s.heap s.heap [] := va_S.rf
  have hP : va_P (dC, dI) vwCl [(h0, .inr (1, [.ref q1, .ref q2, .ref q3])), (q1, .inl (cA, 16, .inr (.inl lo))), (q2, .inl (cB, 16, .inr (.inl hi)))] s.heap := hP
  have hl := lv_entry ([.ref h0, .int p0, .long p1, .long p2]) (n := 6) (Nat.le_of_ble_eq_true rfl)
  rw [lg_entry_eq]
  generalize (lg_sl ([.ref h0, .int p0, .long p1, .long p2]) ++ List.replicate (6 - (lg_sl ([.ref h0, .int p0, .long p1, .long p2])).length) Slot.unset).toArray = ls at hl ⊢
  have hl : lv_has ls 6 [(0, .ref h0), (1, .int p0), (2, .long p1), (4, .long p2)] := hl
  have hw0 := hts (.fieldLink RX2 9 "RangeBox" "lows" "[J") (List.mem_of_getElem? (i := 3) rfl)
  have hi_RX2 : ∀ w ∈ wsX20, w ∈ wsX2_put := fun _ h => List.mem_cons_of_mem _ (List.mem_append_left _ (List.mem_append_right _ h))
  have hw2 := hts (.fieldLink RX2 13 "RangeBox" "highs" "[J") (List.mem_of_getElem? (i := 4) rfl)
  have hw3 := hts (.classLink RX2 27 "java/lang/IllegalArgumentException") (List.mem_of_getElem? (i := 1) rfl)
  have hw4 := hts (.initialized "java/lang/IllegalArgumentException") (List.mem_of_getElem? (i := 2) rfl)
  refine lv_iload_n hx hb dX2_put_0 rfl (lv_at hl 1 rfl) ?_
  refine tq_callv (vx_runS (As := [.int p0]) (rest := []) ⟨hx, hb, hml, hown, hts⟩ (c_X2_needRange l S0 hst p0) (va_cwS 1 hts gX2_put_X2_needRange rfl rfl rfl ydS_X2_needRange ⟨Nat.le_of_ble_eq_true rfl, Nat.le_of_ble_eq_true rfl⟩) (tp_S ham) rfl rfl hl.1 rfl (lv_room (Nat.le_of_ble_eq_true rfl)) dX2_put_1 ⟨Nat.le_of_ble_eq_true rfl, Nat.le_of_ble_eq_true rfl⟩) (fun ce q9 H c1 hz hk hce hcv hcl => ?_) (fun c1 => ?_)
  · have es : (s_X2_put lo hi p0 p1 p2) = ((1 : Int32), lo, hi) := by unfold s_X2_put; rw [if_pos c1]
    exact vx_out (fun x hx => (htab x hx).elim) hlocks hce hcv hcl (fun t ht _ => by rw [es]; exact ⟨rfl, rfl, by rw [ht]; exact hz, fun q h => by rw [ht]; exact hk q h⟩) (fun z h => nomatch h) (Nat.le_of_ble_eq_true rfl) (Nat.le_of_ble_eq_true rfl)
  · refine lv_lload_n hx hb dX2_put_4 rfl (lv_at hl 2 rfl) ?_
    refine lv_lload hx hb dX2_put_5 (lv_at hl 3 rfl) ?_
    refine pl_le (tgt := 21) hx hb dX2_put_7 dX2_put_8 (by decide) (fun c2 => ?_) (fun c2 => ?_)
    · refine lv_aload_n hx hb dX2_put_21 rfl (lv_at hl 0 rfl) ?_
      refine va_get (D := (dC, dI)) (ci := 1) (v := .ref q1) (C := RX2) (T := TX2) (N := 3) hx hb hts hi_RX2 hown hK hP 0 rfl rfl 0 (by decide) hw0 (fun _ h9 => h9) rfl dX2_put_22 ?_
      refine lv_iload_n hx hb dX2_put_25 rfl (lv_at hl 1 rfl) ?_
      refine lv_lload_n hx hb dX2_put_26 rfl (lv_at hl 2 rfl) ?_
      refine va_last hx hb hK hP hD hS 1 0 rfl rfl (in_need c1) dX2_put_27 (fun H locs hP hD hS => ?_)
      have hP : va_P (dC, dI) vwCl [(h0, .inr (1, [.ref q1, .ref q2, .ref q3])), (q1, .inl (cA, 16, .inr (.inl (vp_updL lo p0.toNatClampNeg p1)))), (q2, .inl (cB, 16, .inr (.inl hi)))] H := hP
      have hD : va_D A [(h0, .inr (1, [.ref q1, .ref q2, .ref q3])), (q1, .inl (cA, 16, .inr (.inl (vp_updL lo p0.toNatClampNeg p1)))), (q2, .inl (cB, 16, .inr (.inl hi)))] := hD
      refine lv_aload_n hx hb dX2_put_28 rfl (lv_at hl 0 rfl) ?_
      refine va_get (D := (dC, dI)) (ci := 1) (v := .ref q2) (C := RX2) (T := TX2) (N := 3) hx hb hts hi_RX2 hown hK hP 0 rfl rfl 1 (by decide) hw2 (fun _ h9 => h9) rfl dX2_put_29 ?_
      refine lv_iload_n hx hb dX2_put_32 rfl (lv_at hl 1 rfl) ?_
      refine lv_lload hx hb dX2_put_33 (lv_at hl 3 rfl) ?_
      refine va_last hx hb hK hP hD hS 2 1 rfl rfl (in_need c1) dX2_put_35 (fun H locs hP hD hS => ?_)
      have hP : va_P (dC, dI) vwCl [(h0, .inr (1, [.ref q1, .ref q2, .ref q3])), (q1, .inl (cA, 16, .inr (.inl (vp_updL lo p0.toNatClampNeg p1)))), (q2, .inl (cB, 16, .inr (.inl (vp_updL hi p0.toNatClampNeg p2))))] H := hP
      have hD : va_D A [(h0, .inr (1, [.ref q1, .ref q2, .ref q3])), (q1, .inl (cA, 16, .inr (.inl (vp_updL lo p0.toNatClampNeg p1)))), (q2, .inl (cB, 16, .inr (.inl (vp_updL hi p0.toNatClampNeg p2))))] := hD
      refine vx_ret ?_
      refine W.widen (k := 2) (n := 12) (by omega) (by omega) ?_
      have es : (s_X2_put lo hi p0 p1 p2) = ((0 : Int32), vp_updL lo p0.toNatClampNeg p1, vp_updL hi p0.toNatClampNeg p2) := by unfold s_X2_put; rw [if_neg c1, if_neg c2]
      exact W.vret hx hb hr (fun t ht hW => by rw [es]; exact ⟨rfl, by rw [ht]; exact hP, hD, hS.F ht, rfl⟩) hS.2.2 dX2_put_36
    · obtain ⟨sa, hsa⟩ := ham.2.2.2.1.2.1
      have es : (s_X2_put lo hi p0 p1 p2) = ((1 : Int32), lo, hi) := by unfold s_X2_put; rw [if_neg c1, if_pos c2]
      exact vx_throwS (A := fun q => S0 ≤ q) (names := n_chain) hx hb hst hown (by decide) (by decide +kernel) hw3 hw4 hsa (hat_I ham (fun w h => hts w (List.mem_cons_of_mem _ (List.mem_append_right _ h)))) good_I ham.1.1 ham.1.2 va_S.rf (hl.1.trans hml.symm) dX2_put_11 dX2_put_14 dX2_put_15 dX2_put_17 dX2_put_20 (fun x hx => (htab x hx).elim) (Nat.le_of_ble_eq_true rfl) (Nat.le_of_ble_eq_true rfl) (Nat.le_of_ble_eq_true rfl) (Nat.le_of_ble_eq_true rfl) hlocks (fun t _ h1 h2 => by rw [es]; exact ⟨rfl, rfl, h1, h2⟩) (fun z h => nomatch h) (Nat.le_of_ble_eq_true rfl) (Nat.le_of_ble_eq_true rfl)

def s_X2_work (lo : Nat → Int64) (hi : Nat → Int64) (f0 : Int64) (f1 : Int64) (f2 : Int64) (f3 : Int64) (f4 : Int64) (f5 : Int64) (p0 : Int32) (p1 : Int32) (p2 : Int32) (p3 : Int32) (p4 : Int32) : Int32 × (Nat → Int64) × (Nat → Int64) × Int64 × Int64 × Int64 × Int64 × Int64 × Int64 :=
  if (s_X2_needRange p0) = (1 : Int32) then ((1 : Int32), lo, hi, f0, f1, f2, f3, f4, f5)
  else if (s_X2_needInstruction p1) = (1 : Int32) then ((1 : Int32), lo, hi, f0, f1, f2, f3, f4, f5)
  else if (s_X2_needRange p2) = (1 : Int32) then ((1 : Int32), lo, hi, f0, f1, f2, f3, f4, f5)
  else if (s_X2_needRange p3) = (1 : Int32) then ((1 : Int32), lo, hi, f0, f1, f2, f3, f4, f5)
  else ((0 : Int32), vp_updL lo p0.toNatClampNeg ((s_X1_make (lo p2.toNatClampNeg) (hi p2.toNatClampNeg) (lo p3.toNatClampNeg) (hi p3.toNatClampNeg) p1 p4).2.2.2.2.1), vp_updL hi p0.toNatClampNeg ((s_X1_make (lo p2.toNatClampNeg) (hi p2.toNatClampNeg) (lo p3.toNatClampNeg) (hi p3.toNatClampNeg) p1 p4).2.2.2.2.2), (s_X1_make (lo p2.toNatClampNeg) (hi p2.toNatClampNeg) (lo p3.toNatClampNeg) (hi p3.toNatClampNeg) p1 p4).1, (s_X1_make (lo p2.toNatClampNeg) (hi p2.toNatClampNeg) (lo p3.toNatClampNeg) (hi p3.toNatClampNeg) p1 p4).2.1, (s_X1_make (lo p2.toNatClampNeg) (hi p2.toNatClampNeg) (lo p3.toNatClampNeg) (hi p3.toNatClampNeg) p1 p4).2.2.1, (s_X1_make (lo p2.toNatClampNeg) (hi p2.toNatClampNeg) (lo p3.toNatClampNeg) (hi p3.toNatClampNeg) p1 p4).2.2.2.1, (s_X1_make (lo p2.toNatClampNeg) (hi p2.toNatClampNeg) (lo p3.toNatClampNeg) (hi p3.toNatClampNeg) p1 p4).2.2.2.2.1, (s_X1_make (lo p2.toNatClampNeg) (hi p2.toNatClampNeg) (lo p3.toNatClampNeg) (hi p3.toNatClampNeg) p1 p4).2.2.2.2.2)
set_option maxHeartbeats 4000000 in
set_option maxRecDepth 100000 in
theorem c_X2_work (l : Launch) (S0 : Nat) (hst : l.stackTraces = false) (dC : Nat → ClassId) (dI : Nat → Nat → Nat) (cA cB : ClassId) (h0 q1 q2 q3 sz : Nat) (lo : Nat → Int64) (hi : Nat → Int64) (f0 : Int64) (f1 : Int64) (f2 : Int64) (f3 : Int64) (f4 : Int64) (f5 : Int64) (p0 : Int32) (p1 : Int32) (p2 : Int32) (p3 : Int32) (p4 : Int32) : vx_Met l yX2_work wsX2_work ({ frames := 7, cells := 4, slots := 24, locals := 152 }) (twp S0 (dC, dI) vwCl [(cA, .long), (cB, .long)] [.ref h0, .int p0, .int p1, .int p2, .int p3, .int p4] sz [(h0, .inr (1, [.ref q1, .ref q2, .ref q3])), (q1, .inl (cA, 16, .inr (.inl lo))), (q2, .inl (cB, 16, .inr (.inl hi))), (q3, .inr (0, [.long f0, .long f1, .long f2, .long f3, .long f4, .long f5]))]) (twq ((s_X2_work lo hi f0 f1 f2 f3 f4 f5 p0 p1 p2 p3 p4).1) none (dC, dI) vwCl [(h0, .inr (1, [.ref q1, .ref q2, .ref q3])), (q1, .inl (cA, 16, .inr (.inl ((s_X2_work lo hi f0 f1 f2 f3 f4 f5 p0 p1 p2 p3 p4).2.1)))), (q2, .inl (cB, 16, .inr (.inl ((s_X2_work lo hi f0 f1 f2 f3 f4 f5 p0 p1 p2 p3 p4).2.2.1)))), (q3, .inr (0, [.long ((s_X2_work lo hi f0 f1 f2 f3 f4 f5 p0 p1 p2 p3 p4).2.2.2.1), .long ((s_X2_work lo hi f0 f1 f2 f3 f4 f5 p0 p1 p2 p3 p4).2.2.2.2.1), .long ((s_X2_work lo hi f0 f1 f2 f3 f4 f5 p0 p1 p2 p3 p4).2.2.2.2.2.1), .long ((s_X2_work lo hi f0 f1 f2 f3 f4 f5 p0 p1 p2 p3 p4).2.2.2.2.2.2.1), .long ((s_X2_work lo hi f0 f1 f2 f3 f4 f5 p0 p1 p2 p3 p4).2.2.2.2.2.2.2.1), .long ((s_X2_work lo hi f0 f1 f2 f3 f4 f5 p0 p1 p2 p3 p4).2.2.2.2.2.2.2.2)]))] (va_A [(h0, .inr (1, [.ref q1, .ref q2, .ref q3])), (q1, .inl (cA, 16, .inr (.inl lo))), (q2, .inl (cB, 16, .inr (.inl hi))), (q3, .inr (0, [.long f0, .long f1, .long f2, .long f3, .long f4, .long f5]))] sz)) (xq ((s_X2_work lo hi f0 f1 f2 f3 f4 f5 p0 p1 p2 p3 p4).1) n_IAE) 4 24 (va_A [(h0, .inr (1, [.ref q1, .ref q2, .ref q3])), (q1, .inl (cA, 16, .inr (.inl lo))), (q2, .inl (cB, 16, .inr (.inl hi))), (q3, .inr (0, [.long f0, .long f1, .long f2, .long f3, .long f4, .long f5]))] sz) := by
  refine vx_ofW (cc := cX2_work) (maxL := 6) (ret := none) (by decide) rfl ?_
  intro p e s m args below meth c s₁ B hml htab hv
  obtain ⟨rfl, hsz, hP, hK, hD0, ham⟩ := hv
  have hx := B.exec
  have hb := B.bytes
  have hr := B.returns
  have hts := atoms_spec (ws := wsX2_work) B.pre
  have hown : s.vm.findClass RX2 = some m.cls := findClass_of_methodNamed B.named
  have hlocks := B.notSynchronized
  subst hsz
  have hD := hD0.self (sz := s.heap.size)
  generalize hAe : va_A [(h0, .inr (1, [.ref q1, .ref q2, .ref q3])), (q1, .inl (cA, 16, .inr (.inl lo))), (q2, .inl (cB, 16, .inr (.inl hi))), (q3, .inr (0, [.long f0, .long f1, .long f2, .long f3, .long f4, .long f5]))] s.heap.size = A at hD ⊢
  have hA : ∀ q : Nat, s.heap.size ≤ q → A q := fun q h => by rw [← hAe]; exact Or.inr h
  have hS : va_S A s.heap s.heap [] := va_S.rf
  have hP : va_P (dC, dI) vwCl [(h0, .inr (1, [.ref q1, .ref q2, .ref q3])), (q1, .inl (cA, 16, .inr (.inl lo))), (q2, .inl (cB, 16, .inr (.inl hi))), (q3, .inr (0, [.long f0, .long f1, .long f2, .long f3, .long f4, .long f5]))] s.heap := hP
  have hl := lv_entry ([.ref h0, .int p0, .int p1, .int p2, .int p3, .int p4]) (n := 6) (Nat.le_of_ble_eq_true rfl)
  rw [lg_entry_eq]
  generalize (lg_sl ([.ref h0, .int p0, .int p1, .int p2, .int p3, .int p4]) ++ List.replicate (6 - (lg_sl ([.ref h0, .int p0, .int p1, .int p2, .int p3, .int p4])).length) Slot.unset).toArray = ls at hl ⊢
  have hl : lv_has ls 6 [(0, .ref h0), (1, .int p0), (2, .int p1), (3, .int p2), (4, .int p3), (5, .int p4)] := hl
  have hw0 := hts (.fieldLink RX2 19 "RangeBox" "outcome" "LRangeBox$Outcome;") (List.mem_of_getElem? (i := 1) rfl)
  have hi_RX2 : ∀ w ∈ wsX20, w ∈ wsX2_work := fun _ h => List.mem_cons_of_mem _ (List.mem_append_left _ (List.mem_append_left _ (List.mem_append_right _ h)))
  have hw2 := hts (.fieldLink RX2 9 "RangeBox" "lows" "[J") (List.mem_of_getElem? (i := 2) rfl)
  have hw3 := hts (.fieldLink RX2 13 "RangeBox" "highs" "[J") (List.mem_of_getElem? (i := 3) rfl)
  have hi_RX1 : ∀ w ∈ wsX10, w ∈ wsX2_work := fun _ h => List.mem_cons_of_mem _ (List.mem_append_left _ (List.mem_append_right _ h))
  refine lv_iload_n hx hb dX2_work_0 rfl (lv_at hl 1 rfl) ?_
  refine tq_callv (vx_runS (As := [.int p0]) (rest := []) ⟨hx, hb, hml, hown, hts⟩ (c_X2_needRange l S0 hst p0) (va_cwS 1 hts gX2_work_X2_needRange rfl rfl rfl ydS_X2_needRange ⟨Nat.le_of_ble_eq_true rfl, Nat.le_of_ble_eq_true rfl⟩) (tp_S ham) rfl rfl hl.1 rfl (lv_room (Nat.le_of_ble_eq_true rfl)) dX2_work_1 ⟨Nat.le_of_ble_eq_true rfl, Nat.le_of_ble_eq_true rfl⟩) (fun ce q9 H c1 hz hk hce hcv hcl => ?_) (fun c1 => ?_)
  · have es : (s_X2_work lo hi f0 f1 f2 f3 f4 f5 p0 p1 p2 p3 p4) = ((1 : Int32), lo, hi, f0, f1, f2, f3, f4, f5) := by unfold s_X2_work; rw [if_pos c1]
    exact vx_out (fun x hx => (htab x hx).elim) hlocks hce hcv hcl (fun t ht _ => by rw [es]; exact ⟨rfl, rfl, by rw [ht]; exact hz, fun q h => by rw [ht]; exact hk q h⟩) (fun z h => nomatch h) (Nat.le_of_ble_eq_true rfl) (Nat.le_of_ble_eq_true rfl)
  · refine lv_iload_n hx hb dX2_work_4 rfl (lv_at hl 2 rfl) ?_
    refine tq_callv (vx_runS (As := [.int p1]) (rest := []) ⟨hx, hb, hml, hown, hts⟩ (c_X2_needInstruction l S0 hst p1) (va_cwS 1 hts gX2_work_X2_needInstruction rfl rfl rfl ydS_X2_needInstruction ⟨Nat.le_of_ble_eq_true rfl, Nat.le_of_ble_eq_true rfl⟩) (tp_S ham) rfl rfl hl.1 rfl (lv_room (Nat.le_of_ble_eq_true rfl)) dX2_work_5 ⟨Nat.le_of_ble_eq_true rfl, Nat.le_of_ble_eq_true rfl⟩) (fun ce q9 H c2 hz hk hce hcv hcl => ?_) (fun c2 => ?_)
    · have es : (s_X2_work lo hi f0 f1 f2 f3 f4 f5 p0 p1 p2 p3 p4) = ((1 : Int32), lo, hi, f0, f1, f2, f3, f4, f5) := by unfold s_X2_work; rw [if_neg c1, if_pos c2]
      exact vx_out (fun x hx => (htab x hx).elim) hlocks hce hcv hcl (fun t ht _ => by rw [es]; exact ⟨rfl, rfl, by rw [ht]; exact hz, fun q h => by rw [ht]; exact hk q h⟩) (fun z h => nomatch h) (Nat.le_of_ble_eq_true rfl) (Nat.le_of_ble_eq_true rfl)
    · refine lv_iload_n hx hb dX2_work_8 rfl (lv_at hl 3 rfl) ?_
      refine tq_callv (vx_runS (As := [.int p2]) (rest := []) ⟨hx, hb, hml, hown, hts⟩ (c_X2_needRange l S0 hst p2) (va_cwS 1 hts gX2_work_X2_needRange rfl rfl rfl ydS_X2_needRange ⟨Nat.le_of_ble_eq_true rfl, Nat.le_of_ble_eq_true rfl⟩) (tp_S ham) rfl rfl hl.1 rfl (lv_room (Nat.le_of_ble_eq_true rfl)) dX2_work_9 ⟨Nat.le_of_ble_eq_true rfl, Nat.le_of_ble_eq_true rfl⟩) (fun ce q9 H c3 hz hk hce hcv hcl => ?_) (fun c3 => ?_)
      · have es : (s_X2_work lo hi f0 f1 f2 f3 f4 f5 p0 p1 p2 p3 p4) = ((1 : Int32), lo, hi, f0, f1, f2, f3, f4, f5) := by unfold s_X2_work; rw [if_neg c1, if_neg c2, if_pos c3]
        exact vx_out (fun x hx => (htab x hx).elim) hlocks hce hcv hcl (fun t ht _ => by rw [es]; exact ⟨rfl, rfl, by rw [ht]; exact hz, fun q h => by rw [ht]; exact hk q h⟩) (fun z h => nomatch h) (Nat.le_of_ble_eq_true rfl) (Nat.le_of_ble_eq_true rfl)
      · refine lv_iload hx hb dX2_work_12 (lv_at hl 4 rfl) ?_
        refine tq_callv (vx_runS (As := [.int p3]) (rest := []) ⟨hx, hb, hml, hown, hts⟩ (c_X2_needRange l S0 hst p3) (va_cwS 1 hts gX2_work_X2_needRange rfl rfl rfl ydS_X2_needRange ⟨Nat.le_of_ble_eq_true rfl, Nat.le_of_ble_eq_true rfl⟩) (tp_S ham) rfl rfl hl.1 rfl (lv_room (Nat.le_of_ble_eq_true rfl)) dX2_work_14 ⟨Nat.le_of_ble_eq_true rfl, Nat.le_of_ble_eq_true rfl⟩) (fun ce q9 H c4 hz hk hce hcv hcl => ?_) (fun c4 => ?_)
        · have es : (s_X2_work lo hi f0 f1 f2 f3 f4 f5 p0 p1 p2 p3 p4) = ((1 : Int32), lo, hi, f0, f1, f2, f3, f4, f5) := by unfold s_X2_work; rw [if_neg c1, if_neg c2, if_neg c3, if_pos c4]
          exact vx_out (fun x hx => (htab x hx).elim) hlocks hce hcv hcl (fun t ht _ => by rw [es]; exact ⟨rfl, rfl, by rw [ht]; exact hz, fun q h => by rw [ht]; exact hk q h⟩) (fun z h => nomatch h) (Nat.le_of_ble_eq_true rfl) (Nat.le_of_ble_eq_true rfl)
        · refine lv_aload_n hx hb dX2_work_17 rfl (lv_at hl 0 rfl) ?_
          refine va_get (D := (dC, dI)) (ci := 1) (v := .ref q3) (C := RX2) (T := TX2) (N := 3) hx hb hts hi_RX2 hown hK hP 0 rfl rfl 2 (by decide) hw0 (fun _ h9 => h9) rfl dX2_work_18 ?_
          refine lv_aload_n hx hb dX2_work_21 rfl (lv_at hl 0 rfl) ?_
          refine va_get (D := (dC, dI)) (ci := 1) (v := .ref q1) (C := RX2) (T := TX2) (N := 3) hx hb hts hi_RX2 hown hK hP 0 rfl rfl 0 (by decide) hw2 (fun _ h9 => h9) rfl dX2_work_22 ?_
          refine lv_iload_n hx hb dX2_work_25 rfl (lv_at hl 3 rfl) ?_
          refine va_lald hx hb hK hP 1 0 rfl rfl (in_need c3) dX2_work_26 ?_
          refine lv_aload_n hx hb dX2_work_27 rfl (lv_at hl 0 rfl) ?_
          refine va_get (D := (dC, dI)) (ci := 1) (v := .ref q2) (C := RX2) (T := TX2) (N := 3) hx hb hts hi_RX2 hown hK hP 0 rfl rfl 1 (by decide) hw3 (fun _ h9 => h9) rfl dX2_work_28 ?_
          refine lv_iload_n hx hb dX2_work_31 rfl (lv_at hl 3 rfl) ?_
          refine va_lald hx hb hK hP 2 1 rfl rfl (in_need c3) dX2_work_32 ?_
          refine lv_aload_n hx hb dX2_work_33 rfl (lv_at hl 0 rfl) ?_
          refine va_get (D := (dC, dI)) (ci := 1) (v := .ref q1) (C := RX2) (T := TX2) (N := 3) hx hb hts hi_RX2 hown hK hP 0 rfl rfl 0 (by decide) hw2 (fun _ h9 => h9) rfl dX2_work_34 ?_
          refine lv_iload hx hb dX2_work_37 (lv_at hl 4 rfl) ?_
          refine va_lald hx hb hK hP 1 0 rfl rfl (in_need c4) dX2_work_39 ?_
          refine lv_aload_n hx hb dX2_work_40 rfl (lv_at hl 0 rfl) ?_
          refine va_get (D := (dC, dI)) (ci := 1) (v := .ref q2) (C := RX2) (T := TX2) (N := 3) hx hb hts hi_RX2 hown hK hP 0 rfl rfl 1 (by decide) hw3 (fun _ h9 => h9) rfl dX2_work_41 ?_
          refine lv_iload hx hb dX2_work_44 (lv_at hl 4 rfl) ?_
          refine va_lald hx hb hK hP 2 1 rfl rfl (in_need c4) dX2_work_46 ?_
          refine wq_callv (wc := [(q3, .inr (0, [.long f0, .long f1, .long f2, .long f3, .long f4, .long f5]))]) (wr := [(h0, .inr (1, [.ref q1, .ref q2, .ref q3])), (q1, .inl (cA, 16, .inr (.inl lo))), (q2, .inl (cB, 16, .inr (.inl hi)))]) (w2 := [(h0, .inr (1, [.ref q1, .ref q2, .ref q3])), (q1, .inl (cA, 16, .inr (.inl lo))), (q2, .inl (cB, 16, .inr (.inl hi))), (q3, .inr (0, [.long (lo p2.toNatClampNeg), .long (hi p2.toNatClampNeg), .long (lo p3.toNatClampNeg), .long (hi p3.toNatClampNeg), .long f4, .long f5]))]) (va_runV (As := [.long (lo p2.toNatClampNeg), .long (hi p2.toNatClampNeg), .long (lo p3.toNatClampNeg), .long (hi p3.toNatClampNeg)]) (rest := []) ⟨hx, hb, hml, hown, hts⟩ (c_X1_take l dC dI q3 s.heap.size f0 f1 f2 f3 f4 f5 (lo p2.toNatClampNeg) (hi p2.toNatClampNeg) (lo p3.toNatClampNeg) (hi p3.toNatClampNeg)) (cwV 4 hts gX2_work_X1_take rfl rfl rfl ydV_X1_take ⟨Nat.le_of_ble_eq_true rfl, Nat.le_of_ble_eq_true rfl⟩) (wp_V (hK.sub (tys' := []) [] rfl) (hP.sub (ws' := [(q3, .inr (0, [.long f0, .long f1, .long f2, .long f3, .long f4, .long f5]))]) [3] rfl) (hD.sub (ws' := [(q3, .inr (0, [.long f0, .long f1, .long f2, .long f3, .long f4, .long f5]))]) [3] (by decide) rfl)  rfl rfl) rfl rfl hl.1 rfl (lv_room (Nat.le_of_ble_eq_true rfl)) dX2_work_47 ⟨Nat.le_of_ble_eq_true rfl, Nat.le_of_ble_eq_true rfl⟩) hP hD hS hA [3] [0, 1, 2] [0, 1, 2, 3] rfl rfl rfl (by decide) rfl rfl (fun H locs hP hD hS => ?_)
          refine lv_aload_n hx hb dX2_work_50 rfl (lv_at hl 0 rfl) ?_
          refine va_get (D := (dC, dI)) (ci := 1) (v := .ref q3) (C := RX2) (T := TX2) (N := 3) hx hb hts hi_RX2 hown hK hP 0 rfl rfl 2 (by decide) hw0 (fun _ h9 => h9) rfl dX2_work_51 ?_
          refine lv_iload_n hx hb dX2_work_54 rfl (lv_at hl 2 rfl) ?_
          refine lv_iload hx hb dX2_work_55 (lv_at hl 5 rfl) ?_
          refine wq_callv (wc := [(q3, .inr (0, [.long (lo p2.toNatClampNeg), .long (hi p2.toNatClampNeg), .long (lo p3.toNatClampNeg), .long (hi p3.toNatClampNeg), .long f4, .long f5]))]) (wr := [(h0, .inr (1, [.ref q1, .ref q2, .ref q3])), (q1, .inl (cA, 16, .inr (.inl lo))), (q2, .inl (cB, 16, .inr (.inl hi)))]) (w2 := [(h0, .inr (1, [.ref q1, .ref q2, .ref q3])), (q1, .inl (cA, 16, .inr (.inl lo))), (q2, .inl (cB, 16, .inr (.inl hi))), (q3, .inr (0, [.long ((s_X1_make (lo p2.toNatClampNeg) (hi p2.toNatClampNeg) (lo p3.toNatClampNeg) (hi p3.toNatClampNeg) p1 p4).1), .long ((s_X1_make (lo p2.toNatClampNeg) (hi p2.toNatClampNeg) (lo p3.toNatClampNeg) (hi p3.toNatClampNeg) p1 p4).2.1), .long ((s_X1_make (lo p2.toNatClampNeg) (hi p2.toNatClampNeg) (lo p3.toNatClampNeg) (hi p3.toNatClampNeg) p1 p4).2.2.1), .long ((s_X1_make (lo p2.toNatClampNeg) (hi p2.toNatClampNeg) (lo p3.toNatClampNeg) (hi p3.toNatClampNeg) p1 p4).2.2.2.1), .long ((s_X1_make (lo p2.toNatClampNeg) (hi p2.toNatClampNeg) (lo p3.toNatClampNeg) (hi p3.toNatClampNeg) p1 p4).2.2.2.2.1), .long ((s_X1_make (lo p2.toNatClampNeg) (hi p2.toNatClampNeg) (lo p3.toNatClampNeg) (hi p3.toNatClampNeg) p1 p4).2.2.2.2.2)]))]) (va_runV (As := [.int p1, .int p4]) (rest := []) ⟨hx, hb, hml, hown, hts⟩ (c_X1_make l dC dI q3 H.size (lo p2.toNatClampNeg) (hi p2.toNatClampNeg) (lo p3.toNatClampNeg) (hi p3.toNatClampNeg) f4 f5 p1 p4) (cwV 2 hts gX2_work_X1_make rfl rfl rfl ydV_X1_make ⟨Nat.le_of_ble_eq_true rfl, Nat.le_of_ble_eq_true rfl⟩) (wp_V (hK.sub (tys' := []) [] rfl) (hP.sub (ws' := [(q3, .inr (0, [.long (lo p2.toNatClampNeg), .long (hi p2.toNatClampNeg), .long (lo p3.toNatClampNeg), .long (hi p3.toNatClampNeg), .long f4, .long f5]))]) [3] rfl) (hD.sub (ws' := [(q3, .inr (0, [.long (lo p2.toNatClampNeg), .long (hi p2.toNatClampNeg), .long (lo p3.toNatClampNeg), .long (hi p3.toNatClampNeg), .long f4, .long f5]))]) [3] (by decide) rfl)  rfl rfl) rfl rfl hl.1 rfl (lv_room (Nat.le_of_ble_eq_true rfl)) dX2_work_57 ⟨Nat.le_of_ble_eq_true rfl, Nat.le_of_ble_eq_true rfl⟩) hP hD hS hA [3] [0, 1, 2] [0, 1, 2, 3] rfl rfl rfl (by decide) rfl rfl (fun H locs hP hD hS => ?_)
          refine lv_aload_n hx hb dX2_work_60 rfl (lv_at hl 0 rfl) ?_
          refine va_get (D := (dC, dI)) (ci := 1) (v := .ref q1) (C := RX2) (T := TX2) (N := 3) hx hb hts hi_RX2 hown hK hP 0 rfl rfl 0 (by decide) hw2 (fun _ h9 => h9) rfl dX2_work_61 ?_
          refine lv_iload_n hx hb dX2_work_64 rfl (lv_at hl 1 rfl) ?_
          refine lv_aload_n hx hb dX2_work_65 rfl (lv_at hl 0 rfl) ?_
          refine va_get (D := (dC, dI)) (ci := 1) (v := .ref q3) (C := RX2) (T := TX2) (N := 3) hx hb hts hi_RX2 hown hK hP 0 rfl rfl 2 (by decide) hw0 (fun _ h9 => h9) rfl dX2_work_66 ?_
          refine va_getN (D := (dC, dI)) (ci := 0) (v := .long ((s_X1_make (lo p2.toNatClampNeg) (hi p2.toNatClampNeg) (lo p3.toNatClampNeg) (hi p3.toNatClampNeg) p1 p4).2.2.2.2.1)) (C := RX1) (T := TX1) (N := 6) hx hb hts hi_RX1 hown hK hP 3 rfl rfl 4 (by decide) (va_Nw.use rfl ham.2.2.2.2.1) (fun _ h9 => h9) rfl dX2_work_69 ?_
          refine va_last hx hb hK hP hD hS 1 0 rfl rfl (in_need c1) dX2_work_72 (fun H locs hP hD hS => ?_)
          have hP : va_P (dC, dI) vwCl [(h0, .inr (1, [.ref q1, .ref q2, .ref q3])), (q1, .inl (cA, 16, .inr (.inl (vp_updL lo p0.toNatClampNeg ((s_X1_make (lo p2.toNatClampNeg) (hi p2.toNatClampNeg) (lo p3.toNatClampNeg) (hi p3.toNatClampNeg) p1 p4).2.2.2.2.1))))), (q2, .inl (cB, 16, .inr (.inl hi))), (q3, .inr (0, [.long ((s_X1_make (lo p2.toNatClampNeg) (hi p2.toNatClampNeg) (lo p3.toNatClampNeg) (hi p3.toNatClampNeg) p1 p4).1), .long ((s_X1_make (lo p2.toNatClampNeg) (hi p2.toNatClampNeg) (lo p3.toNatClampNeg) (hi p3.toNatClampNeg) p1 p4).2.1), .long ((s_X1_make (lo p2.toNatClampNeg) (hi p2.toNatClampNeg) (lo p3.toNatClampNeg) (hi p3.toNatClampNeg) p1 p4).2.2.1), .long ((s_X1_make (lo p2.toNatClampNeg) (hi p2.toNatClampNeg) (lo p3.toNatClampNeg) (hi p3.toNatClampNeg) p1 p4).2.2.2.1), .long ((s_X1_make (lo p2.toNatClampNeg) (hi p2.toNatClampNeg) (lo p3.toNatClampNeg) (hi p3.toNatClampNeg) p1 p4).2.2.2.2.1), .long ((s_X1_make (lo p2.toNatClampNeg) (hi p2.toNatClampNeg) (lo p3.toNatClampNeg) (hi p3.toNatClampNeg) p1 p4).2.2.2.2.2)]))] H := hP
          have hD : va_D A [(h0, .inr (1, [.ref q1, .ref q2, .ref q3])), (q1, .inl (cA, 16, .inr (.inl (vp_updL lo p0.toNatClampNeg ((s_X1_make (lo p2.toNatClampNeg) (hi p2.toNatClampNeg) (lo p3.toNatClampNeg) (hi p3.toNatClampNeg) p1 p4).2.2.2.2.1))))), (q2, .inl (cB, 16, .inr (.inl hi))), (q3, .inr (0, [.long ((s_X1_make (lo p2.toNatClampNeg) (hi p2.toNatClampNeg) (lo p3.toNatClampNeg) (hi p3.toNatClampNeg) p1 p4).1), .long ((s_X1_make (lo p2.toNatClampNeg) (hi p2.toNatClampNeg) (lo p3.toNatClampNeg) (hi p3.toNatClampNeg) p1 p4).2.1), .long ((s_X1_make (lo p2.toNatClampNeg) (hi p2.toNatClampNeg) (lo p3.toNatClampNeg) (hi p3.toNatClampNeg) p1 p4).2.2.1), .long ((s_X1_make (lo p2.toNatClampNeg) (hi p2.toNatClampNeg) (lo p3.toNatClampNeg) (hi p3.toNatClampNeg) p1 p4).2.2.2.1), .long ((s_X1_make (lo p2.toNatClampNeg) (hi p2.toNatClampNeg) (lo p3.toNatClampNeg) (hi p3.toNatClampNeg) p1 p4).2.2.2.2.1), .long ((s_X1_make (lo p2.toNatClampNeg) (hi p2.toNatClampNeg) (lo p3.toNatClampNeg) (hi p3.toNatClampNeg) p1 p4).2.2.2.2.2)]))] := hD
          refine lv_aload_n hx hb dX2_work_73 rfl (lv_at hl 0 rfl) ?_
          refine va_get (D := (dC, dI)) (ci := 1) (v := .ref q2) (C := RX2) (T := TX2) (N := 3) hx hb hts hi_RX2 hown hK hP 0 rfl rfl 1 (by decide) hw3 (fun _ h9 => h9) rfl dX2_work_74 ?_
          refine lv_iload_n hx hb dX2_work_77 rfl (lv_at hl 1 rfl) ?_
          refine lv_aload_n hx hb dX2_work_78 rfl (lv_at hl 0 rfl) ?_
          refine va_get (D := (dC, dI)) (ci := 1) (v := .ref q3) (C := RX2) (T := TX2) (N := 3) hx hb hts hi_RX2 hown hK hP 0 rfl rfl 2 (by decide) hw0 (fun _ h9 => h9) rfl dX2_work_79 ?_
          refine va_getN (D := (dC, dI)) (ci := 0) (v := .long ((s_X1_make (lo p2.toNatClampNeg) (hi p2.toNatClampNeg) (lo p3.toNatClampNeg) (hi p3.toNatClampNeg) p1 p4).2.2.2.2.2)) (C := RX1) (T := TX1) (N := 6) hx hb hts hi_RX1 hown hK hP 3 rfl rfl 5 (by decide) (va_Nw.use rfl ham.2.2.2.2.2.1) (fun _ h9 => h9) rfl dX2_work_82 ?_
          refine va_last hx hb hK hP hD hS 2 1 rfl rfl (in_need c1) dX2_work_85 (fun H locs hP hD hS => ?_)
          have hP : va_P (dC, dI) vwCl [(h0, .inr (1, [.ref q1, .ref q2, .ref q3])), (q1, .inl (cA, 16, .inr (.inl (vp_updL lo p0.toNatClampNeg ((s_X1_make (lo p2.toNatClampNeg) (hi p2.toNatClampNeg) (lo p3.toNatClampNeg) (hi p3.toNatClampNeg) p1 p4).2.2.2.2.1))))), (q2, .inl (cB, 16, .inr (.inl (vp_updL hi p0.toNatClampNeg ((s_X1_make (lo p2.toNatClampNeg) (hi p2.toNatClampNeg) (lo p3.toNatClampNeg) (hi p3.toNatClampNeg) p1 p4).2.2.2.2.2))))), (q3, .inr (0, [.long ((s_X1_make (lo p2.toNatClampNeg) (hi p2.toNatClampNeg) (lo p3.toNatClampNeg) (hi p3.toNatClampNeg) p1 p4).1), .long ((s_X1_make (lo p2.toNatClampNeg) (hi p2.toNatClampNeg) (lo p3.toNatClampNeg) (hi p3.toNatClampNeg) p1 p4).2.1), .long ((s_X1_make (lo p2.toNatClampNeg) (hi p2.toNatClampNeg) (lo p3.toNatClampNeg) (hi p3.toNatClampNeg) p1 p4).2.2.1), .long ((s_X1_make (lo p2.toNatClampNeg) (hi p2.toNatClampNeg) (lo p3.toNatClampNeg) (hi p3.toNatClampNeg) p1 p4).2.2.2.1), .long ((s_X1_make (lo p2.toNatClampNeg) (hi p2.toNatClampNeg) (lo p3.toNatClampNeg) (hi p3.toNatClampNeg) p1 p4).2.2.2.2.1), .long ((s_X1_make (lo p2.toNatClampNeg) (hi p2.toNatClampNeg) (lo p3.toNatClampNeg) (hi p3.toNatClampNeg) p1 p4).2.2.2.2.2)]))] H := hP
          have hD : va_D A [(h0, .inr (1, [.ref q1, .ref q2, .ref q3])), (q1, .inl (cA, 16, .inr (.inl (vp_updL lo p0.toNatClampNeg ((s_X1_make (lo p2.toNatClampNeg) (hi p2.toNatClampNeg) (lo p3.toNatClampNeg) (hi p3.toNatClampNeg) p1 p4).2.2.2.2.1))))), (q2, .inl (cB, 16, .inr (.inl (vp_updL hi p0.toNatClampNeg ((s_X1_make (lo p2.toNatClampNeg) (hi p2.toNatClampNeg) (lo p3.toNatClampNeg) (hi p3.toNatClampNeg) p1 p4).2.2.2.2.2))))), (q3, .inr (0, [.long ((s_X1_make (lo p2.toNatClampNeg) (hi p2.toNatClampNeg) (lo p3.toNatClampNeg) (hi p3.toNatClampNeg) p1 p4).1), .long ((s_X1_make (lo p2.toNatClampNeg) (hi p2.toNatClampNeg) (lo p3.toNatClampNeg) (hi p3.toNatClampNeg) p1 p4).2.1), .long ((s_X1_make (lo p2.toNatClampNeg) (hi p2.toNatClampNeg) (lo p3.toNatClampNeg) (hi p3.toNatClampNeg) p1 p4).2.2.1), .long ((s_X1_make (lo p2.toNatClampNeg) (hi p2.toNatClampNeg) (lo p3.toNatClampNeg) (hi p3.toNatClampNeg) p1 p4).2.2.2.1), .long ((s_X1_make (lo p2.toNatClampNeg) (hi p2.toNatClampNeg) (lo p3.toNatClampNeg) (hi p3.toNatClampNeg) p1 p4).2.2.2.2.1), .long ((s_X1_make (lo p2.toNatClampNeg) (hi p2.toNatClampNeg) (lo p3.toNatClampNeg) (hi p3.toNatClampNeg) p1 p4).2.2.2.2.2)]))] := hD
          refine vx_ret ?_
          have es : (s_X2_work lo hi f0 f1 f2 f3 f4 f5 p0 p1 p2 p3 p4) = ((0 : Int32), vp_updL lo p0.toNatClampNeg ((s_X1_make (lo p2.toNatClampNeg) (hi p2.toNatClampNeg) (lo p3.toNatClampNeg) (hi p3.toNatClampNeg) p1 p4).2.2.2.2.1), vp_updL hi p0.toNatClampNeg ((s_X1_make (lo p2.toNatClampNeg) (hi p2.toNatClampNeg) (lo p3.toNatClampNeg) (hi p3.toNatClampNeg) p1 p4).2.2.2.2.2), (s_X1_make (lo p2.toNatClampNeg) (hi p2.toNatClampNeg) (lo p3.toNatClampNeg) (hi p3.toNatClampNeg) p1 p4).1, (s_X1_make (lo p2.toNatClampNeg) (hi p2.toNatClampNeg) (lo p3.toNatClampNeg) (hi p3.toNatClampNeg) p1 p4).2.1, (s_X1_make (lo p2.toNatClampNeg) (hi p2.toNatClampNeg) (lo p3.toNatClampNeg) (hi p3.toNatClampNeg) p1 p4).2.2.1, (s_X1_make (lo p2.toNatClampNeg) (hi p2.toNatClampNeg) (lo p3.toNatClampNeg) (hi p3.toNatClampNeg) p1 p4).2.2.2.1, (s_X1_make (lo p2.toNatClampNeg) (hi p2.toNatClampNeg) (lo p3.toNatClampNeg) (hi p3.toNatClampNeg) p1 p4).2.2.2.2.1, (s_X1_make (lo p2.toNatClampNeg) (hi p2.toNatClampNeg) (lo p3.toNatClampNeg) (hi p3.toNatClampNeg) p1 p4).2.2.2.2.2) := by unfold s_X2_work; rw [if_neg c1, if_neg c2, if_neg c3, if_neg c4]
          exact W.vret hx hb hr (fun t ht hW => by rw [es]; exact ⟨rfl, by rw [ht]; exact hP, hD, hS.F ht, rfl⟩) hS.2.2 dX2_work_86

def s_X2_exact (p0 : Int32) (p1 : Int64) (p2 : Int64) (p3 : Int32) : Int32 × Int64 :=
  if (s_X2_needInstruction p0) = (1 : Int32) then ((1 : Int32), (0 : Int64))
  else ((0 : Int32), (s_X0_make p0 p1 p2 p3))
set_option maxHeartbeats 4000000 in
set_option maxRecDepth 100000 in
theorem c_X2_exact (l : Launch) (S0 : Nat) (hst : l.stackTraces = false) (dC : Nat → ClassId) (dI : Nat → Nat → Nat) (h0 q1 q2 q3 : Nat) (p0 : Int32) (p1 : Int64) (p2 : Int64) (p3 : Int32) : vx_Met l yX2_exact wsX2_exact ({ frames := 7, cells := 1, slots := 6, locals := 124 }) (trp S0 (dC, dI) vwCl [] [.ref h0, .int p0, .long p1, .long p2, .int p3] [(h0, .inr (1, [.ref q1, .ref q2, .ref q3]))]) (tq ((s_X2_exact p0 p1 p2 p3).1) (some (.long ((s_X2_exact p0 p1 p2 p3).2)))) (xq ((s_X2_exact p0 p1 p2 p3).1) n_IAE) 1 6 (fun _ => False) := by
  refine vx_ofW (cc := cX2_exact) (maxL := 7) (ret := (some .long)) (by decide) rfl ?_
  intro p e s m args below meth c s₁ B hml htab hv
  obtain ⟨rfl, hP, hK, ham⟩ := hv
  have hx := B.exec
  have hb := B.bytes
  have hr := B.returns
  have hts := atoms_spec (ws := wsX2_exact) B.pre
  have hown : s.vm.findClass RX2 = some m.cls := findClass_of_methodNamed B.named
  have hlocks := B.notSynchronized
  have hP : va_P (dC, dI) vwCl [(h0, .inr (1, [.ref q1, .ref q2, .ref q3]))] s.heap := hP
  have hl := lv_entry ([.ref h0, .int p0, .long p1, .long p2, .int p3]) (n := 7) (Nat.le_of_ble_eq_true rfl)
  rw [lg_entry_eq]
  generalize (lg_sl ([.ref h0, .int p0, .long p1, .long p2, .int p3]) ++ List.replicate (7 - (lg_sl ([.ref h0, .int p0, .long p1, .long p2, .int p3])).length) Slot.unset).toArray = ls at hl ⊢
  have hl : lv_has ls 7 [(0, .ref h0), (1, .int p0), (2, .long p1), (4, .long p2), (6, .int p3)] := hl
  refine lv_iload_n hx hb dX2_exact_0 rfl (lv_at hl 1 rfl) ?_
  refine tq_callv (vx_runS (As := [.int p0]) (rest := []) ⟨hx, hb, hml, hown, hts⟩ (c_X2_needInstruction l S0 hst p0) (va_cwS 1 hts gX2_exact_X2_needInstruction rfl rfl rfl ydS_X2_needInstruction ⟨Nat.le_of_ble_eq_true rfl, Nat.le_of_ble_eq_true rfl⟩) (tp_S ham) rfl rfl hl.1 rfl (lv_room (Nat.le_of_ble_eq_true rfl)) dX2_exact_1 ⟨Nat.le_of_ble_eq_true rfl, Nat.le_of_ble_eq_true rfl⟩) (fun ce q9 H c1 hz hk hce hcv hcl => ?_) (fun c1 => ?_)
  · have es : (s_X2_exact p0 p1 p2 p3) = ((1 : Int32), (0 : Int64)) := by unfold s_X2_exact; rw [if_pos c1]
    exact vx_out (fun x hx => (htab x hx).elim) hlocks hce hcv hcl (fun t ht _ => by rw [es]; exact ⟨rfl, rfl, by rw [ht]; exact hz, fun q h => by rw [ht]; exact hk q h⟩) (fun z h => nomatch h) (Nat.le_of_ble_eq_true rfl) (Nat.le_of_ble_eq_true rfl)
  · refine lv_iload_n hx hb dX2_exact_4 rfl (lv_at hl 1 rfl) ?_
    refine lv_lload_n hx hb dX2_exact_5 rfl (lv_at hl 2 rfl) ?_
    refine lv_lload hx hb dX2_exact_6 (lv_at hl 3 rfl) ?_
    refine lv_iload hx hb dX2_exact_8 (lv_at hl 4 rfl) ?_
    refine pq_calll (va_runS (As := [.int p0, .long p1, .long p2, .int p3]) (rest := []) ⟨hx, hb, hml, hown, hts⟩ (c_X0_make l p0 p1 p2 p3) (va_cwS 4 hts gX2_exact_X0_make rfl rfl rfl ydS_X0_make ⟨Nat.le_of_ble_eq_true rfl, Nat.le_of_ble_eq_true rfl⟩) ap_S rfl rfl hl.1 rfl (lv_room (Nat.le_of_ble_eq_true rfl)) dX2_exact_10 ⟨Nat.le_of_ble_eq_true rfl, Nat.le_of_ble_eq_true rfl⟩) ?_
    refine vx_ret ?_
    have es : (s_X2_exact p0 p1 p2 p3) = ((0 : Int32), (s_X0_make p0 p1 p2 p3)) := by unfold s_X2_exact; rw [if_neg c1]
    exact W.lret (v := (s_X0_make p0 p1 p2 p3)) hx hb hr (fun t ht hW => by rw [es]; exact ⟨rfl, ht, rfl⟩) (fun q h => nomatch h) dX2_exact_13

def s_X2_cut (lo : Nat → Int64) (hi : Nat → Int64) (p0 : Int32) (p1 : Int32) (p2 : Int32) (p3 : Int32) : Int32 × Int32 × (Nat → Int64) × (Nat → Int64) :=
  if (s_X2_needCondition p0) = (1 : Int32) then ((1 : Int32), (0 : Int32), lo, hi)
  else if (s_X2_needRange p1) = (1 : Int32) then ((1 : Int32), (0 : Int32), lo, hi)
  else if (s_X2_needRange p2) = (1 : Int32) then ((1 : Int32), (0 : Int32), lo, hi)
  else if p1 = p2 then ((1 : Int32), (0 : Int32), lo, hi)
  else if (s_X2_isConst lo hi p1) = (0 : Int32) then (if p3 = (0 : Int32) then ((0 : Int32), (s_X2_cutSo lo hi (ctr p0.toNatClampNeg) p1 p2).1, (s_X2_cutSo lo hi (ctr p0.toNatClampNeg) p1 p2).2.1, (s_X2_cutSo lo hi (ctr p0.toNatClampNeg) p1 p2).2.2)
    else ((0 : Int32), (s_X2_cutSo lo hi p0 p1 p2).1, (s_X2_cutSo lo hi p0 p1 p2).2.1, (s_X2_cutSo lo hi p0 p1 p2).2.2))
  else if (s_X2_isConst lo hi p2) = (0 : Int32) then (if p3 = (0 : Int32) then ((0 : Int32), (s_X2_cutSo lo hi (ctr p0.toNatClampNeg) p1 p2).1, (s_X2_cutSo lo hi (ctr p0.toNatClampNeg) p1 p2).2.1, (s_X2_cutSo lo hi (ctr p0.toNatClampNeg) p1 p2).2.2)
    else ((0 : Int32), (s_X2_cutSo lo hi p0 p1 p2).1, (s_X2_cutSo lo hi p0 p1 p2).2.1, (s_X2_cutSo lo hi p0 p1 p2).2.2))
  else if (s_X0_isSo p0 (lo p1.toNatClampNeg) (lo p2.toNatClampNeg)) = p3 then ((0 : Int32), (1 : Int32), lo, hi)
  else ((0 : Int32), (0 : Int32), lo, hi)
theorem z_X2_cut (lo : Nat → Int64) (hi : Nat → Int64) (p0 : Int32) (p1 : Int32) (p2 : Int32) (p3 : Int32) : (s_X2_cut lo hi p0 p1 p2 p3).2.1 = 0 ∨ (s_X2_cut lo hi p0 p1 p2 p3).2.1 = 1 := by
  unfold s_X2_cut
  by_cases c1 : (s_X2_needCondition p0) = (1 : Int32)
  · rw [if_pos c1]
    exact Or.inl rfl
  · rw [if_neg c1]
    by_cases c2 : (s_X2_needRange p1) = (1 : Int32)
    · rw [if_pos c2]
      exact Or.inl rfl
    · rw [if_neg c2]
      by_cases c3 : (s_X2_needRange p2) = (1 : Int32)
      · rw [if_pos c3]
        exact Or.inl rfl
      · rw [if_neg c3]
        by_cases c4 : p1 = p2
        · rw [if_pos c4]
          exact Or.inl rfl
        · rw [if_neg c4]
          by_cases c5 : (s_X2_isConst lo hi p1) = (0 : Int32)
          · rw [if_pos c5]
            by_cases c6 : p3 = (0 : Int32)
            · rw [if_pos c6]
              exact z_X2_cutSo _ _ _ _ _
            · rw [if_neg c6]
              exact z_X2_cutSo _ _ _ _ _
          · rw [if_neg c5]
            by_cases c7 : (s_X2_isConst lo hi p2) = (0 : Int32)
            · rw [if_pos c7]
              by_cases c8 : p3 = (0 : Int32)
              · rw [if_pos c8]
                exact z_X2_cutSo _ _ _ _ _
              · rw [if_neg c8]
                exact z_X2_cutSo _ _ _ _ _
            · rw [if_neg c7]
              by_cases c9 : (s_X0_isSo p0 (lo p1.toNatClampNeg) (lo p2.toNatClampNeg)) = p3
              · rw [if_pos c9]
                exact Or.inr rfl
              · rw [if_neg c9]
                exact Or.inl rfl
set_option maxHeartbeats 4000000 in
set_option maxRecDepth 100000 in
theorem c_X2_cut (l : Launch) (S0 : Nat) (hst : l.stackTraces = false) (dC : Nat → ClassId) (dI : Nat → Nat → Nat) (cA cB : ClassId) (h0 q1 q2 q3 sz : Nat) (lo : Nat → Int64) (hi : Nat → Int64) (p0 : Int32) (p1 : Int32) (p2 : Int32) (p3 : Int32) : vx_Met l yX2_cut wsX2_cut ({ frames := 7, cells := 4, slots := 24, locals := 102 }) (twp S0 (dC, dI) vwCl [(cA, .long), (cB, .long)] [.ref h0, .int p0, .int p1, .int p2, .int p3] sz [(h0, .inr (1, [.ref q1, .ref q2, .ref q3])), (q1, .inl (cA, 16, .inr (.inl lo))), (q2, .inl (cB, 16, .inr (.inl hi)))]) (twq ((s_X2_cut lo hi p0 p1 p2 p3).1) (some (.int ((s_X2_cut lo hi p0 p1 p2 p3).2.1))) (dC, dI) vwCl [(h0, .inr (1, [.ref q1, .ref q2, .ref q3])), (q1, .inl (cA, 16, .inr (.inl ((s_X2_cut lo hi p0 p1 p2 p3).2.2.1)))), (q2, .inl (cB, 16, .inr (.inl ((s_X2_cut lo hi p0 p1 p2 p3).2.2.2))))] (va_A [(h0, .inr (1, [.ref q1, .ref q2, .ref q3])), (q1, .inl (cA, 16, .inr (.inl lo))), (q2, .inl (cB, 16, .inr (.inl hi)))] sz)) (xq ((s_X2_cut lo hi p0 p1 p2 p3).1) n_IAE) 4 24 (va_A [(h0, .inr (1, [.ref q1, .ref q2, .ref q3])), (q1, .inl (cA, 16, .inr (.inl lo))), (q2, .inl (cB, 16, .inr (.inl hi)))] sz) := by
  refine vx_ofW (cc := cX2_cut) (maxL := 5) (ret := (some .boolean)) (by decide) rfl ?_
  intro p e s m args below meth c s₁ B hml htab hv
  obtain ⟨rfl, hsz, hP, hK, hD0, ham⟩ := hv
  have hx := B.exec
  have hb := B.bytes
  have hr := B.returns
  have hts := atoms_spec (ws := wsX2_cut) B.pre
  have hown : s.vm.findClass RX2 = some m.cls := findClass_of_methodNamed B.named
  have hlocks := B.notSynchronized
  subst hsz
  have hD := hD0.self (sz := s.heap.size)
  generalize hAe : va_A [(h0, .inr (1, [.ref q1, .ref q2, .ref q3])), (q1, .inl (cA, 16, .inr (.inl lo))), (q2, .inl (cB, 16, .inr (.inl hi)))] s.heap.size = A at hD ⊢
  have hA : ∀ q : Nat, s.heap.size ≤ q → A q := fun q h => by rw [← hAe]; exact Or.inr h
  have hS : va_S A s.heap s.heap [] := va_S.rf
  have hP : va_P (dC, dI) vwCl [(h0, .inr (1, [.ref q1, .ref q2, .ref q3])), (q1, .inl (cA, 16, .inr (.inl lo))), (q2, .inl (cB, 16, .inr (.inl hi)))] s.heap := hP
  have hl := lv_entry ([.ref h0, .int p0, .int p1, .int p2, .int p3]) (n := 5) (Nat.le_of_ble_eq_true rfl)
  rw [lg_entry_eq]
  generalize (lg_sl ([.ref h0, .int p0, .int p1, .int p2, .int p3]) ++ List.replicate (5 - (lg_sl ([.ref h0, .int p0, .int p1, .int p2, .int p3])).length) Slot.unset).toArray = ls at hl ⊢
  have hl : lv_has ls 5 [(0, .ref h0), (1, .int p0), (2, .int p1), (3, .int p2), (4, .int p3)] := hl
  have hw0 := hts (.fieldLink RX2 70 "RangeBox$Machine" "CONTRARY" "[I") (List.mem_of_getElem? (i := 4) rfl)
  have hw1 := hts (.fieldLink RX2 9 "RangeBox" "lows" "[J") (List.mem_of_getElem? (i := 3) rfl)
  have hi_RX2 : ∀ w ∈ wsX20, w ∈ wsX2_cut := fun _ h => List.mem_cons_of_mem _ (List.mem_append_left _ (List.mem_append_right _ h))
  have hw3 := hts (.classLink RX2 27 "java/lang/IllegalArgumentException") (List.mem_of_getElem? (i := 1) rfl)
  have hw4 := hts (.initialized "java/lang/IllegalArgumentException") (List.mem_of_getElem? (i := 2) rfl)
  refine lv_iload_n hx hb dX2_cut_0 rfl (lv_at hl 1 rfl) ?_
  refine tq_callv (vx_runS (As := [.int p0]) (rest := []) ⟨hx, hb, hml, hown, hts⟩ (c_X2_needCondition l S0 hst p0) (va_cwS 1 hts gX2_cut_X2_needCondition rfl rfl rfl ydS_X2_needCondition ⟨Nat.le_of_ble_eq_true rfl, Nat.le_of_ble_eq_true rfl⟩) (tp_S ham) rfl rfl hl.1 rfl (lv_room (Nat.le_of_ble_eq_true rfl)) dX2_cut_1 ⟨Nat.le_of_ble_eq_true rfl, Nat.le_of_ble_eq_true rfl⟩) (fun ce q9 H c1 hz hk hce hcv hcl => ?_) (fun c1 => ?_)
  · have es : (s_X2_cut lo hi p0 p1 p2 p3) = ((1 : Int32), (0 : Int32), lo, hi) := by unfold s_X2_cut; rw [if_pos c1]
    exact vx_out (fun x hx => (htab x hx).elim) hlocks hce hcv hcl (fun t ht _ => by rw [es]; exact ⟨rfl, rfl, by rw [ht]; exact hz, fun q h => by rw [ht]; exact hk q h⟩) (fun z h => nomatch h) (Nat.le_of_ble_eq_true rfl) (Nat.le_of_ble_eq_true rfl)
  · refine lv_iload_n hx hb dX2_cut_4 rfl (lv_at hl 2 rfl) ?_
    refine tq_callv (vx_runS (As := [.int p1]) (rest := []) ⟨hx, hb, hml, hown, hts⟩ (c_X2_needRange l S0 hst p1) (va_cwS 1 hts gX2_cut_X2_needRange rfl rfl rfl ydS_X2_needRange ⟨Nat.le_of_ble_eq_true rfl, Nat.le_of_ble_eq_true rfl⟩) (tp_S ham) rfl rfl hl.1 rfl (lv_room (Nat.le_of_ble_eq_true rfl)) dX2_cut_5 ⟨Nat.le_of_ble_eq_true rfl, Nat.le_of_ble_eq_true rfl⟩) (fun ce q9 H c2 hz hk hce hcv hcl => ?_) (fun c2 => ?_)
    · have es : (s_X2_cut lo hi p0 p1 p2 p3) = ((1 : Int32), (0 : Int32), lo, hi) := by unfold s_X2_cut; rw [if_neg c1, if_pos c2]
      exact vx_out (fun x hx => (htab x hx).elim) hlocks hce hcv hcl (fun t ht _ => by rw [es]; exact ⟨rfl, rfl, by rw [ht]; exact hz, fun q h => by rw [ht]; exact hk q h⟩) (fun z h => nomatch h) (Nat.le_of_ble_eq_true rfl) (Nat.le_of_ble_eq_true rfl)
    · refine lv_iload_n hx hb dX2_cut_8 rfl (lv_at hl 3 rfl) ?_
      refine tq_callv (vx_runS (As := [.int p2]) (rest := []) ⟨hx, hb, hml, hown, hts⟩ (c_X2_needRange l S0 hst p2) (va_cwS 1 hts gX2_cut_X2_needRange rfl rfl rfl ydS_X2_needRange ⟨Nat.le_of_ble_eq_true rfl, Nat.le_of_ble_eq_true rfl⟩) (tp_S ham) rfl rfl hl.1 rfl (lv_room (Nat.le_of_ble_eq_true rfl)) dX2_cut_9 ⟨Nat.le_of_ble_eq_true rfl, Nat.le_of_ble_eq_true rfl⟩) (fun ce q9 H c3 hz hk hce hcv hcl => ?_) (fun c3 => ?_)
      · have es : (s_X2_cut lo hi p0 p1 p2 p3) = ((1 : Int32), (0 : Int32), lo, hi) := by unfold s_X2_cut; rw [if_neg c1, if_neg c2, if_pos c3]
        exact vx_out (fun x hx => (htab x hx).elim) hlocks hce hcv hcl (fun t ht _ => by rw [es]; exact ⟨rfl, rfl, by rw [ht]; exact hz, fun q h => by rw [ht]; exact hk q h⟩) (fun z h => nomatch h) (Nat.le_of_ble_eq_true rfl) (Nat.le_of_ble_eq_true rfl)
      · refine lv_iload_n hx hb dX2_cut_12 rfl (lv_at hl 2 rfl) ?_
        refine lv_iload_n hx hb dX2_cut_13 rfl (lv_at hl 3 rfl) ?_
        refine lv_icmp_ne (tgt := 27) hx hb dX2_cut_14 (by decide) (fun c4 => ?_) (fun c4 => ?_)
        · refine lv_aload_n hx hb dX2_cut_27 rfl (lv_at hl 0 rfl) ?_
          refine lv_iload_n hx hb dX2_cut_28 rfl (lv_at hl 2 rfl) ?_
          refine pq_calli (va_runV (As := [.int p1]) (rest := []) ⟨hx, hb, hml, hown, hts⟩ (c_X2_isConst l dC dI cA cB h0 q1 q2 q3 lo hi p1 (in_need c2)) (cwV 1 hts gX2_cut_X2_isConst rfl rfl rfl ydV_X2_isConst ⟨Nat.le_of_ble_eq_true rfl, Nat.le_of_ble_eq_true rfl⟩) (rp_V (hK.sub (tys' := [(cA, .long), (cB, .long)]) [0, 1] rfl) (hP.sub (ws' := [(h0, .inr (1, [.ref q1, .ref q2, .ref q3])), (q1, .inl (cA, 16, .inr (.inl lo))), (q2, .inl (cB, 16, .inr (.inl hi)))]) [0, 1, 2] rfl)  rfl rfl) rfl rfl hl.1 rfl (lv_room (Nat.le_of_ble_eq_true rfl)) dX2_cut_29 ⟨Nat.le_of_ble_eq_true rfl, Nat.le_of_ble_eq_true rfl⟩) ?_
          refine lv_if_eq (tgt := 70) hx hb dX2_cut_32 (by decide) (fun c5 => ?_) (fun c5 => ?_)
          · refine lv_aload_n hx hb dX2_cut_70 rfl (lv_at hl 0 rfl) ?_
            refine lv_iload hx hb dX2_cut_71 (lv_at hl 4 rfl) ?_
            refine lv_if_eq (tgt := 80) hx hb dX2_cut_73 (by decide) (fun c6 => ?_) (fun c6 => ?_)
            · obtain ⟨tC, hZC, hTC⟩ := ham.2.1
              refine va_gets hx hb hZC va_S.rf hown hw0 (fun _ h9 => h9) dX2_cut_80 ?_
              refine lv_iload_n hx hb dX2_cut_83 rfl (lv_at hl 1 rfl) ?_
              refine va_ti (v := .int (ctr p0.toNatClampNeg)) hx hb hTC va_S.rf (in_need11 c1) rfl dX2_cut_84 ?_
              refine lv_iload_n hx hb dX2_cut_85 rfl (lv_at hl 2 rfl) ?_
              refine lv_iload_n hx hb dX2_cut_86 rfl (lv_at hl 3 rfl) ?_
              refine wq_calli (wc := [(h0, .inr (1, [.ref q1, .ref q2, .ref q3])), (q1, .inl (cA, 16, .inr (.inl lo))), (q2, .inl (cB, 16, .inr (.inl hi)))]) (wr := []) (w2 := [(h0, .inr (1, [.ref q1, .ref q2, .ref q3])), (q1, .inl (cA, 16, .inr (.inl ((s_X2_cutSo lo hi (ctr p0.toNatClampNeg) p1 p2).2.1)))), (q2, .inl (cB, 16, .inr (.inl ((s_X2_cutSo lo hi (ctr p0.toNatClampNeg) p1 p2).2.2))))]) (va_runV (As := [.int (ctr p0.toNatClampNeg), .int p1, .int p2]) (rest := []) ⟨hx, hb, hml, hown, hts⟩ (c_X2_cutSo l dC dI cA cB h0 q1 q2 q3 s.heap.size lo hi (ctr p0.toNatClampNeg) p1 p2 (in_need c2) (in_need c3)) (cwV 3 hts gX2_cut_X2_cutSo rfl rfl rfl ydV_X2_cutSo ⟨Nat.le_of_ble_eq_true rfl, Nat.le_of_ble_eq_true rfl⟩) (wp_V (hK.sub (tys' := [(cA, .long), (cB, .long)]) [0, 1] rfl) (hP.sub (ws' := [(h0, .inr (1, [.ref q1, .ref q2, .ref q3])), (q1, .inl (cA, 16, .inr (.inl lo))), (q2, .inl (cB, 16, .inr (.inl hi)))]) [0, 1, 2] rfl) (hD.sub (ws' := [(h0, .inr (1, [.ref q1, .ref q2, .ref q3])), (q1, .inl (cA, 16, .inr (.inl lo))), (q2, .inl (cB, 16, .inr (.inl hi)))]) [0, 1, 2] (by decide) rfl)  rfl rfl) rfl rfl hl.1 rfl (lv_room (Nat.le_of_ble_eq_true rfl)) dX2_cut_87 ⟨Nat.le_of_ble_eq_true rfl, Nat.le_of_ble_eq_true rfl⟩) hP hD hS hA [0, 1, 2] [] [0, 1, 2] rfl rfl rfl (by decide) rfl rfl (fun H locs hP hD hS => ?_)
              refine vx_ret ?_
              refine W.widen (k := 4) (n := 24) (by omega) (by omega) ?_
              have es : (s_X2_cut lo hi p0 p1 p2 p3) = ((0 : Int32), (s_X2_cutSo lo hi (ctr p0.toNatClampNeg) p1 p2).1, (s_X2_cutSo lo hi (ctr p0.toNatClampNeg) p1 p2).2.1, (s_X2_cutSo lo hi (ctr p0.toNatClampNeg) p1 p2).2.2) := by unfold s_X2_cut; rw [if_neg c1, if_neg c2, if_neg c3, if_neg c4, if_pos c5, if_pos c6]
              exact W.zret (v := (s_X2_cutSo lo hi (ctr p0.toNatClampNeg) p1 p2).1) hx hb hr (pz_01 (z_X2_cutSo _ _ _ _ _)) (fun t ht hW => by rw [es]; exact ⟨rfl, by rw [ht]; exact hP, hD, hS.F ht, rfl⟩) hS.2.2 dX2_cut_90
            · refine lv_iload_n hx hb dX2_cut_76 rfl (lv_at hl 1 rfl) ?_
              refine lv_goto (tgt := 85) hx hb dX2_cut_77 (by decide) ?_
              refine lv_iload_n hx hb dX2_cut_85 rfl (lv_at hl 2 rfl) ?_
              refine lv_iload_n hx hb dX2_cut_86 rfl (lv_at hl 3 rfl) ?_
              refine wq_calli (wc := [(h0, .inr (1, [.ref q1, .ref q2, .ref q3])), (q1, .inl (cA, 16, .inr (.inl lo))), (q2, .inl (cB, 16, .inr (.inl hi)))]) (wr := []) (w2 := [(h0, .inr (1, [.ref q1, .ref q2, .ref q3])), (q1, .inl (cA, 16, .inr (.inl ((s_X2_cutSo lo hi p0 p1 p2).2.1)))), (q2, .inl (cB, 16, .inr (.inl ((s_X2_cutSo lo hi p0 p1 p2).2.2))))]) (va_runV (As := [.int p0, .int p1, .int p2]) (rest := []) ⟨hx, hb, hml, hown, hts⟩ (c_X2_cutSo l dC dI cA cB h0 q1 q2 q3 s.heap.size lo hi p0 p1 p2 (in_need c2) (in_need c3)) (cwV 3 hts gX2_cut_X2_cutSo rfl rfl rfl ydV_X2_cutSo ⟨Nat.le_of_ble_eq_true rfl, Nat.le_of_ble_eq_true rfl⟩) (wp_V (hK.sub (tys' := [(cA, .long), (cB, .long)]) [0, 1] rfl) (hP.sub (ws' := [(h0, .inr (1, [.ref q1, .ref q2, .ref q3])), (q1, .inl (cA, 16, .inr (.inl lo))), (q2, .inl (cB, 16, .inr (.inl hi)))]) [0, 1, 2] rfl) (hD.sub (ws' := [(h0, .inr (1, [.ref q1, .ref q2, .ref q3])), (q1, .inl (cA, 16, .inr (.inl lo))), (q2, .inl (cB, 16, .inr (.inl hi)))]) [0, 1, 2] (by decide) rfl)  rfl rfl) rfl rfl hl.1 rfl (lv_room (Nat.le_of_ble_eq_true rfl)) dX2_cut_87 ⟨Nat.le_of_ble_eq_true rfl, Nat.le_of_ble_eq_true rfl⟩) hP hD hS hA [0, 1, 2] [] [0, 1, 2] rfl rfl rfl (by decide) rfl rfl (fun H locs hP hD hS => ?_)
              refine vx_ret ?_
              refine W.widen (k := 4) (n := 24) (by omega) (by omega) ?_
              have es : (s_X2_cut lo hi p0 p1 p2 p3) = ((0 : Int32), (s_X2_cutSo lo hi p0 p1 p2).1, (s_X2_cutSo lo hi p0 p1 p2).2.1, (s_X2_cutSo lo hi p0 p1 p2).2.2) := by unfold s_X2_cut; rw [if_neg c1, if_neg c2, if_neg c3, if_neg c4, if_pos c5, if_neg c6]
              exact W.zret (v := (s_X2_cutSo lo hi p0 p1 p2).1) hx hb hr (pz_01 (z_X2_cutSo _ _ _ _ _)) (fun t ht hW => by rw [es]; exact ⟨rfl, by rw [ht]; exact hP, hD, hS.F ht, rfl⟩) hS.2.2 dX2_cut_90
          · refine lv_aload_n hx hb dX2_cut_35 rfl (lv_at hl 0 rfl) ?_
            refine lv_iload_n hx hb dX2_cut_36 rfl (lv_at hl 3 rfl) ?_
            refine pq_calli (va_runV (As := [.int p2]) (rest := []) ⟨hx, hb, hml, hown, hts⟩ (c_X2_isConst l dC dI cA cB h0 q1 q2 q3 lo hi p2 (in_need c3)) (cwV 1 hts gX2_cut_X2_isConst rfl rfl rfl ydV_X2_isConst ⟨Nat.le_of_ble_eq_true rfl, Nat.le_of_ble_eq_true rfl⟩) (rp_V (hK.sub (tys' := [(cA, .long), (cB, .long)]) [0, 1] rfl) (hP.sub (ws' := [(h0, .inr (1, [.ref q1, .ref q2, .ref q3])), (q1, .inl (cA, 16, .inr (.inl lo))), (q2, .inl (cB, 16, .inr (.inl hi)))]) [0, 1, 2] rfl)  rfl rfl) rfl rfl hl.1 rfl (lv_room (Nat.le_of_ble_eq_true rfl)) dX2_cut_37 ⟨Nat.le_of_ble_eq_true rfl, Nat.le_of_ble_eq_true rfl⟩) ?_
            refine lv_if_eq (tgt := 70) hx hb dX2_cut_40 (by decide) (fun c7 => ?_) (fun c7 => ?_)
            · refine lv_aload_n hx hb dX2_cut_70 rfl (lv_at hl 0 rfl) ?_
              refine lv_iload hx hb dX2_cut_71 (lv_at hl 4 rfl) ?_
              refine lv_if_eq (tgt := 80) hx hb dX2_cut_73 (by decide) (fun c8 => ?_) (fun c8 => ?_)
              · obtain ⟨tC, hZC, hTC⟩ := ham.2.1
                refine va_gets hx hb hZC va_S.rf hown hw0 (fun _ h9 => h9) dX2_cut_80 ?_
                refine lv_iload_n hx hb dX2_cut_83 rfl (lv_at hl 1 rfl) ?_
                refine va_ti (v := .int (ctr p0.toNatClampNeg)) hx hb hTC va_S.rf (in_need11 c1) rfl dX2_cut_84 ?_
                refine lv_iload_n hx hb dX2_cut_85 rfl (lv_at hl 2 rfl) ?_
                refine lv_iload_n hx hb dX2_cut_86 rfl (lv_at hl 3 rfl) ?_
                refine wq_calli (wc := [(h0, .inr (1, [.ref q1, .ref q2, .ref q3])), (q1, .inl (cA, 16, .inr (.inl lo))), (q2, .inl (cB, 16, .inr (.inl hi)))]) (wr := []) (w2 := [(h0, .inr (1, [.ref q1, .ref q2, .ref q3])), (q1, .inl (cA, 16, .inr (.inl ((s_X2_cutSo lo hi (ctr p0.toNatClampNeg) p1 p2).2.1)))), (q2, .inl (cB, 16, .inr (.inl ((s_X2_cutSo lo hi (ctr p0.toNatClampNeg) p1 p2).2.2))))]) (va_runV (As := [.int (ctr p0.toNatClampNeg), .int p1, .int p2]) (rest := []) ⟨hx, hb, hml, hown, hts⟩ (c_X2_cutSo l dC dI cA cB h0 q1 q2 q3 s.heap.size lo hi (ctr p0.toNatClampNeg) p1 p2 (in_need c2) (in_need c3)) (cwV 3 hts gX2_cut_X2_cutSo rfl rfl rfl ydV_X2_cutSo ⟨Nat.le_of_ble_eq_true rfl, Nat.le_of_ble_eq_true rfl⟩) (wp_V (hK.sub (tys' := [(cA, .long), (cB, .long)]) [0, 1] rfl) (hP.sub (ws' := [(h0, .inr (1, [.ref q1, .ref q2, .ref q3])), (q1, .inl (cA, 16, .inr (.inl lo))), (q2, .inl (cB, 16, .inr (.inl hi)))]) [0, 1, 2] rfl) (hD.sub (ws' := [(h0, .inr (1, [.ref q1, .ref q2, .ref q3])), (q1, .inl (cA, 16, .inr (.inl lo))), (q2, .inl (cB, 16, .inr (.inl hi)))]) [0, 1, 2] (by decide) rfl)  rfl rfl) rfl rfl hl.1 rfl (lv_room (Nat.le_of_ble_eq_true rfl)) dX2_cut_87 ⟨Nat.le_of_ble_eq_true rfl, Nat.le_of_ble_eq_true rfl⟩) hP hD hS hA [0, 1, 2] [] [0, 1, 2] rfl rfl rfl (by decide) rfl rfl (fun H locs hP hD hS => ?_)
                refine vx_ret ?_
                refine W.widen (k := 4) (n := 24) (by omega) (by omega) ?_
                have es : (s_X2_cut lo hi p0 p1 p2 p3) = ((0 : Int32), (s_X2_cutSo lo hi (ctr p0.toNatClampNeg) p1 p2).1, (s_X2_cutSo lo hi (ctr p0.toNatClampNeg) p1 p2).2.1, (s_X2_cutSo lo hi (ctr p0.toNatClampNeg) p1 p2).2.2) := by unfold s_X2_cut; rw [if_neg c1, if_neg c2, if_neg c3, if_neg c4, if_neg c5, if_pos c7, if_pos c8]
                exact W.zret (v := (s_X2_cutSo lo hi (ctr p0.toNatClampNeg) p1 p2).1) hx hb hr (pz_01 (z_X2_cutSo _ _ _ _ _)) (fun t ht hW => by rw [es]; exact ⟨rfl, by rw [ht]; exact hP, hD, hS.F ht, rfl⟩) hS.2.2 dX2_cut_90
              · refine lv_iload_n hx hb dX2_cut_76 rfl (lv_at hl 1 rfl) ?_
                refine lv_goto (tgt := 85) hx hb dX2_cut_77 (by decide) ?_
                refine lv_iload_n hx hb dX2_cut_85 rfl (lv_at hl 2 rfl) ?_
                refine lv_iload_n hx hb dX2_cut_86 rfl (lv_at hl 3 rfl) ?_
                refine wq_calli (wc := [(h0, .inr (1, [.ref q1, .ref q2, .ref q3])), (q1, .inl (cA, 16, .inr (.inl lo))), (q2, .inl (cB, 16, .inr (.inl hi)))]) (wr := []) (w2 := [(h0, .inr (1, [.ref q1, .ref q2, .ref q3])), (q1, .inl (cA, 16, .inr (.inl ((s_X2_cutSo lo hi p0 p1 p2).2.1)))), (q2, .inl (cB, 16, .inr (.inl ((s_X2_cutSo lo hi p0 p1 p2).2.2))))]) (va_runV (As := [.int p0, .int p1, .int p2]) (rest := []) ⟨hx, hb, hml, hown, hts⟩ (c_X2_cutSo l dC dI cA cB h0 q1 q2 q3 s.heap.size lo hi p0 p1 p2 (in_need c2) (in_need c3)) (cwV 3 hts gX2_cut_X2_cutSo rfl rfl rfl ydV_X2_cutSo ⟨Nat.le_of_ble_eq_true rfl, Nat.le_of_ble_eq_true rfl⟩) (wp_V (hK.sub (tys' := [(cA, .long), (cB, .long)]) [0, 1] rfl) (hP.sub (ws' := [(h0, .inr (1, [.ref q1, .ref q2, .ref q3])), (q1, .inl (cA, 16, .inr (.inl lo))), (q2, .inl (cB, 16, .inr (.inl hi)))]) [0, 1, 2] rfl) (hD.sub (ws' := [(h0, .inr (1, [.ref q1, .ref q2, .ref q3])), (q1, .inl (cA, 16, .inr (.inl lo))), (q2, .inl (cB, 16, .inr (.inl hi)))]) [0, 1, 2] (by decide) rfl)  rfl rfl) rfl rfl hl.1 rfl (lv_room (Nat.le_of_ble_eq_true rfl)) dX2_cut_87 ⟨Nat.le_of_ble_eq_true rfl, Nat.le_of_ble_eq_true rfl⟩) hP hD hS hA [0, 1, 2] [] [0, 1, 2] rfl rfl rfl (by decide) rfl rfl (fun H locs hP hD hS => ?_)
                refine vx_ret ?_
                refine W.widen (k := 4) (n := 24) (by omega) (by omega) ?_
                have es : (s_X2_cut lo hi p0 p1 p2 p3) = ((0 : Int32), (s_X2_cutSo lo hi p0 p1 p2).1, (s_X2_cutSo lo hi p0 p1 p2).2.1, (s_X2_cutSo lo hi p0 p1 p2).2.2) := by unfold s_X2_cut; rw [if_neg c1, if_neg c2, if_neg c3, if_neg c4, if_neg c5, if_pos c7, if_neg c8]
                exact W.zret (v := (s_X2_cutSo lo hi p0 p1 p2).1) hx hb hr (pz_01 (z_X2_cutSo _ _ _ _ _)) (fun t ht hW => by rw [es]; exact ⟨rfl, by rw [ht]; exact hP, hD, hS.F ht, rfl⟩) hS.2.2 dX2_cut_90
            · refine lv_iload_n hx hb dX2_cut_43 rfl (lv_at hl 1 rfl) ?_
              refine lv_aload_n hx hb dX2_cut_44 rfl (lv_at hl 0 rfl) ?_
              refine va_get (D := (dC, dI)) (ci := 1) (v := .ref q1) (C := RX2) (T := TX2) (N := 3) hx hb hts hi_RX2 hown hK hP 0 rfl rfl 0 (by decide) hw1 (fun _ h9 => h9) rfl dX2_cut_45 ?_
              refine lv_iload_n hx hb dX2_cut_48 rfl (lv_at hl 2 rfl) ?_
              refine va_lald hx hb hK hP 1 0 rfl rfl (in_need c2) dX2_cut_49 ?_
              refine lv_aload_n hx hb dX2_cut_50 rfl (lv_at hl 0 rfl) ?_
              refine va_get (D := (dC, dI)) (ci := 1) (v := .ref q1) (C := RX2) (T := TX2) (N := 3) hx hb hts hi_RX2 hown hK hP 0 rfl rfl 0 (by decide) hw1 (fun _ h9 => h9) rfl dX2_cut_51 ?_
              refine lv_iload_n hx hb dX2_cut_54 rfl (lv_at hl 3 rfl) ?_
              refine va_lald hx hb hK hP 1 0 rfl rfl (in_need c3) dX2_cut_55 ?_
              refine pq_calli (va_runS (As := [.int p0, .long (lo p1.toNatClampNeg), .long (lo p2.toNatClampNeg)]) (rest := []) ⟨hx, hb, hml, hown, hts⟩ (c_X0_isSo l p0 (lo p1.toNatClampNeg) (lo p2.toNatClampNeg)) (va_cwS 3 hts gX2_cut_X0_isSo rfl rfl rfl ydS_X0_isSo ⟨Nat.le_of_ble_eq_true rfl, Nat.le_of_ble_eq_true rfl⟩) ap_S rfl rfl hl.1 rfl (lv_room (Nat.le_of_ble_eq_true rfl)) dX2_cut_56 ⟨Nat.le_of_ble_eq_true rfl, Nat.le_of_ble_eq_true rfl⟩) ?_
              refine lv_iload hx hb dX2_cut_59 (lv_at hl 4 rfl) ?_
              refine lv_icmp_ne (tgt := 68) hx hb dX2_cut_61 (by decide) (fun c9 => ?_) (fun c9 => ?_)
              · refine lv_iconst (v := (0 : Int32)) hx hb dX2_cut_68 (by decide) ?_
                refine vx_ret ?_
                refine W.widen (k := 4) (n := 24) (by omega) (by omega) ?_
                have es : (s_X2_cut lo hi p0 p1 p2 p3) = ((0 : Int32), (0 : Int32), lo, hi) := by unfold s_X2_cut; rw [if_neg c1, if_neg c2, if_neg c3, if_neg c4, if_neg c5, if_neg c7, if_neg c9]
                exact W.zret (v := (0 : Int32)) hx hb hr (rfl) (fun t ht hW => by rw [es]; exact ⟨rfl, by rw [ht]; exact hP, hD, hS.F ht, rfl⟩) hS.2.2 dX2_cut_69
              · refine lv_iconst (v := (1 : Int32)) hx hb dX2_cut_64 (by decide) ?_
                refine lv_goto (tgt := 69) hx hb dX2_cut_65 (by decide) ?_
                refine vx_ret ?_
                refine W.widen (k := 4) (n := 24) (by omega) (by omega) ?_
                have es : (s_X2_cut lo hi p0 p1 p2 p3) = ((0 : Int32), (1 : Int32), lo, hi) := by unfold s_X2_cut; rw [if_neg c1, if_neg c2, if_neg c3, if_neg c4, if_neg c5, if_neg c7, if_pos c9]
                exact W.zret (v := (1 : Int32)) hx hb hr (rfl) (fun t ht hW => by rw [es]; exact ⟨rfl, by rw [ht]; exact hP, hD, hS.F ht, rfl⟩) hS.2.2 dX2_cut_69
        · obtain ⟨sa, hsa⟩ := ham.2.2.2.1.2.2.2.2.1
          have es : (s_X2_cut lo hi p0 p1 p2 p3) = ((1 : Int32), (0 : Int32), lo, hi) := by unfold s_X2_cut; rw [if_neg c1, if_neg c2, if_neg c3, if_pos c4]
          exact vx_throwS (A := fun q => S0 ≤ q) (names := n_chain) hx hb hst hown (by decide) (by decide +kernel) hw3 hw4 hsa (hat_I ham (fun w h => hts w (List.mem_cons_of_mem _ (List.mem_append_right _ h)))) good_I ham.1.1 ham.1.2 va_S.rf (hl.1.trans hml.symm) dX2_cut_17 dX2_cut_20 dX2_cut_21 dX2_cut_23 dX2_cut_26 (fun x hx => (htab x hx).elim) (Nat.le_of_ble_eq_true rfl) (Nat.le_of_ble_eq_true rfl) (Nat.le_of_ble_eq_true rfl) (Nat.le_of_ble_eq_true rfl) hlocks (fun t _ h1 h2 => by rw [es]; exact ⟨rfl, rfl, h1, h2⟩) (fun z h => nomatch h) (Nat.le_of_ble_eq_true rfl) (Nat.le_of_ble_eq_true rfl)

def s_X2_holds (p0 : Int32) (p1 : Int64) (p2 : Int64) : Int32 × Int32 :=
  if (s_X2_needCondition p0) = (1 : Int32) then ((1 : Int32), (0 : Int32))
  else ((0 : Int32), (s_X0_isSo p0 p1 p2))
theorem z_X2_holds (p0 : Int32) (p1 : Int64) (p2 : Int64) : (s_X2_holds p0 p1 p2).2 = 0 ∨ (s_X2_holds p0 p1 p2).2 = 1 := by
  unfold s_X2_holds
  by_cases c1 : (s_X2_needCondition p0) = (1 : Int32)
  · rw [if_pos c1]
    exact Or.inl rfl
  · rw [if_neg c1]
    exact z_X0_isSo _ _ _
set_option maxHeartbeats 4000000 in
set_option maxRecDepth 100000 in
theorem c_X2_holds (l : Launch) (S0 : Nat) (hst : l.stackTraces = false) (dC : Nat → ClassId) (dI : Nat → Nat → Nat) (h0 q1 q2 q3 : Nat) (p0 : Int32) (p1 : Int64) (p2 : Int64) : vx_Met l yX2_holds wsX2_holds ({ frames := 7, cells := 1, slots := 6, locals := 102 }) (trp S0 (dC, dI) vwCl [] [.ref h0, .int p0, .long p1, .long p2] [(h0, .inr (1, [.ref q1, .ref q2, .ref q3]))]) (tq ((s_X2_holds p0 p1 p2).1) (some (.int ((s_X2_holds p0 p1 p2).2)))) (xq ((s_X2_holds p0 p1 p2).1) n_IAE) 1 6 (fun _ => False) := by
  refine vx_ofW (cc := cX2_holds) (maxL := 6) (ret := (some .boolean)) (by decide) rfl ?_
  intro p e s m args below meth c s₁ B hml htab hv
  obtain ⟨rfl, hP, hK, ham⟩ := hv
  have hx := B.exec
  have hb := B.bytes
  have hr := B.returns
  have hts := atoms_spec (ws := wsX2_holds) B.pre
  have hown : s.vm.findClass RX2 = some m.cls := findClass_of_methodNamed B.named
  have hlocks := B.notSynchronized
  have hP : va_P (dC, dI) vwCl [(h0, .inr (1, [.ref q1, .ref q2, .ref q3]))] s.heap := hP
  have hl := lv_entry ([.ref h0, .int p0, .long p1, .long p2]) (n := 6) (Nat.le_of_ble_eq_true rfl)
  rw [lg_entry_eq]
  generalize (lg_sl ([.ref h0, .int p0, .long p1, .long p2]) ++ List.replicate (6 - (lg_sl ([.ref h0, .int p0, .long p1, .long p2])).length) Slot.unset).toArray = ls at hl ⊢
  have hl : lv_has ls 6 [(0, .ref h0), (1, .int p0), (2, .long p1), (4, .long p2)] := hl
  refine lv_iload_n hx hb dX2_holds_0 rfl (lv_at hl 1 rfl) ?_
  refine tq_callv (vx_runS (As := [.int p0]) (rest := []) ⟨hx, hb, hml, hown, hts⟩ (c_X2_needCondition l S0 hst p0) (va_cwS 1 hts gX2_holds_X2_needCondition rfl rfl rfl ydS_X2_needCondition ⟨Nat.le_of_ble_eq_true rfl, Nat.le_of_ble_eq_true rfl⟩) (tp_S ham) rfl rfl hl.1 rfl (lv_room (Nat.le_of_ble_eq_true rfl)) dX2_holds_1 ⟨Nat.le_of_ble_eq_true rfl, Nat.le_of_ble_eq_true rfl⟩) (fun ce q9 H c1 hz hk hce hcv hcl => ?_) (fun c1 => ?_)
  · have es : (s_X2_holds p0 p1 p2) = ((1 : Int32), (0 : Int32)) := by unfold s_X2_holds; rw [if_pos c1]
    exact vx_out (fun x hx => (htab x hx).elim) hlocks hce hcv hcl (fun t ht _ => by rw [es]; exact ⟨rfl, rfl, by rw [ht]; exact hz, fun q h => by rw [ht]; exact hk q h⟩) (fun z h => nomatch h) (Nat.le_of_ble_eq_true rfl) (Nat.le_of_ble_eq_true rfl)
  · refine lv_iload_n hx hb dX2_holds_4 rfl (lv_at hl 1 rfl) ?_
    refine lv_lload_n hx hb dX2_holds_5 rfl (lv_at hl 2 rfl) ?_
    refine lv_lload hx hb dX2_holds_6 (lv_at hl 3 rfl) ?_
    refine pq_calli (va_runS (As := [.int p0, .long p1, .long p2]) (rest := []) ⟨hx, hb, hml, hown, hts⟩ (c_X0_isSo l p0 p1 p2) (va_cwS 3 hts gX2_holds_X0_isSo rfl rfl rfl ydS_X0_isSo ⟨Nat.le_of_ble_eq_true rfl, Nat.le_of_ble_eq_true rfl⟩) ap_S rfl rfl hl.1 rfl (lv_room (Nat.le_of_ble_eq_true rfl)) dX2_holds_8 ⟨Nat.le_of_ble_eq_true rfl, Nat.le_of_ble_eq_true rfl⟩) ?_
    refine vx_ret ?_
    have es : (s_X2_holds p0 p1 p2) = ((0 : Int32), (s_X0_isSo p0 p1 p2)) := by unfold s_X2_holds; rw [if_neg c1]
    exact W.zret (v := (s_X0_isSo p0 p1 p2)) hx hb hr (pz_01 (z_X0_isSo _ _ _)) (fun t ht hW => by rw [es]; exact ⟨rfl, ht, rfl⟩) (fun q h => nomatch h) dX2_holds_11

def s_X2_low (lo : Nat → Int64) (p0 : Int32) : Int32 × Int64 :=
  if (s_X2_needRange p0) = (1 : Int32) then ((1 : Int32), (0 : Int64))
  else ((0 : Int32), lo p0.toNatClampNeg)
set_option maxHeartbeats 4000000 in
set_option maxRecDepth 100000 in
theorem c_X2_low (l : Launch) (S0 : Nat) (hst : l.stackTraces = false) (dC : Nat → ClassId) (dI : Nat → Nat → Nat) (cA cB : ClassId) (h0 q1 q2 q3 : Nat) (lo : Nat → Int64) (hi : Nat → Int64) (p0 : Int32) : vx_Met l yX2_low wsX2_low ({ frames := 7, cells := 1, slots := 6, locals := 102 }) (trp S0 (dC, dI) vwCl [(cA, .long), (cB, .long)] [.ref h0, .int p0] [(h0, .inr (1, [.ref q1, .ref q2, .ref q3])), (q1, .inl (cA, 16, .inr (.inl lo))), (q2, .inl (cB, 16, .inr (.inl hi)))]) (tq ((s_X2_low lo p0).1) (some (.long ((s_X2_low lo p0).2)))) (xq ((s_X2_low lo p0).1) n_IAE) 1 6 (fun _ => False) := by
  refine vx_ofW (cc := cX2_low) (maxL := 2) (ret := (some .long)) (by decide) rfl ?_
  intro p e s m args below meth c s₁ B hml htab hv
  obtain ⟨rfl, hP, hK, ham⟩ := hv
  have hx := B.exec
  have hb := B.bytes
  have hr := B.returns
  have hts := atoms_spec (ws := wsX2_low) B.pre
  have hown : s.vm.findClass RX2 = some m.cls := findClass_of_methodNamed B.named
  have hlocks := B.notSynchronized
  have hP : va_P (dC, dI) vwCl [(h0, .inr (1, [.ref q1, .ref q2, .ref q3])), (q1, .inl (cA, 16, .inr (.inl lo))), (q2, .inl (cB, 16, .inr (.inl hi)))] s.heap := hP
  have hl := lv_entry ([.ref h0, .int p0]) (n := 2) (Nat.le_of_ble_eq_true rfl)
  rw [lg_entry_eq]
  generalize (lg_sl ([.ref h0, .int p0]) ++ List.replicate (2 - (lg_sl ([.ref h0, .int p0])).length) Slot.unset).toArray = ls at hl ⊢
  have hl : lv_has ls 2 [(0, .ref h0), (1, .int p0)] := hl
  have hw0 := hts (.fieldLink RX2 9 "RangeBox" "lows" "[J") (List.mem_of_getElem? (i := 1) rfl)
  have hi_RX2 : ∀ w ∈ wsX20, w ∈ wsX2_low := fun _ h => List.mem_cons_of_mem _ (List.mem_append_left _ (List.mem_append_right _ h))
  refine lv_iload_n hx hb dX2_low_0 rfl (lv_at hl 1 rfl) ?_
  refine tq_callv (vx_runS (As := [.int p0]) (rest := []) ⟨hx, hb, hml, hown, hts⟩ (c_X2_needRange l S0 hst p0) (va_cwS 1 hts gX2_low_X2_needRange rfl rfl rfl ydS_X2_needRange ⟨Nat.le_of_ble_eq_true rfl, Nat.le_of_ble_eq_true rfl⟩) (tp_S ham) rfl rfl hl.1 rfl (lv_room (Nat.le_of_ble_eq_true rfl)) dX2_low_1 ⟨Nat.le_of_ble_eq_true rfl, Nat.le_of_ble_eq_true rfl⟩) (fun ce q9 H c1 hz hk hce hcv hcl => ?_) (fun c1 => ?_)
  · have es : (s_X2_low lo p0) = ((1 : Int32), (0 : Int64)) := by unfold s_X2_low; rw [if_pos c1]
    exact vx_out (fun x hx => (htab x hx).elim) hlocks hce hcv hcl (fun t ht _ => by rw [es]; exact ⟨rfl, rfl, by rw [ht]; exact hz, fun q h => by rw [ht]; exact hk q h⟩) (fun z h => nomatch h) (Nat.le_of_ble_eq_true rfl) (Nat.le_of_ble_eq_true rfl)
  · refine lv_aload_n hx hb dX2_low_4 rfl (lv_at hl 0 rfl) ?_
    refine va_get (D := (dC, dI)) (ci := 1) (v := .ref q1) (C := RX2) (T := TX2) (N := 3) hx hb hts hi_RX2 hown hK hP 0 rfl rfl 0 (by decide) hw0 (fun _ h9 => h9) rfl dX2_low_5 ?_
    refine lv_iload_n hx hb dX2_low_8 rfl (lv_at hl 1 rfl) ?_
    refine va_lald hx hb hK hP 1 0 rfl rfl (in_need c1) dX2_low_9 ?_
    refine vx_ret ?_
    have es : (s_X2_low lo p0) = ((0 : Int32), lo p0.toNatClampNeg) := by unfold s_X2_low; rw [if_neg c1]
    exact W.lret (v := lo p0.toNatClampNeg) hx hb hr (fun t ht hW => by rw [es]; exact ⟨rfl, ht, rfl⟩) (fun q h => nomatch h) dX2_low_10

def s_X2_high (hi : Nat → Int64) (p0 : Int32) : Int32 × Int64 :=
  if (s_X2_needRange p0) = (1 : Int32) then ((1 : Int32), (0 : Int64))
  else ((0 : Int32), hi p0.toNatClampNeg)
set_option maxHeartbeats 4000000 in
set_option maxRecDepth 100000 in
theorem c_X2_high (l : Launch) (S0 : Nat) (hst : l.stackTraces = false) (dC : Nat → ClassId) (dI : Nat → Nat → Nat) (cA cB : ClassId) (h0 q1 q2 q3 : Nat) (lo : Nat → Int64) (hi : Nat → Int64) (p0 : Int32) : vx_Met l yX2_high wsX2_high ({ frames := 7, cells := 1, slots := 6, locals := 102 }) (trp S0 (dC, dI) vwCl [(cA, .long), (cB, .long)] [.ref h0, .int p0] [(h0, .inr (1, [.ref q1, .ref q2, .ref q3])), (q1, .inl (cA, 16, .inr (.inl lo))), (q2, .inl (cB, 16, .inr (.inl hi)))]) (tq ((s_X2_high hi p0).1) (some (.long ((s_X2_high hi p0).2)))) (xq ((s_X2_high hi p0).1) n_IAE) 1 6 (fun _ => False) := by
  refine vx_ofW (cc := cX2_high) (maxL := 2) (ret := (some .long)) (by decide) rfl ?_
  intro p e s m args below meth c s₁ B hml htab hv
  obtain ⟨rfl, hP, hK, ham⟩ := hv
  have hx := B.exec
  have hb := B.bytes
  have hr := B.returns
  have hts := atoms_spec (ws := wsX2_high) B.pre
  have hown : s.vm.findClass RX2 = some m.cls := findClass_of_methodNamed B.named
  have hlocks := B.notSynchronized
  have hP : va_P (dC, dI) vwCl [(h0, .inr (1, [.ref q1, .ref q2, .ref q3])), (q1, .inl (cA, 16, .inr (.inl lo))), (q2, .inl (cB, 16, .inr (.inl hi)))] s.heap := hP
  have hl := lv_entry ([.ref h0, .int p0]) (n := 2) (Nat.le_of_ble_eq_true rfl)
  rw [lg_entry_eq]
  generalize (lg_sl ([.ref h0, .int p0]) ++ List.replicate (2 - (lg_sl ([.ref h0, .int p0])).length) Slot.unset).toArray = ls at hl ⊢
  have hl : lv_has ls 2 [(0, .ref h0), (1, .int p0)] := hl
  have hw0 := hts (.fieldLink RX2 13 "RangeBox" "highs" "[J") (List.mem_of_getElem? (i := 1) rfl)
  have hi_RX2 : ∀ w ∈ wsX20, w ∈ wsX2_high := fun _ h => List.mem_cons_of_mem _ (List.mem_append_left _ (List.mem_append_right _ h))
  refine lv_iload_n hx hb dX2_high_0 rfl (lv_at hl 1 rfl) ?_
  refine tq_callv (vx_runS (As := [.int p0]) (rest := []) ⟨hx, hb, hml, hown, hts⟩ (c_X2_needRange l S0 hst p0) (va_cwS 1 hts gX2_high_X2_needRange rfl rfl rfl ydS_X2_needRange ⟨Nat.le_of_ble_eq_true rfl, Nat.le_of_ble_eq_true rfl⟩) (tp_S ham) rfl rfl hl.1 rfl (lv_room (Nat.le_of_ble_eq_true rfl)) dX2_high_1 ⟨Nat.le_of_ble_eq_true rfl, Nat.le_of_ble_eq_true rfl⟩) (fun ce q9 H c1 hz hk hce hcv hcl => ?_) (fun c1 => ?_)
  · have es : (s_X2_high hi p0) = ((1 : Int32), (0 : Int64)) := by unfold s_X2_high; rw [if_pos c1]
    exact vx_out (fun x hx => (htab x hx).elim) hlocks hce hcv hcl (fun t ht _ => by rw [es]; exact ⟨rfl, rfl, by rw [ht]; exact hz, fun q h => by rw [ht]; exact hk q h⟩) (fun z h => nomatch h) (Nat.le_of_ble_eq_true rfl) (Nat.le_of_ble_eq_true rfl)
  · refine lv_aload_n hx hb dX2_high_4 rfl (lv_at hl 0 rfl) ?_
    refine va_get (D := (dC, dI)) (ci := 1) (v := .ref q2) (C := RX2) (T := TX2) (N := 3) hx hb hts hi_RX2 hown hK hP 0 rfl rfl 1 (by decide) hw0 (fun _ h9 => h9) rfl dX2_high_5 ?_
    refine lv_iload_n hx hb dX2_high_8 rfl (lv_at hl 1 rfl) ?_
    refine va_lald hx hb hK hP 2 1 rfl rfl (in_need c1) dX2_high_9 ?_
    refine vx_ret ?_
    have es : (s_X2_high hi p0) = ((0 : Int32), hi p0.toNatClampNeg) := by unfold s_X2_high; rw [if_neg c1]
    exact W.lret (v := hi p0.toNatClampNeg) hx hb hr (fun t ht hW => by rw [es]; exact ⟨rfl, ht, rfl⟩) (fun q h => nomatch h) dX2_high_10
