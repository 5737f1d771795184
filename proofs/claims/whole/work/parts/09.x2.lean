theorem ydV_X2_cutApart : yX2_cutApart.cls = RX2 ∧ yX2_cutApart.cls ≠ "java/lang/invoke/MethodHandle" ∧ yX2_cutApart.cls ≠ "java/lang/invoke/VarHandle" ∧ (parseMethodDescriptor yX2_cutApart.desc).map (fun d => d.parameters.length) = some 2 := by decide +kernel
theorem ydV_X2_cutBelow : yX2_cutBelow.cls = RX2 ∧ yX2_cutBelow.cls ≠ "java/lang/invoke/MethodHandle" ∧ yX2_cutBelow.cls ≠ "java/lang/invoke/VarHandle" ∧ (parseMethodDescriptor yX2_cutBelow.desc).map (fun d => d.parameters.length) = some 3 := by decide +kernel
theorem ydV_X2_cutSignedBelow : yX2_cutSignedBelow.cls = RX2 ∧ yX2_cutSignedBelow.cls ≠ "java/lang/invoke/MethodHandle" ∧ yX2_cutSignedBelow.cls ≠ "java/lang/invoke/VarHandle" ∧ (parseMethodDescriptor yX2_cutSignedBelow.desc).map (fun d => d.parameters.length) = some 3 := by decide +kernel
theorem ydV_X2_cutToCommon : yX2_cutToCommon.cls = RX2 ∧ yX2_cutToCommon.cls ≠ "java/lang/invoke/MethodHandle" ∧ yX2_cutToCommon.cls ≠ "java/lang/invoke/VarHandle" ∧ (parseMethodDescriptor yX2_cutToCommon.desc).map (fun d => d.parameters.length) = some 2 := by decide +kernel
theorem ydV_X2_dropEnd : yX2_dropEnd.cls = RX2 ∧ yX2_dropEnd.cls ≠ "java/lang/invoke/MethodHandle" ∧ yX2_dropEnd.cls ≠ "java/lang/invoke/VarHandle" ∧ (parseMethodDescriptor yX2_dropEnd.desc).map (fun d => d.parameters.length) = some 2 := by decide +kernel
theorem ydV_X2_isConst : yX2_isConst.cls = RX2 ∧ yX2_isConst.cls ≠ "java/lang/invoke/MethodHandle" ∧ yX2_isConst.cls ≠ "java/lang/invoke/VarHandle" ∧ (parseMethodDescriptor yX2_isConst.desc).map (fun d => d.parameters.length) = some 1 := by decide +kernel
def s_X2_isConst (lo : Nat → Int64) (hi : Nat → Int64) (p0 : Int32) : Int32 :=
  if lo p0.toNatClampNeg = hi p0.toNatClampNeg then (1 : Int32)
  else (0 : Int32)
theorem z_X2_isConst (lo : Nat → Int64) (hi : Nat → Int64) (p0 : Int32) : (s_X2_isConst lo hi p0) = 0 ∨ (s_X2_isConst lo hi p0) = 1 := by
  unfold s_X2_isConst
  by_cases c1 : lo p0.toNatClampNeg = hi p0.toNatClampNeg
  · rw [if_pos c1]
    exact Or.inr rfl
  · rw [if_neg c1]
    exact Or.inl rfl
set_option maxHeartbeats 4000000 in
set_option maxRecDepth 100000 in
theorem c_X2_isConst (l : Launch) (dC : Nat → ClassId) (dI : Nat → Nat → Nat) (cA cB : ClassId) (h0 q1 q2 q3 : Nat) (lo : Nat → Int64) (hi : Nat → Int64) (p0 : Int32) (hk0 : vp_in p0 16) : Met l yX2_isConst wsX2_isConst ({ frames := 0, cells := 0, slots := 0, locals := 0 }) (rp (dC, dI) vwCl [(cA, .long), (cB, .long)] [.ref h0, .int p0] [(h0, .inr (1, [.ref q1, .ref q2, .ref q3])), (q1, .inl (cA, 16, .inr (.inl lo))), (q2, .inl (cB, 16, .inr (.inl hi)))]) (pq (some (.int (s_X2_isConst lo hi p0)))) 0 0 (fun _ => False) := by
  refine Met.ofW (cc := cX2_isConst) (maxL := 2) (ret := (some .boolean)) (by decide) rfl ?_
  intro p e s m args below meth c s₁ B hml hv
  obtain ⟨rfl, hP, hK⟩ := hv
  have hx := B.exec
  have hb := B.bytes
  have hr := B.returns
  have hts := atoms_spec (ws := wsX2_isConst) B.pre
  have hown : s.vm.findClass RX2 = some m.cls := findClass_of_methodNamed B.named
  have hlocks := B.notSynchronized
  have hP : va_P (dC, dI) vwCl [(h0, .inr (1, [.ref q1, .ref q2, .ref q3])), (q1, .inl (cA, 16, .inr (.inl lo))), (q2, .inl (cB, 16, .inr (.inl hi)))] s.heap := hP
  have hl := lv_entry ([.ref h0, .int p0]) (n := 2) (Nat.le_of_ble_eq_true rfl)
  rw [lg_entry_eq]
  generalize (lg_sl ([.ref h0, .int p0]) ++ List.replicate (2 - (lg_sl ([.ref h0, .int p0])).length) Slot.unset).toArray = ls at hl ⊢
  have hl : lv_has ls 2 [(0, .ref h0), (1, .int p0)] := hl
  have hw0 := hts (.fieldLink RX2 9 "RangeBox" "lows" "[J") (List.mem_of_getElem? (i := 1) rfl)
  have hi_RX2 : ∀ w ∈ wsX20, w ∈ wsX2_isConst := fun _ h => List.mem_cons_of_mem _ (List.mem_append_right _ h)
  have hw2 := hts (.fieldLink RX2 13 "RangeBox" "highs" "[J") (List.mem_of_getElem? (i := 2) rfl)
  refine lv_aload_n hx hb dX2_isConst_0 rfl (lv_at hl 0 rfl) ?_
  refine va_get (D := (dC, dI)) (ci := 1) (v := .ref q1) (C := RX2) (T := TX2) (N := 3) hx hb hts hi_RX2 hown hK hP 0 rfl rfl 0 (by decide) hw0 (fun _ h9 => h9) rfl dX2_isConst_1 ?_
  refine lv_iload_n hx hb dX2_isConst_4 rfl (lv_at hl 1 rfl) ?_
  refine va_lald hx hb hK hP 1 0 rfl rfl (hk0) dX2_isConst_5 ?_
  refine lv_aload_n hx hb dX2_isConst_6 rfl (lv_at hl 0 rfl) ?_
  refine va_get (D := (dC, dI)) (ci := 1) (v := .ref q2) (C := RX2) (T := TX2) (N := 3) hx hb hts hi_RX2 hown hK hP 0 rfl rfl 1 (by decide) hw2 (fun _ h9 => h9) rfl dX2_isConst_7 ?_
  refine lv_iload_n hx hb dX2_isConst_10 rfl (lv_at hl 1 rfl) ?_
  refine va_lald hx hb hK hP 2 1 rfl rfl (hk0) dX2_isConst_11 ?_
  refine pl_ne (tgt := 20) hx hb dX2_isConst_12 dX2_isConst_13 (by decide) (fun c1 => ?_) (fun c1 => ?_)
  · refine lv_iconst (v := (0 : Int32)) hx hb dX2_isConst_20 (by decide) ?_
    have es : (s_X2_isConst lo hi p0) = (0 : Int32) := by unfold s_X2_isConst; rw [if_neg c1]
    exact W.zret (v := (0 : Int32)) hx hb hr (rfl) (fun t ht hW => by rw [es]; exact ⟨rfl, ht⟩) (fun q h => nomatch h) dX2_isConst_21
  · refine lv_iconst (v := (1 : Int32)) hx hb dX2_isConst_16 (by decide) ?_
    refine lv_goto (tgt := 21) hx hb dX2_isConst_17 (by decide) ?_
    have es : (s_X2_isConst lo hi p0) = (1 : Int32) := by unfold s_X2_isConst; rw [if_pos c1]
    exact W.zret (v := (1 : Int32)) hx hb hr (rfl) (fun t ht hW => by rw [es]; exact ⟨rfl, ht⟩) (fun q h => nomatch h) dX2_isConst_21

def s_X2_cutToCommon (lo : Nat → Int64) (hi : Nat → Int64) (p0 : Int32) (p1 : Int32) : Int32 × (Nat → Int64) × (Nat → Int64) :=
  if pl_min (hi p0.toNatClampNeg) (hi p1.toNatClampNeg) < pl_max (lo p0.toNatClampNeg) (lo p1.toNatClampNeg) then ((0 : Int32), lo, hi)
  else ((1 : Int32), vp_updL (vp_updL lo p0.toNatClampNeg (pl_max (lo p0.toNatClampNeg) (lo p1.toNatClampNeg))) p1.toNatClampNeg (pl_max (lo p0.toNatClampNeg) (lo p1.toNatClampNeg)), vp_updL (vp_updL hi p0.toNatClampNeg (pl_min (hi p0.toNatClampNeg) (hi p1.toNatClampNeg))) p1.toNatClampNeg (pl_min (hi p0.toNatClampNeg) (hi p1.toNatClampNeg)))
theorem z_X2_cutToCommon (lo : Nat → Int64) (hi : Nat → Int64) (p0 : Int32) (p1 : Int32) : (s_X2_cutToCommon lo hi p0 p1).1 = 0 ∨ (s_X2_cutToCommon lo hi p0 p1).1 = 1 := by
  unfold s_X2_cutToCommon
  by_cases c1 : pl_min (hi p0.toNatClampNeg) (hi p1.toNatClampNeg) < pl_max (lo p0.toNatClampNeg) (lo p1.toNatClampNeg)
  · rw [if_pos c1]
    exact Or.inl rfl
  · rw [if_neg c1]
    exact Or.inr rfl
set_option maxHeartbeats 4000000 in
set_option maxRecDepth 100000 in
theorem c_X2_cutToCommon (l : Launch) (dC : Nat → ClassId) (dI : Nat → Nat → Nat) (cA cB : ClassId) (h0 q1 q2 q3 sz : Nat) (lo : Nat → Int64) (hi : Nat → Int64) (p0 : Int32) (p1 : Int32) (hk0 : vp_in p0 16) (hk1 : vp_in p1 16) : Met l yX2_cutToCommon wsX2_cutToCommon ({ frames := 1, cells := 0, slots := 0, locals := 15 }) (wp9 (dC, dI) vwCl [(cA, .long), (cB, .long)] [.ref h0, .int p0, .int p1] sz [(h0, .inr (1, [.ref q1, .ref q2, .ref q3])), (q1, .inl (cA, 16, .inr (.inl lo))), (q2, .inl (cB, 16, .inr (.inl hi)))]) (wq (some (.int ((s_X2_cutToCommon lo hi p0 p1).1))) (dC, dI) vwCl [(h0, .inr (1, [.ref q1, .ref q2, .ref q3])), (q1, .inl (cA, 16, .inr (.inl ((s_X2_cutToCommon lo hi p0 p1).2.1)))), (q2, .inl (cB, 16, .inr (.inl ((s_X2_cutToCommon lo hi p0 p1).2.2))))] (va_A [(h0, .inr (1, [.ref q1, .ref q2, .ref q3])), (q1, .inl (cA, 16, .inr (.inl lo))), (q2, .inl (cB, 16, .inr (.inl hi)))] sz)) 0 0 (va_A [(h0, .inr (1, [.ref q1, .ref q2, .ref q3])), (q1, .inl (cA, 16, .inr (.inl lo))), (q2, .inl (cB, 16, .inr (.inl hi)))] sz) := by
  refine Met.ofW (cc := cX2_cutToCommon) (maxL := 7) (ret := (some .boolean)) (by decide) rfl ?_
  intro p e s m args below meth c s₁ B hml hv
  obtain ⟨rfl, hsz, hP, hK, hD0⟩ := hv
  have hx := B.exec
  have hb := B.bytes
  have hr := B.returns
  have hts := atoms_spec (ws := wsX2_cutToCommon) B.pre
  have hown : s.vm.findClass RX2 = some m.cls := findClass_of_methodNamed B.named
  have hlocks := B.notSynchronized
  subst hsz
  have hD := hD0.self (sz := s.heap.size)
  generalize hAe : va_A [(h0, .inr (1, [.ref q1, .ref q2, .ref q3])), (q1, .inl (cA, 16, .inr (.inl lo))), (q2, .inl (cB, 16, .inr (.inl hi)))] s.heap.size = A at hD ⊢
  have hA : ∀ q : Nat, s.heap.size ≤ q → A q := fun q h => by rw [← hAe]; exact Or.inr h
  have hS : va_S A s.heap s.heap [] := va_S.rf
  have hP : va_P (dC, dI) vwCl [(h0, .inr (1, [.ref q1, .ref q2, .ref q3])), (q1, .inl (cA, 16, .inr (.inl lo))), (q2, .inl (cB, 16, .inr (.inl hi)))] s.heap := hP
  have hl := lv_entry ([.ref h0, .int p0, .int p1]) (n := 7) (Nat.le_of_ble_eq_true rfl)
  rw [lg_entry_eq]
  generalize (lg_sl ([.ref h0, .int p0, .int p1]) ++ List.replicate (7 - (lg_sl ([.ref h0, .int p0, .int p1])).length) Slot.unset).toArray = ls at hl ⊢
  have hl : lv_has ls 7 [(0, .ref h0), (1, .int p0), (2, .int p1)] := hl
  have hw0 := hts (.fieldLink RX2 9 "RangeBox" "lows" "[J") (List.mem_of_getElem? (i := 1) rfl)
  have hi_RX2 : ∀ w ∈ wsX20, w ∈ wsX2_cutToCommon := fun _ h => List.mem_cons_of_mem _ (List.mem_append_right _ h)
  have hw2 := hts (.methodLink RX2 97 Lib.MathLoose.max_long.x) (List.mem_of_getElem? (i := 2) rfl)
  have hw3 := hts (.static Lib.MathLoose.max_long.x) (List.mem_of_getElem? (i := 3) rfl)
  have hw4 := hts (.initialized "java/lang/Math") (List.mem_of_getElem? (i := 4) rfl)
  have hw5 := hts (.code Lib.MathLoose.max_long.x Lib.MathLoose.max_long.code 4 (some .long)) (List.mem_of_getElem? (i := 5) rfl)
  have hw6 := hts (.fieldLink RX2 13 "RangeBox" "highs" "[J") (List.mem_of_getElem? (i := 6) rfl)
  have hw7 := hts (.methodLink RX2 103 Lib.MathLoose.min_long.x) (List.mem_of_getElem? (i := 7) rfl)
  have hw8 := hts (.static Lib.MathLoose.min_long.x) (List.mem_of_getElem? (i := 8) rfl)
  have hw9 := hts (.code Lib.MathLoose.min_long.x Lib.MathLoose.min_long.code 4 (some .long)) (List.mem_of_getElem? (i := 9) rfl)
  refine lv_aload_n hx hb dX2_cutToCommon_0 rfl (lv_at hl 0 rfl) ?_
  refine va_get (D := (dC, dI)) (ci := 1) (v := .ref q1) (C := RX2) (T := TX2) (N := 3) hx hb hts hi_RX2 hown hK hP 0 rfl rfl 0 (by decide) hw0 (fun _ h9 => h9) rfl dX2_cutToCommon_1 ?_
  refine lv_iload_n hx hb dX2_cutToCommon_4 rfl (lv_at hl 1 rfl) ?_
  refine va_lald hx hb hK hP 1 0 rfl rfl (hk0) dX2_cutToCommon_5 ?_
  refine lv_aload_n hx hb dX2_cutToCommon_6 rfl (lv_at hl 0 rfl) ?_
  refine va_get (D := (dC, dI)) (ci := 1) (v := .ref q1) (C := RX2) (T := TX2) (N := 3) hx hb hts hi_RX2 hown hK hP 0 rfl rfl 0 (by decide) hw0 (fun _ h9 => h9) rfl dX2_cutToCommon_7 ?_
  refine lv_iload_n hx hb dX2_cutToCommon_10 rfl (lv_at hl 2 rfl) ?_
  refine va_lald hx hb hK hP 1 0 rfl rfl (hk1) dX2_cutToCommon_11 ?_
  refine pm_max hx hb (hml.trans hl.1.symm) hown hw2 hw3 hw4 hw5 (Nat.le_of_ble_eq_true rfl) (Nat.le_of_ble_eq_true rfl) (Nat.le_of_ble_eq_true rfl) (Nat.le_of_ble_eq_true rfl) dX2_cutToCommon_12 ?_
  refine lv_lstore_n (lv' := [(3, .long (pl_max (lo p0.toNatClampNeg) (lo p1.toNatClampNeg))), (0, .ref h0), (1, .int p0), (2, .int p1)]) hx hb dX2_cutToCommon_15 rfl hl (by decide) rfl (fun ls hl => ?_)
  refine lv_aload_n hx hb dX2_cutToCommon_16 rfl (lv_at hl 1 rfl) ?_
  refine va_get (D := (dC, dI)) (ci := 1) (v := .ref q2) (C := RX2) (T := TX2) (N := 3) hx hb hts hi_RX2 hown hK hP 0 rfl rfl 1 (by decide) hw6 (fun _ h9 => h9) rfl dX2_cutToCommon_17 ?_
  refine lv_iload_n hx hb dX2_cutToCommon_20 rfl (lv_at hl 2 rfl) ?_
  refine va_lald hx hb hK hP 2 1 rfl rfl (hk0) dX2_cutToCommon_21 ?_
  refine lv_aload_n hx hb dX2_cutToCommon_22 rfl (lv_at hl 1 rfl) ?_
  refine va_get (D := (dC, dI)) (ci := 1) (v := .ref q2) (C := RX2) (T := TX2) (N := 3) hx hb hts hi_RX2 hown hK hP 0 rfl rfl 1 (by decide) hw6 (fun _ h9 => h9) rfl dX2_cutToCommon_23 ?_
  refine lv_iload_n hx hb dX2_cutToCommon_26 rfl (lv_at hl 3 rfl) ?_
  refine va_lald hx hb hK hP 2 1 rfl rfl (hk1) dX2_cutToCommon_27 ?_
  refine pm_min hx hb (hml.trans hl.1.symm) hown hw7 hw8 hw4 hw9 (Nat.le_of_ble_eq_true rfl) (Nat.le_of_ble_eq_true rfl) (Nat.le_of_ble_eq_true rfl) (Nat.le_of_ble_eq_true rfl) dX2_cutToCommon_28 ?_
  refine lv_lstore (lv' := [(5, .long (pl_min (hi p0.toNatClampNeg) (hi p1.toNatClampNeg))), (3, .long (pl_max (lo p0.toNatClampNeg) (lo p1.toNatClampNeg))), (0, .ref h0), (1, .int p0), (2, .int p1)]) hx hb dX2_cutToCommon_31 hl (by decide) rfl (fun ls hl => ?_)
  refine lv_lload_n hx hb dX2_cutToCommon_33 rfl (lv_at hl 1 rfl) ?_
  refine lv_lload hx hb dX2_cutToCommon_34 (lv_at hl 0 rfl) ?_
  refine pl_le (tgt := 42) hx hb dX2_cutToCommon_36 dX2_cutToCommon_37 (by decide) (fun c1 => ?_) (fun c1 => ?_)
  · refine lv_aload_n hx hb dX2_cutToCommon_42 rfl (lv_at hl 2 rfl) ?_
    refine va_get (D := (dC, dI)) (ci := 1) (v := .ref q1) (C := RX2) (T := TX2) (N := 3) hx hb hts hi_RX2 hown hK hP 0 rfl rfl 0 (by decide) hw0 (fun _ h9 => h9) rfl dX2_cutToCommon_43 ?_
    refine lv_iload_n hx hb dX2_cutToCommon_46 rfl (lv_at hl 3 rfl) ?_
    refine lv_lload_n hx hb dX2_cutToCommon_47 rfl (lv_at hl 1 rfl) ?_
    refine va_last hx hb hK hP hD hS 1 0 rfl rfl (hk0) dX2_cutToCommon_48 (fun H locs hP hD hS => ?_)
    have hP : va_P (dC, dI) vwCl [(h0, .inr (1, [.ref q1, .ref q2, .ref q3])), (q1, .inl (cA, 16, .inr (.inl (vp_updL lo p0.toNatClampNeg (pl_max (lo p0.toNatClampNeg) (lo p1.toNatClampNeg)))))), (q2, .inl (cB, 16, .inr (.inl hi)))] H := hP
    have hD : va_D A [(h0, .inr (1, [.ref q1, .ref q2, .ref q3])), (q1, .inl (cA, 16, .inr (.inl (vp_updL lo p0.toNatClampNeg (pl_max (lo p0.toNatClampNeg) (lo p1.toNatClampNeg)))))), (q2, .inl (cB, 16, .inr (.inl hi)))] := hD
    refine lv_aload_n hx hb dX2_cutToCommon_49 rfl (lv_at hl 2 rfl) ?_
    refine va_get (D := (dC, dI)) (ci := 1) (v := .ref q2) (C := RX2) (T := TX2) (N := 3) hx hb hts hi_RX2 hown hK hP 0 rfl rfl 1 (by decide) hw6 (fun _ h9 => h9) rfl dX2_cutToCommon_50 ?_
    refine lv_iload_n hx hb dX2_cutToCommon_53 rfl (lv_at hl 3 rfl) ?_
    refine lv_lload hx hb dX2_cutToCommon_54 (lv_at hl 0 rfl) ?_
    refine va_last hx hb hK hP hD hS 2 1 rfl rfl (hk0) dX2_cutToCommon_56 (fun H locs hP hD hS => ?_)
    have hP : va_P (dC, dI) vwCl [(h0, .inr (1, [.ref q1, .ref q2, .ref q3])), (q1, .inl (cA, 16, .inr (.inl (vp_updL lo p0.toNatClampNeg (pl_max (lo p0.toNatClampNeg) (lo p1.toNatClampNeg)))))), (q2, .inl (cB, 16, .inr (.inl (vp_updL hi p0.toNatClampNeg (pl_min (hi p0.toNatClampNeg) (hi p1.toNatClampNeg))))))] H := hP
    have hD : va_D A [(h0, .inr (1, [.ref q1, .ref q2, .ref q3])), (q1, .inl (cA, 16, .inr (.inl (vp_updL lo p0.toNatClampNeg (pl_max (lo p0.toNatClampNeg) (lo p1.toNatClampNeg)))))), (q2, .inl (cB, 16, .inr (.inl (vp_updL hi p0.toNatClampNeg (pl_min (hi p0.toNatClampNeg) (hi p1.toNatClampNeg))))))] := hD
    refine lv_aload_n hx hb dX2_cutToCommon_57 rfl (lv_at hl 2 rfl) ?_
    refine va_get (D := (dC, dI)) (ci := 1) (v := .ref q1) (C := RX2) (T := TX2) (N := 3) hx hb hts hi_RX2 hown hK hP 0 rfl rfl 0 (by decide) hw0 (fun _ h9 => h9) rfl dX2_cutToCommon_58 ?_
    refine lv_iload_n hx hb dX2_cutToCommon_61 rfl (lv_at hl 4 rfl) ?_
    refine lv_lload_n hx hb dX2_cutToCommon_62 rfl (lv_at hl 1 rfl) ?_
    refine va_last hx hb hK hP hD hS 1 0 rfl rfl (hk1) dX2_cutToCommon_63 (fun H locs hP hD hS => ?_)
    have hP : va_P (dC, dI) vwCl [(h0, .inr (1, [.ref q1, .ref q2, .ref q3])), (q1, .inl (cA, 16, .inr (.inl (vp_updL (vp_updL lo p0.toNatClampNeg (pl_max (lo p0.toNatClampNeg) (lo p1.toNatClampNeg))) p1.toNatClampNeg (pl_max (lo p0.toNatClampNeg) (lo p1.toNatClampNeg)))))), (q2, .inl (cB, 16, .inr (.inl (vp_updL hi p0.toNatClampNeg (pl_min (hi p0.toNatClampNeg) (hi p1.toNatClampNeg))))))] H := hP
    have hD : va_D A [(h0, .inr (1, [.ref q1, .ref q2, .ref q3])), (q1, .inl (cA, 16, .inr (.inl (vp_updL (vp_updL lo p0.toNatClampNeg (pl_max (lo p0.toNatClampNeg) (lo p1.toNatClampNeg))) p1.toNatClampNeg (pl_max (lo p0.toNatClampNeg) (lo p1.toNatClampNeg)))))), (q2, .inl (cB, 16, .inr (.inl (vp_updL hi p0.toNatClampNeg (pl_min (hi p0.toNatClampNeg) (hi p1.toNatClampNeg))))))] := hD
    refine lv_aload_n hx hb dX2_cutToCommon_64 rfl (lv_at hl 2 rfl) ?_
    refine va_get (D := (dC, dI)) (ci := 1) (v := .ref q2) (C := RX2) (T := TX2) (N := 3) hx hb hts hi_RX2 hown hK hP 0 rfl rfl 1 (by decide) hw6 (fun _ h9 => h9) rfl dX2_cutToCommon_65 ?_
    refine lv_iload_n hx hb dX2_cutToCommon_68 rfl (lv_at hl 4 rfl) ?_
    refine lv_lload hx hb dX2_cutToCommon_69 (lv_at hl 0 rfl) ?_
    refine va_last hx hb hK hP hD hS 2 1 rfl rfl (hk1) dX2_cutToCommon_71 (fun H locs hP hD hS => ?_)
    have hP : va_P (dC, dI) vwCl [(h0, .inr (1, [.ref q1, .ref q2, .ref q3])), (q1, .inl (cA, 16, .inr (.inl (vp_updL (vp_updL lo p0.toNatClampNeg (pl_max (lo p0.toNatClampNeg) (lo p1.toNatClampNeg))) p1.toNatClampNeg (pl_max (lo p0.toNatClampNeg) (lo p1.toNatClampNeg)))))), (q2, .inl (cB, 16, .inr (.inl (vp_updL (vp_updL hi p0.toNatClampNeg (pl_min (hi p0.toNatClampNeg) (hi p1.toNatClampNeg))) p1.toNatClampNeg (pl_min (hi p0.toNatClampNeg) (hi p1.toNatClampNeg))))))] H := hP
    have hD : va_D A [(h0, .inr (1, [.ref q1, .ref q2, .ref q3])), (q1, .inl (cA, 16, .inr (.inl (vp_updL (vp_updL lo p0.toNatClampNeg (pl_max (lo p0.toNatClampNeg) (lo p1.toNatClampNeg))) p1.toNatClampNeg (pl_max (lo p0.toNatClampNeg) (lo p1.toNatClampNeg)))))), (q2, .inl (cB, 16, .inr (.inl (vp_updL (vp_updL hi p0.toNatClampNeg (pl_min (hi p0.toNatClampNeg) (hi p1.toNatClampNeg))) p1.toNatClampNeg (pl_min (hi p0.toNatClampNeg) (hi p1.toNatClampNeg))))))] := hD
    refine lv_iconst (v := (1 : Int32)) hx hb dX2_cutToCommon_72 (by decide) ?_
    have es : (s_X2_cutToCommon lo hi p0 p1) = ((1 : Int32), vp_updL (vp_updL lo p0.toNatClampNeg (pl_max (lo p0.toNatClampNeg) (lo p1.toNatClampNeg))) p1.toNatClampNeg (pl_max (lo p0.toNatClampNeg) (lo p1.toNatClampNeg)), vp_updL (vp_updL hi p0.toNatClampNeg (pl_min (hi p0.toNatClampNeg) (hi p1.toNatClampNeg))) p1.toNatClampNeg (pl_min (hi p0.toNatClampNeg) (hi p1.toNatClampNeg))) := by unfold s_X2_cutToCommon; rw [if_neg c1]
    exact W.zret (v := (1 : Int32)) hx hb hr (rfl) (fun t ht hW => by rw [es]; exact ⟨rfl, by rw [ht]; exact hP, hD, hS.F ht⟩) hS.2.2 dX2_cutToCommon_73
  · refine lv_iconst (v := (0 : Int32)) hx hb dX2_cutToCommon_40 (by decide) ?_
    have es : (s_X2_cutToCommon lo hi p0 p1) = ((0 : Int32), lo, hi) := by unfold s_X2_cutToCommon; rw [if_pos c1]
    exact W.zret (v := (0 : Int32)) hx hb hr (rfl) (fun t ht hW => by rw [es]; exact ⟨rfl, by rw [ht]; exact hP, hD, hS.F ht⟩) hS.2.2 dX2_cutToCommon_41

def s_X2_dropEnd (lo : Nat → Int64) (hi : Nat → Int64) (p0 : Int32) (p1 : Int64) : (Nat → Int64) × (Nat → Int64) :=
  if lo p0.toNatClampNeg = p1 then (vp_updL lo p0.toNatClampNeg ((lo p0.toNatClampNeg) + (1 : Int64)), hi)
  else if hi p0.toNatClampNeg = p1 then (lo, vp_updL hi p0.toNatClampNeg ((hi p0.toNatClampNeg) - (1 : Int64)))
  else (lo, hi)
set_option maxHeartbeats 4000000 in
set_option maxRecDepth 100000 in
theorem c_X2_dropEnd (l : Launch) (dC : Nat → ClassId) (dI : Nat → Nat → Nat) (cA cB : ClassId) (h0 q1 q2 q3 sz : Nat) (lo : Nat → Int64) (hi : Nat → Int64) (p0 : Int32) (p1 : Int64) (hk0 : vp_in p0 16) : Met l yX2_dropEnd wsX2_dropEnd ({ frames := 0, cells := 0, slots := 0, locals := 0 }) (wp9 (dC, dI) vwCl [(cA, .long), (cB, .long)] [.ref h0, .int p0, .long p1] sz [(h0, .inr (1, [.ref q1, .ref q2, .ref q3])), (q1, .inl (cA, 16, .inr (.inl lo))), (q2, .inl (cB, 16, .inr (.inl hi)))]) (wq none (dC, dI) vwCl [(h0, .inr (1, [.ref q1, .ref q2, .ref q3])), (q1, .inl (cA, 16, .inr (.inl ((s_X2_dropEnd lo hi p0 p1).1)))), (q2, .inl (cB, 16, .inr (.inl ((s_X2_dropEnd lo hi p0 p1).2))))] (va_A [(h0, .inr (1, [.ref q1, .ref q2, .ref q3])), (q1, .inl (cA, 16, .inr (.inl lo))), (q2, .inl (cB, 16, .inr (.inl hi)))] sz)) 0 0 (va_A [(h0, .inr (1, [.ref q1, .ref q2, .ref q3])), (q1, .inl (cA, 16, .inr (.inl lo))), (q2, .inl (cB, 16, .inr (.inl hi)))] sz) := by
  refine Met.ofW (cc := cX2_dropEnd) (maxL := 4) (ret := none) (by decide) rfl ?_
  intro p e s m args below meth c s₁ B hml hv
  obtain ⟨rfl, hsz, hP, hK, hD0⟩ := hv
  have hx := B.exec
  have hb := B.bytes
  have hr := B.returns
  have hts := atoms_spec (ws := wsX2_dropEnd) B.pre
  have hown : s.vm.findClass RX2 = some m.cls := findClass_of_methodNamed B.named
  have hlocks := B.notSynchronized
  subst hsz
  have hD := hD0.self (sz := s.heap.size)
  generalize hAe : va_A [(h0, .inr (1, [.ref q1, .ref q2, .ref q3])), (q1, .inl (cA, 16, .inr (.inl lo))), (q2, .inl (cB, 16, .inr (.inl hi)))] s.heap.size = A at hD ⊢
  have hA : ∀ q : Nat, s.heap.size ≤ q → A q := fun q h => by rw [← hAe]; exact Or.inr h
  have hS : va_S A s.heap s.heap [] := va_S.rf
  have hP : va_P (dC, dI) vwCl [(h0, .inr (1, [.ref q1, .ref q2, .ref q3])), (q1, .inl (cA, 16, .inr (.inl lo))), (q2, .inl (cB, 16, .inr (.inl hi)))] s.heap := hP
  have hl := lv_entry ([.ref h0, .int p0, .long p1]) (n := 4) (Nat.le_of_ble_eq_true rfl)
  rw [lg_entry_eq]
  generalize (lg_sl ([.ref h0, .int p0, .long p1]) ++ List.replicate (4 - (lg_sl ([.ref h0, .int p0, .long p1])).length) Slot.unset).toArray = ls at hl ⊢
  have hl : lv_has ls 4 [(0, .ref h0), (1, .int p0), (2, .long p1)] := hl
  have hw0 := hts (.fieldLink RX2 9 "RangeBox" "lows" "[J") (List.mem_of_getElem? (i := 1) rfl)
  have hi_RX2 : ∀ w ∈ wsX20, w ∈ wsX2_dropEnd := fun _ h => List.mem_cons_of_mem _ (List.mem_append_right _ h)
  have hw2 := hts (.fieldLink RX2 13 "RangeBox" "highs" "[J") (List.mem_of_getElem? (i := 2) rfl)
  refine lv_aload_n hx hb dX2_dropEnd_0 rfl (lv_at hl 0 rfl) ?_
  refine va_get (D := (dC, dI)) (ci := 1) (v := .ref q1) (C := RX2) (T := TX2) (N := 3) hx hb hts hi_RX2 hown hK hP 0 rfl rfl 0 (by decide) hw0 (fun _ h9 => h9) rfl dX2_dropEnd_1 ?_
  refine lv_iload_n hx hb dX2_dropEnd_4 rfl (lv_at hl 1 rfl) ?_
  refine va_lald hx hb hK hP 1 0 rfl rfl (hk0) dX2_dropEnd_5 ?_
  refine lv_lload_n hx hb dX2_dropEnd_6 rfl (lv_at hl 2 rfl) ?_
  refine pl_ne (tgt := 24) hx hb dX2_dropEnd_7 dX2_dropEnd_8 (by decide) (fun c1 => ?_) (fun c1 => ?_)
  · refine lv_aload_n hx hb dX2_dropEnd_24 rfl (lv_at hl 0 rfl) ?_
    refine va_get (D := (dC, dI)) (ci := 1) (v := .ref q2) (C := RX2) (T := TX2) (N := 3) hx hb hts hi_RX2 hown hK hP 0 rfl rfl 1 (by decide) hw2 (fun _ h9 => h9) rfl dX2_dropEnd_25 ?_
    refine lv_iload_n hx hb dX2_dropEnd_28 rfl (lv_at hl 1 rfl) ?_
    refine va_lald hx hb hK hP 2 1 rfl rfl (hk0) dX2_dropEnd_29 ?_
    refine lv_lload_n hx hb dX2_dropEnd_30 rfl (lv_at hl 2 rfl) ?_
    refine pl_ne (tgt := 45) hx hb dX2_dropEnd_31 dX2_dropEnd_32 (by decide) (fun c2 => ?_) (fun c2 => ?_)
    · have es : (s_X2_dropEnd lo hi p0 p1) = (lo, hi) := by unfold s_X2_dropEnd; rw [if_neg c1, if_neg c2]
      exact W.vret hx hb hr (fun t ht hW => by rw [es]; exact ⟨rfl, by rw [ht]; exact hP, hD, hS.F ht⟩) hS.2.2 dX2_dropEnd_45
    · refine lv_aload_n hx hb dX2_dropEnd_35 rfl (lv_at hl 0 rfl) ?_
      refine va_get (D := (dC, dI)) (ci := 1) (v := .ref q2) (C := RX2) (T := TX2) (N := 3) hx hb hts hi_RX2 hown hK hP 0 rfl rfl 1 (by decide) hw2 (fun _ h9 => h9) rfl dX2_dropEnd_36 ?_
      refine lv_iload_n hx hb dX2_dropEnd_39 rfl (lv_at hl 1 rfl) ?_
      refine lv_dup2_11 hx hb dX2_dropEnd_40 rfl rfl ?_
      refine va_lald hx hb hK hP 2 1 rfl rfl (hk0) dX2_dropEnd_41 ?_
      refine lv_lconst (v := (1 : Int64)) hx hb dX2_dropEnd_42 (by decide) ?_
      refine lv_lsub hx hb dX2_dropEnd_43 ?_
      refine va_last hx hb hK hP hD hS 2 1 rfl rfl (hk0) dX2_dropEnd_44 (fun H locs hP hD hS => ?_)
      have hP : va_P (dC, dI) vwCl [(h0, .inr (1, [.ref q1, .ref q2, .ref q3])), (q1, .inl (cA, 16, .inr (.inl lo))), (q2, .inl (cB, 16, .inr (.inl (vp_updL hi p0.toNatClampNeg ((hi p0.toNatClampNeg) - (1 : Int64))))))] H := hP
      have hD : va_D A [(h0, .inr (1, [.ref q1, .ref q2, .ref q3])), (q1, .inl (cA, 16, .inr (.inl lo))), (q2, .inl (cB, 16, .inr (.inl (vp_updL hi p0.toNatClampNeg ((hi p0.toNatClampNeg) - (1 : Int64))))))] := hD
      have es : (s_X2_dropEnd lo hi p0 p1) = (lo, vp_updL hi p0.toNatClampNeg ((hi p0.toNatClampNeg) - (1 : Int64))) := by unfold s_X2_dropEnd; rw [if_neg c1, if_pos c2]
      exact W.vret hx hb hr (fun t ht hW => by rw [es]; exact ⟨rfl, by rw [ht]; exact hP, hD, hS.F ht⟩) hS.2.2 dX2_dropEnd_45
  · refine lv_aload_n hx hb dX2_dropEnd_11 rfl (lv_at hl 0 rfl) ?_
    refine va_get (D := (dC, dI)) (ci := 1) (v := .ref q1) (C := RX2) (T := TX2) (N := 3) hx hb hts hi_RX2 hown hK hP 0 rfl rfl 0 (by decide) hw0 (fun _ h9 => h9) rfl dX2_dropEnd_12 ?_
    refine lv_iload_n hx hb dX2_dropEnd_15 rfl (lv_at hl 1 rfl) ?_
    refine lv_dup2_11 hx hb dX2_dropEnd_16 rfl rfl ?_
    refine va_lald hx hb hK hP 1 0 rfl rfl (hk0) dX2_dropEnd_17 ?_
    refine lv_lconst (v := (1 : Int64)) hx hb dX2_dropEnd_18 (by decide) ?_
    refine lv_ladd hx hb dX2_dropEnd_19 ?_
    refine va_last hx hb hK hP hD hS 1 0 rfl rfl (hk0) dX2_dropEnd_20 (fun H locs hP hD hS => ?_)
    have hP : va_P (dC, dI) vwCl [(h0, .inr (1, [.ref q1, .ref q2, .ref q3])), (q1, .inl (cA, 16, .inr (.inl (vp_updL lo p0.toNatClampNeg ((lo p0.toNatClampNeg) + (1 : Int64)))))), (q2, .inl (cB, 16, .inr (.inl hi)))] H := hP
    have hD : va_D A [(h0, .inr (1, [.ref q1, .ref q2, .ref q3])), (q1, .inl (cA, 16, .inr (.inl (vp_updL lo p0.toNatClampNeg ((lo p0.toNatClampNeg) + (1 : Int64)))))), (q2, .inl (cB, 16, .inr (.inl hi)))] := hD
    refine lv_goto (tgt := 45) hx hb dX2_dropEnd_21 (by decide) ?_
    have es : (s_X2_dropEnd lo hi p0 p1) = (vp_updL lo p0.toNatClampNeg ((lo p0.toNatClampNeg) + (1 : Int64)), hi) := by unfold s_X2_dropEnd; rw [if_pos c1]
    exact W.vret hx hb hr (fun t ht hW => by rw [es]; exact ⟨rfl, by rw [ht]; exact hP, hD, hS.F ht⟩) hS.2.2 dX2_dropEnd_45

def s_X2_cutApart (lo : Nat → Int64) (hi : Nat → Int64) (p0 : Int32) (p1 : Int32) : Int32 × (Nat → Int64) × (Nat → Int64) :=
  if (s_X2_isConst lo hi p0) = (0 : Int32) then (if (s_X2_isConst lo hi p1) = (0 : Int32) then ((1 : Int32), lo, hi)
    else ((1 : Int32), (s_X2_dropEnd lo hi p0 (lo p1.toNatClampNeg)).1, (s_X2_dropEnd lo hi p0 (lo p1.toNatClampNeg)).2))
  else ((1 : Int32), (s_X2_dropEnd lo hi p1 (lo p0.toNatClampNeg)).1, (s_X2_dropEnd lo hi p1 (lo p0.toNatClampNeg)).2)
theorem z_X2_cutApart (lo : Nat → Int64) (hi : Nat → Int64) (p0 : Int32) (p1 : Int32) : (s_X2_cutApart lo hi p0 p1).1 = 0 ∨ (s_X2_cutApart lo hi p0 p1).1 = 1 := by
  unfold s_X2_cutApart
  by_cases c1 : (s_X2_isConst lo hi p0) = (0 : Int32)
  · rw [if_pos c1]
    by_cases c2 : (s_X2_isConst lo hi p1) = (0 : Int32)
    · rw [if_pos c2]
      exact Or.inr rfl
    · rw [if_neg c2]
      exact Or.inr rfl
  · rw [if_neg c1]
    exact Or.inr rfl
set_option maxHeartbeats 4000000 in
set_option maxRecDepth 100000 in
theorem c_X2_cutApart (l : Launch) (dC : Nat → ClassId) (dI : Nat → Nat → Nat) (cA cB : ClassId) (h0 q1 q2 q3 sz : Nat) (lo : Nat → Int64) (hi : Nat → Int64) (p0 : Int32) (p1 : Int32) (hk0 : vp_in p0 16) (hk1 : vp_in p1 16) : Met l yX2_cutApart wsX2_cutApart ({ frames := 1, cells := 0, slots := 0, locals := 23 }) (wp9 (dC, dI) vwCl [(cA, .long), (cB, .long)] [.ref h0, .int p0, .int p1] sz [(h0, .inr (1, [.ref q1, .ref q2, .ref q3])), (q1, .inl (cA, 16, .inr (.inl lo))), (q2, .inl (cB, 16, .inr (.inl hi)))]) (wq (some (.int ((s_X2_cutApart lo hi p0 p1).1))) (dC, dI) vwCl [(h0, .inr (1, [.ref q1, .ref q2, .ref q3])), (q1, .inl (cA, 16, .inr (.inl ((s_X2_cutApart lo hi p0 p1).2.1)))), (q2, .inl (cB, 16, .inr (.inl ((s_X2_cutApart lo hi p0 p1).2.2))))] (va_A [(h0, .inr (1, [.ref q1, .ref q2, .ref q3])), (q1, .inl (cA, 16, .inr (.inl lo))), (q2, .inl (cB, 16, .inr (.inl hi)))] sz)) 0 0 (va_A [(h0, .inr (1, [.ref q1, .ref q2, .ref q3])), (q1, .inl (cA, 16, .inr (.inl lo))), (q2, .inl (cB, 16, .inr (.inl hi)))] sz) := by
  refine Met.ofW (cc := cX2_cutApart) (maxL := 3) (ret := (some .boolean)) (by decide) rfl ?_
  intro p e s m args below meth c s₁ B hml hv
  obtain ⟨rfl, hsz, hP, hK, hD0⟩ := hv
  have hx := B.exec
  have hb := B.bytes
  have hr := B.returns
  have hts := atoms_spec (ws := wsX2_cutApart) B.pre
  have hown : s.vm.findClass RX2 = some m.cls := findClass_of_methodNamed B.named
  have hlocks := B.notSynchronized
  subst hsz
  have hD := hD0.self (sz := s.heap.size)
  generalize hAe : va_A [(h0, .inr (1, [.ref q1, .ref q2, .ref q3])), (q1, .inl (cA, 16, .inr (.inl lo))), (q2, .inl (cB, 16, .inr (.inl hi)))] s.heap.size = A at hD ⊢
  have hA : ∀ q : Nat, s.heap.size ≤ q → A q := fun q h => by rw [← hAe]; exact Or.inr h
  have hS : va_S A s.heap s.heap [] := va_S.rf
  have hP : va_P (dC, dI) vwCl [(h0, .inr (1, [.ref q1, .ref q2, .ref q3])), (q1, .inl (cA, 16, .inr (.inl lo))), (q2, .inl (cB, 16, .inr (.inl hi)))] s.heap := hP
  have hl := lv_entry ([.ref h0, .int p0, .int p1]) (n := 3) (Nat.le_of_ble_eq_true rfl)
  rw [lg_entry_eq]
  generalize (lg_sl ([.ref h0, .int p0, .int p1]) ++ List.replicate (3 - (lg_sl ([.ref h0, .int p0, .int p1])).length) Slot.unset).toArray = ls at hl ⊢
  have hl : lv_has ls 3 [(0, .ref h0), (1, .int p0), (2, .int p1)] := hl
  have hw0 := hts (.fieldLink RX2 9 "RangeBox" "lows" "[J") (List.mem_of_getElem? (i := 1) rfl)
  have hi_RX2 : ∀ w ∈ wsX20, w ∈ wsX2_cutApart := fun _ h => List.mem_cons_of_mem _ (List.mem_append_right _ h)
  refine lv_aload_n hx hb dX2_cutApart_0 rfl (lv_at hl 0 rfl) ?_
  refine lv_iload_n hx hb dX2_cutApart_1 rfl (lv_at hl 1 rfl) ?_
  refine pq_calli (va_runV (As := [.int p0]) (rest := []) ⟨hx, hb, hml, hown, hts⟩ (c_X2_isConst l dC dI cA cB h0 q1 q2 q3 lo hi p0 hk0) (cwV 1 hts gX2_cutApart_X2_isConst rfl rfl rfl ydV_X2_isConst ⟨Nat.le_of_ble_eq_true rfl, Nat.le_of_ble_eq_true rfl⟩) (rp_V (hK.sub (tys' := [(cA, .long), (cB, .long)]) [0, 1] rfl) (hP.sub (ws' := [(h0, .inr (1, [.ref q1, .ref q2, .ref q3])), (q1, .inl (cA, 16, .inr (.inl lo))), (q2, .inl (cB, 16, .inr (.inl hi)))]) [0, 1, 2] rfl)  rfl rfl) rfl rfl hl.1 rfl (lv_room (Nat.le_of_ble_eq_true rfl)) dX2_cutApart_2 ⟨Nat.le_of_ble_eq_true rfl, Nat.le_of_ble_eq_true rfl⟩) ?_
  refine lv_if_eq (tgt := 22) hx hb dX2_cutApart_5 (by decide) (fun c1 => ?_) (fun c1 => ?_)
  · refine lv_aload_n hx hb dX2_cutApart_22 rfl (lv_at hl 0 rfl) ?_
    refine lv_iload_n hx hb dX2_cutApart_23 rfl (lv_at hl 2 rfl) ?_
    refine pq_calli (va_runV (As := [.int p1]) (rest := []) ⟨hx, hb, hml, hown, hts⟩ (c_X2_isConst l dC dI cA cB h0 q1 q2 q3 lo hi p1 hk1) (cwV 1 hts gX2_cutApart_X2_isConst rfl rfl rfl ydV_X2_isConst ⟨Nat.le_of_ble_eq_true rfl, Nat.le_of_ble_eq_true rfl⟩) (rp_V (hK.sub (tys' := [(cA, .long), (cB, .long)]) [0, 1] rfl) (hP.sub (ws' := [(h0, .inr (1, [.ref q1, .ref q2, .ref q3])), (q1, .inl (cA, 16, .inr (.inl lo))), (q2, .inl (cB, 16, .inr (.inl hi)))]) [0, 1, 2] rfl)  rfl rfl) rfl rfl hl.1 rfl (lv_room (Nat.le_of_ble_eq_true rfl)) dX2_cutApart_24 ⟨Nat.le_of_ble_eq_true rfl, Nat.le_of_ble_eq_true rfl⟩) ?_
    refine lv_if_eq (tgt := 41) hx hb dX2_cutApart_27 (by decide) (fun c2 => ?_) (fun c2 => ?_)
    · refine lv_iconst (v := (1 : Int32)) hx hb dX2_cutApart_41 (by decide) ?_
      have es : (s_X2_cutApart lo hi p0 p1) = ((1 : Int32), lo, hi) := by unfold s_X2_cutApart; rw [if_pos c1, if_pos c2]
      exact W.zret (v := (1 : Int32)) hx hb hr (rfl) (fun t ht hW => by rw [es]; exact ⟨rfl, by rw [ht]; exact hP, hD, hS.F ht⟩) hS.2.2 dX2_cutApart_42
    · refine lv_aload_n hx hb dX2_cutApart_30 rfl (lv_at hl 0 rfl) ?_
      refine lv_iload_n hx hb dX2_cutApart_31 rfl (lv_at hl 1 rfl) ?_
      refine lv_aload_n hx hb dX2_cutApart_32 rfl (lv_at hl 0 rfl) ?_
      refine va_get (D := (dC, dI)) (ci := 1) (v := .ref q1) (C := RX2) (T := TX2) (N := 3) hx hb hts hi_RX2 hown hK hP 0 rfl rfl 0 (by decide) hw0 (fun _ h9 => h9) rfl dX2_cutApart_33 ?_
      refine lv_iload_n hx hb dX2_cutApart_36 rfl (lv_at hl 2 rfl) ?_
      refine va_lald hx hb hK hP 1 0 rfl rfl (hk1) dX2_cutApart_37 ?_
      refine wq_callv (wc := [(h0, .inr (1, [.ref q1, .ref q2, .ref q3])), (q1, .inl (cA, 16, .inr (.inl lo))), (q2, .inl (cB, 16, .inr (.inl hi)))]) (wr := []) (w2 := [(h0, .inr (1, [.ref q1, .ref q2, .ref q3])), (q1, .inl (cA, 16, .inr (.inl ((s_X2_dropEnd lo hi p0 (lo p1.toNatClampNeg)).1)))), (q2, .inl (cB, 16, .inr (.inl ((s_X2_dropEnd lo hi p0 (lo p1.toNatClampNeg)).2))))]) (va_runV (As := [.int p0, .long (lo p1.toNatClampNeg)]) (rest := []) ⟨hx, hb, hml, hown, hts⟩ (c_X2_dropEnd l dC dI cA cB h0 q1 q2 q3 s.heap.size lo hi p0 (lo p1.toNatClampNeg) hk0) (cwV 2 hts gX2_cutApart_X2_dropEnd rfl rfl rfl ydV_X2_dropEnd ⟨Nat.le_of_ble_eq_true rfl, Nat.le_of_ble_eq_true rfl⟩) (wp_V (hK.sub (tys' := [(cA, .long), (cB, .long)]) [0, 1] rfl) (hP.sub (ws' := [(h0, .inr (1, [.ref q1, .ref q2, .ref q3])), (q1, .inl (cA, 16, .inr (.inl lo))), (q2, .inl (cB, 16, .inr (.inl hi)))]) [0, 1, 2] rfl) (hD.sub (ws' := [(h0, .inr (1, [.ref q1, .ref q2, .ref q3])), (q1, .inl (cA, 16, .inr (.inl lo))), (q2, .inl (cB, 16, .inr (.inl hi)))]) [0, 1, 2] (by decide) rfl)  rfl rfl) rfl rfl hl.1 rfl (lv_room (Nat.le_of_ble_eq_true rfl)) dX2_cutApart_38 ⟨Nat.le_of_ble_eq_true rfl, Nat.le_of_ble_eq_true rfl⟩) hP hD hS hA [0, 1, 2] [] [0, 1, 2] rfl rfl rfl (by decide) rfl rfl (fun H locs hP hD hS => ?_)
      refine lv_iconst (v := (1 : Int32)) hx hb dX2_cutApart_41 (by decide) ?_
      have es : (s_X2_cutApart lo hi p0 p1) = ((1 : Int32), (s_X2_dropEnd lo hi p0 (lo p1.toNatClampNeg)).1, (s_X2_dropEnd lo hi p0 (lo p1.toNatClampNeg)).2) := by unfold s_X2_cutApart; rw [if_pos c1, if_neg c2]
      exact W.zret (v := (1 : Int32)) hx hb hr (rfl) (fun t ht hW => by rw [es]; exact ⟨rfl, by rw [ht]; exact hP, hD, hS.F ht⟩) hS.2.2 dX2_cutApart_42
  · refine lv_aload_n hx hb dX2_cutApart_8 rfl (lv_at hl 0 rfl) ?_
    refine lv_iload_n hx hb dX2_cutApart_9 rfl (lv_at hl 2 rfl) ?_
    refine lv_aload_n hx hb dX2_cutApart_10 rfl (lv_at hl 0 rfl) ?_
    refine va_get (D := (dC, dI)) (ci := 1) (v := .ref q1) (C := RX2) (T := TX2) (N := 3) hx hb hts hi_RX2 hown hK hP 0 rfl rfl 0 (by decide) hw0 (fun _ h9 => h9) rfl dX2_cutApart_11 ?_
    refine lv_iload_n hx hb dX2_cutApart_14 rfl (lv_at hl 1 rfl) ?_
    refine va_lald hx hb hK hP 1 0 rfl rfl (hk0) dX2_cutApart_15 ?_
    refine wq_callv (wc := [(h0, .inr (1, [.ref q1, .ref q2, .ref q3])), (q1, .inl (cA, 16, .inr (.inl lo))), (q2, .inl (cB, 16, .inr (.inl hi)))]) (wr := []) (w2 := [(h0, .inr (1, [.ref q1, .ref q2, .ref q3])), (q1, .inl (cA, 16, .inr (.inl ((s_X2_dropEnd lo hi p1 (lo p0.toNatClampNeg)).1)))), (q2, .inl (cB, 16, .inr (.inl ((s_X2_dropEnd lo hi p1 (lo p0.toNatClampNeg)).2))))]) (va_runV (As := [.int p1, .long (lo p0.toNatClampNeg)]) (rest := []) ⟨hx, hb, hml, hown, hts⟩ (c_X2_dropEnd l dC dI cA cB h0 q1 q2 q3 s.heap.size lo hi p1 (lo p0.toNatClampNeg) hk1) (cwV 2 hts gX2_cutApart_X2_dropEnd rfl rfl rfl ydV_X2_dropEnd ⟨Nat.le_of_ble_eq_true rfl, Nat.le_of_ble_eq_true rfl⟩) (wp_V (hK.sub (tys' := [(cA, .long), (cB, .long)]) [0, 1] rfl) (hP.sub (ws' := [(h0, .inr (1, [.ref q1, .ref q2, .ref q3])), (q1, .inl (cA, 16, .inr (.inl lo))), (q2, .inl (cB, 16, .inr (.inl hi)))]) [0, 1, 2] rfl) (hD.sub (ws' := [(h0, .inr (1, [.ref q1, .ref q2, .ref q3])), (q1, .inl (cA, 16, .inr (.inl lo))), (q2, .inl (cB, 16, .inr (.inl hi)))]) [0, 1, 2] (by decide) rfl)  rfl rfl) rfl rfl hl.1 rfl (lv_room (Nat.le_of_ble_eq_true rfl)) dX2_cutApart_16 ⟨Nat.le_of_ble_eq_true rfl, Nat.le_of_ble_eq_true rfl⟩) hP hD hS hA [0, 1, 2] [] [0, 1, 2] rfl rfl rfl (by decide) rfl rfl (fun H locs hP hD hS => ?_)
    refine lv_goto (tgt := 41) hx hb dX2_cutApart_19 (by decide) ?_
    refine lv_iconst (v := (1 : Int32)) hx hb dX2_cutApart_41 (by decide) ?_
    have es : (s_X2_cutApart lo hi p0 p1) = ((1 : Int32), (s_X2_dropEnd lo hi p1 (lo p0.toNatClampNeg)).1, (s_X2_dropEnd lo hi p1 (lo p0.toNatClampNeg)).2) := by unfold s_X2_cutApart; rw [if_neg c1]
    exact W.zret (v := (1 : Int32)) hx hb hr (rfl) (fun t ht hW => by rw [es]; exact ⟨rfl, by rw [ht]; exact hP, hD, hS.F ht⟩) hS.2.2 dX2_cutApart_42

def s_X2_cutSignedBelow (lo : Nat → Int64) (hi : Nat → Int64) (p0 : Int32) (p1 : Int32) (p2 : Int32) : Int32 × (Nat → Int64) × (Nat → Int64) :=
  if p2 = (0 : Int32) then (if pl_min (hi p0.toNatClampNeg) ((hi p1.toNatClampNeg) - p2.toInt64) < lo p0.toNatClampNeg then ((0 : Int32), lo, hi)
    else if hi p1.toNatClampNeg < pl_max (lo p1.toNatClampNeg) ((lo p0.toNatClampNeg) + p2.toInt64) then ((0 : Int32), lo, hi)
    else ((1 : Int32), vp_updL lo p1.toNatClampNeg (pl_max (lo p1.toNatClampNeg) ((lo p0.toNatClampNeg) + p2.toInt64)), vp_updL hi p0.toNatClampNeg (pl_min (hi p0.toNatClampNeg) ((hi p1.toNatClampNeg) - p2.toInt64))))
  else if hi p1.toNatClampNeg = (-9223372036854775808 : Int64) then ((0 : Int32), lo, hi)
  else if lo p0.toNatClampNeg = (9223372036854775807 : Int64) then ((0 : Int32), lo, hi)
  else if pl_min (hi p0.toNatClampNeg) ((hi p1.toNatClampNeg) - p2.toInt64) < lo p0.toNatClampNeg then ((0 : Int32), lo, hi)
  else if hi p1.toNatClampNeg < pl_max (lo p1.toNatClampNeg) ((lo p0.toNatClampNeg) + p2.toInt64) then ((0 : Int32), lo, hi)
  else ((1 : Int32), vp_updL lo p1.toNatClampNeg (pl_max (lo p1.toNatClampNeg) ((lo p0.toNatClampNeg) + p2.toInt64)), vp_updL hi p0.toNatClampNeg (pl_min (hi p0.toNatClampNeg) ((hi p1.toNatClampNeg) - p2.toInt64)))
theorem z_X2_cutSignedBelow (lo : Nat → Int64) (hi : Nat → Int64) (p0 : Int32) (p1 : Int32) (p2 : Int32) : (s_X2_cutSignedBelow lo hi p0 p1 p2).1 = 0 ∨ (s_X2_cutSignedBelow lo hi p0 p1 p2).1 = 1 := by
  unfold s_X2_cutSignedBelow
  by_cases c1 : p2 = (0 : Int32)
  · rw [if_pos c1]
    by_cases c2 : pl_min (hi p0.toNatClampNeg) ((hi p1.toNatClampNeg) - p2.toInt64) < lo p0.toNatClampNeg
    · rw [if_pos c2]
      exact Or.inl rfl
    · rw [if_neg c2]
      by_cases c3 : hi p1.toNatClampNeg < pl_max (lo p1.toNatClampNeg) ((lo p0.toNatClampNeg) + p2.toInt64)
      · rw [if_pos c3]
        exact Or.inl rfl
      · rw [if_neg c3]
        exact Or.inr rfl
  · rw [if_neg c1]
    by_cases c4 : hi p1.toNatClampNeg = (-9223372036854775808 : Int64)
    · rw [if_pos c4]
      exact Or.inl rfl
    · rw [if_neg c4]
      by_cases c5 : lo p0.toNatClampNeg = (9223372036854775807 : Int64)
      · rw [if_pos c5]
        exact Or.inl rfl
      · rw [if_neg c5]
        by_cases c6 : pl_min (hi p0.toNatClampNeg) ((hi p1.toNatClampNeg) - p2.toInt64) < lo p0.toNatClampNeg
        · rw [if_pos c6]
          exact Or.inl rfl
        · rw [if_neg c6]
          by_cases c7 : hi p1.toNatClampNeg < pl_max (lo p1.toNatClampNeg) ((lo p0.toNatClampNeg) + p2.toInt64)
          · rw [if_pos c7]
            exact Or.inl rfl
          · rw [if_neg c7]
            exact Or.inr rfl
set_option maxHeartbeats 4000000 in
set_option maxRecDepth 100000 in
theorem c_X2_cutSignedBelow (l : Launch) (dC : Nat → ClassId) (dI : Nat → Nat → Nat) (cA cB : ClassId) (h0 q1 q2 q3 sz : Nat) (lo : Nat → Int64) (hi : Nat → Int64) (p0 : Int32) (p1 : Int32) (p2 : Int32) (hk0 : vp_in p0 16) (hk1 : vp_in p1 16) : Met l yX2_cutSignedBelow wsX2_cutSignedBelow ({ frames := 1, cells := 0, slots := 0, locals := 15 }) (wp9 (dC, dI) vwCl [(cA, .long), (cB, .long)] [.ref h0, .int p0, .int p1, .int p2] sz [(h0, .inr (1, [.ref q1, .ref q2, .ref q3])), (q1, .inl (cA, 16, .inr (.inl lo))), (q2, .inl (cB, 16, .inr (.inl hi)))]) (wq (some (.int ((s_X2_cutSignedBelow lo hi p0 p1 p2).1))) (dC, dI) vwCl [(h0, .inr (1, [.ref q1, .ref q2, .ref q3])), (q1, .inl (cA, 16, .inr (.inl ((s_X2_cutSignedBelow lo hi p0 p1 p2).2.1)))), (q2, .inl (cB, 16, .inr (.inl ((s_X2_cutSignedBelow lo hi p0 p1 p2).2.2))))] (va_A [(h0, .inr (1, [.ref q1, .ref q2, .ref q3])), (q1, .inl (cA, 16, .inr (.inl lo))), (q2, .inl (cB, 16, .inr (.inl hi)))] sz)) 0 0 (va_A [(h0, .inr (1, [.ref q1, .ref q2, .ref q3])), (q1, .inl (cA, 16, .inr (.inl lo))), (q2, .inl (cB, 16, .inr (.inl hi)))] sz) := by
  refine Met.ofW (cc := cX2_cutSignedBelow) (maxL := 8) (ret := (some .boolean)) (by decide) rfl ?_
  intro p e s m args below meth c s₁ B hml hv
  obtain ⟨rfl, hsz, hP, hK, hD0⟩ := hv
  have hx := B.exec
  have hb := B.bytes
  have hr := B.returns
  have hts := atoms_spec (ws := wsX2_cutSignedBelow) B.pre
  have hown : s.vm.findClass RX2 = some m.cls := findClass_of_methodNamed B.named
  have hlocks := B.notSynchronized
  subst hsz
  have hD := hD0.self (sz := s.heap.size)
  generalize hAe : va_A [(h0, .inr (1, [.ref q1, .ref q2, .ref q3])), (q1, .inl (cA, 16, .inr (.inl lo))), (q2, .inl (cB, 16, .inr (.inl hi)))] s.heap.size = A at hD ⊢
  have hA : ∀ q : Nat, s.heap.size ≤ q → A q := fun q h => by rw [← hAe]; exact Or.inr h
  have hS : va_S A s.heap s.heap [] := va_S.rf
  have hP : va_P (dC, dI) vwCl [(h0, .inr (1, [.ref q1, .ref q2, .ref q3])), (q1, .inl (cA, 16, .inr (.inl lo))), (q2, .inl (cB, 16, .inr (.inl hi)))] s.heap := hP
  have hl := lv_entry ([.ref h0, .int p0, .int p1, .int p2]) (n := 8) (Nat.le_of_ble_eq_true rfl)
  rw [lg_entry_eq]
  generalize (lg_sl ([.ref h0, .int p0, .int p1, .int p2]) ++ List.replicate (8 - (lg_sl ([.ref h0, .int p0, .int p1, .int p2])).length) Slot.unset).toArray = ls at hl ⊢
  have hl : lv_has ls 8 [(0, .ref h0), (1, .int p0), (2, .int p1), (3, .int p2)] := hl
  have hw0 := hts (.fieldLink RX2 13 "RangeBox" "highs" "[J") (List.mem_of_getElem? (i := 1) rfl)
  have hi_RX2 : ∀ w ∈ wsX20, w ∈ wsX2_cutSignedBelow := fun _ h => List.mem_cons_of_mem _ (List.mem_append_right _ h)
  have hw2 := hts (.methodLink RX2 103 Lib.MathLoose.min_long.x) (List.mem_of_getElem? (i := 5) rfl)
  have hw3 := hts (.static Lib.MathLoose.min_long.x) (List.mem_of_getElem? (i := 6) rfl)
  have hw4 := hts (.initialized "java/lang/Math") (List.mem_of_getElem? (i := 7) rfl)
  have hw5 := hts (.code Lib.MathLoose.min_long.x Lib.MathLoose.min_long.code 4 (some .long)) (List.mem_of_getElem? (i := 8) rfl)
  have hw6 := hts (.fieldLink RX2 9 "RangeBox" "lows" "[J") (List.mem_of_getElem? (i := 3) rfl)
  have hw7 := hts (.methodLink RX2 97 Lib.MathLoose.max_long.x) (List.mem_of_getElem? (i := 9) rfl)
  have hw8 := hts (.static Lib.MathLoose.max_long.x) (List.mem_of_getElem? (i := 10) rfl)
  have hw9 := hts (.code Lib.MathLoose.max_long.x Lib.MathLoose.max_long.code 4 (some .long)) (List.mem_of_getElem? (i := 11) rfl)
  have hw10 := hts (.constantLong RX2 110 (-9223372036854775808)) (List.mem_of_getElem? (i := 2) rfl)
  have hw11 := hts (.constantLong RX2 112 (9223372036854775807)) (List.mem_of_getElem? (i := 4) rfl)
  refine lv_iload_n hx hb dX2_cutSignedBelow_0 rfl (lv_at hl 3 rfl) ?_
  refine lv_if_eq (tgt := 32) hx hb dX2_cutSignedBelow_1 (by decide) (fun c1 => ?_) (fun c1 => ?_)
  · refine lv_aload_n hx hb dX2_cutSignedBelow_32 rfl (lv_at hl 0 rfl) ?_
    refine va_get (D := (dC, dI)) (ci := 1) (v := .ref q2) (C := RX2) (T := TX2) (N := 3) hx hb hts hi_RX2 hown hK hP 0 rfl rfl 1 (by decide) hw0 (fun _ h9 => h9) rfl dX2_cutSignedBelow_33 ?_
    refine lv_iload_n hx hb dX2_cutSignedBelow_36 rfl (lv_at hl 1 rfl) ?_
    refine va_lald hx hb hK hP 2 1 rfl rfl (hk0) dX2_cutSignedBelow_37 ?_
    refine lv_aload_n hx hb dX2_cutSignedBelow_38 rfl (lv_at hl 0 rfl) ?_
    refine va_get (D := (dC, dI)) (ci := 1) (v := .ref q2) (C := RX2) (T := TX2) (N := 3) hx hb hts hi_RX2 hown hK hP 0 rfl rfl 1 (by decide) hw0 (fun _ h9 => h9) rfl dX2_cutSignedBelow_39 ?_
    refine lv_iload_n hx hb dX2_cutSignedBelow_42 rfl (lv_at hl 2 rfl) ?_
    refine va_lald hx hb hK hP 2 1 rfl rfl (hk1) dX2_cutSignedBelow_43 ?_
    refine lv_iload_n hx hb dX2_cutSignedBelow_44 rfl (lv_at hl 3 rfl) ?_
    refine lv_i2l (v := p2.toInt64) hx hb dX2_cutSignedBelow_45 rfl ?_
    refine lv_lsub hx hb dX2_cutSignedBelow_46 ?_
    refine pm_min hx hb (hml.trans hl.1.symm) hown hw2 hw3 hw4 hw5 (Nat.le_of_ble_eq_true rfl) (Nat.le_of_ble_eq_true rfl) (Nat.le_of_ble_eq_true rfl) (Nat.le_of_ble_eq_true rfl) dX2_cutSignedBelow_47 ?_
    refine lv_lstore (lv' := [(4, .long (pl_min (hi p0.toNatClampNeg) ((hi p1.toNatClampNeg) - p2.toInt64))), (0, .ref h0), (1, .int p0), (2, .int p1), (3, .int p2)]) hx hb dX2_cutSignedBelow_50 hl (by decide) rfl (fun ls hl => ?_)
    refine lv_aload_n hx hb dX2_cutSignedBelow_52 rfl (lv_at hl 1 rfl) ?_
    refine va_get (D := (dC, dI)) (ci := 1) (v := .ref q1) (C := RX2) (T := TX2) (N := 3) hx hb hts hi_RX2 hown hK hP 0 rfl rfl 0 (by decide) hw6 (fun _ h9 => h9) rfl dX2_cutSignedBelow_53 ?_
    refine lv_iload_n hx hb dX2_cutSignedBelow_56 rfl (lv_at hl 3 rfl) ?_
    refine va_lald hx hb hK hP 1 0 rfl rfl (hk1) dX2_cutSignedBelow_57 ?_
    refine lv_aload_n hx hb dX2_cutSignedBelow_58 rfl (lv_at hl 1 rfl) ?_
    refine va_get (D := (dC, dI)) (ci := 1) (v := .ref q1) (C := RX2) (T := TX2) (N := 3) hx hb hts hi_RX2 hown hK hP 0 rfl rfl 0 (by decide) hw6 (fun _ h9 => h9) rfl dX2_cutSignedBelow_59 ?_
    refine lv_iload_n hx hb dX2_cutSignedBelow_62 rfl (lv_at hl 2 rfl) ?_
    refine va_lald hx hb hK hP 1 0 rfl rfl (hk0) dX2_cutSignedBelow_63 ?_
    refine lv_iload_n hx hb dX2_cutSignedBelow_64 rfl (lv_at hl 4 rfl) ?_
    refine lv_i2l (v := p2.toInt64) hx hb dX2_cutSignedBelow_65 rfl ?_
    refine lv_ladd hx hb dX2_cutSignedBelow_66 ?_
    refine pm_max hx hb (hml.trans hl.1.symm) hown hw7 hw8 hw4 hw9 (Nat.le_of_ble_eq_true rfl) (Nat.le_of_ble_eq_true rfl) (Nat.le_of_ble_eq_true rfl) (Nat.le_of_ble_eq_true rfl) dX2_cutSignedBelow_67 ?_
    refine lv_lstore (lv' := [(6, .long (pl_max (lo p1.toNatClampNeg) ((lo p0.toNatClampNeg) + p2.toInt64))), (4, .long (pl_min (hi p0.toNatClampNeg) ((hi p1.toNatClampNeg) - p2.toInt64))), (0, .ref h0), (1, .int p0), (2, .int p1), (3, .int p2)]) hx hb dX2_cutSignedBelow_70 hl (by decide) rfl (fun ls hl => ?_)
    refine lv_lload hx hb dX2_cutSignedBelow_72 (lv_at hl 1 rfl) ?_
    refine lv_aload_n hx hb dX2_cutSignedBelow_74 rfl (lv_at hl 2 rfl) ?_
    refine va_get (D := (dC, dI)) (ci := 1) (v := .ref q1) (C := RX2) (T := TX2) (N := 3) hx hb hts hi_RX2 hown hK hP 0 rfl rfl 0 (by decide) hw6 (fun _ h9 => h9) rfl dX2_cutSignedBelow_75 ?_
    refine lv_iload_n hx hb dX2_cutSignedBelow_78 rfl (lv_at hl 3 rfl) ?_
    refine va_lald hx hb hK hP 1 0 rfl rfl (hk0) dX2_cutSignedBelow_79 ?_
    refine pl_lt (tgt := 96) hx hb dX2_cutSignedBelow_80 dX2_cutSignedBelow_81 (by decide) (fun c2 => ?_) (fun c2 => ?_)
    · refine lv_iconst (v := (0 : Int32)) hx hb dX2_cutSignedBelow_96 (by decide) ?_
      have es : (s_X2_cutSignedBelow lo hi p0 p1 p2) = ((0 : Int32), lo, hi) := by unfold s_X2_cutSignedBelow; rw [if_pos c1, if_pos c2]
      exact W.zret (v := (0 : Int32)) hx hb hr (rfl) (fun t ht hW => by rw [es]; exact ⟨rfl, by rw [ht]; exact hP, hD, hS.F ht⟩) hS.2.2 dX2_cutSignedBelow_97
    · refine lv_lload hx hb dX2_cutSignedBelow_84 (lv_at hl 0 rfl) ?_
      refine lv_aload_n hx hb dX2_cutSignedBelow_86 rfl (lv_at hl 2 rfl) ?_
      refine va_get (D := (dC, dI)) (ci := 1) (v := .ref q2) (C := RX2) (T := TX2) (N := 3) hx hb hts hi_RX2 hown hK hP 0 rfl rfl 1 (by decide) hw0 (fun _ h9 => h9) rfl dX2_cutSignedBelow_87 ?_
      refine lv_iload_n hx hb dX2_cutSignedBelow_90 rfl (lv_at hl 4 rfl) ?_
      refine va_lald hx hb hK hP 2 1 rfl rfl (hk1) dX2_cutSignedBelow_91 ?_
      refine pl_le (tgt := 98) hx hb dX2_cutSignedBelow_92 dX2_cutSignedBelow_93 (by decide) (fun c3 => ?_) (fun c3 => ?_)
      · refine lv_aload_n hx hb dX2_cutSignedBelow_98 rfl (lv_at hl 2 rfl) ?_
        refine va_get (D := (dC, dI)) (ci := 1) (v := .ref q2) (C := RX2) (T := TX2) (N := 3) hx hb hts hi_RX2 hown hK hP 0 rfl rfl 1 (by decide) hw0 (fun _ h9 => h9) rfl dX2_cutSignedBelow_99 ?_
        refine lv_iload_n hx hb dX2_cutSignedBelow_102 rfl (lv_at hl 3 rfl) ?_
        refine lv_lload hx hb dX2_cutSignedBelow_103 (lv_at hl 1 rfl) ?_
        refine va_last hx hb hK hP hD hS 2 1 rfl rfl (hk0) dX2_cutSignedBelow_105 (fun H locs hP hD hS => ?_)
        have hP : va_P (dC, dI) vwCl [(h0, .inr (1, [.ref q1, .ref q2, .ref q3])), (q1, .inl (cA, 16, .inr (.inl lo))), (q2, .inl (cB, 16, .inr (.inl (vp_updL hi p0.toNatClampNeg (pl_min (hi p0.toNatClampNeg) ((hi p1.toNatClampNeg) - p2.toInt64))))))] H := hP
        have hD : va_D A [(h0, .inr (1, [.ref q1, .ref q2, .ref q3])), (q1, .inl (cA, 16, .inr (.inl lo))), (q2, .inl (cB, 16, .inr (.inl (vp_updL hi p0.toNatClampNeg (pl_min (hi p0.toNatClampNeg) ((hi p1.toNatClampNeg) - p2.toInt64))))))] := hD
        refine lv_aload_n hx hb dX2_cutSignedBelow_106 rfl (lv_at hl 2 rfl) ?_
        refine va_get (D := (dC, dI)) (ci := 1) (v := .ref q1) (C := RX2) (T := TX2) (N := 3) hx hb hts hi_RX2 hown hK hP 0 rfl rfl 0 (by decide) hw6 (fun _ h9 => h9) rfl dX2_cutSignedBelow_107 ?_
        refine lv_iload_n hx hb dX2_cutSignedBelow_110 rfl (lv_at hl 4 rfl) ?_
        refine lv_lload hx hb dX2_cutSignedBelow_111 (lv_at hl 0 rfl) ?_
        refine va_last hx hb hK hP hD hS 1 0 rfl rfl (hk1) dX2_cutSignedBelow_113 (fun H locs hP hD hS => ?_)
        have hP : va_P (dC, dI) vwCl [(h0, .inr (1, [.ref q1, .ref q2, .ref q3])), (q1, .inl (cA, 16, .inr (.inl (vp_updL lo p1.toNatClampNeg (pl_max (lo p1.toNatClampNeg) ((lo p0.toNatClampNeg) + p2.toInt64)))))), (q2, .inl (cB, 16, .inr (.inl (vp_updL hi p0.toNatClampNeg (pl_min (hi p0.toNatClampNeg) ((hi p1.toNatClampNeg) - p2.toInt64))))))] H := hP
        have hD : va_D A [(h0, .inr (1, [.ref q1, .ref q2, .ref q3])), (q1, .inl (cA, 16, .inr (.inl (vp_updL lo p1.toNatClampNeg (pl_max (lo p1.toNatClampNeg) ((lo p0.toNatClampNeg) + p2.toInt64)))))), (q2, .inl (cB, 16, .inr (.inl (vp_updL hi p0.toNatClampNeg (pl_min (hi p0.toNatClampNeg) ((hi p1.toNatClampNeg) - p2.toInt64))))))] := hD
        refine lv_iconst (v := (1 : Int32)) hx hb dX2_cutSignedBelow_114 (by decide) ?_
        have es : (s_X2_cutSignedBelow lo hi p0 p1 p2) = ((1 : Int32), vp_updL lo p1.toNatClampNeg (pl_max (lo p1.toNatClampNeg) ((lo p0.toNatClampNeg) + p2.toInt64)), vp_updL hi p0.toNatClampNeg (pl_min (hi p0.toNatClampNeg) ((hi p1.toNatClampNeg) - p2.toInt64))) := by unfold s_X2_cutSignedBelow; rw [if_pos c1, if_neg c2, if_neg c3]
        exact W.zret (v := (1 : Int32)) hx hb hr (rfl) (fun t ht hW => by rw [es]; exact ⟨rfl, by rw [ht]; exact hP, hD, hS.F ht⟩) hS.2.2 dX2_cutSignedBelow_115
      · refine lv_iconst (v := (0 : Int32)) hx hb dX2_cutSignedBelow_96 (by decide) ?_
        have es : (s_X2_cutSignedBelow lo hi p0 p1 p2) = ((0 : Int32), lo, hi) := by unfold s_X2_cutSignedBelow; rw [if_pos c1, if_neg c2, if_pos c3]
        exact W.zret (v := (0 : Int32)) hx hb hr (rfl) (fun t ht hW => by rw [es]; exact ⟨rfl, by rw [ht]; exact hP, hD, hS.F ht⟩) hS.2.2 dX2_cutSignedBelow_97
  · refine lv_aload_n hx hb dX2_cutSignedBelow_4 rfl (lv_at hl 0 rfl) ?_
    refine va_get (D := (dC, dI)) (ci := 1) (v := .ref q2) (C := RX2) (T := TX2) (N := 3) hx hb hts hi_RX2 hown hK hP 0 rfl rfl 1 (by decide) hw0 (fun _ h9 => h9) rfl dX2_cutSignedBelow_5 ?_
    refine lv_iload_n hx hb dX2_cutSignedBelow_8 rfl (lv_at hl 2 rfl) ?_
    refine va_lald hx hb hK hP 2 1 rfl rfl (hk1) dX2_cutSignedBelow_9 ?_
    refine lv_ldc2 (v := (-9223372036854775808 : Int64)) hx hb hown hw10 dX2_cutSignedBelow_10 ?_
    refine pl_eq (tgt := 30) hx hb dX2_cutSignedBelow_13 dX2_cutSignedBelow_14 (by decide) (fun c4 => ?_) (fun c4 => ?_)
    · refine lv_iconst (v := (0 : Int32)) hx hb dX2_cutSignedBelow_30 (by decide) ?_
      have es : (s_X2_cutSignedBelow lo hi p0 p1 p2) = ((0 : Int32), lo, hi) := by unfold s_X2_cutSignedBelow; rw [if_neg c1, if_pos c4]
      exact W.zret (v := (0 : Int32)) hx hb hr (rfl) (fun t ht hW => by rw [es]; exact ⟨rfl, by rw [ht]; exact hP, hD, hS.F ht⟩) hS.2.2 dX2_cutSignedBelow_31
    · refine lv_aload_n hx hb dX2_cutSignedBelow_17 rfl (lv_at hl 0 rfl) ?_
      refine va_get (D := (dC, dI)) (ci := 1) (v := .ref q1) (C := RX2) (T := TX2) (N := 3) hx hb hts hi_RX2 hown hK hP 0 rfl rfl 0 (by decide) hw6 (fun _ h9 => h9) rfl dX2_cutSignedBelow_18 ?_
      refine lv_iload_n hx hb dX2_cutSignedBelow_21 rfl (lv_at hl 1 rfl) ?_
      refine va_lald hx hb hK hP 1 0 rfl rfl (hk0) dX2_cutSignedBelow_22 ?_
      refine lv_ldc2 (v := (9223372036854775807 : Int64)) hx hb hown hw11 dX2_cutSignedBelow_23 ?_
      refine pl_ne (tgt := 32) hx hb dX2_cutSignedBelow_26 dX2_cutSignedBelow_27 (by decide) (fun c5 => ?_) (fun c5 => ?_)
      · refine lv_aload_n hx hb dX2_cutSignedBelow_32 rfl (lv_at hl 0 rfl) ?_
        refine va_get (D := (dC, dI)) (ci := 1) (v := .ref q2) (C := RX2) (T := TX2) (N := 3) hx hb hts hi_RX2 hown hK hP 0 rfl rfl 1 (by decide) hw0 (fun _ h9 => h9) rfl dX2_cutSignedBelow_33 ?_
        refine lv_iload_n hx hb dX2_cutSignedBelow_36 rfl (lv_at hl 1 rfl) ?_
        refine va_lald hx hb hK hP 2 1 rfl rfl (hk0) dX2_cutSignedBelow_37 ?_
        refine lv_aload_n hx hb dX2_cutSignedBelow_38 rfl (lv_at hl 0 rfl) ?_
        refine va_get (D := (dC, dI)) (ci := 1) (v := .ref q2) (C := RX2) (T := TX2) (N := 3) hx hb hts hi_RX2 hown hK hP 0 rfl rfl 1 (by decide) hw0 (fun _ h9 => h9) rfl dX2_cutSignedBelow_39 ?_
        refine lv_iload_n hx hb dX2_cutSignedBelow_42 rfl (lv_at hl 2 rfl) ?_
        refine va_lald hx hb hK hP 2 1 rfl rfl (hk1) dX2_cutSignedBelow_43 ?_
        refine lv_iload_n hx hb dX2_cutSignedBelow_44 rfl (lv_at hl 3 rfl) ?_
        refine lv_i2l (v := p2.toInt64) hx hb dX2_cutSignedBelow_45 rfl ?_
        refine lv_lsub hx hb dX2_cutSignedBelow_46 ?_
        refine pm_min hx hb (hml.trans hl.1.symm) hown hw2 hw3 hw4 hw5 (Nat.le_of_ble_eq_true rfl) (Nat.le_of_ble_eq_true rfl) (Nat.le_of_ble_eq_true rfl) (Nat.le_of_ble_eq_true rfl) dX2_cutSignedBelow_47 ?_
        refine lv_lstore (lv' := [(4, .long (pl_min (hi p0.toNatClampNeg) ((hi p1.toNatClampNeg) - p2.toInt64))), (0, .ref h0), (1, .int p0), (2, .int p1), (3, .int p2)]) hx hb dX2_cutSignedBelow_50 hl (by decide) rfl (fun ls hl => ?_)
        refine lv_aload_n hx hb dX2_cutSignedBelow_52 rfl (lv_at hl 1 rfl) ?_
        refine va_get (D := (dC, dI)) (ci := 1) (v := .ref q1) (C := RX2) (T := TX2) (N := 3) hx hb hts hi_RX2 hown hK hP 0 rfl rfl 0 (by decide) hw6 (fun _ h9 => h9) rfl dX2_cutSignedBelow_53 ?_
        refine lv_iload_n hx hb dX2_cutSignedBelow_56 rfl (lv_at hl 3 rfl) ?_
        refine va_lald hx hb hK hP 1 0 rfl rfl (hk1) dX2_cutSignedBelow_57 ?_
        refine lv_aload_n hx hb dX2_cutSignedBelow_58 rfl (lv_at hl 1 rfl) ?_
        refine va_get (D := (dC, dI)) (ci := 1) (v := .ref q1) (C := RX2) (T := TX2) (N := 3) hx hb hts hi_RX2 hown hK hP 0 rfl rfl 0 (by decide) hw6 (fun _ h9 => h9) rfl dX2_cutSignedBelow_59 ?_
        refine lv_iload_n hx hb dX2_cutSignedBelow_62 rfl (lv_at hl 2 rfl) ?_
        refine va_lald hx hb hK hP 1 0 rfl rfl (hk0) dX2_cutSignedBelow_63 ?_
        refine lv_iload_n hx hb dX2_cutSignedBelow_64 rfl (lv_at hl 4 rfl) ?_
        refine lv_i2l (v := p2.toInt64) hx hb dX2_cutSignedBelow_65 rfl ?_
        refine lv_ladd hx hb dX2_cutSignedBelow_66 ?_
        refine pm_max hx hb (hml.trans hl.1.symm) hown hw7 hw8 hw4 hw9 (Nat.le_of_ble_eq_true rfl) (Nat.le_of_ble_eq_true rfl) (Nat.le_of_ble_eq_true rfl) (Nat.le_of_ble_eq_true rfl) dX2_cutSignedBelow_67 ?_
        refine lv_lstore (lv' := [(6, .long (pl_max (lo p1.toNatClampNeg) ((lo p0.toNatClampNeg) + p2.toInt64))), (4, .long (pl_min (hi p0.toNatClampNeg) ((hi p1.toNatClampNeg) - p2.toInt64))), (0, .ref h0), (1, .int p0), (2, .int p1), (3, .int p2)]) hx hb dX2_cutSignedBelow_70 hl (by decide) rfl (fun ls hl => ?_)
        refine lv_lload hx hb dX2_cutSignedBelow_72 (lv_at hl 1 rfl) ?_
        refine lv_aload_n hx hb dX2_cutSignedBelow_74 rfl (lv_at hl 2 rfl) ?_
        refine va_get (D := (dC, dI)) (ci := 1) (v := .ref q1) (C := RX2) (T := TX2) (N := 3) hx hb hts hi_RX2 hown hK hP 0 rfl rfl 0 (by decide) hw6 (fun _ h9 => h9) rfl dX2_cutSignedBelow_75 ?_
        refine lv_iload_n hx hb dX2_cutSignedBelow_78 rfl (lv_at hl 3 rfl) ?_
        refine va_lald hx hb hK hP 1 0 rfl rfl (hk0) dX2_cutSignedBelow_79 ?_
        refine pl_lt (tgt := 96) hx hb dX2_cutSignedBelow_80 dX2_cutSignedBelow_81 (by decide) (fun c6 => ?_) (fun c6 => ?_)
        · refine lv_iconst (v := (0 : Int32)) hx hb dX2_cutSignedBelow_96 (by decide) ?_
          have es : (s_X2_cutSignedBelow lo hi p0 p1 p2) = ((0 : Int32), lo, hi) := by unfold s_X2_cutSignedBelow; rw [if_neg c1, if_neg c4, if_neg c5, if_pos c6]
          exact W.zret (v := (0 : Int32)) hx hb hr (rfl) (fun t ht hW => by rw [es]; exact ⟨rfl, by rw [ht]; exact hP, hD, hS.F ht⟩) hS.2.2 dX2_cutSignedBelow_97
        · refine lv_lload hx hb dX2_cutSignedBelow_84 (lv_at hl 0 rfl) ?_
          refine lv_aload_n hx hb dX2_cutSignedBelow_86 rfl (lv_at hl 2 rfl) ?_
          refine va_get (D := (dC, dI)) (ci := 1) (v := .ref q2) (C := RX2) (T := TX2) (N := 3) hx hb hts hi_RX2 hown hK hP 0 rfl rfl 1 (by decide) hw0 (fun _ h9 => h9) rfl dX2_cutSignedBelow_87 ?_
          refine lv_iload_n hx hb dX2_cutSignedBelow_90 rfl (lv_at hl 4 rfl) ?_
          refine va_lald hx hb hK hP 2 1 rfl rfl (hk1) dX2_cutSignedBelow_91 ?_
          refine pl_le (tgt := 98) hx hb dX2_cutSignedBelow_92 dX2_cutSignedBelow_93 (by decide) (fun c7 => ?_) (fun c7 => ?_)
          · refine lv_aload_n hx hb dX2_cutSignedBelow_98 rfl (lv_at hl 2 rfl) ?_
            refine va_get (D := (dC, dI)) (ci := 1) (v := .ref q2) (C := RX2) (T := TX2) (N := 3) hx hb hts hi_RX2 hown hK hP 0 rfl rfl 1 (by decide) hw0 (fun _ h9 => h9) rfl dX2_cutSignedBelow_99 ?_
            refine lv_iload_n hx hb dX2_cutSignedBelow_102 rfl (lv_at hl 3 rfl) ?_
            refine lv_lload hx hb dX2_cutSignedBelow_103 (lv_at hl 1 rfl) ?_
            refine va_last hx hb hK hP hD hS 2 1 rfl rfl (hk0) dX2_cutSignedBelow_105 (fun H locs hP hD hS => ?_)
            have hP : va_P (dC, dI) vwCl [(h0, .inr (1, [.ref q1, .ref q2, .ref q3])), (q1, .inl (cA, 16, .inr (.inl lo))), (q2, .inl (cB, 16, .inr (.inl (vp_updL hi p0.toNatClampNeg (pl_min (hi p0.toNatClampNeg) ((hi p1.toNatClampNeg) - p2.toInt64))))))] H := hP
            have hD : va_D A [(h0, .inr (1, [.ref q1, .ref q2, .ref q3])), (q1, .inl (cA, 16, .inr (.inl lo))), (q2, .inl (cB, 16, .inr (.inl (vp_updL hi p0.toNatClampNeg (pl_min (hi p0.toNatClampNeg) ((hi p1.toNatClampNeg) - p2.toInt64))))))] := hD
            refine lv_aload_n hx hb dX2_cutSignedBelow_106 rfl (lv_at hl 2 rfl) ?_
            refine va_get (D := (dC, dI)) (ci := 1) (v := .ref q1) (C := RX2) (T := TX2) (N := 3) hx hb hts hi_RX2 hown hK hP 0 rfl rfl 0 (by decide) hw6 (fun _ h9 => h9) rfl dX2_cutSignedBelow_107 ?_
            refine lv_iload_n hx hb dX2_cutSignedBelow_110 rfl (lv_at hl 4 rfl) ?_
            refine lv_lload hx hb dX2_cutSignedBelow_111 (lv_at hl 0 rfl) ?_
            refine va_last hx hb hK hP hD hS 1 0 rfl rfl (hk1) dX2_cutSignedBelow_113 (fun H locs hP hD hS => ?_)
            have hP : va_P (dC, dI) vwCl [(h0, .inr (1, [.ref q1, .ref q2, .ref q3])), (q1, .inl (cA, 16, .inr (.inl (vp_updL lo p1.toNatClampNeg (pl_max (lo p1.toNatClampNeg) ((lo p0.toNatClampNeg) + p2.toInt64)))))), (q2, .inl (cB, 16, .inr (.inl (vp_updL hi p0.toNatClampNeg (pl_min (hi p0.toNatClampNeg) ((hi p1.toNatClampNeg) - p2.toInt64))))))] H := hP
            have hD : va_D A [(h0, .inr (1, [.ref q1, .ref q2, .ref q3])), (q1, .inl (cA, 16, .inr (.inl (vp_updL lo p1.toNatClampNeg (pl_max (lo p1.toNatClampNeg) ((lo p0.toNatClampNeg) + p2.toInt64)))))), (q2, .inl (cB, 16, .inr (.inl (vp_updL hi p0.toNatClampNeg (pl_min (hi p0.toNatClampNeg) ((hi p1.toNatClampNeg) - p2.toInt64))))))] := hD
            refine lv_iconst (v := (1 : Int32)) hx hb dX2_cutSignedBelow_114 (by decide) ?_
            have es : (s_X2_cutSignedBelow lo hi p0 p1 p2) = ((1 : Int32), vp_updL lo p1.toNatClampNeg (pl_max (lo p1.toNatClampNeg) ((lo p0.toNatClampNeg) + p2.toInt64)), vp_updL hi p0.toNatClampNeg (pl_min (hi p0.toNatClampNeg) ((hi p1.toNatClampNeg) - p2.toInt64))) := by unfold s_X2_cutSignedBelow; rw [if_neg c1, if_neg c4, if_neg c5, if_neg c6, if_neg c7]
            exact W.zret (v := (1 : Int32)) hx hb hr (rfl) (fun t ht hW => by rw [es]; exact ⟨rfl, by rw [ht]; exact hP, hD, hS.F ht⟩) hS.2.2 dX2_cutSignedBelow_115
          · refine lv_iconst (v := (0 : Int32)) hx hb dX2_cutSignedBelow_96 (by decide) ?_
            have es : (s_X2_cutSignedBelow lo hi p0 p1 p2) = ((0 : Int32), lo, hi) := by unfold s_X2_cutSignedBelow; rw [if_neg c1, if_neg c4, if_neg c5, if_neg c6, if_pos c7]
            exact W.zret (v := (0 : Int32)) hx hb hr (rfl) (fun t ht hW => by rw [es]; exact ⟨rfl, by rw [ht]; exact hP, hD, hS.F ht⟩) hS.2.2 dX2_cutSignedBelow_97
      · refine lv_iconst (v := (0 : Int32)) hx hb dX2_cutSignedBelow_30 (by decide) ?_
        have es : (s_X2_cutSignedBelow lo hi p0 p1 p2) = ((0 : Int32), lo, hi) := by unfold s_X2_cutSignedBelow; rw [if_neg c1, if_neg c4, if_pos c5]
        exact W.zret (v := (0 : Int32)) hx hb hr (rfl) (fun t ht hW => by rw [es]; exact ⟨rfl, by rw [ht]; exact hP, hD, hS.F ht⟩) hS.2.2 dX2_cutSignedBelow_31

def s_X2_cutBelow (lo : Nat → Int64) (hi : Nat → Int64) (p0 : Int32) (p1 : Int32) (p2 : Int32) : Int32 × (Nat → Int64) × (Nat → Int64) :=
  if lo p1.toNatClampNeg < (0 : Int64) then ((1 : Int32), lo, hi)
  else if lo p0.toNatClampNeg < (0 : Int64) then (if pl_min (hi p0.toNatClampNeg) ((hi p1.toNatClampNeg) - p2.toInt64) < (0 : Int64) then ((0 : Int32), lo, hi)
    else ((1 : Int32), vp_updL lo p0.toNatClampNeg (0 : Int64), vp_updL hi p0.toNatClampNeg (pl_min (hi p0.toNatClampNeg) ((hi p1.toNatClampNeg) - p2.toInt64))))
  else ((s_X2_cutSignedBelow lo hi p0 p1 p2).1, (s_X2_cutSignedBelow lo hi p0 p1 p2).2.1, (s_X2_cutSignedBelow lo hi p0 p1 p2).2.2)
theorem z_X2_cutBelow (lo : Nat → Int64) (hi : Nat → Int64) (p0 : Int32) (p1 : Int32) (p2 : Int32) : (s_X2_cutBelow lo hi p0 p1 p2).1 = 0 ∨ (s_X2_cutBelow lo hi p0 p1 p2).1 = 1 := by
  unfold s_X2_cutBelow
  by_cases c1 : lo p1.toNatClampNeg < (0 : Int64)
  · rw [if_pos c1]
    exact Or.inr rfl
  · rw [if_neg c1]
    by_cases c2 : lo p0.toNatClampNeg < (0 : Int64)
    · rw [if_pos c2]
      by_cases c3 : pl_min (hi p0.toNatClampNeg) ((hi p1.toNatClampNeg) - p2.toInt64) < (0 : Int64)
      · rw [if_pos c3]
        exact Or.inl rfl
      · rw [if_neg c3]
        exact Or.inr rfl
    · rw [if_neg c2]
      exact z_X2_cutSignedBelow _ _ _ _ _
set_option maxHeartbeats 4000000 in
set_option maxRecDepth 100000 in
theorem c_X2_cutBelow (l : Launch) (dC : Nat → ClassId) (dI : Nat → Nat → Nat) (cA cB : ClassId) (h0 q1 q2 q3 sz : Nat) (lo : Nat → Int64) (hi : Nat → Int64) (p0 : Int32) (p1 : Int32) (p2 : Int32) (hk0 : vp_in p0 16) (hk1 : vp_in p1 16) : Met l yX2_cutBelow wsX2_cutBelow ({ frames := 2, cells := 0, slots := 0, locals := 42 }) (wp9 (dC, dI) vwCl [(cA, .long), (cB, .long)] [.ref h0, .int p0, .int p1, .int p2] sz [(h0, .inr (1, [.ref q1, .ref q2, .ref q3])), (q1, .inl (cA, 16, .inr (.inl lo))), (q2, .inl (cB, 16, .inr (.inl hi)))]) (wq (some (.int ((s_X2_cutBelow lo hi p0 p1 p2).1))) (dC, dI) vwCl [(h0, .inr (1, [.ref q1, .ref q2, .ref q3])), (q1, .inl (cA, 16, .inr (.inl ((s_X2_cutBelow lo hi p0 p1 p2).2.1)))), (q2, .inl (cB, 16, .inr (.inl ((s_X2_cutBelow lo hi p0 p1 p2).2.2))))] (va_A [(h0, .inr (1, [.ref q1, .ref q2, .ref q3])), (q1, .inl (cA, 16, .inr (.inl lo))), (q2, .inl (cB, 16, .inr (.inl hi)))] sz)) 0 0 (va_A [(h0, .inr (1, [.ref q1, .ref q2, .ref q3])), (q1, .inl (cA, 16, .inr (.inl lo))), (q2, .inl (cB, 16, .inr (.inl hi)))] sz) := by
  refine Met.ofW (cc := cX2_cutBelow) (maxL := 6) (ret := (some .boolean)) (by decide) rfl ?_
  intro p e s m args below meth c s₁ B hml hv
  obtain ⟨rfl, hsz, hP, hK, hD0⟩ := hv
  have hx := B.exec
  have hb := B.bytes
  have hr := B.returns
  have hts := atoms_spec (ws := wsX2_cutBelow) B.pre
  have hown : s.vm.findClass RX2 = some m.cls := findClass_of_methodNamed B.named
  have hlocks := B.notSynchronized
  subst hsz
  have hD := hD0.self (sz := s.heap.size)
  generalize hAe : va_A [(h0, .inr (1, [.ref q1, .ref q2, .ref q3])), (q1, .inl (cA, 16, .inr (.inl lo))), (q2, .inl (cB, 16, .inr (.inl hi)))] s.heap.size = A at hD ⊢
  have hA : ∀ q : Nat, s.heap.size ≤ q → A q := fun q h => by rw [← hAe]; exact Or.inr h
  have hS : va_S A s.heap s.heap [] := va_S.rf
  have hP : va_P (dC, dI) vwCl [(h0, .inr (1, [.ref q1, .ref q2, .ref q3])), (q1, .inl (cA, 16, .inr (.inl lo))), (q2, .inl (cB, 16, .inr (.inl hi)))] s.heap := hP
  have hl := lv_entry ([.ref h0, .int p0, .int p1, .int p2]) (n := 6) (Nat.le_of_ble_eq_true rfl)
  rw [lg_entry_eq]
  generalize (lg_sl ([.ref h0, .int p0, .int p1, .int p2]) ++ List.replicate (6 - (lg_sl ([.ref h0, .int p0, .int p1, .int p2])).length) Slot.unset).toArray = ls at hl ⊢
  have hl : lv_has ls 6 [(0, .ref h0), (1, .int p0), (2, .int p1), (3, .int p2)] := hl
  have hw0 := hts (.fieldLink RX2 9 "RangeBox" "lows" "[J") (List.mem_of_getElem? (i := 1) rfl)
  have hi_RX2 : ∀ w ∈ wsX20, w ∈ wsX2_cutBelow := fun _ h => List.mem_cons_of_mem _ (List.mem_append_right _ h)
  have hw2 := hts (.fieldLink RX2 13 "RangeBox" "highs" "[J") (List.mem_of_getElem? (i := 2) rfl)
  have hw3 := hts (.methodLink RX2 103 Lib.MathLoose.min_long.x) (List.mem_of_getElem? (i := 3) rfl)
  have hw4 := hts (.static Lib.MathLoose.min_long.x) (List.mem_of_getElem? (i := 4) rfl)
  have hw5 := hts (.initialized "java/lang/Math") (List.mem_of_getElem? (i := 5) rfl)
  have hw6 := hts (.code Lib.MathLoose.min_long.x Lib.MathLoose.min_long.code 4 (some .long)) (List.mem_of_getElem? (i := 6) rfl)
  refine lv_aload_n hx hb dX2_cutBelow_0 rfl (lv_at hl 0 rfl) ?_
  refine va_get (D := (dC, dI)) (ci := 1) (v := .ref q1) (C := RX2) (T := TX2) (N := 3) hx hb hts hi_RX2 hown hK hP 0 rfl rfl 0 (by decide) hw0 (fun _ h9 => h9) rfl dX2_cutBelow_1 ?_
  refine lv_iload_n hx hb dX2_cutBelow_4 rfl (lv_at hl 2 rfl) ?_
  refine va_lald hx hb hK hP 1 0 rfl rfl (hk1) dX2_cutBelow_5 ?_
  refine lv_lconst (v := (0 : Int64)) hx hb dX2_cutBelow_6 (by decide) ?_
  refine pl_ge (tgt := 13) hx hb dX2_cutBelow_7 dX2_cutBelow_8 (by decide) (fun c1 => ?_) (fun c1 => ?_)
  · refine lv_aload_n hx hb dX2_cutBelow_13 rfl (lv_at hl 0 rfl) ?_
    refine va_get (D := (dC, dI)) (ci := 1) (v := .ref q1) (C := RX2) (T := TX2) (N := 3) hx hb hts hi_RX2 hown hK hP 0 rfl rfl 0 (by decide) hw0 (fun _ h9 => h9) rfl dX2_cutBelow_14 ?_
    refine lv_iload_n hx hb dX2_cutBelow_17 rfl (lv_at hl 1 rfl) ?_
    refine va_lald hx hb hK hP 1 0 rfl rfl (hk0) dX2_cutBelow_18 ?_
    refine lv_lconst (v := (0 : Int64)) hx hb dX2_cutBelow_19 (by decide) ?_
    refine pl_lt (tgt := 32) hx hb dX2_cutBelow_20 dX2_cutBelow_21 (by decide) (fun c2 => ?_) (fun c2 => ?_)
    · refine lv_aload_n hx hb dX2_cutBelow_32 rfl (lv_at hl 0 rfl) ?_
      refine va_get (D := (dC, dI)) (ci := 1) (v := .ref q2) (C := RX2) (T := TX2) (N := 3) hx hb hts hi_RX2 hown hK hP 0 rfl rfl 1 (by decide) hw2 (fun _ h9 => h9) rfl dX2_cutBelow_33 ?_
      refine lv_iload_n hx hb dX2_cutBelow_36 rfl (lv_at hl 1 rfl) ?_
      refine va_lald hx hb hK hP 2 1 rfl rfl (hk0) dX2_cutBelow_37 ?_
      refine lv_aload_n hx hb dX2_cutBelow_38 rfl (lv_at hl 0 rfl) ?_
      refine va_get (D := (dC, dI)) (ci := 1) (v := .ref q2) (C := RX2) (T := TX2) (N := 3) hx hb hts hi_RX2 hown hK hP 0 rfl rfl 1 (by decide) hw2 (fun _ h9 => h9) rfl dX2_cutBelow_39 ?_
      refine lv_iload_n hx hb dX2_cutBelow_42 rfl (lv_at hl 2 rfl) ?_
      refine va_lald hx hb hK hP 2 1 rfl rfl (hk1) dX2_cutBelow_43 ?_
      refine lv_iload_n hx hb dX2_cutBelow_44 rfl (lv_at hl 3 rfl) ?_
      refine lv_i2l (v := p2.toInt64) hx hb dX2_cutBelow_45 rfl ?_
      refine lv_lsub hx hb dX2_cutBelow_46 ?_
      refine pm_min hx hb (hml.trans hl.1.symm) hown hw3 hw4 hw5 hw6 (Nat.le_of_ble_eq_true rfl) (Nat.le_of_ble_eq_true rfl) (Nat.le_of_ble_eq_true rfl) (Nat.le_of_ble_eq_true rfl) dX2_cutBelow_47 ?_
      refine lv_lstore (lv' := [(4, .long (pl_min (hi p0.toNatClampNeg) ((hi p1.toNatClampNeg) - p2.toInt64))), (0, .ref h0), (1, .int p0), (2, .int p1), (3, .int p2)]) hx hb dX2_cutBelow_50 hl (by decide) rfl (fun ls hl => ?_)
      refine lv_lload hx hb dX2_cutBelow_52 (lv_at hl 0 rfl) ?_
      refine lv_lconst (v := (0 : Int64)) hx hb dX2_cutBelow_54 (by decide) ?_
      refine pl_ge (tgt := 61) hx hb dX2_cutBelow_55 dX2_cutBelow_56 (by decide) (fun c3 => ?_) (fun c3 => ?_)
      · refine lv_aload_n hx hb dX2_cutBelow_61 rfl (lv_at hl 1 rfl) ?_
        refine va_get (D := (dC, dI)) (ci := 1) (v := .ref q1) (C := RX2) (T := TX2) (N := 3) hx hb hts hi_RX2 hown hK hP 0 rfl rfl 0 (by decide) hw0 (fun _ h9 => h9) rfl dX2_cutBelow_62 ?_
        refine lv_iload_n hx hb dX2_cutBelow_65 rfl (lv_at hl 2 rfl) ?_
        refine lv_lconst (v := (0 : Int64)) hx hb dX2_cutBelow_66 (by decide) ?_
        refine va_last hx hb hK hP hD hS 1 0 rfl rfl (hk0) dX2_cutBelow_67 (fun H locs hP hD hS => ?_)
        have hP : va_P (dC, dI) vwCl [(h0, .inr (1, [.ref q1, .ref q2, .ref q3])), (q1, .inl (cA, 16, .inr (.inl (vp_updL lo p0.toNatClampNeg (0 : Int64))))), (q2, .inl (cB, 16, .inr (.inl hi)))] H := hP
        have hD : va_D A [(h0, .inr (1, [.ref q1, .ref q2, .ref q3])), (q1, .inl (cA, 16, .inr (.inl (vp_updL lo p0.toNatClampNeg (0 : Int64))))), (q2, .inl (cB, 16, .inr (.inl hi)))] := hD
        refine lv_aload_n hx hb dX2_cutBelow_68 rfl (lv_at hl 1 rfl) ?_
        refine va_get (D := (dC, dI)) (ci := 1) (v := .ref q2) (C := RX2) (T := TX2) (N := 3) hx hb hts hi_RX2 hown hK hP 0 rfl rfl 1 (by decide) hw2 (fun _ h9 => h9) rfl dX2_cutBelow_69 ?_
        refine lv_iload_n hx hb dX2_cutBelow_72 rfl (lv_at hl 2 rfl) ?_
        refine lv_lload hx hb dX2_cutBelow_73 (lv_at hl 0 rfl) ?_
        refine va_last hx hb hK hP hD hS 2 1 rfl rfl (hk0) dX2_cutBelow_75 (fun H locs hP hD hS => ?_)
        have hP : va_P (dC, dI) vwCl [(h0, .inr (1, [.ref q1, .ref q2, .ref q3])), (q1, .inl (cA, 16, .inr (.inl (vp_updL lo p0.toNatClampNeg (0 : Int64))))), (q2, .inl (cB, 16, .inr (.inl (vp_updL hi p0.toNatClampNeg (pl_min (hi p0.toNatClampNeg) ((hi p1.toNatClampNeg) - p2.toInt64))))))] H := hP
        have hD : va_D A [(h0, .inr (1, [.ref q1, .ref q2, .ref q3])), (q1, .inl (cA, 16, .inr (.inl (vp_updL lo p0.toNatClampNeg (0 : Int64))))), (q2, .inl (cB, 16, .inr (.inl (vp_updL hi p0.toNatClampNeg (pl_min (hi p0.toNatClampNeg) ((hi p1.toNatClampNeg) - p2.toInt64))))))] := hD
        refine lv_iconst (v := (1 : Int32)) hx hb dX2_cutBelow_76 (by decide) ?_
        have es : (s_X2_cutBelow lo hi p0 p1 p2) = ((1 : Int32), vp_updL lo p0.toNatClampNeg (0 : Int64), vp_updL hi p0.toNatClampNeg (pl_min (hi p0.toNatClampNeg) ((hi p1.toNatClampNeg) - p2.toInt64))) := by unfold s_X2_cutBelow; rw [if_neg c1, if_pos c2, if_neg c3]
        exact W.zret (v := (1 : Int32)) hx hb hr (rfl) (fun t ht hW => by rw [es]; exact ⟨rfl, by rw [ht]; exact hP, hD, hS.F ht⟩) hS.2.2 dX2_cutBelow_77
      · refine lv_iconst (v := (0 : Int32)) hx hb dX2_cutBelow_59 (by decide) ?_
        have es : (s_X2_cutBelow lo hi p0 p1 p2) = ((0 : Int32), lo, hi) := by unfold s_X2_cutBelow; rw [if_neg c1, if_pos c2, if_pos c3]
        exact W.zret (v := (0 : Int32)) hx hb hr (rfl) (fun t ht hW => by rw [es]; exact ⟨rfl, by rw [ht]; exact hP, hD, hS.F ht⟩) hS.2.2 dX2_cutBelow_60
    · refine lv_aload_n hx hb dX2_cutBelow_24 rfl (lv_at hl 0 rfl) ?_
      refine lv_iload_n hx hb dX2_cutBelow_25 rfl (lv_at hl 1 rfl) ?_
      refine lv_iload_n hx hb dX2_cutBelow_26 rfl (lv_at hl 2 rfl) ?_
      refine lv_iload_n hx hb dX2_cutBelow_27 rfl (lv_at hl 3 rfl) ?_
      refine wq_calli (wc := [(h0, .inr (1, [.ref q1, .ref q2, .ref q3])), (q1, .inl (cA, 16, .inr (.inl lo))), (q2, .inl (cB, 16, .inr (.inl hi)))]) (wr := []) (w2 := [(h0, .inr (1, [.ref q1, .ref q2, .ref q3])), (q1, .inl (cA, 16, .inr (.inl ((s_X2_cutSignedBelow lo hi p0 p1 p2).2.1)))), (q2, .inl (cB, 16, .inr (.inl ((s_X2_cutSignedBelow lo hi p0 p1 p2).2.2))))]) (va_runV (As := [.int p0, .int p1, .int p2]) (rest := []) ⟨hx, hb, hml, hown, hts⟩ (c_X2_cutSignedBelow l dC dI cA cB h0 q1 q2 q3 s.heap.size lo hi p0 p1 p2 hk0 hk1) (cwV 3 hts gX2_cutBelow_X2_cutSignedBelow rfl rfl rfl ydV_X2_cutSignedBelow ⟨Nat.le_of_ble_eq_true rfl, Nat.le_of_ble_eq_true rfl⟩) (wp_V (hK.sub (tys' := [(cA, .long), (cB, .long)]) [0, 1] rfl) (hP.sub (ws' := [(h0, .inr (1, [.ref q1, .ref q2, .ref q3])), (q1, .inl (cA, 16, .inr (.inl lo))), (q2, .inl (cB, 16, .inr (.inl hi)))]) [0, 1, 2] rfl) (hD.sub (ws' := [(h0, .inr (1, [.ref q1, .ref q2, .ref q3])), (q1, .inl (cA, 16, .inr (.inl lo))), (q2, .inl (cB, 16, .inr (.inl hi)))]) [0, 1, 2] (by decide) rfl)  rfl rfl) rfl rfl hl.1 rfl (lv_room (Nat.le_of_ble_eq_true rfl)) dX2_cutBelow_28 ⟨Nat.le_of_ble_eq_true rfl, Nat.le_of_ble_eq_true rfl⟩) hP hD hS hA [0, 1, 2] [] [0, 1, 2] rfl rfl rfl (by decide) rfl rfl (fun H locs hP hD hS => ?_)
      have es : (s_X2_cutBelow lo hi p0 p1 p2) = ((s_X2_cutSignedBelow lo hi p0 p1 p2).1, (s_X2_cutSignedBelow lo hi p0 p1 p2).2.1, (s_X2_cutSignedBelow lo hi p0 p1 p2).2.2) := by unfold s_X2_cutBelow; rw [if_neg c1, if_neg c2]
      exact W.zret (v := (s_X2_cutSignedBelow lo hi p0 p1 p2).1) hx hb hr (pz_01 (z_X2_cutSignedBelow _ _ _ _ _)) (fun t ht hW => by rw [es]; exact ⟨rfl, by rw [ht]; exact hP, hD, hS.F ht⟩) hS.2.2 dX2_cutBelow_31
  · refine lv_iconst (v := (1 : Int32)) hx hb dX2_cutBelow_11 (by decide) ?_
    have es : (s_X2_cutBelow lo hi p0 p1 p2) = ((1 : Int32), lo, hi) := by unfold s_X2_cutBelow; rw [if_pos c1]
    exact W.zret (v := (1 : Int32)) hx hb hr (rfl) (fun t ht hW => by rw [es]; exact ⟨rfl, by rw [ht]; exact hP, hD, hS.F ht⟩) hS.2.2 dX2_cutBelow_12

def s_X2_cutSo (lo : Nat → Int64) (hi : Nat → Int64) (p0 : Int32) (p1 : Int32) (p2 : Int32) : Int32 × (Nat → Int64) × (Nat → Int64) :=
  if p0 = (0 : Int32) then ((s_X2_cutToCommon lo hi p1 p2).1, (s_X2_cutToCommon lo hi p1 p2).2.1, (s_X2_cutToCommon lo hi p1 p2).2.2)
  else if p0 = (1 : Int32) then ((s_X2_cutApart lo hi p1 p2).1, (s_X2_cutApart lo hi p1 p2).2.1, (s_X2_cutApart lo hi p1 p2).2.2)
  else if p0 = (2 : Int32) then ((s_X2_cutBelow lo hi p1 p2 (1 : Int32)).1, (s_X2_cutBelow lo hi p1 p2 (1 : Int32)).2.1, (s_X2_cutBelow lo hi p1 p2 (1 : Int32)).2.2)
  else if p0 = (3 : Int32) then ((s_X2_cutBelow lo hi p1 p2 (0 : Int32)).1, (s_X2_cutBelow lo hi p1 p2 (0 : Int32)).2.1, (s_X2_cutBelow lo hi p1 p2 (0 : Int32)).2.2)
  else if p0 = (4 : Int32) then ((s_X2_cutBelow lo hi p2 p1 (1 : Int32)).1, (s_X2_cutBelow lo hi p2 p1 (1 : Int32)).2.1, (s_X2_cutBelow lo hi p2 p1 (1 : Int32)).2.2)
  else if p0 = (5 : Int32) then ((s_X2_cutBelow lo hi p2 p1 (0 : Int32)).1, (s_X2_cutBelow lo hi p2 p1 (0 : Int32)).2.1, (s_X2_cutBelow lo hi p2 p1 (0 : Int32)).2.2)
  else if p0 = (6 : Int32) then ((s_X2_cutSignedBelow lo hi p1 p2 (1 : Int32)).1, (s_X2_cutSignedBelow lo hi p1 p2 (1 : Int32)).2.1, (s_X2_cutSignedBelow lo hi p1 p2 (1 : Int32)).2.2)
  else if p0 = (7 : Int32) then ((s_X2_cutSignedBelow lo hi p1 p2 (0 : Int32)).1, (s_X2_cutSignedBelow lo hi p1 p2 (0 : Int32)).2.1, (s_X2_cutSignedBelow lo hi p1 p2 (0 : Int32)).2.2)
  else if p0 = (8 : Int32) then ((s_X2_cutSignedBelow lo hi p2 p1 (1 : Int32)).1, (s_X2_cutSignedBelow lo hi p2 p1 (1 : Int32)).2.1, (s_X2_cutSignedBelow lo hi p2 p1 (1 : Int32)).2.2)
  else if p0 = (9 : Int32) then ((s_X2_cutSignedBelow lo hi p2 p1 (0 : Int32)).1, (s_X2_cutSignedBelow lo hi p2 p1 (0 : Int32)).2.1, (s_X2_cutSignedBelow lo hi p2 p1 (0 : Int32)).2.2)
  else ((1 : Int32), lo, hi)
theorem z_X2_cutSo (lo : Nat → Int64) (hi : Nat → Int64) (p0 : Int32) (p1 : Int32) (p2 : Int32) : (s_X2_cutSo lo hi p0 p1 p2).1 = 0 ∨ (s_X2_cutSo lo hi p0 p1 p2).1 = 1 := by
  unfold s_X2_cutSo
  by_cases c1 : p0 = (0 : Int32)
  · rw [if_pos c1]
    exact z_X2_cutToCommon _ _ _ _
  · rw [if_neg c1]
    by_cases c2 : p0 = (1 : Int32)
    · rw [if_pos c2]
      exact z_X2_cutApart _ _ _ _
    · rw [if_neg c2]
      by_cases c3 : p0 = (2 : Int32)
      · rw [if_pos c3]
        exact z_X2_cutBelow _ _ _ _ _
      · rw [if_neg c3]
        by_cases c4 : p0 = (3 : Int32)
        · rw [if_pos c4]
          exact z_X2_cutBelow _ _ _ _ _
        · rw [if_neg c4]
          by_cases c5 : p0 = (4 : Int32)
          · rw [if_pos c5]
            exact z_X2_cutBelow _ _ _ _ _
          · rw [if_neg c5]
            by_cases c6 : p0 = (5 : Int32)
            · rw [if_pos c6]
              exact z_X2_cutBelow _ _ _ _ _
            · rw [if_neg c6]
              by_cases c7 : p0 = (6 : Int32)
              · rw [if_pos c7]
                exact z_X2_cutSignedBelow _ _ _ _ _
              · rw [if_neg c7]
                by_cases c8 : p0 = (7 : Int32)
                · rw [if_pos c8]
                  exact z_X2_cutSignedBelow _ _ _ _ _
                · rw [if_neg c8]
                  by_cases c9 : p0 = (8 : Int32)
                  · rw [if_pos c9]
                    exact z_X2_cutSignedBelow _ _ _ _ _
                  · rw [if_neg c9]
                    by_cases c10 : p0 = (9 : Int32)
                    · rw [if_pos c10]
                      exact z_X2_cutSignedBelow _ _ _ _ _
                    · rw [if_neg c10]
                      exact Or.inr rfl
set_option maxHeartbeats 4000000 in
set_option maxRecDepth 100000 in
theorem c_X2_cutSo (l : Launch) (dC : Nat → ClassId) (dI : Nat → Nat → Nat) (cA cB : ClassId) (h0 q1 q2 q3 sz : Nat) (lo : Nat → Int64) (hi : Nat → Int64) (p0 : Int32) (p1 : Int32) (p2 : Int32) (hk1 : vp_in p1 16) (hk2 : vp_in p2 16) : Met l yX2_cutSo wsX2_cutSo ({ frames := 3, cells := 0, slots := 0, locals := 67 }) (wp9 (dC, dI) vwCl [(cA, .long), (cB, .long)] [.ref h0, .int p0, .int p1, .int p2] sz [(h0, .inr (1, [.ref q1, .ref q2, .ref q3])), (q1, .inl (cA, 16, .inr (.inl lo))), (q2, .inl (cB, 16, .inr (.inl hi)))]) (wq (some (.int ((s_X2_cutSo lo hi p0 p1 p2).1))) (dC, dI) vwCl [(h0, .inr (1, [.ref q1, .ref q2, .ref q3])), (q1, .inl (cA, 16, .inr (.inl ((s_X2_cutSo lo hi p0 p1 p2).2.1)))), (q2, .inl (cB, 16, .inr (.inl ((s_X2_cutSo lo hi p0 p1 p2).2.2))))] (va_A [(h0, .inr (1, [.ref q1, .ref q2, .ref q3])), (q1, .inl (cA, 16, .inr (.inl lo))), (q2, .inl (cB, 16, .inr (.inl hi)))] sz)) 0 0 (va_A [(h0, .inr (1, [.ref q1, .ref q2, .ref q3])), (q1, .inl (cA, 16, .inr (.inl lo))), (q2, .inl (cB, 16, .inr (.inl hi)))] sz) := by
  refine Met.ofW (cc := cX2_cutSo) (maxL := 4) (ret := (some .boolean)) (by decide) rfl ?_
  intro p e s m args below meth c s₁ B hml hv
  obtain ⟨rfl, hsz, hP, hK, hD0⟩ := hv
  have hx := B.exec
  have hb := B.bytes
  have hr := B.returns
  have hts := atoms_spec (ws := wsX2_cutSo) B.pre
  have hown : s.vm.findClass RX2 = some m.cls := findClass_of_methodNamed B.named
  have hlocks := B.notSynchronized
  subst hsz
  have hD := hD0.self (sz := s.heap.size)
  generalize hAe : va_A [(h0, .inr (1, [.ref q1, .ref q2, .ref q3])), (q1, .inl (cA, 16, .inr (.inl lo))), (q2, .inl (cB, 16, .inr (.inl hi)))] s.heap.size = A at hD ⊢
  have hA : ∀ q : Nat, s.heap.size ≤ q → A q := fun q h => by rw [← hAe]; exact Or.inr h
  have hS : va_S A s.heap s.heap [] := va_S.rf
  have hP : va_P (dC, dI) vwCl [(h0, .inr (1, [.ref q1, .ref q2, .ref q3])), (q1, .inl (cA, 16, .inr (.inl lo))), (q2, .inl (cB, 16, .inr (.inl hi)))] s.heap := hP
  have hl := lv_entry ([.ref h0, .int p0, .int p1, .int p2]) (n := 4) (Nat.le_of_ble_eq_true rfl)
  rw [lg_entry_eq]
  generalize (lg_sl ([.ref h0, .int p0, .int p1, .int p2]) ++ List.replicate (4 - (lg_sl ([.ref h0, .int p0, .int p1, .int p2])).length) Slot.unset).toArray = ls at hl ⊢
  have hl : lv_has ls 4 [(0, .ref h0), (1, .int p0), (2, .int p1), (3, .int p2)] := hl
  refine lv_iload_n hx hb dX2_cutSo_0 rfl (lv_at hl 1 rfl) ?_
  by_cases c1 : p0 = (0 : Int32)
  · refine lv_tableIn (off := 55) (tgt := 56) hx hb dX2_cutSo_1 (by rw [c1]; decide) (by rw [c1]; decide) (by rw [c1]; decide) (by decide) ?_
    refine lv_aload_n hx hb dX2_cutSo_56 rfl (lv_at hl 0 rfl) ?_
    refine lv_iload_n hx hb dX2_cutSo_57 rfl (lv_at hl 2 rfl) ?_
    refine lv_iload_n hx hb dX2_cutSo_58 rfl (lv_at hl 3 rfl) ?_
    refine wq_calli (wc := [(h0, .inr (1, [.ref q1, .ref q2, .ref q3])), (q1, .inl (cA, 16, .inr (.inl lo))), (q2, .inl (cB, 16, .inr (.inl hi)))]) (wr := []) (w2 := [(h0, .inr (1, [.ref q1, .ref q2, .ref q3])), (q1, .inl (cA, 16, .inr (.inl ((s_X2_cutToCommon lo hi p1 p2).2.1)))), (q2, .inl (cB, 16, .inr (.inl ((s_X2_cutToCommon lo hi p1 p2).2.2))))]) (va_runV (As := [.int p1, .int p2]) (rest := []) ⟨hx, hb, hml, hown, hts⟩ (c_X2_cutToCommon l dC dI cA cB h0 q1 q2 q3 s.heap.size lo hi p1 p2 hk1 hk2) (cwV 2 hts gX2_cutSo_X2_cutToCommon rfl rfl rfl ydV_X2_cutToCommon ⟨Nat.le_of_ble_eq_true rfl, Nat.le_of_ble_eq_true rfl⟩) (wp_V (hK.sub (tys' := [(cA, .long), (cB, .long)]) [0, 1] rfl) (hP.sub (ws' := [(h0, .inr (1, [.ref q1, .ref q2, .ref q3])), (q1, .inl (cA, 16, .inr (.inl lo))), (q2, .inl (cB, 16, .inr (.inl hi)))]) [0, 1, 2] rfl) (hD.sub (ws' := [(h0, .inr (1, [.ref q1, .ref q2, .ref q3])), (q1, .inl (cA, 16, .inr (.inl lo))), (q2, .inl (cB, 16, .inr (.inl hi)))]) [0, 1, 2] (by decide) rfl)  rfl rfl) rfl rfl hl.1 rfl (lv_room (Nat.le_of_ble_eq_true rfl)) dX2_cutSo_59 ⟨Nat.le_of_ble_eq_true rfl, Nat.le_of_ble_eq_true rfl⟩) hP hD hS hA [0, 1, 2] [] [0, 1, 2] rfl rfl rfl (by decide) rfl rfl (fun H locs hP hD hS => ?_)
    have es : (s_X2_cutSo lo hi p0 p1 p2) = ((s_X2_cutToCommon lo hi p1 p2).1, (s_X2_cutToCommon lo hi p1 p2).2.1, (s_X2_cutToCommon lo hi p1 p2).2.2) := by unfold s_X2_cutSo; rw [if_pos c1]
    exact W.zret (v := (s_X2_cutToCommon lo hi p1 p2).1) hx hb hr (pz_01 (z_X2_cutToCommon _ _ _ _)) (fun t ht hW => by rw [es]; exact ⟨rfl, by rw [ht]; exact hP, hD, hS.F ht⟩) hS.2.2 dX2_cutSo_62
  by_cases c2 : p0 = (1 : Int32)
  · refine lv_tableIn (off := 62) (tgt := 63) hx hb dX2_cutSo_1 (by rw [c2]; decide) (by rw [c2]; decide) (by rw [c2]; decide) (by decide) ?_
    refine lv_aload_n hx hb dX2_cutSo_63 rfl (lv_at hl 0 rfl) ?_
    refine lv_iload_n hx hb dX2_cutSo_64 rfl (lv_at hl 2 rfl) ?_
    refine lv_iload_n hx hb dX2_cutSo_65 rfl (lv_at hl 3 rfl) ?_
    refine wq_calli (wc := [(h0, .inr (1, [.ref q1, .ref q2, .ref q3])), (q1, .inl (cA, 16, .inr (.inl lo))), (q2, .inl (cB, 16, .inr (.inl hi)))]) (wr := []) (w2 := [(h0, .inr (1, [.ref q1, .ref q2, .ref q3])), (q1, .inl (cA, 16, .inr (.inl ((s_X2_cutApart lo hi p1 p2).2.1)))), (q2, .inl (cB, 16, .inr (.inl ((s_X2_cutApart lo hi p1 p2).2.2))))]) (va_runV (As := [.int p1, .int p2]) (rest := []) ⟨hx, hb, hml, hown, hts⟩ (c_X2_cutApart l dC dI cA cB h0 q1 q2 q3 s.heap.size lo hi p1 p2 hk1 hk2) (cwV 2 hts gX2_cutSo_X2_cutApart rfl rfl rfl ydV_X2_cutApart ⟨Nat.le_of_ble_eq_true rfl, Nat.le_of_ble_eq_true rfl⟩) (wp_V (hK.sub (tys' := [(cA, .long), (cB, .long)]) [0, 1] rfl) (hP.sub (ws' := [(h0, .inr (1, [.ref q1, .ref q2, .ref q3])), (q1, .inl (cA, 16, .inr (.inl lo))), (q2, .inl (cB, 16, .inr (.inl hi)))]) [0, 1, 2] rfl) (hD.sub (ws' := [(h0, .inr (1, [.ref q1, .ref q2, .ref q3])), (q1, .inl (cA, 16, .inr (.inl lo))), (q2, .inl (cB, 16, .inr (.inl hi)))]) [0, 1, 2] (by decide) rfl)  rfl rfl) rfl rfl hl.1 rfl (lv_room (Nat.le_of_ble_eq_true rfl)) dX2_cutSo_66 ⟨Nat.le_of_ble_eq_true rfl, Nat.le_of_ble_eq_true rfl⟩) hP hD hS hA [0, 1, 2] [] [0, 1, 2] rfl rfl rfl (by decide) rfl rfl (fun H locs hP hD hS => ?_)
    have es : (s_X2_cutSo lo hi p0 p1 p2) = ((s_X2_cutApart lo hi p1 p2).1, (s_X2_cutApart lo hi p1 p2).2.1, (s_X2_cutApart lo hi p1 p2).2.2) := by unfold s_X2_cutSo; rw [if_neg c1, if_pos c2]
    exact W.zret (v := (s_X2_cutApart lo hi p1 p2).1) hx hb hr (pz_01 (z_X2_cutApart _ _ _ _)) (fun t ht hW => by rw [es]; exact ⟨rfl, by rw [ht]; exact hP, hD, hS.F ht⟩) hS.2.2 dX2_cutSo_69
  by_cases c3 : p0 = (2 : Int32)
  · refine lv_tableIn (off := 69) (tgt := 70) hx hb dX2_cutSo_1 (by rw [c3]; decide) (by rw [c3]; decide) (by rw [c3]; decide) (by decide) ?_
    refine lv_aload_n hx hb dX2_cutSo_70 rfl (lv_at hl 0 rfl) ?_
    refine lv_iload_n hx hb dX2_cutSo_71 rfl (lv_at hl 2 rfl) ?_
    refine lv_iload_n hx hb dX2_cutSo_72 rfl (lv_at hl 3 rfl) ?_
    refine lv_iconst (v := (1 : Int32)) hx hb dX2_cutSo_73 (by decide) ?_
    refine wq_calli (wc := [(h0, .inr (1, [.ref q1, .ref q2, .ref q3])), (q1, .inl (cA, 16, .inr (.inl lo))), (q2, .inl (cB, 16, .inr (.inl hi)))]) (wr := []) (w2 := [(h0, .inr (1, [.ref q1, .ref q2, .ref q3])), (q1, .inl (cA, 16, .inr (.inl ((s_X2_cutBelow lo hi p1 p2 (1 : Int32)).2.1)))), (q2, .inl (cB, 16, .inr (.inl ((s_X2_cutBelow lo hi p1 p2 (1 : Int32)).2.2))))]) (va_runV (As := [.int p1, .int p2, .int (1 : Int32)]) (rest := []) ⟨hx, hb, hml, hown, hts⟩ (c_X2_cutBelow l dC dI cA cB h0 q1 q2 q3 s.heap.size lo hi p1 p2 (1 : Int32) hk1 hk2) (cwV 3 hts gX2_cutSo_X2_cutBelow rfl rfl rfl ydV_X2_cutBelow ⟨Nat.le_of_ble_eq_true rfl, Nat.le_of_ble_eq_true rfl⟩) (wp_V (hK.sub (tys' := [(cA, .long), (cB, .long)]) [0, 1] rfl) (hP.sub (ws' := [(h0, .inr (1, [.ref q1, .ref q2, .ref q3])), (q1, .inl (cA, 16, .inr (.inl lo))), (q2, .inl (cB, 16, .inr (.inl hi)))]) [0, 1, 2] rfl) (hD.sub (ws' := [(h0, .inr (1, [.ref q1, .ref q2, .ref q3])), (q1, .inl (cA, 16, .inr (.inl lo))), (q2, .inl (cB, 16, .inr (.inl hi)))]) [0, 1, 2] (by decide) rfl)  rfl rfl) rfl rfl hl.1 rfl (lv_room (Nat.le_of_ble_eq_true rfl)) dX2_cutSo_74 ⟨Nat.le_of_ble_eq_true rfl, Nat.le_of_ble_eq_true rfl⟩) hP hD hS hA [0, 1, 2] [] [0, 1, 2] rfl rfl rfl (by decide) rfl rfl (fun H locs hP hD hS => ?_)
    have es : (s_X2_cutSo lo hi p0 p1 p2) = ((s_X2_cutBelow lo hi p1 p2 (1 : Int32)).1, (s_X2_cutBelow lo hi p1 p2 (1 : Int32)).2.1, (s_X2_cutBelow lo hi p1 p2 (1 : Int32)).2.2) := by unfold s_X2_cutSo; rw [if_neg c1, if_neg c2, if_pos c3]
    exact W.zret (v := (s_X2_cutBelow lo hi p1 p2 (1 : Int32)).1) hx hb hr (pz_01 (z_X2_cutBelow _ _ _ _ _)) (fun t ht hW => by rw [es]; exact ⟨rfl, by rw [ht]; exact hP, hD, hS.F ht⟩) hS.2.2 dX2_cutSo_77
  by_cases c4 : p0 = (3 : Int32)
  · refine lv_tableIn (off := 77) (tgt := 78) hx hb dX2_cutSo_1 (by rw [c4]; decide) (by rw [c4]; decide) (by rw [c4]; decide) (by decide) ?_
    refine lv_aload_n hx hb dX2_cutSo_78 rfl (lv_at hl 0 rfl) ?_
    refine lv_iload_n hx hb dX2_cutSo_79 rfl (lv_at hl 2 rfl) ?_
    refine lv_iload_n hx hb dX2_cutSo_80 rfl (lv_at hl 3 rfl) ?_
    refine lv_iconst (v := (0 : Int32)) hx hb dX2_cutSo_81 (by decide) ?_
    refine wq_calli (wc := [(h0, .inr (1, [.ref q1, .ref q2, .ref q3])), (q1, .inl (cA, 16, .inr (.inl lo))), (q2, .inl (cB, 16, .inr (.inl hi)))]) (wr := []) (w2 := [(h0, .inr (1, [.ref q1, .ref q2, .ref q3])), (q1, .inl (cA, 16, .inr (.inl ((s_X2_cutBelow lo hi p1 p2 (0 : Int32)).2.1)))), (q2, .inl (cB, 16, .inr (.inl ((s_X2_cutBelow lo hi p1 p2 (0 : Int32)).2.2))))]) (va_runV (As := [.int p1, .int p2, .int (0 : Int32)]) (rest := []) ⟨hx, hb, hml, hown, hts⟩ (c_X2_cutBelow l dC dI cA cB h0 q1 q2 q3 s.heap.size lo hi p1 p2 (0 : Int32) hk1 hk2) (cwV 3 hts gX2_cutSo_X2_cutBelow rfl rfl rfl ydV_X2_cutBelow ⟨Nat.le_of_ble_eq_true rfl, Nat.le_of_ble_eq_true rfl⟩) (wp_V (hK.sub (tys' := [(cA, .long), (cB, .long)]) [0, 1] rfl) (hP.sub (ws' := [(h0, .inr (1, [.ref q1, .ref q2, .ref q3])), (q1, .inl (cA, 16, .inr (.inl lo))), (q2, .inl (cB, 16, .inr (.inl hi)))]) [0, 1, 2] rfl) (hD.sub (ws' := [(h0, .inr (1, [.ref q1, .ref q2, .ref q3])), (q1, .inl (cA, 16, .inr (.inl lo))), (q2, .inl (cB, 16, .inr (.inl hi)))]) [0, 1, 2] (by decide) rfl)  rfl rfl) rfl rfl hl.1 rfl (lv_room (Nat.le_of_ble_eq_true rfl)) dX2_cutSo_82 ⟨Nat.le_of_ble_eq_true rfl, Nat.le_of_ble_eq_true rfl⟩) hP hD hS hA [0, 1, 2] [] [0, 1, 2] rfl rfl rfl (by decide) rfl rfl (fun H locs hP hD hS => ?_)
    have es : (s_X2_cutSo lo hi p0 p1 p2) = ((s_X2_cutBelow lo hi p1 p2 (0 : Int32)).1, (s_X2_cutBelow lo hi p1 p2 (0 : Int32)).2.1, (s_X2_cutBelow lo hi p1 p2 (0 : Int32)).2.2) := by unfold s_X2_cutSo; rw [if_neg c1, if_neg c2, if_neg c3, if_pos c4]
    exact W.zret (v := (s_X2_cutBelow lo hi p1 p2 (0 : Int32)).1) hx hb hr (pz_01 (z_X2_cutBelow _ _ _ _ _)) (fun t ht hW => by rw [es]; exact ⟨rfl, by rw [ht]; exact hP, hD, hS.F ht⟩) hS.2.2 dX2_cutSo_85
  by_cases c5 : p0 = (4 : Int32)
  · refine lv_tableIn (off := 85) (tgt := 86) hx hb dX2_cutSo_1 (by rw [c5]; decide) (by rw [c5]; decide) (by rw [c5]; decide) (by decide) ?_
    refine lv_aload_n hx hb dX2_cutSo_86 rfl (lv_at hl 0 rfl) ?_
    refine lv_iload_n hx hb dX2_cutSo_87 rfl (lv_at hl 3 rfl) ?_
    refine lv_iload_n hx hb dX2_cutSo_88 rfl (lv_at hl 2 rfl) ?_
    refine lv_iconst (v := (1 : Int32)) hx hb dX2_cutSo_89 (by decide) ?_
    refine wq_calli (wc := [(h0, .inr (1, [.ref q1, .ref q2, .ref q3])), (q1, .inl (cA, 16, .inr (.inl lo))), (q2, .inl (cB, 16, .inr (.inl hi)))]) (wr := []) (w2 := [(h0, .inr (1, [.ref q1, .ref q2, .ref q3])), (q1, .inl (cA, 16, .inr (.inl ((s_X2_cutBelow lo hi p2 p1 (1 : Int32)).2.1)))), (q2, .inl (cB, 16, .inr (.inl ((s_X2_cutBelow lo hi p2 p1 (1 : Int32)).2.2))))]) (va_runV (As := [.int p2, .int p1, .int (1 : Int32)]) (rest := []) ⟨hx, hb, hml, hown, hts⟩ (c_X2_cutBelow l dC dI cA cB h0 q1 q2 q3 s.heap.size lo hi p2 p1 (1 : Int32) hk2 hk1) (cwV 3 hts gX2_cutSo_X2_cutBelow rfl rfl rfl ydV_X2_cutBelow ⟨Nat.le_of_ble_eq_true rfl, Nat.le_of_ble_eq_true rfl⟩) (wp_V (hK.sub (tys' := [(cA, .long), (cB, .long)]) [0, 1] rfl) (hP.sub (ws' := [(h0, .inr (1, [.ref q1, .ref q2, .ref q3])), (q1, .inl (cA, 16, .inr (.inl lo))), (q2, .inl (cB, 16, .inr (.inl hi)))]) [0, 1, 2] rfl) (hD.sub (ws' := [(h0, .inr (1, [.ref q1, .ref q2, .ref q3])), (q1, .inl (cA, 16, .inr (.inl lo))), (q2, .inl (cB, 16, .inr (.inl hi)))]) [0, 1, 2] (by decide) rfl)  rfl rfl) rfl rfl hl.1 rfl (lv_room (Nat.le_of_ble_eq_true rfl)) dX2_cutSo_90 ⟨Nat.le_of_ble_eq_true rfl, Nat.le_of_ble_eq_true rfl⟩) hP hD hS hA [0, 1, 2] [] [0, 1, 2] rfl rfl rfl (by decide) rfl rfl (fun H locs hP hD hS => ?_)
    have es : (s_X2_cutSo lo hi p0 p1 p2) = ((s_X2_cutBelow lo hi p2 p1 (1 : Int32)).1, (s_X2_cutBelow lo hi p2 p1 (1 : Int32)).2.1, (s_X2_cutBelow lo hi p2 p1 (1 : Int32)).2.2) := by unfold s_X2_cutSo; rw [if_neg c1, if_neg c2, if_neg c3, if_neg c4, if_pos c5]
    exact W.zret (v := (s_X2_cutBelow lo hi p2 p1 (1 : Int32)).1) hx hb hr (pz_01 (z_X2_cutBelow _ _ _ _ _)) (fun t ht hW => by rw [es]; exact ⟨rfl, by rw [ht]; exact hP, hD, hS.F ht⟩) hS.2.2 dX2_cutSo_93
  by_cases c6 : p0 = (5 : Int32)
  · refine lv_tableIn (off := 93) (tgt := 94) hx hb dX2_cutSo_1 (by rw [c6]; decide) (by rw [c6]; decide) (by rw [c6]; decide) (by decide) ?_
    refine lv_aload_n hx hb dX2_cutSo_94 rfl (lv_at hl 0 rfl) ?_
    refine lv_iload_n hx hb dX2_cutSo_95 rfl (lv_at hl 3 rfl) ?_
    refine lv_iload_n hx hb dX2_cutSo_96 rfl (lv_at hl 2 rfl) ?_
    refine lv_iconst (v := (0 : Int32)) hx hb dX2_cutSo_97 (by decide) ?_
    refine wq_calli (wc := [(h0, .inr (1, [.ref q1, .ref q2, .ref q3])), (q1, .inl (cA, 16, .inr (.inl lo))), (q2, .inl (cB, 16, .inr (.inl hi)))]) (wr := []) (w2 := [(h0, .inr (1, [.ref q1, .ref q2, .ref q3])), (q1, .inl (cA, 16, .inr (.inl ((s_X2_cutBelow lo hi p2 p1 (0 : Int32)).2.1)))), (q2, .inl (cB, 16, .inr (.inl ((s_X2_cutBelow lo hi p2 p1 (0 : Int32)).2.2))))]) (va_runV (As := [.int p2, .int p1, .int (0 : Int32)]) (rest := []) ⟨hx, hb, hml, hown, hts⟩ (c_X2_cutBelow l dC dI cA cB h0 q1 q2 q3 s.heap.size lo hi p2 p1 (0 : Int32) hk2 hk1) (cwV 3 hts gX2_cutSo_X2_cutBelow rfl rfl rfl ydV_X2_cutBelow ⟨Nat.le_of_ble_eq_true rfl, Nat.le_of_ble_eq_true rfl⟩) (wp_V (hK.sub (tys' := [(cA, .long), (cB, .long)]) [0, 1] rfl) (hP.sub (ws' := [(h0, .inr (1, [.ref q1, .ref q2, .ref q3])), (q1, .inl (cA, 16, .inr (.inl lo))), (q2, .inl (cB, 16, .inr (.inl hi)))]) [0, 1, 2] rfl) (hD.sub (ws' := [(h0, .inr (1, [.ref q1, .ref q2, .ref q3])), (q1, .inl (cA, 16, .inr (.inl lo))), (q2, .inl (cB, 16, .inr (.inl hi)))]) [0, 1, 2] (by decide) rfl)  rfl rfl) rfl rfl hl.1 rfl (lv_room (Nat.le_of_ble_eq_true rfl)) dX2_cutSo_98 ⟨Nat.le_of_ble_eq_true rfl, Nat.le_of_ble_eq_true rfl⟩) hP hD hS hA [0, 1, 2] [] [0, 1, 2] rfl rfl rfl (by decide) rfl rfl (fun H locs hP hD hS => ?_)
    have es : (s_X2_cutSo lo hi p0 p1 p2) = ((s_X2_cutBelow lo hi p2 p1 (0 : Int32)).1, (s_X2_cutBelow lo hi p2 p1 (0 : Int32)).2.1, (s_X2_cutBelow lo hi p2 p1 (0 : Int32)).2.2) := by unfold s_X2_cutSo; rw [if_neg c1, if_neg c2, if_neg c3, if_neg c4, if_neg c5, if_pos c6]
    exact W.zret (v := (s_X2_cutBelow lo hi p2 p1 (0 : Int32)).1) hx hb hr (pz_01 (z_X2_cutBelow _ _ _ _ _)) (fun t ht hW => by rw [es]; exact ⟨rfl, by rw [ht]; exact hP, hD, hS.F ht⟩) hS.2.2 dX2_cutSo_101
  by_cases c7 : p0 = (6 : Int32)
  · refine lv_tableIn (off := 101) (tgt := 102) hx hb dX2_cutSo_1 (by rw [c7]; decide) (by rw [c7]; decide) (by rw [c7]; decide) (by decide) ?_
    refine lv_aload_n hx hb dX2_cutSo_102 rfl (lv_at hl 0 rfl) ?_
    refine lv_iload_n hx hb dX2_cutSo_103 rfl (lv_at hl 2 rfl) ?_
    refine lv_iload_n hx hb dX2_cutSo_104 rfl (lv_at hl 3 rfl) ?_
    refine lv_iconst (v := (1 : Int32)) hx hb dX2_cutSo_105 (by decide) ?_
    refine wq_calli (wc := [(h0, .inr (1, [.ref q1, .ref q2, .ref q3])), (q1, .inl (cA, 16, .inr (.inl lo))), (q2, .inl (cB, 16, .inr (.inl hi)))]) (wr := []) (w2 := [(h0, .inr (1, [.ref q1, .ref q2, .ref q3])), (q1, .inl (cA, 16, .inr (.inl ((s_X2_cutSignedBelow lo hi p1 p2 (1 : Int32)).2.1)))), (q2, .inl (cB, 16, .inr (.inl ((s_X2_cutSignedBelow lo hi p1 p2 (1 : Int32)).2.2))))]) (va_runV (As := [.int p1, .int p2, .int (1 : Int32)]) (rest := []) ⟨hx, hb, hml, hown, hts⟩ (c_X2_cutSignedBelow l dC dI cA cB h0 q1 q2 q3 s.heap.size lo hi p1 p2 (1 : Int32) hk1 hk2) (cwV 3 hts gX2_cutSo_X2_cutSignedBelow rfl rfl rfl ydV_X2_cutSignedBelow ⟨Nat.le_of_ble_eq_true rfl, Nat.le_of_ble_eq_true rfl⟩) (wp_V (hK.sub (tys' := [(cA, .long), (cB, .long)]) [0, 1] rfl) (hP.sub (ws' := [(h0, .inr (1, [.ref q1, .ref q2, .ref q3])), (q1, .inl (cA, 16, .inr (.inl lo))), (q2, .inl (cB, 16, .inr (.inl hi)))]) [0, 1, 2] rfl) (hD.sub (ws' := [(h0, .inr (1, [.ref q1, .ref q2, .ref q3])), (q1, .inl (cA, 16, .inr (.inl lo))), (q2, .inl (cB, 16, .inr (.inl hi)))]) [0, 1, 2] (by decide) rfl)  rfl rfl) rfl rfl hl.1 rfl (lv_room (Nat.le_of_ble_eq_true rfl)) dX2_cutSo_106 ⟨Nat.le_of_ble_eq_true rfl, Nat.le_of_ble_eq_true rfl⟩) hP hD hS hA [0, 1, 2] [] [0, 1, 2] rfl rfl rfl (by decide) rfl rfl (fun H locs hP hD hS => ?_)
    have es : (s_X2_cutSo lo hi p0 p1 p2) = ((s_X2_cutSignedBelow lo hi p1 p2 (1 : Int32)).1, (s_X2_cutSignedBelow lo hi p1 p2 (1 : Int32)).2.1, (s_X2_cutSignedBelow lo hi p1 p2 (1 : Int32)).2.2) := by unfold s_X2_cutSo; rw [if_neg c1, if_neg c2, if_neg c3, if_neg c4, if_neg c5, if_neg c6, if_pos c7]
    exact W.zret (v := (s_X2_cutSignedBelow lo hi p1 p2 (1 : Int32)).1) hx hb hr (pz_01 (z_X2_cutSignedBelow _ _ _ _ _)) (fun t ht hW => by rw [es]; exact ⟨rfl, by rw [ht]; exact hP, hD, hS.F ht⟩) hS.2.2 dX2_cutSo_109
  by_cases c8 : p0 = (7 : Int32)
  · refine lv_tableIn (off := 109) (tgt := 110) hx hb dX2_cutSo_1 (by rw [c8]; decide) (by rw [c8]; decide) (by rw [c8]; decide) (by decide) ?_
    refine lv_aload_n hx hb dX2_cutSo_110 rfl (lv_at hl 0 rfl) ?_
    refine lv_iload_n hx hb dX2_cutSo_111 rfl (lv_at hl 2 rfl) ?_
    refine lv_iload_n hx hb dX2_cutSo_112 rfl (lv_at hl 3 rfl) ?_
    refine lv_iconst (v := (0 : Int32)) hx hb dX2_cutSo_113 (by decide) ?_
    refine wq_calli (wc := [(h0, .inr (1, [.ref q1, .ref q2, .ref q3])), (q1, .inl (cA, 16, .inr (.inl lo))), (q2, .inl (cB, 16, .inr (.inl hi)))]) (wr := []) (w2 := [(h0, .inr (1, [.ref q1, .ref q2, .ref q3])), (q1, .inl (cA, 16, .inr (.inl ((s_X2_cutSignedBelow lo hi p1 p2 (0 : Int32)).2.1)))), (q2, .inl (cB, 16, .inr (.inl ((s_X2_cutSignedBelow lo hi p1 p2 (0 : Int32)).2.2))))]) (va_runV (As := [.int p1, .int p2, .int (0 : Int32)]) (rest := []) ⟨hx, hb, hml, hown, hts⟩ (c_X2_cutSignedBelow l dC dI cA cB h0 q1 q2 q3 s.heap.size lo hi p1 p2 (0 : Int32) hk1 hk2) (cwV 3 hts gX2_cutSo_X2_cutSignedBelow rfl rfl rfl ydV_X2_cutSignedBelow ⟨Nat.le_of_ble_eq_true rfl, Nat.le_of_ble_eq_true rfl⟩) (wp_V (hK.sub (tys' := [(cA, .long), (cB, .long)]) [0, 1] rfl) (hP.sub (ws' := [(h0, .inr (1, [.ref q1, .ref q2, .ref q3])), (q1, .inl (cA, 16, .inr (.inl lo))), (q2, .inl (cB, 16, .inr (.inl hi)))]) [0, 1, 2] rfl) (hD.sub (ws' := [(h0, .inr (1, [.ref q1, .ref q2, .ref q3])), (q1, .inl (cA, 16, .inr (.inl lo))), (q2, .inl (cB, 16, .inr (.inl hi)))]) [0, 1, 2] (by decide) rfl)  rfl rfl) rfl rfl hl.1 rfl (lv_room (Nat.le_of_ble_eq_true rfl)) dX2_cutSo_114 ⟨Nat.le_of_ble_eq_true rfl, Nat.le_of_ble_eq_true rfl⟩) hP hD hS hA [0, 1, 2] [] [0, 1, 2] rfl rfl rfl (by decide) rfl rfl (fun H locs hP hD hS => ?_)
    have es : (s_X2_cutSo lo hi p0 p1 p2) = ((s_X2_cutSignedBelow lo hi p1 p2 (0 : Int32)).1, (s_X2_cutSignedBelow lo hi p1 p2 (0 : Int32)).2.1, (s_X2_cutSignedBelow lo hi p1 p2 (0 : Int32)).2.2) := by unfold s_X2_cutSo; rw [if_neg c1, if_neg c2, if_neg c3, if_neg c4, if_neg c5, if_neg c6, if_neg c7, if_pos c8]
    exact W.zret (v := (s_X2_cutSignedBelow lo hi p1 p2 (0 : Int32)).1) hx hb hr (pz_01 (z_X2_cutSignedBelow _ _ _ _ _)) (fun t ht hW => by rw [es]; exact ⟨rfl, by rw [ht]; exact hP, hD, hS.F ht⟩) hS.2.2 dX2_cutSo_117
  by_cases c9 : p0 = (8 : Int32)
  · refine lv_tableIn (off := 117) (tgt := 118) hx hb dX2_cutSo_1 (by rw [c9]; decide) (by rw [c9]; decide) (by rw [c9]; decide) (by decide) ?_
    refine lv_aload_n hx hb dX2_cutSo_118 rfl (lv_at hl 0 rfl) ?_
    refine lv_iload_n hx hb dX2_cutSo_119 rfl (lv_at hl 3 rfl) ?_
    refine lv_iload_n hx hb dX2_cutSo_120 rfl (lv_at hl 2 rfl) ?_
    refine lv_iconst (v := (1 : Int32)) hx hb dX2_cutSo_121 (by decide) ?_
    refine wq_calli (wc := [(h0, .inr (1, [.ref q1, .ref q2, .ref q3])), (q1, .inl (cA, 16, .inr (.inl lo))), (q2, .inl (cB, 16, .inr (.inl hi)))]) (wr := []) (w2 := [(h0, .inr (1, [.ref q1, .ref q2, .ref q3])), (q1, .inl (cA, 16, .inr (.inl ((s_X2_cutSignedBelow lo hi p2 p1 (1 : Int32)).2.1)))), (q2, .inl (cB, 16, .inr (.inl ((s_X2_cutSignedBelow lo hi p2 p1 (1 : Int32)).2.2))))]) (va_runV (As := [.int p2, .int p1, .int (1 : Int32)]) (rest := []) ⟨hx, hb, hml, hown, hts⟩ (c_X2_cutSignedBelow l dC dI cA cB h0 q1 q2 q3 s.heap.size lo hi p2 p1 (1 : Int32) hk2 hk1) (cwV 3 hts gX2_cutSo_X2_cutSignedBelow rfl rfl rfl ydV_X2_cutSignedBelow ⟨Nat.le_of_ble_eq_true rfl, Nat.le_of_ble_eq_true rfl⟩) (wp_V (hK.sub (tys' := [(cA, .long), (cB, .long)]) [0, 1] rfl) (hP.sub (ws' := [(h0, .inr (1, [.ref q1, .ref q2, .ref q3])), (q1, .inl (cA, 16, .inr (.inl lo))), (q2, .inl (cB, 16, .inr (.inl hi)))]) [0, 1, 2] rfl) (hD.sub (ws' := [(h0, .inr (1, [.ref q1, .ref q2, .ref q3])), (q1, .inl (cA, 16, .inr (.inl lo))), (q2, .inl (cB, 16, .inr (.inl hi)))]) [0, 1, 2] (by decide) rfl)  rfl rfl) rfl rfl hl.1 rfl (lv_room (Nat.le_of_ble_eq_true rfl)) dX2_cutSo_122 ⟨Nat.le_of_ble_eq_true rfl, Nat.le_of_ble_eq_true rfl⟩) hP hD hS hA [0, 1, 2] [] [0, 1, 2] rfl rfl rfl (by decide) rfl rfl (fun H locs hP hD hS => ?_)
    have es : (s_X2_cutSo lo hi p0 p1 p2) = ((s_X2_cutSignedBelow lo hi p2 p1 (1 : Int32)).1, (s_X2_cutSignedBelow lo hi p2 p1 (1 : Int32)).2.1, (s_X2_cutSignedBelow lo hi p2 p1 (1 : Int32)).2.2) := by unfold s_X2_cutSo; rw [if_neg c1, if_neg c2, if_neg c3, if_neg c4, if_neg c5, if_neg c6, if_neg c7, if_neg c8, if_pos c9]
    exact W.zret (v := (s_X2_cutSignedBelow lo hi p2 p1 (1 : Int32)).1) hx hb hr (pz_01 (z_X2_cutSignedBelow _ _ _ _ _)) (fun t ht hW => by rw [es]; exact ⟨rfl, by rw [ht]; exact hP, hD, hS.F ht⟩) hS.2.2 dX2_cutSo_125
  by_cases c10 : p0 = (9 : Int32)
  · refine lv_tableIn (off := 125) (tgt := 126) hx hb dX2_cutSo_1 (by rw [c10]; decide) (by rw [c10]; decide) (by rw [c10]; decide) (by decide) ?_
    refine lv_aload_n hx hb dX2_cutSo_126 rfl (lv_at hl 0 rfl) ?_
    refine lv_iload_n hx hb dX2_cutSo_127 rfl (lv_at hl 3 rfl) ?_
    refine lv_iload_n hx hb dX2_cutSo_128 rfl (lv_at hl 2 rfl) ?_
    refine lv_iconst (v := (0 : Int32)) hx hb dX2_cutSo_129 (by decide) ?_
    refine wq_calli (wc := [(h0, .inr (1, [.ref q1, .ref q2, .ref q3])), (q1, .inl (cA, 16, .inr (.inl lo))), (q2, .inl (cB, 16, .inr (.inl hi)))]) (wr := []) (w2 := [(h0, .inr (1, [.ref q1, .ref q2, .ref q3])), (q1, .inl (cA, 16, .inr (.inl ((s_X2_cutSignedBelow lo hi p2 p1 (0 : Int32)).2.1)))), (q2, .inl (cB, 16, .inr (.inl ((s_X2_cutSignedBelow lo hi p2 p1 (0 : Int32)).2.2))))]) (va_runV (As := [.int p2, .int p1, .int (0 : Int32)]) (rest := []) ⟨hx, hb, hml, hown, hts⟩ (c_X2_cutSignedBelow l dC dI cA cB h0 q1 q2 q3 s.heap.size lo hi p2 p1 (0 : Int32) hk2 hk1) (cwV 3 hts gX2_cutSo_X2_cutSignedBelow rfl rfl rfl ydV_X2_cutSignedBelow ⟨Nat.le_of_ble_eq_true rfl, Nat.le_of_ble_eq_true rfl⟩) (wp_V (hK.sub (tys' := [(cA, .long), (cB, .long)]) [0, 1] rfl) (hP.sub (ws' := [(h0, .inr (1, [.ref q1, .ref q2, .ref q3])), (q1, .inl (cA, 16, .inr (.inl lo))), (q2, .inl (cB, 16, .inr (.inl hi)))]) [0, 1, 2] rfl) (hD.sub (ws' := [(h0, .inr (1, [.ref q1, .ref q2, .ref q3])), (q1, .inl (cA, 16, .inr (.inl lo))), (q2, .inl (cB, 16, .inr (.inl hi)))]) [0, 1, 2] (by decide) rfl)  rfl rfl) rfl rfl hl.1 rfl (lv_room (Nat.le_of_ble_eq_true rfl)) dX2_cutSo_130 ⟨Nat.le_of_ble_eq_true rfl, Nat.le_of_ble_eq_true rfl⟩) hP hD hS hA [0, 1, 2] [] [0, 1, 2] rfl rfl rfl (by decide) rfl rfl (fun H locs hP hD hS => ?_)
    have es : (s_X2_cutSo lo hi p0 p1 p2) = ((s_X2_cutSignedBelow lo hi p2 p1 (0 : Int32)).1, (s_X2_cutSignedBelow lo hi p2 p1 (0 : Int32)).2.1, (s_X2_cutSignedBelow lo hi p2 p1 (0 : Int32)).2.2) := by unfold s_X2_cutSo; rw [if_neg c1, if_neg c2, if_neg c3, if_neg c4, if_neg c5, if_neg c6, if_neg c7, if_neg c8, if_neg c9, if_pos c10]
    exact W.zret (v := (s_X2_cutSignedBelow lo hi p2 p1 (0 : Int32)).1) hx hb hr (pz_01 (z_X2_cutSignedBelow _ _ _ _ _)) (fun t ht hW => by rw [es]; exact ⟨rfl, by rw [ht]; exact hP, hD, hS.F ht⟩) hS.2.2 dX2_cutSo_133
  refine lv_tableOut (tgt := 134) hx hb dX2_cutSo_1 (by have h0 := lv_neT c1 (a := 0) rfl; have h1 := lv_neT c2 (a := 1) rfl; have h2 := lv_neT c3 (a := 2) rfl; have h3 := lv_neT c4 (a := 3) rfl; have h4 := lv_neT c5 (a := 4) rfl; have h5 := lv_neT c6 (a := 5) rfl; have h6 := lv_neT c7 (a := 6) rfl; have h7 := lv_neT c8 (a := 7) rfl; have h8 := lv_neT c9 (a := 8) rfl; have h9 := lv_neT c10 (a := 9) rfl; omega) (by decide) ?_
  refine lv_iconst (v := (1 : Int32)) hx hb dX2_cutSo_134 (by decide) ?_
  have es : (s_X2_cutSo lo hi p0 p1 p2) = ((1 : Int32), lo, hi) := by unfold s_X2_cutSo; rw [if_neg c1, if_neg c2, if_neg c3, if_neg c4, if_neg c5, if_neg c6, if_neg c7, if_neg c8, if_neg c9, if_neg c10]
  exact W.zret (v := (1 : Int32)) hx hb hr (rfl) (fun t ht hW => by rw [es]; exact ⟨rfl, by rw [ht]; exact hP, hD, hS.F ht⟩) hS.2.2 dX2_cutSo_135
