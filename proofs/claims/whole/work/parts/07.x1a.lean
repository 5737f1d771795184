theorem ydS_X1_allBitsUpTo : yX1_allBitsUpTo.cls ≠ "java/lang/invoke/MethodHandle" ∧ yX1_allBitsUpTo.cls ≠ "java/lang/invoke/VarHandle" ∧ (parseMethodDescriptor yX1_allBitsUpTo.desc).map (fun d => d.parameters.length) = some 1 := by decide +kernel
theorem ydS_X1_isDifferenceLong : yX1_isDifferenceLong.cls ≠ "java/lang/invoke/MethodHandle" ∧ yX1_isDifferenceLong.cls ≠ "java/lang/invoke/VarHandle" ∧ (parseMethodDescriptor yX1_isDifferenceLong.desc).map (fun d => d.parameters.length) = some 2 := by decide +kernel
theorem ydS_X1_isProductLong : yX1_isProductLong.cls ≠ "java/lang/invoke/MethodHandle" ∧ yX1_isProductLong.cls ≠ "java/lang/invoke/VarHandle" ∧ (parseMethodDescriptor yX1_isProductLong.desc).map (fun d => d.parameters.length) = some 2 := by decide +kernel
theorem ydS_X1_isSumLong : yX1_isSumLong.cls ≠ "java/lang/invoke/MethodHandle" ∧ yX1_isSumLong.cls ≠ "java/lang/invoke/VarHandle" ∧ (parseMethodDescriptor yX1_isSumLong.desc).map (fun d => d.parameters.length) = some 2 := by decide +kernel
theorem ydV_X1_shiftRightByAny : yX1_shiftRightByAny.cls = RX1 ∧ yX1_shiftRightByAny.cls ≠ "java/lang/invoke/MethodHandle" ∧ yX1_shiftRightByAny.cls ≠ "java/lang/invoke/VarHandle" ∧ (parseMethodDescriptor yX1_shiftRightByAny.desc).map (fun d => d.parameters.length) = some 0 := by decide +kernel
theorem ydV_X1_tell : yX1_tell.cls = RX1 ∧ yX1_tell.cls ≠ "java/lang/invoke/MethodHandle" ∧ yX1_tell.cls ≠ "java/lang/invoke/VarHandle" ∧ (parseMethodDescriptor yX1_tell.desc).map (fun d => d.parameters.length) = some 2 := by decide +kernel
theorem ydV_X1_tellAll : yX1_tellAll.cls = RX1 ∧ yX1_tellAll.cls ≠ "java/lang/invoke/MethodHandle" ∧ yX1_tellAll.cls ≠ "java/lang/invoke/VarHandle" ∧ (parseMethodDescriptor yX1_tellAll.desc).map (fun d => d.parameters.length) = some 0 := by decide +kernel
def s_X1_isOfConsts (f0 : Int64) (f1 : Int64) (f2 : Int64) (f3 : Int64) (p0 : Int32) : Int32 :=
  if p0 = (0 : Int32) then (if p0 = (12 : Int32) then (1 : Int32)
    else if f2 = f3 then (1 : Int32)
    else (0 : Int32))
  else if f0 = f1 then (if p0 = (12 : Int32) then (1 : Int32)
    else if f2 = f3 then (1 : Int32)
    else (0 : Int32))
  else (0 : Int32)
theorem z_X1_isOfConsts (f0 : Int64) (f1 : Int64) (f2 : Int64) (f3 : Int64) (p0 : Int32) : (s_X1_isOfConsts f0 f1 f2 f3 p0) = 0 ∨ (s_X1_isOfConsts f0 f1 f2 f3 p0) = 1 := by
  unfold s_X1_isOfConsts
  by_cases c1 : p0 = (0 : Int32)
  · rw [if_pos c1]
    by_cases c2 : p0 = (12 : Int32)
    · rw [if_pos c2]
      exact Or.inr rfl
    · rw [if_neg c2]
      by_cases c3 : f2 = f3
      · rw [if_pos c3]
        exact Or.inr rfl
      · rw [if_neg c3]
        exact Or.inl rfl
  · rw [if_neg c1]
    by_cases c4 : f0 = f1
    · rw [if_pos c4]
      by_cases c5 : p0 = (12 : Int32)
      · rw [if_pos c5]
        exact Or.inr rfl
      · rw [if_neg c5]
        by_cases c6 : f2 = f3
        · rw [if_pos c6]
          exact Or.inr rfl
        · rw [if_neg c6]
          exact Or.inl rfl
    · rw [if_neg c4]
      exact Or.inl rfl
set_option maxHeartbeats 4000000 in
set_option maxRecDepth 100000 in
theorem c_X1_isOfConsts (l : Launch) (dC : Nat → ClassId) (dI : Nat → Nat → Nat) (h0 : Nat) (f0 : Int64) (f1 : Int64) (f2 : Int64) (f3 : Int64) (f4 : Int64) (f5 : Int64) (p0 : Int32) : Met l yX1_isOfConsts wsX1_isOfConsts ({ frames := 0, cells := 0, slots := 0, locals := 0 }) (rp (dC, dI) vwCl [] [.ref h0, .int p0] [(h0, .inr (0, [.long f0, .long f1, .long f2, .long f3, .long f4, .long f5]))]) (pq (some (.int (s_X1_isOfConsts f0 f1 f2 f3 p0)))) 0 0 (fun _ => False) := by
  refine Met.ofW (cc := cX1_isOfConsts) (maxL := 2) (ret := (some .boolean)) (by decide) rfl ?_
  intro p e s m args below meth c s₁ B hml hv
  obtain ⟨rfl, hP, hK⟩ := hv
  have hx := B.exec
  have hb := B.bytes
  have hr := B.returns
  have hts := atoms_spec (ws := wsX1_isOfConsts) B.pre
  have hown : s.vm.findClass RX1 = some m.cls := findClass_of_methodNamed B.named
  have hlocks := B.notSynchronized
  have hP : va_P (dC, dI) vwCl [(h0, .inr (0, [.long f0, .long f1, .long f2, .long f3, .long f4, .long f5]))] s.heap := hP
  have hl := lv_entry ([.ref h0, .int p0]) (n := 2) (Nat.le_of_ble_eq_true rfl)
  rw [lg_entry_eq]
  generalize (lg_sl ([.ref h0, .int p0]) ++ List.replicate (2 - (lg_sl ([.ref h0, .int p0])).length) Slot.unset).toArray = ls at hl ⊢
  have hl : lv_has ls 2 [(0, .ref h0), (1, .int p0)] := hl
  have hw0 := hts (.fieldLink RX1 16 "RangeBox$Outcome" "yLow" "J") (List.mem_of_getElem? (i := 3) rfl)
  have hi_RX1 : ∀ w ∈ wsX10, w ∈ wsX1_isOfConsts := fun _ h => List.mem_cons_of_mem _ (List.mem_append_right _ h)
  have hw2 := hts (.fieldLink RX1 19 "RangeBox$Outcome" "yHigh" "J") (List.mem_of_getElem? (i := 4) rfl)
  have hw3 := hts (.fieldLink RX1 7 "RangeBox$Outcome" "xLow" "J") (List.mem_of_getElem? (i := 1) rfl)
  have hw4 := hts (.fieldLink RX1 13 "RangeBox$Outcome" "xHigh" "J") (List.mem_of_getElem? (i := 2) rfl)
  refine lv_iload_n hx hb dX1_isOfConsts_0 rfl (lv_at hl 1 rfl) ?_
  refine lv_if_eq (tgt := 16) hx hb dX1_isOfConsts_1 (by decide) (fun c1 => ?_) (fun c1 => ?_)
  · refine lv_iload_n hx hb dX1_isOfConsts_16 rfl (lv_at hl 1 rfl) ?_
    refine lv_bipush (v := (12 : Int32)) hx hb dX1_isOfConsts_17 (by decide) ?_
    refine lv_icmp_eq (tgt := 34) hx hb dX1_isOfConsts_19 (by decide) (fun c2 => ?_) (fun c2 => ?_)
    · refine lv_iconst (v := (1 : Int32)) hx hb dX1_isOfConsts_34 (by decide) ?_
      refine lv_goto (tgt := 39) hx hb dX1_isOfConsts_35 (by decide) ?_
      have es : (s_X1_isOfConsts f0 f1 f2 f3 p0) = (1 : Int32) := by unfold s_X1_isOfConsts; rw [if_pos c1, if_pos c2]
      exact W.zret (v := (1 : Int32)) hx hb hr (rfl) (fun t ht hW => by rw [es]; exact ⟨rfl, ht⟩) (fun q h => nomatch h) dX1_isOfConsts_39
    · refine lv_aload_n hx hb dX1_isOfConsts_22 rfl (lv_at hl 0 rfl) ?_
      refine va_get (D := (dC, dI)) (ci := 0) (v := .long f2) (C := RX1) (T := TX1) (N := 6) hx hb hts hi_RX1 hown hK hP 0 rfl rfl 2 (by decide) hw0 (fun _ h9 => h9) rfl dX1_isOfConsts_23 ?_
      refine lv_aload_n hx hb dX1_isOfConsts_26 rfl (lv_at hl 0 rfl) ?_
      refine va_get (D := (dC, dI)) (ci := 0) (v := .long f3) (C := RX1) (T := TX1) (N := 6) hx hb hts hi_RX1 hown hK hP 0 rfl rfl 3 (by decide) hw2 (fun _ h9 => h9) rfl dX1_isOfConsts_27 ?_
      refine pl_ne (tgt := 38) hx hb dX1_isOfConsts_30 dX1_isOfConsts_31 (by decide) (fun c3 => ?_) (fun c3 => ?_)
      · refine lv_iconst (v := (0 : Int32)) hx hb dX1_isOfConsts_38 (by decide) ?_
        have es : (s_X1_isOfConsts f0 f1 f2 f3 p0) = (0 : Int32) := by unfold s_X1_isOfConsts; rw [if_pos c1, if_neg c2, if_neg c3]
        exact W.zret (v := (0 : Int32)) hx hb hr (rfl) (fun t ht hW => by rw [es]; exact ⟨rfl, ht⟩) (fun q h => nomatch h) dX1_isOfConsts_39
      · refine lv_iconst (v := (1 : Int32)) hx hb dX1_isOfConsts_34 (by decide) ?_
        refine lv_goto (tgt := 39) hx hb dX1_isOfConsts_35 (by decide) ?_
        have es : (s_X1_isOfConsts f0 f1 f2 f3 p0) = (1 : Int32) := by unfold s_X1_isOfConsts; rw [if_pos c1, if_neg c2, if_pos c3]
        exact W.zret (v := (1 : Int32)) hx hb hr (rfl) (fun t ht hW => by rw [es]; exact ⟨rfl, ht⟩) (fun q h => nomatch h) dX1_isOfConsts_39
  · refine lv_aload_n hx hb dX1_isOfConsts_4 rfl (lv_at hl 0 rfl) ?_
    refine va_get (D := (dC, dI)) (ci := 0) (v := .long f0) (C := RX1) (T := TX1) (N := 6) hx hb hts hi_RX1 hown hK hP 0 rfl rfl 0 (by decide) hw3 (fun _ h9 => h9) rfl dX1_isOfConsts_5 ?_
    refine lv_aload_n hx hb dX1_isOfConsts_8 rfl (lv_at hl 0 rfl) ?_
    refine va_get (D := (dC, dI)) (ci := 0) (v := .long f1) (C := RX1) (T := TX1) (N := 6) hx hb hts hi_RX1 hown hK hP 0 rfl rfl 1 (by decide) hw4 (fun _ h9 => h9) rfl dX1_isOfConsts_9 ?_
    refine pl_ne (tgt := 38) hx hb dX1_isOfConsts_12 dX1_isOfConsts_13 (by decide) (fun c4 => ?_) (fun c4 => ?_)
    · refine lv_iconst (v := (0 : Int32)) hx hb dX1_isOfConsts_38 (by decide) ?_
      have es : (s_X1_isOfConsts f0 f1 f2 f3 p0) = (0 : Int32) := by unfold s_X1_isOfConsts; rw [if_neg c1, if_neg c4]
      exact W.zret (v := (0 : Int32)) hx hb hr (rfl) (fun t ht hW => by rw [es]; exact ⟨rfl, ht⟩) (fun q h => nomatch h) dX1_isOfConsts_39
    · refine lv_iload_n hx hb dX1_isOfConsts_16 rfl (lv_at hl 1 rfl) ?_
      refine lv_bipush (v := (12 : Int32)) hx hb dX1_isOfConsts_17 (by decide) ?_
      refine lv_icmp_eq (tgt := 34) hx hb dX1_isOfConsts_19 (by decide) (fun c5 => ?_) (fun c5 => ?_)
      · refine lv_iconst (v := (1 : Int32)) hx hb dX1_isOfConsts_34 (by decide) ?_
        refine lv_goto (tgt := 39) hx hb dX1_isOfConsts_35 (by decide) ?_
        have es : (s_X1_isOfConsts f0 f1 f2 f3 p0) = (1 : Int32) := by unfold s_X1_isOfConsts; rw [if_neg c1, if_pos c4, if_pos c5]
        exact W.zret (v := (1 : Int32)) hx hb hr (rfl) (fun t ht hW => by rw [es]; exact ⟨rfl, ht⟩) (fun q h => nomatch h) dX1_isOfConsts_39
      · refine lv_aload_n hx hb dX1_isOfConsts_22 rfl (lv_at hl 0 rfl) ?_
        refine va_get (D := (dC, dI)) (ci := 0) (v := .long f2) (C := RX1) (T := TX1) (N := 6) hx hb hts hi_RX1 hown hK hP 0 rfl rfl 2 (by decide) hw0 (fun _ h9 => h9) rfl dX1_isOfConsts_23 ?_
        refine lv_aload_n hx hb dX1_isOfConsts_26 rfl (lv_at hl 0 rfl) ?_
        refine va_get (D := (dC, dI)) (ci := 0) (v := .long f3) (C := RX1) (T := TX1) (N := 6) hx hb hts hi_RX1 hown hK hP 0 rfl rfl 3 (by decide) hw2 (fun _ h9 => h9) rfl dX1_isOfConsts_27 ?_
        refine pl_ne (tgt := 38) hx hb dX1_isOfConsts_30 dX1_isOfConsts_31 (by decide) (fun c6 => ?_) (fun c6 => ?_)
        · refine lv_iconst (v := (0 : Int32)) hx hb dX1_isOfConsts_38 (by decide) ?_
          have es : (s_X1_isOfConsts f0 f1 f2 f3 p0) = (0 : Int32) := by unfold s_X1_isOfConsts; rw [if_neg c1, if_pos c4, if_neg c5, if_neg c6]
          exact W.zret (v := (0 : Int32)) hx hb hr (rfl) (fun t ht hW => by rw [es]; exact ⟨rfl, ht⟩) (fun q h => nomatch h) dX1_isOfConsts_39
        · refine lv_iconst (v := (1 : Int32)) hx hb dX1_isOfConsts_34 (by decide) ?_
          refine lv_goto (tgt := 39) hx hb dX1_isOfConsts_35 (by decide) ?_
          have es : (s_X1_isOfConsts f0 f1 f2 f3 p0) = (1 : Int32) := by unfold s_X1_isOfConsts; rw [if_neg c1, if_pos c4, if_neg c5, if_pos c6]
          exact W.zret (v := (1 : Int32)) hx hb hr (rfl) (fun t ht hW => by rw [es]; exact ⟨rfl, ht⟩) (fun q h => nomatch h) dX1_isOfConsts_39

def s_X1_tell (p0 : Int64) (p1 : Int64) : Int64 × Int64 :=
  (p0, p1)
set_option maxHeartbeats 4000000 in
set_option maxRecDepth 100000 in
theorem c_X1_tell (l : Launch) (dC : Nat → ClassId) (dI : Nat → Nat → Nat) (h0 sz : Nat) (f0 : Int64) (f1 : Int64) (f2 : Int64) (f3 : Int64) (f4 : Int64) (f5 : Int64) (p0 : Int64) (p1 : Int64) : Met l yX1_tell wsX1_tell ({ frames := 0, cells := 0, slots := 0, locals := 0 }) (wp9 (dC, dI) vwCl [] [.ref h0, .long p0, .long p1] sz [(h0, .inr (0, [.long f0, .long f1, .long f2, .long f3, .long f4, .long f5]))]) (wq none (dC, dI) vwCl [(h0, .inr (0, [.long f0, .long f1, .long f2, .long f3, .long ((s_X1_tell p0 p1).1), .long ((s_X1_tell p0 p1).2)]))] (va_A [(h0, .inr (0, [.long f0, .long f1, .long f2, .long f3, .long f4, .long f5]))] sz)) 0 0 (va_A [(h0, .inr (0, [.long f0, .long f1, .long f2, .long f3, .long f4, .long f5]))] sz) := by
  refine Met.ofW (cc := cX1_tell) (maxL := 5) (ret := none) (by decide) rfl ?_
  intro p e s m args below meth c s₁ B hml hv
  obtain ⟨rfl, hsz, hP, hK, hD0⟩ := hv
  have hx := B.exec
  have hb := B.bytes
  have hr := B.returns
  have hts := atoms_spec (ws := wsX1_tell) B.pre
  have hown : s.vm.findClass RX1 = some m.cls := findClass_of_methodNamed B.named
  have hlocks := B.notSynchronized
  subst hsz
  have hD := hD0.self (sz := s.heap.size)
  generalize hAe : va_A [(h0, .inr (0, [.long f0, .long f1, .long f2, .long f3, .long f4, .long f5]))] s.heap.size = A at hD ⊢
  have hA : ∀ q : Nat, s.heap.size ≤ q → A q := fun q h => by rw [← hAe]; exact Or.inr h
  have hS : va_S A s.heap s.heap [] := va_S.rf
  have hP : va_P (dC, dI) vwCl [(h0, .inr (0, [.long f0, .long f1, .long f2, .long f3, .long f4, .long f5]))] s.heap := hP
  have hl := lv_entry ([.ref h0, .long p0, .long p1]) (n := 5) (Nat.le_of_ble_eq_true rfl)
  rw [lg_entry_eq]
  generalize (lg_sl ([.ref h0, .long p0, .long p1]) ++ List.replicate (5 - (lg_sl ([.ref h0, .long p0, .long p1])).length) Slot.unset).toArray = ls at hl ⊢
  have hl : lv_has ls 5 [(0, .ref h0), (1, .long p0), (3, .long p1)] := hl
  have hw0 := hts (.fieldLink RX1 44 "RangeBox$Outcome" "low" "J") (List.mem_of_getElem? (i := 1) rfl)
  have hi_RX1 : ∀ w ∈ wsX10, w ∈ wsX1_tell := fun _ h => List.mem_cons_of_mem _ (List.mem_append_right _ h)
  have hw2 := hts (.fieldLink RX1 47 "RangeBox$Outcome" "high" "J") (List.mem_of_getElem? (i := 2) rfl)
  refine lv_aload_n hx hb dX1_tell_0 rfl (lv_at hl 0 rfl) ?_
  refine lv_lload_n hx hb dX1_tell_1 rfl (lv_at hl 1 rfl) ?_
  refine va_put (D := (dC, dI)) (ci := 0) (v := .long p0) (ty := .long) (C := RX1) (T := TX1) (N := 6) hx hb hts hi_RX1 tyX1 tyX1_ok nmX1 hown hK hP hD hS 0 rfl rfl 4 (by decide) hw0 (fun _ h9 => h9) rfl (tyX1_ok 4 (by decide)) rfl rfl (Nat.le_of_ble_eq_true rfl) dX1_tell_2 (fun H locs hP hD hS => ?_)
  have hP : va_P (dC, dI) vwCl [(h0, .inr (0, [.long f0, .long f1, .long f2, .long f3, .long p0, .long f5]))] H := hP
  have hD : va_D A [(h0, .inr (0, [.long f0, .long f1, .long f2, .long f3, .long p0, .long f5]))] := hD
  refine lv_aload_n hx hb dX1_tell_5 rfl (lv_at hl 0 rfl) ?_
  refine lv_lload_n hx hb dX1_tell_6 rfl (lv_at hl 2 rfl) ?_
  refine va_put (D := (dC, dI)) (ci := 0) (v := .long p1) (ty := .long) (C := RX1) (T := TX1) (N := 6) hx hb hts hi_RX1 tyX1 tyX1_ok nmX1 hown hK hP hD hS 0 rfl rfl 5 (by decide) hw2 (fun _ h9 => h9) rfl (tyX1_ok 5 (by decide)) rfl rfl (Nat.le_of_ble_eq_true rfl) dX1_tell_7 (fun H locs hP hD hS => ?_)
  have hP : va_P (dC, dI) vwCl [(h0, .inr (0, [.long f0, .long f1, .long f2, .long f3, .long p0, .long p1]))] H := hP
  have hD : va_D A [(h0, .inr (0, [.long f0, .long f1, .long f2, .long f3, .long p0, .long p1]))] := hD
  have es : (s_X1_tell p0 p1) = (p0, p1) := rfl
  exact W.vret hx hb hr (fun t ht hW => by rw [es]; exact ⟨rfl, by rw [ht]; exact hP, hD, hS.F ht⟩) hS.2.2 dX1_tell_10

def s_X1_tellAll : Int64 × Int64 :=
  ((-9223372036854775808 : Int64), (9223372036854775807 : Int64))
set_option maxHeartbeats 4000000 in
set_option maxRecDepth 100000 in
theorem c_X1_tellAll (l : Launch) (dC : Nat → ClassId) (dI : Nat → Nat → Nat) (h0 sz : Nat) (f0 : Int64) (f1 : Int64) (f2 : Int64) (f3 : Int64) (f4 : Int64) (f5 : Int64) : Met l yX1_tellAll wsX1_tellAll ({ frames := 1, cells := 0, slots := 0, locals := 24 }) (wp9 (dC, dI) vwCl [] [.ref h0] sz [(h0, .inr (0, [.long f0, .long f1, .long f2, .long f3, .long f4, .long f5]))]) (wq none (dC, dI) vwCl [(h0, .inr (0, [.long f0, .long f1, .long f2, .long f3, .long s_X1_tellAll.1, .long s_X1_tellAll.2]))] (va_A [(h0, .inr (0, [.long f0, .long f1, .long f2, .long f3, .long f4, .long f5]))] sz)) 0 0 (va_A [(h0, .inr (0, [.long f0, .long f1, .long f2, .long f3, .long f4, .long f5]))] sz) := by
  refine Met.ofW (cc := cX1_tellAll) (maxL := 1) (ret := none) (by decide) rfl ?_
  intro p e s m args below meth c s₁ B hml hv
  obtain ⟨rfl, hsz, hP, hK, hD0⟩ := hv
  have hx := B.exec
  have hb := B.bytes
  have hr := B.returns
  have hts := atoms_spec (ws := wsX1_tellAll) B.pre
  have hown : s.vm.findClass RX1 = some m.cls := findClass_of_methodNamed B.named
  have hlocks := B.notSynchronized
  subst hsz
  have hD := hD0.self (sz := s.heap.size)
  generalize hAe : va_A [(h0, .inr (0, [.long f0, .long f1, .long f2, .long f3, .long f4, .long f5]))] s.heap.size = A at hD ⊢
  have hA : ∀ q : Nat, s.heap.size ≤ q → A q := fun q h => by rw [← hAe]; exact Or.inr h
  have hS : va_S A s.heap s.heap [] := va_S.rf
  have hP : va_P (dC, dI) vwCl [(h0, .inr (0, [.long f0, .long f1, .long f2, .long f3, .long f4, .long f5]))] s.heap := hP
  have hl := lv_entry ([.ref h0]) (n := 1) (Nat.le_of_ble_eq_true rfl)
  rw [lg_entry_eq]
  generalize (lg_sl ([.ref h0]) ++ List.replicate (1 - (lg_sl ([.ref h0])).length) Slot.unset).toArray = ls at hl ⊢
  have hl : lv_has ls 1 [(0, .ref h0)] := hl
  have hw0 := hts (.constantLong RX1 50 (-9223372036854775808)) (List.mem_of_getElem? (i := 1) rfl)
  have hw1 := hts (.constantLong RX1 52 (9223372036854775807)) (List.mem_of_getElem? (i := 2) rfl)
  refine lv_aload_n hx hb dX1_tellAll_0 rfl (lv_at hl 0 rfl) ?_
  refine lv_ldc2 (v := (-9223372036854775808 : Int64)) hx hb hown hw0 dX1_tellAll_1 ?_
  refine lv_ldc2 (v := (9223372036854775807 : Int64)) hx hb hown hw1 dX1_tellAll_4 ?_
  refine wq_callv (wc := [(h0, .inr (0, [.long f0, .long f1, .long f2, .long f3, .long f4, .long f5]))]) (wr := []) (w2 := [(h0, .inr (0, [.long f0, .long f1, .long f2, .long f3, .long (-9223372036854775808 : Int64), .long (9223372036854775807 : Int64)]))]) (va_runV (As := [.long (-9223372036854775808 : Int64), .long (9223372036854775807 : Int64)]) (rest := []) ⟨hx, hb, hml, hown, hts⟩ (c_X1_tell l dC dI h0 s.heap.size f0 f1 f2 f3 f4 f5 (-9223372036854775808 : Int64) (9223372036854775807 : Int64)) (cwV 2 hts gX1_tellAll_X1_tell rfl rfl rfl ydV_X1_tell ⟨Nat.le_of_ble_eq_true rfl, Nat.le_of_ble_eq_true rfl⟩) (wp_V (hK.sub (tys' := []) [] rfl) (hP.sub (ws' := [(h0, .inr (0, [.long f0, .long f1, .long f2, .long f3, .long f4, .long f5]))]) [0] rfl) (hD.sub (ws' := [(h0, .inr (0, [.long f0, .long f1, .long f2, .long f3, .long f4, .long f5]))]) [0] (by decide) rfl)  rfl rfl) rfl rfl hl.1 rfl (lv_room (Nat.le_of_ble_eq_true rfl)) dX1_tellAll_7 ⟨Nat.le_of_ble_eq_true rfl, Nat.le_of_ble_eq_true rfl⟩) hP hD hS hA [0] [] [0] rfl rfl rfl (by decide) rfl rfl (fun H locs hP hD hS => ?_)
  have es : s_X1_tellAll = ((-9223372036854775808 : Int64), (9223372036854775807 : Int64)) := rfl
  exact W.vret hx hb hr (fun t ht hW => by rw [es]; exact ⟨rfl, by rw [ht]; exact hP, hD, hS.F ht⟩) hS.2.2 dX1_tellAll_10

def s_X1_take (p0 : Int64) (p1 : Int64) (p2 : Int64) (p3 : Int64) : Int64 × Int64 × Int64 × Int64 :=
  (p0, p1, p2, p3)
set_option maxHeartbeats 4000000 in
set_option maxRecDepth 100000 in
theorem c_X1_take (l : Launch) (dC : Nat → ClassId) (dI : Nat → Nat → Nat) (h0 sz : Nat) (f0 : Int64) (f1 : Int64) (f2 : Int64) (f3 : Int64) (f4 : Int64) (f5 : Int64) (p0 : Int64) (p1 : Int64) (p2 : Int64) (p3 : Int64) : Met l yX1_take wsX1_take ({ frames := 0, cells := 0, slots := 0, locals := 0 }) (wp9 (dC, dI) vwCl [] [.ref h0, .long p0, .long p1, .long p2, .long p3] sz [(h0, .inr (0, [.long f0, .long f1, .long f2, .long f3, .long f4, .long f5]))]) (wq none (dC, dI) vwCl [(h0, .inr (0, [.long ((s_X1_take p0 p1 p2 p3).1), .long ((s_X1_take p0 p1 p2 p3).2.1), .long ((s_X1_take p0 p1 p2 p3).2.2.1), .long ((s_X1_take p0 p1 p2 p3).2.2.2), .long f4, .long f5]))] (va_A [(h0, .inr (0, [.long f0, .long f1, .long f2, .long f3, .long f4, .long f5]))] sz)) 0 0 (va_A [(h0, .inr (0, [.long f0, .long f1, .long f2, .long f3, .long f4, .long f5]))] sz) := by
  refine Met.ofW (cc := cX1_take) (maxL := 9) (ret := none) (by decide) rfl ?_
  intro p e s m args below meth c s₁ B hml hv
  obtain ⟨rfl, hsz, hP, hK, hD0⟩ := hv
  have hx := B.exec
  have hb := B.bytes
  have hr := B.returns
  have hts := atoms_spec (ws := wsX1_take) B.pre
  have hown : s.vm.findClass RX1 = some m.cls := findClass_of_methodNamed B.named
  have hlocks := B.notSynchronized
  subst hsz
  have hD := hD0.self (sz := s.heap.size)
  generalize hAe : va_A [(h0, .inr (0, [.long f0, .long f1, .long f2, .long f3, .long f4, .long f5]))] s.heap.size = A at hD ⊢
  have hA : ∀ q : Nat, s.heap.size ≤ q → A q := fun q h => by rw [← hAe]; exact Or.inr h
  have hS : va_S A s.heap s.heap [] := va_S.rf
  have hP : va_P (dC, dI) vwCl [(h0, .inr (0, [.long f0, .long f1, .long f2, .long f3, .long f4, .long f5]))] s.heap := hP
  have hl := lv_entry ([.ref h0, .long p0, .long p1, .long p2, .long p3]) (n := 9) (Nat.le_of_ble_eq_true rfl)
  rw [lg_entry_eq]
  generalize (lg_sl ([.ref h0, .long p0, .long p1, .long p2, .long p3]) ++ List.replicate (9 - (lg_sl ([.ref h0, .long p0, .long p1, .long p2, .long p3])).length) Slot.unset).toArray = ls at hl ⊢
  have hl : lv_has ls 9 [(0, .ref h0), (1, .long p0), (3, .long p1), (5, .long p2), (7, .long p3)] := hl
  have hw0 := hts (.fieldLink RX1 7 "RangeBox$Outcome" "xLow" "J") (List.mem_of_getElem? (i := 1) rfl)
  have hi_RX1 : ∀ w ∈ wsX10, w ∈ wsX1_take := fun _ h => List.mem_cons_of_mem _ (List.mem_append_right _ h)
  have hw2 := hts (.fieldLink RX1 13 "RangeBox$Outcome" "xHigh" "J") (List.mem_of_getElem? (i := 2) rfl)
  have hw3 := hts (.fieldLink RX1 16 "RangeBox$Outcome" "yLow" "J") (List.mem_of_getElem? (i := 3) rfl)
  have hw4 := hts (.fieldLink RX1 19 "RangeBox$Outcome" "yHigh" "J") (List.mem_of_getElem? (i := 4) rfl)
  refine lv_aload_n hx hb dX1_take_0 rfl (lv_at hl 0 rfl) ?_
  refine lv_lload_n hx hb dX1_take_1 rfl (lv_at hl 1 rfl) ?_
  refine va_put (D := (dC, dI)) (ci := 0) (v := .long p0) (ty := .long) (C := RX1) (T := TX1) (N := 6) hx hb hts hi_RX1 tyX1 tyX1_ok nmX1 hown hK hP hD hS 0 rfl rfl 0 (by decide) hw0 (fun _ h9 => h9) rfl (tyX1_ok 0 (by decide)) rfl rfl (Nat.le_of_ble_eq_true rfl) dX1_take_2 (fun H locs hP hD hS => ?_)
  have hP : va_P (dC, dI) vwCl [(h0, .inr (0, [.long p0, .long f1, .long f2, .long f3, .long f4, .long f5]))] H := hP
  have hD : va_D A [(h0, .inr (0, [.long p0, .long f1, .long f2, .long f3, .long f4, .long f5]))] := hD
  refine lv_aload_n hx hb dX1_take_5 rfl (lv_at hl 0 rfl) ?_
  refine lv_lload_n hx hb dX1_take_6 rfl (lv_at hl 2 rfl) ?_
  refine va_put (D := (dC, dI)) (ci := 0) (v := .long p1) (ty := .long) (C := RX1) (T := TX1) (N := 6) hx hb hts hi_RX1 tyX1 tyX1_ok nmX1 hown hK hP hD hS 0 rfl rfl 1 (by decide) hw2 (fun _ h9 => h9) rfl (tyX1_ok 1 (by decide)) rfl rfl (Nat.le_of_ble_eq_true rfl) dX1_take_7 (fun H locs hP hD hS => ?_)
  have hP : va_P (dC, dI) vwCl [(h0, .inr (0, [.long p0, .long p1, .long f2, .long f3, .long f4, .long f5]))] H := hP
  have hD : va_D A [(h0, .inr (0, [.long p0, .long p1, .long f2, .long f3, .long f4, .long f5]))] := hD
  refine lv_aload_n hx hb dX1_take_10 rfl (lv_at hl 0 rfl) ?_
  refine lv_lload hx hb dX1_take_11 (lv_at hl 3 rfl) ?_
  refine va_put (D := (dC, dI)) (ci := 0) (v := .long p2) (ty := .long) (C := RX1) (T := TX1) (N := 6) hx hb hts hi_RX1 tyX1 tyX1_ok nmX1 hown hK hP hD hS 0 rfl rfl 2 (by decide) hw3 (fun _ h9 => h9) rfl (tyX1_ok 2 (by decide)) rfl rfl (Nat.le_of_ble_eq_true rfl) dX1_take_13 (fun H locs hP hD hS => ?_)
  have hP : va_P (dC, dI) vwCl [(h0, .inr (0, [.long p0, .long p1, .long p2, .long f3, .long f4, .long f5]))] H := hP
  have hD : va_D A [(h0, .inr (0, [.long p0, .long p1, .long p2, .long f3, .long f4, .long f5]))] := hD
  refine lv_aload_n hx hb dX1_take_16 rfl (lv_at hl 0 rfl) ?_
  refine lv_lload hx hb dX1_take_17 (lv_at hl 4 rfl) ?_
  refine va_put (D := (dC, dI)) (ci := 0) (v := .long p3) (ty := .long) (C := RX1) (T := TX1) (N := 6) hx hb hts hi_RX1 tyX1 tyX1_ok nmX1 hown hK hP hD hS 0 rfl rfl 3 (by decide) hw4 (fun _ h9 => h9) rfl (tyX1_ok 3 (by decide)) rfl rfl (Nat.le_of_ble_eq_true rfl) dX1_take_19 (fun H locs hP hD hS => ?_)
  have hP : va_P (dC, dI) vwCl [(h0, .inr (0, [.long p0, .long p1, .long p2, .long p3, .long f4, .long f5]))] H := hP
  have hD : va_D A [(h0, .inr (0, [.long p0, .long p1, .long p2, .long p3, .long f4, .long f5]))] := hD
  have es : (s_X1_take p0 p1 p2 p3) = (p0, p1, p2, p3) := rfl
  exact W.vret hx hb hr (fun t ht hW => by rw [es]; exact ⟨rfl, by rw [ht]; exact hP, hD, hS.F ht⟩) hS.2.2 dX1_take_22

def s_X1_add (f0 : Int64) (f1 : Int64) (f2 : Int64) (f3 : Int64) : Int64 × Int64 :=
  if (s_X1_isSumLong f0 f2) = (0 : Int32) then ((-9223372036854775808 : Int64), (9223372036854775807 : Int64))
  else if (s_X1_isSumLong f1 f3) = (0 : Int32) then ((-9223372036854775808 : Int64), (9223372036854775807 : Int64))
  else ((f0 + f2), (f1 + f3))
set_option maxHeartbeats 4000000 in
set_option maxRecDepth 100000 in
theorem c_X1_add (l : Launch) (dC : Nat → ClassId) (dI : Nat → Nat → Nat) (h0 sz : Nat) (f0 : Int64) (f1 : Int64) (f2 : Int64) (f3 : Int64) (f4 : Int64) (f5 : Int64) : Met l yX1_add wsX1_add ({ frames := 2, cells := 0, slots := 0, locals := 44 }) (wp9 (dC, dI) vwCl [] [.ref h0] sz [(h0, .inr (0, [.long f0, .long f1, .long f2, .long f3, .long f4, .long f5]))]) (wq none (dC, dI) vwCl [(h0, .inr (0, [.long f0, .long f1, .long f2, .long f3, .long ((s_X1_add f0 f1 f2 f3).1), .long ((s_X1_add f0 f1 f2 f3).2)]))] (va_A [(h0, .inr (0, [.long f0, .long f1, .long f2, .long f3, .long f4, .long f5]))] sz)) 0 0 (va_A [(h0, .inr (0, [.long f0, .long f1, .long f2, .long f3, .long f4, .long f5]))] sz) := by
  refine Met.ofW (cc := cX1_add) (maxL := 1) (ret := none) (by decide) rfl ?_
  intro p e s m args below meth c s₁ B hml hv
  obtain ⟨rfl, hsz, hP, hK, hD0⟩ := hv
  have hx := B.exec
  have hb := B.bytes
  have hr := B.returns
  have hts := atoms_spec (ws := wsX1_add) B.pre
  have hown : s.vm.findClass RX1 = some m.cls := findClass_of_methodNamed B.named
  have hlocks := B.notSynchronized
  subst hsz
  have hD := hD0.self (sz := s.heap.size)
  generalize hAe : va_A [(h0, .inr (0, [.long f0, .long f1, .long f2, .long f3, .long f4, .long f5]))] s.heap.size = A at hD ⊢
  have hA : ∀ q : Nat, s.heap.size ≤ q → A q := fun q h => by rw [← hAe]; exact Or.inr h
  have hS : va_S A s.heap s.heap [] := va_S.rf
  have hP : va_P (dC, dI) vwCl [(h0, .inr (0, [.long f0, .long f1, .long f2, .long f3, .long f4, .long f5]))] s.heap := hP
  have hl := lv_entry ([.ref h0]) (n := 1) (Nat.le_of_ble_eq_true rfl)
  rw [lg_entry_eq]
  generalize (lg_sl ([.ref h0]) ++ List.replicate (1 - (lg_sl ([.ref h0])).length) Slot.unset).toArray = ls at hl ⊢
  have hl : lv_has ls 1 [(0, .ref h0)] := hl
  have hw0 := hts (.fieldLink RX1 7 "RangeBox$Outcome" "xLow" "J") (List.mem_of_getElem? (i := 1) rfl)
  have hi_RX1 : ∀ w ∈ wsX10, w ∈ wsX1_add := fun _ h => List.mem_cons_of_mem _ (List.mem_append_right _ h)
  have hw2 := hts (.fieldLink RX1 16 "RangeBox$Outcome" "yLow" "J") (List.mem_of_getElem? (i := 2) rfl)
  have hw3 := hts (.fieldLink RX1 13 "RangeBox$Outcome" "xHigh" "J") (List.mem_of_getElem? (i := 3) rfl)
  have hw4 := hts (.fieldLink RX1 19 "RangeBox$Outcome" "yHigh" "J") (List.mem_of_getElem? (i := 4) rfl)
  refine lv_aload_n hx hb dX1_add_0 rfl (lv_at hl 0 rfl) ?_
  refine va_get (D := (dC, dI)) (ci := 0) (v := .long f0) (C := RX1) (T := TX1) (N := 6) hx hb hts hi_RX1 hown hK hP 0 rfl rfl 0 (by decide) hw0 (fun _ h9 => h9) rfl dX1_add_1 ?_
  refine lv_aload_n hx hb dX1_add_4 rfl (lv_at hl 0 rfl) ?_
  refine va_get (D := (dC, dI)) (ci := 0) (v := .long f2) (C := RX1) (T := TX1) (N := 6) hx hb hts hi_RX1 hown hK hP 0 rfl rfl 2 (by decide) hw2 (fun _ h9 => h9) rfl dX1_add_5 ?_
  refine pq_calli (va_runS (As := [.long f0, .long f2]) (rest := []) ⟨hx, hb, hml, hown, hts⟩ (c_X1_isSumLong l f0 f2) (va_cwS 2 hts gX1_add_X1_isSumLong rfl rfl rfl ydS_X1_isSumLong ⟨Nat.le_of_ble_eq_true rfl, Nat.le_of_ble_eq_true rfl⟩) ap_S rfl rfl hl.1 rfl (lv_room (Nat.le_of_ble_eq_true rfl)) dX1_add_8 ⟨Nat.le_of_ble_eq_true rfl, Nat.le_of_ble_eq_true rfl⟩) ?_
  refine lv_if_eq (tgt := 53) hx hb dX1_add_11 (by decide) (fun c1 => ?_) (fun c1 => ?_)
  · refine lv_aload_n hx hb dX1_add_53 rfl (lv_at hl 0 rfl) ?_
    refine wq_callv (wc := [(h0, .inr (0, [.long f0, .long f1, .long f2, .long f3, .long f4, .long f5]))]) (wr := []) (w2 := [(h0, .inr (0, [.long f0, .long f1, .long f2, .long f3, .long (-9223372036854775808 : Int64), .long (9223372036854775807 : Int64)]))]) (va_runV (As := []) (rest := []) ⟨hx, hb, hml, hown, hts⟩ (c_X1_tellAll l dC dI h0 s.heap.size f0 f1 f2 f3 f4 f5) (cwV 0 hts gX1_add_X1_tellAll rfl rfl rfl ydV_X1_tellAll ⟨Nat.le_of_ble_eq_true rfl, Nat.le_of_ble_eq_true rfl⟩) (wp_V (hK.sub (tys' := []) [] rfl) (hP.sub (ws' := [(h0, .inr (0, [.long f0, .long f1, .long f2, .long f3, .long f4, .long f5]))]) [0] rfl) (hD.sub (ws' := [(h0, .inr (0, [.long f0, .long f1, .long f2, .long f3, .long f4, .long f5]))]) [0] (by decide) rfl)  rfl rfl) rfl rfl hl.1 rfl (lv_room (Nat.le_of_ble_eq_true rfl)) dX1_add_54 ⟨Nat.le_of_ble_eq_true rfl, Nat.le_of_ble_eq_true rfl⟩) hP hD hS hA [0] [] [0] rfl rfl rfl (by decide) rfl rfl (fun H locs hP hD hS => ?_)
    have es : (s_X1_add f0 f1 f2 f3) = ((-9223372036854775808 : Int64), (9223372036854775807 : Int64)) := by unfold s_X1_add; rw [if_pos c1]
    exact W.vret hx hb hr (fun t ht hW => by rw [es]; exact ⟨rfl, by rw [ht]; exact hP, hD, hS.F ht⟩) hS.2.2 dX1_add_57
  · refine lv_aload_n hx hb dX1_add_14 rfl (lv_at hl 0 rfl) ?_
    refine va_get (D := (dC, dI)) (ci := 0) (v := .long f1) (C := RX1) (T := TX1) (N := 6) hx hb hts hi_RX1 hown hK hP 0 rfl rfl 1 (by decide) hw3 (fun _ h9 => h9) rfl dX1_add_15 ?_
    refine lv_aload_n hx hb dX1_add_18 rfl (lv_at hl 0 rfl) ?_
    refine va_get (D := (dC, dI)) (ci := 0) (v := .long f3) (C := RX1) (T := TX1) (N := 6) hx hb hts hi_RX1 hown hK hP 0 rfl rfl 3 (by decide) hw4 (fun _ h9 => h9) rfl dX1_add_19 ?_
    refine pq_calli (va_runS (As := [.long f1, .long f3]) (rest := []) ⟨hx, hb, hml, hown, hts⟩ (c_X1_isSumLong l f1 f3) (va_cwS 2 hts gX1_add_X1_isSumLong rfl rfl rfl ydS_X1_isSumLong ⟨Nat.le_of_ble_eq_true rfl, Nat.le_of_ble_eq_true rfl⟩) ap_S rfl rfl hl.1 rfl (lv_room (Nat.le_of_ble_eq_true rfl)) dX1_add_22 ⟨Nat.le_of_ble_eq_true rfl, Nat.le_of_ble_eq_true rfl⟩) ?_
    refine lv_if_eq (tgt := 53) hx hb dX1_add_25 (by decide) (fun c2 => ?_) (fun c2 => ?_)
    · refine lv_aload_n hx hb dX1_add_53 rfl (lv_at hl 0 rfl) ?_
      refine wq_callv (wc := [(h0, .inr (0, [.long f0, .long f1, .long f2, .long f3, .long f4, .long f5]))]) (wr := []) (w2 := [(h0, .inr (0, [.long f0, .long f1, .long f2, .long f3, .long (-9223372036854775808 : Int64), .long (9223372036854775807 : Int64)]))]) (va_runV (As := []) (rest := []) ⟨hx, hb, hml, hown, hts⟩ (c_X1_tellAll l dC dI h0 s.heap.size f0 f1 f2 f3 f4 f5) (cwV 0 hts gX1_add_X1_tellAll rfl rfl rfl ydV_X1_tellAll ⟨Nat.le_of_ble_eq_true rfl, Nat.le_of_ble_eq_true rfl⟩) (wp_V (hK.sub (tys' := []) [] rfl) (hP.sub (ws' := [(h0, .inr (0, [.long f0, .long f1, .long f2, .long f3, .long f4, .long f5]))]) [0] rfl) (hD.sub (ws' := [(h0, .inr (0, [.long f0, .long f1, .long f2, .long f3, .long f4, .long f5]))]) [0] (by decide) rfl)  rfl rfl) rfl rfl hl.1 rfl (lv_room (Nat.le_of_ble_eq_true rfl)) dX1_add_54 ⟨Nat.le_of_ble_eq_true rfl, Nat.le_of_ble_eq_true rfl⟩) hP hD hS hA [0] [] [0] rfl rfl rfl (by decide) rfl rfl (fun H locs hP hD hS => ?_)
      have es : (s_X1_add f0 f1 f2 f3) = ((-9223372036854775808 : Int64), (9223372036854775807 : Int64)) := by unfold s_X1_add; rw [if_neg c1, if_pos c2]
      exact W.vret hx hb hr (fun t ht hW => by rw [es]; exact ⟨rfl, by rw [ht]; exact hP, hD, hS.F ht⟩) hS.2.2 dX1_add_57
    · refine lv_aload_n hx hb dX1_add_28 rfl (lv_at hl 0 rfl) ?_
      refine lv_aload_n hx hb dX1_add_29 rfl (lv_at hl 0 rfl) ?_
      refine va_get (D := (dC, dI)) (ci := 0) (v := .long f0) (C := RX1) (T := TX1) (N := 6) hx hb hts hi_RX1 hown hK hP 0 rfl rfl 0 (by decide) hw0 (fun _ h9 => h9) rfl dX1_add_30 ?_
      refine lv_aload_n hx hb dX1_add_33 rfl (lv_at hl 0 rfl) ?_
      refine va_get (D := (dC, dI)) (ci := 0) (v := .long f2) (C := RX1) (T := TX1) (N := 6) hx hb hts hi_RX1 hown hK hP 0 rfl rfl 2 (by decide) hw2 (fun _ h9 => h9) rfl dX1_add_34 ?_
      refine lv_ladd hx hb dX1_add_37 ?_
      refine lv_aload_n hx hb dX1_add_38 rfl (lv_at hl 0 rfl) ?_
      refine va_get (D := (dC, dI)) (ci := 0) (v := .long f1) (C := RX1) (T := TX1) (N := 6) hx hb hts hi_RX1 hown hK hP 0 rfl rfl 1 (by decide) hw3 (fun _ h9 => h9) rfl dX1_add_39 ?_
      refine lv_aload_n hx hb dX1_add_42 rfl (lv_at hl 0 rfl) ?_
      refine va_get (D := (dC, dI)) (ci := 0) (v := .long f3) (C := RX1) (T := TX1) (N := 6) hx hb hts hi_RX1 hown hK hP 0 rfl rfl 3 (by decide) hw4 (fun _ h9 => h9) rfl dX1_add_43 ?_
      refine lv_ladd hx hb dX1_add_46 ?_
      refine wq_callv (wc := [(h0, .inr (0, [.long f0, .long f1, .long f2, .long f3, .long f4, .long f5]))]) (wr := []) (w2 := [(h0, .inr (0, [.long f0, .long f1, .long f2, .long f3, .long (f0 + f2), .long (f1 + f3)]))]) (va_runV (As := [.long (f0 + f2), .long (f1 + f3)]) (rest := []) ⟨hx, hb, hml, hown, hts⟩ (c_X1_tell l dC dI h0 s.heap.size f0 f1 f2 f3 f4 f5 (f0 + f2) (f1 + f3)) (cwV 2 hts gX1_add_X1_tell rfl rfl rfl ydV_X1_tell ⟨Nat.le_of_ble_eq_true rfl, Nat.le_of_ble_eq_true rfl⟩) (wp_V (hK.sub (tys' := []) [] rfl) (hP.sub (ws' := [(h0, .inr (0, [.long f0, .long f1, .long f2, .long f3, .long f4, .long f5]))]) [0] rfl) (hD.sub (ws' := [(h0, .inr (0, [.long f0, .long f1, .long f2, .long f3, .long f4, .long f5]))]) [0] (by decide) rfl)  rfl rfl) rfl rfl hl.1 rfl (lv_room (Nat.le_of_ble_eq_true rfl)) dX1_add_47 ⟨Nat.le_of_ble_eq_true rfl, Nat.le_of_ble_eq_true rfl⟩) hP hD hS hA [0] [] [0] rfl rfl rfl (by decide) rfl rfl (fun H locs hP hD hS => ?_)
      refine lv_goto (tgt := 57) hx hb dX1_add_50 (by decide) ?_
      have es : (s_X1_add f0 f1 f2 f3) = ((f0 + f2), (f1 + f3)) := by unfold s_X1_add; rw [if_neg c1, if_neg c2]
      exact W.vret hx hb hr (fun t ht hW => by rw [es]; exact ⟨rfl, by rw [ht]; exact hP, hD, hS.F ht⟩) hS.2.2 dX1_add_57

def s_X1_subtract (p0 : Int64) (p1 : Int64) (p2 : Int64) (p3 : Int64) : Int64 × Int64 :=
  if (s_X1_isDifferenceLong p0 p3) = (0 : Int32) then ((-9223372036854775808 : Int64), (9223372036854775807 : Int64))
  else if (s_X1_isDifferenceLong p1 p2) = (0 : Int32) then ((-9223372036854775808 : Int64), (9223372036854775807 : Int64))
  else ((p0 - p3), (p1 - p2))
set_option maxHeartbeats 4000000 in
set_option maxRecDepth 100000 in
theorem c_X1_subtract (l : Launch) (dC : Nat → ClassId) (dI : Nat → Nat → Nat) (h0 sz : Nat) (f0 : Int64) (f1 : Int64) (f2 : Int64) (f3 : Int64) (f4 : Int64) (f5 : Int64) (p0 : Int64) (p1 : Int64) (p2 : Int64) (p3 : Int64) : Met l yX1_subtract wsX1_subtract ({ frames := 2, cells := 0, slots := 0, locals := 44 }) (wp9 (dC, dI) vwCl [] [.ref h0, .long p0, .long p1, .long p2, .long p3] sz [(h0, .inr (0, [.long f0, .long f1, .long f2, .long f3, .long f4, .long f5]))]) (wq none (dC, dI) vwCl [(h0, .inr (0, [.long f0, .long f1, .long f2, .long f3, .long ((s_X1_subtract p0 p1 p2 p3).1), .long ((s_X1_subtract p0 p1 p2 p3).2)]))] (va_A [(h0, .inr (0, [.long f0, .long f1, .long f2, .long f3, .long f4, .long f5]))] sz)) 0 0 (va_A [(h0, .inr (0, [.long f0, .long f1, .long f2, .long f3, .long f4, .long f5]))] sz) := by
  refine Met.ofW (cc := cX1_subtract) (maxL := 9) (ret := none) (by decide) rfl ?_
  intro p e s m args below meth c s₁ B hml hv
  obtain ⟨rfl, hsz, hP, hK, hD0⟩ := hv
  have hx := B.exec
  have hb := B.bytes
  have hr := B.returns
  have hts := atoms_spec (ws := wsX1_subtract) B.pre
  have hown : s.vm.findClass RX1 = some m.cls := findClass_of_methodNamed B.named
  have hlocks := B.notSynchronized
  subst hsz
  have hD := hD0.self (sz := s.heap.size)
  generalize hAe : va_A [(h0, .inr (0, [.long f0, .long f1, .long f2, .long f3, .long f4, .long f5]))] s.heap.size = A at hD ⊢
  have hA : ∀ q : Nat, s.heap.size ≤ q → A q := fun q h => by rw [← hAe]; exact Or.inr h
  have hS : va_S A s.heap s.heap [] := va_S.rf
  have hP : va_P (dC, dI) vwCl [(h0, .inr (0, [.long f0, .long f1, .long f2, .long f3, .long f4, .long f5]))] s.heap := hP
  have hl := lv_entry ([.ref h0, .long p0, .long p1, .long p2, .long p3]) (n := 9) (Nat.le_of_ble_eq_true rfl)
  rw [lg_entry_eq]
  generalize (lg_sl ([.ref h0, .long p0, .long p1, .long p2, .long p3]) ++ List.replicate (9 - (lg_sl ([.ref h0, .long p0, .long p1, .long p2, .long p3])).length) Slot.unset).toArray = ls at hl ⊢
  have hl : lv_has ls 9 [(0, .ref h0), (1, .long p0), (3, .long p1), (5, .long p2), (7, .long p3)] := hl
  refine lv_lload_n hx hb dX1_subtract_0 rfl (lv_at hl 1 rfl) ?_
  refine lv_lload hx hb dX1_subtract_1 (lv_at hl 4 rfl) ?_
  refine pq_calli (va_runS (As := [.long p0, .long p3]) (rest := []) ⟨hx, hb, hml, hown, hts⟩ (c_X1_isDifferenceLong l p0 p3) (va_cwS 2 hts gX1_subtract_X1_isDifferenceLong rfl rfl rfl ydS_X1_isDifferenceLong ⟨Nat.le_of_ble_eq_true rfl, Nat.le_of_ble_eq_true rfl⟩) ap_S rfl rfl hl.1 rfl (lv_room (Nat.le_of_ble_eq_true rfl)) dX1_subtract_3 ⟨Nat.le_of_ble_eq_true rfl, Nat.le_of_ble_eq_true rfl⟩) ?_
  refine lv_if_eq (tgt := 33) hx hb dX1_subtract_6 (by decide) (fun c1 => ?_) (fun c1 => ?_)
  · refine lv_aload_n hx hb dX1_subtract_33 rfl (lv_at hl 0 rfl) ?_
    refine wq_callv (wc := [(h0, .inr (0, [.long f0, .long f1, .long f2, .long f3, .long f4, .long f5]))]) (wr := []) (w2 := [(h0, .inr (0, [.long f0, .long f1, .long f2, .long f3, .long (-9223372036854775808 : Int64), .long (9223372036854775807 : Int64)]))]) (va_runV (As := []) (rest := []) ⟨hx, hb, hml, hown, hts⟩ (c_X1_tellAll l dC dI h0 s.heap.size f0 f1 f2 f3 f4 f5) (cwV 0 hts gX1_subtract_X1_tellAll rfl rfl rfl ydV_X1_tellAll ⟨Nat.le_of_ble_eq_true rfl, Nat.le_of_ble_eq_true rfl⟩) (wp_V (hK.sub (tys' := []) [] rfl) (hP.sub (ws' := [(h0, .inr (0, [.long f0, .long f1, .long f2, .long f3, .long f4, .long f5]))]) [0] rfl) (hD.sub (ws' := [(h0, .inr (0, [.long f0, .long f1, .long f2, .long f3, .long f4, .long f5]))]) [0] (by decide) rfl)  rfl rfl) rfl rfl hl.1 rfl (lv_room (Nat.le_of_ble_eq_true rfl)) dX1_subtract_34 ⟨Nat.le_of_ble_eq_true rfl, Nat.le_of_ble_eq_true rfl⟩) hP hD hS hA [0] [] [0] rfl rfl rfl (by decide) rfl rfl (fun H locs hP hD hS => ?_)
    have es : (s_X1_subtract p0 p1 p2 p3) = ((-9223372036854775808 : Int64), (9223372036854775807 : Int64)) := by unfold s_X1_subtract; rw [if_pos c1]
    exact W.vret hx hb hr (fun t ht hW => by rw [es]; exact ⟨rfl, by rw [ht]; exact hP, hD, hS.F ht⟩) hS.2.2 dX1_subtract_37
  · refine lv_lload_n hx hb dX1_subtract_9 rfl (lv_at hl 2 rfl) ?_
    refine lv_lload hx hb dX1_subtract_10 (lv_at hl 3 rfl) ?_
    refine pq_calli (va_runS (As := [.long p1, .long p2]) (rest := []) ⟨hx, hb, hml, hown, hts⟩ (c_X1_isDifferenceLong l p1 p2) (va_cwS 2 hts gX1_subtract_X1_isDifferenceLong rfl rfl rfl ydS_X1_isDifferenceLong ⟨Nat.le_of_ble_eq_true rfl, Nat.le_of_ble_eq_true rfl⟩) ap_S rfl rfl hl.1 rfl (lv_room (Nat.le_of_ble_eq_true rfl)) dX1_subtract_12 ⟨Nat.le_of_ble_eq_true rfl, Nat.le_of_ble_eq_true rfl⟩) ?_
    refine lv_if_eq (tgt := 33) hx hb dX1_subtract_15 (by decide) (fun c2 => ?_) (fun c2 => ?_)
    · refine lv_aload_n hx hb dX1_subtract_33 rfl (lv_at hl 0 rfl) ?_
      refine wq_callv (wc := [(h0, .inr (0, [.long f0, .long f1, .long f2, .long f3, .long f4, .long f5]))]) (wr := []) (w2 := [(h0, .inr (0, [.long f0, .long f1, .long f2, .long f3, .long (-9223372036854775808 : Int64), .long (9223372036854775807 : Int64)]))]) (va_runV (As := []) (rest := []) ⟨hx, hb, hml, hown, hts⟩ (c_X1_tellAll l dC dI h0 s.heap.size f0 f1 f2 f3 f4 f5) (cwV 0 hts gX1_subtract_X1_tellAll rfl rfl rfl ydV_X1_tellAll ⟨Nat.le_of_ble_eq_true rfl, Nat.le_of_ble_eq_true rfl⟩) (wp_V (hK.sub (tys' := []) [] rfl) (hP.sub (ws' := [(h0, .inr (0, [.long f0, .long f1, .long f2, .long f3, .long f4, .long f5]))]) [0] rfl) (hD.sub (ws' := [(h0, .inr (0, [.long f0, .long f1, .long f2, .long f3, .long f4, .long f5]))]) [0] (by decide) rfl)  rfl rfl) rfl rfl hl.1 rfl (lv_room (Nat.le_of_ble_eq_true rfl)) dX1_subtract_34 ⟨Nat.le_of_ble_eq_true rfl, Nat.le_of_ble_eq_true rfl⟩) hP hD hS hA [0] [] [0] rfl rfl rfl (by decide) rfl rfl (fun H locs hP hD hS => ?_)
      have es : (s_X1_subtract p0 p1 p2 p3) = ((-9223372036854775808 : Int64), (9223372036854775807 : Int64)) := by unfold s_X1_subtract; rw [if_neg c1, if_pos c2]
      exact W.vret hx hb hr (fun t ht hW => by rw [es]; exact ⟨rfl, by rw [ht]; exact hP, hD, hS.F ht⟩) hS.2.2 dX1_subtract_37
    · refine lv_aload_n hx hb dX1_subtract_18 rfl (lv_at hl 0 rfl) ?_
      refine lv_lload_n hx hb dX1_subtract_19 rfl (lv_at hl 1 rfl) ?_
      refine lv_lload hx hb dX1_subtract_20 (lv_at hl 4 rfl) ?_
      refine lv_lsub hx hb dX1_subtract_22 ?_
      refine lv_lload_n hx hb dX1_subtract_23 rfl (lv_at hl 2 rfl) ?_
      refine lv_lload hx hb dX1_subtract_24 (lv_at hl 3 rfl) ?_
      refine lv_lsub hx hb dX1_subtract_26 ?_
      refine wq_callv (wc := [(h0, .inr (0, [.long f0, .long f1, .long f2, .long f3, .long f4, .long f5]))]) (wr := []) (w2 := [(h0, .inr (0, [.long f0, .long f1, .long f2, .long f3, .long (p0 - p3), .long (p1 - p2)]))]) (va_runV (As := [.long (p0 - p3), .long (p1 - p2)]) (rest := []) ⟨hx, hb, hml, hown, hts⟩ (c_X1_tell l dC dI h0 s.heap.size f0 f1 f2 f3 f4 f5 (p0 - p3) (p1 - p2)) (cwV 2 hts gX1_subtract_X1_tell rfl rfl rfl ydV_X1_tell ⟨Nat.le_of_ble_eq_true rfl, Nat.le_of_ble_eq_true rfl⟩) (wp_V (hK.sub (tys' := []) [] rfl) (hP.sub (ws' := [(h0, .inr (0, [.long f0, .long f1, .long f2, .long f3, .long f4, .long f5]))]) [0] rfl) (hD.sub (ws' := [(h0, .inr (0, [.long f0, .long f1, .long f2, .long f3, .long f4, .long f5]))]) [0] (by decide) rfl)  rfl rfl) rfl rfl hl.1 rfl (lv_room (Nat.le_of_ble_eq_true rfl)) dX1_subtract_27 ⟨Nat.le_of_ble_eq_true rfl, Nat.le_of_ble_eq_true rfl⟩) hP hD hS hA [0] [] [0] rfl rfl rfl (by decide) rfl rfl (fun H locs hP hD hS => ?_)
      refine lv_goto (tgt := 37) hx hb dX1_subtract_30 (by decide) ?_
      have es : (s_X1_subtract p0 p1 p2 p3) = ((p0 - p3), (p1 - p2)) := by unfold s_X1_subtract; rw [if_neg c1, if_neg c2]
      exact W.vret hx hb hr (fun t ht hW => by rw [es]; exact ⟨rfl, by rw [ht]; exact hP, hD, hS.F ht⟩) hS.2.2 dX1_subtract_37

def s_X1_multiply (f0 : Int64) (f1 : Int64) (f2 : Int64) (f3 : Int64) : Int64 × Int64 :=
  if (s_X1_isProductLong f0 f2) = (0 : Int32) then ((-9223372036854775808 : Int64), (9223372036854775807 : Int64))
  else if (s_X1_isProductLong f0 f3) = (0 : Int32) then ((-9223372036854775808 : Int64), (9223372036854775807 : Int64))
  else if (s_X1_isProductLong f1 f2) = (0 : Int32) then ((-9223372036854775808 : Int64), (9223372036854775807 : Int64))
  else if (s_X1_isProductLong f1 f3) = (0 : Int32) then ((-9223372036854775808 : Int64), (9223372036854775807 : Int64))
  else ((pl_min (pl_min (f0 * f2) (f0 * f3)) (pl_min (f1 * f2) (f1 * f3))), (pl_max (pl_max (f0 * f2) (f0 * f3)) (pl_max (f1 * f2) (f1 * f3))))
set_option maxHeartbeats 4000000 in
set_option maxRecDepth 100000 in
theorem c_X1_multiply (l : Launch) (dC : Nat → ClassId) (dI : Nat → Nat → Nat) (h0 sz : Nat) (f0 : Int64) (f1 : Int64) (f2 : Int64) (f3 : Int64) (f4 : Int64) (f5 : Int64) : Met l yX1_multiply wsX1_multiply ({ frames := 2, cells := 0, slots := 0, locals := 44 }) (wp9 (dC, dI) vwCl [] [.ref h0] sz [(h0, .inr (0, [.long f0, .long f1, .long f2, .long f3, .long f4, .long f5]))]) (wq none (dC, dI) vwCl [(h0, .inr (0, [.long f0, .long f1, .long f2, .long f3, .long ((s_X1_multiply f0 f1 f2 f3).1), .long ((s_X1_multiply f0 f1 f2 f3).2)]))] (va_A [(h0, .inr (0, [.long f0, .long f1, .long f2, .long f3, .long f4, .long f5]))] sz)) 0 0 (va_A [(h0, .inr (0, [.long f0, .long f1, .long f2, .long f3, .long f4, .long f5]))] sz) := by
  refine Met.ofW (cc := cX1_multiply) (maxL := 9) (ret := none) (by decide) rfl ?_
  intro p e s m args below meth c s₁ B hml hv
  obtain ⟨rfl, hsz, hP, hK, hD0⟩ := hv
  have hx := B.exec
  have hb := B.bytes
  have hr := B.returns
  have hts := atoms_spec (ws := wsX1_multiply) B.pre
  have hown : s.vm.findClass RX1 = some m.cls := findClass_of_methodNamed B.named
  have hlocks := B.notSynchronized
  subst hsz
  have hD := hD0.self (sz := s.heap.size)
  generalize hAe : va_A [(h0, .inr (0, [.long f0, .long f1, .long f2, .long f3, .long f4, .long f5]))] s.heap.size = A at hD ⊢
  have hA : ∀ q : Nat, s.heap.size ≤ q → A q := fun q h => by rw [← hAe]; exact Or.inr h
  have hS : va_S A s.heap s.heap [] := va_S.rf
  have hP : va_P (dC, dI) vwCl [(h0, .inr (0, [.long f0, .long f1, .long f2, .long f3, .long f4, .long f5]))] s.heap := hP
  have hl := lv_entry ([.ref h0]) (n := 9) (Nat.le_of_ble_eq_true rfl)
  rw [lg_entry_eq]
  generalize (lg_sl ([.ref h0]) ++ List.replicate (9 - (lg_sl ([.ref h0])).length) Slot.unset).toArray = ls at hl ⊢
  have hl : lv_has ls 9 [(0, .ref h0)] := hl
  have hw0 := hts (.fieldLink RX1 7 "RangeBox$Outcome" "xLow" "J") (List.mem_of_getElem? (i := 1) rfl)
  have hi_RX1 : ∀ w ∈ wsX10, w ∈ wsX1_multiply := fun _ h => List.mem_cons_of_mem _ (List.mem_append_right _ h)
  have hw2 := hts (.fieldLink RX1 16 "RangeBox$Outcome" "yLow" "J") (List.mem_of_getElem? (i := 2) rfl)
  have hw3 := hts (.fieldLink RX1 19 "RangeBox$Outcome" "yHigh" "J") (List.mem_of_getElem? (i := 3) rfl)
  have hw4 := hts (.fieldLink RX1 13 "RangeBox$Outcome" "xHigh" "J") (List.mem_of_getElem? (i := 4) rfl)
  have hw5 := hts (.methodLink RX1 119 Lib.MathLoose.min_long.x) (List.mem_of_getElem? (i := 5) rfl)
  have hw6 := hts (.static Lib.MathLoose.min_long.x) (List.mem_of_getElem? (i := 6) rfl)
  have hw7 := hts (.initialized "java/lang/Math") (List.mem_of_getElem? (i := 7) rfl)
  have hw8 := hts (.code Lib.MathLoose.min_long.x Lib.MathLoose.min_long.code 4 (some .long)) (List.mem_of_getElem? (i := 8) rfl)
  have hw9 := hts (.methodLink RX1 89 Lib.MathLoose.max_long.x) (List.mem_of_getElem? (i := 9) rfl)
  have hw10 := hts (.static Lib.MathLoose.max_long.x) (List.mem_of_getElem? (i := 10) rfl)
  have hw11 := hts (.code Lib.MathLoose.max_long.x Lib.MathLoose.max_long.code 4 (some .long)) (List.mem_of_getElem? (i := 11) rfl)
  refine lv_aload_n hx hb dX1_multiply_0 rfl (lv_at hl 0 rfl) ?_
  refine va_get (D := (dC, dI)) (ci := 0) (v := .long f0) (C := RX1) (T := TX1) (N := 6) hx hb hts hi_RX1 hown hK hP 0 rfl rfl 0 (by decide) hw0 (fun _ h9 => h9) rfl dX1_multiply_1 ?_
  refine lv_aload_n hx hb dX1_multiply_4 rfl (lv_at hl 0 rfl) ?_
  refine va_get (D := (dC, dI)) (ci := 0) (v := .long f2) (C := RX1) (T := TX1) (N := 6) hx hb hts hi_RX1 hown hK hP 0 rfl rfl 2 (by decide) hw2 (fun _ h9 => h9) rfl dX1_multiply_5 ?_
  refine pq_calli (va_runS (As := [.long f0, .long f2]) (rest := []) ⟨hx, hb, hml, hown, hts⟩ (c_X1_isProductLong l f0 f2) (va_cwS 2 hts gX1_multiply_X1_isProductLong rfl rfl rfl ydS_X1_isProductLong ⟨Nat.le_of_ble_eq_true rfl, Nat.le_of_ble_eq_true rfl⟩) ap_S rfl rfl hl.1 rfl (lv_room (Nat.le_of_ble_eq_true rfl)) dX1_multiply_8 ⟨Nat.le_of_ble_eq_true rfl, Nat.le_of_ble_eq_true rfl⟩) ?_
  refine lv_if_eq (tgt := 56) hx hb dX1_multiply_11 (by decide) (fun c1 => ?_) (fun c1 => ?_)
  · refine lv_aload_n hx hb dX1_multiply_56 rfl (lv_at hl 0 rfl) ?_
    refine wq_callv (wc := [(h0, .inr (0, [.long f0, .long f1, .long f2, .long f3, .long f4, .long f5]))]) (wr := []) (w2 := [(h0, .inr (0, [.long f0, .long f1, .long f2, .long f3, .long (-9223372036854775808 : Int64), .long (9223372036854775807 : Int64)]))]) (va_runV (As := []) (rest := []) ⟨hx, hb, hml, hown, hts⟩ (c_X1_tellAll l dC dI h0 s.heap.size f0 f1 f2 f3 f4 f5) (cwV 0 hts gX1_multiply_X1_tellAll rfl rfl rfl ydV_X1_tellAll ⟨Nat.le_of_ble_eq_true rfl, Nat.le_of_ble_eq_true rfl⟩) (wp_V (hK.sub (tys' := []) [] rfl) (hP.sub (ws' := [(h0, .inr (0, [.long f0, .long f1, .long f2, .long f3, .long f4, .long f5]))]) [0] rfl) (hD.sub (ws' := [(h0, .inr (0, [.long f0, .long f1, .long f2, .long f3, .long f4, .long f5]))]) [0] (by decide) rfl)  rfl rfl) rfl rfl hl.1 rfl (lv_room (Nat.le_of_ble_eq_true rfl)) dX1_multiply_57 ⟨Nat.le_of_ble_eq_true rfl, Nat.le_of_ble_eq_true rfl⟩) hP hD hS hA [0] [] [0] rfl rfl rfl (by decide) rfl rfl (fun H locs hP hD hS => ?_)
    have es : (s_X1_multiply f0 f1 f2 f3) = ((-9223372036854775808 : Int64), (9223372036854775807 : Int64)) := by unfold s_X1_multiply; rw [if_pos c1]
    exact W.vret hx hb hr (fun t ht hW => by rw [es]; exact ⟨rfl, by rw [ht]; exact hP, hD, hS.F ht⟩) hS.2.2 dX1_multiply_60
  · refine lv_aload_n hx hb dX1_multiply_14 rfl (lv_at hl 0 rfl) ?_
    refine va_get (D := (dC, dI)) (ci := 0) (v := .long f0) (C := RX1) (T := TX1) (N := 6) hx hb hts hi_RX1 hown hK hP 0 rfl rfl 0 (by decide) hw0 (fun _ h9 => h9) rfl dX1_multiply_15 ?_
    refine lv_aload_n hx hb dX1_multiply_18 rfl (lv_at hl 0 rfl) ?_
    refine va_get (D := (dC, dI)) (ci := 0) (v := .long f3) (C := RX1) (T := TX1) (N := 6) hx hb hts hi_RX1 hown hK hP 0 rfl rfl 3 (by decide) hw3 (fun _ h9 => h9) rfl dX1_multiply_19 ?_
    refine pq_calli (va_runS (As := [.long f0, .long f3]) (rest := []) ⟨hx, hb, hml, hown, hts⟩ (c_X1_isProductLong l f0 f3) (va_cwS 2 hts gX1_multiply_X1_isProductLong rfl rfl rfl ydS_X1_isProductLong ⟨Nat.le_of_ble_eq_true rfl, Nat.le_of_ble_eq_true rfl⟩) ap_S rfl rfl hl.1 rfl (lv_room (Nat.le_of_ble_eq_true rfl)) dX1_multiply_22 ⟨Nat.le_of_ble_eq_true rfl, Nat.le_of_ble_eq_true rfl⟩) ?_
    refine lv_if_eq (tgt := 56) hx hb dX1_multiply_25 (by decide) (fun c2 => ?_) (fun c2 => ?_)
    · refine lv_aload_n hx hb dX1_multiply_56 rfl (lv_at hl 0 rfl) ?_
      refine wq_callv (wc := [(h0, .inr (0, [.long f0, .long f1, .long f2, .long f3, .long f4, .long f5]))]) (wr := []) (w2 := [(h0, .inr (0, [.long f0, .long f1, .long f2, .long f3, .long (-9223372036854775808 : Int64), .long (9223372036854775807 : Int64)]))]) (va_runV (As := []) (rest := []) ⟨hx, hb, hml, hown, hts⟩ (c_X1_tellAll l dC dI h0 s.heap.size f0 f1 f2 f3 f4 f5) (cwV 0 hts gX1_multiply_X1_tellAll rfl rfl rfl ydV_X1_tellAll ⟨Nat.le_of_ble_eq_true rfl, Nat.le_of_ble_eq_true rfl⟩) (wp_V (hK.sub (tys' := []) [] rfl) (hP.sub (ws' := [(h0, .inr (0, [.long f0, .long f1, .long f2, .long f3, .long f4, .long f5]))]) [0] rfl) (hD.sub (ws' := [(h0, .inr (0, [.long f0, .long f1, .long f2, .long f3, .long f4, .long f5]))]) [0] (by decide) rfl)  rfl rfl) rfl rfl hl.1 rfl (lv_room (Nat.le_of_ble_eq_true rfl)) dX1_multiply_57 ⟨Nat.le_of_ble_eq_true rfl, Nat.le_of_ble_eq_true rfl⟩) hP hD hS hA [0] [] [0] rfl rfl rfl (by decide) rfl rfl (fun H locs hP hD hS => ?_)
      have es : (s_X1_multiply f0 f1 f2 f3) = ((-9223372036854775808 : Int64), (9223372036854775807 : Int64)) := by unfold s_X1_multiply; rw [if_neg c1, if_pos c2]
      exact W.vret hx hb hr (fun t ht hW => by rw [es]; exact ⟨rfl, by rw [ht]; exact hP, hD, hS.F ht⟩) hS.2.2 dX1_multiply_60
    · refine lv_aload_n hx hb dX1_multiply_28 rfl (lv_at hl 0 rfl) ?_
      refine va_get (D := (dC, dI)) (ci := 0) (v := .long f1) (C := RX1) (T := TX1) (N := 6) hx hb hts hi_RX1 hown hK hP 0 rfl rfl 1 (by decide) hw4 (fun _ h9 => h9) rfl dX1_multiply_29 ?_
      refine lv_aload_n hx hb dX1_multiply_32 rfl (lv_at hl 0 rfl) ?_
      refine va_get (D := (dC, dI)) (ci := 0) (v := .long f2) (C := RX1) (T := TX1) (N := 6) hx hb hts hi_RX1 hown hK hP 0 rfl rfl 2 (by decide) hw2 (fun _ h9 => h9) rfl dX1_multiply_33 ?_
      refine pq_calli (va_runS (As := [.long f1, .long f2]) (rest := []) ⟨hx, hb, hml, hown, hts⟩ (c_X1_isProductLong l f1 f2) (va_cwS 2 hts gX1_multiply_X1_isProductLong rfl rfl rfl ydS_X1_isProductLong ⟨Nat.le_of_ble_eq_true rfl, Nat.le_of_ble_eq_true rfl⟩) ap_S rfl rfl hl.1 rfl (lv_room (Nat.le_of_ble_eq_true rfl)) dX1_multiply_36 ⟨Nat.le_of_ble_eq_true rfl, Nat.le_of_ble_eq_true rfl⟩) ?_
      refine lv_if_eq (tgt := 56) hx hb dX1_multiply_39 (by decide) (fun c3 => ?_) (fun c3 => ?_)
      · refine lv_aload_n hx hb dX1_multiply_56 rfl (lv_at hl 0 rfl) ?_
        refine wq_callv (wc := [(h0, .inr (0, [.long f0, .long f1, .long f2, .long f3, .long f4, .long f5]))]) (wr := []) (w2 := [(h0, .inr (0, [.long f0, .long f1, .long f2, .long f3, .long (-9223372036854775808 : Int64), .long (9223372036854775807 : Int64)]))]) (va_runV (As := []) (rest := []) ⟨hx, hb, hml, hown, hts⟩ (c_X1_tellAll l dC dI h0 s.heap.size f0 f1 f2 f3 f4 f5) (cwV 0 hts gX1_multiply_X1_tellAll rfl rfl rfl ydV_X1_tellAll ⟨Nat.le_of_ble_eq_true rfl, Nat.le_of_ble_eq_true rfl⟩) (wp_V (hK.sub (tys' := []) [] rfl) (hP.sub (ws' := [(h0, .inr (0, [.long f0, .long f1, .long f2, .long f3, .long f4, .long f5]))]) [0] rfl) (hD.sub (ws' := [(h0, .inr (0, [.long f0, .long f1, .long f2, .long f3, .long f4, .long f5]))]) [0] (by decide) rfl)  rfl rfl) rfl rfl hl.1 rfl (lv_room (Nat.le_of_ble_eq_true rfl)) dX1_multiply_57 ⟨Nat.le_of_ble_eq_true rfl, Nat.le_of_ble_eq_true rfl⟩) hP hD hS hA [0] [] [0] rfl rfl rfl (by decide) rfl rfl (fun H locs hP hD hS => ?_)
        have es : (s_X1_multiply f0 f1 f2 f3) = ((-9223372036854775808 : Int64), (9223372036854775807 : Int64)) := by unfold s_X1_multiply; rw [if_neg c1, if_neg c2, if_pos c3]
        exact W.vret hx hb hr (fun t ht hW => by rw [es]; exact ⟨rfl, by rw [ht]; exact hP, hD, hS.F ht⟩) hS.2.2 dX1_multiply_60
      · refine lv_aload_n hx hb dX1_multiply_42 rfl (lv_at hl 0 rfl) ?_
        refine va_get (D := (dC, dI)) (ci := 0) (v := .long f1) (C := RX1) (T := TX1) (N := 6) hx hb hts hi_RX1 hown hK hP 0 rfl rfl 1 (by decide) hw4 (fun _ h9 => h9) rfl dX1_multiply_43 ?_
        refine lv_aload_n hx hb dX1_multiply_46 rfl (lv_at hl 0 rfl) ?_
        refine va_get (D := (dC, dI)) (ci := 0) (v := .long f3) (C := RX1) (T := TX1) (N := 6) hx hb hts hi_RX1 hown hK hP 0 rfl rfl 3 (by decide) hw3 (fun _ h9 => h9) rfl dX1_multiply_47 ?_
        refine pq_calli (va_runS (As := [.long f1, .long f3]) (rest := []) ⟨hx, hb, hml, hown, hts⟩ (c_X1_isProductLong l f1 f3) (va_cwS 2 hts gX1_multiply_X1_isProductLong rfl rfl rfl ydS_X1_isProductLong ⟨Nat.le_of_ble_eq_true rfl, Nat.le_of_ble_eq_true rfl⟩) ap_S rfl rfl hl.1 rfl (lv_room (Nat.le_of_ble_eq_true rfl)) dX1_multiply_50 ⟨Nat.le_of_ble_eq_true rfl, Nat.le_of_ble_eq_true rfl⟩) ?_
        refine lv_if_ne (tgt := 61) hx hb dX1_multiply_53 (by decide) (fun c4 => ?_) (fun c4 => ?_)
        · refine lv_aload_n hx hb dX1_multiply_61 rfl (lv_at hl 0 rfl) ?_
          refine va_get (D := (dC, dI)) (ci := 0) (v := .long f0) (C := RX1) (T := TX1) (N := 6) hx hb hts hi_RX1 hown hK hP 0 rfl rfl 0 (by decide) hw0 (fun _ h9 => h9) rfl dX1_multiply_62 ?_
          refine lv_aload_n hx hb dX1_multiply_65 rfl (lv_at hl 0 rfl) ?_
          refine va_get (D := (dC, dI)) (ci := 0) (v := .long f2) (C := RX1) (T := TX1) (N := 6) hx hb hts hi_RX1 hown hK hP 0 rfl rfl 2 (by decide) hw2 (fun _ h9 => h9) rfl dX1_multiply_66 ?_
          refine lv_lmul hx hb dX1_multiply_69 ?_
          refine lv_lstore_n (lv' := [(1, .long (f0 * f2)), (0, .ref h0)]) hx hb dX1_multiply_70 rfl hl (by decide) rfl (fun ls hl => ?_)
          refine lv_aload_n hx hb dX1_multiply_71 rfl (lv_at hl 1 rfl) ?_
          refine va_get (D := (dC, dI)) (ci := 0) (v := .long f0) (C := RX1) (T := TX1) (N := 6) hx hb hts hi_RX1 hown hK hP 0 rfl rfl 0 (by decide) hw0 (fun _ h9 => h9) rfl dX1_multiply_72 ?_
          refine lv_aload_n hx hb dX1_multiply_75 rfl (lv_at hl 1 rfl) ?_
          refine va_get (D := (dC, dI)) (ci := 0) (v := .long f3) (C := RX1) (T := TX1) (N := 6) hx hb hts hi_RX1 hown hK hP 0 rfl rfl 3 (by decide) hw3 (fun _ h9 => h9) rfl dX1_multiply_76 ?_
          refine lv_lmul hx hb dX1_multiply_79 ?_
          refine lv_lstore_n (lv' := [(3, .long (f0 * f3)), (1, .long (f0 * f2)), (0, .ref h0)]) hx hb dX1_multiply_80 rfl hl (by decide) rfl (fun ls hl => ?_)
          refine lv_aload_n hx hb dX1_multiply_81 rfl (lv_at hl 2 rfl) ?_
          refine va_get (D := (dC, dI)) (ci := 0) (v := .long f1) (C := RX1) (T := TX1) (N := 6) hx hb hts hi_RX1 hown hK hP 0 rfl rfl 1 (by decide) hw4 (fun _ h9 => h9) rfl dX1_multiply_82 ?_
          refine lv_aload_n hx hb dX1_multiply_85 rfl (lv_at hl 2 rfl) ?_
          refine va_get (D := (dC, dI)) (ci := 0) (v := .long f2) (C := RX1) (T := TX1) (N := 6) hx hb hts hi_RX1 hown hK hP 0 rfl rfl 2 (by decide) hw2 (fun _ h9 => h9) rfl dX1_multiply_86 ?_
          refine lv_lmul hx hb dX1_multiply_89 ?_
          refine lv_lstore (lv' := [(5, .long (f1 * f2)), (3, .long (f0 * f3)), (1, .long (f0 * f2)), (0, .ref h0)]) hx hb dX1_multiply_90 hl (by decide) rfl (fun ls hl => ?_)
          refine lv_aload_n hx hb dX1_multiply_92 rfl (lv_at hl 3 rfl) ?_
          refine va_get (D := (dC, dI)) (ci := 0) (v := .long f1) (C := RX1) (T := TX1) (N := 6) hx hb hts hi_RX1 hown hK hP 0 rfl rfl 1 (by decide) hw4 (fun _ h9 => h9) rfl dX1_multiply_93 ?_
          refine lv_aload_n hx hb dX1_multiply_96 rfl (lv_at hl 3 rfl) ?_
          refine va_get (D := (dC, dI)) (ci := 0) (v := .long f3) (C := RX1) (T := TX1) (N := 6) hx hb hts hi_RX1 hown hK hP 0 rfl rfl 3 (by decide) hw3 (fun _ h9 => h9) rfl dX1_multiply_97 ?_
          refine lv_lmul hx hb dX1_multiply_100 ?_
          refine lv_lstore (lv' := [(7, .long (f1 * f3)), (5, .long (f1 * f2)), (3, .long (f0 * f3)), (1, .long (f0 * f2)), (0, .ref h0)]) hx hb dX1_multiply_101 hl (by decide) rfl (fun ls hl => ?_)
          refine lv_aload_n hx hb dX1_multiply_103 rfl (lv_at hl 4 rfl) ?_
          refine lv_lload_n hx hb dX1_multiply_104 rfl (lv_at hl 3 rfl) ?_
          refine lv_lload_n hx hb dX1_multiply_105 rfl (lv_at hl 2 rfl) ?_
          refine pm_min hx hb (hml.trans hl.1.symm) hown hw5 hw6 hw7 hw8 (Nat.le_of_ble_eq_true rfl) (Nat.le_of_ble_eq_true rfl) (Nat.le_of_ble_eq_true rfl) (Nat.le_of_ble_eq_true rfl) dX1_multiply_106 ?_
          refine lv_lload hx hb dX1_multiply_109 (lv_at hl 1 rfl) ?_
          refine lv_lload hx hb dX1_multiply_111 (lv_at hl 0 rfl) ?_
          refine pm_min hx hb (hml.trans hl.1.symm) hown hw5 hw6 hw7 hw8 (Nat.le_of_ble_eq_true rfl) (Nat.le_of_ble_eq_true rfl) (Nat.le_of_ble_eq_true rfl) (Nat.le_of_ble_eq_true rfl) dX1_multiply_113 ?_
          refine pm_min hx hb (hml.trans hl.1.symm) hown hw5 hw6 hw7 hw8 (Nat.le_of_ble_eq_true rfl) (Nat.le_of_ble_eq_true rfl) (Nat.le_of_ble_eq_true rfl) (Nat.le_of_ble_eq_true rfl) dX1_multiply_116 ?_
          refine lv_lload_n hx hb dX1_multiply_119 rfl (lv_at hl 3 rfl) ?_
          refine lv_lload_n hx hb dX1_multiply_120 rfl (lv_at hl 2 rfl) ?_
          refine pm_max hx hb (hml.trans hl.1.symm) hown hw9 hw10 hw7 hw11 (Nat.le_of_ble_eq_true rfl) (Nat.le_of_ble_eq_true rfl) (Nat.le_of_ble_eq_true rfl) (Nat.le_of_ble_eq_true rfl) dX1_multiply_121 ?_
          refine lv_lload hx hb dX1_multiply_124 (lv_at hl 1 rfl) ?_
          refine lv_lload hx hb dX1_multiply_126 (lv_at hl 0 rfl) ?_
          refine pm_max hx hb (hml.trans hl.1.symm) hown hw9 hw10 hw7 hw11 (Nat.le_of_ble_eq_true rfl) (Nat.le_of_ble_eq_true rfl) (Nat.le_of_ble_eq_true rfl) (Nat.le_of_ble_eq_true rfl) dX1_multiply_128 ?_
          refine pm_max hx hb (hml.trans hl.1.symm) hown hw9 hw10 hw7 hw11 (Nat.le_of_ble_eq_true rfl) (Nat.le_of_ble_eq_true rfl) (Nat.le_of_ble_eq_true rfl) (Nat.le_of_ble_eq_true rfl) dX1_multiply_131 ?_
          refine wq_callv (wc := [(h0, .inr (0, [.long f0, .long f1, .long f2, .long f3, .long f4, .long f5]))]) (wr := []) (w2 := [(h0, .inr (0, [.long f0, .long f1, .long f2, .long f3, .long (pl_min (pl_min (f0 * f2) (f0 * f3)) (pl_min (f1 * f2) (f1 * f3))), .long (pl_max (pl_max (f0 * f2) (f0 * f3)) (pl_max (f1 * f2) (f1 * f3)))]))]) (va_runV (As := [.long (pl_min (pl_min (f0 * f2) (f0 * f3)) (pl_min (f1 * f2) (f1 * f3))), .long (pl_max (pl_max (f0 * f2) (f0 * f3)) (pl_max (f1 * f2) (f1 * f3)))]) (rest := []) ⟨hx, hb, hml, hown, hts⟩ (c_X1_tell l dC dI h0 s.heap.size f0 f1 f2 f3 f4 f5 (pl_min (pl_min (f0 * f2) (f0 * f3)) (pl_min (f1 * f2) (f1 * f3))) (pl_max (pl_max (f0 * f2) (f0 * f3)) (pl_max (f1 * f2) (f1 * f3)))) (cwV 2 hts gX1_multiply_X1_tell rfl rfl rfl ydV_X1_tell ⟨Nat.le_of_ble_eq_true rfl, Nat.le_of_ble_eq_true rfl⟩) (wp_V (hK.sub (tys' := []) [] rfl) (hP.sub (ws' := [(h0, .inr (0, [.long f0, .long f1, .long f2, .long f3, .long f4, .long f5]))]) [0] rfl) (hD.sub (ws' := [(h0, .inr (0, [.long f0, .long f1, .long f2, .long f3, .long f4, .long f5]))]) [0] (by decide) rfl)  rfl rfl) rfl rfl hl.1 rfl (lv_room (Nat.le_of_ble_eq_true rfl)) dX1_multiply_134 ⟨Nat.le_of_ble_eq_true rfl, Nat.le_of_ble_eq_true rfl⟩) hP hD hS hA [0] [] [0] rfl rfl rfl (by decide) rfl rfl (fun H locs hP hD hS => ?_)
          have es : (s_X1_multiply f0 f1 f2 f3) = ((pl_min (pl_min (f0 * f2) (f0 * f3)) (pl_min (f1 * f2) (f1 * f3))), (pl_max (pl_max (f0 * f2) (f0 * f3)) (pl_max (f1 * f2) (f1 * f3)))) := by unfold s_X1_multiply; rw [if_neg c1, if_neg c2, if_neg c3, if_neg c4]
          exact W.vret hx hb hr (fun t ht hW => by rw [es]; exact ⟨rfl, by rw [ht]; exact hP, hD, hS.F ht⟩) hS.2.2 dX1_multiply_137
        · refine lv_aload_n hx hb dX1_multiply_56 rfl (lv_at hl 0 rfl) ?_
          refine wq_callv (wc := [(h0, .inr (0, [.long f0, .long f1, .long f2, .long f3, .long f4, .long f5]))]) (wr := []) (w2 := [(h0, .inr (0, [.long f0, .long f1, .long f2, .long f3, .long (-9223372036854775808 : Int64), .long (9223372036854775807 : Int64)]))]) (va_runV (As := []) (rest := []) ⟨hx, hb, hml, hown, hts⟩ (c_X1_tellAll l dC dI h0 s.heap.size f0 f1 f2 f3 f4 f5) (cwV 0 hts gX1_multiply_X1_tellAll rfl rfl rfl ydV_X1_tellAll ⟨Nat.le_of_ble_eq_true rfl, Nat.le_of_ble_eq_true rfl⟩) (wp_V (hK.sub (tys' := []) [] rfl) (hP.sub (ws' := [(h0, .inr (0, [.long f0, .long f1, .long f2, .long f3, .long f4, .long f5]))]) [0] rfl) (hD.sub (ws' := [(h0, .inr (0, [.long f0, .long f1, .long f2, .long f3, .long f4, .long f5]))]) [0] (by decide) rfl)  rfl rfl) rfl rfl hl.1 rfl (lv_room (Nat.le_of_ble_eq_true rfl)) dX1_multiply_57 ⟨Nat.le_of_ble_eq_true rfl, Nat.le_of_ble_eq_true rfl⟩) hP hD hS hA [0] [] [0] rfl rfl rfl (by decide) rfl rfl (fun H locs hP hD hS => ?_)
          have es : (s_X1_multiply f0 f1 f2 f3) = ((-9223372036854775808 : Int64), (9223372036854775807 : Int64)) := by unfold s_X1_multiply; rw [if_neg c1, if_neg c2, if_neg c3, if_pos c4]
          exact W.vret hx hb hr (fun t ht hW => by rw [es]; exact ⟨rfl, by rw [ht]; exact hP, hD, hS.F ht⟩) hS.2.2 dX1_multiply_60

def s_X1_divide (f0 : Int64) (f1 : Int64) (f2 : Int64) (f3 : Int64) : Int64 × Int64 :=
  if f0 < (0 : Int64) then ((-9223372036854775808 : Int64), (9223372036854775807 : Int64))
  else if (0 : Int64) < f2 then ((s_X0_divide f0 f3), (s_X0_divide f1 f2))
  else if f2 < (0 : Int64) then ((-9223372036854775808 : Int64), (9223372036854775807 : Int64))
  else ((0 : Int64), f1)
set_option maxHeartbeats 4000000 in
set_option maxRecDepth 100000 in
theorem c_X1_divide (l : Launch) (dC : Nat → ClassId) (dI : Nat → Nat → Nat) (h0 sz : Nat) (f0 : Int64) (f1 : Int64) (f2 : Int64) (f3 : Int64) (f4 : Int64) (f5 : Int64) : Met l yX1_divide wsX1_divide ({ frames := 2, cells := 0, slots := 0, locals := 48 }) (wp9 (dC, dI) vwCl [] [.ref h0] sz [(h0, .inr (0, [.long f0, .long f1, .long f2, .long f3, .long f4, .long f5]))]) (wq none (dC, dI) vwCl [(h0, .inr (0, [.long f0, .long f1, .long f2, .long f3, .long ((s_X1_divide f0 f1 f2 f3).1), .long ((s_X1_divide f0 f1 f2 f3).2)]))] (va_A [(h0, .inr (0, [.long f0, .long f1, .long f2, .long f3, .long f4, .long f5]))] sz)) 0 0 (va_A [(h0, .inr (0, [.long f0, .long f1, .long f2, .long f3, .long f4, .long f5]))] sz) := by
  refine Met.ofW (cc := cX1_divide) (maxL := 1) (ret := none) (by decide) rfl ?_
  intro p e s m args below meth c s₁ B hml hv
  obtain ⟨rfl, hsz, hP, hK, hD0⟩ := hv
  have hx := B.exec
  have hb := B.bytes
  have hr := B.returns
  have hts := atoms_spec (ws := wsX1_divide) B.pre
  have hown : s.vm.findClass RX1 = some m.cls := findClass_of_methodNamed B.named
  have hlocks := B.notSynchronized
  subst hsz
  have hD := hD0.self (sz := s.heap.size)
  generalize hAe : va_A [(h0, .inr (0, [.long f0, .long f1, .long f2, .long f3, .long f4, .long f5]))] s.heap.size = A at hD ⊢
  have hA : ∀ q : Nat, s.heap.size ≤ q → A q := fun q h => by rw [← hAe]; exact Or.inr h
  have hS : va_S A s.heap s.heap [] := va_S.rf
  have hP : va_P (dC, dI) vwCl [(h0, .inr (0, [.long f0, .long f1, .long f2, .long f3, .long f4, .long f5]))] s.heap := hP
  have hl := lv_entry ([.ref h0]) (n := 1) (Nat.le_of_ble_eq_true rfl)
  rw [lg_entry_eq]
  generalize (lg_sl ([.ref h0]) ++ List.replicate (1 - (lg_sl ([.ref h0])).length) Slot.unset).toArray = ls at hl ⊢
  have hl : lv_has ls 1 [(0, .ref h0)] := hl
  have hw0 := hts (.fieldLink RX1 7 "RangeBox$Outcome" "xLow" "J") (List.mem_of_getElem? (i := 1) rfl)
  have hi_RX1 : ∀ w ∈ wsX10, w ∈ wsX1_divide := fun _ h => List.mem_cons_of_mem _ (List.mem_append_right _ h)
  have hw2 := hts (.fieldLink RX1 16 "RangeBox$Outcome" "yLow" "J") (List.mem_of_getElem? (i := 2) rfl)
  have hw3 := hts (.fieldLink RX1 13 "RangeBox$Outcome" "xHigh" "J") (List.mem_of_getElem? (i := 4) rfl)
  have hw4 := hts (.fieldLink RX1 19 "RangeBox$Outcome" "yHigh" "J") (List.mem_of_getElem? (i := 3) rfl)
  refine lv_aload_n hx hb dX1_divide_0 rfl (lv_at hl 0 rfl) ?_
  refine va_get (D := (dC, dI)) (ci := 0) (v := .long f0) (C := RX1) (T := TX1) (N := 6) hx hb hts hi_RX1 hown hK hP 0 rfl rfl 0 (by decide) hw0 (fun _ h9 => h9) rfl dX1_divide_1 ?_
  refine lv_lconst (v := (0 : Int64)) hx hb dX1_divide_4 (by decide) ?_
  refine pl_lt (tgt := 47) hx hb dX1_divide_5 dX1_divide_6 (by decide) (fun c1 => ?_) (fun c1 => ?_)
  · refine lv_aload_n hx hb dX1_divide_47 rfl (lv_at hl 0 rfl) ?_
    refine va_get (D := (dC, dI)) (ci := 0) (v := .long f0) (C := RX1) (T := TX1) (N := 6) hx hb hts hi_RX1 hown hK hP 0 rfl rfl 0 (by decide) hw0 (fun _ h9 => h9) rfl dX1_divide_48 ?_
    refine lv_lconst (v := (0 : Int64)) hx hb dX1_divide_51 (by decide) ?_
    refine pl_lt (tgt := 77) hx hb dX1_divide_52 dX1_divide_53 (by decide) (fun _ => ?_) (fun h => absurd (c1) h)
    refine lv_aload_n hx hb dX1_divide_77 rfl (lv_at hl 0 rfl) ?_
    refine wq_callv (wc := [(h0, .inr (0, [.long f0, .long f1, .long f2, .long f3, .long f4, .long f5]))]) (wr := []) (w2 := [(h0, .inr (0, [.long f0, .long f1, .long f2, .long f3, .long (-9223372036854775808 : Int64), .long (9223372036854775807 : Int64)]))]) (va_runV (As := []) (rest := []) ⟨hx, hb, hml, hown, hts⟩ (c_X1_tellAll l dC dI h0 s.heap.size f0 f1 f2 f3 f4 f5) (cwV 0 hts gX1_divide_X1_tellAll rfl rfl rfl ydV_X1_tellAll ⟨Nat.le_of_ble_eq_true rfl, Nat.le_of_ble_eq_true rfl⟩) (wp_V (hK.sub (tys' := []) [] rfl) (hP.sub (ws' := [(h0, .inr (0, [.long f0, .long f1, .long f2, .long f3, .long f4, .long f5]))]) [0] rfl) (hD.sub (ws' := [(h0, .inr (0, [.long f0, .long f1, .long f2, .long f3, .long f4, .long f5]))]) [0] (by decide) rfl)  rfl rfl) rfl rfl hl.1 rfl (lv_room (Nat.le_of_ble_eq_true rfl)) dX1_divide_78 ⟨Nat.le_of_ble_eq_true rfl, Nat.le_of_ble_eq_true rfl⟩) hP hD hS hA [0] [] [0] rfl rfl rfl (by decide) rfl rfl (fun H locs hP hD hS => ?_)
    have es : (s_X1_divide f0 f1 f2 f3) = ((-9223372036854775808 : Int64), (9223372036854775807 : Int64)) := by unfold s_X1_divide; rw [if_pos c1]
    exact W.vret hx hb hr (fun t ht hW => by rw [es]; exact ⟨rfl, by rw [ht]; exact hP, hD, hS.F ht⟩) hS.2.2 dX1_divide_81
  · refine lv_aload_n hx hb dX1_divide_9 rfl (lv_at hl 0 rfl) ?_
    refine va_get (D := (dC, dI)) (ci := 0) (v := .long f2) (C := RX1) (T := TX1) (N := 6) hx hb hts hi_RX1 hown hK hP 0 rfl rfl 2 (by decide) hw2 (fun _ h9 => h9) rfl dX1_divide_10 ?_
    refine lv_lconst (v := (0 : Int64)) hx hb dX1_divide_13 (by decide) ?_
    refine pl_le (tgt := 47) hx hb dX1_divide_14 dX1_divide_15 (by decide) (fun c2 => ?_) (fun c2 => ?_)
    · refine lv_aload_n hx hb dX1_divide_47 rfl (lv_at hl 0 rfl) ?_
      refine va_get (D := (dC, dI)) (ci := 0) (v := .long f0) (C := RX1) (T := TX1) (N := 6) hx hb hts hi_RX1 hown hK hP 0 rfl rfl 0 (by decide) hw0 (fun _ h9 => h9) rfl dX1_divide_48 ?_
      refine lv_lconst (v := (0 : Int64)) hx hb dX1_divide_51 (by decide) ?_
      refine pl_lt (tgt := 77) hx hb dX1_divide_52 dX1_divide_53 (by decide) (fun h => absurd h (c1)) (fun _ => ?_)
      refine lv_aload_n hx hb dX1_divide_56 rfl (lv_at hl 0 rfl) ?_
      refine va_get (D := (dC, dI)) (ci := 0) (v := .long f2) (C := RX1) (T := TX1) (N := 6) hx hb hts hi_RX1 hown hK hP 0 rfl rfl 2 (by decide) hw2 (fun _ h9 => h9) rfl dX1_divide_57 ?_
      refine lv_lconst (v := (0 : Int64)) hx hb dX1_divide_60 (by decide) ?_
      refine pl_lt (tgt := 77) hx hb dX1_divide_61 dX1_divide_62 (by decide) (fun c3 => ?_) (fun c3 => ?_)
      · refine lv_aload_n hx hb dX1_divide_77 rfl (lv_at hl 0 rfl) ?_
        refine wq_callv (wc := [(h0, .inr (0, [.long f0, .long f1, .long f2, .long f3, .long f4, .long f5]))]) (wr := []) (w2 := [(h0, .inr (0, [.long f0, .long f1, .long f2, .long f3, .long (-9223372036854775808 : Int64), .long (9223372036854775807 : Int64)]))]) (va_runV (As := []) (rest := []) ⟨hx, hb, hml, hown, hts⟩ (c_X1_tellAll l dC dI h0 s.heap.size f0 f1 f2 f3 f4 f5) (cwV 0 hts gX1_divide_X1_tellAll rfl rfl rfl ydV_X1_tellAll ⟨Nat.le_of_ble_eq_true rfl, Nat.le_of_ble_eq_true rfl⟩) (wp_V (hK.sub (tys' := []) [] rfl) (hP.sub (ws' := [(h0, .inr (0, [.long f0, .long f1, .long f2, .long f3, .long f4, .long f5]))]) [0] rfl) (hD.sub (ws' := [(h0, .inr (0, [.long f0, .long f1, .long f2, .long f3, .long f4, .long f5]))]) [0] (by decide) rfl)  rfl rfl) rfl rfl hl.1 rfl (lv_room (Nat.le_of_ble_eq_true rfl)) dX1_divide_78 ⟨Nat.le_of_ble_eq_true rfl, Nat.le_of_ble_eq_true rfl⟩) hP hD hS hA [0] [] [0] rfl rfl rfl (by decide) rfl rfl (fun H locs hP hD hS => ?_)
        have es : (s_X1_divide f0 f1 f2 f3) = ((-9223372036854775808 : Int64), (9223372036854775807 : Int64)) := by unfold s_X1_divide; rw [if_neg c1, if_neg c2, if_pos c3]
        exact W.vret hx hb hr (fun t ht hW => by rw [es]; exact ⟨rfl, by rw [ht]; exact hP, hD, hS.F ht⟩) hS.2.2 dX1_divide_81
      · refine lv_aload_n hx hb dX1_divide_65 rfl (lv_at hl 0 rfl) ?_
        refine lv_lconst (v := (0 : Int64)) hx hb dX1_divide_66 (by decide) ?_
        refine lv_aload_n hx hb dX1_divide_67 rfl (lv_at hl 0 rfl) ?_
        refine va_get (D := (dC, dI)) (ci := 0) (v := .long f1) (C := RX1) (T := TX1) (N := 6) hx hb hts hi_RX1 hown hK hP 0 rfl rfl 1 (by decide) hw3 (fun _ h9 => h9) rfl dX1_divide_68 ?_
        refine wq_callv (wc := [(h0, .inr (0, [.long f0, .long f1, .long f2, .long f3, .long f4, .long f5]))]) (wr := []) (w2 := [(h0, .inr (0, [.long f0, .long f1, .long f2, .long f3, .long (0 : Int64), .long f1]))]) (va_runV (As := [.long (0 : Int64), .long f1]) (rest := []) ⟨hx, hb, hml, hown, hts⟩ (c_X1_tell l dC dI h0 s.heap.size f0 f1 f2 f3 f4 f5 (0 : Int64) f1) (cwV 2 hts gX1_divide_X1_tell rfl rfl rfl ydV_X1_tell ⟨Nat.le_of_ble_eq_true rfl, Nat.le_of_ble_eq_true rfl⟩) (wp_V (hK.sub (tys' := []) [] rfl) (hP.sub (ws' := [(h0, .inr (0, [.long f0, .long f1, .long f2, .long f3, .long f4, .long f5]))]) [0] rfl) (hD.sub (ws' := [(h0, .inr (0, [.long f0, .long f1, .long f2, .long f3, .long f4, .long f5]))]) [0] (by decide) rfl)  rfl rfl) rfl rfl hl.1 rfl (lv_room (Nat.le_of_ble_eq_true rfl)) dX1_divide_71 ⟨Nat.le_of_ble_eq_true rfl, Nat.le_of_ble_eq_true rfl⟩) hP hD hS hA [0] [] [0] rfl rfl rfl (by decide) rfl rfl (fun H locs hP hD hS => ?_)
        refine lv_goto (tgt := 81) hx hb dX1_divide_74 (by decide) ?_
        have es : (s_X1_divide f0 f1 f2 f3) = ((0 : Int64), f1) := by unfold s_X1_divide; rw [if_neg c1, if_neg c2, if_neg c3]
        exact W.vret hx hb hr (fun t ht hW => by rw [es]; exact ⟨rfl, by rw [ht]; exact hP, hD, hS.F ht⟩) hS.2.2 dX1_divide_81
    · refine lv_aload_n hx hb dX1_divide_18 rfl (lv_at hl 0 rfl) ?_
      refine lv_aload_n hx hb dX1_divide_19 rfl (lv_at hl 0 rfl) ?_
      refine va_get (D := (dC, dI)) (ci := 0) (v := .long f0) (C := RX1) (T := TX1) (N := 6) hx hb hts hi_RX1 hown hK hP 0 rfl rfl 0 (by decide) hw0 (fun _ h9 => h9) rfl dX1_divide_20 ?_
      refine lv_aload_n hx hb dX1_divide_23 rfl (lv_at hl 0 rfl) ?_
      refine va_get (D := (dC, dI)) (ci := 0) (v := .long f3) (C := RX1) (T := TX1) (N := 6) hx hb hts hi_RX1 hown hK hP 0 rfl rfl 3 (by decide) hw4 (fun _ h9 => h9) rfl dX1_divide_24 ?_
      refine pq_calll (va_runS (As := [.long f0, .long f3]) (rest := [.ref h0]) ⟨hx, hb, hml, hown, hts⟩ (c_X0_divide l f0 f3) (va_cwS 2 hts gX1_divide_X0_divide rfl rfl rfl ydS_X0_divide ⟨Nat.le_of_ble_eq_true rfl, Nat.le_of_ble_eq_true rfl⟩) ap_S rfl rfl hl.1 rfl (lv_room (Nat.le_of_ble_eq_true rfl)) dX1_divide_27 ⟨Nat.le_of_ble_eq_true rfl, Nat.le_of_ble_eq_true rfl⟩) ?_
      refine lv_aload_n hx hb dX1_divide_30 rfl (lv_at hl 0 rfl) ?_
      refine va_get (D := (dC, dI)) (ci := 0) (v := .long f1) (C := RX1) (T := TX1) (N := 6) hx hb hts hi_RX1 hown hK hP 0 rfl rfl 1 (by decide) hw3 (fun _ h9 => h9) rfl dX1_divide_31 ?_
      refine lv_aload_n hx hb dX1_divide_34 rfl (lv_at hl 0 rfl) ?_
      refine va_get (D := (dC, dI)) (ci := 0) (v := .long f2) (C := RX1) (T := TX1) (N := 6) hx hb hts hi_RX1 hown hK hP 0 rfl rfl 2 (by decide) hw2 (fun _ h9 => h9) rfl dX1_divide_35 ?_
      refine pq_calll (va_runS (As := [.long f1, .long f2]) (rest := [.long (s_X0_divide f0 f3), .ref h0]) ⟨hx, hb, hml, hown, hts⟩ (c_X0_divide l f1 f2) (va_cwS 2 hts gX1_divide_X0_divide rfl rfl rfl ydS_X0_divide ⟨Nat.le_of_ble_eq_true rfl, Nat.le_of_ble_eq_true rfl⟩) ap_S rfl rfl hl.1 rfl (lv_room (Nat.le_of_ble_eq_true rfl)) dX1_divide_38 ⟨Nat.le_of_ble_eq_true rfl, Nat.le_of_ble_eq_true rfl⟩) ?_
      refine wq_callv (wc := [(h0, .inr (0, [.long f0, .long f1, .long f2, .long f3, .long f4, .long f5]))]) (wr := []) (w2 := [(h0, .inr (0, [.long f0, .long f1, .long f2, .long f3, .long (s_X0_divide f0 f3), .long (s_X0_divide f1 f2)]))]) (va_runV (As := [.long (s_X0_divide f0 f3), .long (s_X0_divide f1 f2)]) (rest := []) ⟨hx, hb, hml, hown, hts⟩ (c_X1_tell l dC dI h0 s.heap.size f0 f1 f2 f3 f4 f5 (s_X0_divide f0 f3) (s_X0_divide f1 f2)) (cwV 2 hts gX1_divide_X1_tell rfl rfl rfl ydV_X1_tell ⟨Nat.le_of_ble_eq_true rfl, Nat.le_of_ble_eq_true rfl⟩) (wp_V (hK.sub (tys' := []) [] rfl) (hP.sub (ws' := [(h0, .inr (0, [.long f0, .long f1, .long f2, .long f3, .long f4, .long f5]))]) [0] rfl) (hD.sub (ws' := [(h0, .inr (0, [.long f0, .long f1, .long f2, .long f3, .long f4, .long f5]))]) [0] (by decide) rfl)  rfl rfl) rfl rfl hl.1 rfl (lv_room (Nat.le_of_ble_eq_true rfl)) dX1_divide_41 ⟨Nat.le_of_ble_eq_true rfl, Nat.le_of_ble_eq_true rfl⟩) hP hD hS hA [0] [] [0] rfl rfl rfl (by decide) rfl rfl (fun H locs hP hD hS => ?_)
      refine lv_goto (tgt := 81) hx hb dX1_divide_44 (by decide) ?_
      have es : (s_X1_divide f0 f1 f2 f3) = ((s_X0_divide f0 f3), (s_X0_divide f1 f2)) := by unfold s_X1_divide; rw [if_neg c1, if_pos c2]
      exact W.vret hx hb hr (fun t ht hW => by rw [es]; exact ⟨rfl, by rw [ht]; exact hP, hD, hS.F ht⟩) hS.2.2 dX1_divide_81

def s_X1_rest (f0 : Int64) (f1 : Int64) (f2 : Int64) (f3 : Int64) : Int64 × Int64 :=
  if f0 < (0 : Int64) then ((-9223372036854775808 : Int64), (9223372036854775807 : Int64))
  else if (0 : Int64) < f2 then ((0 : Int64), (pl_min f1 (f3 - (1 : Int64))))
  else if f2 < (0 : Int64) then ((-9223372036854775808 : Int64), (9223372036854775807 : Int64))
  else ((0 : Int64), f1)
set_option maxHeartbeats 4000000 in
set_option maxRecDepth 100000 in
theorem c_X1_rest (l : Launch) (dC : Nat → ClassId) (dI : Nat → Nat → Nat) (h0 sz : Nat) (f0 : Int64) (f1 : Int64) (f2 : Int64) (f3 : Int64) (f4 : Int64) (f5 : Int64) : Met l yX1_rest wsX1_rest ({ frames := 2, cells := 0, slots := 0, locals := 44 }) (wp9 (dC, dI) vwCl [] [.ref h0] sz [(h0, .inr (0, [.long f0, .long f1, .long f2, .long f3, .long f4, .long f5]))]) (wq none (dC, dI) vwCl [(h0, .inr (0, [.long f0, .long f1, .long f2, .long f3, .long ((s_X1_rest f0 f1 f2 f3).1), .long ((s_X1_rest f0 f1 f2 f3).2)]))] (va_A [(h0, .inr (0, [.long f0, .long f1, .long f2, .long f3, .long f4, .long f5]))] sz)) 0 0 (va_A [(h0, .inr (0, [.long f0, .long f1, .long f2, .long f3, .long f4, .long f5]))] sz) := by
  refine Met.ofW (cc := cX1_rest) (maxL := 1) (ret := none) (by decide) rfl ?_
  intro p e s m args below meth c s₁ B hml hv
  obtain ⟨rfl, hsz, hP, hK, hD0⟩ := hv
  have hx := B.exec
  have hb := B.bytes
  have hr := B.returns
  have hts := atoms_spec (ws := wsX1_rest) B.pre
  have hown : s.vm.findClass RX1 = some m.cls := findClass_of_methodNamed B.named
  have hlocks := B.notSynchronized
  subst hsz
  have hD := hD0.self (sz := s.heap.size)
  generalize hAe : va_A [(h0, .inr (0, [.long f0, .long f1, .long f2, .long f3, .long f4, .long f5]))] s.heap.size = A at hD ⊢
  have hA : ∀ q : Nat, s.heap.size ≤ q → A q := fun q h => by rw [← hAe]; exact Or.inr h
  have hS : va_S A s.heap s.heap [] := va_S.rf
  have hP : va_P (dC, dI) vwCl [(h0, .inr (0, [.long f0, .long f1, .long f2, .long f3, .long f4, .long f5]))] s.heap := hP
  have hl := lv_entry ([.ref h0]) (n := 1) (Nat.le_of_ble_eq_true rfl)
  rw [lg_entry_eq]
  generalize (lg_sl ([.ref h0]) ++ List.replicate (1 - (lg_sl ([.ref h0])).length) Slot.unset).toArray = ls at hl ⊢
  have hl : lv_has ls 1 [(0, .ref h0)] := hl
  have hw0 := hts (.fieldLink RX1 7 "RangeBox$Outcome" "xLow" "J") (List.mem_of_getElem? (i := 1) rfl)
  have hi_RX1 : ∀ w ∈ wsX10, w ∈ wsX1_rest := fun _ h => List.mem_cons_of_mem _ (List.mem_append_right _ h)
  have hw2 := hts (.fieldLink RX1 16 "RangeBox$Outcome" "yLow" "J") (List.mem_of_getElem? (i := 2) rfl)
  have hw3 := hts (.fieldLink RX1 13 "RangeBox$Outcome" "xHigh" "J") (List.mem_of_getElem? (i := 3) rfl)
  have hw4 := hts (.fieldLink RX1 19 "RangeBox$Outcome" "yHigh" "J") (List.mem_of_getElem? (i := 4) rfl)
  have hw5 := hts (.methodLink RX1 119 Lib.MathLoose.min_long.x) (List.mem_of_getElem? (i := 5) rfl)
  have hw6 := hts (.static Lib.MathLoose.min_long.x) (List.mem_of_getElem? (i := 6) rfl)
  have hw7 := hts (.initialized "java/lang/Math") (List.mem_of_getElem? (i := 7) rfl)
  have hw8 := hts (.code Lib.MathLoose.min_long.x Lib.MathLoose.min_long.code 4 (some .long)) (List.mem_of_getElem? (i := 8) rfl)
  refine lv_aload_n hx hb dX1_rest_0 rfl (lv_at hl 0 rfl) ?_
  refine va_get (D := (dC, dI)) (ci := 0) (v := .long f0) (C := RX1) (T := TX1) (N := 6) hx hb hts hi_RX1 hown hK hP 0 rfl rfl 0 (by decide) hw0 (fun _ h9 => h9) rfl dX1_rest_1 ?_
  refine lv_lconst (v := (0 : Int64)) hx hb dX1_rest_4 (by decide) ?_
  refine pl_lt (tgt := 39) hx hb dX1_rest_5 dX1_rest_6 (by decide) (fun c1 => ?_) (fun c1 => ?_)
  · refine lv_aload_n hx hb dX1_rest_39 rfl (lv_at hl 0 rfl) ?_
    refine va_get (D := (dC, dI)) (ci := 0) (v := .long f0) (C := RX1) (T := TX1) (N := 6) hx hb hts hi_RX1 hown hK hP 0 rfl rfl 0 (by decide) hw0 (fun _ h9 => h9) rfl dX1_rest_40 ?_
    refine lv_lconst (v := (0 : Int64)) hx hb dX1_rest_43 (by decide) ?_
    refine pl_lt (tgt := 69) hx hb dX1_rest_44 dX1_rest_45 (by decide) (fun _ => ?_) (fun h => absurd (c1) h)
    refine lv_aload_n hx hb dX1_rest_69 rfl (lv_at hl 0 rfl) ?_
    refine wq_callv (wc := [(h0, .inr (0, [.long f0, .long f1, .long f2, .long f3, .long f4, .long f5]))]) (wr := []) (w2 := [(h0, .inr (0, [.long f0, .long f1, .long f2, .long f3, .long (-9223372036854775808 : Int64), .long (9223372036854775807 : Int64)]))]) (va_runV (As := []) (rest := []) ⟨hx, hb, hml, hown, hts⟩ (c_X1_tellAll l dC dI h0 s.heap.size f0 f1 f2 f3 f4 f5) (cwV 0 hts gX1_rest_X1_tellAll rfl rfl rfl ydV_X1_tellAll ⟨Nat.le_of_ble_eq_true rfl, Nat.le_of_ble_eq_true rfl⟩) (wp_V (hK.sub (tys' := []) [] rfl) (hP.sub (ws' := [(h0, .inr (0, [.long f0, .long f1, .long f2, .long f3, .long f4, .long f5]))]) [0] rfl) (hD.sub (ws' := [(h0, .inr (0, [.long f0, .long f1, .long f2, .long f3, .long f4, .long f5]))]) [0] (by decide) rfl)  rfl rfl) rfl rfl hl.1 rfl (lv_room (Nat.le_of_ble_eq_true rfl)) dX1_rest_70 ⟨Nat.le_of_ble_eq_true rfl, Nat.le_of_ble_eq_true rfl⟩) hP hD hS hA [0] [] [0] rfl rfl rfl (by decide) rfl rfl (fun H locs hP hD hS => ?_)
    have es : (s_X1_rest f0 f1 f2 f3) = ((-9223372036854775808 : Int64), (9223372036854775807 : Int64)) := by unfold s_X1_rest; rw [if_pos c1]
    exact W.vret hx hb hr (fun t ht hW => by rw [es]; exact ⟨rfl, by rw [ht]; exact hP, hD, hS.F ht⟩) hS.2.2 dX1_rest_73
  · refine lv_aload_n hx hb dX1_rest_9 rfl (lv_at hl 0 rfl) ?_
    refine va_get (D := (dC, dI)) (ci := 0) (v := .long f2) (C := RX1) (T := TX1) (N := 6) hx hb hts hi_RX1 hown hK hP 0 rfl rfl 2 (by decide) hw2 (fun _ h9 => h9) rfl dX1_rest_10 ?_
    refine lv_lconst (v := (0 : Int64)) hx hb dX1_rest_13 (by decide) ?_
    refine pl_le (tgt := 39) hx hb dX1_rest_14 dX1_rest_15 (by decide) (fun c2 => ?_) (fun c2 => ?_)
    · refine lv_aload_n hx hb dX1_rest_39 rfl (lv_at hl 0 rfl) ?_
      refine va_get (D := (dC, dI)) (ci := 0) (v := .long f0) (C := RX1) (T := TX1) (N := 6) hx hb hts hi_RX1 hown hK hP 0 rfl rfl 0 (by decide) hw0 (fun _ h9 => h9) rfl dX1_rest_40 ?_
      refine lv_lconst (v := (0 : Int64)) hx hb dX1_rest_43 (by decide) ?_
      refine pl_lt (tgt := 69) hx hb dX1_rest_44 dX1_rest_45 (by decide) (fun h => absurd h (c1)) (fun _ => ?_)
      refine lv_aload_n hx hb dX1_rest_48 rfl (lv_at hl 0 rfl) ?_
      refine va_get (D := (dC, dI)) (ci := 0) (v := .long f2) (C := RX1) (T := TX1) (N := 6) hx hb hts hi_RX1 hown hK hP 0 rfl rfl 2 (by decide) hw2 (fun _ h9 => h9) rfl dX1_rest_49 ?_
      refine lv_lconst (v := (0 : Int64)) hx hb dX1_rest_52 (by decide) ?_
      refine pl_lt (tgt := 69) hx hb dX1_rest_53 dX1_rest_54 (by decide) (fun c3 => ?_) (fun c3 => ?_)
      · refine lv_aload_n hx hb dX1_rest_69 rfl (lv_at hl 0 rfl) ?_
        refine wq_callv (wc := [(h0, .inr (0, [.long f0, .long f1, .long f2, .long f3, .long f4, .long f5]))]) (wr := []) (w2 := [(h0, .inr (0, [.long f0, .long f1, .long f2, .long f3, .long (-9223372036854775808 : Int64), .long (9223372036854775807 : Int64)]))]) (va_runV (As := []) (rest := []) ⟨hx, hb, hml, hown, hts⟩ (c_X1_tellAll l dC dI h0 s.heap.size f0 f1 f2 f3 f4 f5) (cwV 0 hts gX1_rest_X1_tellAll rfl rfl rfl ydV_X1_tellAll ⟨Nat.le_of_ble_eq_true rfl, Nat.le_of_ble_eq_true rfl⟩) (wp_V (hK.sub (tys' := []) [] rfl) (hP.sub (ws' := [(h0, .inr (0, [.long f0, .long f1, .long f2, .long f3, .long f4, .long f5]))]) [0] rfl) (hD.sub (ws' := [(h0, .inr (0, [.long f0, .long f1, .long f2, .long f3, .long f4, .long f5]))]) [0] (by decide) rfl)  rfl rfl) rfl rfl hl.1 rfl (lv_room (Nat.le_of_ble_eq_true rfl)) dX1_rest_70 ⟨Nat.le_of_ble_eq_true rfl, Nat.le_of_ble_eq_true rfl⟩) hP hD hS hA [0] [] [0] rfl rfl rfl (by decide) rfl rfl (fun H locs hP hD hS => ?_)
        have es : (s_X1_rest f0 f1 f2 f3) = ((-9223372036854775808 : Int64), (9223372036854775807 : Int64)) := by unfold s_X1_rest; rw [if_neg c1, if_neg c2, if_pos c3]
        exact W.vret hx hb hr (fun t ht hW => by rw [es]; exact ⟨rfl, by rw [ht]; exact hP, hD, hS.F ht⟩) hS.2.2 dX1_rest_73
      · refine lv_aload_n hx hb dX1_rest_57 rfl (lv_at hl 0 rfl) ?_
        refine lv_lconst (v := (0 : Int64)) hx hb dX1_rest_58 (by decide) ?_
        refine lv_aload_n hx hb dX1_rest_59 rfl (lv_at hl 0 rfl) ?_
        refine va_get (D := (dC, dI)) (ci := 0) (v := .long f1) (C := RX1) (T := TX1) (N := 6) hx hb hts hi_RX1 hown hK hP 0 rfl rfl 1 (by decide) hw3 (fun _ h9 => h9) rfl dX1_rest_60 ?_
        refine wq_callv (wc := [(h0, .inr (0, [.long f0, .long f1, .long f2, .long f3, .long f4, .long f5]))]) (wr := []) (w2 := [(h0, .inr (0, [.long f0, .long f1, .long f2, .long f3, .long (0 : Int64), .long f1]))]) (va_runV (As := [.long (0 : Int64), .long f1]) (rest := []) ⟨hx, hb, hml, hown, hts⟩ (c_X1_tell l dC dI h0 s.heap.size f0 f1 f2 f3 f4 f5 (0 : Int64) f1) (cwV 2 hts gX1_rest_X1_tell rfl rfl rfl ydV_X1_tell ⟨Nat.le_of_ble_eq_true rfl, Nat.le_of_ble_eq_true rfl⟩) (wp_V (hK.sub (tys' := []) [] rfl) (hP.sub (ws' := [(h0, .inr (0, [.long f0, .long f1, .long f2, .long f3, .long f4, .long f5]))]) [0] rfl) (hD.sub (ws' := [(h0, .inr (0, [.long f0, .long f1, .long f2, .long f3, .long f4, .long f5]))]) [0] (by decide) rfl)  rfl rfl) rfl rfl hl.1 rfl (lv_room (Nat.le_of_ble_eq_true rfl)) dX1_rest_63 ⟨Nat.le_of_ble_eq_true rfl, Nat.le_of_ble_eq_true rfl⟩) hP hD hS hA [0] [] [0] rfl rfl rfl (by decide) rfl rfl (fun H locs hP hD hS => ?_)
        refine lv_goto (tgt := 73) hx hb dX1_rest_66 (by decide) ?_
        have es : (s_X1_rest f0 f1 f2 f3) = ((0 : Int64), f1) := by unfold s_X1_rest; rw [if_neg c1, if_neg c2, if_neg c3]
        exact W.vret hx hb hr (fun t ht hW => by rw [es]; exact ⟨rfl, by rw [ht]; exact hP, hD, hS.F ht⟩) hS.2.2 dX1_rest_73
    · refine lv_aload_n hx hb dX1_rest_18 rfl (lv_at hl 0 rfl) ?_
      refine lv_lconst (v := (0 : Int64)) hx hb dX1_rest_19 (by decide) ?_
      refine lv_aload_n hx hb dX1_rest_20 rfl (lv_at hl 0 rfl) ?_
      refine va_get (D := (dC, dI)) (ci := 0) (v := .long f1) (C := RX1) (T := TX1) (N := 6) hx hb hts hi_RX1 hown hK hP 0 rfl rfl 1 (by decide) hw3 (fun _ h9 => h9) rfl dX1_rest_21 ?_
      refine lv_aload_n hx hb dX1_rest_24 rfl (lv_at hl 0 rfl) ?_
      refine va_get (D := (dC, dI)) (ci := 0) (v := .long f3) (C := RX1) (T := TX1) (N := 6) hx hb hts hi_RX1 hown hK hP 0 rfl rfl 3 (by decide) hw4 (fun _ h9 => h9) rfl dX1_rest_25 ?_
      refine lv_lconst (v := (1 : Int64)) hx hb dX1_rest_28 (by decide) ?_
      refine lv_lsub hx hb dX1_rest_29 ?_
      refine pm_min hx hb (hml.trans hl.1.symm) hown hw5 hw6 hw7 hw8 (Nat.le_of_ble_eq_true rfl) (Nat.le_of_ble_eq_true rfl) (Nat.le_of_ble_eq_true rfl) (Nat.le_of_ble_eq_true rfl) dX1_rest_30 ?_
      refine wq_callv (wc := [(h0, .inr (0, [.long f0, .long f1, .long f2, .long f3, .long f4, .long f5]))]) (wr := []) (w2 := [(h0, .inr (0, [.long f0, .long f1, .long f2, .long f3, .long (0 : Int64), .long (pl_min f1 (f3 - (1 : Int64)))]))]) (va_runV (As := [.long (0 : Int64), .long (pl_min f1 (f3 - (1 : Int64)))]) (rest := []) ⟨hx, hb, hml, hown, hts⟩ (c_X1_tell l dC dI h0 s.heap.size f0 f1 f2 f3 f4 f5 (0 : Int64) (pl_min f1 (f3 - (1 : Int64)))) (cwV 2 hts gX1_rest_X1_tell rfl rfl rfl ydV_X1_tell ⟨Nat.le_of_ble_eq_true rfl, Nat.le_of_ble_eq_true rfl⟩) (wp_V (hK.sub (tys' := []) [] rfl) (hP.sub (ws' := [(h0, .inr (0, [.long f0, .long f1, .long f2, .long f3, .long f4, .long f5]))]) [0] rfl) (hD.sub (ws' := [(h0, .inr (0, [.long f0, .long f1, .long f2, .long f3, .long f4, .long f5]))]) [0] (by decide) rfl)  rfl rfl) rfl rfl hl.1 rfl (lv_room (Nat.le_of_ble_eq_true rfl)) dX1_rest_33 ⟨Nat.le_of_ble_eq_true rfl, Nat.le_of_ble_eq_true rfl⟩) hP hD hS hA [0] [] [0] rfl rfl rfl (by decide) rfl rfl (fun H locs hP hD hS => ?_)
      refine lv_goto (tgt := 73) hx hb dX1_rest_36 (by decide) ?_
      have es : (s_X1_rest f0 f1 f2 f3) = ((0 : Int64), (pl_min f1 (f3 - (1 : Int64)))) := by unfold s_X1_rest; rw [if_neg c1, if_pos c2]
      exact W.vret hx hb hr (fun t ht hW => by rw [es]; exact ⟨rfl, by rw [ht]; exact hP, hD, hS.F ht⟩) hS.2.2 dX1_rest_73

def s_X1_and (f0 : Int64) (f1 : Int64) (f2 : Int64) (f3 : Int64) : Int64 × Int64 :=
  if f0 < (0 : Int64) then (if f2 < (0 : Int64) then ((-9223372036854775808 : Int64), (9223372036854775807 : Int64))
    else ((0 : Int64), f3))
  else if f2 < (0 : Int64) then ((0 : Int64), f1)
  else ((0 : Int64), (pl_min f1 f3))
set_option maxHeartbeats 4000000 in
set_option maxRecDepth 100000 in
theorem c_X1_and (l : Launch) (dC : Nat → ClassId) (dI : Nat → Nat → Nat) (h0 sz : Nat) (f0 : Int64) (f1 : Int64) (f2 : Int64) (f3 : Int64) (f4 : Int64) (f5 : Int64) : Met l yX1_and wsX1_and ({ frames := 2, cells := 0, slots := 0, locals := 44 }) (wp9 (dC, dI) vwCl [] [.ref h0] sz [(h0, .inr (0, [.long f0, .long f1, .long f2, .long f3, .long f4, .long f5]))]) (wq none (dC, dI) vwCl [(h0, .inr (0, [.long f0, .long f1, .long f2, .long f3, .long ((s_X1_and f0 f1 f2 f3).1), .long ((s_X1_and f0 f1 f2 f3).2)]))] (va_A [(h0, .inr (0, [.long f0, .long f1, .long f2, .long f3, .long f4, .long f5]))] sz)) 0 0 (va_A [(h0, .inr (0, [.long f0, .long f1, .long f2, .long f3, .long f4, .long f5]))] sz) := by
  refine Met.ofW (cc := cX1_and) (maxL := 1) (ret := none) (by decide) rfl ?_
  intro p e s m args below meth c s₁ B hml hv
  obtain ⟨rfl, hsz, hP, hK, hD0⟩ := hv
  have hx := B.exec
  have hb := B.bytes
  have hr := B.returns
  have hts := atoms_spec (ws := wsX1_and) B.pre
  have hown : s.vm.findClass RX1 = some m.cls := findClass_of_methodNamed B.named
  have hlocks := B.notSynchronized
  subst hsz
  have hD := hD0.self (sz := s.heap.size)
  generalize hAe : va_A [(h0, .inr (0, [.long f0, .long f1, .long f2, .long f3, .long f4, .long f5]))] s.heap.size = A at hD ⊢
  have hA : ∀ q : Nat, s.heap.size ≤ q → A q := fun q h => by rw [← hAe]; exact Or.inr h
  have hS : va_S A s.heap s.heap [] := va_S.rf
  have hP : va_P (dC, dI) vwCl [(h0, .inr (0, [.long f0, .long f1, .long f2, .long f3, .long f4, .long f5]))] s.heap := hP
  have hl := lv_entry ([.ref h0]) (n := 1) (Nat.le_of_ble_eq_true rfl)
  rw [lg_entry_eq]
  generalize (lg_sl ([.ref h0]) ++ List.replicate (1 - (lg_sl ([.ref h0])).length) Slot.unset).toArray = ls at hl ⊢
  have hl : lv_has ls 1 [(0, .ref h0)] := hl
  have hw0 := hts (.fieldLink RX1 7 "RangeBox$Outcome" "xLow" "J") (List.mem_of_getElem? (i := 1) rfl)
  have hi_RX1 : ∀ w ∈ wsX10, w ∈ wsX1_and := fun _ h => List.mem_cons_of_mem _ (List.mem_append_right _ h)
  have hw2 := hts (.fieldLink RX1 16 "RangeBox$Outcome" "yLow" "J") (List.mem_of_getElem? (i := 2) rfl)
  have hw3 := hts (.fieldLink RX1 19 "RangeBox$Outcome" "yHigh" "J") (List.mem_of_getElem? (i := 4) rfl)
  have hw4 := hts (.fieldLink RX1 13 "RangeBox$Outcome" "xHigh" "J") (List.mem_of_getElem? (i := 3) rfl)
  have hw5 := hts (.methodLink RX1 119 Lib.MathLoose.min_long.x) (List.mem_of_getElem? (i := 5) rfl)
  have hw6 := hts (.static Lib.MathLoose.min_long.x) (List.mem_of_getElem? (i := 6) rfl)
  have hw7 := hts (.initialized "java/lang/Math") (List.mem_of_getElem? (i := 7) rfl)
  have hw8 := hts (.code Lib.MathLoose.min_long.x Lib.MathLoose.min_long.code 4 (some .long)) (List.mem_of_getElem? (i := 8) rfl)
  refine lv_aload_n hx hb dX1_and_0 rfl (lv_at hl 0 rfl) ?_
  refine va_get (D := (dC, dI)) (ci := 0) (v := .long f0) (C := RX1) (T := TX1) (N := 6) hx hb hts hi_RX1 hown hK hP 0 rfl rfl 0 (by decide) hw0 (fun _ h9 => h9) rfl dX1_and_1 ?_
  refine lv_lconst (v := (0 : Int64)) hx hb dX1_and_4 (by decide) ?_
  refine pl_lt (tgt := 37) hx hb dX1_and_5 dX1_and_6 (by decide) (fun c1 => ?_) (fun c1 => ?_)
  · refine lv_aload_n hx hb dX1_and_37 rfl (lv_at hl 0 rfl) ?_
    refine va_get (D := (dC, dI)) (ci := 0) (v := .long f0) (C := RX1) (T := TX1) (N := 6) hx hb hts hi_RX1 hown hK hP 0 rfl rfl 0 (by decide) hw0 (fun _ h9 => h9) rfl dX1_and_38 ?_
    refine lv_lconst (v := (0 : Int64)) hx hb dX1_and_41 (by decide) ?_
    refine pl_lt (tgt := 58) hx hb dX1_and_42 dX1_and_43 (by decide) (fun _ => ?_) (fun h => absurd (c1) h)
    refine lv_aload_n hx hb dX1_and_58 rfl (lv_at hl 0 rfl) ?_
    refine va_get (D := (dC, dI)) (ci := 0) (v := .long f2) (C := RX1) (T := TX1) (N := 6) hx hb hts hi_RX1 hown hK hP 0 rfl rfl 2 (by decide) hw2 (fun _ h9 => h9) rfl dX1_and_59 ?_
    refine lv_lconst (v := (0 : Int64)) hx hb dX1_and_62 (by decide) ?_
    refine pl_lt (tgt := 79) hx hb dX1_and_63 dX1_and_64 (by decide) (fun c2 => ?_) (fun c2 => ?_)
    · refine lv_aload_n hx hb dX1_and_79 rfl (lv_at hl 0 rfl) ?_
      refine wq_callv (wc := [(h0, .inr (0, [.long f0, .long f1, .long f2, .long f3, .long f4, .long f5]))]) (wr := []) (w2 := [(h0, .inr (0, [.long f0, .long f1, .long f2, .long f3, .long (-9223372036854775808 : Int64), .long (9223372036854775807 : Int64)]))]) (va_runV (As := []) (rest := []) ⟨hx, hb, hml, hown, hts⟩ (c_X1_tellAll l dC dI h0 s.heap.size f0 f1 f2 f3 f4 f5) (cwV 0 hts gX1_and_X1_tellAll rfl rfl rfl ydV_X1_tellAll ⟨Nat.le_of_ble_eq_true rfl, Nat.le_of_ble_eq_true rfl⟩) (wp_V (hK.sub (tys' := []) [] rfl) (hP.sub (ws' := [(h0, .inr (0, [.long f0, .long f1, .long f2, .long f3, .long f4, .long f5]))]) [0] rfl) (hD.sub (ws' := [(h0, .inr (0, [.long f0, .long f1, .long f2, .long f3, .long f4, .long f5]))]) [0] (by decide) rfl)  rfl rfl) rfl rfl hl.1 rfl (lv_room (Nat.le_of_ble_eq_true rfl)) dX1_and_80 ⟨Nat.le_of_ble_eq_true rfl, Nat.le_of_ble_eq_true rfl⟩) hP hD hS hA [0] [] [0] rfl rfl rfl (by decide) rfl rfl (fun H locs hP hD hS => ?_)
      have es : (s_X1_and f0 f1 f2 f3) = ((-9223372036854775808 : Int64), (9223372036854775807 : Int64)) := by unfold s_X1_and; rw [if_pos c1, if_pos c2]
      exact W.vret hx hb hr (fun t ht hW => by rw [es]; exact ⟨rfl, by rw [ht]; exact hP, hD, hS.F ht⟩) hS.2.2 dX1_and_83
    · refine lv_aload_n hx hb dX1_and_67 rfl (lv_at hl 0 rfl) ?_
      refine lv_lconst (v := (0 : Int64)) hx hb dX1_and_68 (by decide) ?_
      refine lv_aload_n hx hb dX1_and_69 rfl (lv_at hl 0 rfl) ?_
      refine va_get (D := (dC, dI)) (ci := 0) (v := .long f3) (C := RX1) (T := TX1) (N := 6) hx hb hts hi_RX1 hown hK hP 0 rfl rfl 3 (by decide) hw3 (fun _ h9 => h9) rfl dX1_and_70 ?_
      refine wq_callv (wc := [(h0, .inr (0, [.long f0, .long f1, .long f2, .long f3, .long f4, .long f5]))]) (wr := []) (w2 := [(h0, .inr (0, [.long f0, .long f1, .long f2, .long f3, .long (0 : Int64), .long f3]))]) (va_runV (As := [.long (0 : Int64), .long f3]) (rest := []) ⟨hx, hb, hml, hown, hts⟩ (c_X1_tell l dC dI h0 s.heap.size f0 f1 f2 f3 f4 f5 (0 : Int64) f3) (cwV 2 hts gX1_and_X1_tell rfl rfl rfl ydV_X1_tell ⟨Nat.le_of_ble_eq_true rfl, Nat.le_of_ble_eq_true rfl⟩) (wp_V (hK.sub (tys' := []) [] rfl) (hP.sub (ws' := [(h0, .inr (0, [.long f0, .long f1, .long f2, .long f3, .long f4, .long f5]))]) [0] rfl) (hD.sub (ws' := [(h0, .inr (0, [.long f0, .long f1, .long f2, .long f3, .long f4, .long f5]))]) [0] (by decide) rfl)  rfl rfl) rfl rfl hl.1 rfl (lv_room (Nat.le_of_ble_eq_true rfl)) dX1_and_73 ⟨Nat.le_of_ble_eq_true rfl, Nat.le_of_ble_eq_true rfl⟩) hP hD hS hA [0] [] [0] rfl rfl rfl (by decide) rfl rfl (fun H locs hP hD hS => ?_)
      refine lv_goto (tgt := 83) hx hb dX1_and_76 (by decide) ?_
      have es : (s_X1_and f0 f1 f2 f3) = ((0 : Int64), f3) := by unfold s_X1_and; rw [if_pos c1, if_neg c2]
      exact W.vret hx hb hr (fun t ht hW => by rw [es]; exact ⟨rfl, by rw [ht]; exact hP, hD, hS.F ht⟩) hS.2.2 dX1_and_83
  · refine lv_aload_n hx hb dX1_and_9 rfl (lv_at hl 0 rfl) ?_
    refine va_get (D := (dC, dI)) (ci := 0) (v := .long f2) (C := RX1) (T := TX1) (N := 6) hx hb hts hi_RX1 hown hK hP 0 rfl rfl 2 (by decide) hw2 (fun _ h9 => h9) rfl dX1_and_10 ?_
    refine lv_lconst (v := (0 : Int64)) hx hb dX1_and_13 (by decide) ?_
    refine pl_lt (tgt := 37) hx hb dX1_and_14 dX1_and_15 (by decide) (fun c3 => ?_) (fun c3 => ?_)
    · refine lv_aload_n hx hb dX1_and_37 rfl (lv_at hl 0 rfl) ?_
      refine va_get (D := (dC, dI)) (ci := 0) (v := .long f0) (C := RX1) (T := TX1) (N := 6) hx hb hts hi_RX1 hown hK hP 0 rfl rfl 0 (by decide) hw0 (fun _ h9 => h9) rfl dX1_and_38 ?_
      refine lv_lconst (v := (0 : Int64)) hx hb dX1_and_41 (by decide) ?_
      refine pl_lt (tgt := 58) hx hb dX1_and_42 dX1_and_43 (by decide) (fun h => absurd h (c1)) (fun _ => ?_)
      refine lv_aload_n hx hb dX1_and_46 rfl (lv_at hl 0 rfl) ?_
      refine lv_lconst (v := (0 : Int64)) hx hb dX1_and_47 (by decide) ?_
      refine lv_aload_n hx hb dX1_and_48 rfl (lv_at hl 0 rfl) ?_
      refine va_get (D := (dC, dI)) (ci := 0) (v := .long f1) (C := RX1) (T := TX1) (N := 6) hx hb hts hi_RX1 hown hK hP 0 rfl rfl 1 (by decide) hw4 (fun _ h9 => h9) rfl dX1_and_49 ?_
      refine wq_callv (wc := [(h0, .inr (0, [.long f0, .long f1, .long f2, .long f3, .long f4, .long f5]))]) (wr := []) (w2 := [(h0, .inr (0, [.long f0, .long f1, .long f2, .long f3, .long (0 : Int64), .long f1]))]) (va_runV (As := [.long (0 : Int64), .long f1]) (rest := []) ⟨hx, hb, hml, hown, hts⟩ (c_X1_tell l dC dI h0 s.heap.size f0 f1 f2 f3 f4 f5 (0 : Int64) f1) (cwV 2 hts gX1_and_X1_tell rfl rfl rfl ydV_X1_tell ⟨Nat.le_of_ble_eq_true rfl, Nat.le_of_ble_eq_true rfl⟩) (wp_V (hK.sub (tys' := []) [] rfl) (hP.sub (ws' := [(h0, .inr (0, [.long f0, .long f1, .long f2, .long f3, .long f4, .long f5]))]) [0] rfl) (hD.sub (ws' := [(h0, .inr (0, [.long f0, .long f1, .long f2, .long f3, .long f4, .long f5]))]) [0] (by decide) rfl)  rfl rfl) rfl rfl hl.1 rfl (lv_room (Nat.le_of_ble_eq_true rfl)) dX1_and_52 ⟨Nat.le_of_ble_eq_true rfl, Nat.le_of_ble_eq_true rfl⟩) hP hD hS hA [0] [] [0] rfl rfl rfl (by decide) rfl rfl (fun H locs hP hD hS => ?_)
      refine lv_goto (tgt := 83) hx hb dX1_and_55 (by decide) ?_
      have es : (s_X1_and f0 f1 f2 f3) = ((0 : Int64), f1) := by unfold s_X1_and; rw [if_neg c1, if_pos c3]
      exact W.vret hx hb hr (fun t ht hW => by rw [es]; exact ⟨rfl, by rw [ht]; exact hP, hD, hS.F ht⟩) hS.2.2 dX1_and_83
    · refine lv_aload_n hx hb dX1_and_18 rfl (lv_at hl 0 rfl) ?_
      refine lv_lconst (v := (0 : Int64)) hx hb dX1_and_19 (by decide) ?_
      refine lv_aload_n hx hb dX1_and_20 rfl (lv_at hl 0 rfl) ?_
      refine va_get (D := (dC, dI)) (ci := 0) (v := .long f1) (C := RX1) (T := TX1) (N := 6) hx hb hts hi_RX1 hown hK hP 0 rfl rfl 1 (by decide) hw4 (fun _ h9 => h9) rfl dX1_and_21 ?_
      refine lv_aload_n hx hb dX1_and_24 rfl (lv_at hl 0 rfl) ?_
      refine va_get (D := (dC, dI)) (ci := 0) (v := .long f3) (C := RX1) (T := TX1) (N := 6) hx hb hts hi_RX1 hown hK hP 0 rfl rfl 3 (by decide) hw3 (fun _ h9 => h9) rfl dX1_and_25 ?_
      refine pm_min hx hb (hml.trans hl.1.symm) hown hw5 hw6 hw7 hw8 (Nat.le_of_ble_eq_true rfl) (Nat.le_of_ble_eq_true rfl) (Nat.le_of_ble_eq_true rfl) (Nat.le_of_ble_eq_true rfl) dX1_and_28 ?_
      refine wq_callv (wc := [(h0, .inr (0, [.long f0, .long f1, .long f2, .long f3, .long f4, .long f5]))]) (wr := []) (w2 := [(h0, .inr (0, [.long f0, .long f1, .long f2, .long f3, .long (0 : Int64), .long (pl_min f1 f3)]))]) (va_runV (As := [.long (0 : Int64), .long (pl_min f1 f3)]) (rest := []) ⟨hx, hb, hml, hown, hts⟩ (c_X1_tell l dC dI h0 s.heap.size f0 f1 f2 f3 f4 f5 (0 : Int64) (pl_min f1 f3)) (cwV 2 hts gX1_and_X1_tell rfl rfl rfl ydV_X1_tell ⟨Nat.le_of_ble_eq_true rfl, Nat.le_of_ble_eq_true rfl⟩) (wp_V (hK.sub (tys' := []) [] rfl) (hP.sub (ws' := [(h0, .inr (0, [.long f0, .long f1, .long f2, .long f3, .long f4, .long f5]))]) [0] rfl) (hD.sub (ws' := [(h0, .inr (0, [.long f0, .long f1, .long f2, .long f3, .long f4, .long f5]))]) [0] (by decide) rfl)  rfl rfl) rfl rfl hl.1 rfl (lv_room (Nat.le_of_ble_eq_true rfl)) dX1_and_31 ⟨Nat.le_of_ble_eq_true rfl, Nat.le_of_ble_eq_true rfl⟩) hP hD hS hA [0] [] [0] rfl rfl rfl (by decide) rfl rfl (fun H locs hP hD hS => ?_)
      refine lv_goto (tgt := 83) hx hb dX1_and_34 (by decide) ?_
      have es : (s_X1_and f0 f1 f2 f3) = ((0 : Int64), (pl_min f1 f3)) := by unfold s_X1_and; rw [if_neg c1, if_neg c3]
      exact W.vret hx hb hr (fun t ht hW => by rw [es]; exact ⟨rfl, by rw [ht]; exact hP, hD, hS.F ht⟩) hS.2.2 dX1_and_83

def s_X1_joinBits (f0 : Int64) (f1 : Int64) (f2 : Int64) (f3 : Int64) (p0 : Int64) : Int64 × Int64 :=
  if f0 < (0 : Int64) then ((-9223372036854775808 : Int64), (9223372036854775807 : Int64))
  else if f2 < (0 : Int64) then ((-9223372036854775808 : Int64), (9223372036854775807 : Int64))
  else (p0, (s_X1_allBitsUpTo (f1 ||| f3)))
set_option maxHeartbeats 4000000 in
set_option maxRecDepth 100000 in
theorem c_X1_joinBits (l : Launch) (dC : Nat → ClassId) (dI : Nat → Nat → Nat) (h0 sz : Nat) (f0 : Int64) (f1 : Int64) (f2 : Int64) (f3 : Int64) (f4 : Int64) (f5 : Int64) (p0 : Int64) : Met l yX1_joinBits wsX1_joinBits ({ frames := 2, cells := 0, slots := 0, locals := 44 }) (wp9 (dC, dI) vwCl [] [.ref h0, .long p0] sz [(h0, .inr (0, [.long f0, .long f1, .long f2, .long f3, .long f4, .long f5]))]) (wq none (dC, dI) vwCl [(h0, .inr (0, [.long f0, .long f1, .long f2, .long f3, .long ((s_X1_joinBits f0 f1 f2 f3 p0).1), .long ((s_X1_joinBits f0 f1 f2 f3 p0).2)]))] (va_A [(h0, .inr (0, [.long f0, .long f1, .long f2, .long f3, .long f4, .long f5]))] sz)) 0 0 (va_A [(h0, .inr (0, [.long f0, .long f1, .long f2, .long f3, .long f4, .long f5]))] sz) := by
  refine Met.ofW (cc := cX1_joinBits) (maxL := 3) (ret := none) (by decide) rfl ?_
  intro p e s m args below meth c s₁ B hml hv
  obtain ⟨rfl, hsz, hP, hK, hD0⟩ := hv
  have hx := B.exec
  have hb := B.bytes
  have hr := B.returns
  have hts := atoms_spec (ws := wsX1_joinBits) B.pre
  have hown : s.vm.findClass RX1 = some m.cls := findClass_of_methodNamed B.named
  have hlocks := B.notSynchronized
  subst hsz
  have hD := hD0.self (sz := s.heap.size)
  generalize hAe : va_A [(h0, .inr (0, [.long f0, .long f1, .long f2, .long f3, .long f4, .long f5]))] s.heap.size = A at hD ⊢
  have hA : ∀ q : Nat, s.heap.size ≤ q → A q := fun q h => by rw [← hAe]; exact Or.inr h
  have hS : va_S A s.heap s.heap [] := va_S.rf
  have hP : va_P (dC, dI) vwCl [(h0, .inr (0, [.long f0, .long f1, .long f2, .long f3, .long f4, .long f5]))] s.heap := hP
  have hl := lv_entry ([.ref h0, .long p0]) (n := 3) (Nat.le_of_ble_eq_true rfl)
  rw [lg_entry_eq]
  generalize (lg_sl ([.ref h0, .long p0]) ++ List.replicate (3 - (lg_sl ([.ref h0, .long p0])).length) Slot.unset).toArray = ls at hl ⊢
  have hl : lv_has ls 3 [(0, .ref h0), (1, .long p0)] := hl
  have hw0 := hts (.fieldLink RX1 7 "RangeBox$Outcome" "xLow" "J") (List.mem_of_getElem? (i := 1) rfl)
  have hi_RX1 : ∀ w ∈ wsX10, w ∈ wsX1_joinBits := fun _ h => List.mem_cons_of_mem _ (List.mem_append_right _ h)
  have hw2 := hts (.fieldLink RX1 16 "RangeBox$Outcome" "yLow" "J") (List.mem_of_getElem? (i := 2) rfl)
  have hw3 := hts (.fieldLink RX1 13 "RangeBox$Outcome" "xHigh" "J") (List.mem_of_getElem? (i := 3) rfl)
  have hw4 := hts (.fieldLink RX1 19 "RangeBox$Outcome" "yHigh" "J") (List.mem_of_getElem? (i := 4) rfl)
  refine lv_aload_n hx hb dX1_joinBits_0 rfl (lv_at hl 0 rfl) ?_
  refine va_get (D := (dC, dI)) (ci := 0) (v := .long f0) (C := RX1) (T := TX1) (N := 6) hx hb hts hi_RX1 hown hK hP 0 rfl rfl 0 (by decide) hw0 (fun _ h9 => h9) rfl dX1_joinBits_1 ?_
  refine lv_lconst (v := (0 : Int64)) hx hb dX1_joinBits_4 (by decide) ?_
  refine pl_lt (tgt := 38) hx hb dX1_joinBits_5 dX1_joinBits_6 (by decide) (fun c1 => ?_) (fun c1 => ?_)
  · refine lv_aload_n hx hb dX1_joinBits_38 rfl (lv_at hl 0 rfl) ?_
    refine wq_callv (wc := [(h0, .inr (0, [.long f0, .long f1, .long f2, .long f3, .long f4, .long f5]))]) (wr := []) (w2 := [(h0, .inr (0, [.long f0, .long f1, .long f2, .long f3, .long (-9223372036854775808 : Int64), .long (9223372036854775807 : Int64)]))]) (va_runV (As := []) (rest := []) ⟨hx, hb, hml, hown, hts⟩ (c_X1_tellAll l dC dI h0 s.heap.size f0 f1 f2 f3 f4 f5) (cwV 0 hts gX1_joinBits_X1_tellAll rfl rfl rfl ydV_X1_tellAll ⟨Nat.le_of_ble_eq_true rfl, Nat.le_of_ble_eq_true rfl⟩) (wp_V (hK.sub (tys' := []) [] rfl) (hP.sub (ws' := [(h0, .inr (0, [.long f0, .long f1, .long f2, .long f3, .long f4, .long f5]))]) [0] rfl) (hD.sub (ws' := [(h0, .inr (0, [.long f0, .long f1, .long f2, .long f3, .long f4, .long f5]))]) [0] (by decide) rfl)  rfl rfl) rfl rfl hl.1 rfl (lv_room (Nat.le_of_ble_eq_true rfl)) dX1_joinBits_39 ⟨Nat.le_of_ble_eq_true rfl, Nat.le_of_ble_eq_true rfl⟩) hP hD hS hA [0] [] [0] rfl rfl rfl (by decide) rfl rfl (fun H locs hP hD hS => ?_)
    have es : (s_X1_joinBits f0 f1 f2 f3 p0) = ((-9223372036854775808 : Int64), (9223372036854775807 : Int64)) := by unfold s_X1_joinBits; rw [if_pos c1]
    exact W.vret hx hb hr (fun t ht hW => by rw [es]; exact ⟨rfl, by rw [ht]; exact hP, hD, hS.F ht⟩) hS.2.2 dX1_joinBits_42
  · refine lv_aload_n hx hb dX1_joinBits_9 rfl (lv_at hl 0 rfl) ?_
    refine va_get (D := (dC, dI)) (ci := 0) (v := .long f2) (C := RX1) (T := TX1) (N := 6) hx hb hts hi_RX1 hown hK hP 0 rfl rfl 2 (by decide) hw2 (fun _ h9 => h9) rfl dX1_joinBits_10 ?_
    refine lv_lconst (v := (0 : Int64)) hx hb dX1_joinBits_13 (by decide) ?_
    refine pl_lt (tgt := 38) hx hb dX1_joinBits_14 dX1_joinBits_15 (by decide) (fun c2 => ?_) (fun c2 => ?_)
    · refine lv_aload_n hx hb dX1_joinBits_38 rfl (lv_at hl 0 rfl) ?_
      refine wq_callv (wc := [(h0, .inr (0, [.long f0, .long f1, .long f2, .long f3, .long f4, .long f5]))]) (wr := []) (w2 := [(h0, .inr (0, [.long f0, .long f1, .long f2, .long f3, .long (-9223372036854775808 : Int64), .long (9223372036854775807 : Int64)]))]) (va_runV (As := []) (rest := []) ⟨hx, hb, hml, hown, hts⟩ (c_X1_tellAll l dC dI h0 s.heap.size f0 f1 f2 f3 f4 f5) (cwV 0 hts gX1_joinBits_X1_tellAll rfl rfl rfl ydV_X1_tellAll ⟨Nat.le_of_ble_eq_true rfl, Nat.le_of_ble_eq_true rfl⟩) (wp_V (hK.sub (tys' := []) [] rfl) (hP.sub (ws' := [(h0, .inr (0, [.long f0, .long f1, .long f2, .long f3, .long f4, .long f5]))]) [0] rfl) (hD.sub (ws' := [(h0, .inr (0, [.long f0, .long f1, .long f2, .long f3, .long f4, .long f5]))]) [0] (by decide) rfl)  rfl rfl) rfl rfl hl.1 rfl (lv_room (Nat.le_of_ble_eq_true rfl)) dX1_joinBits_39 ⟨Nat.le_of_ble_eq_true rfl, Nat.le_of_ble_eq_true rfl⟩) hP hD hS hA [0] [] [0] rfl rfl rfl (by decide) rfl rfl (fun H locs hP hD hS => ?_)
      have es : (s_X1_joinBits f0 f1 f2 f3 p0) = ((-9223372036854775808 : Int64), (9223372036854775807 : Int64)) := by unfold s_X1_joinBits; rw [if_neg c1, if_pos c2]
      exact W.vret hx hb hr (fun t ht hW => by rw [es]; exact ⟨rfl, by rw [ht]; exact hP, hD, hS.F ht⟩) hS.2.2 dX1_joinBits_42
    · refine lv_aload_n hx hb dX1_joinBits_18 rfl (lv_at hl 0 rfl) ?_
      refine lv_lload_n hx hb dX1_joinBits_19 rfl (lv_at hl 1 rfl) ?_
      refine lv_aload_n hx hb dX1_joinBits_20 rfl (lv_at hl 0 rfl) ?_
      refine va_get (D := (dC, dI)) (ci := 0) (v := .long f1) (C := RX1) (T := TX1) (N := 6) hx hb hts hi_RX1 hown hK hP 0 rfl rfl 1 (by decide) hw3 (fun _ h9 => h9) rfl dX1_joinBits_21 ?_
      refine lv_aload_n hx hb dX1_joinBits_24 rfl (lv_at hl 0 rfl) ?_
      refine va_get (D := (dC, dI)) (ci := 0) (v := .long f3) (C := RX1) (T := TX1) (N := 6) hx hb hts hi_RX1 hown hK hP 0 rfl rfl 3 (by decide) hw4 (fun _ h9 => h9) rfl dX1_joinBits_25 ?_
      refine lv_lor hx hb dX1_joinBits_28 ?_
      refine pq_calll (va_runS (As := [.long (f1 ||| f3)]) (rest := [.long p0, .ref h0]) ⟨hx, hb, hml, hown, hts⟩ (c_X1_allBitsUpTo l (f1 ||| f3)) (va_cwS 1 hts gX1_joinBits_X1_allBitsUpTo rfl rfl rfl ydS_X1_allBitsUpTo ⟨Nat.le_of_ble_eq_true rfl, Nat.le_of_ble_eq_true rfl⟩) ap_S rfl rfl hl.1 rfl (lv_room (Nat.le_of_ble_eq_true rfl)) dX1_joinBits_29 ⟨Nat.le_of_ble_eq_true rfl, Nat.le_of_ble_eq_true rfl⟩) ?_
      refine wq_callv (wc := [(h0, .inr (0, [.long f0, .long f1, .long f2, .long f3, .long f4, .long f5]))]) (wr := []) (w2 := [(h0, .inr (0, [.long f0, .long f1, .long f2, .long f3, .long p0, .long (s_X1_allBitsUpTo (f1 ||| f3))]))]) (va_runV (As := [.long p0, .long (s_X1_allBitsUpTo (f1 ||| f3))]) (rest := []) ⟨hx, hb, hml, hown, hts⟩ (c_X1_tell l dC dI h0 s.heap.size f0 f1 f2 f3 f4 f5 p0 (s_X1_allBitsUpTo (f1 ||| f3))) (cwV 2 hts gX1_joinBits_X1_tell rfl rfl rfl ydV_X1_tell ⟨Nat.le_of_ble_eq_true rfl, Nat.le_of_ble_eq_true rfl⟩) (wp_V (hK.sub (tys' := []) [] rfl) (hP.sub (ws' := [(h0, .inr (0, [.long f0, .long f1, .long f2, .long f3, .long f4, .long f5]))]) [0] rfl) (hD.sub (ws' := [(h0, .inr (0, [.long f0, .long f1, .long f2, .long f3, .long f4, .long f5]))]) [0] (by decide) rfl)  rfl rfl) rfl rfl hl.1 rfl (lv_room (Nat.le_of_ble_eq_true rfl)) dX1_joinBits_32 ⟨Nat.le_of_ble_eq_true rfl, Nat.le_of_ble_eq_true rfl⟩) hP hD hS hA [0] [] [0] rfl rfl rfl (by decide) rfl rfl (fun H locs hP hD hS => ?_)
      refine lv_goto (tgt := 42) hx hb dX1_joinBits_35 (by decide) ?_
      have es : (s_X1_joinBits f0 f1 f2 f3 p0) = (p0, (s_X1_allBitsUpTo (f1 ||| f3))) := by unfold s_X1_joinBits; rw [if_neg c1, if_neg c2]
      exact W.vret hx hb hr (fun t ht hW => by rw [es]; exact ⟨rfl, by rw [ht]; exact hP, hD, hS.F ht⟩) hS.2.2 dX1_joinBits_42

def s_X1_shiftRightByAny (f0 : Int64) (f1 : Int64) : Int64 × Int64 :=
  if f0 < (0 : Int64) then ((-9223372036854775808 : Int64), (9223372036854775807 : Int64))
  else ((0 : Int64), f1)
set_option maxHeartbeats 4000000 in
set_option maxRecDepth 100000 in
theorem c_X1_shiftRightByAny (l : Launch) (dC : Nat → ClassId) (dI : Nat → Nat → Nat) (h0 sz : Nat) (f0 : Int64) (f1 : Int64) (f2 : Int64) (f3 : Int64) (f4 : Int64) (f5 : Int64) : Met l yX1_shiftRightByAny wsX1_shiftRightByAny ({ frames := 2, cells := 0, slots := 0, locals := 44 }) (wp9 (dC, dI) vwCl [] [.ref h0] sz [(h0, .inr (0, [.long f0, .long f1, .long f2, .long f3, .long f4, .long f5]))]) (wq none (dC, dI) vwCl [(h0, .inr (0, [.long f0, .long f1, .long f2, .long f3, .long ((s_X1_shiftRightByAny f0 f1).1), .long ((s_X1_shiftRightByAny f0 f1).2)]))] (va_A [(h0, .inr (0, [.long f0, .long f1, .long f2, .long f3, .long f4, .long f5]))] sz)) 0 0 (va_A [(h0, .inr (0, [.long f0, .long f1, .long f2, .long f3, .long f4, .long f5]))] sz) := by
  refine Met.ofW (cc := cX1_shiftRightByAny) (maxL := 1) (ret := none) (by decide) rfl ?_
  intro p e s m args below meth c s₁ B hml hv
  obtain ⟨rfl, hsz, hP, hK, hD0⟩ := hv
  have hx := B.exec
  have hb := B.bytes
  have hr := B.returns
  have hts := atoms_spec (ws := wsX1_shiftRightByAny) B.pre
  have hown : s.vm.findClass RX1 = some m.cls := findClass_of_methodNamed B.named
  have hlocks := B.notSynchronized
  subst hsz
  have hD := hD0.self (sz := s.heap.size)
  generalize hAe : va_A [(h0, .inr (0, [.long f0, .long f1, .long f2, .long f3, .long f4, .long f5]))] s.heap.size = A at hD ⊢
  have hA : ∀ q : Nat, s.heap.size ≤ q → A q := fun q h => by rw [← hAe]; exact Or.inr h
  have hS : va_S A s.heap s.heap [] := va_S.rf
  have hP : va_P (dC, dI) vwCl [(h0, .inr (0, [.long f0, .long f1, .long f2, .long f3, .long f4, .long f5]))] s.heap := hP
  have hl := lv_entry ([.ref h0]) (n := 1) (Nat.le_of_ble_eq_true rfl)
  rw [lg_entry_eq]
  generalize (lg_sl ([.ref h0]) ++ List.replicate (1 - (lg_sl ([.ref h0])).length) Slot.unset).toArray = ls at hl ⊢
  have hl : lv_has ls 1 [(0, .ref h0)] := hl
  have hw0 := hts (.fieldLink RX1 7 "RangeBox$Outcome" "xLow" "J") (List.mem_of_getElem? (i := 1) rfl)
  have hi_RX1 : ∀ w ∈ wsX10, w ∈ wsX1_shiftRightByAny := fun _ h => List.mem_cons_of_mem _ (List.mem_append_right _ h)
  have hw2 := hts (.fieldLink RX1 13 "RangeBox$Outcome" "xHigh" "J") (List.mem_of_getElem? (i := 2) rfl)
  refine lv_aload_n hx hb dX1_shiftRightByAny_0 rfl (lv_at hl 0 rfl) ?_
  refine va_get (D := (dC, dI)) (ci := 0) (v := .long f0) (C := RX1) (T := TX1) (N := 6) hx hb hts hi_RX1 hown hK hP 0 rfl rfl 0 (by decide) hw0 (fun _ h9 => h9) rfl dX1_shiftRightByAny_1 ?_
  refine lv_lconst (v := (0 : Int64)) hx hb dX1_shiftRightByAny_4 (by decide) ?_
  refine pl_lt (tgt := 21) hx hb dX1_shiftRightByAny_5 dX1_shiftRightByAny_6 (by decide) (fun c1 => ?_) (fun c1 => ?_)
  · refine lv_aload_n hx hb dX1_shiftRightByAny_21 rfl (lv_at hl 0 rfl) ?_
    refine wq_callv (wc := [(h0, .inr (0, [.long f0, .long f1, .long f2, .long f3, .long f4, .long f5]))]) (wr := []) (w2 := [(h0, .inr (0, [.long f0, .long f1, .long f2, .long f3, .long (-9223372036854775808 : Int64), .long (9223372036854775807 : Int64)]))]) (va_runV (As := []) (rest := []) ⟨hx, hb, hml, hown, hts⟩ (c_X1_tellAll l dC dI h0 s.heap.size f0 f1 f2 f3 f4 f5) (cwV 0 hts gX1_shiftRightByAny_X1_tellAll rfl rfl rfl ydV_X1_tellAll ⟨Nat.le_of_ble_eq_true rfl, Nat.le_of_ble_eq_true rfl⟩) (wp_V (hK.sub (tys' := []) [] rfl) (hP.sub (ws' := [(h0, .inr (0, [.long f0, .long f1, .long f2, .long f3, .long f4, .long f5]))]) [0] rfl) (hD.sub (ws' := [(h0, .inr (0, [.long f0, .long f1, .long f2, .long f3, .long f4, .long f5]))]) [0] (by decide) rfl)  rfl rfl) rfl rfl hl.1 rfl (lv_room (Nat.le_of_ble_eq_true rfl)) dX1_shiftRightByAny_22 ⟨Nat.le_of_ble_eq_true rfl, Nat.le_of_ble_eq_true rfl⟩) hP hD hS hA [0] [] [0] rfl rfl rfl (by decide) rfl rfl (fun H locs hP hD hS => ?_)
    have es : (s_X1_shiftRightByAny f0 f1) = ((-9223372036854775808 : Int64), (9223372036854775807 : Int64)) := by unfold s_X1_shiftRightByAny; rw [if_pos c1]
    exact W.vret hx hb hr (fun t ht hW => by rw [es]; exact ⟨rfl, by rw [ht]; exact hP, hD, hS.F ht⟩) hS.2.2 dX1_shiftRightByAny_25
  · refine lv_aload_n hx hb dX1_shiftRightByAny_9 rfl (lv_at hl 0 rfl) ?_
    refine lv_lconst (v := (0 : Int64)) hx hb dX1_shiftRightByAny_10 (by decide) ?_
    refine lv_aload_n hx hb dX1_shiftRightByAny_11 rfl (lv_at hl 0 rfl) ?_
    refine va_get (D := (dC, dI)) (ci := 0) (v := .long f1) (C := RX1) (T := TX1) (N := 6) hx hb hts hi_RX1 hown hK hP 0 rfl rfl 1 (by decide) hw2 (fun _ h9 => h9) rfl dX1_shiftRightByAny_12 ?_
    refine wq_callv (wc := [(h0, .inr (0, [.long f0, .long f1, .long f2, .long f3, .long f4, .long f5]))]) (wr := []) (w2 := [(h0, .inr (0, [.long f0, .long f1, .long f2, .long f3, .long (0 : Int64), .long f1]))]) (va_runV (As := [.long (0 : Int64), .long f1]) (rest := []) ⟨hx, hb, hml, hown, hts⟩ (c_X1_tell l dC dI h0 s.heap.size f0 f1 f2 f3 f4 f5 (0 : Int64) f1) (cwV 2 hts gX1_shiftRightByAny_X1_tell rfl rfl rfl ydV_X1_tell ⟨Nat.le_of_ble_eq_true rfl, Nat.le_of_ble_eq_true rfl⟩) (wp_V (hK.sub (tys' := []) [] rfl) (hP.sub (ws' := [(h0, .inr (0, [.long f0, .long f1, .long f2, .long f3, .long f4, .long f5]))]) [0] rfl) (hD.sub (ws' := [(h0, .inr (0, [.long f0, .long f1, .long f2, .long f3, .long f4, .long f5]))]) [0] (by decide) rfl)  rfl rfl) rfl rfl hl.1 rfl (lv_room (Nat.le_of_ble_eq_true rfl)) dX1_shiftRightByAny_15 ⟨Nat.le_of_ble_eq_true rfl, Nat.le_of_ble_eq_true rfl⟩) hP hD hS hA [0] [] [0] rfl rfl rfl (by decide) rfl rfl (fun H locs hP hD hS => ?_)
    refine lv_goto (tgt := 25) hx hb dX1_shiftRightByAny_18 (by decide) ?_
    have es : (s_X1_shiftRightByAny f0 f1) = ((0 : Int64), f1) := by unfold s_X1_shiftRightByAny; rw [if_neg c1]
    exact W.vret hx hb hr (fun t ht hW => by rw [es]; exact ⟨rfl, by rw [ht]; exact hP, hD, hS.F ht⟩) hS.2.2 dX1_shiftRightByAny_25

def s_X1_shiftLeft (f0 : Int64) (f1 : Int64) (f2 : Int64) (f3 : Int64) (p0 : Int32) : Int64 × Int64 :=
  if f2 = f3 then (if f0 < (0 : Int64) then ((-9223372036854775808 : Int64), (9223372036854775807 : Int64))
    else if pl_shr (pl_shl f1 p0) p0 = f1 then ((pl_shl f0 p0), (pl_shl f1 p0))
    else ((-9223372036854775808 : Int64), (9223372036854775807 : Int64)))
  else ((-9223372036854775808 : Int64), (9223372036854775807 : Int64))
set_option maxHeartbeats 4000000 in
set_option maxRecDepth 100000 in
theorem c_X1_shiftLeft (l : Launch) (dC : Nat → ClassId) (dI : Nat → Nat → Nat) (h0 sz : Nat) (f0 : Int64) (f1 : Int64) (f2 : Int64) (f3 : Int64) (f4 : Int64) (f5 : Int64) (p0 : Int32) : Met l yX1_shiftLeft wsX1_shiftLeft ({ frames := 2, cells := 0, slots := 0, locals := 44 }) (wp9 (dC, dI) vwCl [] [.ref h0, .int p0] sz [(h0, .inr (0, [.long f0, .long f1, .long f2, .long f3, .long f4, .long f5]))]) (wq none (dC, dI) vwCl [(h0, .inr (0, [.long f0, .long f1, .long f2, .long f3, .long ((s_X1_shiftLeft f0 f1 f2 f3 p0).1), .long ((s_X1_shiftLeft f0 f1 f2 f3 p0).2)]))] (va_A [(h0, .inr (0, [.long f0, .long f1, .long f2, .long f3, .long f4, .long f5]))] sz)) 0 0 (va_A [(h0, .inr (0, [.long f0, .long f1, .long f2, .long f3, .long f4, .long f5]))] sz) := by
  refine Met.ofW (cc := cX1_shiftLeft) (maxL := 2) (ret := none) (by decide) rfl ?_
  intro p e s m args below meth c s₁ B hml hv
  obtain ⟨rfl, hsz, hP, hK, hD0⟩ := hv
  have hx := B.exec
  have hb := B.bytes
  have hr := B.returns
  have hts := atoms_spec (ws := wsX1_shiftLeft) B.pre
  have hown : s.vm.findClass RX1 = some m.cls := findClass_of_methodNamed B.named
  have hlocks := B.notSynchronized
  subst hsz
  have hD := hD0.self (sz := s.heap.size)
  generalize hAe : va_A [(h0, .inr (0, [.long f0, .long f1, .long f2, .long f3, .long f4, .long f5]))] s.heap.size = A at hD ⊢
  have hA : ∀ q : Nat, s.heap.size ≤ q → A q := fun q h => by rw [← hAe]; exact Or.inr h
  have hS : va_S A s.heap s.heap [] := va_S.rf
  have hP : va_P (dC, dI) vwCl [(h0, .inr (0, [.long f0, .long f1, .long f2, .long f3, .long f4, .long f5]))] s.heap := hP
  have hl := lv_entry ([.ref h0, .int p0]) (n := 2) (Nat.le_of_ble_eq_true rfl)
  rw [lg_entry_eq]
  generalize (lg_sl ([.ref h0, .int p0]) ++ List.replicate (2 - (lg_sl ([.ref h0, .int p0])).length) Slot.unset).toArray = ls at hl ⊢
  have hl : lv_has ls 2 [(0, .ref h0), (1, .int p0)] := hl
  have hw0 := hts (.fieldLink RX1 16 "RangeBox$Outcome" "yLow" "J") (List.mem_of_getElem? (i := 1) rfl)
  have hi_RX1 : ∀ w ∈ wsX10, w ∈ wsX1_shiftLeft := fun _ h => List.mem_cons_of_mem _ (List.mem_append_right _ h)
  have hw2 := hts (.fieldLink RX1 19 "RangeBox$Outcome" "yHigh" "J") (List.mem_of_getElem? (i := 2) rfl)
  have hw3 := hts (.fieldLink RX1 7 "RangeBox$Outcome" "xLow" "J") (List.mem_of_getElem? (i := 3) rfl)
  have hw4 := hts (.fieldLink RX1 13 "RangeBox$Outcome" "xHigh" "J") (List.mem_of_getElem? (i := 4) rfl)
  refine lv_aload_n hx hb dX1_shiftLeft_0 rfl (lv_at hl 0 rfl) ?_
  refine va_get (D := (dC, dI)) (ci := 0) (v := .long f2) (C := RX1) (T := TX1) (N := 6) hx hb hts hi_RX1 hown hK hP 0 rfl rfl 2 (by decide) hw0 (fun _ h9 => h9) rfl dX1_shiftLeft_1 ?_
  refine lv_aload_n hx hb dX1_shiftLeft_4 rfl (lv_at hl 0 rfl) ?_
  refine va_get (D := (dC, dI)) (ci := 0) (v := .long f3) (C := RX1) (T := TX1) (N := 6) hx hb hts hi_RX1 hown hK hP 0 rfl rfl 3 (by decide) hw2 (fun _ h9 => h9) rfl dX1_shiftLeft_5 ?_
  refine pl_ne (tgt := 56) hx hb dX1_shiftLeft_8 dX1_shiftLeft_9 (by decide) (fun c1 => ?_) (fun c1 => ?_)
  · refine lv_aload_n hx hb dX1_shiftLeft_56 rfl (lv_at hl 0 rfl) ?_
    refine wq_callv (wc := [(h0, .inr (0, [.long f0, .long f1, .long f2, .long f3, .long f4, .long f5]))]) (wr := []) (w2 := [(h0, .inr (0, [.long f0, .long f1, .long f2, .long f3, .long (-9223372036854775808 : Int64), .long (9223372036854775807 : Int64)]))]) (va_runV (As := []) (rest := []) ⟨hx, hb, hml, hown, hts⟩ (c_X1_tellAll l dC dI h0 s.heap.size f0 f1 f2 f3 f4 f5) (cwV 0 hts gX1_shiftLeft_X1_tellAll rfl rfl rfl ydV_X1_tellAll ⟨Nat.le_of_ble_eq_true rfl, Nat.le_of_ble_eq_true rfl⟩) (wp_V (hK.sub (tys' := []) [] rfl) (hP.sub (ws' := [(h0, .inr (0, [.long f0, .long f1, .long f2, .long f3, .long f4, .long f5]))]) [0] rfl) (hD.sub (ws' := [(h0, .inr (0, [.long f0, .long f1, .long f2, .long f3, .long f4, .long f5]))]) [0] (by decide) rfl)  rfl rfl) rfl rfl hl.1 rfl (lv_room (Nat.le_of_ble_eq_true rfl)) dX1_shiftLeft_57 ⟨Nat.le_of_ble_eq_true rfl, Nat.le_of_ble_eq_true rfl⟩) hP hD hS hA [0] [] [0] rfl rfl rfl (by decide) rfl rfl (fun H locs hP hD hS => ?_)
    have es : (s_X1_shiftLeft f0 f1 f2 f3 p0) = ((-9223372036854775808 : Int64), (9223372036854775807 : Int64)) := by unfold s_X1_shiftLeft; rw [if_neg c1]
    exact W.vret hx hb hr (fun t ht hW => by rw [es]; exact ⟨rfl, by rw [ht]; exact hP, hD, hS.F ht⟩) hS.2.2 dX1_shiftLeft_60
  · refine lv_aload_n hx hb dX1_shiftLeft_12 rfl (lv_at hl 0 rfl) ?_
    refine va_get (D := (dC, dI)) (ci := 0) (v := .long f0) (C := RX1) (T := TX1) (N := 6) hx hb hts hi_RX1 hown hK hP 0 rfl rfl 0 (by decide) hw3 (fun _ h9 => h9) rfl dX1_shiftLeft_13 ?_
    refine lv_lconst (v := (0 : Int64)) hx hb dX1_shiftLeft_16 (by decide) ?_
    refine pl_lt (tgt := 56) hx hb dX1_shiftLeft_17 dX1_shiftLeft_18 (by decide) (fun c2 => ?_) (fun c2 => ?_)
    · refine lv_aload_n hx hb dX1_shiftLeft_56 rfl (lv_at hl 0 rfl) ?_
      refine wq_callv (wc := [(h0, .inr (0, [.long f0, .long f1, .long f2, .long f3, .long f4, .long f5]))]) (wr := []) (w2 := [(h0, .inr (0, [.long f0, .long f1, .long f2, .long f3, .long (-9223372036854775808 : Int64), .long (9223372036854775807 : Int64)]))]) (va_runV (As := []) (rest := []) ⟨hx, hb, hml, hown, hts⟩ (c_X1_tellAll l dC dI h0 s.heap.size f0 f1 f2 f3 f4 f5) (cwV 0 hts gX1_shiftLeft_X1_tellAll rfl rfl rfl ydV_X1_tellAll ⟨Nat.le_of_ble_eq_true rfl, Nat.le_of_ble_eq_true rfl⟩) (wp_V (hK.sub (tys' := []) [] rfl) (hP.sub (ws' := [(h0, .inr (0, [.long f0, .long f1, .long f2, .long f3, .long f4, .long f5]))]) [0] rfl) (hD.sub (ws' := [(h0, .inr (0, [.long f0, .long f1, .long f2, .long f3, .long f4, .long f5]))]) [0] (by decide) rfl)  rfl rfl) rfl rfl hl.1 rfl (lv_room (Nat.le_of_ble_eq_true rfl)) dX1_shiftLeft_57 ⟨Nat.le_of_ble_eq_true rfl, Nat.le_of_ble_eq_true rfl⟩) hP hD hS hA [0] [] [0] rfl rfl rfl (by decide) rfl rfl (fun H locs hP hD hS => ?_)
      have es : (s_X1_shiftLeft f0 f1 f2 f3 p0) = ((-9223372036854775808 : Int64), (9223372036854775807 : Int64)) := by unfold s_X1_shiftLeft; rw [if_pos c1, if_pos c2]
      exact W.vret hx hb hr (fun t ht hW => by rw [es]; exact ⟨rfl, by rw [ht]; exact hP, hD, hS.F ht⟩) hS.2.2 dX1_shiftLeft_60
    · refine lv_aload_n hx hb dX1_shiftLeft_21 rfl (lv_at hl 0 rfl) ?_
      refine va_get (D := (dC, dI)) (ci := 0) (v := .long f1) (C := RX1) (T := TX1) (N := 6) hx hb hts hi_RX1 hown hK hP 0 rfl rfl 1 (by decide) hw4 (fun _ h9 => h9) rfl dX1_shiftLeft_22 ?_
      refine lv_iload_n hx hb dX1_shiftLeft_25 rfl (lv_at hl 1 rfl) ?_
      refine lv_lshl (v := pl_shl f1 p0) hx hb dX1_shiftLeft_26 rfl ?_
      refine lv_iload_n hx hb dX1_shiftLeft_27 rfl (lv_at hl 1 rfl) ?_
      refine lv_lshr (v := pl_shr (pl_shl f1 p0) p0) hx hb dX1_shiftLeft_28 rfl ?_
      refine lv_aload_n hx hb dX1_shiftLeft_29 rfl (lv_at hl 0 rfl) ?_
      refine va_get (D := (dC, dI)) (ci := 0) (v := .long f1) (C := RX1) (T := TX1) (N := 6) hx hb hts hi_RX1 hown hK hP 0 rfl rfl 1 (by decide) hw4 (fun _ h9 => h9) rfl dX1_shiftLeft_30 ?_
      refine pl_ne (tgt := 56) hx hb dX1_shiftLeft_33 dX1_shiftLeft_34 (by decide) (fun c3 => ?_) (fun c3 => ?_)
      · refine lv_aload_n hx hb dX1_shiftLeft_56 rfl (lv_at hl 0 rfl) ?_
        refine wq_callv (wc := [(h0, .inr (0, [.long f0, .long f1, .long f2, .long f3, .long f4, .long f5]))]) (wr := []) (w2 := [(h0, .inr (0, [.long f0, .long f1, .long f2, .long f3, .long (-9223372036854775808 : Int64), .long (9223372036854775807 : Int64)]))]) (va_runV (As := []) (rest := []) ⟨hx, hb, hml, hown, hts⟩ (c_X1_tellAll l dC dI h0 s.heap.size f0 f1 f2 f3 f4 f5) (cwV 0 hts gX1_shiftLeft_X1_tellAll rfl rfl rfl ydV_X1_tellAll ⟨Nat.le_of_ble_eq_true rfl, Nat.le_of_ble_eq_true rfl⟩) (wp_V (hK.sub (tys' := []) [] rfl) (hP.sub (ws' := [(h0, .inr (0, [.long f0, .long f1, .long f2, .long f3, .long f4, .long f5]))]) [0] rfl) (hD.sub (ws' := [(h0, .inr (0, [.long f0, .long f1, .long f2, .long f3, .long f4, .long f5]))]) [0] (by decide) rfl)  rfl rfl) rfl rfl hl.1 rfl (lv_room (Nat.le_of_ble_eq_true rfl)) dX1_shiftLeft_57 ⟨Nat.le_of_ble_eq_true rfl, Nat.le_of_ble_eq_true rfl⟩) hP hD hS hA [0] [] [0] rfl rfl rfl (by decide) rfl rfl (fun H locs hP hD hS => ?_)
        have es : (s_X1_shiftLeft f0 f1 f2 f3 p0) = ((-9223372036854775808 : Int64), (9223372036854775807 : Int64)) := by unfold s_X1_shiftLeft; rw [if_pos c1, if_neg c2, if_neg c3]
        exact W.vret hx hb hr (fun t ht hW => by rw [es]; exact ⟨rfl, by rw [ht]; exact hP, hD, hS.F ht⟩) hS.2.2 dX1_shiftLeft_60
      · refine lv_aload_n hx hb dX1_shiftLeft_37 rfl (lv_at hl 0 rfl) ?_
        refine lv_aload_n hx hb dX1_shiftLeft_38 rfl (lv_at hl 0 rfl) ?_
        refine va_get (D := (dC, dI)) (ci := 0) (v := .long f0) (C := RX1) (T := TX1) (N := 6) hx hb hts hi_RX1 hown hK hP 0 rfl rfl 0 (by decide) hw3 (fun _ h9 => h9) rfl dX1_shiftLeft_39 ?_
        refine lv_iload_n hx hb dX1_shiftLeft_42 rfl (lv_at hl 1 rfl) ?_
        refine lv_lshl (v := pl_shl f0 p0) hx hb dX1_shiftLeft_43 rfl ?_
        refine lv_aload_n hx hb dX1_shiftLeft_44 rfl (lv_at hl 0 rfl) ?_
        refine va_get (D := (dC, dI)) (ci := 0) (v := .long f1) (C := RX1) (T := TX1) (N := 6) hx hb hts hi_RX1 hown hK hP 0 rfl rfl 1 (by decide) hw4 (fun _ h9 => h9) rfl dX1_shiftLeft_45 ?_
        refine lv_iload_n hx hb dX1_shiftLeft_48 rfl (lv_at hl 1 rfl) ?_
        refine lv_lshl (v := pl_shl f1 p0) hx hb dX1_shiftLeft_49 rfl ?_
        refine wq_callv (wc := [(h0, .inr (0, [.long f0, .long f1, .long f2, .long f3, .long f4, .long f5]))]) (wr := []) (w2 := [(h0, .inr (0, [.long f0, .long f1, .long f2, .long f3, .long (pl_shl f0 p0), .long (pl_shl f1 p0)]))]) (va_runV (As := [.long (pl_shl f0 p0), .long (pl_shl f1 p0)]) (rest := []) ⟨hx, hb, hml, hown, hts⟩ (c_X1_tell l dC dI h0 s.heap.size f0 f1 f2 f3 f4 f5 (pl_shl f0 p0) (pl_shl f1 p0)) (cwV 2 hts gX1_shiftLeft_X1_tell rfl rfl rfl ydV_X1_tell ⟨Nat.le_of_ble_eq_true rfl, Nat.le_of_ble_eq_true rfl⟩) (wp_V (hK.sub (tys' := []) [] rfl) (hP.sub (ws' := [(h0, .inr (0, [.long f0, .long f1, .long f2, .long f3, .long f4, .long f5]))]) [0] rfl) (hD.sub (ws' := [(h0, .inr (0, [.long f0, .long f1, .long f2, .long f3, .long f4, .long f5]))]) [0] (by decide) rfl)  rfl rfl) rfl rfl hl.1 rfl (lv_room (Nat.le_of_ble_eq_true rfl)) dX1_shiftLeft_50 ⟨Nat.le_of_ble_eq_true rfl, Nat.le_of_ble_eq_true rfl⟩) hP hD hS hA [0] [] [0] rfl rfl rfl (by decide) rfl rfl (fun H locs hP hD hS => ?_)
        refine lv_goto (tgt := 60) hx hb dX1_shiftLeft_53 (by decide) ?_
        have es : (s_X1_shiftLeft f0 f1 f2 f3 p0) = ((pl_shl f0 p0), (pl_shl f1 p0)) := by unfold s_X1_shiftLeft; rw [if_pos c1, if_neg c2, if_pos c3]
        exact W.vret hx hb hr (fun t ht hW => by rw [es]; exact ⟨rfl, by rw [ht]; exact hP, hD, hS.F ht⟩) hS.2.2 dX1_shiftLeft_60

def s_X1_shiftRight (f0 : Int64) (f1 : Int64) (f2 : Int64) (f3 : Int64) (p0 : Int32) : Int64 × Int64 :=
  if f2 = f3 then (if f0 < (0 : Int64) then (if p0 = (0 : Int32) then (f0, f1)
      else ((0 : Int64), (pl_ushr (-1 : Int64) p0)))
    else ((pl_ushr f0 p0), (pl_ushr f1 p0)))
  else ((s_X1_shiftRightByAny f0 f1).1, (s_X1_shiftRightByAny f0 f1).2)
set_option maxHeartbeats 4000000 in
set_option maxRecDepth 100000 in
theorem c_X1_shiftRight (l : Launch) (dC : Nat → ClassId) (dI : Nat → Nat → Nat) (h0 sz : Nat) (f0 : Int64) (f1 : Int64) (f2 : Int64) (f3 : Int64) (f4 : Int64) (f5 : Int64) (p0 : Int32) : Met l yX1_shiftRight wsX1_shiftRight ({ frames := 3, cells := 0, slots := 0, locals := 64 }) (wp9 (dC, dI) vwCl [] [.ref h0, .int p0] sz [(h0, .inr (0, [.long f0, .long f1, .long f2, .long f3, .long f4, .long f5]))]) (wq none (dC, dI) vwCl [(h0, .inr (0, [.long f0, .long f1, .long f2, .long f3, .long ((s_X1_shiftRight f0 f1 f2 f3 p0).1), .long ((s_X1_shiftRight f0 f1 f2 f3 p0).2)]))] (va_A [(h0, .inr (0, [.long f0, .long f1, .long f2, .long f3, .long f4, .long f5]))] sz)) 0 0 (va_A [(h0, .inr (0, [.long f0, .long f1, .long f2, .long f3, .long f4, .long f5]))] sz) := by
  refine Met.ofW (cc := cX1_shiftRight) (maxL := 2) (ret := none) (by decide) rfl ?_
  intro p e s m args below meth c s₁ B hml hv
  obtain ⟨rfl, hsz, hP, hK, hD0⟩ := hv
  have hx := B.exec
  have hb := B.bytes
  have hr := B.returns
  have hts := atoms_spec (ws := wsX1_shiftRight) B.pre
  have hown : s.vm.findClass RX1 = some m.cls := findClass_of_methodNamed B.named
  have hlocks := B.notSynchronized
  subst hsz
  have hD := hD0.self (sz := s.heap.size)
  generalize hAe : va_A [(h0, .inr (0, [.long f0, .long f1, .long f2, .long f3, .long f4, .long f5]))] s.heap.size = A at hD ⊢
  have hA : ∀ q : Nat, s.heap.size ≤ q → A q := fun q h => by rw [← hAe]; exact Or.inr h
  have hS : va_S A s.heap s.heap [] := va_S.rf
  have hP : va_P (dC, dI) vwCl [(h0, .inr (0, [.long f0, .long f1, .long f2, .long f3, .long f4, .long f5]))] s.heap := hP
  have hl := lv_entry ([.ref h0, .int p0]) (n := 2) (Nat.le_of_ble_eq_true rfl)
  rw [lg_entry_eq]
  generalize (lg_sl ([.ref h0, .int p0]) ++ List.replicate (2 - (lg_sl ([.ref h0, .int p0])).length) Slot.unset).toArray = ls at hl ⊢
  have hl : lv_has ls 2 [(0, .ref h0), (1, .int p0)] := hl
  have hw0 := hts (.fieldLink RX1 16 "RangeBox$Outcome" "yLow" "J") (List.mem_of_getElem? (i := 1) rfl)
  have hi_RX1 : ∀ w ∈ wsX10, w ∈ wsX1_shiftRight := fun _ h => List.mem_cons_of_mem _ (List.mem_append_right _ h)
  have hw2 := hts (.fieldLink RX1 19 "RangeBox$Outcome" "yHigh" "J") (List.mem_of_getElem? (i := 2) rfl)
  have hw3 := hts (.fieldLink RX1 7 "RangeBox$Outcome" "xLow" "J") (List.mem_of_getElem? (i := 3) rfl)
  have hw4 := hts (.constantLong RX1 122 (-1)) (List.mem_of_getElem? (i := 5) rfl)
  have hw5 := hts (.fieldLink RX1 13 "RangeBox$Outcome" "xHigh" "J") (List.mem_of_getElem? (i := 4) rfl)
  refine lv_aload_n hx hb dX1_shiftRight_0 rfl (lv_at hl 0 rfl) ?_
  refine va_get (D := (dC, dI)) (ci := 0) (v := .long f2) (C := RX1) (T := TX1) (N := 6) hx hb hts hi_RX1 hown hK hP 0 rfl rfl 2 (by decide) hw0 (fun _ h9 => h9) rfl dX1_shiftRight_1 ?_
  refine lv_aload_n hx hb dX1_shiftRight_4 rfl (lv_at hl 0 rfl) ?_
  refine va_get (D := (dC, dI)) (ci := 0) (v := .long f3) (C := RX1) (T := TX1) (N := 6) hx hb hts hi_RX1 hown hK hP 0 rfl rfl 3 (by decide) hw2 (fun _ h9 => h9) rfl dX1_shiftRight_5 ?_
  refine pl_eq (tgt := 19) hx hb dX1_shiftRight_8 dX1_shiftRight_9 (by decide) (fun c1 => ?_) (fun c1 => ?_)
  · refine lv_aload_n hx hb dX1_shiftRight_19 rfl (lv_at hl 0 rfl) ?_
    refine va_get (D := (dC, dI)) (ci := 0) (v := .long f0) (C := RX1) (T := TX1) (N := 6) hx hb hts hi_RX1 hown hK hP 0 rfl rfl 0 (by decide) hw3 (fun _ h9 => h9) rfl dX1_shiftRight_20 ?_
    refine lv_lconst (v := (0 : Int64)) hx hb dX1_shiftRight_23 (by decide) ?_
    refine pl_lt (tgt := 47) hx hb dX1_shiftRight_24 dX1_shiftRight_25 (by decide) (fun c2 => ?_) (fun c2 => ?_)
    · refine lv_iload_n hx hb dX1_shiftRight_47 rfl (lv_at hl 1 rfl) ?_
      refine lv_if_ne (tgt := 66) hx hb dX1_shiftRight_48 (by decide) (fun c3 => ?_) (fun c3 => ?_)
      · refine lv_aload_n hx hb dX1_shiftRight_66 rfl (lv_at hl 0 rfl) ?_
        refine lv_lconst (v := (0 : Int64)) hx hb dX1_shiftRight_67 (by decide) ?_
        refine lv_ldc2 (v := (-1 : Int64)) hx hb hown hw4 dX1_shiftRight_68 ?_
        refine lv_iload_n hx hb dX1_shiftRight_71 rfl (lv_at hl 1 rfl) ?_
        refine lv_lushr (v := pl_ushr (-1 : Int64) p0) hx hb dX1_shiftRight_72 rfl ?_
        refine wq_callv (wc := [(h0, .inr (0, [.long f0, .long f1, .long f2, .long f3, .long f4, .long f5]))]) (wr := []) (w2 := [(h0, .inr (0, [.long f0, .long f1, .long f2, .long f3, .long (0 : Int64), .long (pl_ushr (-1 : Int64) p0)]))]) (va_runV (As := [.long (0 : Int64), .long (pl_ushr (-1 : Int64) p0)]) (rest := []) ⟨hx, hb, hml, hown, hts⟩ (c_X1_tell l dC dI h0 s.heap.size f0 f1 f2 f3 f4 f5 (0 : Int64) (pl_ushr (-1 : Int64) p0)) (cwV 2 hts gX1_shiftRight_X1_tell rfl rfl rfl ydV_X1_tell ⟨Nat.le_of_ble_eq_true rfl, Nat.le_of_ble_eq_true rfl⟩) (wp_V (hK.sub (tys' := []) [] rfl) (hP.sub (ws' := [(h0, .inr (0, [.long f0, .long f1, .long f2, .long f3, .long f4, .long f5]))]) [0] rfl) (hD.sub (ws' := [(h0, .inr (0, [.long f0, .long f1, .long f2, .long f3, .long f4, .long f5]))]) [0] (by decide) rfl)  rfl rfl) rfl rfl hl.1 rfl (lv_room (Nat.le_of_ble_eq_true rfl)) dX1_shiftRight_73 ⟨Nat.le_of_ble_eq_true rfl, Nat.le_of_ble_eq_true rfl⟩) hP hD hS hA [0] [] [0] rfl rfl rfl (by decide) rfl rfl (fun H locs hP hD hS => ?_)
        have es : (s_X1_shiftRight f0 f1 f2 f3 p0) = ((0 : Int64), (pl_ushr (-1 : Int64) p0)) := by unfold s_X1_shiftRight; rw [if_pos c1, if_pos c2, if_neg c3]
        exact W.vret hx hb hr (fun t ht hW => by rw [es]; exact ⟨rfl, by rw [ht]; exact hP, hD, hS.F ht⟩) hS.2.2 dX1_shiftRight_76
      · refine lv_aload_n hx hb dX1_shiftRight_51 rfl (lv_at hl 0 rfl) ?_
        refine lv_aload_n hx hb dX1_shiftRight_52 rfl (lv_at hl 0 rfl) ?_
        refine va_get (D := (dC, dI)) (ci := 0) (v := .long f0) (C := RX1) (T := TX1) (N := 6) hx hb hts hi_RX1 hown hK hP 0 rfl rfl 0 (by decide) hw3 (fun _ h9 => h9) rfl dX1_shiftRight_53 ?_
        refine lv_aload_n hx hb dX1_shiftRight_56 rfl (lv_at hl 0 rfl) ?_
        refine va_get (D := (dC, dI)) (ci := 0) (v := .long f1) (C := RX1) (T := TX1) (N := 6) hx hb hts hi_RX1 hown hK hP 0 rfl rfl 1 (by decide) hw5 (fun _ h9 => h9) rfl dX1_shiftRight_57 ?_
        refine wq_callv (wc := [(h0, .inr (0, [.long f0, .long f1, .long f2, .long f3, .long f4, .long f5]))]) (wr := []) (w2 := [(h0, .inr (0, [.long f0, .long f1, .long f2, .long f3, .long f0, .long f1]))]) (va_runV (As := [.long f0, .long f1]) (rest := []) ⟨hx, hb, hml, hown, hts⟩ (c_X1_tell l dC dI h0 s.heap.size f0 f1 f2 f3 f4 f5 f0 f1) (cwV 2 hts gX1_shiftRight_X1_tell rfl rfl rfl ydV_X1_tell ⟨Nat.le_of_ble_eq_true rfl, Nat.le_of_ble_eq_true rfl⟩) (wp_V (hK.sub (tys' := []) [] rfl) (hP.sub (ws' := [(h0, .inr (0, [.long f0, .long f1, .long f2, .long f3, .long f4, .long f5]))]) [0] rfl) (hD.sub (ws' := [(h0, .inr (0, [.long f0, .long f1, .long f2, .long f3, .long f4, .long f5]))]) [0] (by decide) rfl)  rfl rfl) rfl rfl hl.1 rfl (lv_room (Nat.le_of_ble_eq_true rfl)) dX1_shiftRight_60 ⟨Nat.le_of_ble_eq_true rfl, Nat.le_of_ble_eq_true rfl⟩) hP hD hS hA [0] [] [0] rfl rfl rfl (by decide) rfl rfl (fun H locs hP hD hS => ?_)
        refine lv_goto (tgt := 76) hx hb dX1_shiftRight_63 (by decide) ?_
        have es : (s_X1_shiftRight f0 f1 f2 f3 p0) = (f0, f1) := by unfold s_X1_shiftRight; rw [if_pos c1, if_pos c2, if_pos c3]
        exact W.vret hx hb hr (fun t ht hW => by rw [es]; exact ⟨rfl, by rw [ht]; exact hP, hD, hS.F ht⟩) hS.2.2 dX1_shiftRight_76
    · refine lv_aload_n hx hb dX1_shiftRight_28 rfl (lv_at hl 0 rfl) ?_
      refine lv_aload_n hx hb dX1_shiftRight_29 rfl (lv_at hl 0 rfl) ?_
      refine va_get (D := (dC, dI)) (ci := 0) (v := .long f0) (C := RX1) (T := TX1) (N := 6) hx hb hts hi_RX1 hown hK hP 0 rfl rfl 0 (by decide) hw3 (fun _ h9 => h9) rfl dX1_shiftRight_30 ?_
      refine lv_iload_n hx hb dX1_shiftRight_33 rfl (lv_at hl 1 rfl) ?_
      refine lv_lushr (v := pl_ushr f0 p0) hx hb dX1_shiftRight_34 rfl ?_
      refine lv_aload_n hx hb dX1_shiftRight_35 rfl (lv_at hl 0 rfl) ?_
      refine va_get (D := (dC, dI)) (ci := 0) (v := .long f1) (C := RX1) (T := TX1) (N := 6) hx hb hts hi_RX1 hown hK hP 0 rfl rfl 1 (by decide) hw5 (fun _ h9 => h9) rfl dX1_shiftRight_36 ?_
      refine lv_iload_n hx hb dX1_shiftRight_39 rfl (lv_at hl 1 rfl) ?_
      refine lv_lushr (v := pl_ushr f1 p0) hx hb dX1_shiftRight_40 rfl ?_
      refine wq_callv (wc := [(h0, .inr (0, [.long f0, .long f1, .long f2, .long f3, .long f4, .long f5]))]) (wr := []) (w2 := [(h0, .inr (0, [.long f0, .long f1, .long f2, .long f3, .long (pl_ushr f0 p0), .long (pl_ushr f1 p0)]))]) (va_runV (As := [.long (pl_ushr f0 p0), .long (pl_ushr f1 p0)]) (rest := []) ⟨hx, hb, hml, hown, hts⟩ (c_X1_tell l dC dI h0 s.heap.size f0 f1 f2 f3 f4 f5 (pl_ushr f0 p0) (pl_ushr f1 p0)) (cwV 2 hts gX1_shiftRight_X1_tell rfl rfl rfl ydV_X1_tell ⟨Nat.le_of_ble_eq_true rfl, Nat.le_of_ble_eq_true rfl⟩) (wp_V (hK.sub (tys' := []) [] rfl) (hP.sub (ws' := [(h0, .inr (0, [.long f0, .long f1, .long f2, .long f3, .long f4, .long f5]))]) [0] rfl) (hD.sub (ws' := [(h0, .inr (0, [.long f0, .long f1, .long f2, .long f3, .long f4, .long f5]))]) [0] (by decide) rfl)  rfl rfl) rfl rfl hl.1 rfl (lv_room (Nat.le_of_ble_eq_true rfl)) dX1_shiftRight_41 ⟨Nat.le_of_ble_eq_true rfl, Nat.le_of_ble_eq_true rfl⟩) hP hD hS hA [0] [] [0] rfl rfl rfl (by decide) rfl rfl (fun H locs hP hD hS => ?_)
      refine lv_goto (tgt := 76) hx hb dX1_shiftRight_44 (by decide) ?_
      have es : (s_X1_shiftRight f0 f1 f2 f3 p0) = ((pl_ushr f0 p0), (pl_ushr f1 p0)) := by unfold s_X1_shiftRight; rw [if_pos c1, if_neg c2]
      exact W.vret hx hb hr (fun t ht hW => by rw [es]; exact ⟨rfl, by rw [ht]; exact hP, hD, hS.F ht⟩) hS.2.2 dX1_shiftRight_76
  · refine lv_aload_n hx hb dX1_shiftRight_12 rfl (lv_at hl 0 rfl) ?_
    refine wq_callv (wc := [(h0, .inr (0, [.long f0, .long f1, .long f2, .long f3, .long f4, .long f5]))]) (wr := []) (w2 := [(h0, .inr (0, [.long f0, .long f1, .long f2, .long f3, .long ((s_X1_shiftRightByAny f0 f1).1), .long ((s_X1_shiftRightByAny f0 f1).2)]))]) (va_runV (As := []) (rest := []) ⟨hx, hb, hml, hown, hts⟩ (c_X1_shiftRightByAny l dC dI h0 s.heap.size f0 f1 f2 f3 f4 f5) (cwV 0 hts gX1_shiftRight_X1_shiftRightByAny rfl rfl rfl ydV_X1_shiftRightByAny ⟨Nat.le_of_ble_eq_true rfl, Nat.le_of_ble_eq_true rfl⟩) (wp_V (hK.sub (tys' := []) [] rfl) (hP.sub (ws' := [(h0, .inr (0, [.long f0, .long f1, .long f2, .long f3, .long f4, .long f5]))]) [0] rfl) (hD.sub (ws' := [(h0, .inr (0, [.long f0, .long f1, .long f2, .long f3, .long f4, .long f5]))]) [0] (by decide) rfl)  rfl rfl) rfl rfl hl.1 rfl (lv_room (Nat.le_of_ble_eq_true rfl)) dX1_shiftRight_13 ⟨Nat.le_of_ble_eq_true rfl, Nat.le_of_ble_eq_true rfl⟩) hP hD hS hA [0] [] [0] rfl rfl rfl (by decide) rfl rfl (fun H locs hP hD hS => ?_)
    refine lv_goto (tgt := 76) hx hb dX1_shiftRight_16 (by decide) ?_
    have es : (s_X1_shiftRight f0 f1 f2 f3 p0) = ((s_X1_shiftRightByAny f0 f1).1, (s_X1_shiftRightByAny f0 f1).2) := by unfold s_X1_shiftRight; rw [if_neg c1]
    exact W.vret hx hb hr (fun t ht hW => by rw [es]; exact ⟨rfl, by rw [ht]; exact hP, hD, hS.F ht⟩) hS.2.2 dX1_shiftRight_76

def s_X1_shiftSignedRight (f0 : Int64) (f1 : Int64) (f2 : Int64) (f3 : Int64) (p0 : Int32) : Int64 × Int64 :=
  if f2 = f3 then ((pl_shr f0 p0), (pl_shr f1 p0))
  else ((s_X1_shiftRightByAny f0 f1).1, (s_X1_shiftRightByAny f0 f1).2)
set_option maxHeartbeats 4000000 in
set_option maxRecDepth 100000 in
theorem c_X1_shiftSignedRight (l : Launch) (dC : Nat → ClassId) (dI : Nat → Nat → Nat) (h0 sz : Nat) (f0 : Int64) (f1 : Int64) (f2 : Int64) (f3 : Int64) (f4 : Int64) (f5 : Int64) (p0 : Int32) : Met l yX1_shiftSignedRight wsX1_shiftSignedRight ({ frames := 3, cells := 0, slots := 0, locals := 64 }) (wp9 (dC, dI) vwCl [] [.ref h0, .int p0] sz [(h0, .inr (0, [.long f0, .long f1, .long f2, .long f3, .long f4, .long f5]))]) (wq none (dC, dI) vwCl [(h0, .inr (0, [.long f0, .long f1, .long f2, .long f3, .long ((s_X1_shiftSignedRight f0 f1 f2 f3 p0).1), .long ((s_X1_shiftSignedRight f0 f1 f2 f3 p0).2)]))] (va_A [(h0, .inr (0, [.long f0, .long f1, .long f2, .long f3, .long f4, .long f5]))] sz)) 0 0 (va_A [(h0, .inr (0, [.long f0, .long f1, .long f2, .long f3, .long f4, .long f5]))] sz) := by
  refine Met.ofW (cc := cX1_shiftSignedRight) (maxL := 2) (ret := none) (by decide) rfl ?_
  intro p e s m args below meth c s₁ B hml hv
  obtain ⟨rfl, hsz, hP, hK, hD0⟩ := hv
  have hx := B.exec
  have hb := B.bytes
  have hr := B.returns
  have hts := atoms_spec (ws := wsX1_shiftSignedRight) B.pre
  have hown : s.vm.findClass RX1 = some m.cls := findClass_of_methodNamed B.named
  have hlocks := B.notSynchronized
  subst hsz
  have hD := hD0.self (sz := s.heap.size)
  generalize hAe : va_A [(h0, .inr (0, [.long f0, .long f1, .long f2, .long f3, .long f4, .long f5]))] s.heap.size = A at hD ⊢
  have hA : ∀ q : Nat, s.heap.size ≤ q → A q := fun q h => by rw [← hAe]; exact Or.inr h
  have hS : va_S A s.heap s.heap [] := va_S.rf
  have hP : va_P (dC, dI) vwCl [(h0, .inr (0, [.long f0, .long f1, .long f2, .long f3, .long f4, .long f5]))] s.heap := hP
  have hl := lv_entry ([.ref h0, .int p0]) (n := 2) (Nat.le_of_ble_eq_true rfl)
  rw [lg_entry_eq]
  generalize (lg_sl ([.ref h0, .int p0]) ++ List.replicate (2 - (lg_sl ([.ref h0, .int p0])).length) Slot.unset).toArray = ls at hl ⊢
  have hl : lv_has ls 2 [(0, .ref h0), (1, .int p0)] := hl
  have hw0 := hts (.fieldLink RX1 16 "RangeBox$Outcome" "yLow" "J") (List.mem_of_getElem? (i := 1) rfl)
  have hi_RX1 : ∀ w ∈ wsX10, w ∈ wsX1_shiftSignedRight := fun _ h => List.mem_cons_of_mem _ (List.mem_append_right _ h)
  have hw2 := hts (.fieldLink RX1 19 "RangeBox$Outcome" "yHigh" "J") (List.mem_of_getElem? (i := 2) rfl)
  have hw3 := hts (.fieldLink RX1 7 "RangeBox$Outcome" "xLow" "J") (List.mem_of_getElem? (i := 3) rfl)
  have hw4 := hts (.fieldLink RX1 13 "RangeBox$Outcome" "xHigh" "J") (List.mem_of_getElem? (i := 4) rfl)
  refine lv_aload_n hx hb dX1_shiftSignedRight_0 rfl (lv_at hl 0 rfl) ?_
  refine va_get (D := (dC, dI)) (ci := 0) (v := .long f2) (C := RX1) (T := TX1) (N := 6) hx hb hts hi_RX1 hown hK hP 0 rfl rfl 2 (by decide) hw0 (fun _ h9 => h9) rfl dX1_shiftSignedRight_1 ?_
  refine lv_aload_n hx hb dX1_shiftSignedRight_4 rfl (lv_at hl 0 rfl) ?_
  refine va_get (D := (dC, dI)) (ci := 0) (v := .long f3) (C := RX1) (T := TX1) (N := 6) hx hb hts hi_RX1 hown hK hP 0 rfl rfl 3 (by decide) hw2 (fun _ h9 => h9) rfl dX1_shiftSignedRight_5 ?_
  refine pl_eq (tgt := 19) hx hb dX1_shiftSignedRight_8 dX1_shiftSignedRight_9 (by decide) (fun c1 => ?_) (fun c1 => ?_)
  · refine lv_aload_n hx hb dX1_shiftSignedRight_19 rfl (lv_at hl 0 rfl) ?_
    refine lv_aload_n hx hb dX1_shiftSignedRight_20 rfl (lv_at hl 0 rfl) ?_
    refine va_get (D := (dC, dI)) (ci := 0) (v := .long f0) (C := RX1) (T := TX1) (N := 6) hx hb hts hi_RX1 hown hK hP 0 rfl rfl 0 (by decide) hw3 (fun _ h9 => h9) rfl dX1_shiftSignedRight_21 ?_
    refine lv_iload_n hx hb dX1_shiftSignedRight_24 rfl (lv_at hl 1 rfl) ?_
    refine lv_lshr (v := pl_shr f0 p0) hx hb dX1_shiftSignedRight_25 rfl ?_
    refine lv_aload_n hx hb dX1_shiftSignedRight_26 rfl (lv_at hl 0 rfl) ?_
    refine va_get (D := (dC, dI)) (ci := 0) (v := .long f1) (C := RX1) (T := TX1) (N := 6) hx hb hts hi_RX1 hown hK hP 0 rfl rfl 1 (by decide) hw4 (fun _ h9 => h9) rfl dX1_shiftSignedRight_27 ?_
    refine lv_iload_n hx hb dX1_shiftSignedRight_30 rfl (lv_at hl 1 rfl) ?_
    refine lv_lshr (v := pl_shr f1 p0) hx hb dX1_shiftSignedRight_31 rfl ?_
    refine wq_callv (wc := [(h0, .inr (0, [.long f0, .long f1, .long f2, .long f3, .long f4, .long f5]))]) (wr := []) (w2 := [(h0, .inr (0, [.long f0, .long f1, .long f2, .long f3, .long (pl_shr f0 p0), .long (pl_shr f1 p0)]))]) (va_runV (As := [.long (pl_shr f0 p0), .long (pl_shr f1 p0)]) (rest := []) ⟨hx, hb, hml, hown, hts⟩ (c_X1_tell l dC dI h0 s.heap.size f0 f1 f2 f3 f4 f5 (pl_shr f0 p0) (pl_shr f1 p0)) (cwV 2 hts gX1_shiftSignedRight_X1_tell rfl rfl rfl ydV_X1_tell ⟨Nat.le_of_ble_eq_true rfl, Nat.le_of_ble_eq_true rfl⟩) (wp_V (hK.sub (tys' := []) [] rfl) (hP.sub (ws' := [(h0, .inr (0, [.long f0, .long f1, .long f2, .long f3, .long f4, .long f5]))]) [0] rfl) (hD.sub (ws' := [(h0, .inr (0, [.long f0, .long f1, .long f2, .long f3, .long f4, .long f5]))]) [0] (by decide) rfl)  rfl rfl) rfl rfl hl.1 rfl (lv_room (Nat.le_of_ble_eq_true rfl)) dX1_shiftSignedRight_32 ⟨Nat.le_of_ble_eq_true rfl, Nat.le_of_ble_eq_true rfl⟩) hP hD hS hA [0] [] [0] rfl rfl rfl (by decide) rfl rfl (fun H locs hP hD hS => ?_)
    have es : (s_X1_shiftSignedRight f0 f1 f2 f3 p0) = ((pl_shr f0 p0), (pl_shr f1 p0)) := by unfold s_X1_shiftSignedRight; rw [if_pos c1]
    exact W.vret hx hb hr (fun t ht hW => by rw [es]; exact ⟨rfl, by rw [ht]; exact hP, hD, hS.F ht⟩) hS.2.2 dX1_shiftSignedRight_35
  · refine lv_aload_n hx hb dX1_shiftSignedRight_12 rfl (lv_at hl 0 rfl) ?_
    refine wq_callv (wc := [(h0, .inr (0, [.long f0, .long f1, .long f2, .long f3, .long f4, .long f5]))]) (wr := []) (w2 := [(h0, .inr (0, [.long f0, .long f1, .long f2, .long f3, .long ((s_X1_shiftRightByAny f0 f1).1), .long ((s_X1_shiftRightByAny f0 f1).2)]))]) (va_runV (As := []) (rest := []) ⟨hx, hb, hml, hown, hts⟩ (c_X1_shiftRightByAny l dC dI h0 s.heap.size f0 f1 f2 f3 f4 f5) (cwV 0 hts gX1_shiftSignedRight_X1_shiftRightByAny rfl rfl rfl ydV_X1_shiftRightByAny ⟨Nat.le_of_ble_eq_true rfl, Nat.le_of_ble_eq_true rfl⟩) (wp_V (hK.sub (tys' := []) [] rfl) (hP.sub (ws' := [(h0, .inr (0, [.long f0, .long f1, .long f2, .long f3, .long f4, .long f5]))]) [0] rfl) (hD.sub (ws' := [(h0, .inr (0, [.long f0, .long f1, .long f2, .long f3, .long f4, .long f5]))]) [0] (by decide) rfl)  rfl rfl) rfl rfl hl.1 rfl (lv_room (Nat.le_of_ble_eq_true rfl)) dX1_shiftSignedRight_13 ⟨Nat.le_of_ble_eq_true rfl, Nat.le_of_ble_eq_true rfl⟩) hP hD hS hA [0] [] [0] rfl rfl rfl (by decide) rfl rfl (fun H locs hP hD hS => ?_)
    refine lv_goto (tgt := 35) hx hb dX1_shiftSignedRight_16 (by decide) ?_
    have es : (s_X1_shiftSignedRight f0 f1 f2 f3 p0) = ((s_X1_shiftRightByAny f0 f1).1, (s_X1_shiftRightByAny f0 f1).2) := by unfold s_X1_shiftSignedRight; rw [if_neg c1]
    exact W.vret hx hb hr (fun t ht hW => by rw [es]; exact ⟨rfl, by rw [ht]; exact hP, hD, hS.F ht⟩) hS.2.2 dX1_shiftSignedRight_35
