theorem ydS_J13_numberOfLeadingZeros_95d88 : yJ13_numberOfLeadingZeros_95d88.cls ≠ "java/lang/invoke/MethodHandle" ∧ yJ13_numberOfLeadingZeros_95d88.cls ≠ "java/lang/invoke/VarHandle" ∧ (parseMethodDescriptor yJ13_numberOfLeadingZeros_95d88.desc).map (fun d => d.parameters.length) = some 1 := by decide +kernel
theorem ydS_J9_addExact_f86c9 : yJ9_addExact_f86c9.cls ≠ "java/lang/invoke/MethodHandle" ∧ yJ9_addExact_f86c9.cls ≠ "java/lang/invoke/VarHandle" ∧ (parseMethodDescriptor yJ9_addExact_f86c9.desc).map (fun d => d.parameters.length) = some 2 := by decide +kernel
theorem ydS_J9_multiplyExact_f86c9 : yJ9_multiplyExact_f86c9.cls ≠ "java/lang/invoke/MethodHandle" ∧ yJ9_multiplyExact_f86c9.cls ≠ "java/lang/invoke/VarHandle" ∧ (parseMethodDescriptor yJ9_multiplyExact_f86c9.desc).map (fun d => d.parameters.length) = some 2 := by decide +kernel
theorem ydS_J9_subtractExact_f86c9 : yJ9_subtractExact_f86c9.cls ≠ "java/lang/invoke/MethodHandle" ∧ yJ9_subtractExact_f86c9.cls ≠ "java/lang/invoke/VarHandle" ∧ (parseMethodDescriptor yJ9_subtractExact_f86c9.desc).map (fun d => d.parameters.length) = some 2 := by decide +kernel
theorem ydV_X3_all : yX3_all.cls = RX3 ∧ yX3_all.cls ≠ "java/lang/invoke/MethodHandle" ∧ yX3_all.cls ≠ "java/lang/invoke/VarHandle" ∧ (parseMethodDescriptor yX3_all.desc).map (fun d => d.parameters.length) = some 0 := by decide +kernel
theorem ydV_X3_ends : yX3_ends.cls = RX3 ∧ yX3_ends.cls ≠ "java/lang/invoke/MethodHandle" ∧ yX3_ends.cls ≠ "java/lang/invoke/VarHandle" ∧ (parseMethodDescriptor yX3_ends.desc).map (fun d => d.parameters.length) = some 5 := by decide +kernel
theorem ydV_X3_whole : yX3_whole.cls = RX3 ∧ yX3_whole.cls ≠ "java/lang/invoke/MethodHandle" ∧ yX3_whole.cls ≠ "java/lang/invoke/VarHandle" ∧ (parseMethodDescriptor yX3_whole.desc).map (fun d => d.parameters.length) = some 3 := by decide +kernel
def s_X3_whole (ft : Int32) (p0 : Int32) (p1 : Int64) (p2 : Int64) : Int64 × Int32 :=
  if p0 = (1 : Int32) then (if (s_J9_addExact p1 p2).1 = (1 : Int32) then ((0 : Int64), (0 : Int32))
    else ((s_J9_addExact p1 p2).2, ft))
  else if p0 = (2 : Int32) then (if (s_J9_subtractExact p1 p2).1 = (1 : Int32) then ((0 : Int64), (0 : Int32))
    else ((s_J9_subtractExact p1 p2).2, ft))
  else if (s_J9_multiplyExact p1 p2).1 = (1 : Int32) then ((0 : Int64), (0 : Int32))
  else ((s_J9_multiplyExact p1 p2).2, ft)
set_option maxHeartbeats 4000000 in
set_option maxRecDepth 100000 in
theorem c_X3_whole (l : Launch) (S0 : Nat) (hst : l.stackTraces = false) (dC : Nat → ClassId) (dI : Nat → Nat → Nat) (g0 r1 r2 sz : Nat) (th : Int32) (fa : Int64) (fb : Int64) (ft : Int32) (xl : Int64) (xh : Int64) (yl : Int64) (yh : Int64) (p0 : Int32) (p1 : Int64) (p2 : Int64) : Met l yX3_whole (wsX3_whole ++ wz_A) ({ frames := 7, cells := 1, slots := 6, locals := 111 }) (twp S0 (dC, dI) vwCl [] [.ref g0, .int p0, .long p1, .long p2] sz [(g0, .inr (2, [.int th, .ref r1, .ref r2, .long fa, .long fb, .int ft, .long xl, .long xh, .long yl, .long yh]))]) (wq (some (.long ((s_X3_whole ft p0 p1 p2).1))) (dC, dI) vwCl [(g0, .inr (2, [.int th, .ref r1, .ref r2, .long fa, .long fb, .int ((s_X3_whole ft p0 p1 p2).2), .long xl, .long xh, .long yl, .long yh]))] (va_A [(g0, .inr (2, [.int th, .ref r1, .ref r2, .long fa, .long fb, .int ft, .long xl, .long xh, .long yl, .long yh]))] sz)) 1 6 (va_A [(g0, .inr (2, [.int th, .ref r1, .ref r2, .long fa, .long fb, .int ft, .long xl, .long xh, .long yl, .long yh]))] sz) := by
  refine va_MetW (cc := cX3_whole) (maxL := 7) (ret := (some .long)) (by decide) rfl ?_
  intro p e s m args below meth c s₁ B hml hv
  obtain ⟨rfl, hsz, hP, hK, hD0, ham⟩ := hv
  have hx := B.exec
  have hb := B.bytes
  have hr := B.returns
  have hts := atoms_spec (ws := (wsX3_whole ++ wz_A)) B.pre
  have hown : s.vm.findClass RX3 = some m.cls := findClass_of_methodNamed B.named
  have hlocks := B.notSynchronized
  subst hsz
  have hD := hD0.self (sz := s.heap.size)
  generalize hAe : va_A [(g0, .inr (2, [.int th, .ref r1, .ref r2, .long fa, .long fb, .int ft, .long xl, .long xh, .long yl, .long yh]))] s.heap.size = A at hD ⊢
  have hA : ∀ q : Nat, s.heap.size ≤ q → A q := fun q h => by rw [← hAe]; exact Or.inr h
  have hS : va_S A s.heap s.heap [] := va_S.rf
  have hP : va_P (dC, dI) vwCl [(g0, .inr (2, [.int th, .ref r1, .ref r2, .long fa, .long fb, .int ft, .long xl, .long xh, .long yl, .long yh]))] s.heap := hP
  have hl := lv_entry ([.ref g0, .int p0, .long p1, .long p2]) (n := 7) (Nat.le_of_ble_eq_true rfl)
  rw [lg_entry_eq]
  generalize (lg_sl ([.ref g0, .int p0, .long p1, .long p2]) ++ List.replicate (7 - (lg_sl ([.ref g0, .int p0, .long p1, .long p2])).length) Slot.unset).toArray = ls at hl ⊢
  have hl : lv_has ls 7 [(0, .ref g0), (1, .int p0), (2, .long p1), (4, .long p2)] := hl
  have htb := vx_table (x := yX3_whole) B (hts _ (List.mem_of_getElem? (i := 0) rfl))
  have hw1 := hts (.fieldLink RX3 63 "RangeBoxModel" "fits" "Z") (List.mem_of_getElem? (i := 1) rfl)
  have hi_RX3 : ∀ w ∈ wsX30, w ∈ (wsX3_whole ++ wz_A) := fun _ h => List.mem_append_left _ (List.mem_cons_of_mem _ (List.mem_append_right _ h))
  refine lv_iload_n hx hb dX3_whole_0 rfl (lv_at hl 1 rfl) ?_
  refine lv_iconst (v := (1 : Int32)) hx hb dX3_whole_1 (by decide) ?_
  refine lv_icmp_ne (tgt := 14) hx hb dX3_whole_2 (by decide) (fun c1 => ?_) (fun c1 => ?_)
  · refine lv_iload_n hx hb dX3_whole_14 rfl (lv_at hl 1 rfl) ?_
    refine lv_iconst (v := (2 : Int32)) hx hb dX3_whole_15 (by decide) ?_
    refine lv_icmp_ne (tgt := 28) hx hb dX3_whole_16 (by decide) (fun c2 => ?_) (fun c2 => ?_)
    · refine lv_lload_n hx hb dX3_whole_28 rfl (lv_at hl 2 rfl) ?_
      refine lv_lload hx hb dX3_whole_29 (lv_at hl 3 rfl) ?_
      refine tq_calll (vx_runS (As := [.long p1, .long p2]) (rest := []) ⟨hx, hb, hml, hown, hts⟩ (c_J9_multiplyExact l S0 hst p1 p2) (va_cwS 2 hts (gz_S wz_A_good gX3_whole_J9_multiplyExact_f86c9) rfl rfl rfl ydS_J9_multiplyExact_f86c9 ⟨Nat.le_of_ble_eq_true rfl, Nat.le_of_ble_eq_true rfl⟩) (tp_S ham) rfl rfl hl.1 rfl (lv_room (Nat.le_of_ble_eq_true rfl)) dX3_whole_31 ⟨Nat.le_of_ble_eq_true rfl, Nat.le_of_ble_eq_true rfl⟩) (fun ce q9 H c3 hz hk hce hcv hcl => ?_) (fun c3 => ?_)
      · have hP : va_P (dC, dI) vwCl [(g0, .inr (2, [.int th, .ref r1, .ref r2, .long fa, .long fb, .int ft, .long xl, .long xh, .long yl, .long yh]))] H := va_P_grow hP hk
        have hS := va_S_grow hS hz hk
        refine zx_catch (x := ⟨0, 34, 35, 61⟩) hown htb (by decide) (by decide) (hts _ (List.mem_append_right _ (List.mem_of_getElem? (i := 2) rfl))) (va_Nw.use rfl ham.2.2.1.2.2.2.2) hce hcv hcl ?_
        refine lv_astore (lv' := [(6, .ref q9), (0, .ref g0), (1, .int p0), (2, .long p1), (4, .long p2)]) hx hb dX3_whole_35 hl (by decide) rfl (fun ls hl => ?_)
        refine lv_aload_n hx hb dX3_whole_37 rfl (lv_at hl 1 rfl) ?_
        refine lv_iconst (v := (0 : Int32)) hx hb dX3_whole_38 (by decide) ?_
        refine va_put (D := (dC, dI)) (ci := 2) (v := .int (0 : Int32)) (ty := .boolean) (C := RX3) (T := TX3) (N := 10) hx hb hts hi_RX3 tyX3 tyX3_ok nmX3 hown hK hP hD hS 0 rfl rfl 5 (by decide) hw1 (fun _ h9 => h9) rfl (tyX3_ok 5 (by decide)) rfl rfl (Nat.le_of_ble_eq_true rfl) dX3_whole_39 (fun H locs hP hD hS => ?_)
        have hP : va_P (dC, dI) vwCl [(g0, .inr (2, [.int th, .ref r1, .ref r2, .long fa, .long fb, .int (0 : Int32), .long xl, .long xh, .long yl, .long yh]))] H := hP
        have hD : va_D A [(g0, .inr (2, [.int th, .ref r1, .ref r2, .long fa, .long fb, .int (0 : Int32), .long xl, .long xh, .long yl, .long yh]))] := hD
        refine lv_lconst (v := (0 : Int64)) hx hb dX3_whole_42 (by decide) ?_
        have es : (s_X3_whole ft p0 p1 p2) = ((0 : Int64), (0 : Int32)) := by unfold s_X3_whole; rw [if_neg c1, if_neg c2, if_pos c3]
        exact W.lret (v := (0 : Int64)) hx hb hr (fun t ht hW => by rw [es]; exact ⟨rfl, by rw [ht]; exact hP, hD, hS.F ht⟩) hS.2.2 dX3_whole_43
      · have es : (s_X3_whole ft p0 p1 p2) = ((s_J9_multiplyExact p1 p2).2, ft) := by unfold s_X3_whole; rw [if_neg c1, if_neg c2, if_neg c3]
        exact W.lret (v := (s_J9_multiplyExact p1 p2).2) hx hb hr (fun t ht hW => by rw [es]; exact ⟨rfl, by rw [ht]; exact hP, hD, hS.F ht⟩) hS.2.2 dX3_whole_34
    · refine lv_lload_n hx hb dX3_whole_19 rfl (lv_at hl 2 rfl) ?_
      refine lv_lload hx hb dX3_whole_20 (lv_at hl 3 rfl) ?_
      refine tq_calll (vx_runS (As := [.long p1, .long p2]) (rest := []) ⟨hx, hb, hml, hown, hts⟩ (c_J9_subtractExact l S0 hst p1 p2) (va_cwS 2 hts (gz_S wz_A_good gX3_whole_J9_subtractExact_f86c9) rfl rfl rfl ydS_J9_subtractExact_f86c9 ⟨Nat.le_of_ble_eq_true rfl, Nat.le_of_ble_eq_true rfl⟩) (tp_S ham) rfl rfl hl.1 rfl (lv_room (Nat.le_of_ble_eq_true rfl)) dX3_whole_22 ⟨Nat.le_of_ble_eq_true rfl, Nat.le_of_ble_eq_true rfl⟩) (fun ce q9 H c4 hz hk hce hcv hcl => ?_) (fun c4 => ?_)
      · have hP : va_P (dC, dI) vwCl [(g0, .inr (2, [.int th, .ref r1, .ref r2, .long fa, .long fb, .int ft, .long xl, .long xh, .long yl, .long yh]))] H := va_P_grow hP hk
        have hS := va_S_grow hS hz hk
        refine zx_catch (x := ⟨0, 34, 35, 61⟩) hown htb (by decide) (by decide) (hts _ (List.mem_append_right _ (List.mem_of_getElem? (i := 2) rfl))) (va_Nw.use rfl ham.2.2.1.2.2.2.2) hce hcv hcl ?_
        refine lv_astore (lv' := [(6, .ref q9), (0, .ref g0), (1, .int p0), (2, .long p1), (4, .long p2)]) hx hb dX3_whole_35 hl (by decide) rfl (fun ls hl => ?_)
        refine lv_aload_n hx hb dX3_whole_37 rfl (lv_at hl 1 rfl) ?_
        refine lv_iconst (v := (0 : Int32)) hx hb dX3_whole_38 (by decide) ?_
        refine va_put (D := (dC, dI)) (ci := 2) (v := .int (0 : Int32)) (ty := .boolean) (C := RX3) (T := TX3) (N := 10) hx hb hts hi_RX3 tyX3 tyX3_ok nmX3 hown hK hP hD hS 0 rfl rfl 5 (by decide) hw1 (fun _ h9 => h9) rfl (tyX3_ok 5 (by decide)) rfl rfl (Nat.le_of_ble_eq_true rfl) dX3_whole_39 (fun H locs hP hD hS => ?_)
        have hP : va_P (dC, dI) vwCl [(g0, .inr (2, [.int th, .ref r1, .ref r2, .long fa, .long fb, .int (0 : Int32), .long xl, .long xh, .long yl, .long yh]))] H := hP
        have hD : va_D A [(g0, .inr (2, [.int th, .ref r1, .ref r2, .long fa, .long fb, .int (0 : Int32), .long xl, .long xh, .long yl, .long yh]))] := hD
        refine lv_lconst (v := (0 : Int64)) hx hb dX3_whole_42 (by decide) ?_
        have es : (s_X3_whole ft p0 p1 p2) = ((0 : Int64), (0 : Int32)) := by unfold s_X3_whole; rw [if_neg c1, if_pos c2, if_pos c4]
        exact W.lret (v := (0 : Int64)) hx hb hr (fun t ht hW => by rw [es]; exact ⟨rfl, by rw [ht]; exact hP, hD, hS.F ht⟩) hS.2.2 dX3_whole_43
      · refine lv_goto (tgt := 34) hx hb dX3_whole_25 (by decide) ?_
        have es : (s_X3_whole ft p0 p1 p2) = ((s_J9_subtractExact p1 p2).2, ft) := by unfold s_X3_whole; rw [if_neg c1, if_pos c2, if_neg c4]
        exact W.lret (v := (s_J9_subtractExact p1 p2).2) hx hb hr (fun t ht hW => by rw [es]; exact ⟨rfl, by rw [ht]; exact hP, hD, hS.F ht⟩) hS.2.2 dX3_whole_34
  · refine lv_lload_n hx hb dX3_whole_5 rfl (lv_at hl 2 rfl) ?_
    refine lv_lload hx hb dX3_whole_6 (lv_at hl 3 rfl) ?_
    refine tq_calll (vx_runS (As := [.long p1, .long p2]) (rest := []) ⟨hx, hb, hml, hown, hts⟩ (c_J9_addExact l S0 hst p1 p2) (va_cwS 2 hts (gz_S wz_A_good gX3_whole_J9_addExact_f86c9) rfl rfl rfl ydS_J9_addExact_f86c9 ⟨Nat.le_of_ble_eq_true rfl, Nat.le_of_ble_eq_true rfl⟩) (tp_S ham) rfl rfl hl.1 rfl (lv_room (Nat.le_of_ble_eq_true rfl)) dX3_whole_8 ⟨Nat.le_of_ble_eq_true rfl, Nat.le_of_ble_eq_true rfl⟩) (fun ce q9 H c5 hz hk hce hcv hcl => ?_) (fun c5 => ?_)
    · have hP : va_P (dC, dI) vwCl [(g0, .inr (2, [.int th, .ref r1, .ref r2, .long fa, .long fb, .int ft, .long xl, .long xh, .long yl, .long yh]))] H := va_P_grow hP hk
      have hS := va_S_grow hS hz hk
      refine zx_catch (x := ⟨0, 34, 35, 61⟩) hown htb (by decide) (by decide) (hts _ (List.mem_append_right _ (List.mem_of_getElem? (i := 2) rfl))) (va_Nw.use rfl ham.2.2.1.2.2.2.2) hce hcv hcl ?_
      refine lv_astore (lv' := [(6, .ref q9), (0, .ref g0), (1, .int p0), (2, .long p1), (4, .long p2)]) hx hb dX3_whole_35 hl (by decide) rfl (fun ls hl => ?_)
      refine lv_aload_n hx hb dX3_whole_37 rfl (lv_at hl 1 rfl) ?_
      refine lv_iconst (v := (0 : Int32)) hx hb dX3_whole_38 (by decide) ?_
      refine va_put (D := (dC, dI)) (ci := 2) (v := .int (0 : Int32)) (ty := .boolean) (C := RX3) (T := TX3) (N := 10) hx hb hts hi_RX3 tyX3 tyX3_ok nmX3 hown hK hP hD hS 0 rfl rfl 5 (by decide) hw1 (fun _ h9 => h9) rfl (tyX3_ok 5 (by decide)) rfl rfl (Nat.le_of_ble_eq_true rfl) dX3_whole_39 (fun H locs hP hD hS => ?_)
      have hP : va_P (dC, dI) vwCl [(g0, .inr (2, [.int th, .ref r1, .ref r2, .long fa, .long fb, .int (0 : Int32), .long xl, .long xh, .long yl, .long yh]))] H := hP
      have hD : va_D A [(g0, .inr (2, [.int th, .ref r1, .ref r2, .long fa, .long fb, .int (0 : Int32), .long xl, .long xh, .long yl, .long yh]))] := hD
      refine lv_lconst (v := (0 : Int64)) hx hb dX3_whole_42 (by decide) ?_
      have es : (s_X3_whole ft p0 p1 p2) = ((0 : Int64), (0 : Int32)) := by unfold s_X3_whole; rw [if_pos c1, if_pos c5]
      exact W.lret (v := (0 : Int64)) hx hb hr (fun t ht hW => by rw [es]; exact ⟨rfl, by rw [ht]; exact hP, hD, hS.F ht⟩) hS.2.2 dX3_whole_43
    · refine lv_goto (tgt := 34) hx hb dX3_whole_11 (by decide) ?_
      have es : (s_X3_whole ft p0 p1 p2) = ((s_J9_addExact p1 p2).2, ft) := by unfold s_X3_whole; rw [if_pos c1, if_neg c5]
      exact W.lret (v := (s_J9_addExact p1 p2).2) hx hb hr (fun t ht hW => by rw [es]; exact ⟨rfl, by rw [ht]; exact hP, hD, hS.F ht⟩) hS.2.2 dX3_whole_34

def s_X3_ends (p0 : Int32) (p1 : Int64) (p2 : Int64) (p3 : Int64) (p4 : Int64) : Int64 × Int64 × Int32 :=
  if (s_X3_whole ((s_X3_whole ((s_X3_whole ((s_X3_whole (1 : Int32) p0 p1 p3).2) p0 p1 p4).2) p0 p2 p3).2) p0 p2 p4).2 = (0 : Int32) then ((-9223372036854775808 : Int64), (9223372036854775807 : Int64), ((s_X3_whole ((s_X3_whole ((s_X3_whole ((s_X3_whole (1 : Int32) p0 p1 p3).2) p0 p1 p4).2) p0 p2 p3).2) p0 p2 p4).2))
  else ((pl_min (pl_min ((s_X3_whole (1 : Int32) p0 p1 p3).1) ((s_X3_whole ((s_X3_whole (1 : Int32) p0 p1 p3).2) p0 p1 p4).1)) (pl_min ((s_X3_whole ((s_X3_whole ((s_X3_whole (1 : Int32) p0 p1 p3).2) p0 p1 p4).2) p0 p2 p3).1) ((s_X3_whole ((s_X3_whole ((s_X3_whole ((s_X3_whole (1 : Int32) p0 p1 p3).2) p0 p1 p4).2) p0 p2 p3).2) p0 p2 p4).1))), (pl_max (pl_max ((s_X3_whole (1 : Int32) p0 p1 p3).1) ((s_X3_whole ((s_X3_whole (1 : Int32) p0 p1 p3).2) p0 p1 p4).1)) (pl_max ((s_X3_whole ((s_X3_whole ((s_X3_whole (1 : Int32) p0 p1 p3).2) p0 p1 p4).2) p0 p2 p3).1) ((s_X3_whole ((s_X3_whole ((s_X3_whole ((s_X3_whole (1 : Int32) p0 p1 p3).2) p0 p1 p4).2) p0 p2 p3).2) p0 p2 p4).1))), ((s_X3_whole ((s_X3_whole ((s_X3_whole ((s_X3_whole (1 : Int32) p0 p1 p3).2) p0 p1 p4).2) p0 p2 p3).2) p0 p2 p4).2))
set_option maxHeartbeats 4000000 in
set_option maxRecDepth 100000 in
theorem c_X3_ends (l : Launch) (S0 : Nat) (hst : l.stackTraces = false) (dC : Nat → ClassId) (dI : Nat → Nat → Nat) (g0 r1 r2 sz : Nat) (th : Int32) (fa : Int64) (fb : Int64) (ft : Int32) (xl : Int64) (xh : Int64) (yl : Int64) (yh : Int64) (p0 : Int32) (p1 : Int64) (p2 : Int64) (p3 : Int64) (p4 : Int64) (hS0 : ∀ q, va_A [(g0, .inr (2, [.int th, .ref r1, .ref r2, .long fa, .long fb, .int ft, .long xl, .long xh, .long yl, .long yh]))] sz q → S0 ≤ q) : Met l yX3_ends (wsX3_ends ++ wz_A) ({ frames := 8, cells := 4, slots := 24, locals := 137 }) (twp S0 (dC, dI) vwCl [] [.ref g0, .int p0, .long p1, .long p2, .long p3, .long p4] sz [(g0, .inr (2, [.int th, .ref r1, .ref r2, .long fa, .long fb, .int ft, .long xl, .long xh, .long yl, .long yh]))]) (wq none (dC, dI) vwCl [(g0, .inr (2, [.int th, .ref r1, .ref r2, .long ((s_X3_ends p0 p1 p2 p3 p4).1), .long ((s_X3_ends p0 p1 p2 p3 p4).2.1), .int ((s_X3_ends p0 p1 p2 p3 p4).2.2), .long xl, .long xh, .long yl, .long yh]))] (va_A [(g0, .inr (2, [.int th, .ref r1, .ref r2, .long fa, .long fb, .int ft, .long xl, .long xh, .long yl, .long yh]))] sz)) 4 24 (va_A [(g0, .inr (2, [.int th, .ref r1, .ref r2, .long fa, .long fb, .int ft, .long xl, .long xh, .long yl, .long yh]))] sz) := by
  refine Met.ofW (cc := cX3_ends) (maxL := 18) (ret := none) (by decide) rfl ?_
  intro p e s m args below meth c s₁ B hml hv
  obtain ⟨rfl, hsz, hP, hK, hD0, ham⟩ := hv
  have hx := B.exec
  have hb := B.bytes
  have hr := B.returns
  have hts := atoms_spec (ws := (wsX3_ends ++ wz_A)) B.pre
  have hown : s.vm.findClass RX3 = some m.cls := findClass_of_methodNamed B.named
  have hlocks := B.notSynchronized
  subst hsz
  have hD := hD0.self (sz := s.heap.size)
  generalize hAe : va_A [(g0, .inr (2, [.int th, .ref r1, .ref r2, .long fa, .long fb, .int ft, .long xl, .long xh, .long yl, .long yh]))] s.heap.size = A at hD ⊢
  have hA : ∀ q : Nat, s.heap.size ≤ q → A q := fun q h => by rw [← hAe]; exact Or.inr h
  have hS : va_S A s.heap s.heap [] := va_S.rf
  have hS1 : ∀ q, A q → S0 ≤ q := fun q h => hS0 q (by rw [hAe]; exact h)
  have hP : va_P (dC, dI) vwCl [(g0, .inr (2, [.int th, .ref r1, .ref r2, .long fa, .long fb, .int ft, .long xl, .long xh, .long yl, .long yh]))] s.heap := hP
  have hl := lv_entry ([.ref g0, .int p0, .long p1, .long p2, .long p3, .long p4]) (n := 18) (Nat.le_of_ble_eq_true rfl)
  rw [lg_entry_eq]
  generalize (lg_sl ([.ref g0, .int p0, .long p1, .long p2, .long p3, .long p4]) ++ List.replicate (18 - (lg_sl ([.ref g0, .int p0, .long p1, .long p2, .long p3, .long p4])).length) Slot.unset).toArray = ls at hl ⊢
  have hl : lv_has ls 18 [(0, .ref g0), (1, .int p0), (2, .long p1), (4, .long p2), (6, .long p3), (8, .long p4)] := hl
  have hw0 := hts (.fieldLink RX3 63 "RangeBoxModel" "fits" "Z") (List.mem_of_getElem? (i := 1) rfl)
  have hi_RX3 : ∀ w ∈ wsX30, w ∈ (wsX3_ends ++ wz_A) := fun _ h => List.mem_append_left _ (List.mem_cons_of_mem _ (List.mem_append_right _ h))
  have hw2 := hts (.methodLink RX3 71 Lib.MathLoose.min_long.x) (List.mem_of_getElem? (i := 2) rfl)
  have hw3 := hts (.static Lib.MathLoose.min_long.x) (List.mem_of_getElem? (i := 3) rfl)
  have hw4 := hts (.initialized "java/lang/Math") (List.mem_of_getElem? (i := 4) rfl)
  have hw5 := hts (.code Lib.MathLoose.min_long.x Lib.MathLoose.min_long.code 4 (some .long)) (List.mem_of_getElem? (i := 5) rfl)
  have hw6 := hts (.methodLink RX3 74 Lib.MathLoose.max_long.x) (List.mem_of_getElem? (i := 6) rfl)
  have hw7 := hts (.static Lib.MathLoose.max_long.x) (List.mem_of_getElem? (i := 7) rfl)
  have hw8 := hts (.code Lib.MathLoose.max_long.x Lib.MathLoose.max_long.code 4 (some .long)) (List.mem_of_getElem? (i := 8) rfl)
  refine lv_aload_n hx hb dX3_ends_0 rfl (lv_at hl 0 rfl) ?_
  refine lv_iconst (v := (1 : Int32)) hx hb dX3_ends_1 (by decide) ?_
  refine va_put (D := (dC, dI)) (ci := 2) (v := .int (1 : Int32)) (ty := .boolean) (C := RX3) (T := TX3) (N := 10) hx hb hts hi_RX3 tyX3 tyX3_ok nmX3 hown hK hP hD hS 0 rfl rfl 5 (by decide) hw0 (fun _ h9 => h9) rfl (tyX3_ok 5 (by decide)) rfl rfl (Nat.le_of_ble_eq_true rfl) dX3_ends_2 (fun H locs hP hD hS => ?_)
  have hP : va_P (dC, dI) vwCl [(g0, .inr (2, [.int th, .ref r1, .ref r2, .long fa, .long fb, .int (1 : Int32), .long xl, .long xh, .long yl, .long yh]))] H := hP
  have hD : va_D A [(g0, .inr (2, [.int th, .ref r1, .ref r2, .long fa, .long fb, .int (1 : Int32), .long xl, .long xh, .long yl, .long yh]))] := hD
  refine lv_aload_n hx hb dX3_ends_5 rfl (lv_at hl 0 rfl) ?_
  refine lv_iload_n hx hb dX3_ends_6 rfl (lv_at hl 1 rfl) ?_
  refine lv_lload_n hx hb dX3_ends_7 rfl (lv_at hl 2 rfl) ?_
  refine lv_lload hx hb dX3_ends_8 (lv_at hl 4 rfl) ?_
  refine wq_calll (wc := [(g0, .inr (2, [.int th, .ref r1, .ref r2, .long fa, .long fb, .int (1 : Int32), .long xl, .long xh, .long yl, .long yh]))]) (wr := []) (w2 := [(g0, .inr (2, [.int th, .ref r1, .ref r2, .long fa, .long fb, .int ((s_X3_whole (1 : Int32) p0 p1 p3).2), .long xl, .long xh, .long yl, .long yh]))]) (vx_runVW (As := [.int p0, .long p1, .long p3]) (rest := []) ⟨hx, hb, hml, hown, hts⟩ (c_X3_whole l S0 hst dC dI g0 r1 r2 H.size th fa fb (1 : Int32) xl xh yl yh p0 p1 p3) (vx_cwVW 3 hts (gz_V wz_A_good gX3_ends_X3_whole) rfl rfl rfl ydV_X3_whole ⟨Nat.le_of_ble_eq_true rfl, Nat.le_of_ble_eq_true rfl⟩) (twp_V (hK.sub (tys' := []) [] rfl) (hP.sub (ws' := [(g0, .inr (2, [.int th, .ref r1, .ref r2, .long fa, .long fb, .int (1 : Int32), .long xl, .long xh, .long yl, .long yh]))]) [0] rfl) (hD.sub (ws' := [(g0, .inr (2, [.int th, .ref r1, .ref r2, .long fa, .long fb, .int (1 : Int32), .long xl, .long xh, .long yl, .long yh]))]) [0] (by decide) rfl) (ham.kept (fun a h1 h2 => hS.2.1 a h1 (fun h3 => h2 (hS1 a h3)))) rfl rfl) rfl rfl hl.1 rfl (lv_room (Nat.le_of_ble_eq_true rfl)) dX3_ends_10 ⟨Nat.le_of_ble_eq_true rfl, Nat.le_of_ble_eq_true rfl⟩) hP hD hS hA [0] [] [0] rfl rfl rfl (by decide) rfl rfl (fun H locs hP hD hS => ?_)
  refine lv_lstore (lv' := [(10, .long ((s_X3_whole (1 : Int32) p0 p1 p3).1)), (0, .ref g0), (1, .int p0), (2, .long p1), (4, .long p2), (6, .long p3), (8, .long p4)]) hx hb dX3_ends_13 hl (by decide) rfl (fun ls hl => ?_)
  refine lv_aload_n hx hb dX3_ends_15 rfl (lv_at hl 1 rfl) ?_
  refine lv_iload_n hx hb dX3_ends_16 rfl (lv_at hl 2 rfl) ?_
  refine lv_lload_n hx hb dX3_ends_17 rfl (lv_at hl 3 rfl) ?_
  refine lv_lload hx hb dX3_ends_18 (lv_at hl 6 rfl) ?_
  refine wq_calll (wc := [(g0, .inr (2, [.int th, .ref r1, .ref r2, .long fa, .long fb, .int ((s_X3_whole (1 : Int32) p0 p1 p3).2), .long xl, .long xh, .long yl, .long yh]))]) (wr := []) (w2 := [(g0, .inr (2, [.int th, .ref r1, .ref r2, .long fa, .long fb, .int ((s_X3_whole ((s_X3_whole (1 : Int32) p0 p1 p3).2) p0 p1 p4).2), .long xl, .long xh, .long yl, .long yh]))]) (vx_runVW (As := [.int p0, .long p1, .long p4]) (rest := []) ⟨hx, hb, hml, hown, hts⟩ (c_X3_whole l S0 hst dC dI g0 r1 r2 H.size th fa fb ((s_X3_whole (1 : Int32) p0 p1 p3).2) xl xh yl yh p0 p1 p4) (vx_cwVW 3 hts (gz_V wz_A_good gX3_ends_X3_whole) rfl rfl rfl ydV_X3_whole ⟨Nat.le_of_ble_eq_true rfl, Nat.le_of_ble_eq_true rfl⟩) (twp_V (hK.sub (tys' := []) [] rfl) (hP.sub (ws' := [(g0, .inr (2, [.int th, .ref r1, .ref r2, .long fa, .long fb, .int ((s_X3_whole (1 : Int32) p0 p1 p3).2), .long xl, .long xh, .long yl, .long yh]))]) [0] rfl) (hD.sub (ws' := [(g0, .inr (2, [.int th, .ref r1, .ref r2, .long fa, .long fb, .int ((s_X3_whole (1 : Int32) p0 p1 p3).2), .long xl, .long xh, .long yl, .long yh]))]) [0] (by decide) rfl) (ham.kept (fun a h1 h2 => hS.2.1 a h1 (fun h3 => h2 (hS1 a h3)))) rfl rfl) rfl rfl hl.1 rfl (lv_room (Nat.le_of_ble_eq_true rfl)) dX3_ends_20 ⟨Nat.le_of_ble_eq_true rfl, Nat.le_of_ble_eq_true rfl⟩) hP hD hS hA [0] [] [0] rfl rfl rfl (by decide) rfl rfl (fun H locs hP hD hS => ?_)
  refine lv_lstore (lv' := [(12, .long ((s_X3_whole ((s_X3_whole (1 : Int32) p0 p1 p3).2) p0 p1 p4).1)), (10, .long ((s_X3_whole (1 : Int32) p0 p1 p3).1)), (0, .ref g0), (1, .int p0), (2, .long p1), (4, .long p2), (6, .long p3), (8, .long p4)]) hx hb dX3_ends_23 hl (by decide) rfl (fun ls hl => ?_)
  refine lv_aload_n hx hb dX3_ends_25 rfl (lv_at hl 2 rfl) ?_
  refine lv_iload_n hx hb dX3_ends_26 rfl (lv_at hl 3 rfl) ?_
  refine lv_lload hx hb dX3_ends_27 (lv_at hl 5 rfl) ?_
  refine lv_lload hx hb dX3_ends_29 (lv_at hl 6 rfl) ?_
  refine wq_calll (wc := [(g0, .inr (2, [.int th, .ref r1, .ref r2, .long fa, .long fb, .int ((s_X3_whole ((s_X3_whole (1 : Int32) p0 p1 p3).2) p0 p1 p4).2), .long xl, .long xh, .long yl, .long yh]))]) (wr := []) (w2 := [(g0, .inr (2, [.int th, .ref r1, .ref r2, .long fa, .long fb, .int ((s_X3_whole ((s_X3_whole ((s_X3_whole (1 : Int32) p0 p1 p3).2) p0 p1 p4).2) p0 p2 p3).2), .long xl, .long xh, .long yl, .long yh]))]) (vx_runVW (As := [.int p0, .long p2, .long p3]) (rest := []) ⟨hx, hb, hml, hown, hts⟩ (c_X3_whole l S0 hst dC dI g0 r1 r2 H.size th fa fb ((s_X3_whole ((s_X3_whole (1 : Int32) p0 p1 p3).2) p0 p1 p4).2) xl xh yl yh p0 p2 p3) (vx_cwVW 3 hts (gz_V wz_A_good gX3_ends_X3_whole) rfl rfl rfl ydV_X3_whole ⟨Nat.le_of_ble_eq_true rfl, Nat.le_of_ble_eq_true rfl⟩) (twp_V (hK.sub (tys' := []) [] rfl) (hP.sub (ws' := [(g0, .inr (2, [.int th, .ref r1, .ref r2, .long fa, .long fb, .int ((s_X3_whole ((s_X3_whole (1 : Int32) p0 p1 p3).2) p0 p1 p4).2), .long xl, .long xh, .long yl, .long yh]))]) [0] rfl) (hD.sub (ws' := [(g0, .inr (2, [.int th, .ref r1, .ref r2, .long fa, .long fb, .int ((s_X3_whole ((s_X3_whole (1 : Int32) p0 p1 p3).2) p0 p1 p4).2), .long xl, .long xh, .long yl, .long yh]))]) [0] (by decide) rfl) (ham.kept (fun a h1 h2 => hS.2.1 a h1 (fun h3 => h2 (hS1 a h3)))) rfl rfl) rfl rfl hl.1 rfl (lv_room (Nat.le_of_ble_eq_true rfl)) dX3_ends_31 ⟨Nat.le_of_ble_eq_true rfl, Nat.le_of_ble_eq_true rfl⟩) hP hD hS hA [0] [] [0] rfl rfl rfl (by decide) rfl rfl (fun H locs hP hD hS => ?_)
  refine lv_lstore (lv' := [(14, .long ((s_X3_whole ((s_X3_whole ((s_X3_whole (1 : Int32) p0 p1 p3).2) p0 p1 p4).2) p0 p2 p3).1)), (12, .long ((s_X3_whole ((s_X3_whole (1 : Int32) p0 p1 p3).2) p0 p1 p4).1)), (10, .long ((s_X3_whole (1 : Int32) p0 p1 p3).1)), (0, .ref g0), (1, .int p0), (2, .long p1), (4, .long p2), (6, .long p3), (8, .long p4)]) hx hb dX3_ends_34 hl (by decide) rfl (fun ls hl => ?_)
  refine lv_aload_n hx hb dX3_ends_36 rfl (lv_at hl 3 rfl) ?_
  refine lv_iload_n hx hb dX3_ends_37 rfl (lv_at hl 4 rfl) ?_
  refine lv_lload hx hb dX3_ends_38 (lv_at hl 6 rfl) ?_
  refine lv_lload hx hb dX3_ends_40 (lv_at hl 8 rfl) ?_
  refine wq_calll (wc := [(g0, .inr (2, [.int th, .ref r1, .ref r2, .long fa, .long fb, .int ((s_X3_whole ((s_X3_whole ((s_X3_whole (1 : Int32) p0 p1 p3).2) p0 p1 p4).2) p0 p2 p3).2), .long xl, .long xh, .long yl, .long yh]))]) (wr := []) (w2 := [(g0, .inr (2, [.int th, .ref r1, .ref r2, .long fa, .long fb, .int ((s_X3_whole ((s_X3_whole ((s_X3_whole ((s_X3_whole (1 : Int32) p0 p1 p3).2) p0 p1 p4).2) p0 p2 p3).2) p0 p2 p4).2), .long xl, .long xh, .long yl, .long yh]))]) (vx_runVW (As := [.int p0, .long p2, .long p4]) (rest := []) ⟨hx, hb, hml, hown, hts⟩ (c_X3_whole l S0 hst dC dI g0 r1 r2 H.size th fa fb ((s_X3_whole ((s_X3_whole ((s_X3_whole (1 : Int32) p0 p1 p3).2) p0 p1 p4).2) p0 p2 p3).2) xl xh yl yh p0 p2 p4) (vx_cwVW 3 hts (gz_V wz_A_good gX3_ends_X3_whole) rfl rfl rfl ydV_X3_whole ⟨Nat.le_of_ble_eq_true rfl, Nat.le_of_ble_eq_true rfl⟩) (twp_V (hK.sub (tys' := []) [] rfl) (hP.sub (ws' := [(g0, .inr (2, [.int th, .ref r1, .ref r2, .long fa, .long fb, .int ((s_X3_whole ((s_X3_whole ((s_X3_whole (1 : Int32) p0 p1 p3).2) p0 p1 p4).2) p0 p2 p3).2), .long xl, .long xh, .long yl, .long yh]))]) [0] rfl) (hD.sub (ws' := [(g0, .inr (2, [.int th, .ref r1, .ref r2, .long fa, .long fb, .int ((s_X3_whole ((s_X3_whole ((s_X3_whole (1 : Int32) p0 p1 p3).2) p0 p1 p4).2) p0 p2 p3).2), .long xl, .long xh, .long yl, .long yh]))]) [0] (by decide) rfl) (ham.kept (fun a h1 h2 => hS.2.1 a h1 (fun h3 => h2 (hS1 a h3)))) rfl rfl) rfl rfl hl.1 rfl (lv_room (Nat.le_of_ble_eq_true rfl)) dX3_ends_42 ⟨Nat.le_of_ble_eq_true rfl, Nat.le_of_ble_eq_true rfl⟩) hP hD hS hA [0] [] [0] rfl rfl rfl (by decide) rfl rfl (fun H locs hP hD hS => ?_)
  refine lv_lstore (lv' := [(16, .long ((s_X3_whole ((s_X3_whole ((s_X3_whole ((s_X3_whole (1 : Int32) p0 p1 p3).2) p0 p1 p4).2) p0 p2 p3).2) p0 p2 p4).1)), (14, .long ((s_X3_whole ((s_X3_whole ((s_X3_whole (1 : Int32) p0 p1 p3).2) p0 p1 p4).2) p0 p2 p3).1)), (12, .long ((s_X3_whole ((s_X3_whole (1 : Int32) p0 p1 p3).2) p0 p1 p4).1)), (10, .long ((s_X3_whole (1 : Int32) p0 p1 p3).1)), (0, .ref g0), (1, .int p0), (2, .long p1), (4, .long p2), (6, .long p3), (8, .long p4)]) hx hb dX3_ends_45 hl (by decide) rfl (fun ls hl => ?_)
  refine lv_aload_n hx hb dX3_ends_47 rfl (lv_at hl 4 rfl) ?_
  refine va_get (D := (dC, dI)) (ci := 2) (v := .int ((s_X3_whole ((s_X3_whole ((s_X3_whole ((s_X3_whole (1 : Int32) p0 p1 p3).2) p0 p1 p4).2) p0 p2 p3).2) p0 p2 p4).2)) (C := RX3) (T := TX3) (N := 10) hx hb hts hi_RX3 hown hK hP 0 rfl rfl 5 (by decide) hw0 (fun _ h9 => h9) rfl dX3_ends_48 ?_
  refine lv_if_eq (tgt := 95) hx hb dX3_ends_51 (by decide) (fun c1 => ?_) (fun c1 => ?_)
  · refine lv_aload_n hx hb dX3_ends_95 rfl (lv_at hl 4 rfl) ?_
    refine wq_callv (wc := [(g0, .inr (2, [.int th, .ref r1, .ref r2, .long fa, .long fb, .int ((s_X3_whole ((s_X3_whole ((s_X3_whole ((s_X3_whole (1 : Int32) p0 p1 p3).2) p0 p1 p4).2) p0 p2 p3).2) p0 p2 p4).2), .long xl, .long xh, .long yl, .long yh]))]) (wr := []) (w2 := [(g0, .inr (2, [.int th, .ref r1, .ref r2, .long (-9223372036854775808 : Int64), .long (9223372036854775807 : Int64), .int ((s_X3_whole ((s_X3_whole ((s_X3_whole ((s_X3_whole (1 : Int32) p0 p1 p3).2) p0 p1 p4).2) p0 p2 p3).2) p0 p2 p4).2), .long xl, .long xh, .long yl, .long yh]))]) (va_runV (As := []) (rest := []) ⟨hx, hb, hml, hown, hts⟩ (c_X3_all l dC dI g0 r1 r2 H.size th fa fb ((s_X3_whole ((s_X3_whole ((s_X3_whole ((s_X3_whole (1 : Int32) p0 p1 p3).2) p0 p1 p4).2) p0 p2 p3).2) p0 p2 p4).2) xl xh yl yh) (cwV 0 hts (gz_l gX3_ends_X3_all) rfl rfl rfl ydV_X3_all ⟨Nat.le_of_ble_eq_true rfl, Nat.le_of_ble_eq_true rfl⟩) (wp_V (hK.sub (tys' := []) [] rfl) (hP.sub (ws' := [(g0, .inr (2, [.int th, .ref r1, .ref r2, .long fa, .long fb, .int ((s_X3_whole ((s_X3_whole ((s_X3_whole ((s_X3_whole (1 : Int32) p0 p1 p3).2) p0 p1 p4).2) p0 p2 p3).2) p0 p2 p4).2), .long xl, .long xh, .long yl, .long yh]))]) [0] rfl) (hD.sub (ws' := [(g0, .inr (2, [.int th, .ref r1, .ref r2, .long fa, .long fb, .int ((s_X3_whole ((s_X3_whole ((s_X3_whole ((s_X3_whole (1 : Int32) p0 p1 p3).2) p0 p1 p4).2) p0 p2 p3).2) p0 p2 p4).2), .long xl, .long xh, .long yl, .long yh]))]) [0] (by decide) rfl)  rfl rfl) rfl rfl hl.1 rfl (lv_room (Nat.le_of_ble_eq_true rfl)) dX3_ends_96 ⟨Nat.le_of_ble_eq_true rfl, Nat.le_of_ble_eq_true rfl⟩) hP hD hS hA [0] [] [0] rfl rfl rfl (by decide) rfl rfl (fun H locs hP hD hS => ?_)
    have es : (s_X3_ends p0 p1 p2 p3 p4) = ((-9223372036854775808 : Int64), (9223372036854775807 : Int64), ((s_X3_whole ((s_X3_whole ((s_X3_whole ((s_X3_whole (1 : Int32) p0 p1 p3).2) p0 p1 p4).2) p0 p2 p3).2) p0 p2 p4).2)) := by unfold s_X3_ends; rw [if_pos c1]
    exact W.vret hx hb hr (fun t ht hW => by rw [es]; exact ⟨rfl, by rw [ht]; exact hP, hD, hS.F ht⟩) hS.2.2 dX3_ends_99
  · refine lv_aload_n hx hb dX3_ends_54 rfl (lv_at hl 4 rfl) ?_
    refine lv_lload hx hb dX3_ends_55 (lv_at hl 3 rfl) ?_
    refine lv_lload hx hb dX3_ends_57 (lv_at hl 2 rfl) ?_
    refine pm_min hx hb (hml.trans hl.1.symm) hown hw2 hw3 hw4 hw5 (Nat.le_of_ble_eq_true rfl) (Nat.le_of_ble_eq_true rfl) (Nat.le_of_ble_eq_true rfl) (Nat.le_of_ble_eq_true rfl) dX3_ends_59 ?_
    refine lv_lload hx hb dX3_ends_62 (lv_at hl 1 rfl) ?_
    refine lv_lload hx hb dX3_ends_64 (lv_at hl 0 rfl) ?_
    refine pm_min hx hb (hml.trans hl.1.symm) hown hw2 hw3 hw4 hw5 (Nat.le_of_ble_eq_true rfl) (Nat.le_of_ble_eq_true rfl) (Nat.le_of_ble_eq_true rfl) (Nat.le_of_ble_eq_true rfl) dX3_ends_66 ?_
    refine pm_min hx hb (hml.trans hl.1.symm) hown hw2 hw3 hw4 hw5 (Nat.le_of_ble_eq_true rfl) (Nat.le_of_ble_eq_true rfl) (Nat.le_of_ble_eq_true rfl) (Nat.le_of_ble_eq_true rfl) dX3_ends_69 ?_
    refine lv_lload hx hb dX3_ends_72 (lv_at hl 3 rfl) ?_
    refine lv_lload hx hb dX3_ends_74 (lv_at hl 2 rfl) ?_
    refine pm_max hx hb (hml.trans hl.1.symm) hown hw6 hw7 hw4 hw8 (Nat.le_of_ble_eq_true rfl) (Nat.le_of_ble_eq_true rfl) (Nat.le_of_ble_eq_true rfl) (Nat.le_of_ble_eq_true rfl) dX3_ends_76 ?_
    refine lv_lload hx hb dX3_ends_79 (lv_at hl 1 rfl) ?_
    refine lv_lload hx hb dX3_ends_81 (lv_at hl 0 rfl) ?_
    refine pm_max hx hb (hml.trans hl.1.symm) hown hw6 hw7 hw4 hw8 (Nat.le_of_ble_eq_true rfl) (Nat.le_of_ble_eq_true rfl) (Nat.le_of_ble_eq_true rfl) (Nat.le_of_ble_eq_true rfl) dX3_ends_83 ?_
    refine pm_max hx hb (hml.trans hl.1.symm) hown hw6 hw7 hw4 hw8 (Nat.le_of_ble_eq_true rfl) (Nat.le_of_ble_eq_true rfl) (Nat.le_of_ble_eq_true rfl) (Nat.le_of_ble_eq_true rfl) dX3_ends_86 ?_
    refine wq_callv (wc := [(g0, .inr (2, [.int th, .ref r1, .ref r2, .long fa, .long fb, .int ((s_X3_whole ((s_X3_whole ((s_X3_whole ((s_X3_whole (1 : Int32) p0 p1 p3).2) p0 p1 p4).2) p0 p2 p3).2) p0 p2 p4).2), .long xl, .long xh, .long yl, .long yh]))]) (wr := []) (w2 := [(g0, .inr (2, [.int th, .ref r1, .ref r2, .long (pl_min (pl_min ((s_X3_whole (1 : Int32) p0 p1 p3).1) ((s_X3_whole ((s_X3_whole (1 : Int32) p0 p1 p3).2) p0 p1 p4).1)) (pl_min ((s_X3_whole ((s_X3_whole ((s_X3_whole (1 : Int32) p0 p1 p3).2) p0 p1 p4).2) p0 p2 p3).1) ((s_X3_whole ((s_X3_whole ((s_X3_whole ((s_X3_whole (1 : Int32) p0 p1 p3).2) p0 p1 p4).2) p0 p2 p3).2) p0 p2 p4).1))), .long (pl_max (pl_max ((s_X3_whole (1 : Int32) p0 p1 p3).1) ((s_X3_whole ((s_X3_whole (1 : Int32) p0 p1 p3).2) p0 p1 p4).1)) (pl_max ((s_X3_whole ((s_X3_whole ((s_X3_whole (1 : Int32) p0 p1 p3).2) p0 p1 p4).2) p0 p2 p3).1) ((s_X3_whole ((s_X3_whole ((s_X3_whole ((s_X3_whole (1 : Int32) p0 p1 p3).2) p0 p1 p4).2) p0 p2 p3).2) p0 p2 p4).1))), .int ((s_X3_whole ((s_X3_whole ((s_X3_whole ((s_X3_whole (1 : Int32) p0 p1 p3).2) p0 p1 p4).2) p0 p2 p3).2) p0 p2 p4).2), .long xl, .long xh, .long yl, .long yh]))]) (va_runV (As := [.long (pl_min (pl_min ((s_X3_whole (1 : Int32) p0 p1 p3).1) ((s_X3_whole ((s_X3_whole (1 : Int32) p0 p1 p3).2) p0 p1 p4).1)) (pl_min ((s_X3_whole ((s_X3_whole ((s_X3_whole (1 : Int32) p0 p1 p3).2) p0 p1 p4).2) p0 p2 p3).1) ((s_X3_whole ((s_X3_whole ((s_X3_whole ((s_X3_whole (1 : Int32) p0 p1 p3).2) p0 p1 p4).2) p0 p2 p3).2) p0 p2 p4).1))), .long (pl_max (pl_max ((s_X3_whole (1 : Int32) p0 p1 p3).1) ((s_X3_whole ((s_X3_whole (1 : Int32) p0 p1 p3).2) p0 p1 p4).1)) (pl_max ((s_X3_whole ((s_X3_whole ((s_X3_whole (1 : Int32) p0 p1 p3).2) p0 p1 p4).2) p0 p2 p3).1) ((s_X3_whole ((s_X3_whole ((s_X3_whole ((s_X3_whole (1 : Int32) p0 p1 p3).2) p0 p1 p4).2) p0 p2 p3).2) p0 p2 p4).1)))]) (rest := []) ⟨hx, hb, hml, hown, hts⟩ (c_X3_between l dC dI g0 r1 r2 H.size th fa fb ((s_X3_whole ((s_X3_whole ((s_X3_whole ((s_X3_whole (1 : Int32) p0 p1 p3).2) p0 p1 p4).2) p0 p2 p3).2) p0 p2 p4).2) xl xh yl yh (pl_min (pl_min ((s_X3_whole (1 : Int32) p0 p1 p3).1) ((s_X3_whole ((s_X3_whole (1 : Int32) p0 p1 p3).2) p0 p1 p4).1)) (pl_min ((s_X3_whole ((s_X3_whole ((s_X3_whole (1 : Int32) p0 p1 p3).2) p0 p1 p4).2) p0 p2 p3).1) ((s_X3_whole ((s_X3_whole ((s_X3_whole ((s_X3_whole (1 : Int32) p0 p1 p3).2) p0 p1 p4).2) p0 p2 p3).2) p0 p2 p4).1))) (pl_max (pl_max ((s_X3_whole (1 : Int32) p0 p1 p3).1) ((s_X3_whole ((s_X3_whole (1 : Int32) p0 p1 p3).2) p0 p1 p4).1)) (pl_max ((s_X3_whole ((s_X3_whole ((s_X3_whole (1 : Int32) p0 p1 p3).2) p0 p1 p4).2) p0 p2 p3).1) ((s_X3_whole ((s_X3_whole ((s_X3_whole ((s_X3_whole (1 : Int32) p0 p1 p3).2) p0 p1 p4).2) p0 p2 p3).2) p0 p2 p4).1)))) (cwV 2 hts (gz_l gX3_ends_X3_between) rfl rfl rfl ydV_X3_between ⟨Nat.le_of_ble_eq_true rfl, Nat.le_of_ble_eq_true rfl⟩) (wp_V (hK.sub (tys' := []) [] rfl) (hP.sub (ws' := [(g0, .inr (2, [.int th, .ref r1, .ref r2, .long fa, .long fb, .int ((s_X3_whole ((s_X3_whole ((s_X3_whole ((s_X3_whole (1 : Int32) p0 p1 p3).2) p0 p1 p4).2) p0 p2 p3).2) p0 p2 p4).2), .long xl, .long xh, .long yl, .long yh]))]) [0] rfl) (hD.sub (ws' := [(g0, .inr (2, [.int th, .ref r1, .ref r2, .long fa, .long fb, .int ((s_X3_whole ((s_X3_whole ((s_X3_whole ((s_X3_whole (1 : Int32) p0 p1 p3).2) p0 p1 p4).2) p0 p2 p3).2) p0 p2 p4).2), .long xl, .long xh, .long yl, .long yh]))]) [0] (by decide) rfl)  rfl rfl) rfl rfl hl.1 rfl (lv_room (Nat.le_of_ble_eq_true rfl)) dX3_ends_89 ⟨Nat.le_of_ble_eq_true rfl, Nat.le_of_ble_eq_true rfl⟩) hP hD hS hA [0] [] [0] rfl rfl rfl (by decide) rfl rfl (fun H locs hP hD hS => ?_)
    refine lv_goto (tgt := 99) hx hb dX3_ends_92 (by decide) ?_
    have es : (s_X3_ends p0 p1 p2 p3 p4) = ((pl_min (pl_min ((s_X3_whole (1 : Int32) p0 p1 p3).1) ((s_X3_whole ((s_X3_whole (1 : Int32) p0 p1 p3).2) p0 p1 p4).1)) (pl_min ((s_X3_whole ((s_X3_whole ((s_X3_whole (1 : Int32) p0 p1 p3).2) p0 p1 p4).2) p0 p2 p3).1) ((s_X3_whole ((s_X3_whole ((s_X3_whole ((s_X3_whole (1 : Int32) p0 p1 p3).2) p0 p1 p4).2) p0 p2 p3).2) p0 p2 p4).1))), (pl_max (pl_max ((s_X3_whole (1 : Int32) p0 p1 p3).1) ((s_X3_whole ((s_X3_whole (1 : Int32) p0 p1 p3).2) p0 p1 p4).1)) (pl_max ((s_X3_whole ((s_X3_whole ((s_X3_whole (1 : Int32) p0 p1 p3).2) p0 p1 p4).2) p0 p2 p3).1) ((s_X3_whole ((s_X3_whole ((s_X3_whole ((s_X3_whole (1 : Int32) p0 p1 p3).2) p0 p1 p4).2) p0 p2 p3).2) p0 p2 p4).1))), ((s_X3_whole ((s_X3_whole ((s_X3_whole ((s_X3_whole (1 : Int32) p0 p1 p3).2) p0 p1 p4).2) p0 p2 p3).2) p0 p2 p4).2)) := by unfold s_X3_ends; rw [if_neg c1]
    exact W.vret hx hb hr (fun t ht hW => by rw [es]; exact ⟨rfl, by rw [ht]; exact hP, hD, hS.F ht⟩) hS.2.2 dX3_ends_99

def s_X3_range (ft : Int32) (p0 : Int32) (p1 : Int64) (p2 : Int64) (p3 : Int64) (p4 : Int64) (p5 : Int32) : Int64 × Int64 × Int32 :=
  if p1 < (0 : Int64) then (if p3 < (0 : Int64) then (if p3 = p4 then (if p0 = (0 : Int32) then (p3, p4, ft)
        else if p0 = (1 : Int32) then ((s_X3_ends p0 p1 p2 p3 p4).1, (s_X3_ends p0 p1 p2 p3 p4).2.1, (s_X3_ends p0 p1 p2 p3 p4).2.2)
        else if p0 = (2 : Int32) then ((s_X3_ends p0 p1 p2 p3 p4).1, (s_X3_ends p0 p1 p2 p3 p4).2.1, (s_X3_ends p0 p1 p2 p3 p4).2.2)
        else if p0 = (3 : Int32) then ((s_X3_ends p0 p1 p2 p3 p4).1, (s_X3_ends p0 p1 p2 p3 p4).2.1, (s_X3_ends p0 p1 p2 p3 p4).2.2)
        else if p0 = (4 : Int32) then (if (0 : Int64) < p3 then ((-9223372036854775808 : Int64), (9223372036854775807 : Int64), ft)
          else ((-9223372036854775808 : Int64), (9223372036854775807 : Int64), ft))
        else if p0 = (5 : Int32) then (if (0 : Int64) < p3 then ((-9223372036854775808 : Int64), (9223372036854775807 : Int64), ft)
          else ((-9223372036854775808 : Int64), (9223372036854775807 : Int64), ft))
        else if p0 = (6 : Int32) then ((-9223372036854775808 : Int64), (9223372036854775807 : Int64), ft)
        else if p0 = (7 : Int32) then ((-9223372036854775808 : Int64), (9223372036854775807 : Int64), ft)
        else if p0 = (8 : Int32) then ((-9223372036854775808 : Int64), (9223372036854775807 : Int64), ft)
        else if p0 = (9 : Int32) then ((-9223372036854775808 : Int64), (9223372036854775807 : Int64), ft)
        else if p0 = (10 : Int32) then (if p3.toInt32 &&& p5 = (0 : Int32) then (p1, p2, ft)
          else ((0 : Int64), (pl_ushr (-1 : Int64) (p3.toInt32 &&& p5)), ft))
        else if p0 = (11 : Int32) then ((pl_shr p1 (p3.toInt32 &&& p5)), (pl_shr p2 (p3.toInt32 &&& p5)), ft)
        else ((s_X3_ends (2 : Int32) (0 : Int64) (0 : Int64) p1 p2).1, (s_X3_ends (2 : Int32) (0 : Int64) (0 : Int64) p1 p2).2.1, (s_X3_ends (2 : Int32) (0 : Int64) (0 : Int64) p1 p2).2.2))
      else if p0 = (0 : Int32) then (p3, p4, ft)
      else if p0 = (1 : Int32) then ((s_X3_ends p0 p1 p2 p3 p4).1, (s_X3_ends p0 p1 p2 p3 p4).2.1, (s_X3_ends p0 p1 p2 p3 p4).2.2)
      else if p0 = (2 : Int32) then ((s_X3_ends p0 p1 p2 p3 p4).1, (s_X3_ends p0 p1 p2 p3 p4).2.1, (s_X3_ends p0 p1 p2 p3 p4).2.2)
      else if p0 = (3 : Int32) then ((s_X3_ends p0 p1 p2 p3 p4).1, (s_X3_ends p0 p1 p2 p3 p4).2.1, (s_X3_ends p0 p1 p2 p3 p4).2.2)
      else if p0 = (4 : Int32) then (if (0 : Int64) < p3 then ((-9223372036854775808 : Int64), (9223372036854775807 : Int64), ft)
        else ((-9223372036854775808 : Int64), (9223372036854775807 : Int64), ft))
      else if p0 = (5 : Int32) then (if (0 : Int64) < p3 then ((-9223372036854775808 : Int64), (9223372036854775807 : Int64), ft)
        else ((-9223372036854775808 : Int64), (9223372036854775807 : Int64), ft))
      else if p0 = (6 : Int32) then ((-9223372036854775808 : Int64), (9223372036854775807 : Int64), ft)
      else if p0 = (7 : Int32) then ((-9223372036854775808 : Int64), (9223372036854775807 : Int64), ft)
      else if p0 = (8 : Int32) then ((-9223372036854775808 : Int64), (9223372036854775807 : Int64), ft)
      else if p0 = (9 : Int32) then ((-9223372036854775808 : Int64), (9223372036854775807 : Int64), ft)
      else if p0 = (10 : Int32) then ((-9223372036854775808 : Int64), (9223372036854775807 : Int64), ft)
      else if p0 = (11 : Int32) then ((-9223372036854775808 : Int64), (9223372036854775807 : Int64), ft)
      else ((s_X3_ends (2 : Int32) (0 : Int64) (0 : Int64) p1 p2).1, (s_X3_ends (2 : Int32) (0 : Int64) (0 : Int64) p1 p2).2.1, (s_X3_ends (2 : Int32) (0 : Int64) (0 : Int64) p1 p2).2.2))
    else if p3 = p4 then (if p0 = (0 : Int32) then (p3, p4, ft)
      else if p0 = (1 : Int32) then ((s_X3_ends p0 p1 p2 p3 p4).1, (s_X3_ends p0 p1 p2 p3 p4).2.1, (s_X3_ends p0 p1 p2 p3 p4).2.2)
      else if p0 = (2 : Int32) then ((s_X3_ends p0 p1 p2 p3 p4).1, (s_X3_ends p0 p1 p2 p3 p4).2.1, (s_X3_ends p0 p1 p2 p3 p4).2.2)
      else if p0 = (3 : Int32) then ((s_X3_ends p0 p1 p2 p3 p4).1, (s_X3_ends p0 p1 p2 p3 p4).2.1, (s_X3_ends p0 p1 p2 p3 p4).2.2)
      else if p0 = (4 : Int32) then (if (0 : Int64) < p3 then ((-9223372036854775808 : Int64), (9223372036854775807 : Int64), ft)
        else ((-9223372036854775808 : Int64), (9223372036854775807 : Int64), ft))
      else if p0 = (5 : Int32) then (if (0 : Int64) < p3 then ((-9223372036854775808 : Int64), (9223372036854775807 : Int64), ft)
        else ((-9223372036854775808 : Int64), (9223372036854775807 : Int64), ft))
      else if p0 = (6 : Int32) then ((0 : Int64), p4, ft)
      else if p0 = (7 : Int32) then ((-9223372036854775808 : Int64), (9223372036854775807 : Int64), ft)
      else if p0 = (8 : Int32) then ((-9223372036854775808 : Int64), (9223372036854775807 : Int64), ft)
      else if p0 = (9 : Int32) then ((-9223372036854775808 : Int64), (9223372036854775807 : Int64), ft)
      else if p0 = (10 : Int32) then (if p3.toInt32 &&& p5 = (0 : Int32) then (p1, p2, ft)
        else ((0 : Int64), (pl_ushr (-1 : Int64) (p3.toInt32 &&& p5)), ft))
      else if p0 = (11 : Int32) then ((pl_shr p1 (p3.toInt32 &&& p5)), (pl_shr p2 (p3.toInt32 &&& p5)), ft)
      else ((s_X3_ends (2 : Int32) (0 : Int64) (0 : Int64) p1 p2).1, (s_X3_ends (2 : Int32) (0 : Int64) (0 : Int64) p1 p2).2.1, (s_X3_ends (2 : Int32) (0 : Int64) (0 : Int64) p1 p2).2.2))
    else if p0 = (0 : Int32) then (p3, p4, ft)
    else if p0 = (1 : Int32) then ((s_X3_ends p0 p1 p2 p3 p4).1, (s_X3_ends p0 p1 p2 p3 p4).2.1, (s_X3_ends p0 p1 p2 p3 p4).2.2)
    else if p0 = (2 : Int32) then ((s_X3_ends p0 p1 p2 p3 p4).1, (s_X3_ends p0 p1 p2 p3 p4).2.1, (s_X3_ends p0 p1 p2 p3 p4).2.2)
    else if p0 = (3 : Int32) then ((s_X3_ends p0 p1 p2 p3 p4).1, (s_X3_ends p0 p1 p2 p3 p4).2.1, (s_X3_ends p0 p1 p2 p3 p4).2.2)
    else if p0 = (4 : Int32) then (if (0 : Int64) < p3 then ((-9223372036854775808 : Int64), (9223372036854775807 : Int64), ft)
      else ((-9223372036854775808 : Int64), (9223372036854775807 : Int64), ft))
    else if p0 = (5 : Int32) then (if (0 : Int64) < p3 then ((-9223372036854775808 : Int64), (9223372036854775807 : Int64), ft)
      else ((-9223372036854775808 : Int64), (9223372036854775807 : Int64), ft))
    else if p0 = (6 : Int32) then ((0 : Int64), p4, ft)
    else if p0 = (7 : Int32) then ((-9223372036854775808 : Int64), (9223372036854775807 : Int64), ft)
    else if p0 = (8 : Int32) then ((-9223372036854775808 : Int64), (9223372036854775807 : Int64), ft)
    else if p0 = (9 : Int32) then ((-9223372036854775808 : Int64), (9223372036854775807 : Int64), ft)
    else if p0 = (10 : Int32) then ((-9223372036854775808 : Int64), (9223372036854775807 : Int64), ft)
    else if p0 = (11 : Int32) then ((-9223372036854775808 : Int64), (9223372036854775807 : Int64), ft)
    else ((s_X3_ends (2 : Int32) (0 : Int64) (0 : Int64) p1 p2).1, (s_X3_ends (2 : Int32) (0 : Int64) (0 : Int64) p1 p2).2.1, (s_X3_ends (2 : Int32) (0 : Int64) (0 : Int64) p1 p2).2.2))
  else if p3 < (0 : Int64) then (if p3 = p4 then (if p0 = (0 : Int32) then (p3, p4, ft)
      else if p0 = (1 : Int32) then ((s_X3_ends p0 p1 p2 p3 p4).1, (s_X3_ends p0 p1 p2 p3 p4).2.1, (s_X3_ends p0 p1 p2 p3 p4).2.2)
      else if p0 = (2 : Int32) then ((s_X3_ends p0 p1 p2 p3 p4).1, (s_X3_ends p0 p1 p2 p3 p4).2.1, (s_X3_ends p0 p1 p2 p3 p4).2.2)
      else if p0 = (3 : Int32) then ((s_X3_ends p0 p1 p2 p3 p4).1, (s_X3_ends p0 p1 p2 p3 p4).2.1, (s_X3_ends p0 p1 p2 p3 p4).2.2)
      else if p0 = (4 : Int32) then (if (0 : Int64) < p3 then ((p1 / p4), (p2 / p3), ft)
        else ((-9223372036854775808 : Int64), (9223372036854775807 : Int64), ft))
      else if p0 = (5 : Int32) then (if (0 : Int64) < p3 then ((0 : Int64), (pl_min p2 (p4 - (1 : Int64))), ft)
        else ((-9223372036854775808 : Int64), (9223372036854775807 : Int64), ft))
      else if p0 = (6 : Int32) then ((0 : Int64), p2, ft)
      else if p0 = (7 : Int32) then ((-9223372036854775808 : Int64), (9223372036854775807 : Int64), ft)
      else if p0 = (8 : Int32) then ((-9223372036854775808 : Int64), (9223372036854775807 : Int64), ft)
      else if p0 = (9 : Int32) then (if pl_shl p2 (p3.toInt32 &&& p5) < (0 : Int64) then ((-9223372036854775808 : Int64), (9223372036854775807 : Int64), ft)
        else if pl_shr (pl_shl p2 (p3.toInt32 &&& p5)) (p3.toInt32 &&& p5) = p2 then ((pl_shl p1 (p3.toInt32 &&& p5)), (pl_shl p2 (p3.toInt32 &&& p5)), ft)
        else ((-9223372036854775808 : Int64), (9223372036854775807 : Int64), ft))
      else if p0 = (10 : Int32) then ((pl_shr p1 (p3.toInt32 &&& p5)), (pl_shr p2 (p3.toInt32 &&& p5)), ft)
      else if p0 = (11 : Int32) then ((pl_shr p1 (p3.toInt32 &&& p5)), (pl_shr p2 (p3.toInt32 &&& p5)), ft)
      else ((s_X3_ends (2 : Int32) (0 : Int64) (0 : Int64) p1 p2).1, (s_X3_ends (2 : Int32) (0 : Int64) (0 : Int64) p1 p2).2.1, (s_X3_ends (2 : Int32) (0 : Int64) (0 : Int64) p1 p2).2.2))
    else if p0 = (0 : Int32) then (p3, p4, ft)
    else if p0 = (1 : Int32) then ((s_X3_ends p0 p1 p2 p3 p4).1, (s_X3_ends p0 p1 p2 p3 p4).2.1, (s_X3_ends p0 p1 p2 p3 p4).2.2)
    else if p0 = (2 : Int32) then ((s_X3_ends p0 p1 p2 p3 p4).1, (s_X3_ends p0 p1 p2 p3 p4).2.1, (s_X3_ends p0 p1 p2 p3 p4).2.2)
    else if p0 = (3 : Int32) then ((s_X3_ends p0 p1 p2 p3 p4).1, (s_X3_ends p0 p1 p2 p3 p4).2.1, (s_X3_ends p0 p1 p2 p3 p4).2.2)
    else if p0 = (4 : Int32) then (if (0 : Int64) < p3 then ((p1 / p4), (p2 / p3), ft)
      else ((-9223372036854775808 : Int64), (9223372036854775807 : Int64), ft))
    else if p0 = (5 : Int32) then (if (0 : Int64) < p3 then ((0 : Int64), (pl_min p2 (p4 - (1 : Int64))), ft)
      else ((-9223372036854775808 : Int64), (9223372036854775807 : Int64), ft))
    else if p0 = (6 : Int32) then ((0 : Int64), p2, ft)
    else if p0 = (7 : Int32) then ((-9223372036854775808 : Int64), (9223372036854775807 : Int64), ft)
    else if p0 = (8 : Int32) then ((-9223372036854775808 : Int64), (9223372036854775807 : Int64), ft)
    else if p0 = (9 : Int32) then ((-9223372036854775808 : Int64), (9223372036854775807 : Int64), ft)
    else if p0 = (10 : Int32) then ((0 : Int64), p2, ft)
    else if p0 = (11 : Int32) then ((0 : Int64), p2, ft)
    else ((s_X3_ends (2 : Int32) (0 : Int64) (0 : Int64) p1 p2).1, (s_X3_ends (2 : Int32) (0 : Int64) (0 : Int64) p1 p2).2.1, (s_X3_ends (2 : Int32) (0 : Int64) (0 : Int64) p1 p2).2.2))
  else if p3 = p4 then (if p0 = (0 : Int32) then (p3, p4, ft)
    else if p0 = (1 : Int32) then ((s_X3_ends p0 p1 p2 p3 p4).1, (s_X3_ends p0 p1 p2 p3 p4).2.1, (s_X3_ends p0 p1 p2 p3 p4).2.2)
    else if p0 = (2 : Int32) then ((s_X3_ends p0 p1 p2 p3 p4).1, (s_X3_ends p0 p1 p2 p3 p4).2.1, (s_X3_ends p0 p1 p2 p3 p4).2.2)
    else if p0 = (3 : Int32) then ((s_X3_ends p0 p1 p2 p3 p4).1, (s_X3_ends p0 p1 p2 p3 p4).2.1, (s_X3_ends p0 p1 p2 p3 p4).2.2)
    else if p0 = (4 : Int32) then (if (0 : Int64) < p3 then ((p1 / p4), (p2 / p3), ft)
      else ((0 : Int64), p2, ft))
    else if p0 = (5 : Int32) then (if (0 : Int64) < p3 then ((0 : Int64), (pl_min p2 (p4 - (1 : Int64))), ft)
      else ((0 : Int64), p2, ft))
    else if p0 = (6 : Int32) then ((0 : Int64), (pl_min p2 p4), ft)
    else if p0 = (7 : Int32) then (if pl_max p2 p4 = (0 : Int64) then ((pl_max p1 p3), (0 : Int64), ft)
      else ((pl_max p1 p3), (pl_ushr (-1 : Int64) (s_J13_nlz (pl_max p2 p4))), ft))
    else if p0 = (8 : Int32) then (if pl_max p2 p4 = (0 : Int64) then ((0 : Int64), (0 : Int64), ft)
      else ((0 : Int64), (pl_ushr (-1 : Int64) (s_J13_nlz (pl_max p2 p4))), ft))
    else if p0 = (9 : Int32) then (if pl_shl p2 (p3.toInt32 &&& p5) < (0 : Int64) then ((-9223372036854775808 : Int64), (9223372036854775807 : Int64), ft)
      else if pl_shr (pl_shl p2 (p3.toInt32 &&& p5)) (p3.toInt32 &&& p5) = p2 then ((pl_shl p1 (p3.toInt32 &&& p5)), (pl_shl p2 (p3.toInt32 &&& p5)), ft)
      else ((-9223372036854775808 : Int64), (9223372036854775807 : Int64), ft))
    else if p0 = (10 : Int32) then ((pl_shr p1 (p3.toInt32 &&& p5)), (pl_shr p2 (p3.toInt32 &&& p5)), ft)
    else if p0 = (11 : Int32) then ((pl_shr p1 (p3.toInt32 &&& p5)), (pl_shr p2 (p3.toInt32 &&& p5)), ft)
    else ((s_X3_ends (2 : Int32) (0 : Int64) (0 : Int64) p1 p2).1, (s_X3_ends (2 : Int32) (0 : Int64) (0 : Int64) p1 p2).2.1, (s_X3_ends (2 : Int32) (0 : Int64) (0 : Int64) p1 p2).2.2))
  else if p0 = (0 : Int32) then (p3, p4, ft)
  else if p0 = (1 : Int32) then ((s_X3_ends p0 p1 p2 p3 p4).1, (s_X3_ends p0 p1 p2 p3 p4).2.1, (s_X3_ends p0 p1 p2 p3 p4).2.2)
  else if p0 = (2 : Int32) then ((s_X3_ends p0 p1 p2 p3 p4).1, (s_X3_ends p0 p1 p2 p3 p4).2.1, (s_X3_ends p0 p1 p2 p3 p4).2.2)
  else if p0 = (3 : Int32) then ((s_X3_ends p0 p1 p2 p3 p4).1, (s_X3_ends p0 p1 p2 p3 p4).2.1, (s_X3_ends p0 p1 p2 p3 p4).2.2)
  else if p0 = (4 : Int32) then (if (0 : Int64) < p3 then ((p1 / p4), (p2 / p3), ft)
    else ((0 : Int64), p2, ft))
  else if p0 = (5 : Int32) then (if (0 : Int64) < p3 then ((0 : Int64), (pl_min p2 (p4 - (1 : Int64))), ft)
    else ((0 : Int64), p2, ft))
  else if p0 = (6 : Int32) then ((0 : Int64), (pl_min p2 p4), ft)
  else if p0 = (7 : Int32) then (if pl_max p2 p4 = (0 : Int64) then ((pl_max p1 p3), (0 : Int64), ft)
    else ((pl_max p1 p3), (pl_ushr (-1 : Int64) (s_J13_nlz (pl_max p2 p4))), ft))
  else if p0 = (8 : Int32) then (if pl_max p2 p4 = (0 : Int64) then ((0 : Int64), (0 : Int64), ft)
    else ((0 : Int64), (pl_ushr (-1 : Int64) (s_J13_nlz (pl_max p2 p4))), ft))
  else if p0 = (9 : Int32) then ((-9223372036854775808 : Int64), (9223372036854775807 : Int64), ft)
  else if p0 = (10 : Int32) then ((0 : Int64), p2, ft)
  else if p0 = (11 : Int32) then ((0 : Int64), p2, ft)
  else ((s_X3_ends (2 : Int32) (0 : Int64) (0 : Int64) p1 p2).1, (s_X3_ends (2 : Int32) (0 : Int64) (0 : Int64) p1 p2).2.1, (s_X3_ends (2 : Int32) (0 : Int64) (0 : Int64) p1 p2).2.2)
set_option maxHeartbeats 4000000 in
set_option maxRecDepth 100000 in
theorem c_X3_range (l : Launch) (S0 : Nat) (hst : l.stackTraces = false) (dC : Nat → ClassId) (dI : Nat → Nat → Nat) (g0 r1 r2 sz : Nat) (th : Int32) (fa : Int64) (fb : Int64) (ft : Int32) (xl : Int64) (xh : Int64) (yl : Int64) (yh : Int64) (p0 : Int32) (p1 : Int64) (p2 : Int64) (p3 : Int64) (p4 : Int64) (p5 : Int32) (hrg : ¬ p4 < p3) (hS0 : ∀ q, va_A [(g0, .inr (2, [.int th, .ref r1, .ref r2, .long fa, .long fb, .int ft, .long xl, .long xh, .long yl, .long yh]))] sz q → S0 ≤ q) : Met l yX3_range (wsX3_range ++ wz_A) ({ frames := 9, cells := 4, slots := 24, locals := 174 }) (twp S0 (dC, dI) vwCl [] [.ref g0, .int p0, .long p1, .long p2, .long p3, .long p4, .int p5] sz [(g0, .inr (2, [.int th, .ref r1, .ref r2, .long fa, .long fb, .int ft, .long xl, .long xh, .long yl, .long yh]))]) (wq none (dC, dI) vwCl [(g0, .inr (2, [.int th, .ref r1, .ref r2, .long ((s_X3_range ft p0 p1 p2 p3 p4 p5).1), .long ((s_X3_range ft p0 p1 p2 p3 p4 p5).2.1), .int ((s_X3_range ft p0 p1 p2 p3 p4 p5).2.2), .long xl, .long xh, .long yl, .long yh]))] (va_A [(g0, .inr (2, [.int th, .ref r1, .ref r2, .long fa, .long fb, .int ft, .long xl, .long xh, .long yl, .long yh]))] sz)) 4 24 (va_A [(g0, .inr (2, [.int th, .ref r1, .ref r2, .long fa, .long fb, .int ft, .long xl, .long xh, .long yl, .long yh]))] sz) := by
  refine Met.ofW (cc := cX3_range) (maxL := 17) (ret := none) (by decide) rfl ?_
  intro p e s m args below meth c s₁ B hml hv
  obtain ⟨rfl, hsz, hP, hK, hD0, ham⟩ := hv
  have hx := B.exec
  have hb := B.bytes
  have hr := B.returns
  have hts := atoms_spec (ws := (wsX3_range ++ wz_A)) B.pre
  have hown : s.vm.findClass RX3 = some m.cls := findClass_of_methodNamed B.named
  have hlocks := B.notSynchronized
  subst hsz
  have hD := hD0.self (sz := s.heap.size)
  generalize hAe : va_A [(g0, .inr (2, [.int th, .ref r1, .ref r2, .long fa, .long fb, .int ft, .long xl, .long xh, .long yl, .long yh]))] s.heap.size = A at hD ⊢
  have hA : ∀ q : Nat, s.heap.size ≤ q → A q := fun q h => by rw [← hAe]; exact Or.inr h
  have hS : va_S A s.heap s.heap [] := va_S.rf
  have hS1 : ∀ q, A q → S0 ≤ q := fun q h => hS0 q (by rw [hAe]; exact h)
  have hP : va_P (dC, dI) vwCl [(g0, .inr (2, [.int th, .ref r1, .ref r2, .long fa, .long fb, .int ft, .long xl, .long xh, .long yl, .long yh]))] s.heap := hP
  have hl := lv_entry ([.ref g0, .int p0, .long p1, .long p2, .long p3, .long p4, .int p5]) (n := 17) (Nat.le_of_ble_eq_true rfl)
  rw [lg_entry_eq]
  generalize (lg_sl ([.ref g0, .int p0, .long p1, .long p2, .long p3, .long p4, .int p5]) ++ List.replicate (17 - (lg_sl ([.ref g0, .int p0, .long p1, .long p2, .long p3, .long p4, .int p5])).length) Slot.unset).toArray = ls at hl ⊢
  have hl : lv_has ls 17 [(0, .ref g0), (1, .int p0), (2, .long p1), (4, .long p2), (6, .long p3), (8, .long p4), (10, .int p5)] := hl
  have hw0 := hts (.constantLong RX3 88 (-1)) (List.mem_of_getElem? (i := 8) rfl)
  have hw1 := hts (.methodLink RX3 71 Lib.MathLoose.min_long.x) (List.mem_of_getElem? (i := 1) rfl)
  have hw2 := hts (.static Lib.MathLoose.min_long.x) (List.mem_of_getElem? (i := 2) rfl)
  have hw3 := hts (.initialized "java/lang/Math") (List.mem_of_getElem? (i := 3) rfl)
  have hw4 := hts (.code Lib.MathLoose.min_long.x Lib.MathLoose.min_long.code 4 (some .long)) (List.mem_of_getElem? (i := 4) rfl)
  have hw5 := hts (.methodLink RX3 74 Lib.MathLoose.max_long.x) (List.mem_of_getElem? (i := 5) rfl)
  have hw6 := hts (.static Lib.MathLoose.max_long.x) (List.mem_of_getElem? (i := 6) rfl)
  have hw7 := hts (.code Lib.MathLoose.max_long.x Lib.MathLoose.max_long.code 4 (some .long)) (List.mem_of_getElem? (i := 7) rfl)
  refine lv_lload_n hx hb dX3_range_0 rfl (lv_at hl 2 rfl) ?_
  refine lv_lconst (v := (0 : Int64)) hx hb dX3_range_1 (by decide) ?_
  refine pl_lt (tgt := 10) hx hb dX3_range_2 dX3_range_3 (by decide) (fun c1 => ?_) (fun c1 => ?_)
  · refine lv_iconst (v := (0 : Int32)) hx hb dX3_range_10 (by decide) ?_
    refine lv_istore (lv' := [(11, .int (0 : Int32)), (0, .ref g0), (1, .int p0), (2, .long p1), (4, .long p2), (6, .long p3), (8, .long p4), (10, .int p5)]) hx hb dX3_range_11 hl (by decide) rfl (fun ls hl => ?_)
    refine lv_lload hx hb dX3_range_13 (lv_at hl 5 rfl) ?_
    refine lv_lconst (v := (0 : Int64)) hx hb dX3_range_15 (by decide) ?_
    refine pl_lt (tgt := 24) hx hb dX3_range_16 dX3_range_17 (by decide) (fun c2 => ?_) (fun c2 => ?_)
    · refine lv_iconst (v := (0 : Int32)) hx hb dX3_range_24 (by decide) ?_
      refine lv_istore (lv' := [(12, .int (0 : Int32)), (11, .int (0 : Int32)), (0, .ref g0), (1, .int p0), (2, .long p1), (4, .long p2), (6, .long p3), (8, .long p4), (10, .int p5)]) hx hb dX3_range_25 hl (by decide) rfl (fun ls hl => ?_)
      refine lv_lload hx hb dX3_range_27 (lv_at hl 6 rfl) ?_
      refine lv_lload hx hb dX3_range_29 (lv_at hl 7 rfl) ?_
      refine pl_ne (tgt := 39) hx hb dX3_range_31 dX3_range_32 (by decide) (fun c3 => ?_) (fun c3 => ?_)
      · refine lv_iconst (v := (0 : Int32)) hx hb dX3_range_39 (by decide) ?_
        refine lv_istore (lv' := [(13, .int (0 : Int32)), (12, .int (0 : Int32)), (11, .int (0 : Int32)), (0, .ref g0), (1, .int p0), (2, .long p1), (4, .long p2), (6, .long p3), (8, .long p4), (10, .int p5)]) hx hb dX3_range_40 hl (by decide) rfl (fun ls hl => ?_)
        refine lv_lload hx hb dX3_range_42 (lv_at hl 7 rfl) ?_
        refine lv_l2i (v := p3.toInt32) hx hb dX3_range_44 rfl ?_
        refine lv_iload hx hb dX3_range_45 (lv_at hl 9 rfl) ?_
        refine lv_iand hx hb dX3_range_47 ?_
        refine lv_istore (lv' := [(14, .int (p3.toInt32 &&& p5)), (13, .int (0 : Int32)), (12, .int (0 : Int32)), (11, .int (0 : Int32)), (0, .ref g0), (1, .int p0), (2, .long p1), (4, .long p2), (6, .long p3), (8, .long p4), (10, .int p5)]) hx hb dX3_range_48 hl (by decide) rfl (fun ls hl => ?_)
        refine lv_iload_n hx hb dX3_range_50 rfl (lv_at hl 5 rfl) ?_
        by_cases c4 : p0 = (0 : Int32)
        · refine lv_tableIn (off := 61) (tgt := 112) hx hb dX3_range_51 (by rw [c4]; decide) (by rw [c4]; decide) (by rw [c4]; decide) (by decide) ?_
          refine lv_aload_n hx hb dX3_range_112 rfl (lv_at hl 4 rfl) ?_
          refine lv_lload hx hb dX3_range_113 (lv_at hl 8 rfl) ?_
          refine lv_lload hx hb dX3_range_115 (lv_at hl 9 rfl) ?_
          refine wq_callv (wc := [(g0, .inr (2, [.int th, .ref r1, .ref r2, .long fa, .long fb, .int ft, .long xl, .long xh, .long yl, .long yh]))]) (wr := []) (w2 := [(g0, .inr (2, [.int th, .ref r1, .ref r2, .long p3, .long p4, .int ft, .long xl, .long xh, .long yl, .long yh]))]) (va_runV (As := [.long p3, .long p4]) (rest := []) ⟨hx, hb, hml, hown, hts⟩ (c_X3_between l dC dI g0 r1 r2 s.heap.size th fa fb ft xl xh yl yh p3 p4) (cwV 2 hts (gz_l gX3_range_X3_between) rfl rfl rfl ydV_X3_between ⟨Nat.le_of_ble_eq_true rfl, Nat.le_of_ble_eq_true rfl⟩) (wp_V (hK.sub (tys' := []) [] rfl) (hP.sub (ws' := [(g0, .inr (2, [.int th, .ref r1, .ref r2, .long fa, .long fb, .int ft, .long xl, .long xh, .long yl, .long yh]))]) [0] rfl) (hD.sub (ws' := [(g0, .inr (2, [.int th, .ref r1, .ref r2, .long fa, .long fb, .int ft, .long xl, .long xh, .long yl, .long yh]))]) [0] (by decide) rfl)  rfl rfl) rfl rfl hl.1 rfl (lv_room (Nat.le_of_ble_eq_true rfl)) dX3_range_117 ⟨Nat.le_of_ble_eq_true rfl, Nat.le_of_ble_eq_true rfl⟩) hP hD hS hA [0] [] [0] rfl rfl rfl (by decide) rfl rfl (fun H locs hP hD hS => ?_)
          refine W.widen (k := 4) (n := 24) (by omega) (by omega) ?_
          have es : (s_X3_range ft p0 p1 p2 p3 p4 p5) = (p3, p4, ft) := by unfold s_X3_range; rw [if_pos c1, if_pos c2, if_neg c3, if_pos c4]
          exact W.vret hx hb hr (fun t ht hW => by rw [es]; exact ⟨rfl, by rw [ht]; exact hP, hD, hS.F ht⟩) hS.2.2 dX3_range_120
        by_cases c5 : p0 = (1 : Int32)
        · refine lv_tableIn (off := 70) (tgt := 121) hx hb dX3_range_51 (by rw [c5]; decide) (by rw [c5]; decide) (by rw [c5]; decide) (by decide) ?_
          refine lv_aload_n hx hb dX3_range_121 rfl (lv_at hl 4 rfl) ?_
          refine lv_iload_n hx hb dX3_range_122 rfl (lv_at hl 5 rfl) ?_
          refine lv_lload_n hx hb dX3_range_123 rfl (lv_at hl 6 rfl) ?_
          refine lv_lload hx hb dX3_range_124 (lv_at hl 7 rfl) ?_
          refine lv_lload hx hb dX3_range_126 (lv_at hl 8 rfl) ?_
          refine lv_lload hx hb dX3_range_128 (lv_at hl 9 rfl) ?_
          refine wq_callv (wc := [(g0, .inr (2, [.int th, .ref r1, .ref r2, .long fa, .long fb, .int ft, .long xl, .long xh, .long yl, .long yh]))]) (wr := []) (w2 := [(g0, .inr (2, [.int th, .ref r1, .ref r2, .long ((s_X3_ends p0 p1 p2 p3 p4).1), .long ((s_X3_ends p0 p1 p2 p3 p4).2.1), .int ((s_X3_ends p0 p1 p2 p3 p4).2.2), .long xl, .long xh, .long yl, .long yh]))]) (va_runV (As := [.int p0, .long p1, .long p2, .long p3, .long p4]) (rest := []) ⟨hx, hb, hml, hown, hts⟩ (c_X3_ends l S0 hst dC dI g0 r1 r2 s.heap.size th fa fb ft xl xh yl yh p0 p1 p2 p3 p4 (fun q h => hS1 q (va_free (wc := [(g0, .inr (2, [.int th, .ref r1, .ref r2, .long fa, .long fb, .int ft, .long xl, .long xh, .long yl, .long yh]))]) hD hS hA [0] rfl q h))) (cwV 5 hts (gz_V wz_A_good gX3_range_X3_ends) rfl rfl rfl ydV_X3_ends ⟨Nat.le_of_ble_eq_true rfl, Nat.le_of_ble_eq_true rfl⟩) (twp_V (hK.sub (tys' := []) [] rfl) (hP.sub (ws' := [(g0, .inr (2, [.int th, .ref r1, .ref r2, .long fa, .long fb, .int ft, .long xl, .long xh, .long yl, .long yh]))]) [0] rfl) (hD.sub (ws' := [(g0, .inr (2, [.int th, .ref r1, .ref r2, .long fa, .long fb, .int ft, .long xl, .long xh, .long yl, .long yh]))]) [0] (by decide) rfl) ham rfl rfl) rfl rfl hl.1 rfl (lv_room (Nat.le_of_ble_eq_true rfl)) dX3_range_130 ⟨Nat.le_of_ble_eq_true rfl, Nat.le_of_ble_eq_true rfl⟩) hP hD hS hA [0] [] [0] rfl rfl rfl (by decide) rfl rfl (fun H locs hP hD hS => ?_)
          have es : (s_X3_range ft p0 p1 p2 p3 p4 p5) = ((s_X3_ends p0 p1 p2 p3 p4).1, (s_X3_ends p0 p1 p2 p3 p4).2.1, (s_X3_ends p0 p1 p2 p3 p4).2.2) := by unfold s_X3_range; rw [if_pos c1, if_pos c2, if_neg c3, if_neg c4, if_pos c5]
          exact W.vret hx hb hr (fun t ht hW => by rw [es]; exact ⟨rfl, by rw [ht]; exact hP, hD, hS.F ht⟩) hS.2.2 dX3_range_133
        by_cases c6 : p0 = (2 : Int32)
        · refine lv_tableIn (off := 70) (tgt := 121) hx hb dX3_range_51 (by rw [c6]; decide) (by rw [c6]; decide) (by rw [c6]; decide) (by decide) ?_
          refine lv_aload_n hx hb dX3_range_121 rfl (lv_at hl 4 rfl) ?_
          refine lv_iload_n hx hb dX3_range_122 rfl (lv_at hl 5 rfl) ?_
          refine lv_lload_n hx hb dX3_range_123 rfl (lv_at hl 6 rfl) ?_
          refine lv_lload hx hb dX3_range_124 (lv_at hl 7 rfl) ?_
          refine lv_lload hx hb dX3_range_126 (lv_at hl 8 rfl) ?_
          refine lv_lload hx hb dX3_range_128 (lv_at hl 9 rfl) ?_
          refine wq_callv (wc := [(g0, .inr (2, [.int th, .ref r1, .ref r2, .long fa, .long fb, .int ft, .long xl, .long xh, .long yl, .long yh]))]) (wr := []) (w2 := [(g0, .inr (2, [.int th, .ref r1, .ref r2, .long ((s_X3_ends p0 p1 p2 p3 p4).1), .long ((s_X3_ends p0 p1 p2 p3 p4).2.1), .int ((s_X3_ends p0 p1 p2 p3 p4).2.2), .long xl, .long xh, .long yl, .long yh]))]) (va_runV (As := [.int p0, .long p1, .long p2, .long p3, .long p4]) (rest := []) ⟨hx, hb, hml, hown, hts⟩ (c_X3_ends l S0 hst dC dI g0 r1 r2 s.heap.size th fa fb ft xl xh yl yh p0 p1 p2 p3 p4 (fun q h => hS1 q (va_free (wc := [(g0, .inr (2, [.int th, .ref r1, .ref r2, .long fa, .long fb, .int ft, .long xl, .long xh, .long yl, .long yh]))]) hD hS hA [0] rfl q h))) (cwV 5 hts (gz_V wz_A_good gX3_range_X3_ends) rfl rfl rfl ydV_X3_ends ⟨Nat.le_of_ble_eq_true rfl, Nat.le_of_ble_eq_true rfl⟩) (twp_V (hK.sub (tys' := []) [] rfl) (hP.sub (ws' := [(g0, .inr (2, [.int th, .ref r1, .ref r2, .long fa, .long fb, .int ft, .long xl, .long xh, .long yl, .long yh]))]) [0] rfl) (hD.sub (ws' := [(g0, .inr (2, [.int th, .ref r1, .ref r2, .long fa, .long fb, .int ft, .long xl, .long xh, .long yl, .long yh]))]) [0] (by decide) rfl) ham rfl rfl) rfl rfl hl.1 rfl (lv_room (Nat.le_of_ble_eq_true rfl)) dX3_range_130 ⟨Nat.le_of_ble_eq_true rfl, Nat.le_of_ble_eq_true rfl⟩) hP hD hS hA [0] [] [0] rfl rfl rfl (by decide) rfl rfl (fun H locs hP hD hS => ?_)
          have es : (s_X3_range ft p0 p1 p2 p3 p4 p5) = ((s_X3_ends p0 p1 p2 p3 p4).1, (s_X3_ends p0 p1 p2 p3 p4).2.1, (s_X3_ends p0 p1 p2 p3 p4).2.2) := by unfold s_X3_range; rw [if_pos c1, if_pos c2, if_neg c3, if_neg c4, if_neg c5, if_pos c6]
          exact W.vret hx hb hr (fun t ht hW => by rw [es]; exact ⟨rfl, by rw [ht]; exact hP, hD, hS.F ht⟩) hS.2.2 dX3_range_133
        by_cases c7 : p0 = (3 : Int32)
        · refine lv_tableIn (off := 70) (tgt := 121) hx hb dX3_range_51 (by rw [c7]; decide) (by rw [c7]; decide) (by rw [c7]; decide) (by decide) ?_
          refine lv_aload_n hx hb dX3_range_121 rfl (lv_at hl 4 rfl) ?_
          refine lv_iload_n hx hb dX3_range_122 rfl (lv_at hl 5 rfl) ?_
          refine lv_lload_n hx hb dX3_range_123 rfl (lv_at hl 6 rfl) ?_
          refine lv_lload hx hb dX3_range_124 (lv_at hl 7 rfl) ?_
          refine lv_lload hx hb dX3_range_126 (lv_at hl 8 rfl) ?_
          refine lv_lload hx hb dX3_range_128 (lv_at hl 9 rfl) ?_
          refine wq_callv (wc := [(g0, .inr (2, [.int th, .ref r1, .ref r2, .long fa, .long fb, .int ft, .long xl, .long xh, .long yl, .long yh]))]) (wr := []) (w2 := [(g0, .inr (2, [.int th, .ref r1, .ref r2, .long ((s_X3_ends p0 p1 p2 p3 p4).1), .long ((s_X3_ends p0 p1 p2 p3 p4).2.1), .int ((s_X3_ends p0 p1 p2 p3 p4).2.2), .long xl, .long xh, .long yl, .long yh]))]) (va_runV (As := [.int p0, .long p1, .long p2, .long p3, .long p4]) (rest := []) ⟨hx, hb, hml, hown, hts⟩ (c_X3_ends l S0 hst dC dI g0 r1 r2 s.heap.size th fa fb ft xl xh yl yh p0 p1 p2 p3 p4 (fun q h => hS1 q (va_free (wc := [(g0, .inr (2, [.int th, .ref r1, .ref r2, .long fa, .long fb, .int ft, .long xl, .long xh, .long yl, .long yh]))]) hD hS hA [0] rfl q h))) (cwV 5 hts (gz_V wz_A_good gX3_range_X3_ends) rfl rfl rfl ydV_X3_ends ⟨Nat.le_of_ble_eq_true rfl, Nat.le_of_ble_eq_true rfl⟩) (twp_V (hK.sub (tys' := []) [] rfl) (hP.sub (ws' := [(g0, .inr (2, [.int th, .ref r1, .ref r2, .long fa, .long fb, .int ft, .long xl, .long xh, .long yl, .long yh]))]) [0] rfl) (hD.sub (ws' := [(g0, .inr (2, [.int th, .ref r1, .ref r2, .long fa, .long fb, .int ft, .long xl, .long xh, .long yl, .long yh]))]) [0] (by decide) rfl) ham rfl rfl) rfl rfl hl.1 rfl (lv_room (Nat.le_of_ble_eq_true rfl)) dX3_range_130 ⟨Nat.le_of_ble_eq_true rfl, Nat.le_of_ble_eq_true rfl⟩) hP hD hS hA [0] [] [0] rfl rfl rfl (by decide) rfl rfl (fun H locs hP hD hS => ?_)
          have es : (s_X3_range ft p0 p1 p2 p3 p4 p5) = ((s_X3_ends p0 p1 p2 p3 p4).1, (s_X3_ends p0 p1 p2 p3 p4).2.1, (s_X3_ends p0 p1 p2 p3 p4).2.2) := by unfold s_X3_range; rw [if_pos c1, if_pos c2, if_neg c3, if_neg c4, if_neg c5, if_neg c6, if_pos c7]
          exact W.vret hx hb hr (fun t ht hW => by rw [es]; exact ⟨rfl, by rw [ht]; exact hP, hD, hS.F ht⟩) hS.2.2 dX3_range_133
        by_cases c8 : p0 = (4 : Int32)
        · refine lv_tableIn (off := 83) (tgt := 134) hx hb dX3_range_51 (by rw [c8]; decide) (by rw [c8]; decide) (by rw [c8]; decide) (by decide) ?_
          refine lv_lload hx hb dX3_range_134 (lv_at hl 8 rfl) ?_
          refine lv_lconst (v := (0 : Int64)) hx hb dX3_range_136 (by decide) ?_
          refine pl_le (tgt := 162) hx hb dX3_range_137 dX3_range_138 (by decide) (fun c9 => ?_) (fun c9 => ?_)
          · refine lv_iload hx hb dX3_range_162 (lv_at hl 3 rfl) ?_
            refine lv_if_eq (tgt := 182) hx hb dX3_range_164 (by decide) (fun _ => ?_) (fun h => absurd (by decide) h)
            refine lv_aload_n hx hb dX3_range_182 rfl (lv_at hl 4 rfl) ?_
            refine wq_callv (wc := [(g0, .inr (2, [.int th, .ref r1, .ref r2, .long fa, .long fb, .int ft, .long xl, .long xh, .long yl, .long yh]))]) (wr := []) (w2 := [(g0, .inr (2, [.int th, .ref r1, .ref r2, .long (-9223372036854775808 : Int64), .long (9223372036854775807 : Int64), .int ft, .long xl, .long xh, .long yl, .long yh]))]) (va_runV (As := []) (rest := []) ⟨hx, hb, hml, hown, hts⟩ (c_X3_all l dC dI g0 r1 r2 s.heap.size th fa fb ft xl xh yl yh) (cwV 0 hts (gz_l gX3_range_X3_all) rfl rfl rfl ydV_X3_all ⟨Nat.le_of_ble_eq_true rfl, Nat.le_of_ble_eq_true rfl⟩) (wp_V (hK.sub (tys' := []) [] rfl) (hP.sub (ws' := [(g0, .inr (2, [.int th, .ref r1, .ref r2, .long fa, .long fb, .int ft, .long xl, .long xh, .long yl, .long yh]))]) [0] rfl) (hD.sub (ws' := [(g0, .inr (2, [.int th, .ref r1, .ref r2, .long fa, .long fb, .int ft, .long xl, .long xh, .long yl, .long yh]))]) [0] (by decide) rfl)  rfl rfl) rfl rfl hl.1 rfl (lv_room (Nat.le_of_ble_eq_true rfl)) dX3_range_183 ⟨Nat.le_of_ble_eq_true rfl, Nat.le_of_ble_eq_true rfl⟩) hP hD hS hA [0] [] [0] rfl rfl rfl (by decide) rfl rfl (fun H locs hP hD hS => ?_)
            refine W.widen (k := 4) (n := 24) (by omega) (by omega) ?_
            have es : (s_X3_range ft p0 p1 p2 p3 p4 p5) = ((-9223372036854775808 : Int64), (9223372036854775807 : Int64), ft) := by unfold s_X3_range; rw [if_pos c1, if_pos c2, if_neg c3, if_neg c4, if_neg c5, if_neg c6, if_neg c7, if_pos c8, if_neg c9]
            exact W.vret hx hb hr (fun t ht hW => by rw [es]; exact ⟨rfl, by rw [ht]; exact hP, hD, hS.F ht⟩) hS.2.2 dX3_range_186
          · refine lv_iload hx hb dX3_range_141 (lv_at hl 3 rfl) ?_
            refine lv_if_eq (tgt := 162) hx hb dX3_range_143 (by decide) (fun _ => ?_) (fun h => absurd (by decide) h)
            refine lv_iload hx hb dX3_range_162 (lv_at hl 3 rfl) ?_
            refine lv_if_eq (tgt := 182) hx hb dX3_range_164 (by decide) (fun _ => ?_) (fun h => absurd (by decide) h)
            refine lv_aload_n hx hb dX3_range_182 rfl (lv_at hl 4 rfl) ?_
            refine wq_callv (wc := [(g0, .inr (2, [.int th, .ref r1, .ref r2, .long fa, .long fb, .int ft, .long xl, .long xh, .long yl, .long yh]))]) (wr := []) (w2 := [(g0, .inr (2, [.int th, .ref r1, .ref r2, .long (-9223372036854775808 : Int64), .long (9223372036854775807 : Int64), .int ft, .long xl, .long xh, .long yl, .long yh]))]) (va_runV (As := []) (rest := []) ⟨hx, hb, hml, hown, hts⟩ (c_X3_all l dC dI g0 r1 r2 s.heap.size th fa fb ft xl xh yl yh) (cwV 0 hts (gz_l gX3_range_X3_all) rfl rfl rfl ydV_X3_all ⟨Nat.le_of_ble_eq_true rfl, Nat.le_of_ble_eq_true rfl⟩) (wp_V (hK.sub (tys' := []) [] rfl) (hP.sub (ws' := [(g0, .inr (2, [.int th, .ref r1, .ref r2, .long fa, .long fb, .int ft, .long xl, .long xh, .long yl, .long yh]))]) [0] rfl) (hD.sub (ws' := [(g0, .inr (2, [.int th, .ref r1, .ref r2, .long fa, .long fb, .int ft, .long xl, .long xh, .long yl, .long yh]))]) [0] (by decide) rfl)  rfl rfl) rfl rfl hl.1 rfl (lv_room (Nat.le_of_ble_eq_true rfl)) dX3_range_183 ⟨Nat.le_of_ble_eq_true rfl, Nat.le_of_ble_eq_true rfl⟩) hP hD hS hA [0] [] [0] rfl rfl rfl (by decide) rfl rfl (fun H locs hP hD hS => ?_)
            refine W.widen (k := 4) (n := 24) (by omega) (by omega) ?_
            have es : (s_X3_range ft p0 p1 p2 p3 p4 p5) = ((-9223372036854775808 : Int64), (9223372036854775807 : Int64), ft) := by unfold s_X3_range; rw [if_pos c1, if_pos c2, if_neg c3, if_neg c4, if_neg c5, if_neg c6, if_neg c7, if_pos c8, if_pos c9]
            exact W.vret hx hb hr (fun t ht hW => by rw [es]; exact ⟨rfl, by rw [ht]; exact hP, hD, hS.F ht⟩) hS.2.2 dX3_range_186
        by_cases c10 : p0 = (5 : Int32)
        · refine lv_tableIn (off := 136) (tgt := 187) hx hb dX3_range_51 (by rw [c10]; decide) (by rw [c10]; decide) (by rw [c10]; decide) (by decide) ?_
          refine lv_lload hx hb dX3_range_187 (lv_at hl 8 rfl) ?_
          refine lv_lconst (v := (0 : Int64)) hx hb dX3_range_189 (by decide) ?_
          refine pl_le (tgt := 216) hx hb dX3_range_190 dX3_range_191 (by decide) (fun c11 => ?_) (fun c11 => ?_)
          · refine lv_iload hx hb dX3_range_216 (lv_at hl 3 rfl) ?_
            refine lv_if_eq (tgt := 236) hx hb dX3_range_218 (by decide) (fun _ => ?_) (fun h => absurd (by decide) h)
            refine lv_aload_n hx hb dX3_range_236 rfl (lv_at hl 4 rfl) ?_
            refine wq_callv (wc := [(g0, .inr (2, [.int th, .ref r1, .ref r2, .long fa, .long fb, .int ft, .long xl, .long xh, .long yl, .long yh]))]) (wr := []) (w2 := [(g0, .inr (2, [.int th, .ref r1, .ref r2, .long (-9223372036854775808 : Int64), .long (9223372036854775807 : Int64), .int ft, .long xl, .long xh, .long yl, .long yh]))]) (va_runV (As := []) (rest := []) ⟨hx, hb, hml, hown, hts⟩ (c_X3_all l dC dI g0 r1 r2 s.heap.size th fa fb ft xl xh yl yh) (cwV 0 hts (gz_l gX3_range_X3_all) rfl rfl rfl ydV_X3_all ⟨Nat.le_of_ble_eq_true rfl, Nat.le_of_ble_eq_true rfl⟩) (wp_V (hK.sub (tys' := []) [] rfl) (hP.sub (ws' := [(g0, .inr (2, [.int th, .ref r1, .ref r2, .long fa, .long fb, .int ft, .long xl, .long xh, .long yl, .long yh]))]) [0] rfl) (hD.sub (ws' := [(g0, .inr (2, [.int th, .ref r1, .ref r2, .long fa, .long fb, .int ft, .long xl, .long xh, .long yl, .long yh]))]) [0] (by decide) rfl)  rfl rfl) rfl rfl hl.1 rfl (lv_room (Nat.le_of_ble_eq_true rfl)) dX3_range_237 ⟨Nat.le_of_ble_eq_true rfl, Nat.le_of_ble_eq_true rfl⟩) hP hD hS hA [0] [] [0] rfl rfl rfl (by decide) rfl rfl (fun H locs hP hD hS => ?_)
            refine W.widen (k := 4) (n := 24) (by omega) (by omega) ?_
            have es : (s_X3_range ft p0 p1 p2 p3 p4 p5) = ((-9223372036854775808 : Int64), (9223372036854775807 : Int64), ft) := by unfold s_X3_range; rw [if_pos c1, if_pos c2, if_neg c3, if_neg c4, if_neg c5, if_neg c6, if_neg c7, if_neg c8, if_pos c10, if_neg c11]
            exact W.vret hx hb hr (fun t ht hW => by rw [es]; exact ⟨rfl, by rw [ht]; exact hP, hD, hS.F ht⟩) hS.2.2 dX3_range_240
          · refine lv_iload hx hb dX3_range_194 (lv_at hl 3 rfl) ?_
            refine lv_if_eq (tgt := 216) hx hb dX3_range_196 (by decide) (fun _ => ?_) (fun h => absurd (by decide) h)
            refine lv_iload hx hb dX3_range_216 (lv_at hl 3 rfl) ?_
            refine lv_if_eq (tgt := 236) hx hb dX3_range_218 (by decide) (fun _ => ?_) (fun h => absurd (by decide) h)
            refine lv_aload_n hx hb dX3_range_236 rfl (lv_at hl 4 rfl) ?_
            refine wq_callv (wc := [(g0, .inr (2, [.int th, .ref r1, .ref r2, .long fa, .long fb, .int ft, .long xl, .long xh, .long yl, .long yh]))]) (wr := []) (w2 := [(g0, .inr (2, [.int th, .ref r1, .ref r2, .long (-9223372036854775808 : Int64), .long (9223372036854775807 : Int64), .int ft, .long xl, .long xh, .long yl, .long yh]))]) (va_runV (As := []) (rest := []) ⟨hx, hb, hml, hown, hts⟩ (c_X3_all l dC dI g0 r1 r2 s.heap.size th fa fb ft xl xh yl yh) (cwV 0 hts (gz_l gX3_range_X3_all) rfl rfl rfl ydV_X3_all ⟨Nat.le_of_ble_eq_true rfl, Nat.le_of_ble_eq_true rfl⟩) (wp_V (hK.sub (tys' := []) [] rfl) (hP.sub (ws' := [(g0, .inr (2, [.int th, .ref r1, .ref r2, .long fa, .long fb, .int ft, .long xl, .long xh, .long yl, .long yh]))]) [0] rfl) (hD.sub (ws' := [(g0, .inr (2, [.int th, .ref r1, .ref r2, .long fa, .long fb, .int ft, .long xl, .long xh, .long yl, .long yh]))]) [0] (by decide) rfl)  rfl rfl) rfl rfl hl.1 rfl (lv_room (Nat.le_of_ble_eq_true rfl)) dX3_range_237 ⟨Nat.le_of_ble_eq_true rfl, Nat.le_of_ble_eq_true rfl⟩) hP hD hS hA [0] [] [0] rfl rfl rfl (by decide) rfl rfl (fun H locs hP hD hS => ?_)
            refine W.widen (k := 4) (n := 24) (by omega) (by omega) ?_
            have es : (s_X3_range ft p0 p1 p2 p3 p4 p5) = ((-9223372036854775808 : Int64), (9223372036854775807 : Int64), ft) := by unfold s_X3_range; rw [if_pos c1, if_pos c2, if_neg c3, if_neg c4, if_neg c5, if_neg c6, if_neg c7, if_neg c8, if_pos c10, if_pos c11]
            exact W.vret hx hb hr (fun t ht hW => by rw [es]; exact ⟨rfl, by rw [ht]; exact hP, hD, hS.F ht⟩) hS.2.2 dX3_range_240
        by_cases c12 : p0 = (6 : Int32)
        · refine lv_tableIn (off := 190) (tgt := 241) hx hb dX3_range_51 (by rw [c12]; decide) (by rw [c12]; decide) (by rw [c12]; decide) (by decide) ?_
          refine lv_iload hx hb dX3_range_241 (lv_at hl 3 rfl) ?_
          refine lv_if_ne (tgt := 251) hx hb dX3_range_243 (by decide) (fun h => absurd (by decide) h) (fun _ => ?_)
          refine lv_iload hx hb dX3_range_246 (lv_at hl 2 rfl) ?_
          refine lv_if_eq (tgt := 291) hx hb dX3_range_248 (by decide) (fun _ => ?_) (fun h => absurd (by decide) h)
          refine lv_aload_n hx hb dX3_range_291 rfl (lv_at hl 4 rfl) ?_
          refine wq_callv (wc := [(g0, .inr (2, [.int th, .ref r1, .ref r2, .long fa, .long fb, .int ft, .long xl, .long xh, .long yl, .long yh]))]) (wr := []) (w2 := [(g0, .inr (2, [.int th, .ref r1, .ref r2, .long (-9223372036854775808 : Int64), .long (9223372036854775807 : Int64), .int ft, .long xl, .long xh, .long yl, .long yh]))]) (va_runV (As := []) (rest := []) ⟨hx, hb, hml, hown, hts⟩ (c_X3_all l dC dI g0 r1 r2 s.heap.size th fa fb ft xl xh yl yh) (cwV 0 hts (gz_l gX3_range_X3_all) rfl rfl rfl ydV_X3_all ⟨Nat.le_of_ble_eq_true rfl, Nat.le_of_ble_eq_true rfl⟩) (wp_V (hK.sub (tys' := []) [] rfl) (hP.sub (ws' := [(g0, .inr (2, [.int th, .ref r1, .ref r2, .long fa, .long fb, .int ft, .long xl, .long xh, .long yl, .long yh]))]) [0] rfl) (hD.sub (ws' := [(g0, .inr (2, [.int th, .ref r1, .ref r2, .long fa, .long fb, .int ft, .long xl, .long xh, .long yl, .long yh]))]) [0] (by decide) rfl)  rfl rfl) rfl rfl hl.1 rfl (lv_room (Nat.le_of_ble_eq_true rfl)) dX3_range_292 ⟨Nat.le_of_ble_eq_true rfl, Nat.le_of_ble_eq_true rfl⟩) hP hD hS hA [0] [] [0] rfl rfl rfl (by decide) rfl rfl (fun H locs hP hD hS => ?_)
          refine W.widen (k := 4) (n := 24) (by omega) (by omega) ?_
          have es : (s_X3_range ft p0 p1 p2 p3 p4 p5) = ((-9223372036854775808 : Int64), (9223372036854775807 : Int64), ft) := by unfold s_X3_range; rw [if_pos c1, if_pos c2, if_neg c3, if_neg c4, if_neg c5, if_neg c6, if_neg c7, if_neg c8, if_neg c10, if_pos c12]
          exact W.vret hx hb hr (fun t ht hW => by rw [es]; exact ⟨rfl, by rw [ht]; exact hP, hD, hS.F ht⟩) hS.2.2 dX3_range_295
        by_cases c13 : p0 = (7 : Int32)
        · refine lv_tableIn (off := 245) (tgt := 296) hx hb dX3_range_51 (by rw [c13]; decide) (by rw [c13]; decide) (by rw [c13]; decide) (by decide) ?_
          refine lv_iload hx hb dX3_range_296 (lv_at hl 3 rfl) ?_
          refine lv_if_eq (tgt := 358) hx hb dX3_range_298 (by decide) (fun _ => ?_) (fun h => absurd (by decide) h)
          refine lv_aload_n hx hb dX3_range_358 rfl (lv_at hl 4 rfl) ?_
          refine wq_callv (wc := [(g0, .inr (2, [.int th, .ref r1, .ref r2, .long fa, .long fb, .int ft, .long xl, .long xh, .long yl, .long yh]))]) (wr := []) (w2 := [(g0, .inr (2, [.int th, .ref r1, .ref r2, .long (-9223372036854775808 : Int64), .long (9223372036854775807 : Int64), .int ft, .long xl, .long xh, .long yl, .long yh]))]) (va_runV (As := []) (rest := []) ⟨hx, hb, hml, hown, hts⟩ (c_X3_all l dC dI g0 r1 r2 s.heap.size th fa fb ft xl xh yl yh) (cwV 0 hts (gz_l gX3_range_X3_all) rfl rfl rfl ydV_X3_all ⟨Nat.le_of_ble_eq_true rfl, Nat.le_of_ble_eq_true rfl⟩) (wp_V (hK.sub (tys' := []) [] rfl) (hP.sub (ws' := [(g0, .inr (2, [.int th, .ref r1, .ref r2, .long fa, .long fb, .int ft, .long xl, .long xh, .long yl, .long yh]))]) [0] rfl) (hD.sub (ws' := [(g0, .inr (2, [.int th, .ref r1, .ref r2, .long fa, .long fb, .int ft, .long xl, .long xh, .long yl, .long yh]))]) [0] (by decide) rfl)  rfl rfl) rfl rfl hl.1 rfl (lv_room (Nat.le_of_ble_eq_true rfl)) dX3_range_359 ⟨Nat.le_of_ble_eq_true rfl, Nat.le_of_ble_eq_true rfl⟩) hP hD hS hA [0] [] [0] rfl rfl rfl (by decide) rfl rfl (fun H locs hP hD hS => ?_)
          refine W.widen (k := 4) (n := 24) (by omega) (by omega) ?_
          have es : (s_X3_range ft p0 p1 p2 p3 p4 p5) = ((-9223372036854775808 : Int64), (9223372036854775807 : Int64), ft) := by unfold s_X3_range; rw [if_pos c1, if_pos c2, if_neg c3, if_neg c4, if_neg c5, if_neg c6, if_neg c7, if_neg c8, if_neg c10, if_neg c12, if_pos c13]
          exact W.vret hx hb hr (fun t ht hW => by rw [es]; exact ⟨rfl, by rw [ht]; exact hP, hD, hS.F ht⟩) hS.2.2 dX3_range_362
        by_cases c14 : p0 = (8 : Int32)
        · refine lv_tableIn (off := 245) (tgt := 296) hx hb dX3_range_51 (by rw [c14]; decide) (by rw [c14]; decide) (by rw [c14]; decide) (by decide) ?_
          refine lv_iload hx hb dX3_range_296 (lv_at hl 3 rfl) ?_
          refine lv_if_eq (tgt := 358) hx hb dX3_range_298 (by decide) (fun _ => ?_) (fun h => absurd (by decide) h)
          refine lv_aload_n hx hb dX3_range_358 rfl (lv_at hl 4 rfl) ?_
          refine wq_callv (wc := [(g0, .inr (2, [.int th, .ref r1, .ref r2, .long fa, .long fb, .int ft, .long xl, .long xh, .long yl, .long yh]))]) (wr := []) (w2 := [(g0, .inr (2, [.int th, .ref r1, .ref r2, .long (-9223372036854775808 : Int64), .long (9223372036854775807 : Int64), .int ft, .long xl, .long xh, .long yl, .long yh]))]) (va_runV (As := []) (rest := []) ⟨hx, hb, hml, hown, hts⟩ (c_X3_all l dC dI g0 r1 r2 s.heap.size th fa fb ft xl xh yl yh) (cwV 0 hts (gz_l gX3_range_X3_all) rfl rfl rfl ydV_X3_all ⟨Nat.le_of_ble_eq_true rfl, Nat.le_of_ble_eq_true rfl⟩) (wp_V (hK.sub (tys' := []) [] rfl) (hP.sub (ws' := [(g0, .inr (2, [.int th, .ref r1, .ref r2, .long fa, .long fb, .int ft, .long xl, .long xh, .long yl, .long yh]))]) [0] rfl) (hD.sub (ws' := [(g0, .inr (2, [.int th, .ref r1, .ref r2, .long fa, .long fb, .int ft, .long xl, .long xh, .long yl, .long yh]))]) [0] (by decide) rfl)  rfl rfl) rfl rfl hl.1 rfl (lv_room (Nat.le_of_ble_eq_true rfl)) dX3_range_359 ⟨Nat.le_of_ble_eq_true rfl, Nat.le_of_ble_eq_true rfl⟩) hP hD hS hA [0] [] [0] rfl rfl rfl (by decide) rfl rfl (fun H locs hP hD hS => ?_)
          refine W.widen (k := 4) (n := 24) (by omega) (by omega) ?_
          have es : (s_X3_range ft p0 p1 p2 p3 p4 p5) = ((-9223372036854775808 : Int64), (9223372036854775807 : Int64), ft) := by unfold s_X3_range; rw [if_pos c1, if_pos c2, if_neg c3, if_neg c4, if_neg c5, if_neg c6, if_neg c7, if_neg c8, if_neg c10, if_neg c12, if_neg c13, if_pos c14]
          exact W.vret hx hb hr (fun t ht hW => by rw [es]; exact ⟨rfl, by rw [ht]; exact hP, hD, hS.F ht⟩) hS.2.2 dX3_range_362
        by_cases c15 : p0 = (9 : Int32)
        · refine lv_tableIn (off := 312) (tgt := 363) hx hb dX3_range_51 (by rw [c15]; decide) (by rw [c15]; decide) (by rw [c15]; decide) (by decide) ?_
          refine lv_iload hx hb dX3_range_363 (lv_at hl 1 rfl) ?_
          refine lv_if_eq (tgt := 413) hx hb dX3_range_365 (by decide) (fun _ => ?_) (fun h => absurd (by decide) h)
          refine lv_aload_n hx hb dX3_range_413 rfl (lv_at hl 4 rfl) ?_
          refine wq_callv (wc := [(g0, .inr (2, [.int th, .ref r1, .ref r2, .long fa, .long fb, .int ft, .long xl, .long xh, .long yl, .long yh]))]) (wr := []) (w2 := [(g0, .inr (2, [.int th, .ref r1, .ref r2, .long (-9223372036854775808 : Int64), .long (9223372036854775807 : Int64), .int ft, .long xl, .long xh, .long yl, .long yh]))]) (va_runV (As := []) (rest := []) ⟨hx, hb, hml, hown, hts⟩ (c_X3_all l dC dI g0 r1 r2 s.heap.size th fa fb ft xl xh yl yh) (cwV 0 hts (gz_l gX3_range_X3_all) rfl rfl rfl ydV_X3_all ⟨Nat.le_of_ble_eq_true rfl, Nat.le_of_ble_eq_true rfl⟩) (wp_V (hK.sub (tys' := []) [] rfl) (hP.sub (ws' := [(g0, .inr (2, [.int th, .ref r1, .ref r2, .long fa, .long fb, .int ft, .long xl, .long xh, .long yl, .long yh]))]) [0] rfl) (hD.sub (ws' := [(g0, .inr (2, [.int th, .ref r1, .ref r2, .long fa, .long fb, .int ft, .long xl, .long xh, .long yl, .long yh]))]) [0] (by decide) rfl)  rfl rfl) rfl rfl hl.1 rfl (lv_room (Nat.le_of_ble_eq_true rfl)) dX3_range_414 ⟨Nat.le_of_ble_eq_true rfl, Nat.le_of_ble_eq_true rfl⟩) hP hD hS hA [0] [] [0] rfl rfl rfl (by decide) rfl rfl (fun H locs hP hD hS => ?_)
          refine W.widen (k := 4) (n := 24) (by omega) (by omega) ?_
          have es : (s_X3_range ft p0 p1 p2 p3 p4 p5) = ((-9223372036854775808 : Int64), (9223372036854775807 : Int64), ft) := by unfold s_X3_range; rw [if_pos c1, if_pos c2, if_neg c3, if_neg c4, if_neg c5, if_neg c6, if_neg c7, if_neg c8, if_neg c10, if_neg c12, if_neg c13, if_neg c14, if_pos c15]
          exact W.vret hx hb hr (fun t ht hW => by rw [es]; exact ⟨rfl, by rw [ht]; exact hP, hD, hS.F ht⟩) hS.2.2 dX3_range_417
        by_cases c16 : p0 = (10 : Int32)
        · refine lv_tableIn (off := 367) (tgt := 418) hx hb dX3_range_51 (by rw [c16]; decide) (by rw [c16]; decide) (by rw [c16]; decide) (by decide) ?_
          refine lv_iload hx hb dX3_range_418 (lv_at hl 1 rfl) ?_
          refine lv_if_eq (tgt := 473) hx hb dX3_range_420 (by decide) (fun _ => ?_) (fun h => absurd (by decide) h)
          refine lv_iload hx hb dX3_range_473 (lv_at hl 3 rfl) ?_
          refine lv_if_eq (tgt := 488) hx hb dX3_range_475 (by decide) (fun _ => ?_) (fun h => absurd (by decide) h)
          refine lv_aload_n hx hb dX3_range_488 rfl (lv_at hl 4 rfl) ?_
          refine wq_callv (wc := [(g0, .inr (2, [.int th, .ref r1, .ref r2, .long fa, .long fb, .int ft, .long xl, .long xh, .long yl, .long yh]))]) (wr := []) (w2 := [(g0, .inr (2, [.int th, .ref r1, .ref r2, .long (-9223372036854775808 : Int64), .long (9223372036854775807 : Int64), .int ft, .long xl, .long xh, .long yl, .long yh]))]) (va_runV (As := []) (rest := []) ⟨hx, hb, hml, hown, hts⟩ (c_X3_all l dC dI g0 r1 r2 s.heap.size th fa fb ft xl xh yl yh) (cwV 0 hts (gz_l gX3_range_X3_all) rfl rfl rfl ydV_X3_all ⟨Nat.le_of_ble_eq_true rfl, Nat.le_of_ble_eq_true rfl⟩) (wp_V (hK.sub (tys' := []) [] rfl) (hP.sub (ws' := [(g0, .inr (2, [.int th, .ref r1, .ref r2, .long fa, .long fb, .int ft, .long xl, .long xh, .long yl, .long yh]))]) [0] rfl) (hD.sub (ws' := [(g0, .inr (2, [.int th, .ref r1, .ref r2, .long fa, .long fb, .int ft, .long xl, .long xh, .long yl, .long yh]))]) [0] (by decide) rfl)  rfl rfl) rfl rfl hl.1 rfl (lv_room (Nat.le_of_ble_eq_true rfl)) dX3_range_489 ⟨Nat.le_of_ble_eq_true rfl, Nat.le_of_ble_eq_true rfl⟩) hP hD hS hA [0] [] [0] rfl rfl rfl (by decide) rfl rfl (fun H locs hP hD hS => ?_)
          refine W.widen (k := 4) (n := 24) (by omega) (by omega) ?_
          have es : (s_X3_range ft p0 p1 p2 p3 p4 p5) = ((-9223372036854775808 : Int64), (9223372036854775807 : Int64), ft) := by unfold s_X3_range; rw [if_pos c1, if_pos c2, if_neg c3, if_neg c4, if_neg c5, if_neg c6, if_neg c7, if_neg c8, if_neg c10, if_neg c12, if_neg c13, if_neg c14, if_neg c15, if_pos c16]
          exact W.vret hx hb hr (fun t ht hW => by rw [es]; exact ⟨rfl, by rw [ht]; exact hP, hD, hS.F ht⟩) hS.2.2 dX3_range_492
        by_cases c17 : p0 = (11 : Int32)
        · refine lv_tableIn (off := 442) (tgt := 493) hx hb dX3_range_51 (by rw [c17]; decide) (by rw [c17]; decide) (by rw [c17]; decide) (by decide) ?_
          refine lv_iload hx hb dX3_range_493 (lv_at hl 1 rfl) ?_
          refine lv_if_eq (tgt := 514) hx hb dX3_range_495 (by decide) (fun _ => ?_) (fun h => absurd (by decide) h)
          refine lv_iload hx hb dX3_range_514 (lv_at hl 3 rfl) ?_
          refine lv_if_eq (tgt := 529) hx hb dX3_range_516 (by decide) (fun _ => ?_) (fun h => absurd (by decide) h)
          refine lv_aload_n hx hb dX3_range_529 rfl (lv_at hl 4 rfl) ?_
          refine wq_callv (wc := [(g0, .inr (2, [.int th, .ref r1, .ref r2, .long fa, .long fb, .int ft, .long xl, .long xh, .long yl, .long yh]))]) (wr := []) (w2 := [(g0, .inr (2, [.int th, .ref r1, .ref r2, .long (-9223372036854775808 : Int64), .long (9223372036854775807 : Int64), .int ft, .long xl, .long xh, .long yl, .long yh]))]) (va_runV (As := []) (rest := []) ⟨hx, hb, hml, hown, hts⟩ (c_X3_all l dC dI g0 r1 r2 s.heap.size th fa fb ft xl xh yl yh) (cwV 0 hts (gz_l gX3_range_X3_all) rfl rfl rfl ydV_X3_all ⟨Nat.le_of_ble_eq_true rfl, Nat.le_of_ble_eq_true rfl⟩) (wp_V (hK.sub (tys' := []) [] rfl) (hP.sub (ws' := [(g0, .inr (2, [.int th, .ref r1, .ref r2, .long fa, .long fb, .int ft, .long xl, .long xh, .long yl, .long yh]))]) [0] rfl) (hD.sub (ws' := [(g0, .inr (2, [.int th, .ref r1, .ref r2, .long fa, .long fb, .int ft, .long xl, .long xh, .long yl, .long yh]))]) [0] (by decide) rfl)  rfl rfl) rfl rfl hl.1 rfl (lv_room (Nat.le_of_ble_eq_true rfl)) dX3_range_530 ⟨Nat.le_of_ble_eq_true rfl, Nat.le_of_ble_eq_true rfl⟩) hP hD hS hA [0] [] [0] rfl rfl rfl (by decide) rfl rfl (fun H locs hP hD hS => ?_)
          refine W.widen (k := 4) (n := 24) (by omega) (by omega) ?_
          have es : (s_X3_range ft p0 p1 p2 p3 p4 p5) = ((-9223372036854775808 : Int64), (9223372036854775807 : Int64), ft) := by unfold s_X3_range; rw [if_pos c1, if_pos c2, if_neg c3, if_neg c4, if_neg c5, if_neg c6, if_neg c7, if_neg c8, if_neg c10, if_neg c12, if_neg c13, if_neg c14, if_neg c15, if_neg c16, if_pos c17]
          exact W.vret hx hb hr (fun t ht hW => by rw [es]; exact ⟨rfl, by rw [ht]; exact hP, hD, hS.F ht⟩) hS.2.2 dX3_range_533
        refine lv_tableOut (tgt := 534) hx hb dX3_range_51 (by have h0 := lv_neT c4 (a := 0) rfl; have h1 := lv_neT c5 (a := 1) rfl; have h2 := lv_neT c6 (a := 2) rfl; have h3 := lv_neT c7 (a := 3) rfl; have h4 := lv_neT c8 (a := 4) rfl; have h5 := lv_neT c10 (a := 5) rfl; have h6 := lv_neT c12 (a := 6) rfl; have h7 := lv_neT c13 (a := 7) rfl; have h8 := lv_neT c14 (a := 8) rfl; have h9 := lv_neT c15 (a := 9) rfl; have h10 := lv_neT c16 (a := 10) rfl; have h11 := lv_neT c17 (a := 11) rfl; omega) (by decide) ?_
        refine lv_aload_n hx hb dX3_range_534 rfl (lv_at hl 4 rfl) ?_
        refine lv_iconst (v := (2 : Int32)) hx hb dX3_range_535 (by decide) ?_
        refine lv_lconst (v := (0 : Int64)) hx hb dX3_range_536 (by decide) ?_
        refine lv_lconst (v := (0 : Int64)) hx hb dX3_range_537 (by decide) ?_
        refine lv_lload_n hx hb dX3_range_538 rfl (lv_at hl 6 rfl) ?_
        refine lv_lload hx hb dX3_range_539 (lv_at hl 7 rfl) ?_
        refine wq_callv (wc := [(g0, .inr (2, [.int th, .ref r1, .ref r2, .long fa, .long fb, .int ft, .long xl, .long xh, .long yl, .long yh]))]) (wr := []) (w2 := [(g0, .inr (2, [.int th, .ref r1, .ref r2, .long ((s_X3_ends (2 : Int32) (0 : Int64) (0 : Int64) p1 p2).1), .long ((s_X3_ends (2 : Int32) (0 : Int64) (0 : Int64) p1 p2).2.1), .int ((s_X3_ends (2 : Int32) (0 : Int64) (0 : Int64) p1 p2).2.2), .long xl, .long xh, .long yl, .long yh]))]) (va_runV (As := [.int (2 : Int32), .long (0 : Int64), .long (0 : Int64), .long p1, .long p2]) (rest := []) ⟨hx, hb, hml, hown, hts⟩ (c_X3_ends l S0 hst dC dI g0 r1 r2 s.heap.size th fa fb ft xl xh yl yh (2 : Int32) (0 : Int64) (0 : Int64) p1 p2 (fun q h => hS1 q (va_free (wc := [(g0, .inr (2, [.int th, .ref r1, .ref r2, .long fa, .long fb, .int ft, .long xl, .long xh, .long yl, .long yh]))]) hD hS hA [0] rfl q h))) (cwV 5 hts (gz_V wz_A_good gX3_range_X3_ends) rfl rfl rfl ydV_X3_ends ⟨Nat.le_of_ble_eq_true rfl, Nat.le_of_ble_eq_true rfl⟩) (twp_V (hK.sub (tys' := []) [] rfl) (hP.sub (ws' := [(g0, .inr (2, [.int th, .ref r1, .ref r2, .long fa, .long fb, .int ft, .long xl, .long xh, .long yl, .long yh]))]) [0] rfl) (hD.sub (ws' := [(g0, .inr (2, [.int th, .ref r1, .ref r2, .long fa, .long fb, .int ft, .long xl, .long xh, .long yl, .long yh]))]) [0] (by decide) rfl) ham rfl rfl) rfl rfl hl.1 rfl (lv_room (Nat.le_of_ble_eq_true rfl)) dX3_range_541 ⟨Nat.le_of_ble_eq_true rfl, Nat.le_of_ble_eq_true rfl⟩) hP hD hS hA [0] [] [0] rfl rfl rfl (by decide) rfl rfl (fun H locs hP hD hS => ?_)
        have es : (s_X3_range ft p0 p1 p2 p3 p4 p5) = ((s_X3_ends (2 : Int32) (0 : Int64) (0 : Int64) p1 p2).1, (s_X3_ends (2 : Int32) (0 : Int64) (0 : Int64) p1 p2).2.1, (s_X3_ends (2 : Int32) (0 : Int64) (0 : Int64) p1 p2).2.2) := by unfold s_X3_range; rw [if_pos c1, if_pos c2, if_neg c3, if_neg c4, if_neg c5, if_neg c6, if_neg c7, if_neg c8, if_neg c10, if_neg c12, if_neg c13, if_neg c14, if_neg c15, if_neg c16, if_neg c17]
        exact W.vret hx hb hr (fun t ht hW => by rw [es]; exact ⟨rfl, by rw [ht]; exact hP, hD, hS.F ht⟩) hS.2.2 dX3_range_544
      · refine lv_iconst (v := (1 : Int32)) hx hb dX3_range_35 (by decide) ?_
        refine lv_goto (tgt := 40) hx hb dX3_range_36 (by decide) ?_
        refine lv_istore (lv' := [(13, .int (1 : Int32)), (12, .int (0 : Int32)), (11, .int (0 : Int32)), (0, .ref g0), (1, .int p0), (2, .long p1), (4, .long p2), (6, .long p3), (8, .long p4), (10, .int p5)]) hx hb dX3_range_40 hl (by decide) rfl (fun ls hl => ?_)
        refine lv_lload hx hb dX3_range_42 (lv_at hl 7 rfl) ?_
        refine lv_l2i (v := p3.toInt32) hx hb dX3_range_44 rfl ?_
        refine lv_iload hx hb dX3_range_45 (lv_at hl 9 rfl) ?_
        refine lv_iand hx hb dX3_range_47 ?_
        refine lv_istore (lv' := [(14, .int (p3.toInt32 &&& p5)), (13, .int (1 : Int32)), (12, .int (0 : Int32)), (11, .int (0 : Int32)), (0, .ref g0), (1, .int p0), (2, .long p1), (4, .long p2), (6, .long p3), (8, .long p4), (10, .int p5)]) hx hb dX3_range_48 hl (by decide) rfl (fun ls hl => ?_)
        refine lv_iload_n hx hb dX3_range_50 rfl (lv_at hl 5 rfl) ?_
        by_cases c18 : p0 = (0 : Int32)
        · refine lv_tableIn (off := 61) (tgt := 112) hx hb dX3_range_51 (by rw [c18]; decide) (by rw [c18]; decide) (by rw [c18]; decide) (by decide) ?_
          refine lv_aload_n hx hb dX3_range_112 rfl (lv_at hl 4 rfl) ?_
          refine lv_lload hx hb dX3_range_113 (lv_at hl 8 rfl) ?_
          refine lv_lload hx hb dX3_range_115 (lv_at hl 9 rfl) ?_
          refine wq_callv (wc := [(g0, .inr (2, [.int th, .ref r1, .ref r2, .long fa, .long fb, .int ft, .long xl, .long xh, .long yl, .long yh]))]) (wr := []) (w2 := [(g0, .inr (2, [.int th, .ref r1, .ref r2, .long p3, .long p4, .int ft, .long xl, .long xh, .long yl, .long yh]))]) (va_runV (As := [.long p3, .long p4]) (rest := []) ⟨hx, hb, hml, hown, hts⟩ (c_X3_between l dC dI g0 r1 r2 s.heap.size th fa fb ft xl xh yl yh p3 p4) (cwV 2 hts (gz_l gX3_range_X3_between) rfl rfl rfl ydV_X3_between ⟨Nat.le_of_ble_eq_true rfl, Nat.le_of_ble_eq_true rfl⟩) (wp_V (hK.sub (tys' := []) [] rfl) (hP.sub (ws' := [(g0, .inr (2, [.int th, .ref r1, .ref r2, .long fa, .long fb, .int ft, .long xl, .long xh, .long yl, .long yh]))]) [0] rfl) (hD.sub (ws' := [(g0, .inr (2, [.int th, .ref r1, .ref r2, .long fa, .long fb, .int ft, .long xl, .long xh, .long yl, .long yh]))]) [0] (by decide) rfl)  rfl rfl) rfl rfl hl.1 rfl (lv_room (Nat.le_of_ble_eq_true rfl)) dX3_range_117 ⟨Nat.le_of_ble_eq_true rfl, Nat.le_of_ble_eq_true rfl⟩) hP hD hS hA [0] [] [0] rfl rfl rfl (by decide) rfl rfl (fun H locs hP hD hS => ?_)
          refine W.widen (k := 4) (n := 24) (by omega) (by omega) ?_
          have es : (s_X3_range ft p0 p1 p2 p3 p4 p5) = (p3, p4, ft) := by unfold s_X3_range; rw [if_pos c1, if_pos c2, if_pos c3, if_pos c18]
          exact W.vret hx hb hr (fun t ht hW => by rw [es]; exact ⟨rfl, by rw [ht]; exact hP, hD, hS.F ht⟩) hS.2.2 dX3_range_120
        by_cases c19 : p0 = (1 : Int32)
        · refine lv_tableIn (off := 70) (tgt := 121) hx hb dX3_range_51 (by rw [c19]; decide) (by rw [c19]; decide) (by rw [c19]; decide) (by decide) ?_
          refine lv_aload_n hx hb dX3_range_121 rfl (lv_at hl 4 rfl) ?_
          refine lv_iload_n hx hb dX3_range_122 rfl (lv_at hl 5 rfl) ?_
          refine lv_lload_n hx hb dX3_range_123 rfl (lv_at hl 6 rfl) ?_
          refine lv_lload hx hb dX3_range_124 (lv_at hl 7 rfl) ?_
          refine lv_lload hx hb dX3_range_126 (lv_at hl 8 rfl) ?_
          refine lv_lload hx hb dX3_range_128 (lv_at hl 9 rfl) ?_
          refine wq_callv (wc := [(g0, .inr (2, [.int th, .ref r1, .ref r2, .long fa, .long fb, .int ft, .long xl, .long xh, .long yl, .long yh]))]) (wr := []) (w2 := [(g0, .inr (2, [.int th, .ref r1, .ref r2, .long ((s_X3_ends p0 p1 p2 p3 p4).1), .long ((s_X3_ends p0 p1 p2 p3 p4).2.1), .int ((s_X3_ends p0 p1 p2 p3 p4).2.2), .long xl, .long xh, .long yl, .long yh]))]) (va_runV (As := [.int p0, .long p1, .long p2, .long p3, .long p4]) (rest := []) ⟨hx, hb, hml, hown, hts⟩ (c_X3_ends l S0 hst dC dI g0 r1 r2 s.heap.size th fa fb ft xl xh yl yh p0 p1 p2 p3 p4 (fun q h => hS1 q (va_free (wc := [(g0, .inr (2, [.int th, .ref r1, .ref r2, .long fa, .long fb, .int ft, .long xl, .long xh, .long yl, .long yh]))]) hD hS hA [0] rfl q h))) (cwV 5 hts (gz_V wz_A_good gX3_range_X3_ends) rfl rfl rfl ydV_X3_ends ⟨Nat.le_of_ble_eq_true rfl, Nat.le_of_ble_eq_true rfl⟩) (twp_V (hK.sub (tys' := []) [] rfl) (hP.sub (ws' := [(g0, .inr (2, [.int th, .ref r1, .ref r2, .long fa, .long fb, .int ft, .long xl, .long xh, .long yl, .long yh]))]) [0] rfl) (hD.sub (ws' := [(g0, .inr (2, [.int th, .ref r1, .ref r2, .long fa, .long fb, .int ft, .long xl, .long xh, .long yl, .long yh]))]) [0] (by decide) rfl) ham rfl rfl) rfl rfl hl.1 rfl (lv_room (Nat.le_of_ble_eq_true rfl)) dX3_range_130 ⟨Nat.le_of_ble_eq_true rfl, Nat.le_of_ble_eq_true rfl⟩) hP hD hS hA [0] [] [0] rfl rfl rfl (by decide) rfl rfl (fun H locs hP hD hS => ?_)
          have es : (s_X3_range ft p0 p1 p2 p3 p4 p5) = ((s_X3_ends p0 p1 p2 p3 p4).1, (s_X3_ends p0 p1 p2 p3 p4).2.1, (s_X3_ends p0 p1 p2 p3 p4).2.2) := by unfold s_X3_range; rw [if_pos c1, if_pos c2, if_pos c3, if_neg c18, if_pos c19]
          exact W.vret hx hb hr (fun t ht hW => by rw [es]; exact ⟨rfl, by rw [ht]; exact hP, hD, hS.F ht⟩) hS.2.2 dX3_range_133
        by_cases c20 : p0 = (2 : Int32)
        · refine lv_tableIn (off := 70) (tgt := 121) hx hb dX3_range_51 (by rw [c20]; decide) (by rw [c20]; decide) (by rw [c20]; decide) (by decide) ?_
          refine lv_aload_n hx hb dX3_range_121 rfl (lv_at hl 4 rfl) ?_
          refine lv_iload_n hx hb dX3_range_122 rfl (lv_at hl 5 rfl) ?_
          refine lv_lload_n hx hb dX3_range_123 rfl (lv_at hl 6 rfl) ?_
          refine lv_lload hx hb dX3_range_124 (lv_at hl 7 rfl) ?_
          refine lv_lload hx hb dX3_range_126 (lv_at hl 8 rfl) ?_
          refine lv_lload hx hb dX3_range_128 (lv_at hl 9 rfl) ?_
          refine wq_callv (wc := [(g0, .inr (2, [.int th, .ref r1, .ref r2, .long fa, .long fb, .int ft, .long xl, .long xh, .long yl, .long yh]))]) (wr := []) (w2 := [(g0, .inr (2, [.int th, .ref r1, .ref r2, .long ((s_X3_ends p0 p1 p2 p3 p4).1), .long ((s_X3_ends p0 p1 p2 p3 p4).2.1), .int ((s_X3_ends p0 p1 p2 p3 p4).2.2), .long xl, .long xh, .long yl, .long yh]))]) (va_runV (As := [.int p0, .long p1, .long p2, .long p3, .long p4]) (rest := []) ⟨hx, hb, hml, hown, hts⟩ (c_X3_ends l S0 hst dC dI g0 r1 r2 s.heap.size th fa fb ft xl xh yl yh p0 p1 p2 p3 p4 (fun q h => hS1 q (va_free (wc := [(g0, .inr (2, [.int th, .ref r1, .ref r2, .long fa, .long fb, .int ft, .long xl, .long xh, .long yl, .long yh]))]) hD hS hA [0] rfl q h))) (cwV 5 hts (gz_V wz_A_good gX3_range_X3_ends) rfl rfl rfl ydV_X3_ends ⟨Nat.le_of_ble_eq_true rfl, Nat.le_of_ble_eq_true rfl⟩) (twp_V (hK.sub (tys' := []) [] rfl) (hP.sub (ws' := [(g0, .inr (2, [.int th, .ref r1, .ref r2, .long fa, .long fb, .int ft, .long xl, .long xh, .long yl, .long yh]))]) [0] rfl) (hD.sub (ws' := [(g0, .inr (2, [.int th, .ref r1, .ref r2, .long fa, .long fb, .int ft, .long xl, .long xh, .long yl, .long yh]))]) [0] (by decide) rfl) ham rfl rfl) rfl rfl hl.1 rfl (lv_room (Nat.le_of_ble_eq_true rfl)) dX3_range_130 ⟨Nat.le_of_ble_eq_true rfl, Nat.le_of_ble_eq_true rfl⟩) hP hD hS hA [0] [] [0] rfl rfl rfl (by decide) rfl rfl (fun H locs hP hD hS => ?_)
          have es : (s_X3_range ft p0 p1 p2 p3 p4 p5) = ((s_X3_ends p0 p1 p2 p3 p4).1, (s_X3_ends p0 p1 p2 p3 p4).2.1, (s_X3_ends p0 p1 p2 p3 p4).2.2) := by unfold s_X3_range; rw [if_pos c1, if_pos c2, if_pos c3, if_neg c18, if_neg c19, if_pos c20]
          exact W.vret hx hb hr (fun t ht hW => by rw [es]; exact ⟨rfl, by rw [ht]; exact hP, hD, hS.F ht⟩) hS.2.2 dX3_range_133
        by_cases c21 : p0 = (3 : Int32)
        · refine lv_tableIn (off := 70) (tgt := 121) hx hb dX3_range_51 (by rw [c21]; decide) (by rw [c21]; decide) (by rw [c21]; decide) (by decide) ?_
          refine lv_aload_n hx hb dX3_range_121 rfl (lv_at hl 4 rfl) ?_
          refine lv_iload_n hx hb dX3_range_122 rfl (lv_at hl 5 rfl) ?_
          refine lv_lload_n hx hb dX3_range_123 rfl (lv_at hl 6 rfl) ?_
          refine lv_lload hx hb dX3_range_124 (lv_at hl 7 rfl) ?_
          refine lv_lload hx hb dX3_range_126 (lv_at hl 8 rfl) ?_
          refine lv_lload hx hb dX3_range_128 (lv_at hl 9 rfl) ?_
          refine wq_callv (wc := [(g0, .inr (2, [.int th, .ref r1, .ref r2, .long fa, .long fb, .int ft, .long xl, .long xh, .long yl, .long yh]))]) (wr := []) (w2 := [(g0, .inr (2, [.int th, .ref r1, .ref r2, .long ((s_X3_ends p0 p1 p2 p3 p4).1), .long ((s_X3_ends p0 p1 p2 p3 p4).2.1), .int ((s_X3_ends p0 p1 p2 p3 p4).2.2), .long xl, .long xh, .long yl, .long yh]))]) (va_runV (As := [.int p0, .long p1, .long p2, .long p3, .long p4]) (rest := []) ⟨hx, hb, hml, hown, hts⟩ (c_X3_ends l S0 hst dC dI g0 r1 r2 s.heap.size th fa fb ft xl xh yl yh p0 p1 p2 p3 p4 (fun q h => hS1 q (va_free (wc := [(g0, .inr (2, [.int th, .ref r1, .ref r2, .long fa, .long fb, .int ft, .long xl, .long xh, .long yl, .long yh]))]) hD hS hA [0] rfl q h))) (cwV 5 hts (gz_V wz_A_good gX3_range_X3_ends) rfl rfl rfl ydV_X3_ends ⟨Nat.le_of_ble_eq_true rfl, Nat.le_of_ble_eq_true rfl⟩) (twp_V (hK.sub (tys' := []) [] rfl) (hP.sub (ws' := [(g0, .inr (2, [.int th, .ref r1, .ref r2, .long fa, .long fb, .int ft, .long xl, .long xh, .long yl, .long yh]))]) [0] rfl) (hD.sub (ws' := [(g0, .inr (2, [.int th, .ref r1, .ref r2, .long fa, .long fb, .int ft, .long xl, .long xh, .long yl, .long yh]))]) [0] (by decide) rfl) ham rfl rfl) rfl rfl hl.1 rfl (lv_room (Nat.le_of_ble_eq_true rfl)) dX3_range_130 ⟨Nat.le_of_ble_eq_true rfl, Nat.le_of_ble_eq_true rfl⟩) hP hD hS hA [0] [] [0] rfl rfl rfl (by decide) rfl rfl (fun H locs hP hD hS => ?_)
          have es : (s_X3_range ft p0 p1 p2 p3 p4 p5) = ((s_X3_ends p0 p1 p2 p3 p4).1, (s_X3_ends p0 p1 p2 p3 p4).2.1, (s_X3_ends p0 p1 p2 p3 p4).2.2) := by unfold s_X3_range; rw [if_pos c1, if_pos c2, if_pos c3, if_neg c18, if_neg c19, if_neg c20, if_pos c21]
          exact W.vret hx hb hr (fun t ht hW => by rw [es]; exact ⟨rfl, by rw [ht]; exact hP, hD, hS.F ht⟩) hS.2.2 dX3_range_133
        by_cases c22 : p0 = (4 : Int32)
        · refine lv_tableIn (off := 83) (tgt := 134) hx hb dX3_range_51 (by rw [c22]; decide) (by rw [c22]; decide) (by rw [c22]; decide) (by decide) ?_
          refine lv_lload hx hb dX3_range_134 (lv_at hl 8 rfl) ?_
          refine lv_lconst (v := (0 : Int64)) hx hb dX3_range_136 (by decide) ?_
          refine pl_le (tgt := 162) hx hb dX3_range_137 dX3_range_138 (by decide) (fun c23 => ?_) (fun c23 => ?_)
          · refine lv_iload hx hb dX3_range_162 (lv_at hl 3 rfl) ?_
            refine lv_if_eq (tgt := 182) hx hb dX3_range_164 (by decide) (fun _ => ?_) (fun h => absurd (by decide) h)
            refine lv_aload_n hx hb dX3_range_182 rfl (lv_at hl 4 rfl) ?_
            refine wq_callv (wc := [(g0, .inr (2, [.int th, .ref r1, .ref r2, .long fa, .long fb, .int ft, .long xl, .long xh, .long yl, .long yh]))]) (wr := []) (w2 := [(g0, .inr (2, [.int th, .ref r1, .ref r2, .long (-9223372036854775808 : Int64), .long (9223372036854775807 : Int64), .int ft, .long xl, .long xh, .long yl, .long yh]))]) (va_runV (As := []) (rest := []) ⟨hx, hb, hml, hown, hts⟩ (c_X3_all l dC dI g0 r1 r2 s.heap.size th fa fb ft xl xh yl yh) (cwV 0 hts (gz_l gX3_range_X3_all) rfl rfl rfl ydV_X3_all ⟨Nat.le_of_ble_eq_true rfl, Nat.le_of_ble_eq_true rfl⟩) (wp_V (hK.sub (tys' := []) [] rfl) (hP.sub (ws' := [(g0, .inr (2, [.int th, .ref r1, .ref r2, .long fa, .long fb, .int ft, .long xl, .long xh, .long yl, .long yh]))]) [0] rfl) (hD.sub (ws' := [(g0, .inr (2, [.int th, .ref r1, .ref r2, .long fa, .long fb, .int ft, .long xl, .long xh, .long yl, .long yh]))]) [0] (by decide) rfl)  rfl rfl) rfl rfl hl.1 rfl (lv_room (Nat.le_of_ble_eq_true rfl)) dX3_range_183 ⟨Nat.le_of_ble_eq_true rfl, Nat.le_of_ble_eq_true rfl⟩) hP hD hS hA [0] [] [0] rfl rfl rfl (by decide) rfl rfl (fun H locs hP hD hS => ?_)
            refine W.widen (k := 4) (n := 24) (by omega) (by omega) ?_
            have es : (s_X3_range ft p0 p1 p2 p3 p4 p5) = ((-9223372036854775808 : Int64), (9223372036854775807 : Int64), ft) := by unfold s_X3_range; rw [if_pos c1, if_pos c2, if_pos c3, if_neg c18, if_neg c19, if_neg c20, if_neg c21, if_pos c22, if_neg c23]
            exact W.vret hx hb hr (fun t ht hW => by rw [es]; exact ⟨rfl, by rw [ht]; exact hP, hD, hS.F ht⟩) hS.2.2 dX3_range_186
          · refine lv_iload hx hb dX3_range_141 (lv_at hl 3 rfl) ?_
            refine lv_if_eq (tgt := 162) hx hb dX3_range_143 (by decide) (fun _ => ?_) (fun h => absurd (by decide) h)
            refine lv_iload hx hb dX3_range_162 (lv_at hl 3 rfl) ?_
            refine lv_if_eq (tgt := 182) hx hb dX3_range_164 (by decide) (fun _ => ?_) (fun h => absurd (by decide) h)
            refine lv_aload_n hx hb dX3_range_182 rfl (lv_at hl 4 rfl) ?_
            refine wq_callv (wc := [(g0, .inr (2, [.int th, .ref r1, .ref r2, .long fa, .long fb, .int ft, .long xl, .long xh, .long yl, .long yh]))]) (wr := []) (w2 := [(g0, .inr (2, [.int th, .ref r1, .ref r2, .long (-9223372036854775808 : Int64), .long (9223372036854775807 : Int64), .int ft, .long xl, .long xh, .long yl, .long yh]))]) (va_runV (As := []) (rest := []) ⟨hx, hb, hml, hown, hts⟩ (c_X3_all l dC dI g0 r1 r2 s.heap.size th fa fb ft xl xh yl yh) (cwV 0 hts (gz_l gX3_range_X3_all) rfl rfl rfl ydV_X3_all ⟨Nat.le_of_ble_eq_true rfl, Nat.le_of_ble_eq_true rfl⟩) (wp_V (hK.sub (tys' := []) [] rfl) (hP.sub (ws' := [(g0, .inr (2, [.int th, .ref r1, .ref r2, .long fa, .long fb, .int ft, .long xl, .long xh, .long yl, .long yh]))]) [0] rfl) (hD.sub (ws' := [(g0, .inr (2, [.int th, .ref r1, .ref r2, .long fa, .long fb, .int ft, .long xl, .long xh, .long yl, .long yh]))]) [0] (by decide) rfl)  rfl rfl) rfl rfl hl.1 rfl (lv_room (Nat.le_of_ble_eq_true rfl)) dX3_range_183 ⟨Nat.le_of_ble_eq_true rfl, Nat.le_of_ble_eq_true rfl⟩) hP hD hS hA [0] [] [0] rfl rfl rfl (by decide) rfl rfl (fun H locs hP hD hS => ?_)
            refine W.widen (k := 4) (n := 24) (by omega) (by omega) ?_
            have es : (s_X3_range ft p0 p1 p2 p3 p4 p5) = ((-9223372036854775808 : Int64), (9223372036854775807 : Int64), ft) := by unfold s_X3_range; rw [if_pos c1, if_pos c2, if_pos c3, if_neg c18, if_neg c19, if_neg c20, if_neg c21, if_pos c22, if_pos c23]
            exact W.vret hx hb hr (fun t ht hW => by rw [es]; exact ⟨rfl, by rw [ht]; exact hP, hD, hS.F ht⟩) hS.2.2 dX3_range_186
        by_cases c24 : p0 = (5 : Int32)
        · refine lv_tableIn (off := 136) (tgt := 187) hx hb dX3_range_51 (by rw [c24]; decide) (by rw [c24]; decide) (by rw [c24]; decide) (by decide) ?_
          refine lv_lload hx hb dX3_range_187 (lv_at hl 8 rfl) ?_
          refine lv_lconst (v := (0 : Int64)) hx hb dX3_range_189 (by decide) ?_
          refine pl_le (tgt := 216) hx hb dX3_range_190 dX3_range_191 (by decide) (fun c25 => ?_) (fun c25 => ?_)
          · refine lv_iload hx hb dX3_range_216 (lv_at hl 3 rfl) ?_
            refine lv_if_eq (tgt := 236) hx hb dX3_range_218 (by decide) (fun _ => ?_) (fun h => absurd (by decide) h)
            refine lv_aload_n hx hb dX3_range_236 rfl (lv_at hl 4 rfl) ?_
            refine wq_callv (wc := [(g0, .inr (2, [.int th, .ref r1, .ref r2, .long fa, .long fb, .int ft, .long xl, .long xh, .long yl, .long yh]))]) (wr := []) (w2 := [(g0, .inr (2, [.int th, .ref r1, .ref r2, .long (-9223372036854775808 : Int64), .long (9223372036854775807 : Int64), .int ft, .long xl, .long xh, .long yl, .long yh]))]) (va_runV (As := []) (rest := []) ⟨hx, hb, hml, hown, hts⟩ (c_X3_all l dC dI g0 r1 r2 s.heap.size th fa fb ft xl xh yl yh) (cwV 0 hts (gz_l gX3_range_X3_all) rfl rfl rfl ydV_X3_all ⟨Nat.le_of_ble_eq_true rfl, Nat.le_of_ble_eq_true rfl⟩) (wp_V (hK.sub (tys' := []) [] rfl) (hP.sub (ws' := [(g0, .inr (2, [.int th, .ref r1, .ref r2, .long fa, .long fb, .int ft, .long xl, .long xh, .long yl, .long yh]))]) [0] rfl) (hD.sub (ws' := [(g0, .inr (2, [.int th, .ref r1, .ref r2, .long fa, .long fb, .int ft, .long xl, .long xh, .long yl, .long yh]))]) [0] (by decide) rfl)  rfl rfl) rfl rfl hl.1 rfl (lv_room (Nat.le_of_ble_eq_true rfl)) dX3_range_237 ⟨Nat.le_of_ble_eq_true rfl, Nat.le_of_ble_eq_true rfl⟩) hP hD hS hA [0] [] [0] rfl rfl rfl (by decide) rfl rfl (fun H locs hP hD hS => ?_)
            refine W.widen (k := 4) (n := 24) (by omega) (by omega) ?_
            have es : (s_X3_range ft p0 p1 p2 p3 p4 p5) = ((-9223372036854775808 : Int64), (9223372036854775807 : Int64), ft) := by unfold s_X3_range; rw [if_pos c1, if_pos c2, if_pos c3, if_neg c18, if_neg c19, if_neg c20, if_neg c21, if_neg c22, if_pos c24, if_neg c25]
            exact W.vret hx hb hr (fun t ht hW => by rw [es]; exact ⟨rfl, by rw [ht]; exact hP, hD, hS.F ht⟩) hS.2.2 dX3_range_240
          · refine lv_iload hx hb dX3_range_194 (lv_at hl 3 rfl) ?_
            refine lv_if_eq (tgt := 216) hx hb dX3_range_196 (by decide) (fun _ => ?_) (fun h => absurd (by decide) h)
            refine lv_iload hx hb dX3_range_216 (lv_at hl 3 rfl) ?_
            refine lv_if_eq (tgt := 236) hx hb dX3_range_218 (by decide) (fun _ => ?_) (fun h => absurd (by decide) h)
            refine lv_aload_n hx hb dX3_range_236 rfl (lv_at hl 4 rfl) ?_
            refine wq_callv (wc := [(g0, .inr (2, [.int th, .ref r1, .ref r2, .long fa, .long fb, .int ft, .long xl, .long xh, .long yl, .long yh]))]) (wr := []) (w2 := [(g0, .inr (2, [.int th, .ref r1, .ref r2, .long (-9223372036854775808 : Int64), .long (9223372036854775807 : Int64), .int ft, .long xl, .long xh, .long yl, .long yh]))]) (va_runV (As := []) (rest := []) ⟨hx, hb, hml, hown, hts⟩ (c_X3_all l dC dI g0 r1 r2 s.heap.size th fa fb ft xl xh yl yh) (cwV 0 hts (gz_l gX3_range_X3_all) rfl rfl rfl ydV_X3_all ⟨Nat.le_of_ble_eq_true rfl, Nat.le_of_ble_eq_true rfl⟩) (wp_V (hK.sub (tys' := []) [] rfl) (hP.sub (ws' := [(g0, .inr (2, [.int th, .ref r1, .ref r2, .long fa, .long fb, .int ft, .long xl, .long xh, .long yl, .long yh]))]) [0] rfl) (hD.sub (ws' := [(g0, .inr (2, [.int th, .ref r1, .ref r2, .long fa, .long fb, .int ft, .long xl, .long xh, .long yl, .long yh]))]) [0] (by decide) rfl)  rfl rfl) rfl rfl hl.1 rfl (lv_room (Nat.le_of_ble_eq_true rfl)) dX3_range_237 ⟨Nat.le_of_ble_eq_true rfl, Nat.le_of_ble_eq_true rfl⟩) hP hD hS hA [0] [] [0] rfl rfl rfl (by decide) rfl rfl (fun H locs hP hD hS => ?_)
            refine W.widen (k := 4) (n := 24) (by omega) (by omega) ?_
            have es : (s_X3_range ft p0 p1 p2 p3 p4 p5) = ((-9223372036854775808 : Int64), (9223372036854775807 : Int64), ft) := by unfold s_X3_range; rw [if_pos c1, if_pos c2, if_pos c3, if_neg c18, if_neg c19, if_neg c20, if_neg c21, if_neg c22, if_pos c24, if_pos c25]
            exact W.vret hx hb hr (fun t ht hW => by rw [es]; exact ⟨rfl, by rw [ht]; exact hP, hD, hS.F ht⟩) hS.2.2 dX3_range_240
        by_cases c26 : p0 = (6 : Int32)
        · refine lv_tableIn (off := 190) (tgt := 241) hx hb dX3_range_51 (by rw [c26]; decide) (by rw [c26]; decide) (by rw [c26]; decide) (by decide) ?_
          refine lv_iload hx hb dX3_range_241 (lv_at hl 3 rfl) ?_
          refine lv_if_ne (tgt := 251) hx hb dX3_range_243 (by decide) (fun h => absurd (by decide) h) (fun _ => ?_)
          refine lv_iload hx hb dX3_range_246 (lv_at hl 2 rfl) ?_
          refine lv_if_eq (tgt := 291) hx hb dX3_range_248 (by decide) (fun _ => ?_) (fun h => absurd (by decide) h)
          refine lv_aload_n hx hb dX3_range_291 rfl (lv_at hl 4 rfl) ?_
          refine wq_callv (wc := [(g0, .inr (2, [.int th, .ref r1, .ref r2, .long fa, .long fb, .int ft, .long xl, .long xh, .long yl, .long yh]))]) (wr := []) (w2 := [(g0, .inr (2, [.int th, .ref r1, .ref r2, .long (-9223372036854775808 : Int64), .long (9223372036854775807 : Int64), .int ft, .long xl, .long xh, .long yl, .long yh]))]) (va_runV (As := []) (rest := []) ⟨hx, hb, hml, hown, hts⟩ (c_X3_all l dC dI g0 r1 r2 s.heap.size th fa fb ft xl xh yl yh) (cwV 0 hts (gz_l gX3_range_X3_all) rfl rfl rfl ydV_X3_all ⟨Nat.le_of_ble_eq_true rfl, Nat.le_of_ble_eq_true rfl⟩) (wp_V (hK.sub (tys' := []) [] rfl) (hP.sub (ws' := [(g0, .inr (2, [.int th, .ref r1, .ref r2, .long fa, .long fb, .int ft, .long xl, .long xh, .long yl, .long yh]))]) [0] rfl) (hD.sub (ws' := [(g0, .inr (2, [.int th, .ref r1, .ref r2, .long fa, .long fb, .int ft, .long xl, .long xh, .long yl, .long yh]))]) [0] (by decide) rfl)  rfl rfl) rfl rfl hl.1 rfl (lv_room (Nat.le_of_ble_eq_true rfl)) dX3_range_292 ⟨Nat.le_of_ble_eq_true rfl, Nat.le_of_ble_eq_true rfl⟩) hP hD hS hA [0] [] [0] rfl rfl rfl (by decide) rfl rfl (fun H locs hP hD hS => ?_)
          refine W.widen (k := 4) (n := 24) (by omega) (by omega) ?_
          have es : (s_X3_range ft p0 p1 p2 p3 p4 p5) = ((-9223372036854775808 : Int64), (9223372036854775807 : Int64), ft) := by unfold s_X3_range; rw [if_pos c1, if_pos c2, if_pos c3, if_neg c18, if_neg c19, if_neg c20, if_neg c21, if_neg c22, if_neg c24, if_pos c26]
          exact W.vret hx hb hr (fun t ht hW => by rw [es]; exact ⟨rfl, by rw [ht]; exact hP, hD, hS.F ht⟩) hS.2.2 dX3_range_295
        by_cases c27 : p0 = (7 : Int32)
        · refine lv_tableIn (off := 245) (tgt := 296) hx hb dX3_range_51 (by rw [c27]; decide) (by rw [c27]; decide) (by rw [c27]; decide) (by decide) ?_
          refine lv_iload hx hb dX3_range_296 (lv_at hl 3 rfl) ?_
          refine lv_if_eq (tgt := 358) hx hb dX3_range_298 (by decide) (fun _ => ?_) (fun h => absurd (by decide) h)
          refine lv_aload_n hx hb dX3_range_358 rfl (lv_at hl 4 rfl) ?_
          refine wq_callv (wc := [(g0, .inr (2, [.int th, .ref r1, .ref r2, .long fa, .long fb, .int ft, .long xl, .long xh, .long yl, .long yh]))]) (wr := []) (w2 := [(g0, .inr (2, [.int th, .ref r1, .ref r2, .long (-9223372036854775808 : Int64), .long (9223372036854775807 : Int64), .int ft, .long xl, .long xh, .long yl, .long yh]))]) (va_runV (As := []) (rest := []) ⟨hx, hb, hml, hown, hts⟩ (c_X3_all l dC dI g0 r1 r2 s.heap.size th fa fb ft xl xh yl yh) (cwV 0 hts (gz_l gX3_range_X3_all) rfl rfl rfl ydV_X3_all ⟨Nat.le_of_ble_eq_true rfl, Nat.le_of_ble_eq_true rfl⟩) (wp_V (hK.sub (tys' := []) [] rfl) (hP.sub (ws' := [(g0, .inr (2, [.int th, .ref r1, .ref r2, .long fa, .long fb, .int ft, .long xl, .long xh, .long yl, .long yh]))]) [0] rfl) (hD.sub (ws' := [(g0, .inr (2, [.int th, .ref r1, .ref r2, .long fa, .long fb, .int ft, .long xl, .long xh, .long yl, .long yh]))]) [0] (by decide) rfl)  rfl rfl) rfl rfl hl.1 rfl (lv_room (Nat.le_of_ble_eq_true rfl)) dX3_range_359 ⟨Nat.le_of_ble_eq_true rfl, Nat.le_of_ble_eq_true rfl⟩) hP hD hS hA [0] [] [0] rfl rfl rfl (by decide) rfl rfl (fun H locs hP hD hS => ?_)
          refine W.widen (k := 4) (n := 24) (by omega) (by omega) ?_
          have es : (s_X3_range ft p0 p1 p2 p3 p4 p5) = ((-9223372036854775808 : Int64), (9223372036854775807 : Int64), ft) := by unfold s_X3_range; rw [if_pos c1, if_pos c2, if_pos c3, if_neg c18, if_neg c19, if_neg c20, if_neg c21, if_neg c22, if_neg c24, if_neg c26, if_pos c27]
          exact W.vret hx hb hr (fun t ht hW => by rw [es]; exact ⟨rfl, by rw [ht]; exact hP, hD, hS.F ht⟩) hS.2.2 dX3_range_362
        by_cases c28 : p0 = (8 : Int32)
        · refine lv_tableIn (off := 245) (tgt := 296) hx hb dX3_range_51 (by rw [c28]; decide) (by rw [c28]; decide) (by rw [c28]; decide) (by decide) ?_
          refine lv_iload hx hb dX3_range_296 (lv_at hl 3 rfl) ?_
          refine lv_if_eq (tgt := 358) hx hb dX3_range_298 (by decide) (fun _ => ?_) (fun h => absurd (by decide) h)
          refine lv_aload_n hx hb dX3_range_358 rfl (lv_at hl 4 rfl) ?_
          refine wq_callv (wc := [(g0, .inr (2, [.int th, .ref r1, .ref r2, .long fa, .long fb, .int ft, .long xl, .long xh, .long yl, .long yh]))]) (wr := []) (w2 := [(g0, .inr (2, [.int th, .ref r1, .ref r2, .long (-9223372036854775808 : Int64), .long (9223372036854775807 : Int64), .int ft, .long xl, .long xh, .long yl, .long yh]))]) (va_runV (As := []) (rest := []) ⟨hx, hb, hml, hown, hts⟩ (c_X3_all l dC dI g0 r1 r2 s.heap.size th fa fb ft xl xh yl yh) (cwV 0 hts (gz_l gX3_range_X3_all) rfl rfl rfl ydV_X3_all ⟨Nat.le_of_ble_eq_true rfl, Nat.le_of_ble_eq_true rfl⟩) (wp_V (hK.sub (tys' := []) [] rfl) (hP.sub (ws' := [(g0, .inr (2, [.int th, .ref r1, .ref r2, .long fa, .long fb, .int ft, .long xl, .long xh, .long yl, .long yh]))]) [0] rfl) (hD.sub (ws' := [(g0, .inr (2, [.int th, .ref r1, .ref r2, .long fa, .long fb, .int ft, .long xl, .long xh, .long yl, .long yh]))]) [0] (by decide) rfl)  rfl rfl) rfl rfl hl.1 rfl (lv_room (Nat.le_of_ble_eq_true rfl)) dX3_range_359 ⟨Nat.le_of_ble_eq_true rfl, Nat.le_of_ble_eq_true rfl⟩) hP hD hS hA [0] [] [0] rfl rfl rfl (by decide) rfl rfl (fun H locs hP hD hS => ?_)
          refine W.widen (k := 4) (n := 24) (by omega) (by omega) ?_
          have es : (s_X3_range ft p0 p1 p2 p3 p4 p5) = ((-9223372036854775808 : Int64), (9223372036854775807 : Int64), ft) := by unfold s_X3_range; rw [if_pos c1, if_pos c2, if_pos c3, if_neg c18, if_neg c19, if_neg c20, if_neg c21, if_neg c22, if_neg c24, if_neg c26, if_neg c27, if_pos c28]
          exact W.vret hx hb hr (fun t ht hW => by rw [es]; exact ⟨rfl, by rw [ht]; exact hP, hD, hS.F ht⟩) hS.2.2 dX3_range_362
        by_cases c29 : p0 = (9 : Int32)
        · refine lv_tableIn (off := 312) (tgt := 363) hx hb dX3_range_51 (by rw [c29]; decide) (by rw [c29]; decide) (by rw [c29]; decide) (by decide) ?_
          refine lv_iload hx hb dX3_range_363 (lv_at hl 1 rfl) ?_
          refine lv_if_eq (tgt := 413) hx hb dX3_range_365 (by decide) (fun h => absurd h (by decide)) (fun _ => ?_)
          refine lv_iload hx hb dX3_range_368 (lv_at hl 3 rfl) ?_
          refine lv_if_eq (tgt := 413) hx hb dX3_range_370 (by decide) (fun _ => ?_) (fun h => absurd (by decide) h)
          refine lv_aload_n hx hb dX3_range_413 rfl (lv_at hl 4 rfl) ?_
          refine wq_callv (wc := [(g0, .inr (2, [.int th, .ref r1, .ref r2, .long fa, .long fb, .int ft, .long xl, .long xh, .long yl, .long yh]))]) (wr := []) (w2 := [(g0, .inr (2, [.int th, .ref r1, .ref r2, .long (-9223372036854775808 : Int64), .long (9223372036854775807 : Int64), .int ft, .long xl, .long xh, .long yl, .long yh]))]) (va_runV (As := []) (rest := []) ⟨hx, hb, hml, hown, hts⟩ (c_X3_all l dC dI g0 r1 r2 s.heap.size th fa fb ft xl xh yl yh) (cwV 0 hts (gz_l gX3_range_X3_all) rfl rfl rfl ydV_X3_all ⟨Nat.le_of_ble_eq_true rfl, Nat.le_of_ble_eq_true rfl⟩) (wp_V (hK.sub (tys' := []) [] rfl) (hP.sub (ws' := [(g0, .inr (2, [.int th, .ref r1, .ref r2, .long fa, .long fb, .int ft, .long xl, .long xh, .long yl, .long yh]))]) [0] rfl) (hD.sub (ws' := [(g0, .inr (2, [.int th, .ref r1, .ref r2, .long fa, .long fb, .int ft, .long xl, .long xh, .long yl, .long yh]))]) [0] (by decide) rfl)  rfl rfl) rfl rfl hl.1 rfl (lv_room (Nat.le_of_ble_eq_true rfl)) dX3_range_414 ⟨Nat.le_of_ble_eq_true rfl, Nat.le_of_ble_eq_true rfl⟩) hP hD hS hA [0] [] [0] rfl rfl rfl (by decide) rfl rfl (fun H locs hP hD hS => ?_)
          refine W.widen (k := 4) (n := 24) (by omega) (by omega) ?_
          have es : (s_X3_range ft p0 p1 p2 p3 p4 p5) = ((-9223372036854775808 : Int64), (9223372036854775807 : Int64), ft) := by unfold s_X3_range; rw [if_pos c1, if_pos c2, if_pos c3, if_neg c18, if_neg c19, if_neg c20, if_neg c21, if_neg c22, if_neg c24, if_neg c26, if_neg c27, if_neg c28, if_pos c29]
          exact W.vret hx hb hr (fun t ht hW => by rw [es]; exact ⟨rfl, by rw [ht]; exact hP, hD, hS.F ht⟩) hS.2.2 dX3_range_417
        by_cases c30 : p0 = (10 : Int32)
        · refine lv_tableIn (off := 367) (tgt := 418) hx hb dX3_range_51 (by rw [c30]; decide) (by rw [c30]; decide) (by rw [c30]; decide) (by decide) ?_
          refine lv_iload hx hb dX3_range_418 (lv_at hl 1 rfl) ?_
          refine lv_if_eq (tgt := 473) hx hb dX3_range_420 (by decide) (fun h => absurd h (by decide)) (fun _ => ?_)
          refine lv_iload hx hb dX3_range_423 (lv_at hl 3 rfl) ?_
          refine lv_if_eq (tgt := 444) hx hb dX3_range_425 (by decide) (fun _ => ?_) (fun h => absurd (by decide) h)
          refine lv_iload hx hb dX3_range_444 (lv_at hl 0 rfl) ?_
          refine lv_if_ne (tgt := 459) hx hb dX3_range_446 (by decide) (fun c31 => ?_) (fun c31 => ?_)
          · refine lv_aload_n hx hb dX3_range_459 rfl (lv_at hl 4 rfl) ?_
            refine lv_lconst (v := (0 : Int64)) hx hb dX3_range_460 (by decide) ?_
            refine lv_ldc2 (v := (-1 : Int64)) hx hb hown hw0 dX3_range_461 ?_
            refine lv_iload hx hb dX3_range_464 (lv_at hl 0 rfl) ?_
            refine lv_lushr (v := pl_ushr (-1 : Int64) (p3.toInt32 &&& p5)) hx hb dX3_range_466 rfl ?_
            refine wq_callv (wc := [(g0, .inr (2, [.int th, .ref r1, .ref r2, .long fa, .long fb, .int ft, .long xl, .long xh, .long yl, .long yh]))]) (wr := []) (w2 := [(g0, .inr (2, [.int th, .ref r1, .ref r2, .long (0 : Int64), .long (pl_ushr (-1 : Int64) (p3.toInt32 &&& p5)), .int ft, .long xl, .long xh, .long yl, .long yh]))]) (va_runV (As := [.long (0 : Int64), .long (pl_ushr (-1 : Int64) (p3.toInt32 &&& p5))]) (rest := []) ⟨hx, hb, hml, hown, hts⟩ (c_X3_between l dC dI g0 r1 r2 s.heap.size th fa fb ft xl xh yl yh (0 : Int64) (pl_ushr (-1 : Int64) (p3.toInt32 &&& p5))) (cwV 2 hts (gz_l gX3_range_X3_between) rfl rfl rfl ydV_X3_between ⟨Nat.le_of_ble_eq_true rfl, Nat.le_of_ble_eq_true rfl⟩) (wp_V (hK.sub (tys' := []) [] rfl) (hP.sub (ws' := [(g0, .inr (2, [.int th, .ref r1, .ref r2, .long fa, .long fb, .int ft, .long xl, .long xh, .long yl, .long yh]))]) [0] rfl) (hD.sub (ws' := [(g0, .inr (2, [.int th, .ref r1, .ref r2, .long fa, .long fb, .int ft, .long xl, .long xh, .long yl, .long yh]))]) [0] (by decide) rfl)  rfl rfl) rfl rfl hl.1 rfl (lv_room (Nat.le_of_ble_eq_true rfl)) dX3_range_467 ⟨Nat.le_of_ble_eq_true rfl, Nat.le_of_ble_eq_true rfl⟩) hP hD hS hA [0] [] [0] rfl rfl rfl (by decide) rfl rfl (fun H locs hP hD hS => ?_)
            refine lv_goto (tgt := 492) hx hb dX3_range_470 (by decide) ?_
            refine W.widen (k := 4) (n := 24) (by omega) (by omega) ?_
            have es : (s_X3_range ft p0 p1 p2 p3 p4 p5) = ((0 : Int64), (pl_ushr (-1 : Int64) (p3.toInt32 &&& p5)), ft) := by unfold s_X3_range; rw [if_pos c1, if_pos c2, if_pos c3, if_neg c18, if_neg c19, if_neg c20, if_neg c21, if_neg c22, if_neg c24, if_neg c26, if_neg c27, if_neg c28, if_neg c29, if_pos c30, if_neg c31]
            exact W.vret hx hb hr (fun t ht hW => by rw [es]; exact ⟨rfl, by rw [ht]; exact hP, hD, hS.F ht⟩) hS.2.2 dX3_range_492
          · refine lv_aload_n hx hb dX3_range_449 rfl (lv_at hl 4 rfl) ?_
            refine lv_lload_n hx hb dX3_range_450 rfl (lv_at hl 6 rfl) ?_
            refine lv_lload hx hb dX3_range_451 (lv_at hl 7 rfl) ?_
            refine wq_callv (wc := [(g0, .inr (2, [.int th, .ref r1, .ref r2, .long fa, .long fb, .int ft, .long xl, .long xh, .long yl, .long yh]))]) (wr := []) (w2 := [(g0, .inr (2, [.int th, .ref r1, .ref r2, .long p1, .long p2, .int ft, .long xl, .long xh, .long yl, .long yh]))]) (va_runV (As := [.long p1, .long p2]) (rest := []) ⟨hx, hb, hml, hown, hts⟩ (c_X3_between l dC dI g0 r1 r2 s.heap.size th fa fb ft xl xh yl yh p1 p2) (cwV 2 hts (gz_l gX3_range_X3_between) rfl rfl rfl ydV_X3_between ⟨Nat.le_of_ble_eq_true rfl, Nat.le_of_ble_eq_true rfl⟩) (wp_V (hK.sub (tys' := []) [] rfl) (hP.sub (ws' := [(g0, .inr (2, [.int th, .ref r1, .ref r2, .long fa, .long fb, .int ft, .long xl, .long xh, .long yl, .long yh]))]) [0] rfl) (hD.sub (ws' := [(g0, .inr (2, [.int th, .ref r1, .ref r2, .long fa, .long fb, .int ft, .long xl, .long xh, .long yl, .long yh]))]) [0] (by decide) rfl)  rfl rfl) rfl rfl hl.1 rfl (lv_room (Nat.le_of_ble_eq_true rfl)) dX3_range_453 ⟨Nat.le_of_ble_eq_true rfl, Nat.le_of_ble_eq_true rfl⟩) hP hD hS hA [0] [] [0] rfl rfl rfl (by decide) rfl rfl (fun H locs hP hD hS => ?_)
            refine lv_goto (tgt := 492) hx hb dX3_range_456 (by decide) ?_
            refine W.widen (k := 4) (n := 24) (by omega) (by omega) ?_
            have es : (s_X3_range ft p0 p1 p2 p3 p4 p5) = (p1, p2, ft) := by unfold s_X3_range; rw [if_pos c1, if_pos c2, if_pos c3, if_neg c18, if_neg c19, if_neg c20, if_neg c21, if_neg c22, if_neg c24, if_neg c26, if_neg c27, if_neg c28, if_neg c29, if_pos c30, if_pos c31]
            exact W.vret hx hb hr (fun t ht hW => by rw [es]; exact ⟨rfl, by rw [ht]; exact hP, hD, hS.F ht⟩) hS.2.2 dX3_range_492
        by_cases c32 : p0 = (11 : Int32)
        · refine lv_tableIn (off := 442) (tgt := 493) hx hb dX3_range_51 (by rw [c32]; decide) (by rw [c32]; decide) (by rw [c32]; decide) (by decide) ?_
          refine lv_iload hx hb dX3_range_493 (lv_at hl 1 rfl) ?_
          refine lv_if_eq (tgt := 514) hx hb dX3_range_495 (by decide) (fun h => absurd h (by decide)) (fun _ => ?_)
          refine lv_aload_n hx hb dX3_range_498 rfl (lv_at hl 4 rfl) ?_
          refine lv_lload_n hx hb dX3_range_499 rfl (lv_at hl 6 rfl) ?_
          refine lv_iload hx hb dX3_range_500 (lv_at hl 0 rfl) ?_
          refine lv_lshr (v := pl_shr p1 (p3.toInt32 &&& p5)) hx hb dX3_range_502 rfl ?_
          refine lv_lload hx hb dX3_range_503 (lv_at hl 7 rfl) ?_
          refine lv_iload hx hb dX3_range_505 (lv_at hl 0 rfl) ?_
          refine lv_lshr (v := pl_shr p2 (p3.toInt32 &&& p5)) hx hb dX3_range_507 rfl ?_
          refine wq_callv (wc := [(g0, .inr (2, [.int th, .ref r1, .ref r2, .long fa, .long fb, .int ft, .long xl, .long xh, .long yl, .long yh]))]) (wr := []) (w2 := [(g0, .inr (2, [.int th, .ref r1, .ref r2, .long (pl_shr p1 (p3.toInt32 &&& p5)), .long (pl_shr p2 (p3.toInt32 &&& p5)), .int ft, .long xl, .long xh, .long yl, .long yh]))]) (va_runV (As := [.long (pl_shr p1 (p3.toInt32 &&& p5)), .long (pl_shr p2 (p3.toInt32 &&& p5))]) (rest := []) ⟨hx, hb, hml, hown, hts⟩ (c_X3_between l dC dI g0 r1 r2 s.heap.size th fa fb ft xl xh yl yh (pl_shr p1 (p3.toInt32 &&& p5)) (pl_shr p2 (p3.toInt32 &&& p5))) (cwV 2 hts (gz_l gX3_range_X3_between) rfl rfl rfl ydV_X3_between ⟨Nat.le_of_ble_eq_true rfl, Nat.le_of_ble_eq_true rfl⟩) (wp_V (hK.sub (tys' := []) [] rfl) (hP.sub (ws' := [(g0, .inr (2, [.int th, .ref r1, .ref r2, .long fa, .long fb, .int ft, .long xl, .long xh, .long yl, .long yh]))]) [0] rfl) (hD.sub (ws' := [(g0, .inr (2, [.int th, .ref r1, .ref r2, .long fa, .long fb, .int ft, .long xl, .long xh, .long yl, .long yh]))]) [0] (by decide) rfl)  rfl rfl) rfl rfl hl.1 rfl (lv_room (Nat.le_of_ble_eq_true rfl)) dX3_range_508 ⟨Nat.le_of_ble_eq_true rfl, Nat.le_of_ble_eq_true rfl⟩) hP hD hS hA [0] [] [0] rfl rfl rfl (by decide) rfl rfl (fun H locs hP hD hS => ?_)
          refine lv_goto (tgt := 533) hx hb dX3_range_511 (by decide) ?_
          refine W.widen (k := 4) (n := 24) (by omega) (by omega) ?_
          have es : (s_X3_range ft p0 p1 p2 p3 p4 p5) = ((pl_shr p1 (p3.toInt32 &&& p5)), (pl_shr p2 (p3.toInt32 &&& p5)), ft) := by unfold s_X3_range; rw [if_pos c1, if_pos c2, if_pos c3, if_neg c18, if_neg c19, if_neg c20, if_neg c21, if_neg c22, if_neg c24, if_neg c26, if_neg c27, if_neg c28, if_neg c29, if_neg c30, if_pos c32]
          exact W.vret hx hb hr (fun t ht hW => by rw [es]; exact ⟨rfl, by rw [ht]; exact hP, hD, hS.F ht⟩) hS.2.2 dX3_range_533
        refine lv_tableOut (tgt := 534) hx hb dX3_range_51 (by have h0 := lv_neT c18 (a := 0) rfl; have h1 := lv_neT c19 (a := 1) rfl; have h2 := lv_neT c20 (a := 2) rfl; have h3 := lv_neT c21 (a := 3) rfl; have h4 := lv_neT c22 (a := 4) rfl; have h5 := lv_neT c24 (a := 5) rfl; have h6 := lv_neT c26 (a := 6) rfl; have h7 := lv_neT c27 (a := 7) rfl; have h8 := lv_neT c28 (a := 8) rfl; have h9 := lv_neT c29 (a := 9) rfl; have h10 := lv_neT c30 (a := 10) rfl; have h11 := lv_neT c32 (a := 11) rfl; omega) (by decide) ?_
        refine lv_aload_n hx hb dX3_range_534 rfl (lv_at hl 4 rfl) ?_
        refine lv_iconst (v := (2 : Int32)) hx hb dX3_range_535 (by decide) ?_
        refine lv_lconst (v := (0 : Int64)) hx hb dX3_range_536 (by decide) ?_
        refine lv_lconst (v := (0 : Int64)) hx hb dX3_range_537 (by decide) ?_
        refine lv_lload_n hx hb dX3_range_538 rfl (lv_at hl 6 rfl) ?_
        refine lv_lload hx hb dX3_range_539 (lv_at hl 7 rfl) ?_
        refine wq_callv (wc := [(g0, .inr (2, [.int th, .ref r1, .ref r2, .long fa, .long fb, .int ft, .long xl, .long xh, .long yl, .long yh]))]) (wr := []) (w2 := [(g0, .inr (2, [.int th, .ref r1, .ref r2, .long ((s_X3_ends (2 : Int32) (0 : Int64) (0 : Int64) p1 p2).1), .long ((s_X3_ends (2 : Int32) (0 : Int64) (0 : Int64) p1 p2).2.1), .int ((s_X3_ends (2 : Int32) (0 : Int64) (0 : Int64) p1 p2).2.2), .long xl, .long xh, .long yl, .long yh]))]) (va_runV (As := [.int (2 : Int32), .long (0 : Int64), .long (0 : Int64), .long p1, .long p2]) (rest := []) ⟨hx, hb, hml, hown, hts⟩ (c_X3_ends l S0 hst dC dI g0 r1 r2 s.heap.size th fa fb ft xl xh yl yh (2 : Int32) (0 : Int64) (0 : Int64) p1 p2 (fun q h => hS1 q (va_free (wc := [(g0, .inr (2, [.int th, .ref r1, .ref r2, .long fa, .long fb, .int ft, .long xl, .long xh, .long yl, .long yh]))]) hD hS hA [0] rfl q h))) (cwV 5 hts (gz_V wz_A_good gX3_range_X3_ends) rfl rfl rfl ydV_X3_ends ⟨Nat.le_of_ble_eq_true rfl, Nat.le_of_ble_eq_true rfl⟩) (twp_V (hK.sub (tys' := []) [] rfl) (hP.sub (ws' := [(g0, .inr (2, [.int th, .ref r1, .ref r2, .long fa, .long fb, .int ft, .long xl, .long xh, .long yl, .long yh]))]) [0] rfl) (hD.sub (ws' := [(g0, .inr (2, [.int th, .ref r1, .ref r2, .long fa, .long fb, .int ft, .long xl, .long xh, .long yl, .long yh]))]) [0] (by decide) rfl) ham rfl rfl) rfl rfl hl.1 rfl (lv_room (Nat.le_of_ble_eq_true rfl)) dX3_range_541 ⟨Nat.le_of_ble_eq_true rfl, Nat.le_of_ble_eq_true rfl⟩) hP hD hS hA [0] [] [0] rfl rfl rfl (by decide) rfl rfl (fun H locs hP hD hS => ?_)
        have es : (s_X3_range ft p0 p1 p2 p3 p4 p5) = ((s_X3_ends (2 : Int32) (0 : Int64) (0 : Int64) p1 p2).1, (s_X3_ends (2 : Int32) (0 : Int64) (0 : Int64) p1 p2).2.1, (s_X3_ends (2 : Int32) (0 : Int64) (0 : Int64) p1 p2).2.2) := by unfold s_X3_range; rw [if_pos c1, if_pos c2, if_pos c3, if_neg c18, if_neg c19, if_neg c20, if_neg c21, if_neg c22, if_neg c24, if_neg c26, if_neg c27, if_neg c28, if_neg c29, if_neg c30, if_neg c32]
        exact W.vret hx hb hr (fun t ht hW => by rw [es]; exact ⟨rfl, by rw [ht]; exact hP, hD, hS.F ht⟩) hS.2.2 dX3_range_544
    · refine lv_iconst (v := (1 : Int32)) hx hb dX3_range_20 (by decide) ?_
      refine lv_goto (tgt := 25) hx hb dX3_range_21 (by decide) ?_
      refine lv_istore (lv' := [(12, .int (1 : Int32)), (11, .int (0 : Int32)), (0, .ref g0), (1, .int p0), (2, .long p1), (4, .long p2), (6, .long p3), (8, .long p4), (10, .int p5)]) hx hb dX3_range_25 hl (by decide) rfl (fun ls hl => ?_)
      refine lv_lload hx hb dX3_range_27 (lv_at hl 6 rfl) ?_
      refine lv_lload hx hb dX3_range_29 (lv_at hl 7 rfl) ?_
      refine pl_ne (tgt := 39) hx hb dX3_range_31 dX3_range_32 (by decide) (fun c33 => ?_) (fun c33 => ?_)
      · refine lv_iconst (v := (0 : Int32)) hx hb dX3_range_39 (by decide) ?_
        refine lv_istore (lv' := [(13, .int (0 : Int32)), (12, .int (1 : Int32)), (11, .int (0 : Int32)), (0, .ref g0), (1, .int p0), (2, .long p1), (4, .long p2), (6, .long p3), (8, .long p4), (10, .int p5)]) hx hb dX3_range_40 hl (by decide) rfl (fun ls hl => ?_)
        refine lv_lload hx hb dX3_range_42 (lv_at hl 7 rfl) ?_
        refine lv_l2i (v := p3.toInt32) hx hb dX3_range_44 rfl ?_
        refine lv_iload hx hb dX3_range_45 (lv_at hl 9 rfl) ?_
        refine lv_iand hx hb dX3_range_47 ?_
        refine lv_istore (lv' := [(14, .int (p3.toInt32 &&& p5)), (13, .int (0 : Int32)), (12, .int (1 : Int32)), (11, .int (0 : Int32)), (0, .ref g0), (1, .int p0), (2, .long p1), (4, .long p2), (6, .long p3), (8, .long p4), (10, .int p5)]) hx hb dX3_range_48 hl (by decide) rfl (fun ls hl => ?_)
        refine lv_iload_n hx hb dX3_range_50 rfl (lv_at hl 5 rfl) ?_
        by_cases c34 : p0 = (0 : Int32)
        · refine lv_tableIn (off := 61) (tgt := 112) hx hb dX3_range_51 (by rw [c34]; decide) (by rw [c34]; decide) (by rw [c34]; decide) (by decide) ?_
          refine lv_aload_n hx hb dX3_range_112 rfl (lv_at hl 4 rfl) ?_
          refine lv_lload hx hb dX3_range_113 (lv_at hl 8 rfl) ?_
          refine lv_lload hx hb dX3_range_115 (lv_at hl 9 rfl) ?_
          refine wq_callv (wc := [(g0, .inr (2, [.int th, .ref r1, .ref r2, .long fa, .long fb, .int ft, .long xl, .long xh, .long yl, .long yh]))]) (wr := []) (w2 := [(g0, .inr (2, [.int th, .ref r1, .ref r2, .long p3, .long p4, .int ft, .long xl, .long xh, .long yl, .long yh]))]) (va_runV (As := [.long p3, .long p4]) (rest := []) ⟨hx, hb, hml, hown, hts⟩ (c_X3_between l dC dI g0 r1 r2 s.heap.size th fa fb ft xl xh yl yh p3 p4) (cwV 2 hts (gz_l gX3_range_X3_between) rfl rfl rfl ydV_X3_between ⟨Nat.le_of_ble_eq_true rfl, Nat.le_of_ble_eq_true rfl⟩) (wp_V (hK.sub (tys' := []) [] rfl) (hP.sub (ws' := [(g0, .inr (2, [.int th, .ref r1, .ref r2, .long fa, .long fb, .int ft, .long xl, .long xh, .long yl, .long yh]))]) [0] rfl) (hD.sub (ws' := [(g0, .inr (2, [.int th, .ref r1, .ref r2, .long fa, .long fb, .int ft, .long xl, .long xh, .long yl, .long yh]))]) [0] (by decide) rfl)  rfl rfl) rfl rfl hl.1 rfl (lv_room (Nat.le_of_ble_eq_true rfl)) dX3_range_117 ⟨Nat.le_of_ble_eq_true rfl, Nat.le_of_ble_eq_true rfl⟩) hP hD hS hA [0] [] [0] rfl rfl rfl (by decide) rfl rfl (fun H locs hP hD hS => ?_)
          refine W.widen (k := 4) (n := 24) (by omega) (by omega) ?_
          have es : (s_X3_range ft p0 p1 p2 p3 p4 p5) = (p3, p4, ft) := by unfold s_X3_range; rw [if_pos c1, if_neg c2, if_neg c33, if_pos c34]
          exact W.vret hx hb hr (fun t ht hW => by rw [es]; exact ⟨rfl, by rw [ht]; exact hP, hD, hS.F ht⟩) hS.2.2 dX3_range_120
        by_cases c35 : p0 = (1 : Int32)
        · refine lv_tableIn (off := 70) (tgt := 121) hx hb dX3_range_51 (by rw [c35]; decide) (by rw [c35]; decide) (by rw [c35]; decide) (by decide) ?_
          refine lv_aload_n hx hb dX3_range_121 rfl (lv_at hl 4 rfl) ?_
          refine lv_iload_n hx hb dX3_range_122 rfl (lv_at hl 5 rfl) ?_
          refine lv_lload_n hx hb dX3_range_123 rfl (lv_at hl 6 rfl) ?_
          refine lv_lload hx hb dX3_range_124 (lv_at hl 7 rfl) ?_
          refine lv_lload hx hb dX3_range_126 (lv_at hl 8 rfl) ?_
          refine lv_lload hx hb dX3_range_128 (lv_at hl 9 rfl) ?_
          refine wq_callv (wc := [(g0, .inr (2, [.int th, .ref r1, .ref r2, .long fa, .long fb, .int ft, .long xl, .long xh, .long yl, .long yh]))]) (wr := []) (w2 := [(g0, .inr (2, [.int th, .ref r1, .ref r2, .long ((s_X3_ends p0 p1 p2 p3 p4).1), .long ((s_X3_ends p0 p1 p2 p3 p4).2.1), .int ((s_X3_ends p0 p1 p2 p3 p4).2.2), .long xl, .long xh, .long yl, .long yh]))]) (va_runV (As := [.int p0, .long p1, .long p2, .long p3, .long p4]) (rest := []) ⟨hx, hb, hml, hown, hts⟩ (c_X3_ends l S0 hst dC dI g0 r1 r2 s.heap.size th fa fb ft xl xh yl yh p0 p1 p2 p3 p4 (fun q h => hS1 q (va_free (wc := [(g0, .inr (2, [.int th, .ref r1, .ref r2, .long fa, .long fb, .int ft, .long xl, .long xh, .long yl, .long yh]))]) hD hS hA [0] rfl q h))) (cwV 5 hts (gz_V wz_A_good gX3_range_X3_ends) rfl rfl rfl ydV_X3_ends ⟨Nat.le_of_ble_eq_true rfl, Nat.le_of_ble_eq_true rfl⟩) (twp_V (hK.sub (tys' := []) [] rfl) (hP.sub (ws' := [(g0, .inr (2, [.int th, .ref r1, .ref r2, .long fa, .long fb, .int ft, .long xl, .long xh, .long yl, .long yh]))]) [0] rfl) (hD.sub (ws' := [(g0, .inr (2, [.int th, .ref r1, .ref r2, .long fa, .long fb, .int ft, .long xl, .long xh, .long yl, .long yh]))]) [0] (by decide) rfl) ham rfl rfl) rfl rfl hl.1 rfl (lv_room (Nat.le_of_ble_eq_true rfl)) dX3_range_130 ⟨Nat.le_of_ble_eq_true rfl, Nat.le_of_ble_eq_true rfl⟩) hP hD hS hA [0] [] [0] rfl rfl rfl (by decide) rfl rfl (fun H locs hP hD hS => ?_)
          have es : (s_X3_range ft p0 p1 p2 p3 p4 p5) = ((s_X3_ends p0 p1 p2 p3 p4).1, (s_X3_ends p0 p1 p2 p3 p4).2.1, (s_X3_ends p0 p1 p2 p3 p4).2.2) := by unfold s_X3_range; rw [if_pos c1, if_neg c2, if_neg c33, if_neg c34, if_pos c35]
          exact W.vret hx hb hr (fun t ht hW => by rw [es]; exact ⟨rfl, by rw [ht]; exact hP, hD, hS.F ht⟩) hS.2.2 dX3_range_133
        by_cases c36 : p0 = (2 : Int32)
        · refine lv_tableIn (off := 70) (tgt := 121) hx hb dX3_range_51 (by rw [c36]; decide) (by rw [c36]; decide) (by rw [c36]; decide) (by decide) ?_
          refine lv_aload_n hx hb dX3_range_121 rfl (lv_at hl 4 rfl) ?_
          refine lv_iload_n hx hb dX3_range_122 rfl (lv_at hl 5 rfl) ?_
          refine lv_lload_n hx hb dX3_range_123 rfl (lv_at hl 6 rfl) ?_
          refine lv_lload hx hb dX3_range_124 (lv_at hl 7 rfl) ?_
          refine lv_lload hx hb dX3_range_126 (lv_at hl 8 rfl) ?_
          refine lv_lload hx hb dX3_range_128 (lv_at hl 9 rfl) ?_
          refine wq_callv (wc := [(g0, .inr (2, [.int th, .ref r1, .ref r2, .long fa, .long fb, .int ft, .long xl, .long xh, .long yl, .long yh]))]) (wr := []) (w2 := [(g0, .inr (2, [.int th, .ref r1, .ref r2, .long ((s_X3_ends p0 p1 p2 p3 p4).1), .long ((s_X3_ends p0 p1 p2 p3 p4).2.1), .int ((s_X3_ends p0 p1 p2 p3 p4).2.2), .long xl, .long xh, .long yl, .long yh]))]) (va_runV (As := [.int p0, .long p1, .long p2, .long p3, .long p4]) (rest := []) ⟨hx, hb, hml, hown, hts⟩ (c_X3_ends l S0 hst dC dI g0 r1 r2 s.heap.size th fa fb ft xl xh yl yh p0 p1 p2 p3 p4 (fun q h => hS1 q (va_free (wc := [(g0, .inr (2, [.int th, .ref r1, .ref r2, .long fa, .long fb, .int ft, .long xl, .long xh, .long yl, .long yh]))]) hD hS hA [0] rfl q h))) (cwV 5 hts (gz_V wz_A_good gX3_range_X3_ends) rfl rfl rfl ydV_X3_ends ⟨Nat.le_of_ble_eq_true rfl, Nat.le_of_ble_eq_true rfl⟩) (twp_V (hK.sub (tys' := []) [] rfl) (hP.sub (ws' := [(g0, .inr (2, [.int th, .ref r1, .ref r2, .long fa, .long fb, .int ft, .long xl, .long xh, .long yl, .long yh]))]) [0] rfl) (hD.sub (ws' := [(g0, .inr (2, [.int th, .ref r1, .ref r2, .long fa, .long fb, .int ft, .long xl, .long xh, .long yl, .long yh]))]) [0] (by decide) rfl) ham rfl rfl) rfl rfl hl.1 rfl (lv_room (Nat.le_of_ble_eq_true rfl)) dX3_range_130 ⟨Nat.le_of_ble_eq_true rfl, Nat.le_of_ble_eq_true rfl⟩) hP hD hS hA [0] [] [0] rfl rfl rfl (by decide) rfl rfl (fun H locs hP hD hS => ?_)
          have es : (s_X3_range ft p0 p1 p2 p3 p4 p5) = ((s_X3_ends p0 p1 p2 p3 p4).1, (s_X3_ends p0 p1 p2 p3 p4).2.1, (s_X3_ends p0 p1 p2 p3 p4).2.2) := by unfold s_X3_range; rw [if_pos c1, if_neg c2, if_neg c33, if_neg c34, if_neg c35, if_pos c36]
          exact W.vret hx hb hr (fun t ht hW => by rw [es]; exact ⟨rfl, by rw [ht]; exact hP, hD, hS.F ht⟩) hS.2.2 dX3_range_133
        by_cases c37 : p0 = (3 : Int32)
        · refine lv_tableIn (off := 70) (tgt := 121) hx hb dX3_range_51 (by rw [c37]; decide) (by rw [c37]; decide) (by rw [c37]; decide) (by decide) ?_
          refine lv_aload_n hx hb dX3_range_121 rfl (lv_at hl 4 rfl) ?_
          refine lv_iload_n hx hb dX3_range_122 rfl (lv_at hl 5 rfl) ?_
          refine lv_lload_n hx hb dX3_range_123 rfl (lv_at hl 6 rfl) ?_
          refine lv_lload hx hb dX3_range_124 (lv_at hl 7 rfl) ?_
          refine lv_lload hx hb dX3_range_126 (lv_at hl 8 rfl) ?_
          refine lv_lload hx hb dX3_range_128 (lv_at hl 9 rfl) ?_
          refine wq_callv (wc := [(g0, .inr (2, [.int th, .ref r1, .ref r2, .long fa, .long fb, .int ft, .long xl, .long xh, .long yl, .long yh]))]) (wr := []) (w2 := [(g0, .inr (2, [.int th, .ref r1, .ref r2, .long ((s_X3_ends p0 p1 p2 p3 p4).1), .long ((s_X3_ends p0 p1 p2 p3 p4).2.1), .int ((s_X3_ends p0 p1 p2 p3 p4).2.2), .long xl, .long xh, .long yl, .long yh]))]) (va_runV (As := [.int p0, .long p1, .long p2, .long p3, .long p4]) (rest := []) ⟨hx, hb, hml, hown, hts⟩ (c_X3_ends l S0 hst dC dI g0 r1 r2 s.heap.size th fa fb ft xl xh yl yh p0 p1 p2 p3 p4 (fun q h => hS1 q (va_free (wc := [(g0, .inr (2, [.int th, .ref r1, .ref r2, .long fa, .long fb, .int ft, .long xl, .long xh, .long yl, .long yh]))]) hD hS hA [0] rfl q h))) (cwV 5 hts (gz_V wz_A_good gX3_range_X3_ends) rfl rfl rfl ydV_X3_ends ⟨Nat.le_of_ble_eq_true rfl, Nat.le_of_ble_eq_true rfl⟩) (twp_V (hK.sub (tys' := []) [] rfl) (hP.sub (ws' := [(g0, .inr (2, [.int th, .ref r1, .ref r2, .long fa, .long fb, .int ft, .long xl, .long xh, .long yl, .long yh]))]) [0] rfl) (hD.sub (ws' := [(g0, .inr (2, [.int th, .ref r1, .ref r2, .long fa, .long fb, .int ft, .long xl, .long xh, .long yl, .long yh]))]) [0] (by decide) rfl) ham rfl rfl) rfl rfl hl.1 rfl (lv_room (Nat.le_of_ble_eq_true rfl)) dX3_range_130 ⟨Nat.le_of_ble_eq_true rfl, Nat.le_of_ble_eq_true rfl⟩) hP hD hS hA [0] [] [0] rfl rfl rfl (by decide) rfl rfl (fun H locs hP hD hS => ?_)
          have es : (s_X3_range ft p0 p1 p2 p3 p4 p5) = ((s_X3_ends p0 p1 p2 p3 p4).1, (s_X3_ends p0 p1 p2 p3 p4).2.1, (s_X3_ends p0 p1 p2 p3 p4).2.2) := by unfold s_X3_range; rw [if_pos c1, if_neg c2, if_neg c33, if_neg c34, if_neg c35, if_neg c36, if_pos c37]
          exact W.vret hx hb hr (fun t ht hW => by rw [es]; exact ⟨rfl, by rw [ht]; exact hP, hD, hS.F ht⟩) hS.2.2 dX3_range_133
        by_cases c38 : p0 = (4 : Int32)
        · refine lv_tableIn (off := 83) (tgt := 134) hx hb dX3_range_51 (by rw [c38]; decide) (by rw [c38]; decide) (by rw [c38]; decide) (by decide) ?_
          refine lv_lload hx hb dX3_range_134 (lv_at hl 8 rfl) ?_
          refine lv_lconst (v := (0 : Int64)) hx hb dX3_range_136 (by decide) ?_
          refine pl_le (tgt := 162) hx hb dX3_range_137 dX3_range_138 (by decide) (fun c39 => ?_) (fun c39 => ?_)
          · refine lv_iload hx hb dX3_range_162 (lv_at hl 3 rfl) ?_
            refine lv_if_eq (tgt := 182) hx hb dX3_range_164 (by decide) (fun _ => ?_) (fun h => absurd (by decide) h)
            refine lv_aload_n hx hb dX3_range_182 rfl (lv_at hl 4 rfl) ?_
            refine wq_callv (wc := [(g0, .inr (2, [.int th, .ref r1, .ref r2, .long fa, .long fb, .int ft, .long xl, .long xh, .long yl, .long yh]))]) (wr := []) (w2 := [(g0, .inr (2, [.int th, .ref r1, .ref r2, .long (-9223372036854775808 : Int64), .long (9223372036854775807 : Int64), .int ft, .long xl, .long xh, .long yl, .long yh]))]) (va_runV (As := []) (rest := []) ⟨hx, hb, hml, hown, hts⟩ (c_X3_all l dC dI g0 r1 r2 s.heap.size th fa fb ft xl xh yl yh) (cwV 0 hts (gz_l gX3_range_X3_all) rfl rfl rfl ydV_X3_all ⟨Nat.le_of_ble_eq_true rfl, Nat.le_of_ble_eq_true rfl⟩) (wp_V (hK.sub (tys' := []) [] rfl) (hP.sub (ws' := [(g0, .inr (2, [.int th, .ref r1, .ref r2, .long fa, .long fb, .int ft, .long xl, .long xh, .long yl, .long yh]))]) [0] rfl) (hD.sub (ws' := [(g0, .inr (2, [.int th, .ref r1, .ref r2, .long fa, .long fb, .int ft, .long xl, .long xh, .long yl, .long yh]))]) [0] (by decide) rfl)  rfl rfl) rfl rfl hl.1 rfl (lv_room (Nat.le_of_ble_eq_true rfl)) dX3_range_183 ⟨Nat.le_of_ble_eq_true rfl, Nat.le_of_ble_eq_true rfl⟩) hP hD hS hA [0] [] [0] rfl rfl rfl (by decide) rfl rfl (fun H locs hP hD hS => ?_)
            refine W.widen (k := 4) (n := 24) (by omega) (by omega) ?_
            have es : (s_X3_range ft p0 p1 p2 p3 p4 p5) = ((-9223372036854775808 : Int64), (9223372036854775807 : Int64), ft) := by unfold s_X3_range; rw [if_pos c1, if_neg c2, if_neg c33, if_neg c34, if_neg c35, if_neg c36, if_neg c37, if_pos c38, if_neg c39]
            exact W.vret hx hb hr (fun t ht hW => by rw [es]; exact ⟨rfl, by rw [ht]; exact hP, hD, hS.F ht⟩) hS.2.2 dX3_range_186
          · refine lv_iload hx hb dX3_range_141 (lv_at hl 3 rfl) ?_
            refine lv_if_eq (tgt := 162) hx hb dX3_range_143 (by decide) (fun _ => ?_) (fun h => absurd (by decide) h)
            refine lv_iload hx hb dX3_range_162 (lv_at hl 3 rfl) ?_
            refine lv_if_eq (tgt := 182) hx hb dX3_range_164 (by decide) (fun _ => ?_) (fun h => absurd (by decide) h)
            refine lv_aload_n hx hb dX3_range_182 rfl (lv_at hl 4 rfl) ?_
            refine wq_callv (wc := [(g0, .inr (2, [.int th, .ref r1, .ref r2, .long fa, .long fb, .int ft, .long xl, .long xh, .long yl, .long yh]))]) (wr := []) (w2 := [(g0, .inr (2, [.int th, .ref r1, .ref r2, .long (-9223372036854775808 : Int64), .long (9223372036854775807 : Int64), .int ft, .long xl, .long xh, .long yl, .long yh]))]) (va_runV (As := []) (rest := []) ⟨hx, hb, hml, hown, hts⟩ (c_X3_all l dC dI g0 r1 r2 s.heap.size th fa fb ft xl xh yl yh) (cwV 0 hts (gz_l gX3_range_X3_all) rfl rfl rfl ydV_X3_all ⟨Nat.le_of_ble_eq_true rfl, Nat.le_of_ble_eq_true rfl⟩) (wp_V (hK.sub (tys' := []) [] rfl) (hP.sub (ws' := [(g0, .inr (2, [.int th, .ref r1, .ref r2, .long fa, .long fb, .int ft, .long xl, .long xh, .long yl, .long yh]))]) [0] rfl) (hD.sub (ws' := [(g0, .inr (2, [.int th, .ref r1, .ref r2, .long fa, .long fb, .int ft, .long xl, .long xh, .long yl, .long yh]))]) [0] (by decide) rfl)  rfl rfl) rfl rfl hl.1 rfl (lv_room (Nat.le_of_ble_eq_true rfl)) dX3_range_183 ⟨Nat.le_of_ble_eq_true rfl, Nat.le_of_ble_eq_true rfl⟩) hP hD hS hA [0] [] [0] rfl rfl rfl (by decide) rfl rfl (fun H locs hP hD hS => ?_)
            refine W.widen (k := 4) (n := 24) (by omega) (by omega) ?_
            have es : (s_X3_range ft p0 p1 p2 p3 p4 p5) = ((-9223372036854775808 : Int64), (9223372036854775807 : Int64), ft) := by unfold s_X3_range; rw [if_pos c1, if_neg c2, if_neg c33, if_neg c34, if_neg c35, if_neg c36, if_neg c37, if_pos c38, if_pos c39]
            exact W.vret hx hb hr (fun t ht hW => by rw [es]; exact ⟨rfl, by rw [ht]; exact hP, hD, hS.F ht⟩) hS.2.2 dX3_range_186
        by_cases c40 : p0 = (5 : Int32)
        · refine lv_tableIn (off := 136) (tgt := 187) hx hb dX3_range_51 (by rw [c40]; decide) (by rw [c40]; decide) (by rw [c40]; decide) (by decide) ?_
          refine lv_lload hx hb dX3_range_187 (lv_at hl 8 rfl) ?_
          refine lv_lconst (v := (0 : Int64)) hx hb dX3_range_189 (by decide) ?_
          refine pl_le (tgt := 216) hx hb dX3_range_190 dX3_range_191 (by decide) (fun c41 => ?_) (fun c41 => ?_)
          · refine lv_iload hx hb dX3_range_216 (lv_at hl 3 rfl) ?_
            refine lv_if_eq (tgt := 236) hx hb dX3_range_218 (by decide) (fun _ => ?_) (fun h => absurd (by decide) h)
            refine lv_aload_n hx hb dX3_range_236 rfl (lv_at hl 4 rfl) ?_
            refine wq_callv (wc := [(g0, .inr (2, [.int th, .ref r1, .ref r2, .long fa, .long fb, .int ft, .long xl, .long xh, .long yl, .long yh]))]) (wr := []) (w2 := [(g0, .inr (2, [.int th, .ref r1, .ref r2, .long (-9223372036854775808 : Int64), .long (9223372036854775807 : Int64), .int ft, .long xl, .long xh, .long yl, .long yh]))]) (va_runV (As := []) (rest := []) ⟨hx, hb, hml, hown, hts⟩ (c_X3_all l dC dI g0 r1 r2 s.heap.size th fa fb ft xl xh yl yh) (cwV 0 hts (gz_l gX3_range_X3_all) rfl rfl rfl ydV_X3_all ⟨Nat.le_of_ble_eq_true rfl, Nat.le_of_ble_eq_true rfl⟩) (wp_V (hK.sub (tys' := []) [] rfl) (hP.sub (ws' := [(g0, .inr (2, [.int th, .ref r1, .ref r2, .long fa, .long fb, .int ft, .long xl, .long xh, .long yl, .long yh]))]) [0] rfl) (hD.sub (ws' := [(g0, .inr (2, [.int th, .ref r1, .ref r2, .long fa, .long fb, .int ft, .long xl, .long xh, .long yl, .long yh]))]) [0] (by decide) rfl)  rfl rfl) rfl rfl hl.1 rfl (lv_room (Nat.le_of_ble_eq_true rfl)) dX3_range_237 ⟨Nat.le_of_ble_eq_true rfl, Nat.le_of_ble_eq_true rfl⟩) hP hD hS hA [0] [] [0] rfl rfl rfl (by decide) rfl rfl (fun H locs hP hD hS => ?_)
            refine W.widen (k := 4) (n := 24) (by omega) (by omega) ?_
            have es : (s_X3_range ft p0 p1 p2 p3 p4 p5) = ((-9223372036854775808 : Int64), (9223372036854775807 : Int64), ft) := by unfold s_X3_range; rw [if_pos c1, if_neg c2, if_neg c33, if_neg c34, if_neg c35, if_neg c36, if_neg c37, if_neg c38, if_pos c40, if_neg c41]
            exact W.vret hx hb hr (fun t ht hW => by rw [es]; exact ⟨rfl, by rw [ht]; exact hP, hD, hS.F ht⟩) hS.2.2 dX3_range_240
          · refine lv_iload hx hb dX3_range_194 (lv_at hl 3 rfl) ?_
            refine lv_if_eq (tgt := 216) hx hb dX3_range_196 (by decide) (fun _ => ?_) (fun h => absurd (by decide) h)
            refine lv_iload hx hb dX3_range_216 (lv_at hl 3 rfl) ?_
            refine lv_if_eq (tgt := 236) hx hb dX3_range_218 (by decide) (fun _ => ?_) (fun h => absurd (by decide) h)
            refine lv_aload_n hx hb dX3_range_236 rfl (lv_at hl 4 rfl) ?_
            refine wq_callv (wc := [(g0, .inr (2, [.int th, .ref r1, .ref r2, .long fa, .long fb, .int ft, .long xl, .long xh, .long yl, .long yh]))]) (wr := []) (w2 := [(g0, .inr (2, [.int th, .ref r1, .ref r2, .long (-9223372036854775808 : Int64), .long (9223372036854775807 : Int64), .int ft, .long xl, .long xh, .long yl, .long yh]))]) (va_runV (As := []) (rest := []) ⟨hx, hb, hml, hown, hts⟩ (c_X3_all l dC dI g0 r1 r2 s.heap.size th fa fb ft xl xh yl yh) (cwV 0 hts (gz_l gX3_range_X3_all) rfl rfl rfl ydV_X3_all ⟨Nat.le_of_ble_eq_true rfl, Nat.le_of_ble_eq_true rfl⟩) (wp_V (hK.sub (tys' := []) [] rfl) (hP.sub (ws' := [(g0, .inr (2, [.int th, .ref r1, .ref r2, .long fa, .long fb, .int ft, .long xl, .long xh, .long yl, .long yh]))]) [0] rfl) (hD.sub (ws' := [(g0, .inr (2, [.int th, .ref r1, .ref r2, .long fa, .long fb, .int ft, .long xl, .long xh, .long yl, .long yh]))]) [0] (by decide) rfl)  rfl rfl) rfl rfl hl.1 rfl (lv_room (Nat.le_of_ble_eq_true rfl)) dX3_range_237 ⟨Nat.le_of_ble_eq_true rfl, Nat.le_of_ble_eq_true rfl⟩) hP hD hS hA [0] [] [0] rfl rfl rfl (by decide) rfl rfl (fun H locs hP hD hS => ?_)
            refine W.widen (k := 4) (n := 24) (by omega) (by omega) ?_
            have es : (s_X3_range ft p0 p1 p2 p3 p4 p5) = ((-9223372036854775808 : Int64), (9223372036854775807 : Int64), ft) := by unfold s_X3_range; rw [if_pos c1, if_neg c2, if_neg c33, if_neg c34, if_neg c35, if_neg c36, if_neg c37, if_neg c38, if_pos c40, if_pos c41]
            exact W.vret hx hb hr (fun t ht hW => by rw [es]; exact ⟨rfl, by rw [ht]; exact hP, hD, hS.F ht⟩) hS.2.2 dX3_range_240
        by_cases c42 : p0 = (6 : Int32)
        · refine lv_tableIn (off := 190) (tgt := 241) hx hb dX3_range_51 (by rw [c42]; decide) (by rw [c42]; decide) (by rw [c42]; decide) (by decide) ?_
          refine lv_iload hx hb dX3_range_241 (lv_at hl 3 rfl) ?_
          refine lv_if_ne (tgt := 251) hx hb dX3_range_243 (by decide) (fun h => absurd (by decide) h) (fun _ => ?_)
          refine lv_iload hx hb dX3_range_246 (lv_at hl 2 rfl) ?_
          refine lv_if_eq (tgt := 291) hx hb dX3_range_248 (by decide) (fun h => absurd h (by decide)) (fun _ => ?_)
          refine lv_aload_n hx hb dX3_range_251 rfl (lv_at hl 4 rfl) ?_
          refine lv_lconst (v := (0 : Int64)) hx hb dX3_range_252 (by decide) ?_
          refine lv_iload hx hb dX3_range_253 (lv_at hl 3 rfl) ?_
          refine lv_if_eq (tgt := 273) hx hb dX3_range_255 (by decide) (fun _ => ?_) (fun h => absurd (by decide) h)
          refine lv_iload hx hb dX3_range_273 (lv_at hl 3 rfl) ?_
          refine lv_if_eq (tgt := 283) hx hb dX3_range_275 (by decide) (fun _ => ?_) (fun h => absurd (by decide) h)
          refine lv_lload hx hb dX3_range_283 (lv_at hl 9 rfl) ?_
          refine wq_callv (wc := [(g0, .inr (2, [.int th, .ref r1, .ref r2, .long fa, .long fb, .int ft, .long xl, .long xh, .long yl, .long yh]))]) (wr := []) (w2 := [(g0, .inr (2, [.int th, .ref r1, .ref r2, .long (0 : Int64), .long p4, .int ft, .long xl, .long xh, .long yl, .long yh]))]) (va_runV (As := [.long (0 : Int64), .long p4]) (rest := []) ⟨hx, hb, hml, hown, hts⟩ (c_X3_between l dC dI g0 r1 r2 s.heap.size th fa fb ft xl xh yl yh (0 : Int64) p4) (cwV 2 hts (gz_l gX3_range_X3_between) rfl rfl rfl ydV_X3_between ⟨Nat.le_of_ble_eq_true rfl, Nat.le_of_ble_eq_true rfl⟩) (wp_V (hK.sub (tys' := []) [] rfl) (hP.sub (ws' := [(g0, .inr (2, [.int th, .ref r1, .ref r2, .long fa, .long fb, .int ft, .long xl, .long xh, .long yl, .long yh]))]) [0] rfl) (hD.sub (ws' := [(g0, .inr (2, [.int th, .ref r1, .ref r2, .long fa, .long fb, .int ft, .long xl, .long xh, .long yl, .long yh]))]) [0] (by decide) rfl)  rfl rfl) rfl rfl hl.1 rfl (lv_room (Nat.le_of_ble_eq_true rfl)) dX3_range_285 ⟨Nat.le_of_ble_eq_true rfl, Nat.le_of_ble_eq_true rfl⟩) hP hD hS hA [0] [] [0] rfl rfl rfl (by decide) rfl rfl (fun H locs hP hD hS => ?_)
          refine lv_goto (tgt := 295) hx hb dX3_range_288 (by decide) ?_
          refine W.widen (k := 4) (n := 24) (by omega) (by omega) ?_
          have es : (s_X3_range ft p0 p1 p2 p3 p4 p5) = ((0 : Int64), p4, ft) := by unfold s_X3_range; rw [if_pos c1, if_neg c2, if_neg c33, if_neg c34, if_neg c35, if_neg c36, if_neg c37, if_neg c38, if_neg c40, if_pos c42]
          exact W.vret hx hb hr (fun t ht hW => by rw [es]; exact ⟨rfl, by rw [ht]; exact hP, hD, hS.F ht⟩) hS.2.2 dX3_range_295
        by_cases c43 : p0 = (7 : Int32)
        · refine lv_tableIn (off := 245) (tgt := 296) hx hb dX3_range_51 (by rw [c43]; decide) (by rw [c43]; decide) (by rw [c43]; decide) (by decide) ?_
          refine lv_iload hx hb dX3_range_296 (lv_at hl 3 rfl) ?_
          refine lv_if_eq (tgt := 358) hx hb dX3_range_298 (by decide) (fun _ => ?_) (fun h => absurd (by decide) h)
          refine lv_aload_n hx hb dX3_range_358 rfl (lv_at hl 4 rfl) ?_
          refine wq_callv (wc := [(g0, .inr (2, [.int th, .ref r1, .ref r2, .long fa, .long fb, .int ft, .long xl, .long xh, .long yl, .long yh]))]) (wr := []) (w2 := [(g0, .inr (2, [.int th, .ref r1, .ref r2, .long (-9223372036854775808 : Int64), .long (9223372036854775807 : Int64), .int ft, .long xl, .long xh, .long yl, .long yh]))]) (va_runV (As := []) (rest := []) ⟨hx, hb, hml, hown, hts⟩ (c_X3_all l dC dI g0 r1 r2 s.heap.size th fa fb ft xl xh yl yh) (cwV 0 hts (gz_l gX3_range_X3_all) rfl rfl rfl ydV_X3_all ⟨Nat.le_of_ble_eq_true rfl, Nat.le_of_ble_eq_true rfl⟩) (wp_V (hK.sub (tys' := []) [] rfl) (hP.sub (ws' := [(g0, .inr (2, [.int th, .ref r1, .ref r2, .long fa, .long fb, .int ft, .long xl, .long xh, .long yl, .long yh]))]) [0] rfl) (hD.sub (ws' := [(g0, .inr (2, [.int th, .ref r1, .ref r2, .long fa, .long fb, .int ft, .long xl, .long xh, .long yl, .long yh]))]) [0] (by decide) rfl)  rfl rfl) rfl rfl hl.1 rfl (lv_room (Nat.le_of_ble_eq_true rfl)) dX3_range_359 ⟨Nat.le_of_ble_eq_true rfl, Nat.le_of_ble_eq_true rfl⟩) hP hD hS hA [0] [] [0] rfl rfl rfl (by decide) rfl rfl (fun H locs hP hD hS => ?_)
          refine W.widen (k := 4) (n := 24) (by omega) (by omega) ?_
          have es : (s_X3_range ft p0 p1 p2 p3 p4 p5) = ((-9223372036854775808 : Int64), (9223372036854775807 : Int64), ft) := by unfold s_X3_range; rw [if_pos c1, if_neg c2, if_neg c33, if_neg c34, if_neg c35, if_neg c36, if_neg c37, if_neg c38, if_neg c40, if_neg c42, if_pos c43]
          exact W.vret hx hb hr (fun t ht hW => by rw [es]; exact ⟨rfl, by rw [ht]; exact hP, hD, hS.F ht⟩) hS.2.2 dX3_range_362
        by_cases c44 : p0 = (8 : Int32)
        · refine lv_tableIn (off := 245) (tgt := 296) hx hb dX3_range_51 (by rw [c44]; decide) (by rw [c44]; decide) (by rw [c44]; decide) (by decide) ?_
          refine lv_iload hx hb dX3_range_296 (lv_at hl 3 rfl) ?_
          refine lv_if_eq (tgt := 358) hx hb dX3_range_298 (by decide) (fun _ => ?_) (fun h => absurd (by decide) h)
          refine lv_aload_n hx hb dX3_range_358 rfl (lv_at hl 4 rfl) ?_
          refine wq_callv (wc := [(g0, .inr (2, [.int th, .ref r1, .ref r2, .long fa, .long fb, .int ft, .long xl, .long xh, .long yl, .long yh]))]) (wr := []) (w2 := [(g0, .inr (2, [.int th, .ref r1, .ref r2, .long (-9223372036854775808 : Int64), .long (9223372036854775807 : Int64), .int ft, .long xl, .long xh, .long yl, .long yh]))]) (va_runV (As := []) (rest := []) ⟨hx, hb, hml, hown, hts⟩ (c_X3_all l dC dI g0 r1 r2 s.heap.size th fa fb ft xl xh yl yh) (cwV 0 hts (gz_l gX3_range_X3_all) rfl rfl rfl ydV_X3_all ⟨Nat.le_of_ble_eq_true rfl, Nat.le_of_ble_eq_true rfl⟩) (wp_V (hK.sub (tys' := []) [] rfl) (hP.sub (ws' := [(g0, .inr (2, [.int th, .ref r1, .ref r2, .long fa, .long fb, .int ft, .long xl, .long xh, .long yl, .long yh]))]) [0] rfl) (hD.sub (ws' := [(g0, .inr (2, [.int th, .ref r1, .ref r2, .long fa, .long fb, .int ft, .long xl, .long xh, .long yl, .long yh]))]) [0] (by decide) rfl)  rfl rfl) rfl rfl hl.1 rfl (lv_room (Nat.le_of_ble_eq_true rfl)) dX3_range_359 ⟨Nat.le_of_ble_eq_true rfl, Nat.le_of_ble_eq_true rfl⟩) hP hD hS hA [0] [] [0] rfl rfl rfl (by decide) rfl rfl (fun H locs hP hD hS => ?_)
          refine W.widen (k := 4) (n := 24) (by omega) (by omega) ?_
          have es : (s_X3_range ft p0 p1 p2 p3 p4 p5) = ((-9223372036854775808 : Int64), (9223372036854775807 : Int64), ft) := by unfold s_X3_range; rw [if_pos c1, if_neg c2, if_neg c33, if_neg c34, if_neg c35, if_neg c36, if_neg c37, if_neg c38, if_neg c40, if_neg c42, if_neg c43, if_pos c44]
          exact W.vret hx hb hr (fun t ht hW => by rw [es]; exact ⟨rfl, by rw [ht]; exact hP, hD, hS.F ht⟩) hS.2.2 dX3_range_362
        by_cases c45 : p0 = (9 : Int32)
        · refine lv_tableIn (off := 312) (tgt := 363) hx hb dX3_range_51 (by rw [c45]; decide) (by rw [c45]; decide) (by rw [c45]; decide) (by decide) ?_
          refine lv_iload hx hb dX3_range_363 (lv_at hl 1 rfl) ?_
          refine lv_if_eq (tgt := 413) hx hb dX3_range_365 (by decide) (fun _ => ?_) (fun h => absurd (by decide) h)
          refine lv_aload_n hx hb dX3_range_413 rfl (lv_at hl 4 rfl) ?_
          refine wq_callv (wc := [(g0, .inr (2, [.int th, .ref r1, .ref r2, .long fa, .long fb, .int ft, .long xl, .long xh, .long yl, .long yh]))]) (wr := []) (w2 := [(g0, .inr (2, [.int th, .ref r1, .ref r2, .long (-9223372036854775808 : Int64), .long (9223372036854775807 : Int64), .int ft, .long xl, .long xh, .long yl, .long yh]))]) (va_runV (As := []) (rest := []) ⟨hx, hb, hml, hown, hts⟩ (c_X3_all l dC dI g0 r1 r2 s.heap.size th fa fb ft xl xh yl yh) (cwV 0 hts (gz_l gX3_range_X3_all) rfl rfl rfl ydV_X3_all ⟨Nat.le_of_ble_eq_true rfl, Nat.le_of_ble_eq_true rfl⟩) (wp_V (hK.sub (tys' := []) [] rfl) (hP.sub (ws' := [(g0, .inr (2, [.int th, .ref r1, .ref r2, .long fa, .long fb, .int ft, .long xl, .long xh, .long yl, .long yh]))]) [0] rfl) (hD.sub (ws' := [(g0, .inr (2, [.int th, .ref r1, .ref r2, .long fa, .long fb, .int ft, .long xl, .long xh, .long yl, .long yh]))]) [0] (by decide) rfl)  rfl rfl) rfl rfl hl.1 rfl (lv_room (Nat.le_of_ble_eq_true rfl)) dX3_range_414 ⟨Nat.le_of_ble_eq_true rfl, Nat.le_of_ble_eq_true rfl⟩) hP hD hS hA [0] [] [0] rfl rfl rfl (by decide) rfl rfl (fun H locs hP hD hS => ?_)
          refine W.widen (k := 4) (n := 24) (by omega) (by omega) ?_
          have es : (s_X3_range ft p0 p1 p2 p3 p4 p5) = ((-9223372036854775808 : Int64), (9223372036854775807 : Int64), ft) := by unfold s_X3_range; rw [if_pos c1, if_neg c2, if_neg c33, if_neg c34, if_neg c35, if_neg c36, if_neg c37, if_neg c38, if_neg c40, if_neg c42, if_neg c43, if_neg c44, if_pos c45]
          exact W.vret hx hb hr (fun t ht hW => by rw [es]; exact ⟨rfl, by rw [ht]; exact hP, hD, hS.F ht⟩) hS.2.2 dX3_range_417
        by_cases c46 : p0 = (10 : Int32)
        · refine lv_tableIn (off := 367) (tgt := 418) hx hb dX3_range_51 (by rw [c46]; decide) (by rw [c46]; decide) (by rw [c46]; decide) (by decide) ?_
          refine lv_iload hx hb dX3_range_418 (lv_at hl 1 rfl) ?_
          refine lv_if_eq (tgt := 473) hx hb dX3_range_420 (by decide) (fun _ => ?_) (fun h => absurd (by decide) h)
          refine lv_iload hx hb dX3_range_473 (lv_at hl 3 rfl) ?_
          refine lv_if_eq (tgt := 488) hx hb dX3_range_475 (by decide) (fun _ => ?_) (fun h => absurd (by decide) h)
          refine lv_aload_n hx hb dX3_range_488 rfl (lv_at hl 4 rfl) ?_
          refine wq_callv (wc := [(g0, .inr (2, [.int th, .ref r1, .ref r2, .long fa, .long fb, .int ft, .long xl, .long xh, .long yl, .long yh]))]) (wr := []) (w2 := [(g0, .inr (2, [.int th, .ref r1, .ref r2, .long (-9223372036854775808 : Int64), .long (9223372036854775807 : Int64), .int ft, .long xl, .long xh, .long yl, .long yh]))]) (va_runV (As := []) (rest := []) ⟨hx, hb, hml, hown, hts⟩ (c_X3_all l dC dI g0 r1 r2 s.heap.size th fa fb ft xl xh yl yh) (cwV 0 hts (gz_l gX3_range_X3_all) rfl rfl rfl ydV_X3_all ⟨Nat.le_of_ble_eq_true rfl, Nat.le_of_ble_eq_true rfl⟩) (wp_V (hK.sub (tys' := []) [] rfl) (hP.sub (ws' := [(g0, .inr (2, [.int th, .ref r1, .ref r2, .long fa, .long fb, .int ft, .long xl, .long xh, .long yl, .long yh]))]) [0] rfl) (hD.sub (ws' := [(g0, .inr (2, [.int th, .ref r1, .ref r2, .long fa, .long fb, .int ft, .long xl, .long xh, .long yl, .long yh]))]) [0] (by decide) rfl)  rfl rfl) rfl rfl hl.1 rfl (lv_room (Nat.le_of_ble_eq_true rfl)) dX3_range_489 ⟨Nat.le_of_ble_eq_true rfl, Nat.le_of_ble_eq_true rfl⟩) hP hD hS hA [0] [] [0] rfl rfl rfl (by decide) rfl rfl (fun H locs hP hD hS => ?_)
          refine W.widen (k := 4) (n := 24) (by omega) (by omega) ?_
          have es : (s_X3_range ft p0 p1 p2 p3 p4 p5) = ((-9223372036854775808 : Int64), (9223372036854775807 : Int64), ft) := by unfold s_X3_range; rw [if_pos c1, if_neg c2, if_neg c33, if_neg c34, if_neg c35, if_neg c36, if_neg c37, if_neg c38, if_neg c40, if_neg c42, if_neg c43, if_neg c44, if_neg c45, if_pos c46]
          exact W.vret hx hb hr (fun t ht hW => by rw [es]; exact ⟨rfl, by rw [ht]; exact hP, hD, hS.F ht⟩) hS.2.2 dX3_range_492
        by_cases c47 : p0 = (11 : Int32)
        · refine lv_tableIn (off := 442) (tgt := 493) hx hb dX3_range_51 (by rw [c47]; decide) (by rw [c47]; decide) (by rw [c47]; decide) (by decide) ?_
          refine lv_iload hx hb dX3_range_493 (lv_at hl 1 rfl) ?_
          refine lv_if_eq (tgt := 514) hx hb dX3_range_495 (by decide) (fun _ => ?_) (fun h => absurd (by decide) h)
          refine lv_iload hx hb dX3_range_514 (lv_at hl 3 rfl) ?_
          refine lv_if_eq (tgt := 529) hx hb dX3_range_516 (by decide) (fun _ => ?_) (fun h => absurd (by decide) h)
          refine lv_aload_n hx hb dX3_range_529 rfl (lv_at hl 4 rfl) ?_
          refine wq_callv (wc := [(g0, .inr (2, [.int th, .ref r1, .ref r2, .long fa, .long fb, .int ft, .long xl, .long xh, .long yl, .long yh]))]) (wr := []) (w2 := [(g0, .inr (2, [.int th, .ref r1, .ref r2, .long (-9223372036854775808 : Int64), .long (9223372036854775807 : Int64), .int ft, .long xl, .long xh, .long yl, .long yh]))]) (va_runV (As := []) (rest := []) ⟨hx, hb, hml, hown, hts⟩ (c_X3_all l dC dI g0 r1 r2 s.heap.size th fa fb ft xl xh yl yh) (cwV 0 hts (gz_l gX3_range_X3_all) rfl rfl rfl ydV_X3_all ⟨Nat.le_of_ble_eq_true rfl, Nat.le_of_ble_eq_true rfl⟩) (wp_V (hK.sub (tys' := []) [] rfl) (hP.sub (ws' := [(g0, .inr (2, [.int th, .ref r1, .ref r2, .long fa, .long fb, .int ft, .long xl, .long xh, .long yl, .long yh]))]) [0] rfl) (hD.sub (ws' := [(g0, .inr (2, [.int th, .ref r1, .ref r2, .long fa, .long fb, .int ft, .long xl, .long xh, .long yl, .long yh]))]) [0] (by decide) rfl)  rfl rfl) rfl rfl hl.1 rfl (lv_room (Nat.le_of_ble_eq_true rfl)) dX3_range_530 ⟨Nat.le_of_ble_eq_true rfl, Nat.le_of_ble_eq_true rfl⟩) hP hD hS hA [0] [] [0] rfl rfl rfl (by decide) rfl rfl (fun H locs hP hD hS => ?_)
          refine W.widen (k := 4) (n := 24) (by omega) (by omega) ?_
          have es : (s_X3_range ft p0 p1 p2 p3 p4 p5) = ((-9223372036854775808 : Int64), (9223372036854775807 : Int64), ft) := by unfold s_X3_range; rw [if_pos c1, if_neg c2, if_neg c33, if_neg c34, if_neg c35, if_neg c36, if_neg c37, if_neg c38, if_neg c40, if_neg c42, if_neg c43, if_neg c44, if_neg c45, if_neg c46, if_pos c47]
          exact W.vret hx hb hr (fun t ht hW => by rw [es]; exact ⟨rfl, by rw [ht]; exact hP, hD, hS.F ht⟩) hS.2.2 dX3_range_533
        refine lv_tableOut (tgt := 534) hx hb dX3_range_51 (by have h0 := lv_neT c34 (a := 0) rfl; have h1 := lv_neT c35 (a := 1) rfl; have h2 := lv_neT c36 (a := 2) rfl; have h3 := lv_neT c37 (a := 3) rfl; have h4 := lv_neT c38 (a := 4) rfl; have h5 := lv_neT c40 (a := 5) rfl; have h6 := lv_neT c42 (a := 6) rfl; have h7 := lv_neT c43 (a := 7) rfl; have h8 := lv_neT c44 (a := 8) rfl; have h9 := lv_neT c45 (a := 9) rfl; have h10 := lv_neT c46 (a := 10) rfl; have h11 := lv_neT c47 (a := 11) rfl; omega) (by decide) ?_
        refine lv_aload_n hx hb dX3_range_534 rfl (lv_at hl 4 rfl) ?_
        refine lv_iconst (v := (2 : Int32)) hx hb dX3_range_535 (by decide) ?_
        refine lv_lconst (v := (0 : Int64)) hx hb dX3_range_536 (by decide) ?_
        refine lv_lconst (v := (0 : Int64)) hx hb dX3_range_537 (by decide) ?_
        refine lv_lload_n hx hb dX3_range_538 rfl (lv_at hl 6 rfl) ?_
        refine lv_lload hx hb dX3_range_539 (lv_at hl 7 rfl) ?_
        refine wq_callv (wc := [(g0, .inr (2, [.int th, .ref r1, .ref r2, .long fa, .long fb, .int ft, .long xl, .long xh, .long yl, .long yh]))]) (wr := []) (w2 := [(g0, .inr (2, [.int th, .ref r1, .ref r2, .long ((s_X3_ends (2 : Int32) (0 : Int64) (0 : Int64) p1 p2).1), .long ((s_X3_ends (2 : Int32) (0 : Int64) (0 : Int64) p1 p2).2.1), .int ((s_X3_ends (2 : Int32) (0 : Int64) (0 : Int64) p1 p2).2.2), .long xl, .long xh, .long yl, .long yh]))]) (va_runV (As := [.int (2 : Int32), .long (0 : Int64), .long (0 : Int64), .long p1, .long p2]) (rest := []) ⟨hx, hb, hml, hown, hts⟩ (c_X3_ends l S0 hst dC dI g0 r1 r2 s.heap.size th fa fb ft xl xh yl yh (2 : Int32) (0 : Int64) (0 : Int64) p1 p2 (fun q h => hS1 q (va_free (wc := [(g0, .inr (2, [.int th, .ref r1, .ref r2, .long fa, .long fb, .int ft, .long xl, .long xh, .long yl, .long yh]))]) hD hS hA [0] rfl q h))) (cwV 5 hts (gz_V wz_A_good gX3_range_X3_ends) rfl rfl rfl ydV_X3_ends ⟨Nat.le_of_ble_eq_true rfl, Nat.le_of_ble_eq_true rfl⟩) (twp_V (hK.sub (tys' := []) [] rfl) (hP.sub (ws' := [(g0, .inr (2, [.int th, .ref r1, .ref r2, .long fa, .long fb, .int ft, .long xl, .long xh, .long yl, .long yh]))]) [0] rfl) (hD.sub (ws' := [(g0, .inr (2, [.int th, .ref r1, .ref r2, .long fa, .long fb, .int ft, .long xl, .long xh, .long yl, .long yh]))]) [0] (by decide) rfl) ham rfl rfl) rfl rfl hl.1 rfl (lv_room (Nat.le_of_ble_eq_true rfl)) dX3_range_541 ⟨Nat.le_of_ble_eq_true rfl, Nat.le_of_ble_eq_true rfl⟩) hP hD hS hA [0] [] [0] rfl rfl rfl (by decide) rfl rfl (fun H locs hP hD hS => ?_)
        have es : (s_X3_range ft p0 p1 p2 p3 p4 p5) = ((s_X3_ends (2 : Int32) (0 : Int64) (0 : Int64) p1 p2).1, (s_X3_ends (2 : Int32) (0 : Int64) (0 : Int64) p1 p2).2.1, (s_X3_ends (2 : Int32) (0 : Int64) (0 : Int64) p1 p2).2.2) := by unfold s_X3_range; rw [if_pos c1, if_neg c2, if_neg c33, if_neg c34, if_neg c35, if_neg c36, if_neg c37, if_neg c38, if_neg c40, if_neg c42, if_neg c43, if_neg c44, if_neg c45, if_neg c46, if_neg c47]
        exact W.vret hx hb hr (fun t ht hW => by rw [es]; exact ⟨rfl, by rw [ht]; exact hP, hD, hS.F ht⟩) hS.2.2 dX3_range_544
      · refine lv_iconst (v := (1 : Int32)) hx hb dX3_range_35 (by decide) ?_
        refine lv_goto (tgt := 40) hx hb dX3_range_36 (by decide) ?_
        refine lv_istore (lv' := [(13, .int (1 : Int32)), (12, .int (1 : Int32)), (11, .int (0 : Int32)), (0, .ref g0), (1, .int p0), (2, .long p1), (4, .long p2), (6, .long p3), (8, .long p4), (10, .int p5)]) hx hb dX3_range_40 hl (by decide) rfl (fun ls hl => ?_)
        refine lv_lload hx hb dX3_range_42 (lv_at hl 7 rfl) ?_
        refine lv_l2i (v := p3.toInt32) hx hb dX3_range_44 rfl ?_
        refine lv_iload hx hb dX3_range_45 (lv_at hl 9 rfl) ?_
        refine lv_iand hx hb dX3_range_47 ?_
        refine lv_istore (lv' := [(14, .int (p3.toInt32 &&& p5)), (13, .int (1 : Int32)), (12, .int (1 : Int32)), (11, .int (0 : Int32)), (0, .ref g0), (1, .int p0), (2, .long p1), (4, .long p2), (6, .long p3), (8, .long p4), (10, .int p5)]) hx hb dX3_range_48 hl (by decide) rfl (fun ls hl => ?_)
        refine lv_iload_n hx hb dX3_range_50 rfl (lv_at hl 5 rfl) ?_
        by_cases c48 : p0 = (0 : Int32)
        · refine lv_tableIn (off := 61) (tgt := 112) hx hb dX3_range_51 (by rw [c48]; decide) (by rw [c48]; decide) (by rw [c48]; decide) (by decide) ?_
          refine lv_aload_n hx hb dX3_range_112 rfl (lv_at hl 4 rfl) ?_
          refine lv_lload hx hb dX3_range_113 (lv_at hl 8 rfl) ?_
          refine lv_lload hx hb dX3_range_115 (lv_at hl 9 rfl) ?_
          refine wq_callv (wc := [(g0, .inr (2, [.int th, .ref r1, .ref r2, .long fa, .long fb, .int ft, .long xl, .long xh, .long yl, .long yh]))]) (wr := []) (w2 := [(g0, .inr (2, [.int th, .ref r1, .ref r2, .long p3, .long p4, .int ft, .long xl, .long xh, .long yl, .long yh]))]) (va_runV (As := [.long p3, .long p4]) (rest := []) ⟨hx, hb, hml, hown, hts⟩ (c_X3_between l dC dI g0 r1 r2 s.heap.size th fa fb ft xl xh yl yh p3 p4) (cwV 2 hts (gz_l gX3_range_X3_between) rfl rfl rfl ydV_X3_between ⟨Nat.le_of_ble_eq_true rfl, Nat.le_of_ble_eq_true rfl⟩) (wp_V (hK.sub (tys' := []) [] rfl) (hP.sub (ws' := [(g0, .inr (2, [.int th, .ref r1, .ref r2, .long fa, .long fb, .int ft, .long xl, .long xh, .long yl, .long yh]))]) [0] rfl) (hD.sub (ws' := [(g0, .inr (2, [.int th, .ref r1, .ref r2, .long fa, .long fb, .int ft, .long xl, .long xh, .long yl, .long yh]))]) [0] (by decide) rfl)  rfl rfl) rfl rfl hl.1 rfl (lv_room (Nat.le_of_ble_eq_true rfl)) dX3_range_117 ⟨Nat.le_of_ble_eq_true rfl, Nat.le_of_ble_eq_true rfl⟩) hP hD hS hA [0] [] [0] rfl rfl rfl (by decide) rfl rfl (fun H locs hP hD hS => ?_)
          refine W.widen (k := 4) (n := 24) (by omega) (by omega) ?_
          have es : (s_X3_range ft p0 p1 p2 p3 p4 p5) = (p3, p4, ft) := by unfold s_X3_range; rw [if_pos c1, if_neg c2, if_pos c33, if_pos c48]
          exact W.vret hx hb hr (fun t ht hW => by rw [es]; exact ⟨rfl, by rw [ht]; exact hP, hD, hS.F ht⟩) hS.2.2 dX3_range_120
        by_cases c49 : p0 = (1 : Int32)
        · refine lv_tableIn (off := 70) (tgt := 121) hx hb dX3_range_51 (by rw [c49]; decide) (by rw [c49]; decide) (by rw [c49]; decide) (by decide) ?_
          refine lv_aload_n hx hb dX3_range_121 rfl (lv_at hl 4 rfl) ?_
          refine lv_iload_n hx hb dX3_range_122 rfl (lv_at hl 5 rfl) ?_
          refine lv_lload_n hx hb dX3_range_123 rfl (lv_at hl 6 rfl) ?_
          refine lv_lload hx hb dX3_range_124 (lv_at hl 7 rfl) ?_
          refine lv_lload hx hb dX3_range_126 (lv_at hl 8 rfl) ?_
          refine lv_lload hx hb dX3_range_128 (lv_at hl 9 rfl) ?_
          refine wq_callv (wc := [(g0, .inr (2, [.int th, .ref r1, .ref r2, .long fa, .long fb, .int ft, .long xl, .long xh, .long yl, .long yh]))]) (wr := []) (w2 := [(g0, .inr (2, [.int th, .ref r1, .ref r2, .long ((s_X3_ends p0 p1 p2 p3 p4).1), .long ((s_X3_ends p0 p1 p2 p3 p4).2.1), .int ((s_X3_ends p0 p1 p2 p3 p4).2.2), .long xl, .long xh, .long yl, .long yh]))]) (va_runV (As := [.int p0, .long p1, .long p2, .long p3, .long p4]) (rest := []) ⟨hx, hb, hml, hown, hts⟩ (c_X3_ends l S0 hst dC dI g0 r1 r2 s.heap.size th fa fb ft xl xh yl yh p0 p1 p2 p3 p4 (fun q h => hS1 q (va_free (wc := [(g0, .inr (2, [.int th, .ref r1, .ref r2, .long fa, .long fb, .int ft, .long xl, .long xh, .long yl, .long yh]))]) hD hS hA [0] rfl q h))) (cwV 5 hts (gz_V wz_A_good gX3_range_X3_ends) rfl rfl rfl ydV_X3_ends ⟨Nat.le_of_ble_eq_true rfl, Nat.le_of_ble_eq_true rfl⟩) (twp_V (hK.sub (tys' := []) [] rfl) (hP.sub (ws' := [(g0, .inr (2, [.int th, .ref r1, .ref r2, .long fa, .long fb, .int ft, .long xl, .long xh, .long yl, .long yh]))]) [0] rfl) (hD.sub (ws' := [(g0, .inr (2, [.int th, .ref r1, .ref r2, .long fa, .long fb, .int ft, .long xl, .long xh, .long yl, .long yh]))]) [0] (by decide) rfl) ham rfl rfl) rfl rfl hl.1 rfl (lv_room (Nat.le_of_ble_eq_true rfl)) dX3_range_130 ⟨Nat.le_of_ble_eq_true rfl, Nat.le_of_ble_eq_true rfl⟩) hP hD hS hA [0] [] [0] rfl rfl rfl (by decide) rfl rfl (fun H locs hP hD hS => ?_)
          have es : (s_X3_range ft p0 p1 p2 p3 p4 p5) = ((s_X3_ends p0 p1 p2 p3 p4).1, (s_X3_ends p0 p1 p2 p3 p4).2.1, (s_X3_ends p0 p1 p2 p3 p4).2.2) := by unfold s_X3_range; rw [if_pos c1, if_neg c2, if_pos c33, if_neg c48, if_pos c49]
          exact W.vret hx hb hr (fun t ht hW => by rw [es]; exact ⟨rfl, by rw [ht]; exact hP, hD, hS.F ht⟩) hS.2.2 dX3_range_133
        by_cases c50 : p0 = (2 : Int32)
        · refine lv_tableIn (off := 70) (tgt := 121) hx hb dX3_range_51 (by rw [c50]; decide) (by rw [c50]; decide) (by rw [c50]; decide) (by decide) ?_
          refine lv_aload_n hx hb dX3_range_121 rfl (lv_at hl 4 rfl) ?_
          refine lv_iload_n hx hb dX3_range_122 rfl (lv_at hl 5 rfl) ?_
          refine lv_lload_n hx hb dX3_range_123 rfl (lv_at hl 6 rfl) ?_
          refine lv_lload hx hb dX3_range_124 (lv_at hl 7 rfl) ?_
          refine lv_lload hx hb dX3_range_126 (lv_at hl 8 rfl) ?_
          refine lv_lload hx hb dX3_range_128 (lv_at hl 9 rfl) ?_
          refine wq_callv (wc := [(g0, .inr (2, [.int th, .ref r1, .ref r2, .long fa, .long fb, .int ft, .long xl, .long xh, .long yl, .long yh]))]) (wr := []) (w2 := [(g0, .inr (2, [.int th, .ref r1, .ref r2, .long ((s_X3_ends p0 p1 p2 p3 p4).1), .long ((s_X3_ends p0 p1 p2 p3 p4).2.1), .int ((s_X3_ends p0 p1 p2 p3 p4).2.2), .long xl, .long xh, .long yl, .long yh]))]) (va_runV (As := [.int p0, .long p1, .long p2, .long p3, .long p4]) (rest := []) ⟨hx, hb, hml, hown, hts⟩ (c_X3_ends l S0 hst dC dI g0 r1 r2 s.heap.size th fa fb ft xl xh yl yh p0 p1 p2 p3 p4 (fun q h => hS1 q (va_free (wc := [(g0, .inr (2, [.int th, .ref r1, .ref r2, .long fa, .long fb, .int ft, .long xl, .long xh, .long yl, .long yh]))]) hD hS hA [0] rfl q h))) (cwV 5 hts (gz_V wz_A_good gX3_range_X3_ends) rfl rfl rfl ydV_X3_ends ⟨Nat.le_of_ble_eq_true rfl, Nat.le_of_ble_eq_true rfl⟩) (twp_V (hK.sub (tys' := []) [] rfl) (hP.sub (ws' := [(g0, .inr (2, [.int th, .ref r1, .ref r2, .long fa, .long fb, .int ft, .long xl, .long xh, .long yl, .long yh]))]) [0] rfl) (hD.sub (ws' := [(g0, .inr (2, [.int th, .ref r1, .ref r2, .long fa, .long fb, .int ft, .long xl, .long xh, .long yl, .long yh]))]) [0] (by decide) rfl) ham rfl rfl) rfl rfl hl.1 rfl (lv_room (Nat.le_of_ble_eq_true rfl)) dX3_range_130 ⟨Nat.le_of_ble_eq_true rfl, Nat.le_of_ble_eq_true rfl⟩) hP hD hS hA [0] [] [0] rfl rfl rfl (by decide) rfl rfl (fun H locs hP hD hS => ?_)
          have es : (s_X3_range ft p0 p1 p2 p3 p4 p5) = ((s_X3_ends p0 p1 p2 p3 p4).1, (s_X3_ends p0 p1 p2 p3 p4).2.1, (s_X3_ends p0 p1 p2 p3 p4).2.2) := by unfold s_X3_range; rw [if_pos c1, if_neg c2, if_pos c33, if_neg c48, if_neg c49, if_pos c50]
          exact W.vret hx hb hr (fun t ht hW => by rw [es]; exact ⟨rfl, by rw [ht]; exact hP, hD, hS.F ht⟩) hS.2.2 dX3_range_133
        by_cases c51 : p0 = (3 : Int32)
        · refine lv_tableIn (off := 70) (tgt := 121) hx hb dX3_range_51 (by rw [c51]; decide) (by rw [c51]; decide) (by rw [c51]; decide) (by decide) ?_
          refine lv_aload_n hx hb dX3_range_121 rfl (lv_at hl 4 rfl) ?_
          refine lv_iload_n hx hb dX3_range_122 rfl (lv_at hl 5 rfl) ?_
          refine lv_lload_n hx hb dX3_range_123 rfl (lv_at hl 6 rfl) ?_
          refine lv_lload hx hb dX3_range_124 (lv_at hl 7 rfl) ?_
          refine lv_lload hx hb dX3_range_126 (lv_at hl 8 rfl) ?_
          refine lv_lload hx hb dX3_range_128 (lv_at hl 9 rfl) ?_
          refine wq_callv (wc := [(g0, .inr (2, [.int th, .ref r1, .ref r2, .long fa, .long fb, .int ft, .long xl, .long xh, .long yl, .long yh]))]) (wr := []) (w2 := [(g0, .inr (2, [.int th, .ref r1, .ref r2, .long ((s_X3_ends p0 p1 p2 p3 p4).1), .long ((s_X3_ends p0 p1 p2 p3 p4).2.1), .int ((s_X3_ends p0 p1 p2 p3 p4).2.2), .long xl, .long xh, .long yl, .long yh]))]) (va_runV (As := [.int p0, .long p1, .long p2, .long p3, .long p4]) (rest := []) ⟨hx, hb, hml, hown, hts⟩ (c_X3_ends l S0 hst dC dI g0 r1 r2 s.heap.size th fa fb ft xl xh yl yh p0 p1 p2 p3 p4 (fun q h => hS1 q (va_free (wc := [(g0, .inr (2, [.int th, .ref r1, .ref r2, .long fa, .long fb, .int ft, .long xl, .long xh, .long yl, .long yh]))]) hD hS hA [0] rfl q h))) (cwV 5 hts (gz_V wz_A_good gX3_range_X3_ends) rfl rfl rfl ydV_X3_ends ⟨Nat.le_of_ble_eq_true rfl, Nat.le_of_ble_eq_true rfl⟩) (twp_V (hK.sub (tys' := []) [] rfl) (hP.sub (ws' := [(g0, .inr (2, [.int th, .ref r1, .ref r2, .long fa, .long fb, .int ft, .long xl, .long xh, .long yl, .long yh]))]) [0] rfl) (hD.sub (ws' := [(g0, .inr (2, [.int th, .ref r1, .ref r2, .long fa, .long fb, .int ft, .long xl, .long xh, .long yl, .long yh]))]) [0] (by decide) rfl) ham rfl rfl) rfl rfl hl.1 rfl (lv_room (Nat.le_of_ble_eq_true rfl)) dX3_range_130 ⟨Nat.le_of_ble_eq_true rfl, Nat.le_of_ble_eq_true rfl⟩) hP hD hS hA [0] [] [0] rfl rfl rfl (by decide) rfl rfl (fun H locs hP hD hS => ?_)
          have es : (s_X3_range ft p0 p1 p2 p3 p4 p5) = ((s_X3_ends p0 p1 p2 p3 p4).1, (s_X3_ends p0 p1 p2 p3 p4).2.1, (s_X3_ends p0 p1 p2 p3 p4).2.2) := by unfold s_X3_range; rw [if_pos c1, if_neg c2, if_pos c33, if_neg c48, if_neg c49, if_neg c50, if_pos c51]
          exact W.vret hx hb hr (fun t ht hW => by rw [es]; exact ⟨rfl, by rw [ht]; exact hP, hD, hS.F ht⟩) hS.2.2 dX3_range_133
        by_cases c52 : p0 = (4 : Int32)
        · refine lv_tableIn (off := 83) (tgt := 134) hx hb dX3_range_51 (by rw [c52]; decide) (by rw [c52]; decide) (by rw [c52]; decide) (by decide) ?_
          refine lv_lload hx hb dX3_range_134 (lv_at hl 8 rfl) ?_
          refine lv_lconst (v := (0 : Int64)) hx hb dX3_range_136 (by decide) ?_
          refine pl_le (tgt := 162) hx hb dX3_range_137 dX3_range_138 (by decide) (fun c53 => ?_) (fun c53 => ?_)
          · refine lv_iload hx hb dX3_range_162 (lv_at hl 3 rfl) ?_
            refine lv_if_eq (tgt := 182) hx hb dX3_range_164 (by decide) (fun _ => ?_) (fun h => absurd (by decide) h)
            refine lv_aload_n hx hb dX3_range_182 rfl (lv_at hl 4 rfl) ?_
            refine wq_callv (wc := [(g0, .inr (2, [.int th, .ref r1, .ref r2, .long fa, .long fb, .int ft, .long xl, .long xh, .long yl, .long yh]))]) (wr := []) (w2 := [(g0, .inr (2, [.int th, .ref r1, .ref r2, .long (-9223372036854775808 : Int64), .long (9223372036854775807 : Int64), .int ft, .long xl, .long xh, .long yl, .long yh]))]) (va_runV (As := []) (rest := []) ⟨hx, hb, hml, hown, hts⟩ (c_X3_all l dC dI g0 r1 r2 s.heap.size th fa fb ft xl xh yl yh) (cwV 0 hts (gz_l gX3_range_X3_all) rfl rfl rfl ydV_X3_all ⟨Nat.le_of_ble_eq_true rfl, Nat.le_of_ble_eq_true rfl⟩) (wp_V (hK.sub (tys' := []) [] rfl) (hP.sub (ws' := [(g0, .inr (2, [.int th, .ref r1, .ref r2, .long fa, .long fb, .int ft, .long xl, .long xh, .long yl, .long yh]))]) [0] rfl) (hD.sub (ws' := [(g0, .inr (2, [.int th, .ref r1, .ref r2, .long fa, .long fb, .int ft, .long xl, .long xh, .long yl, .long yh]))]) [0] (by decide) rfl)  rfl rfl) rfl rfl hl.1 rfl (lv_room (Nat.le_of_ble_eq_true rfl)) dX3_range_183 ⟨Nat.le_of_ble_eq_true rfl, Nat.le_of_ble_eq_true rfl⟩) hP hD hS hA [0] [] [0] rfl rfl rfl (by decide) rfl rfl (fun H locs hP hD hS => ?_)
            refine W.widen (k := 4) (n := 24) (by omega) (by omega) ?_
            have es : (s_X3_range ft p0 p1 p2 p3 p4 p5) = ((-9223372036854775808 : Int64), (9223372036854775807 : Int64), ft) := by unfold s_X3_range; rw [if_pos c1, if_neg c2, if_pos c33, if_neg c48, if_neg c49, if_neg c50, if_neg c51, if_pos c52, if_neg c53]
            exact W.vret hx hb hr (fun t ht hW => by rw [es]; exact ⟨rfl, by rw [ht]; exact hP, hD, hS.F ht⟩) hS.2.2 dX3_range_186
          · refine lv_iload hx hb dX3_range_141 (lv_at hl 3 rfl) ?_
            refine lv_if_eq (tgt := 162) hx hb dX3_range_143 (by decide) (fun _ => ?_) (fun h => absurd (by decide) h)
            refine lv_iload hx hb dX3_range_162 (lv_at hl 3 rfl) ?_
            refine lv_if_eq (tgt := 182) hx hb dX3_range_164 (by decide) (fun _ => ?_) (fun h => absurd (by decide) h)
            refine lv_aload_n hx hb dX3_range_182 rfl (lv_at hl 4 rfl) ?_
            refine wq_callv (wc := [(g0, .inr (2, [.int th, .ref r1, .ref r2, .long fa, .long fb, .int ft, .long xl, .long xh, .long yl, .long yh]))]) (wr := []) (w2 := [(g0, .inr (2, [.int th, .ref r1, .ref r2, .long (-9223372036854775808 : Int64), .long (9223372036854775807 : Int64), .int ft, .long xl, .long xh, .long yl, .long yh]))]) (va_runV (As := []) (rest := []) ⟨hx, hb, hml, hown, hts⟩ (c_X3_all l dC dI g0 r1 r2 s.heap.size th fa fb ft xl xh yl yh) (cwV 0 hts (gz_l gX3_range_X3_all) rfl rfl rfl ydV_X3_all ⟨Nat.le_of_ble_eq_true rfl, Nat.le_of_ble_eq_true rfl⟩) (wp_V (hK.sub (tys' := []) [] rfl) (hP.sub (ws' := [(g0, .inr (2, [.int th, .ref r1, .ref r2, .long fa, .long fb, .int ft, .long xl, .long xh, .long yl, .long yh]))]) [0] rfl) (hD.sub (ws' := [(g0, .inr (2, [.int th, .ref r1, .ref r2, .long fa, .long fb, .int ft, .long xl, .long xh, .long yl, .long yh]))]) [0] (by decide) rfl)  rfl rfl) rfl rfl hl.1 rfl (lv_room (Nat.le_of_ble_eq_true rfl)) dX3_range_183 ⟨Nat.le_of_ble_eq_true rfl, Nat.le_of_ble_eq_true rfl⟩) hP hD hS hA [0] [] [0] rfl rfl rfl (by decide) rfl rfl (fun H locs hP hD hS => ?_)
            refine W.widen (k := 4) (n := 24) (by omega) (by omega) ?_
            have es : (s_X3_range ft p0 p1 p2 p3 p4 p5) = ((-9223372036854775808 : Int64), (9223372036854775807 : Int64), ft) := by unfold s_X3_range; rw [if_pos c1, if_neg c2, if_pos c33, if_neg c48, if_neg c49, if_neg c50, if_neg c51, if_pos c52, if_pos c53]
            exact W.vret hx hb hr (fun t ht hW => by rw [es]; exact ⟨rfl, by rw [ht]; exact hP, hD, hS.F ht⟩) hS.2.2 dX3_range_186
        by_cases c54 : p0 = (5 : Int32)
        · refine lv_tableIn (off := 136) (tgt := 187) hx hb dX3_range_51 (by rw [c54]; decide) (by rw [c54]; decide) (by rw [c54]; decide) (by decide) ?_
          refine lv_lload hx hb dX3_range_187 (lv_at hl 8 rfl) ?_
          refine lv_lconst (v := (0 : Int64)) hx hb dX3_range_189 (by decide) ?_
          refine pl_le (tgt := 216) hx hb dX3_range_190 dX3_range_191 (by decide) (fun c55 => ?_) (fun c55 => ?_)
          · refine lv_iload hx hb dX3_range_216 (lv_at hl 3 rfl) ?_
            refine lv_if_eq (tgt := 236) hx hb dX3_range_218 (by decide) (fun _ => ?_) (fun h => absurd (by decide) h)
            refine lv_aload_n hx hb dX3_range_236 rfl (lv_at hl 4 rfl) ?_
            refine wq_callv (wc := [(g0, .inr (2, [.int th, .ref r1, .ref r2, .long fa, .long fb, .int ft, .long xl, .long xh, .long yl, .long yh]))]) (wr := []) (w2 := [(g0, .inr (2, [.int th, .ref r1, .ref r2, .long (-9223372036854775808 : Int64), .long (9223372036854775807 : Int64), .int ft, .long xl, .long xh, .long yl, .long yh]))]) (va_runV (As := []) (rest := []) ⟨hx, hb, hml, hown, hts⟩ (c_X3_all l dC dI g0 r1 r2 s.heap.size th fa fb ft xl xh yl yh) (cwV 0 hts (gz_l gX3_range_X3_all) rfl rfl rfl ydV_X3_all ⟨Nat.le_of_ble_eq_true rfl, Nat.le_of_ble_eq_true rfl⟩) (wp_V (hK.sub (tys' := []) [] rfl) (hP.sub (ws' := [(g0, .inr (2, [.int th, .ref r1, .ref r2, .long fa, .long fb, .int ft, .long xl, .long xh, .long yl, .long yh]))]) [0] rfl) (hD.sub (ws' := [(g0, .inr (2, [.int th, .ref r1, .ref r2, .long fa, .long fb, .int ft, .long xl, .long xh, .long yl, .long yh]))]) [0] (by decide) rfl)  rfl rfl) rfl rfl hl.1 rfl (lv_room (Nat.le_of_ble_eq_true rfl)) dX3_range_237 ⟨Nat.le_of_ble_eq_true rfl, Nat.le_of_ble_eq_true rfl⟩) hP hD hS hA [0] [] [0] rfl rfl rfl (by decide) rfl rfl (fun H locs hP hD hS => ?_)
            refine W.widen (k := 4) (n := 24) (by omega) (by omega) ?_
            have es : (s_X3_range ft p0 p1 p2 p3 p4 p5) = ((-9223372036854775808 : Int64), (9223372036854775807 : Int64), ft) := by unfold s_X3_range; rw [if_pos c1, if_neg c2, if_pos c33, if_neg c48, if_neg c49, if_neg c50, if_neg c51, if_neg c52, if_pos c54, if_neg c55]
            exact W.vret hx hb hr (fun t ht hW => by rw [es]; exact ⟨rfl, by rw [ht]; exact hP, hD, hS.F ht⟩) hS.2.2 dX3_range_240
          · refine lv_iload hx hb dX3_range_194 (lv_at hl 3 rfl) ?_
            refine lv_if_eq (tgt := 216) hx hb dX3_range_196 (by decide) (fun _ => ?_) (fun h => absurd (by decide) h)
            refine lv_iload hx hb dX3_range_216 (lv_at hl 3 rfl) ?_
            refine lv_if_eq (tgt := 236) hx hb dX3_range_218 (by decide) (fun _ => ?_) (fun h => absurd (by decide) h)
            refine lv_aload_n hx hb dX3_range_236 rfl (lv_at hl 4 rfl) ?_
            refine wq_callv (wc := [(g0, .inr (2, [.int th, .ref r1, .ref r2, .long fa, .long fb, .int ft, .long xl, .long xh, .long yl, .long yh]))]) (wr := []) (w2 := [(g0, .inr (2, [.int th, .ref r1, .ref r2, .long (-9223372036854775808 : Int64), .long (9223372036854775807 : Int64), .int ft, .long xl, .long xh, .long yl, .long yh]))]) (va_runV (As := []) (rest := []) ⟨hx, hb, hml, hown, hts⟩ (c_X3_all l dC dI g0 r1 r2 s.heap.size th fa fb ft xl xh yl yh) (cwV 0 hts (gz_l gX3_range_X3_all) rfl rfl rfl ydV_X3_all ⟨Nat.le_of_ble_eq_true rfl, Nat.le_of_ble_eq_true rfl⟩) (wp_V (hK.sub (tys' := []) [] rfl) (hP.sub (ws' := [(g0, .inr (2, [.int th, .ref r1, .ref r2, .long fa, .long fb, .int ft, .long xl, .long xh, .long yl, .long yh]))]) [0] rfl) (hD.sub (ws' := [(g0, .inr (2, [.int th, .ref r1, .ref r2, .long fa, .long fb, .int ft, .long xl, .long xh, .long yl, .long yh]))]) [0] (by decide) rfl)  rfl rfl) rfl rfl hl.1 rfl (lv_room (Nat.le_of_ble_eq_true rfl)) dX3_range_237 ⟨Nat.le_of_ble_eq_true rfl, Nat.le_of_ble_eq_true rfl⟩) hP hD hS hA [0] [] [0] rfl rfl rfl (by decide) rfl rfl (fun H locs hP hD hS => ?_)
            refine W.widen (k := 4) (n := 24) (by omega) (by omega) ?_
            have es : (s_X3_range ft p0 p1 p2 p3 p4 p5) = ((-9223372036854775808 : Int64), (9223372036854775807 : Int64), ft) := by unfold s_X3_range; rw [if_pos c1, if_neg c2, if_pos c33, if_neg c48, if_neg c49, if_neg c50, if_neg c51, if_neg c52, if_pos c54, if_pos c55]
            exact W.vret hx hb hr (fun t ht hW => by rw [es]; exact ⟨rfl, by rw [ht]; exact hP, hD, hS.F ht⟩) hS.2.2 dX3_range_240
        by_cases c56 : p0 = (6 : Int32)
        · refine lv_tableIn (off := 190) (tgt := 241) hx hb dX3_range_51 (by rw [c56]; decide) (by rw [c56]; decide) (by rw [c56]; decide) (by decide) ?_
          refine lv_iload hx hb dX3_range_241 (lv_at hl 3 rfl) ?_
          refine lv_if_ne (tgt := 251) hx hb dX3_range_243 (by decide) (fun h => absurd (by decide) h) (fun _ => ?_)
          refine lv_iload hx hb dX3_range_246 (lv_at hl 2 rfl) ?_
          refine lv_if_eq (tgt := 291) hx hb dX3_range_248 (by decide) (fun h => absurd h (by decide)) (fun _ => ?_)
          refine lv_aload_n hx hb dX3_range_251 rfl (lv_at hl 4 rfl) ?_
          refine lv_lconst (v := (0 : Int64)) hx hb dX3_range_252 (by decide) ?_
          refine lv_iload hx hb dX3_range_253 (lv_at hl 3 rfl) ?_
          refine lv_if_eq (tgt := 273) hx hb dX3_range_255 (by decide) (fun _ => ?_) (fun h => absurd (by decide) h)
          refine lv_iload hx hb dX3_range_273 (lv_at hl 3 rfl) ?_
          refine lv_if_eq (tgt := 283) hx hb dX3_range_275 (by decide) (fun _ => ?_) (fun h => absurd (by decide) h)
          refine lv_lload hx hb dX3_range_283 (lv_at hl 9 rfl) ?_
          refine wq_callv (wc := [(g0, .inr (2, [.int th, .ref r1, .ref r2, .long fa, .long fb, .int ft, .long xl, .long xh, .long yl, .long yh]))]) (wr := []) (w2 := [(g0, .inr (2, [.int th, .ref r1, .ref r2, .long (0 : Int64), .long p4, .int ft, .long xl, .long xh, .long yl, .long yh]))]) (va_runV (As := [.long (0 : Int64), .long p4]) (rest := []) ⟨hx, hb, hml, hown, hts⟩ (c_X3_between l dC dI g0 r1 r2 s.heap.size th fa fb ft xl xh yl yh (0 : Int64) p4) (cwV 2 hts (gz_l gX3_range_X3_between) rfl rfl rfl ydV_X3_between ⟨Nat.le_of_ble_eq_true rfl, Nat.le_of_ble_eq_true rfl⟩) (wp_V (hK.sub (tys' := []) [] rfl) (hP.sub (ws' := [(g0, .inr (2, [.int th, .ref r1, .ref r2, .long fa, .long fb, .int ft, .long xl, .long xh, .long yl, .long yh]))]) [0] rfl) (hD.sub (ws' := [(g0, .inr (2, [.int th, .ref r1, .ref r2, .long fa, .long fb, .int ft, .long xl, .long xh, .long yl, .long yh]))]) [0] (by decide) rfl)  rfl rfl) rfl rfl hl.1 rfl (lv_room (Nat.le_of_ble_eq_true rfl)) dX3_range_285 ⟨Nat.le_of_ble_eq_true rfl, Nat.le_of_ble_eq_true rfl⟩) hP hD hS hA [0] [] [0] rfl rfl rfl (by decide) rfl rfl (fun H locs hP hD hS => ?_)
          refine lv_goto (tgt := 295) hx hb dX3_range_288 (by decide) ?_
          refine W.widen (k := 4) (n := 24) (by omega) (by omega) ?_
          have es : (s_X3_range ft p0 p1 p2 p3 p4 p5) = ((0 : Int64), p4, ft) := by unfold s_X3_range; rw [if_pos c1, if_neg c2, if_pos c33, if_neg c48, if_neg c49, if_neg c50, if_neg c51, if_neg c52, if_neg c54, if_pos c56]
          exact W.vret hx hb hr (fun t ht hW => by rw [es]; exact ⟨rfl, by rw [ht]; exact hP, hD, hS.F ht⟩) hS.2.2 dX3_range_295
        by_cases c57 : p0 = (7 : Int32)
        · refine lv_tableIn (off := 245) (tgt := 296) hx hb dX3_range_51 (by rw [c57]; decide) (by rw [c57]; decide) (by rw [c57]; decide) (by decide) ?_
          refine lv_iload hx hb dX3_range_296 (lv_at hl 3 rfl) ?_
          refine lv_if_eq (tgt := 358) hx hb dX3_range_298 (by decide) (fun _ => ?_) (fun h => absurd (by decide) h)
          refine lv_aload_n hx hb dX3_range_358 rfl (lv_at hl 4 rfl) ?_
          refine wq_callv (wc := [(g0, .inr (2, [.int th, .ref r1, .ref r2, .long fa, .long fb, .int ft, .long xl, .long xh, .long yl, .long yh]))]) (wr := []) (w2 := [(g0, .inr (2, [.int th, .ref r1, .ref r2, .long (-9223372036854775808 : Int64), .long (9223372036854775807 : Int64), .int ft, .long xl, .long xh, .long yl, .long yh]))]) (va_runV (As := []) (rest := []) ⟨hx, hb, hml, hown, hts⟩ (c_X3_all l dC dI g0 r1 r2 s.heap.size th fa fb ft xl xh yl yh) (cwV 0 hts (gz_l gX3_range_X3_all) rfl rfl rfl ydV_X3_all ⟨Nat.le_of_ble_eq_true rfl, Nat.le_of_ble_eq_true rfl⟩) (wp_V (hK.sub (tys' := []) [] rfl) (hP.sub (ws' := [(g0, .inr (2, [.int th, .ref r1, .ref r2, .long fa, .long fb, .int ft, .long xl, .long xh, .long yl, .long yh]))]) [0] rfl) (hD.sub (ws' := [(g0, .inr (2, [.int th, .ref r1, .ref r2, .long fa, .long fb, .int ft, .long xl, .long xh, .long yl, .long yh]))]) [0] (by decide) rfl)  rfl rfl) rfl rfl hl.1 rfl (lv_room (Nat.le_of_ble_eq_true rfl)) dX3_range_359 ⟨Nat.le_of_ble_eq_true rfl, Nat.le_of_ble_eq_true rfl⟩) hP hD hS hA [0] [] [0] rfl rfl rfl (by decide) rfl rfl (fun H locs hP hD hS => ?_)
          refine W.widen (k := 4) (n := 24) (by omega) (by omega) ?_
          have es : (s_X3_range ft p0 p1 p2 p3 p4 p5) = ((-9223372036854775808 : Int64), (9223372036854775807 : Int64), ft) := by unfold s_X3_range; rw [if_pos c1, if_neg c2, if_pos c33, if_neg c48, if_neg c49, if_neg c50, if_neg c51, if_neg c52, if_neg c54, if_neg c56, if_pos c57]
          exact W.vret hx hb hr (fun t ht hW => by rw [es]; exact ⟨rfl, by rw [ht]; exact hP, hD, hS.F ht⟩) hS.2.2 dX3_range_362
        by_cases c58 : p0 = (8 : Int32)
        · refine lv_tableIn (off := 245) (tgt := 296) hx hb dX3_range_51 (by rw [c58]; decide) (by rw [c58]; decide) (by rw [c58]; decide) (by decide) ?_
          refine lv_iload hx hb dX3_range_296 (lv_at hl 3 rfl) ?_
          refine lv_if_eq (tgt := 358) hx hb dX3_range_298 (by decide) (fun _ => ?_) (fun h => absurd (by decide) h)
          refine lv_aload_n hx hb dX3_range_358 rfl (lv_at hl 4 rfl) ?_
          refine wq_callv (wc := [(g0, .inr (2, [.int th, .ref r1, .ref r2, .long fa, .long fb, .int ft, .long xl, .long xh, .long yl, .long yh]))]) (wr := []) (w2 := [(g0, .inr (2, [.int th, .ref r1, .ref r2, .long (-9223372036854775808 : Int64), .long (9223372036854775807 : Int64), .int ft, .long xl, .long xh, .long yl, .long yh]))]) (va_runV (As := []) (rest := []) ⟨hx, hb, hml, hown, hts⟩ (c_X3_all l dC dI g0 r1 r2 s.heap.size th fa fb ft xl xh yl yh) (cwV 0 hts (gz_l gX3_range_X3_all) rfl rfl rfl ydV_X3_all ⟨Nat.le_of_ble_eq_true rfl, Nat.le_of_ble_eq_true rfl⟩) (wp_V (hK.sub (tys' := []) [] rfl) (hP.sub (ws' := [(g0, .inr (2, [.int th, .ref r1, .ref r2, .long fa, .long fb, .int ft, .long xl, .long xh, .long yl, .long yh]))]) [0] rfl) (hD.sub (ws' := [(g0, .inr (2, [.int th, .ref r1, .ref r2, .long fa, .long fb, .int ft, .long xl, .long xh, .long yl, .long yh]))]) [0] (by decide) rfl)  rfl rfl) rfl rfl hl.1 rfl (lv_room (Nat.le_of_ble_eq_true rfl)) dX3_range_359 ⟨Nat.le_of_ble_eq_true rfl, Nat.le_of_ble_eq_true rfl⟩) hP hD hS hA [0] [] [0] rfl rfl rfl (by decide) rfl rfl (fun H locs hP hD hS => ?_)
          refine W.widen (k := 4) (n := 24) (by omega) (by omega) ?_
          have es : (s_X3_range ft p0 p1 p2 p3 p4 p5) = ((-9223372036854775808 : Int64), (9223372036854775807 : Int64), ft) := by unfold s_X3_range; rw [if_pos c1, if_neg c2, if_pos c33, if_neg c48, if_neg c49, if_neg c50, if_neg c51, if_neg c52, if_neg c54, if_neg c56, if_neg c57, if_pos c58]
          exact W.vret hx hb hr (fun t ht hW => by rw [es]; exact ⟨rfl, by rw [ht]; exact hP, hD, hS.F ht⟩) hS.2.2 dX3_range_362
        by_cases c59 : p0 = (9 : Int32)
        · refine lv_tableIn (off := 312) (tgt := 363) hx hb dX3_range_51 (by rw [c59]; decide) (by rw [c59]; decide) (by rw [c59]; decide) (by decide) ?_
          refine lv_iload hx hb dX3_range_363 (lv_at hl 1 rfl) ?_
          refine lv_if_eq (tgt := 413) hx hb dX3_range_365 (by decide) (fun h => absurd h (by decide)) (fun _ => ?_)
          refine lv_iload hx hb dX3_range_368 (lv_at hl 3 rfl) ?_
          refine lv_if_eq (tgt := 413) hx hb dX3_range_370 (by decide) (fun _ => ?_) (fun h => absurd (by decide) h)
          refine lv_aload_n hx hb dX3_range_413 rfl (lv_at hl 4 rfl) ?_
          refine wq_callv (wc := [(g0, .inr (2, [.int th, .ref r1, .ref r2, .long fa, .long fb, .int ft, .long xl, .long xh, .long yl, .long yh]))]) (wr := []) (w2 := [(g0, .inr (2, [.int th, .ref r1, .ref r2, .long (-9223372036854775808 : Int64), .long (9223372036854775807 : Int64), .int ft, .long xl, .long xh, .long yl, .long yh]))]) (va_runV (As := []) (rest := []) ⟨hx, hb, hml, hown, hts⟩ (c_X3_all l dC dI g0 r1 r2 s.heap.size th fa fb ft xl xh yl yh) (cwV 0 hts (gz_l gX3_range_X3_all) rfl rfl rfl ydV_X3_all ⟨Nat.le_of_ble_eq_true rfl, Nat.le_of_ble_eq_true rfl⟩) (wp_V (hK.sub (tys' := []) [] rfl) (hP.sub (ws' := [(g0, .inr (2, [.int th, .ref r1, .ref r2, .long fa, .long fb, .int ft, .long xl, .long xh, .long yl, .long yh]))]) [0] rfl) (hD.sub (ws' := [(g0, .inr (2, [.int th, .ref r1, .ref r2, .long fa, .long fb, .int ft, .long xl, .long xh, .long yl, .long yh]))]) [0] (by decide) rfl)  rfl rfl) rfl rfl hl.1 rfl (lv_room (Nat.le_of_ble_eq_true rfl)) dX3_range_414 ⟨Nat.le_of_ble_eq_true rfl, Nat.le_of_ble_eq_true rfl⟩) hP hD hS hA [0] [] [0] rfl rfl rfl (by decide) rfl rfl (fun H locs hP hD hS => ?_)
          refine W.widen (k := 4) (n := 24) (by omega) (by omega) ?_
          have es : (s_X3_range ft p0 p1 p2 p3 p4 p5) = ((-9223372036854775808 : Int64), (9223372036854775807 : Int64), ft) := by unfold s_X3_range; rw [if_pos c1, if_neg c2, if_pos c33, if_neg c48, if_neg c49, if_neg c50, if_neg c51, if_neg c52, if_neg c54, if_neg c56, if_neg c57, if_neg c58, if_pos c59]
          exact W.vret hx hb hr (fun t ht hW => by rw [es]; exact ⟨rfl, by rw [ht]; exact hP, hD, hS.F ht⟩) hS.2.2 dX3_range_417
        by_cases c60 : p0 = (10 : Int32)
        · refine lv_tableIn (off := 367) (tgt := 418) hx hb dX3_range_51 (by rw [c60]; decide) (by rw [c60]; decide) (by rw [c60]; decide) (by decide) ?_
          refine lv_iload hx hb dX3_range_418 (lv_at hl 1 rfl) ?_
          refine lv_if_eq (tgt := 473) hx hb dX3_range_420 (by decide) (fun h => absurd h (by decide)) (fun _ => ?_)
          refine lv_iload hx hb dX3_range_423 (lv_at hl 3 rfl) ?_
          refine lv_if_eq (tgt := 444) hx hb dX3_range_425 (by decide) (fun _ => ?_) (fun h => absurd (by decide) h)
          refine lv_iload hx hb dX3_range_444 (lv_at hl 0 rfl) ?_
          refine lv_if_ne (tgt := 459) hx hb dX3_range_446 (by decide) (fun c61 => ?_) (fun c61 => ?_)
          · refine lv_aload_n hx hb dX3_range_459 rfl (lv_at hl 4 rfl) ?_
            refine lv_lconst (v := (0 : Int64)) hx hb dX3_range_460 (by decide) ?_
            refine lv_ldc2 (v := (-1 : Int64)) hx hb hown hw0 dX3_range_461 ?_
            refine lv_iload hx hb dX3_range_464 (lv_at hl 0 rfl) ?_
            refine lv_lushr (v := pl_ushr (-1 : Int64) (p3.toInt32 &&& p5)) hx hb dX3_range_466 rfl ?_
            refine wq_callv (wc := [(g0, .inr (2, [.int th, .ref r1, .ref r2, .long fa, .long fb, .int ft, .long xl, .long xh, .long yl, .long yh]))]) (wr := []) (w2 := [(g0, .inr (2, [.int th, .ref r1, .ref r2, .long (0 : Int64), .long (pl_ushr (-1 : Int64) (p3.toInt32 &&& p5)), .int ft, .long xl, .long xh, .long yl, .long yh]))]) (va_runV (As := [.long (0 : Int64), .long (pl_ushr (-1 : Int64) (p3.toInt32 &&& p5))]) (rest := []) ⟨hx, hb, hml, hown, hts⟩ (c_X3_between l dC dI g0 r1 r2 s.heap.size th fa fb ft xl xh yl yh (0 : Int64) (pl_ushr (-1 : Int64) (p3.toInt32 &&& p5))) (cwV 2 hts (gz_l gX3_range_X3_between) rfl rfl rfl ydV_X3_between ⟨Nat.le_of_ble_eq_true rfl, Nat.le_of_ble_eq_true rfl⟩) (wp_V (hK.sub (tys' := []) [] rfl) (hP.sub (ws' := [(g0, .inr (2, [.int th, .ref r1, .ref r2, .long fa, .long fb, .int ft, .long xl, .long xh, .long yl, .long yh]))]) [0] rfl) (hD.sub (ws' := [(g0, .inr (2, [.int th, .ref r1, .ref r2, .long fa, .long fb, .int ft, .long xl, .long xh, .long yl, .long yh]))]) [0] (by decide) rfl)  rfl rfl) rfl rfl hl.1 rfl (lv_room (Nat.le_of_ble_eq_true rfl)) dX3_range_467 ⟨Nat.le_of_ble_eq_true rfl, Nat.le_of_ble_eq_true rfl⟩) hP hD hS hA [0] [] [0] rfl rfl rfl (by decide) rfl rfl (fun H locs hP hD hS => ?_)
            refine lv_goto (tgt := 492) hx hb dX3_range_470 (by decide) ?_
            refine W.widen (k := 4) (n := 24) (by omega) (by omega) ?_
            have es : (s_X3_range ft p0 p1 p2 p3 p4 p5) = ((0 : Int64), (pl_ushr (-1 : Int64) (p3.toInt32 &&& p5)), ft) := by unfold s_X3_range; rw [if_pos c1, if_neg c2, if_pos c33, if_neg c48, if_neg c49, if_neg c50, if_neg c51, if_neg c52, if_neg c54, if_neg c56, if_neg c57, if_neg c58, if_neg c59, if_pos c60, if_neg c61]
            exact W.vret hx hb hr (fun t ht hW => by rw [es]; exact ⟨rfl, by rw [ht]; exact hP, hD, hS.F ht⟩) hS.2.2 dX3_range_492
          · refine lv_aload_n hx hb dX3_range_449 rfl (lv_at hl 4 rfl) ?_
            refine lv_lload_n hx hb dX3_range_450 rfl (lv_at hl 6 rfl) ?_
            refine lv_lload hx hb dX3_range_451 (lv_at hl 7 rfl) ?_
            refine wq_callv (wc := [(g0, .inr (2, [.int th, .ref r1, .ref r2, .long fa, .long fb, .int ft, .long xl, .long xh, .long yl, .long yh]))]) (wr := []) (w2 := [(g0, .inr (2, [.int th, .ref r1, .ref r2, .long p1, .long p2, .int ft, .long xl, .long xh, .long yl, .long yh]))]) (va_runV (As := [.long p1, .long p2]) (rest := []) ⟨hx, hb, hml, hown, hts⟩ (c_X3_between l dC dI g0 r1 r2 s.heap.size th fa fb ft xl xh yl yh p1 p2) (cwV 2 hts (gz_l gX3_range_X3_between) rfl rfl rfl ydV_X3_between ⟨Nat.le_of_ble_eq_true rfl, Nat.le_of_ble_eq_true rfl⟩) (wp_V (hK.sub (tys' := []) [] rfl) (hP.sub (ws' := [(g0, .inr (2, [.int th, .ref r1, .ref r2, .long fa, .long fb, .int ft, .long xl, .long xh, .long yl, .long yh]))]) [0] rfl) (hD.sub (ws' := [(g0, .inr (2, [.int th, .ref r1, .ref r2, .long fa, .long fb, .int ft, .long xl, .long xh, .long yl, .long yh]))]) [0] (by decide) rfl)  rfl rfl) rfl rfl hl.1 rfl (lv_room (Nat.le_of_ble_eq_true rfl)) dX3_range_453 ⟨Nat.le_of_ble_eq_true rfl, Nat.le_of_ble_eq_true rfl⟩) hP hD hS hA [0] [] [0] rfl rfl rfl (by decide) rfl rfl (fun H locs hP hD hS => ?_)
            refine lv_goto (tgt := 492) hx hb dX3_range_456 (by decide) ?_
            refine W.widen (k := 4) (n := 24) (by omega) (by omega) ?_
            have es : (s_X3_range ft p0 p1 p2 p3 p4 p5) = (p1, p2, ft) := by unfold s_X3_range; rw [if_pos c1, if_neg c2, if_pos c33, if_neg c48, if_neg c49, if_neg c50, if_neg c51, if_neg c52, if_neg c54, if_neg c56, if_neg c57, if_neg c58, if_neg c59, if_pos c60, if_pos c61]
            exact W.vret hx hb hr (fun t ht hW => by rw [es]; exact ⟨rfl, by rw [ht]; exact hP, hD, hS.F ht⟩) hS.2.2 dX3_range_492
        by_cases c62 : p0 = (11 : Int32)
        · refine lv_tableIn (off := 442) (tgt := 493) hx hb dX3_range_51 (by rw [c62]; decide) (by rw [c62]; decide) (by rw [c62]; decide) (by decide) ?_
          refine lv_iload hx hb dX3_range_493 (lv_at hl 1 rfl) ?_
          refine lv_if_eq (tgt := 514) hx hb dX3_range_495 (by decide) (fun h => absurd h (by decide)) (fun _ => ?_)
          refine lv_aload_n hx hb dX3_range_498 rfl (lv_at hl 4 rfl) ?_
          refine lv_lload_n hx hb dX3_range_499 rfl (lv_at hl 6 rfl) ?_
          refine lv_iload hx hb dX3_range_500 (lv_at hl 0 rfl) ?_
          refine lv_lshr (v := pl_shr p1 (p3.toInt32 &&& p5)) hx hb dX3_range_502 rfl ?_
          refine lv_lload hx hb dX3_range_503 (lv_at hl 7 rfl) ?_
          refine lv_iload hx hb dX3_range_505 (lv_at hl 0 rfl) ?_
          refine lv_lshr (v := pl_shr p2 (p3.toInt32 &&& p5)) hx hb dX3_range_507 rfl ?_
          refine wq_callv (wc := [(g0, .inr (2, [.int th, .ref r1, .ref r2, .long fa, .long fb, .int ft, .long xl, .long xh, .long yl, .long yh]))]) (wr := []) (w2 := [(g0, .inr (2, [.int th, .ref r1, .ref r2, .long (pl_shr p1 (p3.toInt32 &&& p5)), .long (pl_shr p2 (p3.toInt32 &&& p5)), .int ft, .long xl, .long xh, .long yl, .long yh]))]) (va_runV (As := [.long (pl_shr p1 (p3.toInt32 &&& p5)), .long (pl_shr p2 (p3.toInt32 &&& p5))]) (rest := []) ⟨hx, hb, hml, hown, hts⟩ (c_X3_between l dC dI g0 r1 r2 s.heap.size th fa fb ft xl xh yl yh (pl_shr p1 (p3.toInt32 &&& p5)) (pl_shr p2 (p3.toInt32 &&& p5))) (cwV 2 hts (gz_l gX3_range_X3_between) rfl rfl rfl ydV_X3_between ⟨Nat.le_of_ble_eq_true rfl, Nat.le_of_ble_eq_true rfl⟩) (wp_V (hK.sub (tys' := []) [] rfl) (hP.sub (ws' := [(g0, .inr (2, [.int th, .ref r1, .ref r2, .long fa, .long fb, .int ft, .long xl, .long xh, .long yl, .long yh]))]) [0] rfl) (hD.sub (ws' := [(g0, .inr (2, [.int th, .ref r1, .ref r2, .long fa, .long fb, .int ft, .long xl, .long xh, .long yl, .long yh]))]) [0] (by decide) rfl)  rfl rfl) rfl rfl hl.1 rfl (lv_room (Nat.le_of_ble_eq_true rfl)) dX3_range_508 ⟨Nat.le_of_ble_eq_true rfl, Nat.le_of_ble_eq_true rfl⟩) hP hD hS hA [0] [] [0] rfl rfl rfl (by decide) rfl rfl (fun H locs hP hD hS => ?_)
          refine lv_goto (tgt := 533) hx hb dX3_range_511 (by decide) ?_
          refine W.widen (k := 4) (n := 24) (by omega) (by omega) ?_
          have es : (s_X3_range ft p0 p1 p2 p3 p4 p5) = ((pl_shr p1 (p3.toInt32 &&& p5)), (pl_shr p2 (p3.toInt32 &&& p5)), ft) := by unfold s_X3_range; rw [if_pos c1, if_neg c2, if_pos c33, if_neg c48, if_neg c49, if_neg c50, if_neg c51, if_neg c52, if_neg c54, if_neg c56, if_neg c57, if_neg c58, if_neg c59, if_neg c60, if_pos c62]
          exact W.vret hx hb hr (fun t ht hW => by rw [es]; exact ⟨rfl, by rw [ht]; exact hP, hD, hS.F ht⟩) hS.2.2 dX3_range_533
        refine lv_tableOut (tgt := 534) hx hb dX3_range_51 (by have h0 := lv_neT c48 (a := 0) rfl; have h1 := lv_neT c49 (a := 1) rfl; have h2 := lv_neT c50 (a := 2) rfl; have h3 := lv_neT c51 (a := 3) rfl; have h4 := lv_neT c52 (a := 4) rfl; have h5 := lv_neT c54 (a := 5) rfl; have h6 := lv_neT c56 (a := 6) rfl; have h7 := lv_neT c57 (a := 7) rfl; have h8 := lv_neT c58 (a := 8) rfl; have h9 := lv_neT c59 (a := 9) rfl; have h10 := lv_neT c60 (a := 10) rfl; have h11 := lv_neT c62 (a := 11) rfl; omega) (by decide) ?_
        refine lv_aload_n hx hb dX3_range_534 rfl (lv_at hl 4 rfl) ?_
        refine lv_iconst (v := (2 : Int32)) hx hb dX3_range_535 (by decide) ?_
        refine lv_lconst (v := (0 : Int64)) hx hb dX3_range_536 (by decide) ?_
        refine lv_lconst (v := (0 : Int64)) hx hb dX3_range_537 (by decide) ?_
        refine lv_lload_n hx hb dX3_range_538 rfl (lv_at hl 6 rfl) ?_
        refine lv_lload hx hb dX3_range_539 (lv_at hl 7 rfl) ?_
        refine wq_callv (wc := [(g0, .inr (2, [.int th, .ref r1, .ref r2, .long fa, .long fb, .int ft, .long xl, .long xh, .long yl, .long yh]))]) (wr := []) (w2 := [(g0, .inr (2, [.int th, .ref r1, .ref r2, .long ((s_X3_ends (2 : Int32) (0 : Int64) (0 : Int64) p1 p2).1), .long ((s_X3_ends (2 : Int32) (0 : Int64) (0 : Int64) p1 p2).2.1), .int ((s_X3_ends (2 : Int32) (0 : Int64) (0 : Int64) p1 p2).2.2), .long xl, .long xh, .long yl, .long yh]))]) (va_runV (As := [.int (2 : Int32), .long (0 : Int64), .long (0 : Int64), .long p1, .long p2]) (rest := []) ⟨hx, hb, hml, hown, hts⟩ (c_X3_ends l S0 hst dC dI g0 r1 r2 s.heap.size th fa fb ft xl xh yl yh (2 : Int32) (0 : Int64) (0 : Int64) p1 p2 (fun q h => hS1 q (va_free (wc := [(g0, .inr (2, [.int th, .ref r1, .ref r2, .long fa, .long fb, .int ft, .long xl, .long xh, .long yl, .long yh]))]) hD hS hA [0] rfl q h))) (cwV 5 hts (gz_V wz_A_good gX3_range_X3_ends) rfl rfl rfl ydV_X3_ends ⟨Nat.le_of_ble_eq_true rfl, Nat.le_of_ble_eq_true rfl⟩) (twp_V (hK.sub (tys' := []) [] rfl) (hP.sub (ws' := [(g0, .inr (2, [.int th, .ref r1, .ref r2, .long fa, .long fb, .int ft, .long xl, .long xh, .long yl, .long yh]))]) [0] rfl) (hD.sub (ws' := [(g0, .inr (2, [.int th, .ref r1, .ref r2, .long fa, .long fb, .int ft, .long xl, .long xh, .long yl, .long yh]))]) [0] (by decide) rfl) ham rfl rfl) rfl rfl hl.1 rfl (lv_room (Nat.le_of_ble_eq_true rfl)) dX3_range_541 ⟨Nat.le_of_ble_eq_true rfl, Nat.le_of_ble_eq_true rfl⟩) hP hD hS hA [0] [] [0] rfl rfl rfl (by decide) rfl rfl (fun H locs hP hD hS => ?_)
        have es : (s_X3_range ft p0 p1 p2 p3 p4 p5) = ((s_X3_ends (2 : Int32) (0 : Int64) (0 : Int64) p1 p2).1, (s_X3_ends (2 : Int32) (0 : Int64) (0 : Int64) p1 p2).2.1, (s_X3_ends (2 : Int32) (0 : Int64) (0 : Int64) p1 p2).2.2) := by unfold s_X3_range; rw [if_pos c1, if_neg c2, if_pos c33, if_neg c48, if_neg c49, if_neg c50, if_neg c51, if_neg c52, if_neg c54, if_neg c56, if_neg c57, if_neg c58, if_neg c59, if_neg c60, if_neg c62]
        exact W.vret hx hb hr (fun t ht hW => by rw [es]; exact ⟨rfl, by rw [ht]; exact hP, hD, hS.F ht⟩) hS.2.2 dX3_range_544
  · refine lv_iconst (v := (1 : Int32)) hx hb dX3_range_6 (by decide) ?_
    refine lv_goto (tgt := 11) hx hb dX3_range_7 (by decide) ?_
    refine lv_istore (lv' := [(11, .int (1 : Int32)), (0, .ref g0), (1, .int p0), (2, .long p1), (4, .long p2), (6, .long p3), (8, .long p4), (10, .int p5)]) hx hb dX3_range_11 hl (by decide) rfl (fun ls hl => ?_)
    refine lv_lload hx hb dX3_range_13 (lv_at hl 5 rfl) ?_
    refine lv_lconst (v := (0 : Int64)) hx hb dX3_range_15 (by decide) ?_
    refine pl_lt (tgt := 24) hx hb dX3_range_16 dX3_range_17 (by decide) (fun c63 => ?_) (fun c63 => ?_)
    · refine lv_iconst (v := (0 : Int32)) hx hb dX3_range_24 (by decide) ?_
      refine lv_istore (lv' := [(12, .int (0 : Int32)), (11, .int (1 : Int32)), (0, .ref g0), (1, .int p0), (2, .long p1), (4, .long p2), (6, .long p3), (8, .long p4), (10, .int p5)]) hx hb dX3_range_25 hl (by decide) rfl (fun ls hl => ?_)
      refine lv_lload hx hb dX3_range_27 (lv_at hl 6 rfl) ?_
      refine lv_lload hx hb dX3_range_29 (lv_at hl 7 rfl) ?_
      refine pl_ne (tgt := 39) hx hb dX3_range_31 dX3_range_32 (by decide) (fun c64 => ?_) (fun c64 => ?_)
      · refine lv_iconst (v := (0 : Int32)) hx hb dX3_range_39 (by decide) ?_
        refine lv_istore (lv' := [(13, .int (0 : Int32)), (12, .int (0 : Int32)), (11, .int (1 : Int32)), (0, .ref g0), (1, .int p0), (2, .long p1), (4, .long p2), (6, .long p3), (8, .long p4), (10, .int p5)]) hx hb dX3_range_40 hl (by decide) rfl (fun ls hl => ?_)
        refine lv_lload hx hb dX3_range_42 (lv_at hl 7 rfl) ?_
        refine lv_l2i (v := p3.toInt32) hx hb dX3_range_44 rfl ?_
        refine lv_iload hx hb dX3_range_45 (lv_at hl 9 rfl) ?_
        refine lv_iand hx hb dX3_range_47 ?_
        refine lv_istore (lv' := [(14, .int (p3.toInt32 &&& p5)), (13, .int (0 : Int32)), (12, .int (0 : Int32)), (11, .int (1 : Int32)), (0, .ref g0), (1, .int p0), (2, .long p1), (4, .long p2), (6, .long p3), (8, .long p4), (10, .int p5)]) hx hb dX3_range_48 hl (by decide) rfl (fun ls hl => ?_)
        refine lv_iload_n hx hb dX3_range_50 rfl (lv_at hl 5 rfl) ?_
        by_cases c65 : p0 = (0 : Int32)
        · refine lv_tableIn (off := 61) (tgt := 112) hx hb dX3_range_51 (by rw [c65]; decide) (by rw [c65]; decide) (by rw [c65]; decide) (by decide) ?_
          refine lv_aload_n hx hb dX3_range_112 rfl (lv_at hl 4 rfl) ?_
          refine lv_lload hx hb dX3_range_113 (lv_at hl 8 rfl) ?_
          refine lv_lload hx hb dX3_range_115 (lv_at hl 9 rfl) ?_
          refine wq_callv (wc := [(g0, .inr (2, [.int th, .ref r1, .ref r2, .long fa, .long fb, .int ft, .long xl, .long xh, .long yl, .long yh]))]) (wr := []) (w2 := [(g0, .inr (2, [.int th, .ref r1, .ref r2, .long p3, .long p4, .int ft, .long xl, .long xh, .long yl, .long yh]))]) (va_runV (As := [.long p3, .long p4]) (rest := []) ⟨hx, hb, hml, hown, hts⟩ (c_X3_between l dC dI g0 r1 r2 s.heap.size th fa fb ft xl xh yl yh p3 p4) (cwV 2 hts (gz_l gX3_range_X3_between) rfl rfl rfl ydV_X3_between ⟨Nat.le_of_ble_eq_true rfl, Nat.le_of_ble_eq_true rfl⟩) (wp_V (hK.sub (tys' := []) [] rfl) (hP.sub (ws' := [(g0, .inr (2, [.int th, .ref r1, .ref r2, .long fa, .long fb, .int ft, .long xl, .long xh, .long yl, .long yh]))]) [0] rfl) (hD.sub (ws' := [(g0, .inr (2, [.int th, .ref r1, .ref r2, .long fa, .long fb, .int ft, .long xl, .long xh, .long yl, .long yh]))]) [0] (by decide) rfl)  rfl rfl) rfl rfl hl.1 rfl (lv_room (Nat.le_of_ble_eq_true rfl)) dX3_range_117 ⟨Nat.le_of_ble_eq_true rfl, Nat.le_of_ble_eq_true rfl⟩) hP hD hS hA [0] [] [0] rfl rfl rfl (by decide) rfl rfl (fun H locs hP hD hS => ?_)
          refine W.widen (k := 4) (n := 24) (by omega) (by omega) ?_
          have es : (s_X3_range ft p0 p1 p2 p3 p4 p5) = (p3, p4, ft) := by unfold s_X3_range; rw [if_neg c1, if_pos c63, if_neg c64, if_pos c65]
          exact W.vret hx hb hr (fun t ht hW => by rw [es]; exact ⟨rfl, by rw [ht]; exact hP, hD, hS.F ht⟩) hS.2.2 dX3_range_120
        by_cases c66 : p0 = (1 : Int32)
        · refine lv_tableIn (off := 70) (tgt := 121) hx hb dX3_range_51 (by rw [c66]; decide) (by rw [c66]; decide) (by rw [c66]; decide) (by decide) ?_
          refine lv_aload_n hx hb dX3_range_121 rfl (lv_at hl 4 rfl) ?_
          refine lv_iload_n hx hb dX3_range_122 rfl (lv_at hl 5 rfl) ?_
          refine lv_lload_n hx hb dX3_range_123 rfl (lv_at hl 6 rfl) ?_
          refine lv_lload hx hb dX3_range_124 (lv_at hl 7 rfl) ?_
          refine lv_lload hx hb dX3_range_126 (lv_at hl 8 rfl) ?_
          refine lv_lload hx hb dX3_range_128 (lv_at hl 9 rfl) ?_
          refine wq_callv (wc := [(g0, .inr (2, [.int th, .ref r1, .ref r2, .long fa, .long fb, .int ft, .long xl, .long xh, .long yl, .long yh]))]) (wr := []) (w2 := [(g0, .inr (2, [.int th, .ref r1, .ref r2, .long ((s_X3_ends p0 p1 p2 p3 p4).1), .long ((s_X3_ends p0 p1 p2 p3 p4).2.1), .int ((s_X3_ends p0 p1 p2 p3 p4).2.2), .long xl, .long xh, .long yl, .long yh]))]) (va_runV (As := [.int p0, .long p1, .long p2, .long p3, .long p4]) (rest := []) ⟨hx, hb, hml, hown, hts⟩ (c_X3_ends l S0 hst dC dI g0 r1 r2 s.heap.size th fa fb ft xl xh yl yh p0 p1 p2 p3 p4 (fun q h => hS1 q (va_free (wc := [(g0, .inr (2, [.int th, .ref r1, .ref r2, .long fa, .long fb, .int ft, .long xl, .long xh, .long yl, .long yh]))]) hD hS hA [0] rfl q h))) (cwV 5 hts (gz_V wz_A_good gX3_range_X3_ends) rfl rfl rfl ydV_X3_ends ⟨Nat.le_of_ble_eq_true rfl, Nat.le_of_ble_eq_true rfl⟩) (twp_V (hK.sub (tys' := []) [] rfl) (hP.sub (ws' := [(g0, .inr (2, [.int th, .ref r1, .ref r2, .long fa, .long fb, .int ft, .long xl, .long xh, .long yl, .long yh]))]) [0] rfl) (hD.sub (ws' := [(g0, .inr (2, [.int th, .ref r1, .ref r2, .long fa, .long fb, .int ft, .long xl, .long xh, .long yl, .long yh]))]) [0] (by decide) rfl) ham rfl rfl) rfl rfl hl.1 rfl (lv_room (Nat.le_of_ble_eq_true rfl)) dX3_range_130 ⟨Nat.le_of_ble_eq_true rfl, Nat.le_of_ble_eq_true rfl⟩) hP hD hS hA [0] [] [0] rfl rfl rfl (by decide) rfl rfl (fun H locs hP hD hS => ?_)
          have es : (s_X3_range ft p0 p1 p2 p3 p4 p5) = ((s_X3_ends p0 p1 p2 p3 p4).1, (s_X3_ends p0 p1 p2 p3 p4).2.1, (s_X3_ends p0 p1 p2 p3 p4).2.2) := by unfold s_X3_range; rw [if_neg c1, if_pos c63, if_neg c64, if_neg c65, if_pos c66]
          exact W.vret hx hb hr (fun t ht hW => by rw [es]; exact ⟨rfl, by rw [ht]; exact hP, hD, hS.F ht⟩) hS.2.2 dX3_range_133
        by_cases c67 : p0 = (2 : Int32)
        · refine lv_tableIn (off := 70) (tgt := 121) hx hb dX3_range_51 (by rw [c67]; decide) (by rw [c67]; decide) (by rw [c67]; decide) (by decide) ?_
          refine lv_aload_n hx hb dX3_range_121 rfl (lv_at hl 4 rfl) ?_
          refine lv_iload_n hx hb dX3_range_122 rfl (lv_at hl 5 rfl) ?_
          refine lv_lload_n hx hb dX3_range_123 rfl (lv_at hl 6 rfl) ?_
          refine lv_lload hx hb dX3_range_124 (lv_at hl 7 rfl) ?_
          refine lv_lload hx hb dX3_range_126 (lv_at hl 8 rfl) ?_
          refine lv_lload hx hb dX3_range_128 (lv_at hl 9 rfl) ?_
          refine wq_callv (wc := [(g0, .inr (2, [.int th, .ref r1, .ref r2, .long fa, .long fb, .int ft, .long xl, .long xh, .long yl, .long yh]))]) (wr := []) (w2 := [(g0, .inr (2, [.int th, .ref r1, .ref r2, .long ((s_X3_ends p0 p1 p2 p3 p4).1), .long ((s_X3_ends p0 p1 p2 p3 p4).2.1), .int ((s_X3_ends p0 p1 p2 p3 p4).2.2), .long xl, .long xh, .long yl, .long yh]))]) (va_runV (As := [.int p0, .long p1, .long p2, .long p3, .long p4]) (rest := []) ⟨hx, hb, hml, hown, hts⟩ (c_X3_ends l S0 hst dC dI g0 r1 r2 s.heap.size th fa fb ft xl xh yl yh p0 p1 p2 p3 p4 (fun q h => hS1 q (va_free (wc := [(g0, .inr (2, [.int th, .ref r1, .ref r2, .long fa, .long fb, .int ft, .long xl, .long xh, .long yl, .long yh]))]) hD hS hA [0] rfl q h))) (cwV 5 hts (gz_V wz_A_good gX3_range_X3_ends) rfl rfl rfl ydV_X3_ends ⟨Nat.le_of_ble_eq_true rfl, Nat.le_of_ble_eq_true rfl⟩) (twp_V (hK.sub (tys' := []) [] rfl) (hP.sub (ws' := [(g0, .inr (2, [.int th, .ref r1, .ref r2, .long fa, .long fb, .int ft, .long xl, .long xh, .long yl, .long yh]))]) [0] rfl) (hD.sub (ws' := [(g0, .inr (2, [.int th, .ref r1, .ref r2, .long fa, .long fb, .int ft, .long xl, .long xh, .long yl, .long yh]))]) [0] (by decide) rfl) ham rfl rfl) rfl rfl hl.1 rfl (lv_room (Nat.le_of_ble_eq_true rfl)) dX3_range_130 ⟨Nat.le_of_ble_eq_true rfl, Nat.le_of_ble_eq_true rfl⟩) hP hD hS hA [0] [] [0] rfl rfl rfl (by decide) rfl rfl (fun H locs hP hD hS => ?_)
          have es : (s_X3_range ft p0 p1 p2 p3 p4 p5) = ((s_X3_ends p0 p1 p2 p3 p4).1, (s_X3_ends p0 p1 p2 p3 p4).2.1, (s_X3_ends p0 p1 p2 p3 p4).2.2) := by unfold s_X3_range; rw [if_neg c1, if_pos c63, if_neg c64, if_neg c65, if_neg c66, if_pos c67]
          exact W.vret hx hb hr (fun t ht hW => by rw [es]; exact ⟨rfl, by rw [ht]; exact hP, hD, hS.F ht⟩) hS.2.2 dX3_range_133
        by_cases c68 : p0 = (3 : Int32)
        · refine lv_tableIn (off := 70) (tgt := 121) hx hb dX3_range_51 (by rw [c68]; decide) (by rw [c68]; decide) (by rw [c68]; decide) (by decide) ?_
          refine lv_aload_n hx hb dX3_range_121 rfl (lv_at hl 4 rfl) ?_
          refine lv_iload_n hx hb dX3_range_122 rfl (lv_at hl 5 rfl) ?_
          refine lv_lload_n hx hb dX3_range_123 rfl (lv_at hl 6 rfl) ?_
          refine lv_lload hx hb dX3_range_124 (lv_at hl 7 rfl) ?_
          refine lv_lload hx hb dX3_range_126 (lv_at hl 8 rfl) ?_
          refine lv_lload hx hb dX3_range_128 (lv_at hl 9 rfl) ?_
          refine wq_callv (wc := [(g0, .inr (2, [.int th, .ref r1, .ref r2, .long fa, .long fb, .int ft, .long xl, .long xh, .long yl, .long yh]))]) (wr := []) (w2 := [(g0, .inr (2, [.int th, .ref r1, .ref r2, .long ((s_X3_ends p0 p1 p2 p3 p4).1), .long ((s_X3_ends p0 p1 p2 p3 p4).2.1), .int ((s_X3_ends p0 p1 p2 p3 p4).2.2), .long xl, .long xh, .long yl, .long yh]))]) (va_runV (As := [.int p0, .long p1, .long p2, .long p3, .long p4]) (rest := []) ⟨hx, hb, hml, hown, hts⟩ (c_X3_ends l S0 hst dC dI g0 r1 r2 s.heap.size th fa fb ft xl xh yl yh p0 p1 p2 p3 p4 (fun q h => hS1 q (va_free (wc := [(g0, .inr (2, [.int th, .ref r1, .ref r2, .long fa, .long fb, .int ft, .long xl, .long xh, .long yl, .long yh]))]) hD hS hA [0] rfl q h))) (cwV 5 hts (gz_V wz_A_good gX3_range_X3_ends) rfl rfl rfl ydV_X3_ends ⟨Nat.le_of_ble_eq_true rfl, Nat.le_of_ble_eq_true rfl⟩) (twp_V (hK.sub (tys' := []) [] rfl) (hP.sub (ws' := [(g0, .inr (2, [.int th, .ref r1, .ref r2, .long fa, .long fb, .int ft, .long xl, .long xh, .long yl, .long yh]))]) [0] rfl) (hD.sub (ws' := [(g0, .inr (2, [.int th, .ref r1, .ref r2, .long fa, .long fb, .int ft, .long xl, .long xh, .long yl, .long yh]))]) [0] (by decide) rfl) ham rfl rfl) rfl rfl hl.1 rfl (lv_room (Nat.le_of_ble_eq_true rfl)) dX3_range_130 ⟨Nat.le_of_ble_eq_true rfl, Nat.le_of_ble_eq_true rfl⟩) hP hD hS hA [0] [] [0] rfl rfl rfl (by decide) rfl rfl (fun H locs hP hD hS => ?_)
          have es : (s_X3_range ft p0 p1 p2 p3 p4 p5) = ((s_X3_ends p0 p1 p2 p3 p4).1, (s_X3_ends p0 p1 p2 p3 p4).2.1, (s_X3_ends p0 p1 p2 p3 p4).2.2) := by unfold s_X3_range; rw [if_neg c1, if_pos c63, if_neg c64, if_neg c65, if_neg c66, if_neg c67, if_pos c68]
          exact W.vret hx hb hr (fun t ht hW => by rw [es]; exact ⟨rfl, by rw [ht]; exact hP, hD, hS.F ht⟩) hS.2.2 dX3_range_133
        by_cases c69 : p0 = (4 : Int32)
        · refine lv_tableIn (off := 83) (tgt := 134) hx hb dX3_range_51 (by rw [c69]; decide) (by rw [c69]; decide) (by rw [c69]; decide) (by decide) ?_
          refine lv_lload hx hb dX3_range_134 (lv_at hl 8 rfl) ?_
          refine lv_lconst (v := (0 : Int64)) hx hb dX3_range_136 (by decide) ?_
          refine pl_le (tgt := 162) hx hb dX3_range_137 dX3_range_138 (by decide) (fun c70 => ?_) (fun c70 => ?_)
          · refine lv_iload hx hb dX3_range_162 (lv_at hl 3 rfl) ?_
            refine lv_if_eq (tgt := 182) hx hb dX3_range_164 (by decide) (fun h => absurd h (by decide)) (fun _ => ?_)
            refine lv_iload hx hb dX3_range_167 (lv_at hl 2 rfl) ?_
            refine lv_if_eq (tgt := 182) hx hb dX3_range_169 (by decide) (fun _ => ?_) (fun h => absurd (by decide) h)
            refine lv_aload_n hx hb dX3_range_182 rfl (lv_at hl 4 rfl) ?_
            refine wq_callv (wc := [(g0, .inr (2, [.int th, .ref r1, .ref r2, .long fa, .long fb, .int ft, .long xl, .long xh, .long yl, .long yh]))]) (wr := []) (w2 := [(g0, .inr (2, [.int th, .ref r1, .ref r2, .long (-9223372036854775808 : Int64), .long (9223372036854775807 : Int64), .int ft, .long xl, .long xh, .long yl, .long yh]))]) (va_runV (As := []) (rest := []) ⟨hx, hb, hml, hown, hts⟩ (c_X3_all l dC dI g0 r1 r2 s.heap.size th fa fb ft xl xh yl yh) (cwV 0 hts (gz_l gX3_range_X3_all) rfl rfl rfl ydV_X3_all ⟨Nat.le_of_ble_eq_true rfl, Nat.le_of_ble_eq_true rfl⟩) (wp_V (hK.sub (tys' := []) [] rfl) (hP.sub (ws' := [(g0, .inr (2, [.int th, .ref r1, .ref r2, .long fa, .long fb, .int ft, .long xl, .long xh, .long yl, .long yh]))]) [0] rfl) (hD.sub (ws' := [(g0, .inr (2, [.int th, .ref r1, .ref r2, .long fa, .long fb, .int ft, .long xl, .long xh, .long yl, .long yh]))]) [0] (by decide) rfl)  rfl rfl) rfl rfl hl.1 rfl (lv_room (Nat.le_of_ble_eq_true rfl)) dX3_range_183 ⟨Nat.le_of_ble_eq_true rfl, Nat.le_of_ble_eq_true rfl⟩) hP hD hS hA [0] [] [0] rfl rfl rfl (by decide) rfl rfl (fun H locs hP hD hS => ?_)
            refine W.widen (k := 4) (n := 24) (by omega) (by omega) ?_
            have es : (s_X3_range ft p0 p1 p2 p3 p4 p5) = ((-9223372036854775808 : Int64), (9223372036854775807 : Int64), ft) := by unfold s_X3_range; rw [if_neg c1, if_pos c63, if_neg c64, if_neg c65, if_neg c66, if_neg c67, if_neg c68, if_pos c69, if_neg c70]
            exact W.vret hx hb hr (fun t ht hW => by rw [es]; exact ⟨rfl, by rw [ht]; exact hP, hD, hS.F ht⟩) hS.2.2 dX3_range_186
          · refine lv_iload hx hb dX3_range_141 (lv_at hl 3 rfl) ?_
            refine lv_if_eq (tgt := 162) hx hb dX3_range_143 (by decide) (fun h => absurd h (by decide)) (fun _ => ?_)
            refine lv_aload_n hx hb dX3_range_146 rfl (lv_at hl 4 rfl) ?_
            refine lv_lload_n hx hb dX3_range_147 rfl (lv_at hl 6 rfl) ?_
            refine lv_lload hx hb dX3_range_148 (lv_at hl 9 rfl) ?_
            refine lv_ldiv hx hb dX3_range_150 (nz_up c70 hrg) ?_
            refine lv_lload hx hb dX3_range_151 (lv_at hl 7 rfl) ?_
            refine lv_lload hx hb dX3_range_153 (lv_at hl 8 rfl) ?_
            refine lv_ldiv hx hb dX3_range_155 (nz_pos c70) ?_
            refine wq_callv (wc := [(g0, .inr (2, [.int th, .ref r1, .ref r2, .long fa, .long fb, .int ft, .long xl, .long xh, .long yl, .long yh]))]) (wr := []) (w2 := [(g0, .inr (2, [.int th, .ref r1, .ref r2, .long (p1 / p4), .long (p2 / p3), .int ft, .long xl, .long xh, .long yl, .long yh]))]) (va_runV (As := [.long (p1 / p4), .long (p2 / p3)]) (rest := []) ⟨hx, hb, hml, hown, hts⟩ (c_X3_between l dC dI g0 r1 r2 s.heap.size th fa fb ft xl xh yl yh (p1 / p4) (p2 / p3)) (cwV 2 hts (gz_l gX3_range_X3_between) rfl rfl rfl ydV_X3_between ⟨Nat.le_of_ble_eq_true rfl, Nat.le_of_ble_eq_true rfl⟩) (wp_V (hK.sub (tys' := []) [] rfl) (hP.sub (ws' := [(g0, .inr (2, [.int th, .ref r1, .ref r2, .long fa, .long fb, .int ft, .long xl, .long xh, .long yl, .long yh]))]) [0] rfl) (hD.sub (ws' := [(g0, .inr (2, [.int th, .ref r1, .ref r2, .long fa, .long fb, .int ft, .long xl, .long xh, .long yl, .long yh]))]) [0] (by decide) rfl)  rfl rfl) rfl rfl hl.1 rfl (lv_room (Nat.le_of_ble_eq_true rfl)) dX3_range_156 ⟨Nat.le_of_ble_eq_true rfl, Nat.le_of_ble_eq_true rfl⟩) hP hD hS hA [0] [] [0] rfl rfl rfl (by decide) rfl rfl (fun H locs hP hD hS => ?_)
            refine lv_goto (tgt := 186) hx hb dX3_range_159 (by decide) ?_
            refine W.widen (k := 4) (n := 24) (by omega) (by omega) ?_
            have es : (s_X3_range ft p0 p1 p2 p3 p4 p5) = ((p1 / p4), (p2 / p3), ft) := by unfold s_X3_range; rw [if_neg c1, if_pos c63, if_neg c64, if_neg c65, if_neg c66, if_neg c67, if_neg c68, if_pos c69, if_pos c70]
            exact W.vret hx hb hr (fun t ht hW => by rw [es]; exact ⟨rfl, by rw [ht]; exact hP, hD, hS.F ht⟩) hS.2.2 dX3_range_186
        by_cases c71 : p0 = (5 : Int32)
        · refine lv_tableIn (off := 136) (tgt := 187) hx hb dX3_range_51 (by rw [c71]; decide) (by rw [c71]; decide) (by rw [c71]; decide) (by decide) ?_
          refine lv_lload hx hb dX3_range_187 (lv_at hl 8 rfl) ?_
          refine lv_lconst (v := (0 : Int64)) hx hb dX3_range_189 (by decide) ?_
          refine pl_le (tgt := 216) hx hb dX3_range_190 dX3_range_191 (by decide) (fun c72 => ?_) (fun c72 => ?_)
          · refine lv_iload hx hb dX3_range_216 (lv_at hl 3 rfl) ?_
            refine lv_if_eq (tgt := 236) hx hb dX3_range_218 (by decide) (fun h => absurd h (by decide)) (fun _ => ?_)
            refine lv_iload hx hb dX3_range_221 (lv_at hl 2 rfl) ?_
            refine lv_if_eq (tgt := 236) hx hb dX3_range_223 (by decide) (fun _ => ?_) (fun h => absurd (by decide) h)
            refine lv_aload_n hx hb dX3_range_236 rfl (lv_at hl 4 rfl) ?_
            refine wq_callv (wc := [(g0, .inr (2, [.int th, .ref r1, .ref r2, .long fa, .long fb, .int ft, .long xl, .long xh, .long yl, .long yh]))]) (wr := []) (w2 := [(g0, .inr (2, [.int th, .ref r1, .ref r2, .long (-9223372036854775808 : Int64), .long (9223372036854775807 : Int64), .int ft, .long xl, .long xh, .long yl, .long yh]))]) (va_runV (As := []) (rest := []) ⟨hx, hb, hml, hown, hts⟩ (c_X3_all l dC dI g0 r1 r2 s.heap.size th fa fb ft xl xh yl yh) (cwV 0 hts (gz_l gX3_range_X3_all) rfl rfl rfl ydV_X3_all ⟨Nat.le_of_ble_eq_true rfl, Nat.le_of_ble_eq_true rfl⟩) (wp_V (hK.sub (tys' := []) [] rfl) (hP.sub (ws' := [(g0, .inr (2, [.int th, .ref r1, .ref r2, .long fa, .long fb, .int ft, .long xl, .long xh, .long yl, .long yh]))]) [0] rfl) (hD.sub (ws' := [(g0, .inr (2, [.int th, .ref r1, .ref r2, .long fa, .long fb, .int ft, .long xl, .long xh, .long yl, .long yh]))]) [0] (by decide) rfl)  rfl rfl) rfl rfl hl.1 rfl (lv_room (Nat.le_of_ble_eq_true rfl)) dX3_range_237 ⟨Nat.le_of_ble_eq_true rfl, Nat.le_of_ble_eq_true rfl⟩) hP hD hS hA [0] [] [0] rfl rfl rfl (by decide) rfl rfl (fun H locs hP hD hS => ?_)
            refine W.widen (k := 4) (n := 24) (by omega) (by omega) ?_
            have es : (s_X3_range ft p0 p1 p2 p3 p4 p5) = ((-9223372036854775808 : Int64), (9223372036854775807 : Int64), ft) := by unfold s_X3_range; rw [if_neg c1, if_pos c63, if_neg c64, if_neg c65, if_neg c66, if_neg c67, if_neg c68, if_neg c69, if_pos c71, if_neg c72]
            exact W.vret hx hb hr (fun t ht hW => by rw [es]; exact ⟨rfl, by rw [ht]; exact hP, hD, hS.F ht⟩) hS.2.2 dX3_range_240
          · refine lv_iload hx hb dX3_range_194 (lv_at hl 3 rfl) ?_
            refine lv_if_eq (tgt := 216) hx hb dX3_range_196 (by decide) (fun h => absurd h (by decide)) (fun _ => ?_)
            refine lv_aload_n hx hb dX3_range_199 rfl (lv_at hl 4 rfl) ?_
            refine lv_lconst (v := (0 : Int64)) hx hb dX3_range_200 (by decide) ?_
            refine lv_lload hx hb dX3_range_201 (lv_at hl 7 rfl) ?_
            refine lv_lload hx hb dX3_range_203 (lv_at hl 9 rfl) ?_
            refine lv_lconst (v := (1 : Int64)) hx hb dX3_range_205 (by decide) ?_
            refine lv_lsub hx hb dX3_range_206 ?_
            refine pm_min hx hb (hml.trans hl.1.symm) hown hw1 hw2 hw3 hw4 (Nat.le_of_ble_eq_true rfl) (Nat.le_of_ble_eq_true rfl) (Nat.le_of_ble_eq_true rfl) (Nat.le_of_ble_eq_true rfl) dX3_range_207 ?_
            refine wq_callv (wc := [(g0, .inr (2, [.int th, .ref r1, .ref r2, .long fa, .long fb, .int ft, .long xl, .long xh, .long yl, .long yh]))]) (wr := []) (w2 := [(g0, .inr (2, [.int th, .ref r1, .ref r2, .long (0 : Int64), .long (pl_min p2 (p4 - (1 : Int64))), .int ft, .long xl, .long xh, .long yl, .long yh]))]) (va_runV (As := [.long (0 : Int64), .long (pl_min p2 (p4 - (1 : Int64)))]) (rest := []) ⟨hx, hb, hml, hown, hts⟩ (c_X3_between l dC dI g0 r1 r2 s.heap.size th fa fb ft xl xh yl yh (0 : Int64) (pl_min p2 (p4 - (1 : Int64)))) (cwV 2 hts (gz_l gX3_range_X3_between) rfl rfl rfl ydV_X3_between ⟨Nat.le_of_ble_eq_true rfl, Nat.le_of_ble_eq_true rfl⟩) (wp_V (hK.sub (tys' := []) [] rfl) (hP.sub (ws' := [(g0, .inr (2, [.int th, .ref r1, .ref r2, .long fa, .long fb, .int ft, .long xl, .long xh, .long yl, .long yh]))]) [0] rfl) (hD.sub (ws' := [(g0, .inr (2, [.int th, .ref r1, .ref r2, .long fa, .long fb, .int ft, .long xl, .long xh, .long yl, .long yh]))]) [0] (by decide) rfl)  rfl rfl) rfl rfl hl.1 rfl (lv_room (Nat.le_of_ble_eq_true rfl)) dX3_range_210 ⟨Nat.le_of_ble_eq_true rfl, Nat.le_of_ble_eq_true rfl⟩) hP hD hS hA [0] [] [0] rfl rfl rfl (by decide) rfl rfl (fun H locs hP hD hS => ?_)
            refine lv_goto (tgt := 240) hx hb dX3_range_213 (by decide) ?_
            refine W.widen (k := 4) (n := 24) (by omega) (by omega) ?_
            have es : (s_X3_range ft p0 p1 p2 p3 p4 p5) = ((0 : Int64), (pl_min p2 (p4 - (1 : Int64))), ft) := by unfold s_X3_range; rw [if_neg c1, if_pos c63, if_neg c64, if_neg c65, if_neg c66, if_neg c67, if_neg c68, if_neg c69, if_pos c71, if_pos c72]
            exact W.vret hx hb hr (fun t ht hW => by rw [es]; exact ⟨rfl, by rw [ht]; exact hP, hD, hS.F ht⟩) hS.2.2 dX3_range_240
        by_cases c73 : p0 = (6 : Int32)
        · refine lv_tableIn (off := 190) (tgt := 241) hx hb dX3_range_51 (by rw [c73]; decide) (by rw [c73]; decide) (by rw [c73]; decide) (by decide) ?_
          refine lv_iload hx hb dX3_range_241 (lv_at hl 3 rfl) ?_
          refine lv_if_ne (tgt := 251) hx hb dX3_range_243 (by decide) (fun _ => ?_) (fun h => absurd h (by decide))
          refine lv_aload_n hx hb dX3_range_251 rfl (lv_at hl 4 rfl) ?_
          refine lv_lconst (v := (0 : Int64)) hx hb dX3_range_252 (by decide) ?_
          refine lv_iload hx hb dX3_range_253 (lv_at hl 3 rfl) ?_
          refine lv_if_eq (tgt := 273) hx hb dX3_range_255 (by decide) (fun h => absurd h (by decide)) (fun _ => ?_)
          refine lv_iload hx hb dX3_range_258 (lv_at hl 2 rfl) ?_
          refine lv_if_eq (tgt := 273) hx hb dX3_range_260 (by decide) (fun _ => ?_) (fun h => absurd (by decide) h)
          refine lv_iload hx hb dX3_range_273 (lv_at hl 3 rfl) ?_
          refine lv_if_eq (tgt := 283) hx hb dX3_range_275 (by decide) (fun h => absurd h (by decide)) (fun _ => ?_)
          refine lv_lload hx hb dX3_range_278 (lv_at hl 7 rfl) ?_
          refine lv_goto (tgt := 285) hx hb dX3_range_280 (by decide) ?_
          refine wq_callv (wc := [(g0, .inr (2, [.int th, .ref r1, .ref r2, .long fa, .long fb, .int ft, .long xl, .long xh, .long yl, .long yh]))]) (wr := []) (w2 := [(g0, .inr (2, [.int th, .ref r1, .ref r2, .long (0 : Int64), .long p2, .int ft, .long xl, .long xh, .long yl, .long yh]))]) (va_runV (As := [.long (0 : Int64), .long p2]) (rest := []) ⟨hx, hb, hml, hown, hts⟩ (c_X3_between l dC dI g0 r1 r2 s.heap.size th fa fb ft xl xh yl yh (0 : Int64) p2) (cwV 2 hts (gz_l gX3_range_X3_between) rfl rfl rfl ydV_X3_between ⟨Nat.le_of_ble_eq_true rfl, Nat.le_of_ble_eq_true rfl⟩) (wp_V (hK.sub (tys' := []) [] rfl) (hP.sub (ws' := [(g0, .inr (2, [.int th, .ref r1, .ref r2, .long fa, .long fb, .int ft, .long xl, .long xh, .long yl, .long yh]))]) [0] rfl) (hD.sub (ws' := [(g0, .inr (2, [.int th, .ref r1, .ref r2, .long fa, .long fb, .int ft, .long xl, .long xh, .long yl, .long yh]))]) [0] (by decide) rfl)  rfl rfl) rfl rfl hl.1 rfl (lv_room (Nat.le_of_ble_eq_true rfl)) dX3_range_285 ⟨Nat.le_of_ble_eq_true rfl, Nat.le_of_ble_eq_true rfl⟩) hP hD hS hA [0] [] [0] rfl rfl rfl (by decide) rfl rfl (fun H locs hP hD hS => ?_)
          refine lv_goto (tgt := 295) hx hb dX3_range_288 (by decide) ?_
          refine W.widen (k := 4) (n := 24) (by omega) (by omega) ?_
          have es : (s_X3_range ft p0 p1 p2 p3 p4 p5) = ((0 : Int64), p2, ft) := by unfold s_X3_range; rw [if_neg c1, if_pos c63, if_neg c64, if_neg c65, if_neg c66, if_neg c67, if_neg c68, if_neg c69, if_neg c71, if_pos c73]
          exact W.vret hx hb hr (fun t ht hW => by rw [es]; exact ⟨rfl, by rw [ht]; exact hP, hD, hS.F ht⟩) hS.2.2 dX3_range_295
        by_cases c74 : p0 = (7 : Int32)
        · refine lv_tableIn (off := 245) (tgt := 296) hx hb dX3_range_51 (by rw [c74]; decide) (by rw [c74]; decide) (by rw [c74]; decide) (by decide) ?_
          refine lv_iload hx hb dX3_range_296 (lv_at hl 3 rfl) ?_
          refine lv_if_eq (tgt := 358) hx hb dX3_range_298 (by decide) (fun h => absurd h (by decide)) (fun _ => ?_)
          refine lv_iload hx hb dX3_range_301 (lv_at hl 2 rfl) ?_
          refine lv_if_eq (tgt := 358) hx hb dX3_range_303 (by decide) (fun _ => ?_) (fun h => absurd (by decide) h)
          refine lv_aload_n hx hb dX3_range_358 rfl (lv_at hl 4 rfl) ?_
          refine wq_callv (wc := [(g0, .inr (2, [.int th, .ref r1, .ref r2, .long fa, .long fb, .int ft, .long xl, .long xh, .long yl, .long yh]))]) (wr := []) (w2 := [(g0, .inr (2, [.int th, .ref r1, .ref r2, .long (-9223372036854775808 : Int64), .long (9223372036854775807 : Int64), .int ft, .long xl, .long xh, .long yl, .long yh]))]) (va_runV (As := []) (rest := []) ⟨hx, hb, hml, hown, hts⟩ (c_X3_all l dC dI g0 r1 r2 s.heap.size th fa fb ft xl xh yl yh) (cwV 0 hts (gz_l gX3_range_X3_all) rfl rfl rfl ydV_X3_all ⟨Nat.le_of_ble_eq_true rfl, Nat.le_of_ble_eq_true rfl⟩) (wp_V (hK.sub (tys' := []) [] rfl) (hP.sub (ws' := [(g0, .inr (2, [.int th, .ref r1, .ref r2, .long fa, .long fb, .int ft, .long xl, .long xh, .long yl, .long yh]))]) [0] rfl) (hD.sub (ws' := [(g0, .inr (2, [.int th, .ref r1, .ref r2, .long fa, .long fb, .int ft, .long xl, .long xh, .long yl, .long yh]))]) [0] (by decide) rfl)  rfl rfl) rfl rfl hl.1 rfl (lv_room (Nat.le_of_ble_eq_true rfl)) dX3_range_359 ⟨Nat.le_of_ble_eq_true rfl, Nat.le_of_ble_eq_true rfl⟩) hP hD hS hA [0] [] [0] rfl rfl rfl (by decide) rfl rfl (fun H locs hP hD hS => ?_)
          refine W.widen (k := 4) (n := 24) (by omega) (by omega) ?_
          have es : (s_X3_range ft p0 p1 p2 p3 p4 p5) = ((-9223372036854775808 : Int64), (9223372036854775807 : Int64), ft) := by unfold s_X3_range; rw [if_neg c1, if_pos c63, if_neg c64, if_neg c65, if_neg c66, if_neg c67, if_neg c68, if_neg c69, if_neg c71, if_neg c73, if_pos c74]
          exact W.vret hx hb hr (fun t ht hW => by rw [es]; exact ⟨rfl, by rw [ht]; exact hP, hD, hS.F ht⟩) hS.2.2 dX3_range_362
        by_cases c75 : p0 = (8 : Int32)
        · refine lv_tableIn (off := 245) (tgt := 296) hx hb dX3_range_51 (by rw [c75]; decide) (by rw [c75]; decide) (by rw [c75]; decide) (by decide) ?_
          refine lv_iload hx hb dX3_range_296 (lv_at hl 3 rfl) ?_
          refine lv_if_eq (tgt := 358) hx hb dX3_range_298 (by decide) (fun h => absurd h (by decide)) (fun _ => ?_)
          refine lv_iload hx hb dX3_range_301 (lv_at hl 2 rfl) ?_
          refine lv_if_eq (tgt := 358) hx hb dX3_range_303 (by decide) (fun _ => ?_) (fun h => absurd (by decide) h)
          refine lv_aload_n hx hb dX3_range_358 rfl (lv_at hl 4 rfl) ?_
          refine wq_callv (wc := [(g0, .inr (2, [.int th, .ref r1, .ref r2, .long fa, .long fb, .int ft, .long xl, .long xh, .long yl, .long yh]))]) (wr := []) (w2 := [(g0, .inr (2, [.int th, .ref r1, .ref r2, .long (-9223372036854775808 : Int64), .long (9223372036854775807 : Int64), .int ft, .long xl, .long xh, .long yl, .long yh]))]) (va_runV (As := []) (rest := []) ⟨hx, hb, hml, hown, hts⟩ (c_X3_all l dC dI g0 r1 r2 s.heap.size th fa fb ft xl xh yl yh) (cwV 0 hts (gz_l gX3_range_X3_all) rfl rfl rfl ydV_X3_all ⟨Nat.le_of_ble_eq_true rfl, Nat.le_of_ble_eq_true rfl⟩) (wp_V (hK.sub (tys' := []) [] rfl) (hP.sub (ws' := [(g0, .inr (2, [.int th, .ref r1, .ref r2, .long fa, .long fb, .int ft, .long xl, .long xh, .long yl, .long yh]))]) [0] rfl) (hD.sub (ws' := [(g0, .inr (2, [.int th, .ref r1, .ref r2, .long fa, .long fb, .int ft, .long xl, .long xh, .long yl, .long yh]))]) [0] (by decide) rfl)  rfl rfl) rfl rfl hl.1 rfl (lv_room (Nat.le_of_ble_eq_true rfl)) dX3_range_359 ⟨Nat.le_of_ble_eq_true rfl, Nat.le_of_ble_eq_true rfl⟩) hP hD hS hA [0] [] [0] rfl rfl rfl (by decide) rfl rfl (fun H locs hP hD hS => ?_)
          refine W.widen (k := 4) (n := 24) (by omega) (by omega) ?_
          have es : (s_X3_range ft p0 p1 p2 p3 p4 p5) = ((-9223372036854775808 : Int64), (9223372036854775807 : Int64), ft) := by unfold s_X3_range; rw [if_neg c1, if_pos c63, if_neg c64, if_neg c65, if_neg c66, if_neg c67, if_neg c68, if_neg c69, if_neg c71, if_neg c73, if_neg c74, if_pos c75]
          exact W.vret hx hb hr (fun t ht hW => by rw [es]; exact ⟨rfl, by rw [ht]; exact hP, hD, hS.F ht⟩) hS.2.2 dX3_range_362
        by_cases c76 : p0 = (9 : Int32)
        · refine lv_tableIn (off := 312) (tgt := 363) hx hb dX3_range_51 (by rw [c76]; decide) (by rw [c76]; decide) (by rw [c76]; decide) (by decide) ?_
          refine lv_iload hx hb dX3_range_363 (lv_at hl 1 rfl) ?_
          refine lv_if_eq (tgt := 413) hx hb dX3_range_365 (by decide) (fun _ => ?_) (fun h => absurd (by decide) h)
          refine lv_aload_n hx hb dX3_range_413 rfl (lv_at hl 4 rfl) ?_
          refine wq_callv (wc := [(g0, .inr (2, [.int th, .ref r1, .ref r2, .long fa, .long fb, .int ft, .long xl, .long xh, .long yl, .long yh]))]) (wr := []) (w2 := [(g0, .inr (2, [.int th, .ref r1, .ref r2, .long (-9223372036854775808 : Int64), .long (9223372036854775807 : Int64), .int ft, .long xl, .long xh, .long yl, .long yh]))]) (va_runV (As := []) (rest := []) ⟨hx, hb, hml, hown, hts⟩ (c_X3_all l dC dI g0 r1 r2 s.heap.size th fa fb ft xl xh yl yh) (cwV 0 hts (gz_l gX3_range_X3_all) rfl rfl rfl ydV_X3_all ⟨Nat.le_of_ble_eq_true rfl, Nat.le_of_ble_eq_true rfl⟩) (wp_V (hK.sub (tys' := []) [] rfl) (hP.sub (ws' := [(g0, .inr (2, [.int th, .ref r1, .ref r2, .long fa, .long fb, .int ft, .long xl, .long xh, .long yl, .long yh]))]) [0] rfl) (hD.sub (ws' := [(g0, .inr (2, [.int th, .ref r1, .ref r2, .long fa, .long fb, .int ft, .long xl, .long xh, .long yl, .long yh]))]) [0] (by decide) rfl)  rfl rfl) rfl rfl hl.1 rfl (lv_room (Nat.le_of_ble_eq_true rfl)) dX3_range_414 ⟨Nat.le_of_ble_eq_true rfl, Nat.le_of_ble_eq_true rfl⟩) hP hD hS hA [0] [] [0] rfl rfl rfl (by decide) rfl rfl (fun H locs hP hD hS => ?_)
          refine W.widen (k := 4) (n := 24) (by omega) (by omega) ?_
          have es : (s_X3_range ft p0 p1 p2 p3 p4 p5) = ((-9223372036854775808 : Int64), (9223372036854775807 : Int64), ft) := by unfold s_X3_range; rw [if_neg c1, if_pos c63, if_neg c64, if_neg c65, if_neg c66, if_neg c67, if_neg c68, if_neg c69, if_neg c71, if_neg c73, if_neg c74, if_neg c75, if_pos c76]
          exact W.vret hx hb hr (fun t ht hW => by rw [es]; exact ⟨rfl, by rw [ht]; exact hP, hD, hS.F ht⟩) hS.2.2 dX3_range_417
        by_cases c77 : p0 = (10 : Int32)
        · refine lv_tableIn (off := 367) (tgt := 418) hx hb dX3_range_51 (by rw [c77]; decide) (by rw [c77]; decide) (by rw [c77]; decide) (by decide) ?_
          refine lv_iload hx hb dX3_range_418 (lv_at hl 1 rfl) ?_
          refine lv_if_eq (tgt := 473) hx hb dX3_range_420 (by decide) (fun _ => ?_) (fun h => absurd (by decide) h)
          refine lv_iload hx hb dX3_range_473 (lv_at hl 3 rfl) ?_
          refine lv_if_eq (tgt := 488) hx hb dX3_range_475 (by decide) (fun h => absurd h (by decide)) (fun _ => ?_)
          refine lv_aload_n hx hb dX3_range_478 rfl (lv_at hl 4 rfl) ?_
          refine lv_lconst (v := (0 : Int64)) hx hb dX3_range_479 (by decide) ?_
          refine lv_lload hx hb dX3_range_480 (lv_at hl 7 rfl) ?_
          refine wq_callv (wc := [(g0, .inr (2, [.int th, .ref r1, .ref r2, .long fa, .long fb, .int ft, .long xl, .long xh, .long yl, .long yh]))]) (wr := []) (w2 := [(g0, .inr (2, [.int th, .ref r1, .ref r2, .long (0 : Int64), .long p2, .int ft, .long xl, .long xh, .long yl, .long yh]))]) (va_runV (As := [.long (0 : Int64), .long p2]) (rest := []) ⟨hx, hb, hml, hown, hts⟩ (c_X3_between l dC dI g0 r1 r2 s.heap.size th fa fb ft xl xh yl yh (0 : Int64) p2) (cwV 2 hts (gz_l gX3_range_X3_between) rfl rfl rfl ydV_X3_between ⟨Nat.le_of_ble_eq_true rfl, Nat.le_of_ble_eq_true rfl⟩) (wp_V (hK.sub (tys' := []) [] rfl) (hP.sub (ws' := [(g0, .inr (2, [.int th, .ref r1, .ref r2, .long fa, .long fb, .int ft, .long xl, .long xh, .long yl, .long yh]))]) [0] rfl) (hD.sub (ws' := [(g0, .inr (2, [.int th, .ref r1, .ref r2, .long fa, .long fb, .int ft, .long xl, .long xh, .long yl, .long yh]))]) [0] (by decide) rfl)  rfl rfl) rfl rfl hl.1 rfl (lv_room (Nat.le_of_ble_eq_true rfl)) dX3_range_482 ⟨Nat.le_of_ble_eq_true rfl, Nat.le_of_ble_eq_true rfl⟩) hP hD hS hA [0] [] [0] rfl rfl rfl (by decide) rfl rfl (fun H locs hP hD hS => ?_)
          refine lv_goto (tgt := 492) hx hb dX3_range_485 (by decide) ?_
          refine W.widen (k := 4) (n := 24) (by omega) (by omega) ?_
          have es : (s_X3_range ft p0 p1 p2 p3 p4 p5) = ((0 : Int64), p2, ft) := by unfold s_X3_range; rw [if_neg c1, if_pos c63, if_neg c64, if_neg c65, if_neg c66, if_neg c67, if_neg c68, if_neg c69, if_neg c71, if_neg c73, if_neg c74, if_neg c75, if_neg c76, if_pos c77]
          exact W.vret hx hb hr (fun t ht hW => by rw [es]; exact ⟨rfl, by rw [ht]; exact hP, hD, hS.F ht⟩) hS.2.2 dX3_range_492
        by_cases c78 : p0 = (11 : Int32)
        · refine lv_tableIn (off := 442) (tgt := 493) hx hb dX3_range_51 (by rw [c78]; decide) (by rw [c78]; decide) (by rw [c78]; decide) (by decide) ?_
          refine lv_iload hx hb dX3_range_493 (lv_at hl 1 rfl) ?_
          refine lv_if_eq (tgt := 514) hx hb dX3_range_495 (by decide) (fun _ => ?_) (fun h => absurd (by decide) h)
          refine lv_iload hx hb dX3_range_514 (lv_at hl 3 rfl) ?_
          refine lv_if_eq (tgt := 529) hx hb dX3_range_516 (by decide) (fun h => absurd h (by decide)) (fun _ => ?_)
          refine lv_aload_n hx hb dX3_range_519 rfl (lv_at hl 4 rfl) ?_
          refine lv_lconst (v := (0 : Int64)) hx hb dX3_range_520 (by decide) ?_
          refine lv_lload hx hb dX3_range_521 (lv_at hl 7 rfl) ?_
          refine wq_callv (wc := [(g0, .inr (2, [.int th, .ref r1, .ref r2, .long fa, .long fb, .int ft, .long xl, .long xh, .long yl, .long yh]))]) (wr := []) (w2 := [(g0, .inr (2, [.int th, .ref r1, .ref r2, .long (0 : Int64), .long p2, .int ft, .long xl, .long xh, .long yl, .long yh]))]) (va_runV (As := [.long (0 : Int64), .long p2]) (rest := []) ⟨hx, hb, hml, hown, hts⟩ (c_X3_between l dC dI g0 r1 r2 s.heap.size th fa fb ft xl xh yl yh (0 : Int64) p2) (cwV 2 hts (gz_l gX3_range_X3_between) rfl rfl rfl ydV_X3_between ⟨Nat.le_of_ble_eq_true rfl, Nat.le_of_ble_eq_true rfl⟩) (wp_V (hK.sub (tys' := []) [] rfl) (hP.sub (ws' := [(g0, .inr (2, [.int th, .ref r1, .ref r2, .long fa, .long fb, .int ft, .long xl, .long xh, .long yl, .long yh]))]) [0] rfl) (hD.sub (ws' := [(g0, .inr (2, [.int th, .ref r1, .ref r2, .long fa, .long fb, .int ft, .long xl, .long xh, .long yl, .long yh]))]) [0] (by decide) rfl)  rfl rfl) rfl rfl hl.1 rfl (lv_room (Nat.le_of_ble_eq_true rfl)) dX3_range_523 ⟨Nat.le_of_ble_eq_true rfl, Nat.le_of_ble_eq_true rfl⟩) hP hD hS hA [0] [] [0] rfl rfl rfl (by decide) rfl rfl (fun H locs hP hD hS => ?_)
          refine lv_goto (tgt := 533) hx hb dX3_range_526 (by decide) ?_
          refine W.widen (k := 4) (n := 24) (by omega) (by omega) ?_
          have es : (s_X3_range ft p0 p1 p2 p3 p4 p5) = ((0 : Int64), p2, ft) := by unfold s_X3_range; rw [if_neg c1, if_pos c63, if_neg c64, if_neg c65, if_neg c66, if_neg c67, if_neg c68, if_neg c69, if_neg c71, if_neg c73, if_neg c74, if_neg c75, if_neg c76, if_neg c77, if_pos c78]
          exact W.vret hx hb hr (fun t ht hW => by rw [es]; exact ⟨rfl, by rw [ht]; exact hP, hD, hS.F ht⟩) hS.2.2 dX3_range_533
        refine lv_tableOut (tgt := 534) hx hb dX3_range_51 (by have h0 := lv_neT c65 (a := 0) rfl; have h1 := lv_neT c66 (a := 1) rfl; have h2 := lv_neT c67 (a := 2) rfl; have h3 := lv_neT c68 (a := 3) rfl; have h4 := lv_neT c69 (a := 4) rfl; have h5 := lv_neT c71 (a := 5) rfl; have h6 := lv_neT c73 (a := 6) rfl; have h7 := lv_neT c74 (a := 7) rfl; have h8 := lv_neT c75 (a := 8) rfl; have h9 := lv_neT c76 (a := 9) rfl; have h10 := lv_neT c77 (a := 10) rfl; have h11 := lv_neT c78 (a := 11) rfl; omega) (by decide) ?_
        refine lv_aload_n hx hb dX3_range_534 rfl (lv_at hl 4 rfl) ?_
        refine lv_iconst (v := (2 : Int32)) hx hb dX3_range_535 (by decide) ?_
        refine lv_lconst (v := (0 : Int64)) hx hb dX3_range_536 (by decide) ?_
        refine lv_lconst (v := (0 : Int64)) hx hb dX3_range_537 (by decide) ?_
        refine lv_lload_n hx hb dX3_range_538 rfl (lv_at hl 6 rfl) ?_
        refine lv_lload hx hb dX3_range_539 (lv_at hl 7 rfl) ?_
        refine wq_callv (wc := [(g0, .inr (2, [.int th, .ref r1, .ref r2, .long fa, .long fb, .int ft, .long xl, .long xh, .long yl, .long yh]))]) (wr := []) (w2 := [(g0, .inr (2, [.int th, .ref r1, .ref r2, .long ((s_X3_ends (2 : Int32) (0 : Int64) (0 : Int64) p1 p2).1), .long ((s_X3_ends (2 : Int32) (0 : Int64) (0 : Int64) p1 p2).2.1), .int ((s_X3_ends (2 : Int32) (0 : Int64) (0 : Int64) p1 p2).2.2), .long xl, .long xh, .long yl, .long yh]))]) (va_runV (As := [.int (2 : Int32), .long (0 : Int64), .long (0 : Int64), .long p1, .long p2]) (rest := []) ⟨hx, hb, hml, hown, hts⟩ (c_X3_ends l S0 hst dC dI g0 r1 r2 s.heap.size th fa fb ft xl xh yl yh (2 : Int32) (0 : Int64) (0 : Int64) p1 p2 (fun q h => hS1 q (va_free (wc := [(g0, .inr (2, [.int th, .ref r1, .ref r2, .long fa, .long fb, .int ft, .long xl, .long xh, .long yl, .long yh]))]) hD hS hA [0] rfl q h))) (cwV 5 hts (gz_V wz_A_good gX3_range_X3_ends) rfl rfl rfl ydV_X3_ends ⟨Nat.le_of_ble_eq_true rfl, Nat.le_of_ble_eq_true rfl⟩) (twp_V (hK.sub (tys' := []) [] rfl) (hP.sub (ws' := [(g0, .inr (2, [.int th, .ref r1, .ref r2, .long fa, .long fb, .int ft, .long xl, .long xh, .long yl, .long yh]))]) [0] rfl) (hD.sub (ws' := [(g0, .inr (2, [.int th, .ref r1, .ref r2, .long fa, .long fb, .int ft, .long xl, .long xh, .long yl, .long yh]))]) [0] (by decide) rfl) ham rfl rfl) rfl rfl hl.1 rfl (lv_room (Nat.le_of_ble_eq_true rfl)) dX3_range_541 ⟨Nat.le_of_ble_eq_true rfl, Nat.le_of_ble_eq_true rfl⟩) hP hD hS hA [0] [] [0] rfl rfl rfl (by decide) rfl rfl (fun H locs hP hD hS => ?_)
        have es : (s_X3_range ft p0 p1 p2 p3 p4 p5) = ((s_X3_ends (2 : Int32) (0 : Int64) (0 : Int64) p1 p2).1, (s_X3_ends (2 : Int32) (0 : Int64) (0 : Int64) p1 p2).2.1, (s_X3_ends (2 : Int32) (0 : Int64) (0 : Int64) p1 p2).2.2) := by unfold s_X3_range; rw [if_neg c1, if_pos c63, if_neg c64, if_neg c65, if_neg c66, if_neg c67, if_neg c68, if_neg c69, if_neg c71, if_neg c73, if_neg c74, if_neg c75, if_neg c76, if_neg c77, if_neg c78]
        exact W.vret hx hb hr (fun t ht hW => by rw [es]; exact ⟨rfl, by rw [ht]; exact hP, hD, hS.F ht⟩) hS.2.2 dX3_range_544
      · refine lv_iconst (v := (1 : Int32)) hx hb dX3_range_35 (by decide) ?_
        refine lv_goto (tgt := 40) hx hb dX3_range_36 (by decide) ?_
        refine lv_istore (lv' := [(13, .int (1 : Int32)), (12, .int (0 : Int32)), (11, .int (1 : Int32)), (0, .ref g0), (1, .int p0), (2, .long p1), (4, .long p2), (6, .long p3), (8, .long p4), (10, .int p5)]) hx hb dX3_range_40 hl (by decide) rfl (fun ls hl => ?_)
        refine lv_lload hx hb dX3_range_42 (lv_at hl 7 rfl) ?_
        refine lv_l2i (v := p3.toInt32) hx hb dX3_range_44 rfl ?_
        refine lv_iload hx hb dX3_range_45 (lv_at hl 9 rfl) ?_
        refine lv_iand hx hb dX3_range_47 ?_
        refine lv_istore (lv' := [(14, .int (p3.toInt32 &&& p5)), (13, .int (1 : Int32)), (12, .int (0 : Int32)), (11, .int (1 : Int32)), (0, .ref g0), (1, .int p0), (2, .long p1), (4, .long p2), (6, .long p3), (8, .long p4), (10, .int p5)]) hx hb dX3_range_48 hl (by decide) rfl (fun ls hl => ?_)
        refine lv_iload_n hx hb dX3_range_50 rfl (lv_at hl 5 rfl) ?_
        by_cases c79 : p0 = (0 : Int32)
        · refine lv_tableIn (off := 61) (tgt := 112) hx hb dX3_range_51 (by rw [c79]; decide) (by rw [c79]; decide) (by rw [c79]; decide) (by decide) ?_
          refine lv_aload_n hx hb dX3_range_112 rfl (lv_at hl 4 rfl) ?_
          refine lv_lload hx hb dX3_range_113 (lv_at hl 8 rfl) ?_
          refine lv_lload hx hb dX3_range_115 (lv_at hl 9 rfl) ?_
          refine wq_callv (wc := [(g0, .inr (2, [.int th, .ref r1, .ref r2, .long fa, .long fb, .int ft, .long xl, .long xh, .long yl, .long yh]))]) (wr := []) (w2 := [(g0, .inr (2, [.int th, .ref r1, .ref r2, .long p3, .long p4, .int ft, .long xl, .long xh, .long yl, .long yh]))]) (va_runV (As := [.long p3, .long p4]) (rest := []) ⟨hx, hb, hml, hown, hts⟩ (c_X3_between l dC dI g0 r1 r2 s.heap.size th fa fb ft xl xh yl yh p3 p4) (cwV 2 hts (gz_l gX3_range_X3_between) rfl rfl rfl ydV_X3_between ⟨Nat.le_of_ble_eq_true rfl, Nat.le_of_ble_eq_true rfl⟩) (wp_V (hK.sub (tys' := []) [] rfl) (hP.sub (ws' := [(g0, .inr (2, [.int th, .ref r1, .ref r2, .long fa, .long fb, .int ft, .long xl, .long xh, .long yl, .long yh]))]) [0] rfl) (hD.sub (ws' := [(g0, .inr (2, [.int th, .ref r1, .ref r2, .long fa, .long fb, .int ft, .long xl, .long xh, .long yl, .long yh]))]) [0] (by decide) rfl)  rfl rfl) rfl rfl hl.1 rfl (lv_room (Nat.le_of_ble_eq_true rfl)) dX3_range_117 ⟨Nat.le_of_ble_eq_true rfl, Nat.le_of_ble_eq_true rfl⟩) hP hD hS hA [0] [] [0] rfl rfl rfl (by decide) rfl rfl (fun H locs hP hD hS => ?_)
          refine W.widen (k := 4) (n := 24) (by omega) (by omega) ?_
          have es : (s_X3_range ft p0 p1 p2 p3 p4 p5) = (p3, p4, ft) := by unfold s_X3_range; rw [if_neg c1, if_pos c63, if_pos c64, if_pos c79]
          exact W.vret hx hb hr (fun t ht hW => by rw [es]; exact ⟨rfl, by rw [ht]; exact hP, hD, hS.F ht⟩) hS.2.2 dX3_range_120
        by_cases c80 : p0 = (1 : Int32)
        · refine lv_tableIn (off := 70) (tgt := 121) hx hb dX3_range_51 (by rw [c80]; decide) (by rw [c80]; decide) (by rw [c80]; decide) (by decide) ?_
          refine lv_aload_n hx hb dX3_range_121 rfl (lv_at hl 4 rfl) ?_
          refine lv_iload_n hx hb dX3_range_122 rfl (lv_at hl 5 rfl) ?_
          refine lv_lload_n hx hb dX3_range_123 rfl (lv_at hl 6 rfl) ?_
          refine lv_lload hx hb dX3_range_124 (lv_at hl 7 rfl) ?_
          refine lv_lload hx hb dX3_range_126 (lv_at hl 8 rfl) ?_
          refine lv_lload hx hb dX3_range_128 (lv_at hl 9 rfl) ?_
          refine wq_callv (wc := [(g0, .inr (2, [.int th, .ref r1, .ref r2, .long fa, .long fb, .int ft, .long xl, .long xh, .long yl, .long yh]))]) (wr := []) (w2 := [(g0, .inr (2, [.int th, .ref r1, .ref r2, .long ((s_X3_ends p0 p1 p2 p3 p4).1), .long ((s_X3_ends p0 p1 p2 p3 p4).2.1), .int ((s_X3_ends p0 p1 p2 p3 p4).2.2), .long xl, .long xh, .long yl, .long yh]))]) (va_runV (As := [.int p0, .long p1, .long p2, .long p3, .long p4]) (rest := []) ⟨hx, hb, hml, hown, hts⟩ (c_X3_ends l S0 hst dC dI g0 r1 r2 s.heap.size th fa fb ft xl xh yl yh p0 p1 p2 p3 p4 (fun q h => hS1 q (va_free (wc := [(g0, .inr (2, [.int th, .ref r1, .ref r2, .long fa, .long fb, .int ft, .long xl, .long xh, .long yl, .long yh]))]) hD hS hA [0] rfl q h))) (cwV 5 hts (gz_V wz_A_good gX3_range_X3_ends) rfl rfl rfl ydV_X3_ends ⟨Nat.le_of_ble_eq_true rfl, Nat.le_of_ble_eq_true rfl⟩) (twp_V (hK.sub (tys' := []) [] rfl) (hP.sub (ws' := [(g0, .inr (2, [.int th, .ref r1, .ref r2, .long fa, .long fb, .int ft, .long xl, .long xh, .long yl, .long yh]))]) [0] rfl) (hD.sub (ws' := [(g0, .inr (2, [.int th, .ref r1, .ref r2, .long fa, .long fb, .int ft, .long xl, .long xh, .long yl, .long yh]))]) [0] (by decide) rfl) ham rfl rfl) rfl rfl hl.1 rfl (lv_room (Nat.le_of_ble_eq_true rfl)) dX3_range_130 ⟨Nat.le_of_ble_eq_true rfl, Nat.le_of_ble_eq_true rfl⟩) hP hD hS hA [0] [] [0] rfl rfl rfl (by decide) rfl rfl (fun H locs hP hD hS => ?_)
          have es : (s_X3_range ft p0 p1 p2 p3 p4 p5) = ((s_X3_ends p0 p1 p2 p3 p4).1, (s_X3_ends p0 p1 p2 p3 p4).2.1, (s_X3_ends p0 p1 p2 p3 p4).2.2) := by unfold s_X3_range; rw [if_neg c1, if_pos c63, if_pos c64, if_neg c79, if_pos c80]
          exact W.vret hx hb hr (fun t ht hW => by rw [es]; exact ⟨rfl, by rw [ht]; exact hP, hD, hS.F ht⟩) hS.2.2 dX3_range_133
        by_cases c81 : p0 = (2 : Int32)
        · refine lv_tableIn (off := 70) (tgt := 121) hx hb dX3_range_51 (by rw [c81]; decide) (by rw [c81]; decide) (by rw [c81]; decide) (by decide) ?_
          refine lv_aload_n hx hb dX3_range_121 rfl (lv_at hl 4 rfl) ?_
          refine lv_iload_n hx hb dX3_range_122 rfl (lv_at hl 5 rfl) ?_
          refine lv_lload_n hx hb dX3_range_123 rfl (lv_at hl 6 rfl) ?_
          refine lv_lload hx hb dX3_range_124 (lv_at hl 7 rfl) ?_
          refine lv_lload hx hb dX3_range_126 (lv_at hl 8 rfl) ?_
          refine lv_lload hx hb dX3_range_128 (lv_at hl 9 rfl) ?_
          refine wq_callv (wc := [(g0, .inr (2, [.int th, .ref r1, .ref r2, .long fa, .long fb, .int ft, .long xl, .long xh, .long yl, .long yh]))]) (wr := []) (w2 := [(g0, .inr (2, [.int th, .ref r1, .ref r2, .long ((s_X3_ends p0 p1 p2 p3 p4).1), .long ((s_X3_ends p0 p1 p2 p3 p4).2.1), .int ((s_X3_ends p0 p1 p2 p3 p4).2.2), .long xl, .long xh, .long yl, .long yh]))]) (va_runV (As := [.int p0, .long p1, .long p2, .long p3, .long p4]) (rest := []) ⟨hx, hb, hml, hown, hts⟩ (c_X3_ends l S0 hst dC dI g0 r1 r2 s.heap.size th fa fb ft xl xh yl yh p0 p1 p2 p3 p4 (fun q h => hS1 q (va_free (wc := [(g0, .inr (2, [.int th, .ref r1, .ref r2, .long fa, .long fb, .int ft, .long xl, .long xh, .long yl, .long yh]))]) hD hS hA [0] rfl q h))) (cwV 5 hts (gz_V wz_A_good gX3_range_X3_ends) rfl rfl rfl ydV_X3_ends ⟨Nat.le_of_ble_eq_true rfl, Nat.le_of_ble_eq_true rfl⟩) (twp_V (hK.sub (tys' := []) [] rfl) (hP.sub (ws' := [(g0, .inr (2, [.int th, .ref r1, .ref r2, .long fa, .long fb, .int ft, .long xl, .long xh, .long yl, .long yh]))]) [0] rfl) (hD.sub (ws' := [(g0, .inr (2, [.int th, .ref r1, .ref r2, .long fa, .long fb, .int ft, .long xl, .long xh, .long yl, .long yh]))]) [0] (by decide) rfl) ham rfl rfl) rfl rfl hl.1 rfl (lv_room (Nat.le_of_ble_eq_true rfl)) dX3_range_130 ⟨Nat.le_of_ble_eq_true rfl, Nat.le_of_ble_eq_true rfl⟩) hP hD hS hA [0] [] [0] rfl rfl rfl (by decide) rfl rfl (fun H locs hP hD hS => ?_)
          have es : (s_X3_range ft p0 p1 p2 p3 p4 p5) = ((s_X3_ends p0 p1 p2 p3 p4).1, (s_X3_ends p0 p1 p2 p3 p4).2.1, (s_X3_ends p0 p1 p2 p3 p4).2.2) := by unfold s_X3_range; rw [if_neg c1, if_pos c63, if_pos c64, if_neg c79, if_neg c80, if_pos c81]
          exact W.vret hx hb hr (fun t ht hW => by rw [es]; exact ⟨rfl, by rw [ht]; exact hP, hD, hS.F ht⟩) hS.2.2 dX3_range_133
        by_cases c82 : p0 = (3 : Int32)
        · refine lv_tableIn (off := 70) (tgt := 121) hx hb dX3_range_51 (by rw [c82]; decide) (by rw [c82]; decide) (by rw [c82]; decide) (by decide) ?_
          refine lv_aload_n hx hb dX3_range_121 rfl (lv_at hl 4 rfl) ?_
          refine lv_iload_n hx hb dX3_range_122 rfl (lv_at hl 5 rfl) ?_
          refine lv_lload_n hx hb dX3_range_123 rfl (lv_at hl 6 rfl) ?_
          refine lv_lload hx hb dX3_range_124 (lv_at hl 7 rfl) ?_
          refine lv_lload hx hb dX3_range_126 (lv_at hl 8 rfl) ?_
          refine lv_lload hx hb dX3_range_128 (lv_at hl 9 rfl) ?_
          refine wq_callv (wc := [(g0, .inr (2, [.int th, .ref r1, .ref r2, .long fa, .long fb, .int ft, .long xl, .long xh, .long yl, .long yh]))]) (wr := []) (w2 := [(g0, .inr (2, [.int th, .ref r1, .ref r2, .long ((s_X3_ends p0 p1 p2 p3 p4).1), .long ((s_X3_ends p0 p1 p2 p3 p4).2.1), .int ((s_X3_ends p0 p1 p2 p3 p4).2.2), .long xl, .long xh, .long yl, .long yh]))]) (va_runV (As := [.int p0, .long p1, .long p2, .long p3, .long p4]) (rest := []) ⟨hx, hb, hml, hown, hts⟩ (c_X3_ends l S0 hst dC dI g0 r1 r2 s.heap.size th fa fb ft xl xh yl yh p0 p1 p2 p3 p4 (fun q h => hS1 q (va_free (wc := [(g0, .inr (2, [.int th, .ref r1, .ref r2, .long fa, .long fb, .int ft, .long xl, .long xh, .long yl, .long yh]))]) hD hS hA [0] rfl q h))) (cwV 5 hts (gz_V wz_A_good gX3_range_X3_ends) rfl rfl rfl ydV_X3_ends ⟨Nat.le_of_ble_eq_true rfl, Nat.le_of_ble_eq_true rfl⟩) (twp_V (hK.sub (tys' := []) [] rfl) (hP.sub (ws' := [(g0, .inr (2, [.int th, .ref r1, .ref r2, .long fa, .long fb, .int ft, .long xl, .long xh, .long yl, .long yh]))]) [0] rfl) (hD.sub (ws' := [(g0, .inr (2, [.int th, .ref r1, .ref r2, .long fa, .long fb, .int ft, .long xl, .long xh, .long yl, .long yh]))]) [0] (by decide) rfl) ham rfl rfl) rfl rfl hl.1 rfl (lv_room (Nat.le_of_ble_eq_true rfl)) dX3_range_130 ⟨Nat.le_of_ble_eq_true rfl, Nat.le_of_ble_eq_true rfl⟩) hP hD hS hA [0] [] [0] rfl rfl rfl (by decide) rfl rfl (fun H locs hP hD hS => ?_)
          have es : (s_X3_range ft p0 p1 p2 p3 p4 p5) = ((s_X3_ends p0 p1 p2 p3 p4).1, (s_X3_ends p0 p1 p2 p3 p4).2.1, (s_X3_ends p0 p1 p2 p3 p4).2.2) := by unfold s_X3_range; rw [if_neg c1, if_pos c63, if_pos c64, if_neg c79, if_neg c80, if_neg c81, if_pos c82]
          exact W.vret hx hb hr (fun t ht hW => by rw [es]; exact ⟨rfl, by rw [ht]; exact hP, hD, hS.F ht⟩) hS.2.2 dX3_range_133
        by_cases c83 : p0 = (4 : Int32)
        · refine lv_tableIn (off := 83) (tgt := 134) hx hb dX3_range_51 (by rw [c83]; decide) (by rw [c83]; decide) (by rw [c83]; decide) (by decide) ?_
          refine lv_lload hx hb dX3_range_134 (lv_at hl 8 rfl) ?_
          refine lv_lconst (v := (0 : Int64)) hx hb dX3_range_136 (by decide) ?_
          refine pl_le (tgt := 162) hx hb dX3_range_137 dX3_range_138 (by decide) (fun c84 => ?_) (fun c84 => ?_)
          · refine lv_iload hx hb dX3_range_162 (lv_at hl 3 rfl) ?_
            refine lv_if_eq (tgt := 182) hx hb dX3_range_164 (by decide) (fun h => absurd h (by decide)) (fun _ => ?_)
            refine lv_iload hx hb dX3_range_167 (lv_at hl 2 rfl) ?_
            refine lv_if_eq (tgt := 182) hx hb dX3_range_169 (by decide) (fun _ => ?_) (fun h => absurd (by decide) h)
            refine lv_aload_n hx hb dX3_range_182 rfl (lv_at hl 4 rfl) ?_
            refine wq_callv (wc := [(g0, .inr (2, [.int th, .ref r1, .ref r2, .long fa, .long fb, .int ft, .long xl, .long xh, .long yl, .long yh]))]) (wr := []) (w2 := [(g0, .inr (2, [.int th, .ref r1, .ref r2, .long (-9223372036854775808 : Int64), .long (9223372036854775807 : Int64), .int ft, .long xl, .long xh, .long yl, .long yh]))]) (va_runV (As := []) (rest := []) ⟨hx, hb, hml, hown, hts⟩ (c_X3_all l dC dI g0 r1 r2 s.heap.size th fa fb ft xl xh yl yh) (cwV 0 hts (gz_l gX3_range_X3_all) rfl rfl rfl ydV_X3_all ⟨Nat.le_of_ble_eq_true rfl, Nat.le_of_ble_eq_true rfl⟩) (wp_V (hK.sub (tys' := []) [] rfl) (hP.sub (ws' := [(g0, .inr (2, [.int th, .ref r1, .ref r2, .long fa, .long fb, .int ft, .long xl, .long xh, .long yl, .long yh]))]) [0] rfl) (hD.sub (ws' := [(g0, .inr (2, [.int th, .ref r1, .ref r2, .long fa, .long fb, .int ft, .long xl, .long xh, .long yl, .long yh]))]) [0] (by decide) rfl)  rfl rfl) rfl rfl hl.1 rfl (lv_room (Nat.le_of_ble_eq_true rfl)) dX3_range_183 ⟨Nat.le_of_ble_eq_true rfl, Nat.le_of_ble_eq_true rfl⟩) hP hD hS hA [0] [] [0] rfl rfl rfl (by decide) rfl rfl (fun H locs hP hD hS => ?_)
            refine W.widen (k := 4) (n := 24) (by omega) (by omega) ?_
            have es : (s_X3_range ft p0 p1 p2 p3 p4 p5) = ((-9223372036854775808 : Int64), (9223372036854775807 : Int64), ft) := by unfold s_X3_range; rw [if_neg c1, if_pos c63, if_pos c64, if_neg c79, if_neg c80, if_neg c81, if_neg c82, if_pos c83, if_neg c84]
            exact W.vret hx hb hr (fun t ht hW => by rw [es]; exact ⟨rfl, by rw [ht]; exact hP, hD, hS.F ht⟩) hS.2.2 dX3_range_186
          · refine lv_iload hx hb dX3_range_141 (lv_at hl 3 rfl) ?_
            refine lv_if_eq (tgt := 162) hx hb dX3_range_143 (by decide) (fun h => absurd h (by decide)) (fun _ => ?_)
            refine lv_aload_n hx hb dX3_range_146 rfl (lv_at hl 4 rfl) ?_
            refine lv_lload_n hx hb dX3_range_147 rfl (lv_at hl 6 rfl) ?_
            refine lv_lload hx hb dX3_range_148 (lv_at hl 9 rfl) ?_
            refine lv_ldiv hx hb dX3_range_150 (nz_up c84 hrg) ?_
            refine lv_lload hx hb dX3_range_151 (lv_at hl 7 rfl) ?_
            refine lv_lload hx hb dX3_range_153 (lv_at hl 8 rfl) ?_
            refine lv_ldiv hx hb dX3_range_155 (nz_pos c84) ?_
            refine wq_callv (wc := [(g0, .inr (2, [.int th, .ref r1, .ref r2, .long fa, .long fb, .int ft, .long xl, .long xh, .long yl, .long yh]))]) (wr := []) (w2 := [(g0, .inr (2, [.int th, .ref r1, .ref r2, .long (p1 / p4), .long (p2 / p3), .int ft, .long xl, .long xh, .long yl, .long yh]))]) (va_runV (As := [.long (p1 / p4), .long (p2 / p3)]) (rest := []) ⟨hx, hb, hml, hown, hts⟩ (c_X3_between l dC dI g0 r1 r2 s.heap.size th fa fb ft xl xh yl yh (p1 / p4) (p2 / p3)) (cwV 2 hts (gz_l gX3_range_X3_between) rfl rfl rfl ydV_X3_between ⟨Nat.le_of_ble_eq_true rfl, Nat.le_of_ble_eq_true rfl⟩) (wp_V (hK.sub (tys' := []) [] rfl) (hP.sub (ws' := [(g0, .inr (2, [.int th, .ref r1, .ref r2, .long fa, .long fb, .int ft, .long xl, .long xh, .long yl, .long yh]))]) [0] rfl) (hD.sub (ws' := [(g0, .inr (2, [.int th, .ref r1, .ref r2, .long fa, .long fb, .int ft, .long xl, .long xh, .long yl, .long yh]))]) [0] (by decide) rfl)  rfl rfl) rfl rfl hl.1 rfl (lv_room (Nat.le_of_ble_eq_true rfl)) dX3_range_156 ⟨Nat.le_of_ble_eq_true rfl, Nat.le_of_ble_eq_true rfl⟩) hP hD hS hA [0] [] [0] rfl rfl rfl (by decide) rfl rfl (fun H locs hP hD hS => ?_)
            refine lv_goto (tgt := 186) hx hb dX3_range_159 (by decide) ?_
            refine W.widen (k := 4) (n := 24) (by omega) (by omega) ?_
            have es : (s_X3_range ft p0 p1 p2 p3 p4 p5) = ((p1 / p4), (p2 / p3), ft) := by unfold s_X3_range; rw [if_neg c1, if_pos c63, if_pos c64, if_neg c79, if_neg c80, if_neg c81, if_neg c82, if_pos c83, if_pos c84]
            exact W.vret hx hb hr (fun t ht hW => by rw [es]; exact ⟨rfl, by rw [ht]; exact hP, hD, hS.F ht⟩) hS.2.2 dX3_range_186
        by_cases c85 : p0 = (5 : Int32)
        · refine lv_tableIn (off := 136) (tgt := 187) hx hb dX3_range_51 (by rw [c85]; decide) (by rw [c85]; decide) (by rw [c85]; decide) (by decide) ?_
          refine lv_lload hx hb dX3_range_187 (lv_at hl 8 rfl) ?_
          refine lv_lconst (v := (0 : Int64)) hx hb dX3_range_189 (by decide) ?_
          refine pl_le (tgt := 216) hx hb dX3_range_190 dX3_range_191 (by decide) (fun c86 => ?_) (fun c86 => ?_)
          · refine lv_iload hx hb dX3_range_216 (lv_at hl 3 rfl) ?_
            refine lv_if_eq (tgt := 236) hx hb dX3_range_218 (by decide) (fun h => absurd h (by decide)) (fun _ => ?_)
            refine lv_iload hx hb dX3_range_221 (lv_at hl 2 rfl) ?_
            refine lv_if_eq (tgt := 236) hx hb dX3_range_223 (by decide) (fun _ => ?_) (fun h => absurd (by decide) h)
            refine lv_aload_n hx hb dX3_range_236 rfl (lv_at hl 4 rfl) ?_
            refine wq_callv (wc := [(g0, .inr (2, [.int th, .ref r1, .ref r2, .long fa, .long fb, .int ft, .long xl, .long xh, .long yl, .long yh]))]) (wr := []) (w2 := [(g0, .inr (2, [.int th, .ref r1, .ref r2, .long (-9223372036854775808 : Int64), .long (9223372036854775807 : Int64), .int ft, .long xl, .long xh, .long yl, .long yh]))]) (va_runV (As := []) (rest := []) ⟨hx, hb, hml, hown, hts⟩ (c_X3_all l dC dI g0 r1 r2 s.heap.size th fa fb ft xl xh yl yh) (cwV 0 hts (gz_l gX3_range_X3_all) rfl rfl rfl ydV_X3_all ⟨Nat.le_of_ble_eq_true rfl, Nat.le_of_ble_eq_true rfl⟩) (wp_V (hK.sub (tys' := []) [] rfl) (hP.sub (ws' := [(g0, .inr (2, [.int th, .ref r1, .ref r2, .long fa, .long fb, .int ft, .long xl, .long xh, .long yl, .long yh]))]) [0] rfl) (hD.sub (ws' := [(g0, .inr (2, [.int th, .ref r1, .ref r2, .long fa, .long fb, .int ft, .long xl, .long xh, .long yl, .long yh]))]) [0] (by decide) rfl)  rfl rfl) rfl rfl hl.1 rfl (lv_room (Nat.le_of_ble_eq_true rfl)) dX3_range_237 ⟨Nat.le_of_ble_eq_true rfl, Nat.le_of_ble_eq_true rfl⟩) hP hD hS hA [0] [] [0] rfl rfl rfl (by decide) rfl rfl (fun H locs hP hD hS => ?_)
            refine W.widen (k := 4) (n := 24) (by omega) (by omega) ?_
            have es : (s_X3_range ft p0 p1 p2 p3 p4 p5) = ((-9223372036854775808 : Int64), (9223372036854775807 : Int64), ft) := by unfold s_X3_range; rw [if_neg c1, if_pos c63, if_pos c64, if_neg c79, if_neg c80, if_neg c81, if_neg c82, if_neg c83, if_pos c85, if_neg c86]
            exact W.vret hx hb hr (fun t ht hW => by rw [es]; exact ⟨rfl, by rw [ht]; exact hP, hD, hS.F ht⟩) hS.2.2 dX3_range_240
          · refine lv_iload hx hb dX3_range_194 (lv_at hl 3 rfl) ?_
            refine lv_if_eq (tgt := 216) hx hb dX3_range_196 (by decide) (fun h => absurd h (by decide)) (fun _ => ?_)
            refine lv_aload_n hx hb dX3_range_199 rfl (lv_at hl 4 rfl) ?_
            refine lv_lconst (v := (0 : Int64)) hx hb dX3_range_200 (by decide) ?_
            refine lv_lload hx hb dX3_range_201 (lv_at hl 7 rfl) ?_
            refine lv_lload hx hb dX3_range_203 (lv_at hl 9 rfl) ?_
            refine lv_lconst (v := (1 : Int64)) hx hb dX3_range_205 (by decide) ?_
            refine lv_lsub hx hb dX3_range_206 ?_
            refine pm_min hx hb (hml.trans hl.1.symm) hown hw1 hw2 hw3 hw4 (Nat.le_of_ble_eq_true rfl) (Nat.le_of_ble_eq_true rfl) (Nat.le_of_ble_eq_true rfl) (Nat.le_of_ble_eq_true rfl) dX3_range_207 ?_
            refine wq_callv (wc := [(g0, .inr (2, [.int th, .ref r1, .ref r2, .long fa, .long fb, .int ft, .long xl, .long xh, .long yl, .long yh]))]) (wr := []) (w2 := [(g0, .inr (2, [.int th, .ref r1, .ref r2, .long (0 : Int64), .long (pl_min p2 (p4 - (1 : Int64))), .int ft, .long xl, .long xh, .long yl, .long yh]))]) (va_runV (As := [.long (0 : Int64), .long (pl_min p2 (p4 - (1 : Int64)))]) (rest := []) ⟨hx, hb, hml, hown, hts⟩ (c_X3_between l dC dI g0 r1 r2 s.heap.size th fa fb ft xl xh yl yh (0 : Int64) (pl_min p2 (p4 - (1 : Int64)))) (cwV 2 hts (gz_l gX3_range_X3_between) rfl rfl rfl ydV_X3_between ⟨Nat.le_of_ble_eq_true rfl, Nat.le_of_ble_eq_true rfl⟩) (wp_V (hK.sub (tys' := []) [] rfl) (hP.sub (ws' := [(g0, .inr (2, [.int th, .ref r1, .ref r2, .long fa, .long fb, .int ft, .long xl, .long xh, .long yl, .long yh]))]) [0] rfl) (hD.sub (ws' := [(g0, .inr (2, [.int th, .ref r1, .ref r2, .long fa, .long fb, .int ft, .long xl, .long xh, .long yl, .long yh]))]) [0] (by decide) rfl)  rfl rfl) rfl rfl hl.1 rfl (lv_room (Nat.le_of_ble_eq_true rfl)) dX3_range_210 ⟨Nat.le_of_ble_eq_true rfl, Nat.le_of_ble_eq_true rfl⟩) hP hD hS hA [0] [] [0] rfl rfl rfl (by decide) rfl rfl (fun H locs hP hD hS => ?_)
            refine lv_goto (tgt := 240) hx hb dX3_range_213 (by decide) ?_
            refine W.widen (k := 4) (n := 24) (by omega) (by omega) ?_
            have es : (s_X3_range ft p0 p1 p2 p3 p4 p5) = ((0 : Int64), (pl_min p2 (p4 - (1 : Int64))), ft) := by unfold s_X3_range; rw [if_neg c1, if_pos c63, if_pos c64, if_neg c79, if_neg c80, if_neg c81, if_neg c82, if_neg c83, if_pos c85, if_pos c86]
            exact W.vret hx hb hr (fun t ht hW => by rw [es]; exact ⟨rfl, by rw [ht]; exact hP, hD, hS.F ht⟩) hS.2.2 dX3_range_240
        by_cases c87 : p0 = (6 : Int32)
        · refine lv_tableIn (off := 190) (tgt := 241) hx hb dX3_range_51 (by rw [c87]; decide) (by rw [c87]; decide) (by rw [c87]; decide) (by decide) ?_
          refine lv_iload hx hb dX3_range_241 (lv_at hl 3 rfl) ?_
          refine lv_if_ne (tgt := 251) hx hb dX3_range_243 (by decide) (fun _ => ?_) (fun h => absurd h (by decide))
          refine lv_aload_n hx hb dX3_range_251 rfl (lv_at hl 4 rfl) ?_
          refine lv_lconst (v := (0 : Int64)) hx hb dX3_range_252 (by decide) ?_
          refine lv_iload hx hb dX3_range_253 (lv_at hl 3 rfl) ?_
          refine lv_if_eq (tgt := 273) hx hb dX3_range_255 (by decide) (fun h => absurd h (by decide)) (fun _ => ?_)
          refine lv_iload hx hb dX3_range_258 (lv_at hl 2 rfl) ?_
          refine lv_if_eq (tgt := 273) hx hb dX3_range_260 (by decide) (fun _ => ?_) (fun h => absurd (by decide) h)
          refine lv_iload hx hb dX3_range_273 (lv_at hl 3 rfl) ?_
          refine lv_if_eq (tgt := 283) hx hb dX3_range_275 (by decide) (fun h => absurd h (by decide)) (fun _ => ?_)
          refine lv_lload hx hb dX3_range_278 (lv_at hl 7 rfl) ?_
          refine lv_goto (tgt := 285) hx hb dX3_range_280 (by decide) ?_
          refine wq_callv (wc := [(g0, .inr (2, [.int th, .ref r1, .ref r2, .long fa, .long fb, .int ft, .long xl, .long xh, .long yl, .long yh]))]) (wr := []) (w2 := [(g0, .inr (2, [.int th, .ref r1, .ref r2, .long (0 : Int64), .long p2, .int ft, .long xl, .long xh, .long yl, .long yh]))]) (va_runV (As := [.long (0 : Int64), .long p2]) (rest := []) ⟨hx, hb, hml, hown, hts⟩ (c_X3_between l dC dI g0 r1 r2 s.heap.size th fa fb ft xl xh yl yh (0 : Int64) p2) (cwV 2 hts (gz_l gX3_range_X3_between) rfl rfl rfl ydV_X3_between ⟨Nat.le_of_ble_eq_true rfl, Nat.le_of_ble_eq_true rfl⟩) (wp_V (hK.sub (tys' := []) [] rfl) (hP.sub (ws' := [(g0, .inr (2, [.int th, .ref r1, .ref r2, .long fa, .long fb, .int ft, .long xl, .long xh, .long yl, .long yh]))]) [0] rfl) (hD.sub (ws' := [(g0, .inr (2, [.int th, .ref r1, .ref r2, .long fa, .long fb, .int ft, .long xl, .long xh, .long yl, .long yh]))]) [0] (by decide) rfl)  rfl rfl) rfl rfl hl.1 rfl (lv_room (Nat.le_of_ble_eq_true rfl)) dX3_range_285 ⟨Nat.le_of_ble_eq_true rfl, Nat.le_of_ble_eq_true rfl⟩) hP hD hS hA [0] [] [0] rfl rfl rfl (by decide) rfl rfl (fun H locs hP hD hS => ?_)
          refine lv_goto (tgt := 295) hx hb dX3_range_288 (by decide) ?_
          refine W.widen (k := 4) (n := 24) (by omega) (by omega) ?_
          have es : (s_X3_range ft p0 p1 p2 p3 p4 p5) = ((0 : Int64), p2, ft) := by unfold s_X3_range; rw [if_neg c1, if_pos c63, if_pos c64, if_neg c79, if_neg c80, if_neg c81, if_neg c82, if_neg c83, if_neg c85, if_pos c87]
          exact W.vret hx hb hr (fun t ht hW => by rw [es]; exact ⟨rfl, by rw [ht]; exact hP, hD, hS.F ht⟩) hS.2.2 dX3_range_295
        by_cases c88 : p0 = (7 : Int32)
        · refine lv_tableIn (off := 245) (tgt := 296) hx hb dX3_range_51 (by rw [c88]; decide) (by rw [c88]; decide) (by rw [c88]; decide) (by decide) ?_
          refine lv_iload hx hb dX3_range_296 (lv_at hl 3 rfl) ?_
          refine lv_if_eq (tgt := 358) hx hb dX3_range_298 (by decide) (fun h => absurd h (by decide)) (fun _ => ?_)
          refine lv_iload hx hb dX3_range_301 (lv_at hl 2 rfl) ?_
          refine lv_if_eq (tgt := 358) hx hb dX3_range_303 (by decide) (fun _ => ?_) (fun h => absurd (by decide) h)
          refine lv_aload_n hx hb dX3_range_358 rfl (lv_at hl 4 rfl) ?_
          refine wq_callv (wc := [(g0, .inr (2, [.int th, .ref r1, .ref r2, .long fa, .long fb, .int ft, .long xl, .long xh, .long yl, .long yh]))]) (wr := []) (w2 := [(g0, .inr (2, [.int th, .ref r1, .ref r2, .long (-9223372036854775808 : Int64), .long (9223372036854775807 : Int64), .int ft, .long xl, .long xh, .long yl, .long yh]))]) (va_runV (As := []) (rest := []) ⟨hx, hb, hml, hown, hts⟩ (c_X3_all l dC dI g0 r1 r2 s.heap.size th fa fb ft xl xh yl yh) (cwV 0 hts (gz_l gX3_range_X3_all) rfl rfl rfl ydV_X3_all ⟨Nat.le_of_ble_eq_true rfl, Nat.le_of_ble_eq_true rfl⟩) (wp_V (hK.sub (tys' := []) [] rfl) (hP.sub (ws' := [(g0, .inr (2, [.int th, .ref r1, .ref r2, .long fa, .long fb, .int ft, .long xl, .long xh, .long yl, .long yh]))]) [0] rfl) (hD.sub (ws' := [(g0, .inr (2, [.int th, .ref r1, .ref r2, .long fa, .long fb, .int ft, .long xl, .long xh, .long yl, .long yh]))]) [0] (by decide) rfl)  rfl rfl) rfl rfl hl.1 rfl (lv_room (Nat.le_of_ble_eq_true rfl)) dX3_range_359 ⟨Nat.le_of_ble_eq_true rfl, Nat.le_of_ble_eq_true rfl⟩) hP hD hS hA [0] [] [0] rfl rfl rfl (by decide) rfl rfl (fun H locs hP hD hS => ?_)
          refine W.widen (k := 4) (n := 24) (by omega) (by omega) ?_
          have es : (s_X3_range ft p0 p1 p2 p3 p4 p5) = ((-9223372036854775808 : Int64), (9223372036854775807 : Int64), ft) := by unfold s_X3_range; rw [if_neg c1, if_pos c63, if_pos c64, if_neg c79, if_neg c80, if_neg c81, if_neg c82, if_neg c83, if_neg c85, if_neg c87, if_pos c88]
          exact W.vret hx hb hr (fun t ht hW => by rw [es]; exact ⟨rfl, by rw [ht]; exact hP, hD, hS.F ht⟩) hS.2.2 dX3_range_362
        by_cases c89 : p0 = (8 : Int32)
        · refine lv_tableIn (off := 245) (tgt := 296) hx hb dX3_range_51 (by rw [c89]; decide) (by rw [c89]; decide) (by rw [c89]; decide) (by decide) ?_
          refine lv_iload hx hb dX3_range_296 (lv_at hl 3 rfl) ?_
          refine lv_if_eq (tgt := 358) hx hb dX3_range_298 (by decide) (fun h => absurd h (by decide)) (fun _ => ?_)
          refine lv_iload hx hb dX3_range_301 (lv_at hl 2 rfl) ?_
          refine lv_if_eq (tgt := 358) hx hb dX3_range_303 (by decide) (fun _ => ?_) (fun h => absurd (by decide) h)
          refine lv_aload_n hx hb dX3_range_358 rfl (lv_at hl 4 rfl) ?_
          refine wq_callv (wc := [(g0, .inr (2, [.int th, .ref r1, .ref r2, .long fa, .long fb, .int ft, .long xl, .long xh, .long yl, .long yh]))]) (wr := []) (w2 := [(g0, .inr (2, [.int th, .ref r1, .ref r2, .long (-9223372036854775808 : Int64), .long (9223372036854775807 : Int64), .int ft, .long xl, .long xh, .long yl, .long yh]))]) (va_runV (As := []) (rest := []) ⟨hx, hb, hml, hown, hts⟩ (c_X3_all l dC dI g0 r1 r2 s.heap.size th fa fb ft xl xh yl yh) (cwV 0 hts (gz_l gX3_range_X3_all) rfl rfl rfl ydV_X3_all ⟨Nat.le_of_ble_eq_true rfl, Nat.le_of_ble_eq_true rfl⟩) (wp_V (hK.sub (tys' := []) [] rfl) (hP.sub (ws' := [(g0, .inr (2, [.int th, .ref r1, .ref r2, .long fa, .long fb, .int ft, .long xl, .long xh, .long yl, .long yh]))]) [0] rfl) (hD.sub (ws' := [(g0, .inr (2, [.int th, .ref r1, .ref r2, .long fa, .long fb, .int ft, .long xl, .long xh, .long yl, .long yh]))]) [0] (by decide) rfl)  rfl rfl) rfl rfl hl.1 rfl (lv_room (Nat.le_of_ble_eq_true rfl)) dX3_range_359 ⟨Nat.le_of_ble_eq_true rfl, Nat.le_of_ble_eq_true rfl⟩) hP hD hS hA [0] [] [0] rfl rfl rfl (by decide) rfl rfl (fun H locs hP hD hS => ?_)
          refine W.widen (k := 4) (n := 24) (by omega) (by omega) ?_
          have es : (s_X3_range ft p0 p1 p2 p3 p4 p5) = ((-9223372036854775808 : Int64), (9223372036854775807 : Int64), ft) := by unfold s_X3_range; rw [if_neg c1, if_pos c63, if_pos c64, if_neg c79, if_neg c80, if_neg c81, if_neg c82, if_neg c83, if_neg c85, if_neg c87, if_neg c88, if_pos c89]
          exact W.vret hx hb hr (fun t ht hW => by rw [es]; exact ⟨rfl, by rw [ht]; exact hP, hD, hS.F ht⟩) hS.2.2 dX3_range_362
        by_cases c90 : p0 = (9 : Int32)
        · refine lv_tableIn (off := 312) (tgt := 363) hx hb dX3_range_51 (by rw [c90]; decide) (by rw [c90]; decide) (by rw [c90]; decide) (by decide) ?_
          refine lv_iload hx hb dX3_range_363 (lv_at hl 1 rfl) ?_
          refine lv_if_eq (tgt := 413) hx hb dX3_range_365 (by decide) (fun h => absurd h (by decide)) (fun _ => ?_)
          refine lv_iload hx hb dX3_range_368 (lv_at hl 3 rfl) ?_
          refine lv_if_eq (tgt := 413) hx hb dX3_range_370 (by decide) (fun h => absurd h (by decide)) (fun _ => ?_)
          refine lv_lload hx hb dX3_range_373 (lv_at hl 7 rfl) ?_
          refine lv_iload hx hb dX3_range_375 (lv_at hl 0 rfl) ?_
          refine lv_lshl (v := pl_shl p2 (p3.toInt32 &&& p5)) hx hb dX3_range_377 rfl ?_
          refine lv_lconst (v := (0 : Int64)) hx hb dX3_range_378 (by decide) ?_
          refine pl_lt (tgt := 413) hx hb dX3_range_379 dX3_range_380 (by decide) (fun c91 => ?_) (fun c91 => ?_)
          · refine lv_aload_n hx hb dX3_range_413 rfl (lv_at hl 4 rfl) ?_
            refine wq_callv (wc := [(g0, .inr (2, [.int th, .ref r1, .ref r2, .long fa, .long fb, .int ft, .long xl, .long xh, .long yl, .long yh]))]) (wr := []) (w2 := [(g0, .inr (2, [.int th, .ref r1, .ref r2, .long (-9223372036854775808 : Int64), .long (9223372036854775807 : Int64), .int ft, .long xl, .long xh, .long yl, .long yh]))]) (va_runV (As := []) (rest := []) ⟨hx, hb, hml, hown, hts⟩ (c_X3_all l dC dI g0 r1 r2 s.heap.size th fa fb ft xl xh yl yh) (cwV 0 hts (gz_l gX3_range_X3_all) rfl rfl rfl ydV_X3_all ⟨Nat.le_of_ble_eq_true rfl, Nat.le_of_ble_eq_true rfl⟩) (wp_V (hK.sub (tys' := []) [] rfl) (hP.sub (ws' := [(g0, .inr (2, [.int th, .ref r1, .ref r2, .long fa, .long fb, .int ft, .long xl, .long xh, .long yl, .long yh]))]) [0] rfl) (hD.sub (ws' := [(g0, .inr (2, [.int th, .ref r1, .ref r2, .long fa, .long fb, .int ft, .long xl, .long xh, .long yl, .long yh]))]) [0] (by decide) rfl)  rfl rfl) rfl rfl hl.1 rfl (lv_room (Nat.le_of_ble_eq_true rfl)) dX3_range_414 ⟨Nat.le_of_ble_eq_true rfl, Nat.le_of_ble_eq_true rfl⟩) hP hD hS hA [0] [] [0] rfl rfl rfl (by decide) rfl rfl (fun H locs hP hD hS => ?_)
            refine W.widen (k := 4) (n := 24) (by omega) (by omega) ?_
            have es : (s_X3_range ft p0 p1 p2 p3 p4 p5) = ((-9223372036854775808 : Int64), (9223372036854775807 : Int64), ft) := by unfold s_X3_range; rw [if_neg c1, if_pos c63, if_pos c64, if_neg c79, if_neg c80, if_neg c81, if_neg c82, if_neg c83, if_neg c85, if_neg c87, if_neg c88, if_neg c89, if_pos c90, if_pos c91]
            exact W.vret hx hb hr (fun t ht hW => by rw [es]; exact ⟨rfl, by rw [ht]; exact hP, hD, hS.F ht⟩) hS.2.2 dX3_range_417
          · refine lv_lload hx hb dX3_range_383 (lv_at hl 7 rfl) ?_
            refine lv_iload hx hb dX3_range_385 (lv_at hl 0 rfl) ?_
            refine lv_lshl (v := pl_shl p2 (p3.toInt32 &&& p5)) hx hb dX3_range_387 rfl ?_
            refine lv_iload hx hb dX3_range_388 (lv_at hl 0 rfl) ?_
            refine lv_lshr (v := pl_shr (pl_shl p2 (p3.toInt32 &&& p5)) (p3.toInt32 &&& p5)) hx hb dX3_range_390 rfl ?_
            refine lv_lload hx hb dX3_range_391 (lv_at hl 7 rfl) ?_
            refine pl_ne (tgt := 413) hx hb dX3_range_393 dX3_range_394 (by decide) (fun c92 => ?_) (fun c92 => ?_)
            · refine lv_aload_n hx hb dX3_range_413 rfl (lv_at hl 4 rfl) ?_
              refine wq_callv (wc := [(g0, .inr (2, [.int th, .ref r1, .ref r2, .long fa, .long fb, .int ft, .long xl, .long xh, .long yl, .long yh]))]) (wr := []) (w2 := [(g0, .inr (2, [.int th, .ref r1, .ref r2, .long (-9223372036854775808 : Int64), .long (9223372036854775807 : Int64), .int ft, .long xl, .long xh, .long yl, .long yh]))]) (va_runV (As := []) (rest := []) ⟨hx, hb, hml, hown, hts⟩ (c_X3_all l dC dI g0 r1 r2 s.heap.size th fa fb ft xl xh yl yh) (cwV 0 hts (gz_l gX3_range_X3_all) rfl rfl rfl ydV_X3_all ⟨Nat.le_of_ble_eq_true rfl, Nat.le_of_ble_eq_true rfl⟩) (wp_V (hK.sub (tys' := []) [] rfl) (hP.sub (ws' := [(g0, .inr (2, [.int th, .ref r1, .ref r2, .long fa, .long fb, .int ft, .long xl, .long xh, .long yl, .long yh]))]) [0] rfl) (hD.sub (ws' := [(g0, .inr (2, [.int th, .ref r1, .ref r2, .long fa, .long fb, .int ft, .long xl, .long xh, .long yl, .long yh]))]) [0] (by decide) rfl)  rfl rfl) rfl rfl hl.1 rfl (lv_room (Nat.le_of_ble_eq_true rfl)) dX3_range_414 ⟨Nat.le_of_ble_eq_true rfl, Nat.le_of_ble_eq_true rfl⟩) hP hD hS hA [0] [] [0] rfl rfl rfl (by decide) rfl rfl (fun H locs hP hD hS => ?_)
              refine W.widen (k := 4) (n := 24) (by omega) (by omega) ?_
              have es : (s_X3_range ft p0 p1 p2 p3 p4 p5) = ((-9223372036854775808 : Int64), (9223372036854775807 : Int64), ft) := by unfold s_X3_range; rw [if_neg c1, if_pos c63, if_pos c64, if_neg c79, if_neg c80, if_neg c81, if_neg c82, if_neg c83, if_neg c85, if_neg c87, if_neg c88, if_neg c89, if_pos c90, if_neg c91, if_neg c92]
              exact W.vret hx hb hr (fun t ht hW => by rw [es]; exact ⟨rfl, by rw [ht]; exact hP, hD, hS.F ht⟩) hS.2.2 dX3_range_417
            · refine lv_aload_n hx hb dX3_range_397 rfl (lv_at hl 4 rfl) ?_
              refine lv_lload_n hx hb dX3_range_398 rfl (lv_at hl 6 rfl) ?_
              refine lv_iload hx hb dX3_range_399 (lv_at hl 0 rfl) ?_
              refine lv_lshl (v := pl_shl p1 (p3.toInt32 &&& p5)) hx hb dX3_range_401 rfl ?_
              refine lv_lload hx hb dX3_range_402 (lv_at hl 7 rfl) ?_
              refine lv_iload hx hb dX3_range_404 (lv_at hl 0 rfl) ?_
              refine lv_lshl (v := pl_shl p2 (p3.toInt32 &&& p5)) hx hb dX3_range_406 rfl ?_
              refine wq_callv (wc := [(g0, .inr (2, [.int th, .ref r1, .ref r2, .long fa, .long fb, .int ft, .long xl, .long xh, .long yl, .long yh]))]) (wr := []) (w2 := [(g0, .inr (2, [.int th, .ref r1, .ref r2, .long (pl_shl p1 (p3.toInt32 &&& p5)), .long (pl_shl p2 (p3.toInt32 &&& p5)), .int ft, .long xl, .long xh, .long yl, .long yh]))]) (va_runV (As := [.long (pl_shl p1 (p3.toInt32 &&& p5)), .long (pl_shl p2 (p3.toInt32 &&& p5))]) (rest := []) ⟨hx, hb, hml, hown, hts⟩ (c_X3_between l dC dI g0 r1 r2 s.heap.size th fa fb ft xl xh yl yh (pl_shl p1 (p3.toInt32 &&& p5)) (pl_shl p2 (p3.toInt32 &&& p5))) (cwV 2 hts (gz_l gX3_range_X3_between) rfl rfl rfl ydV_X3_between ⟨Nat.le_of_ble_eq_true rfl, Nat.le_of_ble_eq_true rfl⟩) (wp_V (hK.sub (tys' := []) [] rfl) (hP.sub (ws' := [(g0, .inr (2, [.int th, .ref r1, .ref r2, .long fa, .long fb, .int ft, .long xl, .long xh, .long yl, .long yh]))]) [0] rfl) (hD.sub (ws' := [(g0, .inr (2, [.int th, .ref r1, .ref r2, .long fa, .long fb, .int ft, .long xl, .long xh, .long yl, .long yh]))]) [0] (by decide) rfl)  rfl rfl) rfl rfl hl.1 rfl (lv_room (Nat.le_of_ble_eq_true rfl)) dX3_range_407 ⟨Nat.le_of_ble_eq_true rfl, Nat.le_of_ble_eq_true rfl⟩) hP hD hS hA [0] [] [0] rfl rfl rfl (by decide) rfl rfl (fun H locs hP hD hS => ?_)
              refine lv_goto (tgt := 417) hx hb dX3_range_410 (by decide) ?_
              refine W.widen (k := 4) (n := 24) (by omega) (by omega) ?_
              have es : (s_X3_range ft p0 p1 p2 p3 p4 p5) = ((pl_shl p1 (p3.toInt32 &&& p5)), (pl_shl p2 (p3.toInt32 &&& p5)), ft) := by unfold s_X3_range; rw [if_neg c1, if_pos c63, if_pos c64, if_neg c79, if_neg c80, if_neg c81, if_neg c82, if_neg c83, if_neg c85, if_neg c87, if_neg c88, if_neg c89, if_pos c90, if_neg c91, if_pos c92]
              exact W.vret hx hb hr (fun t ht hW => by rw [es]; exact ⟨rfl, by rw [ht]; exact hP, hD, hS.F ht⟩) hS.2.2 dX3_range_417
        by_cases c93 : p0 = (10 : Int32)
        · refine lv_tableIn (off := 367) (tgt := 418) hx hb dX3_range_51 (by rw [c93]; decide) (by rw [c93]; decide) (by rw [c93]; decide) (by decide) ?_
          refine lv_iload hx hb dX3_range_418 (lv_at hl 1 rfl) ?_
          refine lv_if_eq (tgt := 473) hx hb dX3_range_420 (by decide) (fun h => absurd h (by decide)) (fun _ => ?_)
          refine lv_iload hx hb dX3_range_423 (lv_at hl 3 rfl) ?_
          refine lv_if_eq (tgt := 444) hx hb dX3_range_425 (by decide) (fun h => absurd h (by decide)) (fun _ => ?_)
          refine lv_aload_n hx hb dX3_range_428 rfl (lv_at hl 4 rfl) ?_
          refine lv_lload_n hx hb dX3_range_429 rfl (lv_at hl 6 rfl) ?_
          refine lv_iload hx hb dX3_range_430 (lv_at hl 0 rfl) ?_
          refine lv_lshr (v := pl_shr p1 (p3.toInt32 &&& p5)) hx hb dX3_range_432 rfl ?_
          refine lv_lload hx hb dX3_range_433 (lv_at hl 7 rfl) ?_
          refine lv_iload hx hb dX3_range_435 (lv_at hl 0 rfl) ?_
          refine lv_lshr (v := pl_shr p2 (p3.toInt32 &&& p5)) hx hb dX3_range_437 rfl ?_
          refine wq_callv (wc := [(g0, .inr (2, [.int th, .ref r1, .ref r2, .long fa, .long fb, .int ft, .long xl, .long xh, .long yl, .long yh]))]) (wr := []) (w2 := [(g0, .inr (2, [.int th, .ref r1, .ref r2, .long (pl_shr p1 (p3.toInt32 &&& p5)), .long (pl_shr p2 (p3.toInt32 &&& p5)), .int ft, .long xl, .long xh, .long yl, .long yh]))]) (va_runV (As := [.long (pl_shr p1 (p3.toInt32 &&& p5)), .long (pl_shr p2 (p3.toInt32 &&& p5))]) (rest := []) ⟨hx, hb, hml, hown, hts⟩ (c_X3_between l dC dI g0 r1 r2 s.heap.size th fa fb ft xl xh yl yh (pl_shr p1 (p3.toInt32 &&& p5)) (pl_shr p2 (p3.toInt32 &&& p5))) (cwV 2 hts (gz_l gX3_range_X3_between) rfl rfl rfl ydV_X3_between ⟨Nat.le_of_ble_eq_true rfl, Nat.le_of_ble_eq_true rfl⟩) (wp_V (hK.sub (tys' := []) [] rfl) (hP.sub (ws' := [(g0, .inr (2, [.int th, .ref r1, .ref r2, .long fa, .long fb, .int ft, .long xl, .long xh, .long yl, .long yh]))]) [0] rfl) (hD.sub (ws' := [(g0, .inr (2, [.int th, .ref r1, .ref r2, .long fa, .long fb, .int ft, .long xl, .long xh, .long yl, .long yh]))]) [0] (by decide) rfl)  rfl rfl) rfl rfl hl.1 rfl (lv_room (Nat.le_of_ble_eq_true rfl)) dX3_range_438 ⟨Nat.le_of_ble_eq_true rfl, Nat.le_of_ble_eq_true rfl⟩) hP hD hS hA [0] [] [0] rfl rfl rfl (by decide) rfl rfl (fun H locs hP hD hS => ?_)
          refine lv_goto (tgt := 492) hx hb dX3_range_441 (by decide) ?_
          refine W.widen (k := 4) (n := 24) (by omega) (by omega) ?_
          have es : (s_X3_range ft p0 p1 p2 p3 p4 p5) = ((pl_shr p1 (p3.toInt32 &&& p5)), (pl_shr p2 (p3.toInt32 &&& p5)), ft) := by unfold s_X3_range; rw [if_neg c1, if_pos c63, if_pos c64, if_neg c79, if_neg c80, if_neg c81, if_neg c82, if_neg c83, if_neg c85, if_neg c87, if_neg c88, if_neg c89, if_neg c90, if_pos c93]
          exact W.vret hx hb hr (fun t ht hW => by rw [es]; exact ⟨rfl, by rw [ht]; exact hP, hD, hS.F ht⟩) hS.2.2 dX3_range_492
        by_cases c94 : p0 = (11 : Int32)
        · refine lv_tableIn (off := 442) (tgt := 493) hx hb dX3_range_51 (by rw [c94]; decide) (by rw [c94]; decide) (by rw [c94]; decide) (by decide) ?_
          refine lv_iload hx hb dX3_range_493 (lv_at hl 1 rfl) ?_
          refine lv_if_eq (tgt := 514) hx hb dX3_range_495 (by decide) (fun h => absurd h (by decide)) (fun _ => ?_)
          refine lv_aload_n hx hb dX3_range_498 rfl (lv_at hl 4 rfl) ?_
          refine lv_lload_n hx hb dX3_range_499 rfl (lv_at hl 6 rfl) ?_
          refine lv_iload hx hb dX3_range_500 (lv_at hl 0 rfl) ?_
          refine lv_lshr (v := pl_shr p1 (p3.toInt32 &&& p5)) hx hb dX3_range_502 rfl ?_
          refine lv_lload hx hb dX3_range_503 (lv_at hl 7 rfl) ?_
          refine lv_iload hx hb dX3_range_505 (lv_at hl 0 rfl) ?_
          refine lv_lshr (v := pl_shr p2 (p3.toInt32 &&& p5)) hx hb dX3_range_507 rfl ?_
          refine wq_callv (wc := [(g0, .inr (2, [.int th, .ref r1, .ref r2, .long fa, .long fb, .int ft, .long xl, .long xh, .long yl, .long yh]))]) (wr := []) (w2 := [(g0, .inr (2, [.int th, .ref r1, .ref r2, .long (pl_shr p1 (p3.toInt32 &&& p5)), .long (pl_shr p2 (p3.toInt32 &&& p5)), .int ft, .long xl, .long xh, .long yl, .long yh]))]) (va_runV (As := [.long (pl_shr p1 (p3.toInt32 &&& p5)), .long (pl_shr p2 (p3.toInt32 &&& p5))]) (rest := []) ⟨hx, hb, hml, hown, hts⟩ (c_X3_between l dC dI g0 r1 r2 s.heap.size th fa fb ft xl xh yl yh (pl_shr p1 (p3.toInt32 &&& p5)) (pl_shr p2 (p3.toInt32 &&& p5))) (cwV 2 hts (gz_l gX3_range_X3_between) rfl rfl rfl ydV_X3_between ⟨Nat.le_of_ble_eq_true rfl, Nat.le_of_ble_eq_true rfl⟩) (wp_V (hK.sub (tys' := []) [] rfl) (hP.sub (ws' := [(g0, .inr (2, [.int th, .ref r1, .ref r2, .long fa, .long fb, .int ft, .long xl, .long xh, .long yl, .long yh]))]) [0] rfl) (hD.sub (ws' := [(g0, .inr (2, [.int th, .ref r1, .ref r2, .long fa, .long fb, .int ft, .long xl, .long xh, .long yl, .long yh]))]) [0] (by decide) rfl)  rfl rfl) rfl rfl hl.1 rfl (lv_room (Nat.le_of_ble_eq_true rfl)) dX3_range_508 ⟨Nat.le_of_ble_eq_true rfl, Nat.le_of_ble_eq_true rfl⟩) hP hD hS hA [0] [] [0] rfl rfl rfl (by decide) rfl rfl (fun H locs hP hD hS => ?_)
          refine lv_goto (tgt := 533) hx hb dX3_range_511 (by decide) ?_
          refine W.widen (k := 4) (n := 24) (by omega) (by omega) ?_
          have es : (s_X3_range ft p0 p1 p2 p3 p4 p5) = ((pl_shr p1 (p3.toInt32 &&& p5)), (pl_shr p2 (p3.toInt32 &&& p5)), ft) := by unfold s_X3_range; rw [if_neg c1, if_pos c63, if_pos c64, if_neg c79, if_neg c80, if_neg c81, if_neg c82, if_neg c83, if_neg c85, if_neg c87, if_neg c88, if_neg c89, if_neg c90, if_neg c93, if_pos c94]
          exact W.vret hx hb hr (fun t ht hW => by rw [es]; exact ⟨rfl, by rw [ht]; exact hP, hD, hS.F ht⟩) hS.2.2 dX3_range_533
        refine lv_tableOut (tgt := 534) hx hb dX3_range_51 (by have h0 := lv_neT c79 (a := 0) rfl; have h1 := lv_neT c80 (a := 1) rfl; have h2 := lv_neT c81 (a := 2) rfl; have h3 := lv_neT c82 (a := 3) rfl; have h4 := lv_neT c83 (a := 4) rfl; have h5 := lv_neT c85 (a := 5) rfl; have h6 := lv_neT c87 (a := 6) rfl; have h7 := lv_neT c88 (a := 7) rfl; have h8 := lv_neT c89 (a := 8) rfl; have h9 := lv_neT c90 (a := 9) rfl; have h10 := lv_neT c93 (a := 10) rfl; have h11 := lv_neT c94 (a := 11) rfl; omega) (by decide) ?_
        refine lv_aload_n hx hb dX3_range_534 rfl (lv_at hl 4 rfl) ?_
        refine lv_iconst (v := (2 : Int32)) hx hb dX3_range_535 (by decide) ?_
        refine lv_lconst (v := (0 : Int64)) hx hb dX3_range_536 (by decide) ?_
        refine lv_lconst (v := (0 : Int64)) hx hb dX3_range_537 (by decide) ?_
        refine lv_lload_n hx hb dX3_range_538 rfl (lv_at hl 6 rfl) ?_
        refine lv_lload hx hb dX3_range_539 (lv_at hl 7 rfl) ?_
        refine wq_callv (wc := [(g0, .inr (2, [.int th, .ref r1, .ref r2, .long fa, .long fb, .int ft, .long xl, .long xh, .long yl, .long yh]))]) (wr := []) (w2 := [(g0, .inr (2, [.int th, .ref r1, .ref r2, .long ((s_X3_ends (2 : Int32) (0 : Int64) (0 : Int64) p1 p2).1), .long ((s_X3_ends (2 : Int32) (0 : Int64) (0 : Int64) p1 p2).2.1), .int ((s_X3_ends (2 : Int32) (0 : Int64) (0 : Int64) p1 p2).2.2), .long xl, .long xh, .long yl, .long yh]))]) (va_runV (As := [.int (2 : Int32), .long (0 : Int64), .long (0 : Int64), .long p1, .long p2]) (rest := []) ⟨hx, hb, hml, hown, hts⟩ (c_X3_ends l S0 hst dC dI g0 r1 r2 s.heap.size th fa fb ft xl xh yl yh (2 : Int32) (0 : Int64) (0 : Int64) p1 p2 (fun q h => hS1 q (va_free (wc := [(g0, .inr (2, [.int th, .ref r1, .ref r2, .long fa, .long fb, .int ft, .long xl, .long xh, .long yl, .long yh]))]) hD hS hA [0] rfl q h))) (cwV 5 hts (gz_V wz_A_good gX3_range_X3_ends) rfl rfl rfl ydV_X3_ends ⟨Nat.le_of_ble_eq_true rfl, Nat.le_of_ble_eq_true rfl⟩) (twp_V (hK.sub (tys' := []) [] rfl) (hP.sub (ws' := [(g0, .inr (2, [.int th, .ref r1, .ref r2, .long fa, .long fb, .int ft, .long xl, .long xh, .long yl, .long yh]))]) [0] rfl) (hD.sub (ws' := [(g0, .inr (2, [.int th, .ref r1, .ref r2, .long fa, .long fb, .int ft, .long xl, .long xh, .long yl, .long yh]))]) [0] (by decide) rfl) ham rfl rfl) rfl rfl hl.1 rfl (lv_room (Nat.le_of_ble_eq_true rfl)) dX3_range_541 ⟨Nat.le_of_ble_eq_true rfl, Nat.le_of_ble_eq_true rfl⟩) hP hD hS hA [0] [] [0] rfl rfl rfl (by decide) rfl rfl (fun H locs hP hD hS => ?_)
        have es : (s_X3_range ft p0 p1 p2 p3 p4 p5) = ((s_X3_ends (2 : Int32) (0 : Int64) (0 : Int64) p1 p2).1, (s_X3_ends (2 : Int32) (0 : Int64) (0 : Int64) p1 p2).2.1, (s_X3_ends (2 : Int32) (0 : Int64) (0 : Int64) p1 p2).2.2) := by unfold s_X3_range; rw [if_neg c1, if_pos c63, if_pos c64, if_neg c79, if_neg c80, if_neg c81, if_neg c82, if_neg c83, if_neg c85, if_neg c87, if_neg c88, if_neg c89, if_neg c90, if_neg c93, if_neg c94]
        exact W.vret hx hb hr (fun t ht hW => by rw [es]; exact ⟨rfl, by rw [ht]; exact hP, hD, hS.F ht⟩) hS.2.2 dX3_range_544
    · refine lv_iconst (v := (1 : Int32)) hx hb dX3_range_20 (by decide) ?_
      refine lv_goto (tgt := 25) hx hb dX3_range_21 (by decide) ?_
      refine lv_istore (lv' := [(12, .int (1 : Int32)), (11, .int (1 : Int32)), (0, .ref g0), (1, .int p0), (2, .long p1), (4, .long p2), (6, .long p3), (8, .long p4), (10, .int p5)]) hx hb dX3_range_25 hl (by decide) rfl (fun ls hl => ?_)
      refine lv_lload hx hb dX3_range_27 (lv_at hl 6 rfl) ?_
      refine lv_lload hx hb dX3_range_29 (lv_at hl 7 rfl) ?_
      refine pl_ne (tgt := 39) hx hb dX3_range_31 dX3_range_32 (by decide) (fun c95 => ?_) (fun c95 => ?_)
      · refine lv_iconst (v := (0 : Int32)) hx hb dX3_range_39 (by decide) ?_
        refine lv_istore (lv' := [(13, .int (0 : Int32)), (12, .int (1 : Int32)), (11, .int (1 : Int32)), (0, .ref g0), (1, .int p0), (2, .long p1), (4, .long p2), (6, .long p3), (8, .long p4), (10, .int p5)]) hx hb dX3_range_40 hl (by decide) rfl (fun ls hl => ?_)
        refine lv_lload hx hb dX3_range_42 (lv_at hl 7 rfl) ?_
        refine lv_l2i (v := p3.toInt32) hx hb dX3_range_44 rfl ?_
        refine lv_iload hx hb dX3_range_45 (lv_at hl 9 rfl) ?_
        refine lv_iand hx hb dX3_range_47 ?_
        refine lv_istore (lv' := [(14, .int (p3.toInt32 &&& p5)), (13, .int (0 : Int32)), (12, .int (1 : Int32)), (11, .int (1 : Int32)), (0, .ref g0), (1, .int p0), (2, .long p1), (4, .long p2), (6, .long p3), (8, .long p4), (10, .int p5)]) hx hb dX3_range_48 hl (by decide) rfl (fun ls hl => ?_)
        refine lv_iload_n hx hb dX3_range_50 rfl (lv_at hl 5 rfl) ?_
        by_cases c96 : p0 = (0 : Int32)
        · refine lv_tableIn (off := 61) (tgt := 112) hx hb dX3_range_51 (by rw [c96]; decide) (by rw [c96]; decide) (by rw [c96]; decide) (by decide) ?_
          refine lv_aload_n hx hb dX3_range_112 rfl (lv_at hl 4 rfl) ?_
          refine lv_lload hx hb dX3_range_113 (lv_at hl 8 rfl) ?_
          refine lv_lload hx hb dX3_range_115 (lv_at hl 9 rfl) ?_
          refine wq_callv (wc := [(g0, .inr (2, [.int th, .ref r1, .ref r2, .long fa, .long fb, .int ft, .long xl, .long xh, .long yl, .long yh]))]) (wr := []) (w2 := [(g0, .inr (2, [.int th, .ref r1, .ref r2, .long p3, .long p4, .int ft, .long xl, .long xh, .long yl, .long yh]))]) (va_runV (As := [.long p3, .long p4]) (rest := []) ⟨hx, hb, hml, hown, hts⟩ (c_X3_between l dC dI g0 r1 r2 s.heap.size th fa fb ft xl xh yl yh p3 p4) (cwV 2 hts (gz_l gX3_range_X3_between) rfl rfl rfl ydV_X3_between ⟨Nat.le_of_ble_eq_true rfl, Nat.le_of_ble_eq_true rfl⟩) (wp_V (hK.sub (tys' := []) [] rfl) (hP.sub (ws' := [(g0, .inr (2, [.int th, .ref r1, .ref r2, .long fa, .long fb, .int ft, .long xl, .long xh, .long yl, .long yh]))]) [0] rfl) (hD.sub (ws' := [(g0, .inr (2, [.int th, .ref r1, .ref r2, .long fa, .long fb, .int ft, .long xl, .long xh, .long yl, .long yh]))]) [0] (by decide) rfl)  rfl rfl) rfl rfl hl.1 rfl (lv_room (Nat.le_of_ble_eq_true rfl)) dX3_range_117 ⟨Nat.le_of_ble_eq_true rfl, Nat.le_of_ble_eq_true rfl⟩) hP hD hS hA [0] [] [0] rfl rfl rfl (by decide) rfl rfl (fun H locs hP hD hS => ?_)
          refine W.widen (k := 4) (n := 24) (by omega) (by omega) ?_
          have es : (s_X3_range ft p0 p1 p2 p3 p4 p5) = (p3, p4, ft) := by unfold s_X3_range; rw [if_neg c1, if_neg c63, if_neg c95, if_pos c96]
          exact W.vret hx hb hr (fun t ht hW => by rw [es]; exact ⟨rfl, by rw [ht]; exact hP, hD, hS.F ht⟩) hS.2.2 dX3_range_120
        by_cases c97 : p0 = (1 : Int32)
        · refine lv_tableIn (off := 70) (tgt := 121) hx hb dX3_range_51 (by rw [c97]; decide) (by rw [c97]; decide) (by rw [c97]; decide) (by decide) ?_
          refine lv_aload_n hx hb dX3_range_121 rfl (lv_at hl 4 rfl) ?_
          refine lv_iload_n hx hb dX3_range_122 rfl (lv_at hl 5 rfl) ?_
          refine lv_lload_n hx hb dX3_range_123 rfl (lv_at hl 6 rfl) ?_
          refine lv_lload hx hb dX3_range_124 (lv_at hl 7 rfl) ?_
          refine lv_lload hx hb dX3_range_126 (lv_at hl 8 rfl) ?_
          refine lv_lload hx hb dX3_range_128 (lv_at hl 9 rfl) ?_
          refine wq_callv (wc := [(g0, .inr (2, [.int th, .ref r1, .ref r2, .long fa, .long fb, .int ft, .long xl, .long xh, .long yl, .long yh]))]) (wr := []) (w2 := [(g0, .inr (2, [.int th, .ref r1, .ref r2, .long ((s_X3_ends p0 p1 p2 p3 p4).1), .long ((s_X3_ends p0 p1 p2 p3 p4).2.1), .int ((s_X3_ends p0 p1 p2 p3 p4).2.2), .long xl, .long xh, .long yl, .long yh]))]) (va_runV (As := [.int p0, .long p1, .long p2, .long p3, .long p4]) (rest := []) ⟨hx, hb, hml, hown, hts⟩ (c_X3_ends l S0 hst dC dI g0 r1 r2 s.heap.size th fa fb ft xl xh yl yh p0 p1 p2 p3 p4 (fun q h => hS1 q (va_free (wc := [(g0, .inr (2, [.int th, .ref r1, .ref r2, .long fa, .long fb, .int ft, .long xl, .long xh, .long yl, .long yh]))]) hD hS hA [0] rfl q h))) (cwV 5 hts (gz_V wz_A_good gX3_range_X3_ends) rfl rfl rfl ydV_X3_ends ⟨Nat.le_of_ble_eq_true rfl, Nat.le_of_ble_eq_true rfl⟩) (twp_V (hK.sub (tys' := []) [] rfl) (hP.sub (ws' := [(g0, .inr (2, [.int th, .ref r1, .ref r2, .long fa, .long fb, .int ft, .long xl, .long xh, .long yl, .long yh]))]) [0] rfl) (hD.sub (ws' := [(g0, .inr (2, [.int th, .ref r1, .ref r2, .long fa, .long fb, .int ft, .long xl, .long xh, .long yl, .long yh]))]) [0] (by decide) rfl) ham rfl rfl) rfl rfl hl.1 rfl (lv_room (Nat.le_of_ble_eq_true rfl)) dX3_range_130 ⟨Nat.le_of_ble_eq_true rfl, Nat.le_of_ble_eq_true rfl⟩) hP hD hS hA [0] [] [0] rfl rfl rfl (by decide) rfl rfl (fun H locs hP hD hS => ?_)
          have es : (s_X3_range ft p0 p1 p2 p3 p4 p5) = ((s_X3_ends p0 p1 p2 p3 p4).1, (s_X3_ends p0 p1 p2 p3 p4).2.1, (s_X3_ends p0 p1 p2 p3 p4).2.2) := by unfold s_X3_range; rw [if_neg c1, if_neg c63, if_neg c95, if_neg c96, if_pos c97]
          exact W.vret hx hb hr (fun t ht hW => by rw [es]; exact ⟨rfl, by rw [ht]; exact hP, hD, hS.F ht⟩) hS.2.2 dX3_range_133
        by_cases c98 : p0 = (2 : Int32)
        · refine lv_tableIn (off := 70) (tgt := 121) hx hb dX3_range_51 (by rw [c98]; decide) (by rw [c98]; decide) (by rw [c98]; decide) (by decide) ?_
          refine lv_aload_n hx hb dX3_range_121 rfl (lv_at hl 4 rfl) ?_
          refine lv_iload_n hx hb dX3_range_122 rfl (lv_at hl 5 rfl) ?_
          refine lv_lload_n hx hb dX3_range_123 rfl (lv_at hl 6 rfl) ?_
          refine lv_lload hx hb dX3_range_124 (lv_at hl 7 rfl) ?_
          refine lv_lload hx hb dX3_range_126 (lv_at hl 8 rfl) ?_
          refine lv_lload hx hb dX3_range_128 (lv_at hl 9 rfl) ?_
          refine wq_callv (wc := [(g0, .inr (2, [.int th, .ref r1, .ref r2, .long fa, .long fb, .int ft, .long xl, .long xh, .long yl, .long yh]))]) (wr := []) (w2 := [(g0, .inr (2, [.int th, .ref r1, .ref r2, .long ((s_X3_ends p0 p1 p2 p3 p4).1), .long ((s_X3_ends p0 p1 p2 p3 p4).2.1), .int ((s_X3_ends p0 p1 p2 p3 p4).2.2), .long xl, .long xh, .long yl, .long yh]))]) (va_runV (As := [.int p0, .long p1, .long p2, .long p3, .long p4]) (rest := []) ⟨hx, hb, hml, hown, hts⟩ (c_X3_ends l S0 hst dC dI g0 r1 r2 s.heap.size th fa fb ft xl xh yl yh p0 p1 p2 p3 p4 (fun q h => hS1 q (va_free (wc := [(g0, .inr (2, [.int th, .ref r1, .ref r2, .long fa, .long fb, .int ft, .long xl, .long xh, .long yl, .long yh]))]) hD hS hA [0] rfl q h))) (cwV 5 hts (gz_V wz_A_good gX3_range_X3_ends) rfl rfl rfl ydV_X3_ends ⟨Nat.le_of_ble_eq_true rfl, Nat.le_of_ble_eq_true rfl⟩) (twp_V (hK.sub (tys' := []) [] rfl) (hP.sub (ws' := [(g0, .inr (2, [.int th, .ref r1, .ref r2, .long fa, .long fb, .int ft, .long xl, .long xh, .long yl, .long yh]))]) [0] rfl) (hD.sub (ws' := [(g0, .inr (2, [.int th, .ref r1, .ref r2, .long fa, .long fb, .int ft, .long xl, .long xh, .long yl, .long yh]))]) [0] (by decide) rfl) ham rfl rfl) rfl rfl hl.1 rfl (lv_room (Nat.le_of_ble_eq_true rfl)) dX3_range_130 ⟨Nat.le_of_ble_eq_true rfl, Nat.le_of_ble_eq_true rfl⟩) hP hD hS hA [0] [] [0] rfl rfl rfl (by decide) rfl rfl (fun H locs hP hD hS => ?_)
          have es : (s_X3_range ft p0 p1 p2 p3 p4 p5) = ((s_X3_ends p0 p1 p2 p3 p4).1, (s_X3_ends p0 p1 p2 p3 p4).2.1, (s_X3_ends p0 p1 p2 p3 p4).2.2) := by unfold s_X3_range; rw [if_neg c1, if_neg c63, if_neg c95, if_neg c96, if_neg c97, if_pos c98]
          exact W.vret hx hb hr (fun t ht hW => by rw [es]; exact ⟨rfl, by rw [ht]; exact hP, hD, hS.F ht⟩) hS.2.2 dX3_range_133
        by_cases c99 : p0 = (3 : Int32)
        · refine lv_tableIn (off := 70) (tgt := 121) hx hb dX3_range_51 (by rw [c99]; decide) (by rw [c99]; decide) (by rw [c99]; decide) (by decide) ?_
          refine lv_aload_n hx hb dX3_range_121 rfl (lv_at hl 4 rfl) ?_
          refine lv_iload_n hx hb dX3_range_122 rfl (lv_at hl 5 rfl) ?_
          refine lv_lload_n hx hb dX3_range_123 rfl (lv_at hl 6 rfl) ?_
          refine lv_lload hx hb dX3_range_124 (lv_at hl 7 rfl) ?_
          refine lv_lload hx hb dX3_range_126 (lv_at hl 8 rfl) ?_
          refine lv_lload hx hb dX3_range_128 (lv_at hl 9 rfl) ?_
          refine wq_callv (wc := [(g0, .inr (2, [.int th, .ref r1, .ref r2, .long fa, .long fb, .int ft, .long xl, .long xh, .long yl, .long yh]))]) (wr := []) (w2 := [(g0, .inr (2, [.int th, .ref r1, .ref r2, .long ((s_X3_ends p0 p1 p2 p3 p4).1), .long ((s_X3_ends p0 p1 p2 p3 p4).2.1), .int ((s_X3_ends p0 p1 p2 p3 p4).2.2), .long xl, .long xh, .long yl, .long yh]))]) (va_runV (As := [.int p0, .long p1, .long p2, .long p3, .long p4]) (rest := []) ⟨hx, hb, hml, hown, hts⟩ (c_X3_ends l S0 hst dC dI g0 r1 r2 s.heap.size th fa fb ft xl xh yl yh p0 p1 p2 p3 p4 (fun q h => hS1 q (va_free (wc := [(g0, .inr (2, [.int th, .ref r1, .ref r2, .long fa, .long fb, .int ft, .long xl, .long xh, .long yl, .long yh]))]) hD hS hA [0] rfl q h))) (cwV 5 hts (gz_V wz_A_good gX3_range_X3_ends) rfl rfl rfl ydV_X3_ends ⟨Nat.le_of_ble_eq_true rfl, Nat.le_of_ble_eq_true rfl⟩) (twp_V (hK.sub (tys' := []) [] rfl) (hP.sub (ws' := [(g0, .inr (2, [.int th, .ref r1, .ref r2, .long fa, .long fb, .int ft, .long xl, .long xh, .long yl, .long yh]))]) [0] rfl) (hD.sub (ws' := [(g0, .inr (2, [.int th, .ref r1, .ref r2, .long fa, .long fb, .int ft, .long xl, .long xh, .long yl, .long yh]))]) [0] (by decide) rfl) ham rfl rfl) rfl rfl hl.1 rfl (lv_room (Nat.le_of_ble_eq_true rfl)) dX3_range_130 ⟨Nat.le_of_ble_eq_true rfl, Nat.le_of_ble_eq_true rfl⟩) hP hD hS hA [0] [] [0] rfl rfl rfl (by decide) rfl rfl (fun H locs hP hD hS => ?_)
          have es : (s_X3_range ft p0 p1 p2 p3 p4 p5) = ((s_X3_ends p0 p1 p2 p3 p4).1, (s_X3_ends p0 p1 p2 p3 p4).2.1, (s_X3_ends p0 p1 p2 p3 p4).2.2) := by unfold s_X3_range; rw [if_neg c1, if_neg c63, if_neg c95, if_neg c96, if_neg c97, if_neg c98, if_pos c99]
          exact W.vret hx hb hr (fun t ht hW => by rw [es]; exact ⟨rfl, by rw [ht]; exact hP, hD, hS.F ht⟩) hS.2.2 dX3_range_133
        by_cases c100 : p0 = (4 : Int32)
        · refine lv_tableIn (off := 83) (tgt := 134) hx hb dX3_range_51 (by rw [c100]; decide) (by rw [c100]; decide) (by rw [c100]; decide) (by decide) ?_
          refine lv_lload hx hb dX3_range_134 (lv_at hl 8 rfl) ?_
          refine lv_lconst (v := (0 : Int64)) hx hb dX3_range_136 (by decide) ?_
          refine pl_le (tgt := 162) hx hb dX3_range_137 dX3_range_138 (by decide) (fun c101 => ?_) (fun c101 => ?_)
          · refine lv_iload hx hb dX3_range_162 (lv_at hl 3 rfl) ?_
            refine lv_if_eq (tgt := 182) hx hb dX3_range_164 (by decide) (fun h => absurd h (by decide)) (fun _ => ?_)
            refine lv_iload hx hb dX3_range_167 (lv_at hl 2 rfl) ?_
            refine lv_if_eq (tgt := 182) hx hb dX3_range_169 (by decide) (fun h => absurd h (by decide)) (fun _ => ?_)
            refine lv_aload_n hx hb dX3_range_172 rfl (lv_at hl 4 rfl) ?_
            refine lv_lconst (v := (0 : Int64)) hx hb dX3_range_173 (by decide) ?_
            refine lv_lload hx hb dX3_range_174 (lv_at hl 7 rfl) ?_
            refine wq_callv (wc := [(g0, .inr (2, [.int th, .ref r1, .ref r2, .long fa, .long fb, .int ft, .long xl, .long xh, .long yl, .long yh]))]) (wr := []) (w2 := [(g0, .inr (2, [.int th, .ref r1, .ref r2, .long (0 : Int64), .long p2, .int ft, .long xl, .long xh, .long yl, .long yh]))]) (va_runV (As := [.long (0 : Int64), .long p2]) (rest := []) ⟨hx, hb, hml, hown, hts⟩ (c_X3_between l dC dI g0 r1 r2 s.heap.size th fa fb ft xl xh yl yh (0 : Int64) p2) (cwV 2 hts (gz_l gX3_range_X3_between) rfl rfl rfl ydV_X3_between ⟨Nat.le_of_ble_eq_true rfl, Nat.le_of_ble_eq_true rfl⟩) (wp_V (hK.sub (tys' := []) [] rfl) (hP.sub (ws' := [(g0, .inr (2, [.int th, .ref r1, .ref r2, .long fa, .long fb, .int ft, .long xl, .long xh, .long yl, .long yh]))]) [0] rfl) (hD.sub (ws' := [(g0, .inr (2, [.int th, .ref r1, .ref r2, .long fa, .long fb, .int ft, .long xl, .long xh, .long yl, .long yh]))]) [0] (by decide) rfl)  rfl rfl) rfl rfl hl.1 rfl (lv_room (Nat.le_of_ble_eq_true rfl)) dX3_range_176 ⟨Nat.le_of_ble_eq_true rfl, Nat.le_of_ble_eq_true rfl⟩) hP hD hS hA [0] [] [0] rfl rfl rfl (by decide) rfl rfl (fun H locs hP hD hS => ?_)
            refine lv_goto (tgt := 186) hx hb dX3_range_179 (by decide) ?_
            refine W.widen (k := 4) (n := 24) (by omega) (by omega) ?_
            have es : (s_X3_range ft p0 p1 p2 p3 p4 p5) = ((0 : Int64), p2, ft) := by unfold s_X3_range; rw [if_neg c1, if_neg c63, if_neg c95, if_neg c96, if_neg c97, if_neg c98, if_neg c99, if_pos c100, if_neg c101]
            exact W.vret hx hb hr (fun t ht hW => by rw [es]; exact ⟨rfl, by rw [ht]; exact hP, hD, hS.F ht⟩) hS.2.2 dX3_range_186
          · refine lv_iload hx hb dX3_range_141 (lv_at hl 3 rfl) ?_
            refine lv_if_eq (tgt := 162) hx hb dX3_range_143 (by decide) (fun h => absurd h (by decide)) (fun _ => ?_)
            refine lv_aload_n hx hb dX3_range_146 rfl (lv_at hl 4 rfl) ?_
            refine lv_lload_n hx hb dX3_range_147 rfl (lv_at hl 6 rfl) ?_
            refine lv_lload hx hb dX3_range_148 (lv_at hl 9 rfl) ?_
            refine lv_ldiv hx hb dX3_range_150 (nz_up c101 hrg) ?_
            refine lv_lload hx hb dX3_range_151 (lv_at hl 7 rfl) ?_
            refine lv_lload hx hb dX3_range_153 (lv_at hl 8 rfl) ?_
            refine lv_ldiv hx hb dX3_range_155 (nz_pos c101) ?_
            refine wq_callv (wc := [(g0, .inr (2, [.int th, .ref r1, .ref r2, .long fa, .long fb, .int ft, .long xl, .long xh, .long yl, .long yh]))]) (wr := []) (w2 := [(g0, .inr (2, [.int th, .ref r1, .ref r2, .long (p1 / p4), .long (p2 / p3), .int ft, .long xl, .long xh, .long yl, .long yh]))]) (va_runV (As := [.long (p1 / p4), .long (p2 / p3)]) (rest := []) ⟨hx, hb, hml, hown, hts⟩ (c_X3_between l dC dI g0 r1 r2 s.heap.size th fa fb ft xl xh yl yh (p1 / p4) (p2 / p3)) (cwV 2 hts (gz_l gX3_range_X3_between) rfl rfl rfl ydV_X3_between ⟨Nat.le_of_ble_eq_true rfl, Nat.le_of_ble_eq_true rfl⟩) (wp_V (hK.sub (tys' := []) [] rfl) (hP.sub (ws' := [(g0, .inr (2, [.int th, .ref r1, .ref r2, .long fa, .long fb, .int ft, .long xl, .long xh, .long yl, .long yh]))]) [0] rfl) (hD.sub (ws' := [(g0, .inr (2, [.int th, .ref r1, .ref r2, .long fa, .long fb, .int ft, .long xl, .long xh, .long yl, .long yh]))]) [0] (by decide) rfl)  rfl rfl) rfl rfl hl.1 rfl (lv_room (Nat.le_of_ble_eq_true rfl)) dX3_range_156 ⟨Nat.le_of_ble_eq_true rfl, Nat.le_of_ble_eq_true rfl⟩) hP hD hS hA [0] [] [0] rfl rfl rfl (by decide) rfl rfl (fun H locs hP hD hS => ?_)
            refine lv_goto (tgt := 186) hx hb dX3_range_159 (by decide) ?_
            refine W.widen (k := 4) (n := 24) (by omega) (by omega) ?_
            have es : (s_X3_range ft p0 p1 p2 p3 p4 p5) = ((p1 / p4), (p2 / p3), ft) := by unfold s_X3_range; rw [if_neg c1, if_neg c63, if_neg c95, if_neg c96, if_neg c97, if_neg c98, if_neg c99, if_pos c100, if_pos c101]
            exact W.vret hx hb hr (fun t ht hW => by rw [es]; exact ⟨rfl, by rw [ht]; exact hP, hD, hS.F ht⟩) hS.2.2 dX3_range_186
        by_cases c102 : p0 = (5 : Int32)
        · refine lv_tableIn (off := 136) (tgt := 187) hx hb dX3_range_51 (by rw [c102]; decide) (by rw [c102]; decide) (by rw [c102]; decide) (by decide) ?_
          refine lv_lload hx hb dX3_range_187 (lv_at hl 8 rfl) ?_
          refine lv_lconst (v := (0 : Int64)) hx hb dX3_range_189 (by decide) ?_
          refine pl_le (tgt := 216) hx hb dX3_range_190 dX3_range_191 (by decide) (fun c103 => ?_) (fun c103 => ?_)
          · refine lv_iload hx hb dX3_range_216 (lv_at hl 3 rfl) ?_
            refine lv_if_eq (tgt := 236) hx hb dX3_range_218 (by decide) (fun h => absurd h (by decide)) (fun _ => ?_)
            refine lv_iload hx hb dX3_range_221 (lv_at hl 2 rfl) ?_
            refine lv_if_eq (tgt := 236) hx hb dX3_range_223 (by decide) (fun h => absurd h (by decide)) (fun _ => ?_)
            refine lv_aload_n hx hb dX3_range_226 rfl (lv_at hl 4 rfl) ?_
            refine lv_lconst (v := (0 : Int64)) hx hb dX3_range_227 (by decide) ?_
            refine lv_lload hx hb dX3_range_228 (lv_at hl 7 rfl) ?_
            refine wq_callv (wc := [(g0, .inr (2, [.int th, .ref r1, .ref r2, .long fa, .long fb, .int ft, .long xl, .long xh, .long yl, .long yh]))]) (wr := []) (w2 := [(g0, .inr (2, [.int th, .ref r1, .ref r2, .long (0 : Int64), .long p2, .int ft, .long xl, .long xh, .long yl, .long yh]))]) (va_runV (As := [.long (0 : Int64), .long p2]) (rest := []) ⟨hx, hb, hml, hown, hts⟩ (c_X3_between l dC dI g0 r1 r2 s.heap.size th fa fb ft xl xh yl yh (0 : Int64) p2) (cwV 2 hts (gz_l gX3_range_X3_between) rfl rfl rfl ydV_X3_between ⟨Nat.le_of_ble_eq_true rfl, Nat.le_of_ble_eq_true rfl⟩) (wp_V (hK.sub (tys' := []) [] rfl) (hP.sub (ws' := [(g0, .inr (2, [.int th, .ref r1, .ref r2, .long fa, .long fb, .int ft, .long xl, .long xh, .long yl, .long yh]))]) [0] rfl) (hD.sub (ws' := [(g0, .inr (2, [.int th, .ref r1, .ref r2, .long fa, .long fb, .int ft, .long xl, .long xh, .long yl, .long yh]))]) [0] (by decide) rfl)  rfl rfl) rfl rfl hl.1 rfl (lv_room (Nat.le_of_ble_eq_true rfl)) dX3_range_230 ⟨Nat.le_of_ble_eq_true rfl, Nat.le_of_ble_eq_true rfl⟩) hP hD hS hA [0] [] [0] rfl rfl rfl (by decide) rfl rfl (fun H locs hP hD hS => ?_)
            refine lv_goto (tgt := 240) hx hb dX3_range_233 (by decide) ?_
            refine W.widen (k := 4) (n := 24) (by omega) (by omega) ?_
            have es : (s_X3_range ft p0 p1 p2 p3 p4 p5) = ((0 : Int64), p2, ft) := by unfold s_X3_range; rw [if_neg c1, if_neg c63, if_neg c95, if_neg c96, if_neg c97, if_neg c98, if_neg c99, if_neg c100, if_pos c102, if_neg c103]
            exact W.vret hx hb hr (fun t ht hW => by rw [es]; exact ⟨rfl, by rw [ht]; exact hP, hD, hS.F ht⟩) hS.2.2 dX3_range_240
          · refine lv_iload hx hb dX3_range_194 (lv_at hl 3 rfl) ?_
            refine lv_if_eq (tgt := 216) hx hb dX3_range_196 (by decide) (fun h => absurd h (by decide)) (fun _ => ?_)
            refine lv_aload_n hx hb dX3_range_199 rfl (lv_at hl 4 rfl) ?_
            refine lv_lconst (v := (0 : Int64)) hx hb dX3_range_200 (by decide) ?_
            refine lv_lload hx hb dX3_range_201 (lv_at hl 7 rfl) ?_
            refine lv_lload hx hb dX3_range_203 (lv_at hl 9 rfl) ?_
            refine lv_lconst (v := (1 : Int64)) hx hb dX3_range_205 (by decide) ?_
            refine lv_lsub hx hb dX3_range_206 ?_
            refine pm_min hx hb (hml.trans hl.1.symm) hown hw1 hw2 hw3 hw4 (Nat.le_of_ble_eq_true rfl) (Nat.le_of_ble_eq_true rfl) (Nat.le_of_ble_eq_true rfl) (Nat.le_of_ble_eq_true rfl) dX3_range_207 ?_
            refine wq_callv (wc := [(g0, .inr (2, [.int th, .ref r1, .ref r2, .long fa, .long fb, .int ft, .long xl, .long xh, .long yl, .long yh]))]) (wr := []) (w2 := [(g0, .inr (2, [.int th, .ref r1, .ref r2, .long (0 : Int64), .long (pl_min p2 (p4 - (1 : Int64))), .int ft, .long xl, .long xh, .long yl, .long yh]))]) (va_runV (As := [.long (0 : Int64), .long (pl_min p2 (p4 - (1 : Int64)))]) (rest := []) ⟨hx, hb, hml, hown, hts⟩ (c_X3_between l dC dI g0 r1 r2 s.heap.size th fa fb ft xl xh yl yh (0 : Int64) (pl_min p2 (p4 - (1 : Int64)))) (cwV 2 hts (gz_l gX3_range_X3_between) rfl rfl rfl ydV_X3_between ⟨Nat.le_of_ble_eq_true rfl, Nat.le_of_ble_eq_true rfl⟩) (wp_V (hK.sub (tys' := []) [] rfl) (hP.sub (ws' := [(g0, .inr (2, [.int th, .ref r1, .ref r2, .long fa, .long fb, .int ft, .long xl, .long xh, .long yl, .long yh]))]) [0] rfl) (hD.sub (ws' := [(g0, .inr (2, [.int th, .ref r1, .ref r2, .long fa, .long fb, .int ft, .long xl, .long xh, .long yl, .long yh]))]) [0] (by decide) rfl)  rfl rfl) rfl rfl hl.1 rfl (lv_room (Nat.le_of_ble_eq_true rfl)) dX3_range_210 ⟨Nat.le_of_ble_eq_true rfl, Nat.le_of_ble_eq_true rfl⟩) hP hD hS hA [0] [] [0] rfl rfl rfl (by decide) rfl rfl (fun H locs hP hD hS => ?_)
            refine lv_goto (tgt := 240) hx hb dX3_range_213 (by decide) ?_
            refine W.widen (k := 4) (n := 24) (by omega) (by omega) ?_
            have es : (s_X3_range ft p0 p1 p2 p3 p4 p5) = ((0 : Int64), (pl_min p2 (p4 - (1 : Int64))), ft) := by unfold s_X3_range; rw [if_neg c1, if_neg c63, if_neg c95, if_neg c96, if_neg c97, if_neg c98, if_neg c99, if_neg c100, if_pos c102, if_pos c103]
            exact W.vret hx hb hr (fun t ht hW => by rw [es]; exact ⟨rfl, by rw [ht]; exact hP, hD, hS.F ht⟩) hS.2.2 dX3_range_240
        by_cases c104 : p0 = (6 : Int32)
        · refine lv_tableIn (off := 190) (tgt := 241) hx hb dX3_range_51 (by rw [c104]; decide) (by rw [c104]; decide) (by rw [c104]; decide) (by decide) ?_
          refine lv_iload hx hb dX3_range_241 (lv_at hl 3 rfl) ?_
          refine lv_if_ne (tgt := 251) hx hb dX3_range_243 (by decide) (fun _ => ?_) (fun h => absurd h (by decide))
          refine lv_aload_n hx hb dX3_range_251 rfl (lv_at hl 4 rfl) ?_
          refine lv_lconst (v := (0 : Int64)) hx hb dX3_range_252 (by decide) ?_
          refine lv_iload hx hb dX3_range_253 (lv_at hl 3 rfl) ?_
          refine lv_if_eq (tgt := 273) hx hb dX3_range_255 (by decide) (fun h => absurd h (by decide)) (fun _ => ?_)
          refine lv_iload hx hb dX3_range_258 (lv_at hl 2 rfl) ?_
          refine lv_if_eq (tgt := 273) hx hb dX3_range_260 (by decide) (fun h => absurd h (by decide)) (fun _ => ?_)
          refine lv_lload hx hb dX3_range_263 (lv_at hl 7 rfl) ?_
          refine lv_lload hx hb dX3_range_265 (lv_at hl 9 rfl) ?_
          refine pm_min hx hb (hml.trans hl.1.symm) hown hw1 hw2 hw3 hw4 (Nat.le_of_ble_eq_true rfl) (Nat.le_of_ble_eq_true rfl) (Nat.le_of_ble_eq_true rfl) (Nat.le_of_ble_eq_true rfl) dX3_range_267 ?_
          refine lv_goto (tgt := 285) hx hb dX3_range_270 (by decide) ?_
          refine wq_callv (wc := [(g0, .inr (2, [.int th, .ref r1, .ref r2, .long fa, .long fb, .int ft, .long xl, .long xh, .long yl, .long yh]))]) (wr := []) (w2 := [(g0, .inr (2, [.int th, .ref r1, .ref r2, .long (0 : Int64), .long (pl_min p2 p4), .int ft, .long xl, .long xh, .long yl, .long yh]))]) (va_runV (As := [.long (0 : Int64), .long (pl_min p2 p4)]) (rest := []) ⟨hx, hb, hml, hown, hts⟩ (c_X3_between l dC dI g0 r1 r2 s.heap.size th fa fb ft xl xh yl yh (0 : Int64) (pl_min p2 p4)) (cwV 2 hts (gz_l gX3_range_X3_between) rfl rfl rfl ydV_X3_between ⟨Nat.le_of_ble_eq_true rfl, Nat.le_of_ble_eq_true rfl⟩) (wp_V (hK.sub (tys' := []) [] rfl) (hP.sub (ws' := [(g0, .inr (2, [.int th, .ref r1, .ref r2, .long fa, .long fb, .int ft, .long xl, .long xh, .long yl, .long yh]))]) [0] rfl) (hD.sub (ws' := [(g0, .inr (2, [.int th, .ref r1, .ref r2, .long fa, .long fb, .int ft, .long xl, .long xh, .long yl, .long yh]))]) [0] (by decide) rfl)  rfl rfl) rfl rfl hl.1 rfl (lv_room (Nat.le_of_ble_eq_true rfl)) dX3_range_285 ⟨Nat.le_of_ble_eq_true rfl, Nat.le_of_ble_eq_true rfl⟩) hP hD hS hA [0] [] [0] rfl rfl rfl (by decide) rfl rfl (fun H locs hP hD hS => ?_)
          refine lv_goto (tgt := 295) hx hb dX3_range_288 (by decide) ?_
          refine W.widen (k := 4) (n := 24) (by omega) (by omega) ?_
          have es : (s_X3_range ft p0 p1 p2 p3 p4 p5) = ((0 : Int64), (pl_min p2 p4), ft) := by unfold s_X3_range; rw [if_neg c1, if_neg c63, if_neg c95, if_neg c96, if_neg c97, if_neg c98, if_neg c99, if_neg c100, if_neg c102, if_pos c104]
          exact W.vret hx hb hr (fun t ht hW => by rw [es]; exact ⟨rfl, by rw [ht]; exact hP, hD, hS.F ht⟩) hS.2.2 dX3_range_295
        by_cases c105 : p0 = (7 : Int32)
        · refine lv_tableIn (off := 245) (tgt := 296) hx hb dX3_range_51 (by rw [c105]; decide) (by rw [c105]; decide) (by rw [c105]; decide) (by decide) ?_
          refine lv_iload hx hb dX3_range_296 (lv_at hl 3 rfl) ?_
          refine lv_if_eq (tgt := 358) hx hb dX3_range_298 (by decide) (fun h => absurd h (by decide)) (fun _ => ?_)
          refine lv_iload hx hb dX3_range_301 (lv_at hl 2 rfl) ?_
          refine lv_if_eq (tgt := 358) hx hb dX3_range_303 (by decide) (fun h => absurd h (by decide)) (fun _ => ?_)
          refine lv_lload hx hb dX3_range_306 (lv_at hl 7 rfl) ?_
          refine lv_lload hx hb dX3_range_308 (lv_at hl 9 rfl) ?_
          refine pm_max hx hb (hml.trans hl.1.symm) hown hw5 hw6 hw3 hw7 (Nat.le_of_ble_eq_true rfl) (Nat.le_of_ble_eq_true rfl) (Nat.le_of_ble_eq_true rfl) (Nat.le_of_ble_eq_true rfl) dX3_range_310 ?_
          refine lv_lstore (lv' := [(15, .long (pl_max p2 p4)), (14, .int (p3.toInt32 &&& p5)), (13, .int (0 : Int32)), (12, .int (1 : Int32)), (11, .int (1 : Int32)), (0, .ref g0), (1, .int p0), (2, .long p1), (4, .long p2), (6, .long p3), (8, .long p4), (10, .int p5)]) hx hb dX3_range_313 hl (by decide) rfl (fun ls hl => ?_)
          refine lv_aload_n hx hb dX3_range_315 rfl (lv_at hl 5 rfl) ?_
          refine lv_iload_n hx hb dX3_range_316 rfl (lv_at hl 6 rfl) ?_
          refine lv_bipush (v := (7 : Int32)) hx hb dX3_range_317 (by decide) ?_
          refine lv_icmp_ne (tgt := 331) hx hb dX3_range_319 (by decide) (fun h => absurd (c105) h) (fun _ => ?_)
          refine lv_lload_n hx hb dX3_range_322 rfl (lv_at hl 7 rfl) ?_
          refine lv_lload hx hb dX3_range_323 (lv_at hl 9 rfl) ?_
          refine pm_max hx hb (hml.trans hl.1.symm) hown hw5 hw6 hw3 hw7 (Nat.le_of_ble_eq_true rfl) (Nat.le_of_ble_eq_true rfl) (Nat.le_of_ble_eq_true rfl) (Nat.le_of_ble_eq_true rfl) dX3_range_325 ?_
          refine lv_goto (tgt := 332) hx hb dX3_range_328 (by decide) ?_
          refine lv_lload hx hb dX3_range_332 (lv_at hl 0 rfl) ?_
          refine lv_lconst (v := (0 : Int64)) hx hb dX3_range_334 (by decide) ?_
          refine pl_ne (tgt := 343) hx hb dX3_range_335 dX3_range_336 (by decide) (fun c106 => ?_) (fun c106 => ?_)
          · refine lv_ldc2 (v := (-1 : Int64)) hx hb hown hw0 dX3_range_343 ?_
            refine lv_lload hx hb dX3_range_346 (lv_at hl 0 rfl) ?_
            refine pq_calli (va_runS (As := [.long (pl_max p2 p4)]) (rest := [.long (-1 : Int64), .long (pl_max p1 p3), .ref g0]) ⟨hx, hb, hml, hown, hts⟩ (c_J13_nlz l (pl_max p2 p4)) (va_cwS 1 hts (gz_l gX3_range_J13_numberOfLeadingZeros_95d88) rfl rfl rfl ydS_J13_numberOfLeadingZeros_95d88 ⟨Nat.le_of_ble_eq_true rfl, Nat.le_of_ble_eq_true rfl⟩) ap_S rfl rfl hl.1 rfl (lv_room (Nat.le_of_ble_eq_true rfl)) dX3_range_348 ⟨Nat.le_of_ble_eq_true rfl, Nat.le_of_ble_eq_true rfl⟩) ?_
            refine lv_lushr (v := pl_ushr (-1 : Int64) (s_J13_nlz (pl_max p2 p4))) hx hb dX3_range_351 rfl ?_
            refine wq_callv (wc := [(g0, .inr (2, [.int th, .ref r1, .ref r2, .long fa, .long fb, .int ft, .long xl, .long xh, .long yl, .long yh]))]) (wr := []) (w2 := [(g0, .inr (2, [.int th, .ref r1, .ref r2, .long (pl_max p1 p3), .long (pl_ushr (-1 : Int64) (s_J13_nlz (pl_max p2 p4))), .int ft, .long xl, .long xh, .long yl, .long yh]))]) (va_runV (As := [.long (pl_max p1 p3), .long (pl_ushr (-1 : Int64) (s_J13_nlz (pl_max p2 p4)))]) (rest := []) ⟨hx, hb, hml, hown, hts⟩ (c_X3_between l dC dI g0 r1 r2 s.heap.size th fa fb ft xl xh yl yh (pl_max p1 p3) (pl_ushr (-1 : Int64) (s_J13_nlz (pl_max p2 p4)))) (cwV 2 hts (gz_l gX3_range_X3_between) rfl rfl rfl ydV_X3_between ⟨Nat.le_of_ble_eq_true rfl, Nat.le_of_ble_eq_true rfl⟩) (wp_V (hK.sub (tys' := []) [] rfl) (hP.sub (ws' := [(g0, .inr (2, [.int th, .ref r1, .ref r2, .long fa, .long fb, .int ft, .long xl, .long xh, .long yl, .long yh]))]) [0] rfl) (hD.sub (ws' := [(g0, .inr (2, [.int th, .ref r1, .ref r2, .long fa, .long fb, .int ft, .long xl, .long xh, .long yl, .long yh]))]) [0] (by decide) rfl)  rfl rfl) rfl rfl hl.1 rfl (lv_room (Nat.le_of_ble_eq_true rfl)) dX3_range_352 ⟨Nat.le_of_ble_eq_true rfl, Nat.le_of_ble_eq_true rfl⟩) hP hD hS hA [0] [] [0] rfl rfl rfl (by decide) rfl rfl (fun H locs hP hD hS => ?_)
            refine lv_goto (tgt := 362) hx hb dX3_range_355 (by decide) ?_
            refine W.widen (k := 4) (n := 24) (by omega) (by omega) ?_
            have es : (s_X3_range ft p0 p1 p2 p3 p4 p5) = ((pl_max p1 p3), (pl_ushr (-1 : Int64) (s_J13_nlz (pl_max p2 p4))), ft) := by unfold s_X3_range; rw [if_neg c1, if_neg c63, if_neg c95, if_neg c96, if_neg c97, if_neg c98, if_neg c99, if_neg c100, if_neg c102, if_neg c104, if_pos c105, if_neg c106]
            exact W.vret hx hb hr (fun t ht hW => by rw [es]; exact ⟨rfl, by rw [ht]; exact hP, hD, hS.F ht⟩) hS.2.2 dX3_range_362
          · refine lv_lconst (v := (0 : Int64)) hx hb dX3_range_339 (by decide) ?_
            refine lv_goto (tgt := 352) hx hb dX3_range_340 (by decide) ?_
            refine wq_callv (wc := [(g0, .inr (2, [.int th, .ref r1, .ref r2, .long fa, .long fb, .int ft, .long xl, .long xh, .long yl, .long yh]))]) (wr := []) (w2 := [(g0, .inr (2, [.int th, .ref r1, .ref r2, .long (pl_max p1 p3), .long (0 : Int64), .int ft, .long xl, .long xh, .long yl, .long yh]))]) (va_runV (As := [.long (pl_max p1 p3), .long (0 : Int64)]) (rest := []) ⟨hx, hb, hml, hown, hts⟩ (c_X3_between l dC dI g0 r1 r2 s.heap.size th fa fb ft xl xh yl yh (pl_max p1 p3) (0 : Int64)) (cwV 2 hts (gz_l gX3_range_X3_between) rfl rfl rfl ydV_X3_between ⟨Nat.le_of_ble_eq_true rfl, Nat.le_of_ble_eq_true rfl⟩) (wp_V (hK.sub (tys' := []) [] rfl) (hP.sub (ws' := [(g0, .inr (2, [.int th, .ref r1, .ref r2, .long fa, .long fb, .int ft, .long xl, .long xh, .long yl, .long yh]))]) [0] rfl) (hD.sub (ws' := [(g0, .inr (2, [.int th, .ref r1, .ref r2, .long fa, .long fb, .int ft, .long xl, .long xh, .long yl, .long yh]))]) [0] (by decide) rfl)  rfl rfl) rfl rfl hl.1 rfl (lv_room (Nat.le_of_ble_eq_true rfl)) dX3_range_352 ⟨Nat.le_of_ble_eq_true rfl, Nat.le_of_ble_eq_true rfl⟩) hP hD hS hA [0] [] [0] rfl rfl rfl (by decide) rfl rfl (fun H locs hP hD hS => ?_)
            refine lv_goto (tgt := 362) hx hb dX3_range_355 (by decide) ?_
            refine W.widen (k := 4) (n := 24) (by omega) (by omega) ?_
            have es : (s_X3_range ft p0 p1 p2 p3 p4 p5) = ((pl_max p1 p3), (0 : Int64), ft) := by unfold s_X3_range; rw [if_neg c1, if_neg c63, if_neg c95, if_neg c96, if_neg c97, if_neg c98, if_neg c99, if_neg c100, if_neg c102, if_neg c104, if_pos c105, if_pos c106]
            exact W.vret hx hb hr (fun t ht hW => by rw [es]; exact ⟨rfl, by rw [ht]; exact hP, hD, hS.F ht⟩) hS.2.2 dX3_range_362
        by_cases c107 : p0 = (8 : Int32)
        · refine lv_tableIn (off := 245) (tgt := 296) hx hb dX3_range_51 (by rw [c107]; decide) (by rw [c107]; decide) (by rw [c107]; decide) (by decide) ?_
          refine lv_iload hx hb dX3_range_296 (lv_at hl 3 rfl) ?_
          refine lv_if_eq (tgt := 358) hx hb dX3_range_298 (by decide) (fun h => absurd h (by decide)) (fun _ => ?_)
          refine lv_iload hx hb dX3_range_301 (lv_at hl 2 rfl) ?_
          refine lv_if_eq (tgt := 358) hx hb dX3_range_303 (by decide) (fun h => absurd h (by decide)) (fun _ => ?_)
          refine lv_lload hx hb dX3_range_306 (lv_at hl 7 rfl) ?_
          refine lv_lload hx hb dX3_range_308 (lv_at hl 9 rfl) ?_
          refine pm_max hx hb (hml.trans hl.1.symm) hown hw5 hw6 hw3 hw7 (Nat.le_of_ble_eq_true rfl) (Nat.le_of_ble_eq_true rfl) (Nat.le_of_ble_eq_true rfl) (Nat.le_of_ble_eq_true rfl) dX3_range_310 ?_
          refine lv_lstore (lv' := [(15, .long (pl_max p2 p4)), (14, .int (p3.toInt32 &&& p5)), (13, .int (0 : Int32)), (12, .int (1 : Int32)), (11, .int (1 : Int32)), (0, .ref g0), (1, .int p0), (2, .long p1), (4, .long p2), (6, .long p3), (8, .long p4), (10, .int p5)]) hx hb dX3_range_313 hl (by decide) rfl (fun ls hl => ?_)
          refine lv_aload_n hx hb dX3_range_315 rfl (lv_at hl 5 rfl) ?_
          refine lv_iload_n hx hb dX3_range_316 rfl (lv_at hl 6 rfl) ?_
          refine lv_bipush (v := (7 : Int32)) hx hb dX3_range_317 (by decide) ?_
          refine lv_icmp_ne (tgt := 331) hx hb dX3_range_319 (by decide) (fun _ => ?_) (fun h => absurd h (c105))
          refine lv_lconst (v := (0 : Int64)) hx hb dX3_range_331 (by decide) ?_
          refine lv_lload hx hb dX3_range_332 (lv_at hl 0 rfl) ?_
          refine lv_lconst (v := (0 : Int64)) hx hb dX3_range_334 (by decide) ?_
          refine pl_ne (tgt := 343) hx hb dX3_range_335 dX3_range_336 (by decide) (fun c108 => ?_) (fun c108 => ?_)
          · refine lv_ldc2 (v := (-1 : Int64)) hx hb hown hw0 dX3_range_343 ?_
            refine lv_lload hx hb dX3_range_346 (lv_at hl 0 rfl) ?_
            refine pq_calli (va_runS (As := [.long (pl_max p2 p4)]) (rest := [.long (-1 : Int64), .long (0 : Int64), .ref g0]) ⟨hx, hb, hml, hown, hts⟩ (c_J13_nlz l (pl_max p2 p4)) (va_cwS 1 hts (gz_l gX3_range_J13_numberOfLeadingZeros_95d88) rfl rfl rfl ydS_J13_numberOfLeadingZeros_95d88 ⟨Nat.le_of_ble_eq_true rfl, Nat.le_of_ble_eq_true rfl⟩) ap_S rfl rfl hl.1 rfl (lv_room (Nat.le_of_ble_eq_true rfl)) dX3_range_348 ⟨Nat.le_of_ble_eq_true rfl, Nat.le_of_ble_eq_true rfl⟩) ?_
            refine lv_lushr (v := pl_ushr (-1 : Int64) (s_J13_nlz (pl_max p2 p4))) hx hb dX3_range_351 rfl ?_
            refine wq_callv (wc := [(g0, .inr (2, [.int th, .ref r1, .ref r2, .long fa, .long fb, .int ft, .long xl, .long xh, .long yl, .long yh]))]) (wr := []) (w2 := [(g0, .inr (2, [.int th, .ref r1, .ref r2, .long (0 : Int64), .long (pl_ushr (-1 : Int64) (s_J13_nlz (pl_max p2 p4))), .int ft, .long xl, .long xh, .long yl, .long yh]))]) (va_runV (As := [.long (0 : Int64), .long (pl_ushr (-1 : Int64) (s_J13_nlz (pl_max p2 p4)))]) (rest := []) ⟨hx, hb, hml, hown, hts⟩ (c_X3_between l dC dI g0 r1 r2 s.heap.size th fa fb ft xl xh yl yh (0 : Int64) (pl_ushr (-1 : Int64) (s_J13_nlz (pl_max p2 p4)))) (cwV 2 hts (gz_l gX3_range_X3_between) rfl rfl rfl ydV_X3_between ⟨Nat.le_of_ble_eq_true rfl, Nat.le_of_ble_eq_true rfl⟩) (wp_V (hK.sub (tys' := []) [] rfl) (hP.sub (ws' := [(g0, .inr (2, [.int th, .ref r1, .ref r2, .long fa, .long fb, .int ft, .long xl, .long xh, .long yl, .long yh]))]) [0] rfl) (hD.sub (ws' := [(g0, .inr (2, [.int th, .ref r1, .ref r2, .long fa, .long fb, .int ft, .long xl, .long xh, .long yl, .long yh]))]) [0] (by decide) rfl)  rfl rfl) rfl rfl hl.1 rfl (lv_room (Nat.le_of_ble_eq_true rfl)) dX3_range_352 ⟨Nat.le_of_ble_eq_true rfl, Nat.le_of_ble_eq_true rfl⟩) hP hD hS hA [0] [] [0] rfl rfl rfl (by decide) rfl rfl (fun H locs hP hD hS => ?_)
            refine lv_goto (tgt := 362) hx hb dX3_range_355 (by decide) ?_
            refine W.widen (k := 4) (n := 24) (by omega) (by omega) ?_
            have es : (s_X3_range ft p0 p1 p2 p3 p4 p5) = ((0 : Int64), (pl_ushr (-1 : Int64) (s_J13_nlz (pl_max p2 p4))), ft) := by unfold s_X3_range; rw [if_neg c1, if_neg c63, if_neg c95, if_neg c96, if_neg c97, if_neg c98, if_neg c99, if_neg c100, if_neg c102, if_neg c104, if_neg c105, if_pos c107, if_neg c108]
            exact W.vret hx hb hr (fun t ht hW => by rw [es]; exact ⟨rfl, by rw [ht]; exact hP, hD, hS.F ht⟩) hS.2.2 dX3_range_362
          · refine lv_lconst (v := (0 : Int64)) hx hb dX3_range_339 (by decide) ?_
            refine lv_goto (tgt := 352) hx hb dX3_range_340 (by decide) ?_
            refine wq_callv (wc := [(g0, .inr (2, [.int th, .ref r1, .ref r2, .long fa, .long fb, .int ft, .long xl, .long xh, .long yl, .long yh]))]) (wr := []) (w2 := [(g0, .inr (2, [.int th, .ref r1, .ref r2, .long (0 : Int64), .long (0 : Int64), .int ft, .long xl, .long xh, .long yl, .long yh]))]) (va_runV (As := [.long (0 : Int64), .long (0 : Int64)]) (rest := []) ⟨hx, hb, hml, hown, hts⟩ (c_X3_between l dC dI g0 r1 r2 s.heap.size th fa fb ft xl xh yl yh (0 : Int64) (0 : Int64)) (cwV 2 hts (gz_l gX3_range_X3_between) rfl rfl rfl ydV_X3_between ⟨Nat.le_of_ble_eq_true rfl, Nat.le_of_ble_eq_true rfl⟩) (wp_V (hK.sub (tys' := []) [] rfl) (hP.sub (ws' := [(g0, .inr (2, [.int th, .ref r1, .ref r2, .long fa, .long fb, .int ft, .long xl, .long xh, .long yl, .long yh]))]) [0] rfl) (hD.sub (ws' := [(g0, .inr (2, [.int th, .ref r1, .ref r2, .long fa, .long fb, .int ft, .long xl, .long xh, .long yl, .long yh]))]) [0] (by decide) rfl)  rfl rfl) rfl rfl hl.1 rfl (lv_room (Nat.le_of_ble_eq_true rfl)) dX3_range_352 ⟨Nat.le_of_ble_eq_true rfl, Nat.le_of_ble_eq_true rfl⟩) hP hD hS hA [0] [] [0] rfl rfl rfl (by decide) rfl rfl (fun H locs hP hD hS => ?_)
            refine lv_goto (tgt := 362) hx hb dX3_range_355 (by decide) ?_
            refine W.widen (k := 4) (n := 24) (by omega) (by omega) ?_
            have es : (s_X3_range ft p0 p1 p2 p3 p4 p5) = ((0 : Int64), (0 : Int64), ft) := by unfold s_X3_range; rw [if_neg c1, if_neg c63, if_neg c95, if_neg c96, if_neg c97, if_neg c98, if_neg c99, if_neg c100, if_neg c102, if_neg c104, if_neg c105, if_pos c107, if_pos c108]
            exact W.vret hx hb hr (fun t ht hW => by rw [es]; exact ⟨rfl, by rw [ht]; exact hP, hD, hS.F ht⟩) hS.2.2 dX3_range_362
        by_cases c109 : p0 = (9 : Int32)
        · refine lv_tableIn (off := 312) (tgt := 363) hx hb dX3_range_51 (by rw [c109]; decide) (by rw [c109]; decide) (by rw [c109]; decide) (by decide) ?_
          refine lv_iload hx hb dX3_range_363 (lv_at hl 1 rfl) ?_
          refine lv_if_eq (tgt := 413) hx hb dX3_range_365 (by decide) (fun _ => ?_) (fun h => absurd (by decide) h)
          refine lv_aload_n hx hb dX3_range_413 rfl (lv_at hl 4 rfl) ?_
          refine wq_callv (wc := [(g0, .inr (2, [.int th, .ref r1, .ref r2, .long fa, .long fb, .int ft, .long xl, .long xh, .long yl, .long yh]))]) (wr := []) (w2 := [(g0, .inr (2, [.int th, .ref r1, .ref r2, .long (-9223372036854775808 : Int64), .long (9223372036854775807 : Int64), .int ft, .long xl, .long xh, .long yl, .long yh]))]) (va_runV (As := []) (rest := []) ⟨hx, hb, hml, hown, hts⟩ (c_X3_all l dC dI g0 r1 r2 s.heap.size th fa fb ft xl xh yl yh) (cwV 0 hts (gz_l gX3_range_X3_all) rfl rfl rfl ydV_X3_all ⟨Nat.le_of_ble_eq_true rfl, Nat.le_of_ble_eq_true rfl⟩) (wp_V (hK.sub (tys' := []) [] rfl) (hP.sub (ws' := [(g0, .inr (2, [.int th, .ref r1, .ref r2, .long fa, .long fb, .int ft, .long xl, .long xh, .long yl, .long yh]))]) [0] rfl) (hD.sub (ws' := [(g0, .inr (2, [.int th, .ref r1, .ref r2, .long fa, .long fb, .int ft, .long xl, .long xh, .long yl, .long yh]))]) [0] (by decide) rfl)  rfl rfl) rfl rfl hl.1 rfl (lv_room (Nat.le_of_ble_eq_true rfl)) dX3_range_414 ⟨Nat.le_of_ble_eq_true rfl, Nat.le_of_ble_eq_true rfl⟩) hP hD hS hA [0] [] [0] rfl rfl rfl (by decide) rfl rfl (fun H locs hP hD hS => ?_)
          refine W.widen (k := 4) (n := 24) (by omega) (by omega) ?_
          have es : (s_X3_range ft p0 p1 p2 p3 p4 p5) = ((-9223372036854775808 : Int64), (9223372036854775807 : Int64), ft) := by unfold s_X3_range; rw [if_neg c1, if_neg c63, if_neg c95, if_neg c96, if_neg c97, if_neg c98, if_neg c99, if_neg c100, if_neg c102, if_neg c104, if_neg c105, if_neg c107, if_pos c109]
          exact W.vret hx hb hr (fun t ht hW => by rw [es]; exact ⟨rfl, by rw [ht]; exact hP, hD, hS.F ht⟩) hS.2.2 dX3_range_417
        by_cases c110 : p0 = (10 : Int32)
        · refine lv_tableIn (off := 367) (tgt := 418) hx hb dX3_range_51 (by rw [c110]; decide) (by rw [c110]; decide) (by rw [c110]; decide) (by decide) ?_
          refine lv_iload hx hb dX3_range_418 (lv_at hl 1 rfl) ?_
          refine lv_if_eq (tgt := 473) hx hb dX3_range_420 (by decide) (fun _ => ?_) (fun h => absurd (by decide) h)
          refine lv_iload hx hb dX3_range_473 (lv_at hl 3 rfl) ?_
          refine lv_if_eq (tgt := 488) hx hb dX3_range_475 (by decide) (fun h => absurd h (by decide)) (fun _ => ?_)
          refine lv_aload_n hx hb dX3_range_478 rfl (lv_at hl 4 rfl) ?_
          refine lv_lconst (v := (0 : Int64)) hx hb dX3_range_479 (by decide) ?_
          refine lv_lload hx hb dX3_range_480 (lv_at hl 7 rfl) ?_
          refine wq_callv (wc := [(g0, .inr (2, [.int th, .ref r1, .ref r2, .long fa, .long fb, .int ft, .long xl, .long xh, .long yl, .long yh]))]) (wr := []) (w2 := [(g0, .inr (2, [.int th, .ref r1, .ref r2, .long (0 : Int64), .long p2, .int ft, .long xl, .long xh, .long yl, .long yh]))]) (va_runV (As := [.long (0 : Int64), .long p2]) (rest := []) ⟨hx, hb, hml, hown, hts⟩ (c_X3_between l dC dI g0 r1 r2 s.heap.size th fa fb ft xl xh yl yh (0 : Int64) p2) (cwV 2 hts (gz_l gX3_range_X3_between) rfl rfl rfl ydV_X3_between ⟨Nat.le_of_ble_eq_true rfl, Nat.le_of_ble_eq_true rfl⟩) (wp_V (hK.sub (tys' := []) [] rfl) (hP.sub (ws' := [(g0, .inr (2, [.int th, .ref r1, .ref r2, .long fa, .long fb, .int ft, .long xl, .long xh, .long yl, .long yh]))]) [0] rfl) (hD.sub (ws' := [(g0, .inr (2, [.int th, .ref r1, .ref r2, .long fa, .long fb, .int ft, .long xl, .long xh, .long yl, .long yh]))]) [0] (by decide) rfl)  rfl rfl) rfl rfl hl.1 rfl (lv_room (Nat.le_of_ble_eq_true rfl)) dX3_range_482 ⟨Nat.le_of_ble_eq_true rfl, Nat.le_of_ble_eq_true rfl⟩) hP hD hS hA [0] [] [0] rfl rfl rfl (by decide) rfl rfl (fun H locs hP hD hS => ?_)
          refine lv_goto (tgt := 492) hx hb dX3_range_485 (by decide) ?_
          refine W.widen (k := 4) (n := 24) (by omega) (by omega) ?_
          have es : (s_X3_range ft p0 p1 p2 p3 p4 p5) = ((0 : Int64), p2, ft) := by unfold s_X3_range; rw [if_neg c1, if_neg c63, if_neg c95, if_neg c96, if_neg c97, if_neg c98, if_neg c99, if_neg c100, if_neg c102, if_neg c104, if_neg c105, if_neg c107, if_neg c109, if_pos c110]
          exact W.vret hx hb hr (fun t ht hW => by rw [es]; exact ⟨rfl, by rw [ht]; exact hP, hD, hS.F ht⟩) hS.2.2 dX3_range_492
        by_cases c111 : p0 = (11 : Int32)
        · refine lv_tableIn (off := 442) (tgt := 493) hx hb dX3_range_51 (by rw [c111]; decide) (by rw [c111]; decide) (by rw [c111]; decide) (by decide) ?_
          refine lv_iload hx hb dX3_range_493 (lv_at hl 1 rfl) ?_
          refine lv_if_eq (tgt := 514) hx hb dX3_range_495 (by decide) (fun _ => ?_) (fun h => absurd (by decide) h)
          refine lv_iload hx hb dX3_range_514 (lv_at hl 3 rfl) ?_
          refine lv_if_eq (tgt := 529) hx hb dX3_range_516 (by decide) (fun h => absurd h (by decide)) (fun _ => ?_)
          refine lv_aload_n hx hb dX3_range_519 rfl (lv_at hl 4 rfl) ?_
          refine lv_lconst (v := (0 : Int64)) hx hb dX3_range_520 (by decide) ?_
          refine lv_lload hx hb dX3_range_521 (lv_at hl 7 rfl) ?_
          refine wq_callv (wc := [(g0, .inr (2, [.int th, .ref r1, .ref r2, .long fa, .long fb, .int ft, .long xl, .long xh, .long yl, .long yh]))]) (wr := []) (w2 := [(g0, .inr (2, [.int th, .ref r1, .ref r2, .long (0 : Int64), .long p2, .int ft, .long xl, .long xh, .long yl, .long yh]))]) (va_runV (As := [.long (0 : Int64), .long p2]) (rest := []) ⟨hx, hb, hml, hown, hts⟩ (c_X3_between l dC dI g0 r1 r2 s.heap.size th fa fb ft xl xh yl yh (0 : Int64) p2) (cwV 2 hts (gz_l gX3_range_X3_between) rfl rfl rfl ydV_X3_between ⟨Nat.le_of_ble_eq_true rfl, Nat.le_of_ble_eq_true rfl⟩) (wp_V (hK.sub (tys' := []) [] rfl) (hP.sub (ws' := [(g0, .inr (2, [.int th, .ref r1, .ref r2, .long fa, .long fb, .int ft, .long xl, .long xh, .long yl, .long yh]))]) [0] rfl) (hD.sub (ws' := [(g0, .inr (2, [.int th, .ref r1, .ref r2, .long fa, .long fb, .int ft, .long xl, .long xh, .long yl, .long yh]))]) [0] (by decide) rfl)  rfl rfl) rfl rfl hl.1 rfl (lv_room (Nat.le_of_ble_eq_true rfl)) dX3_range_523 ⟨Nat.le_of_ble_eq_true rfl, Nat.le_of_ble_eq_true rfl⟩) hP hD hS hA [0] [] [0] rfl rfl rfl (by decide) rfl rfl (fun H locs hP hD hS => ?_)
          refine lv_goto (tgt := 533) hx hb dX3_range_526 (by decide) ?_
          refine W.widen (k := 4) (n := 24) (by omega) (by omega) ?_
          have es : (s_X3_range ft p0 p1 p2 p3 p4 p5) = ((0 : Int64), p2, ft) := by unfold s_X3_range; rw [if_neg c1, if_neg c63, if_neg c95, if_neg c96, if_neg c97, if_neg c98, if_neg c99, if_neg c100, if_neg c102, if_neg c104, if_neg c105, if_neg c107, if_neg c109, if_neg c110, if_pos c111]
          exact W.vret hx hb hr (fun t ht hW => by rw [es]; exact ⟨rfl, by rw [ht]; exact hP, hD, hS.F ht⟩) hS.2.2 dX3_range_533
        refine lv_tableOut (tgt := 534) hx hb dX3_range_51 (by have h0 := lv_neT c96 (a := 0) rfl; have h1 := lv_neT c97 (a := 1) rfl; have h2 := lv_neT c98 (a := 2) rfl; have h3 := lv_neT c99 (a := 3) rfl; have h4 := lv_neT c100 (a := 4) rfl; have h5 := lv_neT c102 (a := 5) rfl; have h6 := lv_neT c104 (a := 6) rfl; have h7 := lv_neT c105 (a := 7) rfl; have h8 := lv_neT c107 (a := 8) rfl; have h9 := lv_neT c109 (a := 9) rfl; have h10 := lv_neT c110 (a := 10) rfl; have h11 := lv_neT c111 (a := 11) rfl; omega) (by decide) ?_
        refine lv_aload_n hx hb dX3_range_534 rfl (lv_at hl 4 rfl) ?_
        refine lv_iconst (v := (2 : Int32)) hx hb dX3_range_535 (by decide) ?_
        refine lv_lconst (v := (0 : Int64)) hx hb dX3_range_536 (by decide) ?_
        refine lv_lconst (v := (0 : Int64)) hx hb dX3_range_537 (by decide) ?_
        refine lv_lload_n hx hb dX3_range_538 rfl (lv_at hl 6 rfl) ?_
        refine lv_lload hx hb dX3_range_539 (lv_at hl 7 rfl) ?_
        refine wq_callv (wc := [(g0, .inr (2, [.int th, .ref r1, .ref r2, .long fa, .long fb, .int ft, .long xl, .long xh, .long yl, .long yh]))]) (wr := []) (w2 := [(g0, .inr (2, [.int th, .ref r1, .ref r2, .long ((s_X3_ends (2 : Int32) (0 : Int64) (0 : Int64) p1 p2).1), .long ((s_X3_ends (2 : Int32) (0 : Int64) (0 : Int64) p1 p2).2.1), .int ((s_X3_ends (2 : Int32) (0 : Int64) (0 : Int64) p1 p2).2.2), .long xl, .long xh, .long yl, .long yh]))]) (va_runV (As := [.int (2 : Int32), .long (0 : Int64), .long (0 : Int64), .long p1, .long p2]) (rest := []) ⟨hx, hb, hml, hown, hts⟩ (c_X3_ends l S0 hst dC dI g0 r1 r2 s.heap.size th fa fb ft xl xh yl yh (2 : Int32) (0 : Int64) (0 : Int64) p1 p2 (fun q h => hS1 q (va_free (wc := [(g0, .inr (2, [.int th, .ref r1, .ref r2, .long fa, .long fb, .int ft, .long xl, .long xh, .long yl, .long yh]))]) hD hS hA [0] rfl q h))) (cwV 5 hts (gz_V wz_A_good gX3_range_X3_ends) rfl rfl rfl ydV_X3_ends ⟨Nat.le_of_ble_eq_true rfl, Nat.le_of_ble_eq_true rfl⟩) (twp_V (hK.sub (tys' := []) [] rfl) (hP.sub (ws' := [(g0, .inr (2, [.int th, .ref r1, .ref r2, .long fa, .long fb, .int ft, .long xl, .long xh, .long yl, .long yh]))]) [0] rfl) (hD.sub (ws' := [(g0, .inr (2, [.int th, .ref r1, .ref r2, .long fa, .long fb, .int ft, .long xl, .long xh, .long yl, .long yh]))]) [0] (by decide) rfl) ham rfl rfl) rfl rfl hl.1 rfl (lv_room (Nat.le_of_ble_eq_true rfl)) dX3_range_541 ⟨Nat.le_of_ble_eq_true rfl, Nat.le_of_ble_eq_true rfl⟩) hP hD hS hA [0] [] [0] rfl rfl rfl (by decide) rfl rfl (fun H locs hP hD hS => ?_)
        have es : (s_X3_range ft p0 p1 p2 p3 p4 p5) = ((s_X3_ends (2 : Int32) (0 : Int64) (0 : Int64) p1 p2).1, (s_X3_ends (2 : Int32) (0 : Int64) (0 : Int64) p1 p2).2.1, (s_X3_ends (2 : Int32) (0 : Int64) (0 : Int64) p1 p2).2.2) := by unfold s_X3_range; rw [if_neg c1, if_neg c63, if_neg c95, if_neg c96, if_neg c97, if_neg c98, if_neg c99, if_neg c100, if_neg c102, if_neg c104, if_neg c105, if_neg c107, if_neg c109, if_neg c110, if_neg c111]
        exact W.vret hx hb hr (fun t ht hW => by rw [es]; exact ⟨rfl, by rw [ht]; exact hP, hD, hS.F ht⟩) hS.2.2 dX3_range_544
      · refine lv_iconst (v := (1 : Int32)) hx hb dX3_range_35 (by decide) ?_
        refine lv_goto (tgt := 40) hx hb dX3_range_36 (by decide) ?_
        refine lv_istore (lv' := [(13, .int (1 : Int32)), (12, .int (1 : Int32)), (11, .int (1 : Int32)), (0, .ref g0), (1, .int p0), (2, .long p1), (4, .long p2), (6, .long p3), (8, .long p4), (10, .int p5)]) hx hb dX3_range_40 hl (by decide) rfl (fun ls hl => ?_)
        refine lv_lload hx hb dX3_range_42 (lv_at hl 7 rfl) ?_
        refine lv_l2i (v := p3.toInt32) hx hb dX3_range_44 rfl ?_
        refine lv_iload hx hb dX3_range_45 (lv_at hl 9 rfl) ?_
        refine lv_iand hx hb dX3_range_47 ?_
        refine lv_istore (lv' := [(14, .int (p3.toInt32 &&& p5)), (13, .int (1 : Int32)), (12, .int (1 : Int32)), (11, .int (1 : Int32)), (0, .ref g0), (1, .int p0), (2, .long p1), (4, .long p2), (6, .long p3), (8, .long p4), (10, .int p5)]) hx hb dX3_range_48 hl (by decide) rfl (fun ls hl => ?_)
        refine lv_iload_n hx hb dX3_range_50 rfl (lv_at hl 5 rfl) ?_
        by_cases c112 : p0 = (0 : Int32)
        · refine lv_tableIn (off := 61) (tgt := 112) hx hb dX3_range_51 (by rw [c112]; decide) (by rw [c112]; decide) (by rw [c112]; decide) (by decide) ?_
          refine lv_aload_n hx hb dX3_range_112 rfl (lv_at hl 4 rfl) ?_
          refine lv_lload hx hb dX3_range_113 (lv_at hl 8 rfl) ?_
          refine lv_lload hx hb dX3_range_115 (lv_at hl 9 rfl) ?_
          refine wq_callv (wc := [(g0, .inr (2, [.int th, .ref r1, .ref r2, .long fa, .long fb, .int ft, .long xl, .long xh, .long yl, .long yh]))]) (wr := []) (w2 := [(g0, .inr (2, [.int th, .ref r1, .ref r2, .long p3, .long p4, .int ft, .long xl, .long xh, .long yl, .long yh]))]) (va_runV (As := [.long p3, .long p4]) (rest := []) ⟨hx, hb, hml, hown, hts⟩ (c_X3_between l dC dI g0 r1 r2 s.heap.size th fa fb ft xl xh yl yh p3 p4) (cwV 2 hts (gz_l gX3_range_X3_between) rfl rfl rfl ydV_X3_between ⟨Nat.le_of_ble_eq_true rfl, Nat.le_of_ble_eq_true rfl⟩) (wp_V (hK.sub (tys' := []) [] rfl) (hP.sub (ws' := [(g0, .inr (2, [.int th, .ref r1, .ref r2, .long fa, .long fb, .int ft, .long xl, .long xh, .long yl, .long yh]))]) [0] rfl) (hD.sub (ws' := [(g0, .inr (2, [.int th, .ref r1, .ref r2, .long fa, .long fb, .int ft, .long xl, .long xh, .long yl, .long yh]))]) [0] (by decide) rfl)  rfl rfl) rfl rfl hl.1 rfl (lv_room (Nat.le_of_ble_eq_true rfl)) dX3_range_117 ⟨Nat.le_of_ble_eq_true rfl, Nat.le_of_ble_eq_true rfl⟩) hP hD hS hA [0] [] [0] rfl rfl rfl (by decide) rfl rfl (fun H locs hP hD hS => ?_)
          refine W.widen (k := 4) (n := 24) (by omega) (by omega) ?_
          have es : (s_X3_range ft p0 p1 p2 p3 p4 p5) = (p3, p4, ft) := by unfold s_X3_range; rw [if_neg c1, if_neg c63, if_pos c95, if_pos c112]
          exact W.vret hx hb hr (fun t ht hW => by rw [es]; exact ⟨rfl, by rw [ht]; exact hP, hD, hS.F ht⟩) hS.2.2 dX3_range_120
        by_cases c113 : p0 = (1 : Int32)
        · refine lv_tableIn (off := 70) (tgt := 121) hx hb dX3_range_51 (by rw [c113]; decide) (by rw [c113]; decide) (by rw [c113]; decide) (by decide) ?_
          refine lv_aload_n hx hb dX3_range_121 rfl (lv_at hl 4 rfl) ?_
          refine lv_iload_n hx hb dX3_range_122 rfl (lv_at hl 5 rfl) ?_
          refine lv_lload_n hx hb dX3_range_123 rfl (lv_at hl 6 rfl) ?_
          refine lv_lload hx hb dX3_range_124 (lv_at hl 7 rfl) ?_
          refine lv_lload hx hb dX3_range_126 (lv_at hl 8 rfl) ?_
          refine lv_lload hx hb dX3_range_128 (lv_at hl 9 rfl) ?_
          refine wq_callv (wc := [(g0, .inr (2, [.int th, .ref r1, .ref r2, .long fa, .long fb, .int ft, .long xl, .long xh, .long yl, .long yh]))]) (wr := []) (w2 := [(g0, .inr (2, [.int th, .ref r1, .ref r2, .long ((s_X3_ends p0 p1 p2 p3 p4).1), .long ((s_X3_ends p0 p1 p2 p3 p4).2.1), .int ((s_X3_ends p0 p1 p2 p3 p4).2.2), .long xl, .long xh, .long yl, .long yh]))]) (va_runV (As := [.int p0, .long p1, .long p2, .long p3, .long p4]) (rest := []) ⟨hx, hb, hml, hown, hts⟩ (c_X3_ends l S0 hst dC dI g0 r1 r2 s.heap.size th fa fb ft xl xh yl yh p0 p1 p2 p3 p4 (fun q h => hS1 q (va_free (wc := [(g0, .inr (2, [.int th, .ref r1, .ref r2, .long fa, .long fb, .int ft, .long xl, .long xh, .long yl, .long yh]))]) hD hS hA [0] rfl q h))) (cwV 5 hts (gz_V wz_A_good gX3_range_X3_ends) rfl rfl rfl ydV_X3_ends ⟨Nat.le_of_ble_eq_true rfl, Nat.le_of_ble_eq_true rfl⟩) (twp_V (hK.sub (tys' := []) [] rfl) (hP.sub (ws' := [(g0, .inr (2, [.int th, .ref r1, .ref r2, .long fa, .long fb, .int ft, .long xl, .long xh, .long yl, .long yh]))]) [0] rfl) (hD.sub (ws' := [(g0, .inr (2, [.int th, .ref r1, .ref r2, .long fa, .long fb, .int ft, .long xl, .long xh, .long yl, .long yh]))]) [0] (by decide) rfl) ham rfl rfl) rfl rfl hl.1 rfl (lv_room (Nat.le_of_ble_eq_true rfl)) dX3_range_130 ⟨Nat.le_of_ble_eq_true rfl, Nat.le_of_ble_eq_true rfl⟩) hP hD hS hA [0] [] [0] rfl rfl rfl (by decide) rfl rfl (fun H locs hP hD hS => ?_)
          have es : (s_X3_range ft p0 p1 p2 p3 p4 p5) = ((s_X3_ends p0 p1 p2 p3 p4).1, (s_X3_ends p0 p1 p2 p3 p4).2.1, (s_X3_ends p0 p1 p2 p3 p4).2.2) := by unfold s_X3_range; rw [if_neg c1, if_neg c63, if_pos c95, if_neg c112, if_pos c113]
          exact W.vret hx hb hr (fun t ht hW => by rw [es]; exact ⟨rfl, by rw [ht]; exact hP, hD, hS.F ht⟩) hS.2.2 dX3_range_133
        by_cases c114 : p0 = (2 : Int32)
        · refine lv_tableIn (off := 70) (tgt := 121) hx hb dX3_range_51 (by rw [c114]; decide) (by rw [c114]; decide) (by rw [c114]; decide) (by decide) ?_
          refine lv_aload_n hx hb dX3_range_121 rfl (lv_at hl 4 rfl) ?_
          refine lv_iload_n hx hb dX3_range_122 rfl (lv_at hl 5 rfl) ?_
          refine lv_lload_n hx hb dX3_range_123 rfl (lv_at hl 6 rfl) ?_
          refine lv_lload hx hb dX3_range_124 (lv_at hl 7 rfl) ?_
          refine lv_lload hx hb dX3_range_126 (lv_at hl 8 rfl) ?_
          refine lv_lload hx hb dX3_range_128 (lv_at hl 9 rfl) ?_
          refine wq_callv (wc := [(g0, .inr (2, [.int th, .ref r1, .ref r2, .long fa, .long fb, .int ft, .long xl, .long xh, .long yl, .long yh]))]) (wr := []) (w2 := [(g0, .inr (2, [.int th, .ref r1, .ref r2, .long ((s_X3_ends p0 p1 p2 p3 p4).1), .long ((s_X3_ends p0 p1 p2 p3 p4).2.1), .int ((s_X3_ends p0 p1 p2 p3 p4).2.2), .long xl, .long xh, .long yl, .long yh]))]) (va_runV (As := [.int p0, .long p1, .long p2, .long p3, .long p4]) (rest := []) ⟨hx, hb, hml, hown, hts⟩ (c_X3_ends l S0 hst dC dI g0 r1 r2 s.heap.size th fa fb ft xl xh yl yh p0 p1 p2 p3 p4 (fun q h => hS1 q (va_free (wc := [(g0, .inr (2, [.int th, .ref r1, .ref r2, .long fa, .long fb, .int ft, .long xl, .long xh, .long yl, .long yh]))]) hD hS hA [0] rfl q h))) (cwV 5 hts (gz_V wz_A_good gX3_range_X3_ends) rfl rfl rfl ydV_X3_ends ⟨Nat.le_of_ble_eq_true rfl, Nat.le_of_ble_eq_true rfl⟩) (twp_V (hK.sub (tys' := []) [] rfl) (hP.sub (ws' := [(g0, .inr (2, [.int th, .ref r1, .ref r2, .long fa, .long fb, .int ft, .long xl, .long xh, .long yl, .long yh]))]) [0] rfl) (hD.sub (ws' := [(g0, .inr (2, [.int th, .ref r1, .ref r2, .long fa, .long fb, .int ft, .long xl, .long xh, .long yl, .long yh]))]) [0] (by decide) rfl) ham rfl rfl) rfl rfl hl.1 rfl (lv_room (Nat.le_of_ble_eq_true rfl)) dX3_range_130 ⟨Nat.le_of_ble_eq_true rfl, Nat.le_of_ble_eq_true rfl⟩) hP hD hS hA [0] [] [0] rfl rfl rfl (by decide) rfl rfl (fun H locs hP hD hS => ?_)
          have es : (s_X3_range ft p0 p1 p2 p3 p4 p5) = ((s_X3_ends p0 p1 p2 p3 p4).1, (s_X3_ends p0 p1 p2 p3 p4).2.1, (s_X3_ends p0 p1 p2 p3 p4).2.2) := by unfold s_X3_range; rw [if_neg c1, if_neg c63, if_pos c95, if_neg c112, if_neg c113, if_pos c114]
          exact W.vret hx hb hr (fun t ht hW => by rw [es]; exact ⟨rfl, by rw [ht]; exact hP, hD, hS.F ht⟩) hS.2.2 dX3_range_133
        by_cases c115 : p0 = (3 : Int32)
        · refine lv_tableIn (off := 70) (tgt := 121) hx hb dX3_range_51 (by rw [c115]; decide) (by rw [c115]; decide) (by rw [c115]; decide) (by decide) ?_
          refine lv_aload_n hx hb dX3_range_121 rfl (lv_at hl 4 rfl) ?_
          refine lv_iload_n hx hb dX3_range_122 rfl (lv_at hl 5 rfl) ?_
          refine lv_lload_n hx hb dX3_range_123 rfl (lv_at hl 6 rfl) ?_
          refine lv_lload hx hb dX3_range_124 (lv_at hl 7 rfl) ?_
          refine lv_lload hx hb dX3_range_126 (lv_at hl 8 rfl) ?_
          refine lv_lload hx hb dX3_range_128 (lv_at hl 9 rfl) ?_
          refine wq_callv (wc := [(g0, .inr (2, [.int th, .ref r1, .ref r2, .long fa, .long fb, .int ft, .long xl, .long xh, .long yl, .long yh]))]) (wr := []) (w2 := [(g0, .inr (2, [.int th, .ref r1, .ref r2, .long ((s_X3_ends p0 p1 p2 p3 p4).1), .long ((s_X3_ends p0 p1 p2 p3 p4).2.1), .int ((s_X3_ends p0 p1 p2 p3 p4).2.2), .long xl, .long xh, .long yl, .long yh]))]) (va_runV (As := [.int p0, .long p1, .long p2, .long p3, .long p4]) (rest := []) ⟨hx, hb, hml, hown, hts⟩ (c_X3_ends l S0 hst dC dI g0 r1 r2 s.heap.size th fa fb ft xl xh yl yh p0 p1 p2 p3 p4 (fun q h => hS1 q (va_free (wc := [(g0, .inr (2, [.int th, .ref r1, .ref r2, .long fa, .long fb, .int ft, .long xl, .long xh, .long yl, .long yh]))]) hD hS hA [0] rfl q h))) (cwV 5 hts (gz_V wz_A_good gX3_range_X3_ends) rfl rfl rfl ydV_X3_ends ⟨Nat.le_of_ble_eq_true rfl, Nat.le_of_ble_eq_true rfl⟩) (twp_V (hK.sub (tys' := []) [] rfl) (hP.sub (ws' := [(g0, .inr (2, [.int th, .ref r1, .ref r2, .long fa, .long fb, .int ft, .long xl, .long xh, .long yl, .long yh]))]) [0] rfl) (hD.sub (ws' := [(g0, .inr (2, [.int th, .ref r1, .ref r2, .long fa, .long fb, .int ft, .long xl, .long xh, .long yl, .long yh]))]) [0] (by decide) rfl) ham rfl rfl) rfl rfl hl.1 rfl (lv_room (Nat.le_of_ble_eq_true rfl)) dX3_range_130 ⟨Nat.le_of_ble_eq_true rfl, Nat.le_of_ble_eq_true rfl⟩) hP hD hS hA [0] [] [0] rfl rfl rfl (by decide) rfl rfl (fun H locs hP hD hS => ?_)
          have es : (s_X3_range ft p0 p1 p2 p3 p4 p5) = ((s_X3_ends p0 p1 p2 p3 p4).1, (s_X3_ends p0 p1 p2 p3 p4).2.1, (s_X3_ends p0 p1 p2 p3 p4).2.2) := by unfold s_X3_range; rw [if_neg c1, if_neg c63, if_pos c95, if_neg c112, if_neg c113, if_neg c114, if_pos c115]
          exact W.vret hx hb hr (fun t ht hW => by rw [es]; exact ⟨rfl, by rw [ht]; exact hP, hD, hS.F ht⟩) hS.2.2 dX3_range_133
        by_cases c116 : p0 = (4 : Int32)
        · refine lv_tableIn (off := 83) (tgt := 134) hx hb dX3_range_51 (by rw [c116]; decide) (by rw [c116]; decide) (by rw [c116]; decide) (by decide) ?_
          refine lv_lload hx hb dX3_range_134 (lv_at hl 8 rfl) ?_
          refine lv_lconst (v := (0 : Int64)) hx hb dX3_range_136 (by decide) ?_
          refine pl_le (tgt := 162) hx hb dX3_range_137 dX3_range_138 (by decide) (fun c117 => ?_) (fun c117 => ?_)
          · refine lv_iload hx hb dX3_range_162 (lv_at hl 3 rfl) ?_
            refine lv_if_eq (tgt := 182) hx hb dX3_range_164 (by decide) (fun h => absurd h (by decide)) (fun _ => ?_)
            refine lv_iload hx hb dX3_range_167 (lv_at hl 2 rfl) ?_
            refine lv_if_eq (tgt := 182) hx hb dX3_range_169 (by decide) (fun h => absurd h (by decide)) (fun _ => ?_)
            refine lv_aload_n hx hb dX3_range_172 rfl (lv_at hl 4 rfl) ?_
            refine lv_lconst (v := (0 : Int64)) hx hb dX3_range_173 (by decide) ?_
            refine lv_lload hx hb dX3_range_174 (lv_at hl 7 rfl) ?_
            refine wq_callv (wc := [(g0, .inr (2, [.int th, .ref r1, .ref r2, .long fa, .long fb, .int ft, .long xl, .long xh, .long yl, .long yh]))]) (wr := []) (w2 := [(g0, .inr (2, [.int th, .ref r1, .ref r2, .long (0 : Int64), .long p2, .int ft, .long xl, .long xh, .long yl, .long yh]))]) (va_runV (As := [.long (0 : Int64), .long p2]) (rest := []) ⟨hx, hb, hml, hown, hts⟩ (c_X3_between l dC dI g0 r1 r2 s.heap.size th fa fb ft xl xh yl yh (0 : Int64) p2) (cwV 2 hts (gz_l gX3_range_X3_between) rfl rfl rfl ydV_X3_between ⟨Nat.le_of_ble_eq_true rfl, Nat.le_of_ble_eq_true rfl⟩) (wp_V (hK.sub (tys' := []) [] rfl) (hP.sub (ws' := [(g0, .inr (2, [.int th, .ref r1, .ref r2, .long fa, .long fb, .int ft, .long xl, .long xh, .long yl, .long yh]))]) [0] rfl) (hD.sub (ws' := [(g0, .inr (2, [.int th, .ref r1, .ref r2, .long fa, .long fb, .int ft, .long xl, .long xh, .long yl, .long yh]))]) [0] (by decide) rfl)  rfl rfl) rfl rfl hl.1 rfl (lv_room (Nat.le_of_ble_eq_true rfl)) dX3_range_176 ⟨Nat.le_of_ble_eq_true rfl, Nat.le_of_ble_eq_true rfl⟩) hP hD hS hA [0] [] [0] rfl rfl rfl (by decide) rfl rfl (fun H locs hP hD hS => ?_)
            refine lv_goto (tgt := 186) hx hb dX3_range_179 (by decide) ?_
            refine W.widen (k := 4) (n := 24) (by omega) (by omega) ?_
            have es : (s_X3_range ft p0 p1 p2 p3 p4 p5) = ((0 : Int64), p2, ft) := by unfold s_X3_range; rw [if_neg c1, if_neg c63, if_pos c95, if_neg c112, if_neg c113, if_neg c114, if_neg c115, if_pos c116, if_neg c117]
            exact W.vret hx hb hr (fun t ht hW => by rw [es]; exact ⟨rfl, by rw [ht]; exact hP, hD, hS.F ht⟩) hS.2.2 dX3_range_186
          · refine lv_iload hx hb dX3_range_141 (lv_at hl 3 rfl) ?_
            refine lv_if_eq (tgt := 162) hx hb dX3_range_143 (by decide) (fun h => absurd h (by decide)) (fun _ => ?_)
            refine lv_aload_n hx hb dX3_range_146 rfl (lv_at hl 4 rfl) ?_
            refine lv_lload_n hx hb dX3_range_147 rfl (lv_at hl 6 rfl) ?_
            refine lv_lload hx hb dX3_range_148 (lv_at hl 9 rfl) ?_
            refine lv_ldiv hx hb dX3_range_150 (nz_up c117 hrg) ?_
            refine lv_lload hx hb dX3_range_151 (lv_at hl 7 rfl) ?_
            refine lv_lload hx hb dX3_range_153 (lv_at hl 8 rfl) ?_
            refine lv_ldiv hx hb dX3_range_155 (nz_pos c117) ?_
            refine wq_callv (wc := [(g0, .inr (2, [.int th, .ref r1, .ref r2, .long fa, .long fb, .int ft, .long xl, .long xh, .long yl, .long yh]))]) (wr := []) (w2 := [(g0, .inr (2, [.int th, .ref r1, .ref r2, .long (p1 / p4), .long (p2 / p3), .int ft, .long xl, .long xh, .long yl, .long yh]))]) (va_runV (As := [.long (p1 / p4), .long (p2 / p3)]) (rest := []) ⟨hx, hb, hml, hown, hts⟩ (c_X3_between l dC dI g0 r1 r2 s.heap.size th fa fb ft xl xh yl yh (p1 / p4) (p2 / p3)) (cwV 2 hts (gz_l gX3_range_X3_between) rfl rfl rfl ydV_X3_between ⟨Nat.le_of_ble_eq_true rfl, Nat.le_of_ble_eq_true rfl⟩) (wp_V (hK.sub (tys' := []) [] rfl) (hP.sub (ws' := [(g0, .inr (2, [.int th, .ref r1, .ref r2, .long fa, .long fb, .int ft, .long xl, .long xh, .long yl, .long yh]))]) [0] rfl) (hD.sub (ws' := [(g0, .inr (2, [.int th, .ref r1, .ref r2, .long fa, .long fb, .int ft, .long xl, .long xh, .long yl, .long yh]))]) [0] (by decide) rfl)  rfl rfl) rfl rfl hl.1 rfl (lv_room (Nat.le_of_ble_eq_true rfl)) dX3_range_156 ⟨Nat.le_of_ble_eq_true rfl, Nat.le_of_ble_eq_true rfl⟩) hP hD hS hA [0] [] [0] rfl rfl rfl (by decide) rfl rfl (fun H locs hP hD hS => ?_)
            refine lv_goto (tgt := 186) hx hb dX3_range_159 (by decide) ?_
            refine W.widen (k := 4) (n := 24) (by omega) (by omega) ?_
            have es : (s_X3_range ft p0 p1 p2 p3 p4 p5) = ((p1 / p4), (p2 / p3), ft) := by unfold s_X3_range; rw [if_neg c1, if_neg c63, if_pos c95, if_neg c112, if_neg c113, if_neg c114, if_neg c115, if_pos c116, if_pos c117]
            exact W.vret hx hb hr (fun t ht hW => by rw [es]; exact ⟨rfl, by rw [ht]; exact hP, hD, hS.F ht⟩) hS.2.2 dX3_range_186
        by_cases c118 : p0 = (5 : Int32)
        · refine lv_tableIn (off := 136) (tgt := 187) hx hb dX3_range_51 (by rw [c118]; decide) (by rw [c118]; decide) (by rw [c118]; decide) (by decide) ?_
          refine lv_lload hx hb dX3_range_187 (lv_at hl 8 rfl) ?_
          refine lv_lconst (v := (0 : Int64)) hx hb dX3_range_189 (by decide) ?_
          refine pl_le (tgt := 216) hx hb dX3_range_190 dX3_range_191 (by decide) (fun c119 => ?_) (fun c119 => ?_)
          · refine lv_iload hx hb dX3_range_216 (lv_at hl 3 rfl) ?_
            refine lv_if_eq (tgt := 236) hx hb dX3_range_218 (by decide) (fun h => absurd h (by decide)) (fun _ => ?_)
            refine lv_iload hx hb dX3_range_221 (lv_at hl 2 rfl) ?_
            refine lv_if_eq (tgt := 236) hx hb dX3_range_223 (by decide) (fun h => absurd h (by decide)) (fun _ => ?_)
            refine lv_aload_n hx hb dX3_range_226 rfl (lv_at hl 4 rfl) ?_
            refine lv_lconst (v := (0 : Int64)) hx hb dX3_range_227 (by decide) ?_
            refine lv_lload hx hb dX3_range_228 (lv_at hl 7 rfl) ?_
            refine wq_callv (wc := [(g0, .inr (2, [.int th, .ref r1, .ref r2, .long fa, .long fb, .int ft, .long xl, .long xh, .long yl, .long yh]))]) (wr := []) (w2 := [(g0, .inr (2, [.int th, .ref r1, .ref r2, .long (0 : Int64), .long p2, .int ft, .long xl, .long xh, .long yl, .long yh]))]) (va_runV (As := [.long (0 : Int64), .long p2]) (rest := []) ⟨hx, hb, hml, hown, hts⟩ (c_X3_between l dC dI g0 r1 r2 s.heap.size th fa fb ft xl xh yl yh (0 : Int64) p2) (cwV 2 hts (gz_l gX3_range_X3_between) rfl rfl rfl ydV_X3_between ⟨Nat.le_of_ble_eq_true rfl, Nat.le_of_ble_eq_true rfl⟩) (wp_V (hK.sub (tys' := []) [] rfl) (hP.sub (ws' := [(g0, .inr (2, [.int th, .ref r1, .ref r2, .long fa, .long fb, .int ft, .long xl, .long xh, .long yl, .long yh]))]) [0] rfl) (hD.sub (ws' := [(g0, .inr (2, [.int th, .ref r1, .ref r2, .long fa, .long fb, .int ft, .long xl, .long xh, .long yl, .long yh]))]) [0] (by decide) rfl)  rfl rfl) rfl rfl hl.1 rfl (lv_room (Nat.le_of_ble_eq_true rfl)) dX3_range_230 ⟨Nat.le_of_ble_eq_true rfl, Nat.le_of_ble_eq_true rfl⟩) hP hD hS hA [0] [] [0] rfl rfl rfl (by decide) rfl rfl (fun H locs hP hD hS => ?_)
            refine lv_goto (tgt := 240) hx hb dX3_range_233 (by decide) ?_
            refine W.widen (k := 4) (n := 24) (by omega) (by omega) ?_
            have es : (s_X3_range ft p0 p1 p2 p3 p4 p5) = ((0 : Int64), p2, ft) := by unfold s_X3_range; rw [if_neg c1, if_neg c63, if_pos c95, if_neg c112, if_neg c113, if_neg c114, if_neg c115, if_neg c116, if_pos c118, if_neg c119]
            exact W.vret hx hb hr (fun t ht hW => by rw [es]; exact ⟨rfl, by rw [ht]; exact hP, hD, hS.F ht⟩) hS.2.2 dX3_range_240
          · refine lv_iload hx hb dX3_range_194 (lv_at hl 3 rfl) ?_
            refine lv_if_eq (tgt := 216) hx hb dX3_range_196 (by decide) (fun h => absurd h (by decide)) (fun _ => ?_)
            refine lv_aload_n hx hb dX3_range_199 rfl (lv_at hl 4 rfl) ?_
            refine lv_lconst (v := (0 : Int64)) hx hb dX3_range_200 (by decide) ?_
            refine lv_lload hx hb dX3_range_201 (lv_at hl 7 rfl) ?_
            refine lv_lload hx hb dX3_range_203 (lv_at hl 9 rfl) ?_
            refine lv_lconst (v := (1 : Int64)) hx hb dX3_range_205 (by decide) ?_
            refine lv_lsub hx hb dX3_range_206 ?_
            refine pm_min hx hb (hml.trans hl.1.symm) hown hw1 hw2 hw3 hw4 (Nat.le_of_ble_eq_true rfl) (Nat.le_of_ble_eq_true rfl) (Nat.le_of_ble_eq_true rfl) (Nat.le_of_ble_eq_true rfl) dX3_range_207 ?_
            refine wq_callv (wc := [(g0, .inr (2, [.int th, .ref r1, .ref r2, .long fa, .long fb, .int ft, .long xl, .long xh, .long yl, .long yh]))]) (wr := []) (w2 := [(g0, .inr (2, [.int th, .ref r1, .ref r2, .long (0 : Int64), .long (pl_min p2 (p4 - (1 : Int64))), .int ft, .long xl, .long xh, .long yl, .long yh]))]) (va_runV (As := [.long (0 : Int64), .long (pl_min p2 (p4 - (1 : Int64)))]) (rest := []) ⟨hx, hb, hml, hown, hts⟩ (c_X3_between l dC dI g0 r1 r2 s.heap.size th fa fb ft xl xh yl yh (0 : Int64) (pl_min p2 (p4 - (1 : Int64)))) (cwV 2 hts (gz_l gX3_range_X3_between) rfl rfl rfl ydV_X3_between ⟨Nat.le_of_ble_eq_true rfl, Nat.le_of_ble_eq_true rfl⟩) (wp_V (hK.sub (tys' := []) [] rfl) (hP.sub (ws' := [(g0, .inr (2, [.int th, .ref r1, .ref r2, .long fa, .long fb, .int ft, .long xl, .long xh, .long yl, .long yh]))]) [0] rfl) (hD.sub (ws' := [(g0, .inr (2, [.int th, .ref r1, .ref r2, .long fa, .long fb, .int ft, .long xl, .long xh, .long yl, .long yh]))]) [0] (by decide) rfl)  rfl rfl) rfl rfl hl.1 rfl (lv_room (Nat.le_of_ble_eq_true rfl)) dX3_range_210 ⟨Nat.le_of_ble_eq_true rfl, Nat.le_of_ble_eq_true rfl⟩) hP hD hS hA [0] [] [0] rfl rfl rfl (by decide) rfl rfl (fun H locs hP hD hS => ?_)
            refine lv_goto (tgt := 240) hx hb dX3_range_213 (by decide) ?_
            refine W.widen (k := 4) (n := 24) (by omega) (by omega) ?_
            have es : (s_X3_range ft p0 p1 p2 p3 p4 p5) = ((0 : Int64), (pl_min p2 (p4 - (1 : Int64))), ft) := by unfold s_X3_range; rw [if_neg c1, if_neg c63, if_pos c95, if_neg c112, if_neg c113, if_neg c114, if_neg c115, if_neg c116, if_pos c118, if_pos c119]
            exact W.vret hx hb hr (fun t ht hW => by rw [es]; exact ⟨rfl, by rw [ht]; exact hP, hD, hS.F ht⟩) hS.2.2 dX3_range_240
        by_cases c120 : p0 = (6 : Int32)
        · refine lv_tableIn (off := 190) (tgt := 241) hx hb dX3_range_51 (by rw [c120]; decide) (by rw [c120]; decide) (by rw [c120]; decide) (by decide) ?_
          refine lv_iload hx hb dX3_range_241 (lv_at hl 3 rfl) ?_
          refine lv_if_ne (tgt := 251) hx hb dX3_range_243 (by decide) (fun _ => ?_) (fun h => absurd h (by decide))
          refine lv_aload_n hx hb dX3_range_251 rfl (lv_at hl 4 rfl) ?_
          refine lv_lconst (v := (0 : Int64)) hx hb dX3_range_252 (by decide) ?_
          refine lv_iload hx hb dX3_range_253 (lv_at hl 3 rfl) ?_
          refine lv_if_eq (tgt := 273) hx hb dX3_range_255 (by decide) (fun h => absurd h (by decide)) (fun _ => ?_)
          refine lv_iload hx hb dX3_range_258 (lv_at hl 2 rfl) ?_
          refine lv_if_eq (tgt := 273) hx hb dX3_range_260 (by decide) (fun h => absurd h (by decide)) (fun _ => ?_)
          refine lv_lload hx hb dX3_range_263 (lv_at hl 7 rfl) ?_
          refine lv_lload hx hb dX3_range_265 (lv_at hl 9 rfl) ?_
          refine pm_min hx hb (hml.trans hl.1.symm) hown hw1 hw2 hw3 hw4 (Nat.le_of_ble_eq_true rfl) (Nat.le_of_ble_eq_true rfl) (Nat.le_of_ble_eq_true rfl) (Nat.le_of_ble_eq_true rfl) dX3_range_267 ?_
          refine lv_goto (tgt := 285) hx hb dX3_range_270 (by decide) ?_
          refine wq_callv (wc := [(g0, .inr (2, [.int th, .ref r1, .ref r2, .long fa, .long fb, .int ft, .long xl, .long xh, .long yl, .long yh]))]) (wr := []) (w2 := [(g0, .inr (2, [.int th, .ref r1, .ref r2, .long (0 : Int64), .long (pl_min p2 p4), .int ft, .long xl, .long xh, .long yl, .long yh]))]) (va_runV (As := [.long (0 : Int64), .long (pl_min p2 p4)]) (rest := []) ⟨hx, hb, hml, hown, hts⟩ (c_X3_between l dC dI g0 r1 r2 s.heap.size th fa fb ft xl xh yl yh (0 : Int64) (pl_min p2 p4)) (cwV 2 hts (gz_l gX3_range_X3_between) rfl rfl rfl ydV_X3_between ⟨Nat.le_of_ble_eq_true rfl, Nat.le_of_ble_eq_true rfl⟩) (wp_V (hK.sub (tys' := []) [] rfl) (hP.sub (ws' := [(g0, .inr (2, [.int th, .ref r1, .ref r2, .long fa, .long fb, .int ft, .long xl, .long xh, .long yl, .long yh]))]) [0] rfl) (hD.sub (ws' := [(g0, .inr (2, [.int th, .ref r1, .ref r2, .long fa, .long fb, .int ft, .long xl, .long xh, .long yl, .long yh]))]) [0] (by decide) rfl)  rfl rfl) rfl rfl hl.1 rfl (lv_room (Nat.le_of_ble_eq_true rfl)) dX3_range_285 ⟨Nat.le_of_ble_eq_true rfl, Nat.le_of_ble_eq_true rfl⟩) hP hD hS hA [0] [] [0] rfl rfl rfl (by decide) rfl rfl (fun H locs hP hD hS => ?_)
          refine lv_goto (tgt := 295) hx hb dX3_range_288 (by decide) ?_
          refine W.widen (k := 4) (n := 24) (by omega) (by omega) ?_
          have es : (s_X3_range ft p0 p1 p2 p3 p4 p5) = ((0 : Int64), (pl_min p2 p4), ft) := by unfold s_X3_range; rw [if_neg c1, if_neg c63, if_pos c95, if_neg c112, if_neg c113, if_neg c114, if_neg c115, if_neg c116, if_neg c118, if_pos c120]
          exact W.vret hx hb hr (fun t ht hW => by rw [es]; exact ⟨rfl, by rw [ht]; exact hP, hD, hS.F ht⟩) hS.2.2 dX3_range_295
        by_cases c121 : p0 = (7 : Int32)
        · refine lv_tableIn (off := 245) (tgt := 296) hx hb dX3_range_51 (by rw [c121]; decide) (by rw [c121]; decide) (by rw [c121]; decide) (by decide) ?_
          refine lv_iload hx hb dX3_range_296 (lv_at hl 3 rfl) ?_
          refine lv_if_eq (tgt := 358) hx hb dX3_range_298 (by decide) (fun h => absurd h (by decide)) (fun _ => ?_)
          refine lv_iload hx hb dX3_range_301 (lv_at hl 2 rfl) ?_
          refine lv_if_eq (tgt := 358) hx hb dX3_range_303 (by decide) (fun h => absurd h (by decide)) (fun _ => ?_)
          refine lv_lload hx hb dX3_range_306 (lv_at hl 7 rfl) ?_
          refine lv_lload hx hb dX3_range_308 (lv_at hl 9 rfl) ?_
          refine pm_max hx hb (hml.trans hl.1.symm) hown hw5 hw6 hw3 hw7 (Nat.le_of_ble_eq_true rfl) (Nat.le_of_ble_eq_true rfl) (Nat.le_of_ble_eq_true rfl) (Nat.le_of_ble_eq_true rfl) dX3_range_310 ?_
          refine lv_lstore (lv' := [(15, .long (pl_max p2 p4)), (14, .int (p3.toInt32 &&& p5)), (13, .int (1 : Int32)), (12, .int (1 : Int32)), (11, .int (1 : Int32)), (0, .ref g0), (1, .int p0), (2, .long p1), (4, .long p2), (6, .long p3), (8, .long p4), (10, .int p5)]) hx hb dX3_range_313 hl (by decide) rfl (fun ls hl => ?_)
          refine lv_aload_n hx hb dX3_range_315 rfl (lv_at hl 5 rfl) ?_
          refine lv_iload_n hx hb dX3_range_316 rfl (lv_at hl 6 rfl) ?_
          refine lv_bipush (v := (7 : Int32)) hx hb dX3_range_317 (by decide) ?_
          refine lv_icmp_ne (tgt := 331) hx hb dX3_range_319 (by decide) (fun h => absurd (c121) h) (fun _ => ?_)
          refine lv_lload_n hx hb dX3_range_322 rfl (lv_at hl 7 rfl) ?_
          refine lv_lload hx hb dX3_range_323 (lv_at hl 9 rfl) ?_
          refine pm_max hx hb (hml.trans hl.1.symm) hown hw5 hw6 hw3 hw7 (Nat.le_of_ble_eq_true rfl) (Nat.le_of_ble_eq_true rfl) (Nat.le_of_ble_eq_true rfl) (Nat.le_of_ble_eq_true rfl) dX3_range_325 ?_
          refine lv_goto (tgt := 332) hx hb dX3_range_328 (by decide) ?_
          refine lv_lload hx hb dX3_range_332 (lv_at hl 0 rfl) ?_
          refine lv_lconst (v := (0 : Int64)) hx hb dX3_range_334 (by decide) ?_
          refine pl_ne (tgt := 343) hx hb dX3_range_335 dX3_range_336 (by decide) (fun c122 => ?_) (fun c122 => ?_)
          · refine lv_ldc2 (v := (-1 : Int64)) hx hb hown hw0 dX3_range_343 ?_
            refine lv_lload hx hb dX3_range_346 (lv_at hl 0 rfl) ?_
            refine pq_calli (va_runS (As := [.long (pl_max p2 p4)]) (rest := [.long (-1 : Int64), .long (pl_max p1 p3), .ref g0]) ⟨hx, hb, hml, hown, hts⟩ (c_J13_nlz l (pl_max p2 p4)) (va_cwS 1 hts (gz_l gX3_range_J13_numberOfLeadingZeros_95d88) rfl rfl rfl ydS_J13_numberOfLeadingZeros_95d88 ⟨Nat.le_of_ble_eq_true rfl, Nat.le_of_ble_eq_true rfl⟩) ap_S rfl rfl hl.1 rfl (lv_room (Nat.le_of_ble_eq_true rfl)) dX3_range_348 ⟨Nat.le_of_ble_eq_true rfl, Nat.le_of_ble_eq_true rfl⟩) ?_
            refine lv_lushr (v := pl_ushr (-1 : Int64) (s_J13_nlz (pl_max p2 p4))) hx hb dX3_range_351 rfl ?_
            refine wq_callv (wc := [(g0, .inr (2, [.int th, .ref r1, .ref r2, .long fa, .long fb, .int ft, .long xl, .long xh, .long yl, .long yh]))]) (wr := []) (w2 := [(g0, .inr (2, [.int th, .ref r1, .ref r2, .long (pl_max p1 p3), .long (pl_ushr (-1 : Int64) (s_J13_nlz (pl_max p2 p4))), .int ft, .long xl, .long xh, .long yl, .long yh]))]) (va_runV (As := [.long (pl_max p1 p3), .long (pl_ushr (-1 : Int64) (s_J13_nlz (pl_max p2 p4)))]) (rest := []) ⟨hx, hb, hml, hown, hts⟩ (c_X3_between l dC dI g0 r1 r2 s.heap.size th fa fb ft xl xh yl yh (pl_max p1 p3) (pl_ushr (-1 : Int64) (s_J13_nlz (pl_max p2 p4)))) (cwV 2 hts (gz_l gX3_range_X3_between) rfl rfl rfl ydV_X3_between ⟨Nat.le_of_ble_eq_true rfl, Nat.le_of_ble_eq_true rfl⟩) (wp_V (hK.sub (tys' := []) [] rfl) (hP.sub (ws' := [(g0, .inr (2, [.int th, .ref r1, .ref r2, .long fa, .long fb, .int ft, .long xl, .long xh, .long yl, .long yh]))]) [0] rfl) (hD.sub (ws' := [(g0, .inr (2, [.int th, .ref r1, .ref r2, .long fa, .long fb, .int ft, .long xl, .long xh, .long yl, .long yh]))]) [0] (by decide) rfl)  rfl rfl) rfl rfl hl.1 rfl (lv_room (Nat.le_of_ble_eq_true rfl)) dX3_range_352 ⟨Nat.le_of_ble_eq_true rfl, Nat.le_of_ble_eq_true rfl⟩) hP hD hS hA [0] [] [0] rfl rfl rfl (by decide) rfl rfl (fun H locs hP hD hS => ?_)
            refine lv_goto (tgt := 362) hx hb dX3_range_355 (by decide) ?_
            refine W.widen (k := 4) (n := 24) (by omega) (by omega) ?_
            have es : (s_X3_range ft p0 p1 p2 p3 p4 p5) = ((pl_max p1 p3), (pl_ushr (-1 : Int64) (s_J13_nlz (pl_max p2 p4))), ft) := by unfold s_X3_range; rw [if_neg c1, if_neg c63, if_pos c95, if_neg c112, if_neg c113, if_neg c114, if_neg c115, if_neg c116, if_neg c118, if_neg c120, if_pos c121, if_neg c122]
            exact W.vret hx hb hr (fun t ht hW => by rw [es]; exact ⟨rfl, by rw [ht]; exact hP, hD, hS.F ht⟩) hS.2.2 dX3_range_362
          · refine lv_lconst (v := (0 : Int64)) hx hb dX3_range_339 (by decide) ?_
            refine lv_goto (tgt := 352) hx hb dX3_range_340 (by decide) ?_
            refine wq_callv (wc := [(g0, .inr (2, [.int th, .ref r1, .ref r2, .long fa, .long fb, .int ft, .long xl, .long xh, .long yl, .long yh]))]) (wr := []) (w2 := [(g0, .inr (2, [.int th, .ref r1, .ref r2, .long (pl_max p1 p3), .long (0 : Int64), .int ft, .long xl, .long xh, .long yl, .long yh]))]) (va_runV (As := [.long (pl_max p1 p3), .long (0 : Int64)]) (rest := []) ⟨hx, hb, hml, hown, hts⟩ (c_X3_between l dC dI g0 r1 r2 s.heap.size th fa fb ft xl xh yl yh (pl_max p1 p3) (0 : Int64)) (cwV 2 hts (gz_l gX3_range_X3_between) rfl rfl rfl ydV_X3_between ⟨Nat.le_of_ble_eq_true rfl, Nat.le_of_ble_eq_true rfl⟩) (wp_V (hK.sub (tys' := []) [] rfl) (hP.sub (ws' := [(g0, .inr (2, [.int th, .ref r1, .ref r2, .long fa, .long fb, .int ft, .long xl, .long xh, .long yl, .long yh]))]) [0] rfl) (hD.sub (ws' := [(g0, .inr (2, [.int th, .ref r1, .ref r2, .long fa, .long fb, .int ft, .long xl, .long xh, .long yl, .long yh]))]) [0] (by decide) rfl)  rfl rfl) rfl rfl hl.1 rfl (lv_room (Nat.le_of_ble_eq_true rfl)) dX3_range_352 ⟨Nat.le_of_ble_eq_true rfl, Nat.le_of_ble_eq_true rfl⟩) hP hD hS hA [0] [] [0] rfl rfl rfl (by decide) rfl rfl (fun H locs hP hD hS => ?_)
            refine lv_goto (tgt := 362) hx hb dX3_range_355 (by decide) ?_
            refine W.widen (k := 4) (n := 24) (by omega) (by omega) ?_
            have es : (s_X3_range ft p0 p1 p2 p3 p4 p5) = ((pl_max p1 p3), (0 : Int64), ft) := by unfold s_X3_range; rw [if_neg c1, if_neg c63, if_pos c95, if_neg c112, if_neg c113, if_neg c114, if_neg c115, if_neg c116, if_neg c118, if_neg c120, if_pos c121, if_pos c122]
            exact W.vret hx hb hr (fun t ht hW => by rw [es]; exact ⟨rfl, by rw [ht]; exact hP, hD, hS.F ht⟩) hS.2.2 dX3_range_362
        by_cases c123 : p0 = (8 : Int32)
        · refine lv_tableIn (off := 245) (tgt := 296) hx hb dX3_range_51 (by rw [c123]; decide) (by rw [c123]; decide) (by rw [c123]; decide) (by decide) ?_
          refine lv_iload hx hb dX3_range_296 (lv_at hl 3 rfl) ?_
          refine lv_if_eq (tgt := 358) hx hb dX3_range_298 (by decide) (fun h => absurd h (by decide)) (fun _ => ?_)
          refine lv_iload hx hb dX3_range_301 (lv_at hl 2 rfl) ?_
          refine lv_if_eq (tgt := 358) hx hb dX3_range_303 (by decide) (fun h => absurd h (by decide)) (fun _ => ?_)
          refine lv_lload hx hb dX3_range_306 (lv_at hl 7 rfl) ?_
          refine lv_lload hx hb dX3_range_308 (lv_at hl 9 rfl) ?_
          refine pm_max hx hb (hml.trans hl.1.symm) hown hw5 hw6 hw3 hw7 (Nat.le_of_ble_eq_true rfl) (Nat.le_of_ble_eq_true rfl) (Nat.le_of_ble_eq_true rfl) (Nat.le_of_ble_eq_true rfl) dX3_range_310 ?_
          refine lv_lstore (lv' := [(15, .long (pl_max p2 p4)), (14, .int (p3.toInt32 &&& p5)), (13, .int (1 : Int32)), (12, .int (1 : Int32)), (11, .int (1 : Int32)), (0, .ref g0), (1, .int p0), (2, .long p1), (4, .long p2), (6, .long p3), (8, .long p4), (10, .int p5)]) hx hb dX3_range_313 hl (by decide) rfl (fun ls hl => ?_)
          refine lv_aload_n hx hb dX3_range_315 rfl (lv_at hl 5 rfl) ?_
          refine lv_iload_n hx hb dX3_range_316 rfl (lv_at hl 6 rfl) ?_
          refine lv_bipush (v := (7 : Int32)) hx hb dX3_range_317 (by decide) ?_
          refine lv_icmp_ne (tgt := 331) hx hb dX3_range_319 (by decide) (fun _ => ?_) (fun h => absurd h (c121))
          refine lv_lconst (v := (0 : Int64)) hx hb dX3_range_331 (by decide) ?_
          refine lv_lload hx hb dX3_range_332 (lv_at hl 0 rfl) ?_
          refine lv_lconst (v := (0 : Int64)) hx hb dX3_range_334 (by decide) ?_
          refine pl_ne (tgt := 343) hx hb dX3_range_335 dX3_range_336 (by decide) (fun c124 => ?_) (fun c124 => ?_)
          · refine lv_ldc2 (v := (-1 : Int64)) hx hb hown hw0 dX3_range_343 ?_
            refine lv_lload hx hb dX3_range_346 (lv_at hl 0 rfl) ?_
            refine pq_calli (va_runS (As := [.long (pl_max p2 p4)]) (rest := [.long (-1 : Int64), .long (0 : Int64), .ref g0]) ⟨hx, hb, hml, hown, hts⟩ (c_J13_nlz l (pl_max p2 p4)) (va_cwS 1 hts (gz_l gX3_range_J13_numberOfLeadingZeros_95d88) rfl rfl rfl ydS_J13_numberOfLeadingZeros_95d88 ⟨Nat.le_of_ble_eq_true rfl, Nat.le_of_ble_eq_true rfl⟩) ap_S rfl rfl hl.1 rfl (lv_room (Nat.le_of_ble_eq_true rfl)) dX3_range_348 ⟨Nat.le_of_ble_eq_true rfl, Nat.le_of_ble_eq_true rfl⟩) ?_
            refine lv_lushr (v := pl_ushr (-1 : Int64) (s_J13_nlz (pl_max p2 p4))) hx hb dX3_range_351 rfl ?_
            refine wq_callv (wc := [(g0, .inr (2, [.int th, .ref r1, .ref r2, .long fa, .long fb, .int ft, .long xl, .long xh, .long yl, .long yh]))]) (wr := []) (w2 := [(g0, .inr (2, [.int th, .ref r1, .ref r2, .long (0 : Int64), .long (pl_ushr (-1 : Int64) (s_J13_nlz (pl_max p2 p4))), .int ft, .long xl, .long xh, .long yl, .long yh]))]) (va_runV (As := [.long (0 : Int64), .long (pl_ushr (-1 : Int64) (s_J13_nlz (pl_max p2 p4)))]) (rest := []) ⟨hx, hb, hml, hown, hts⟩ (c_X3_between l dC dI g0 r1 r2 s.heap.size th fa fb ft xl xh yl yh (0 : Int64) (pl_ushr (-1 : Int64) (s_J13_nlz (pl_max p2 p4)))) (cwV 2 hts (gz_l gX3_range_X3_between) rfl rfl rfl ydV_X3_between ⟨Nat.le_of_ble_eq_true rfl, Nat.le_of_ble_eq_true rfl⟩) (wp_V (hK.sub (tys' := []) [] rfl) (hP.sub (ws' := [(g0, .inr (2, [.int th, .ref r1, .ref r2, .long fa, .long fb, .int ft, .long xl, .long xh, .long yl, .long yh]))]) [0] rfl) (hD.sub (ws' := [(g0, .inr (2, [.int th, .ref r1, .ref r2, .long fa, .long fb, .int ft, .long xl, .long xh, .long yl, .long yh]))]) [0] (by decide) rfl)  rfl rfl) rfl rfl hl.1 rfl (lv_room (Nat.le_of_ble_eq_true rfl)) dX3_range_352 ⟨Nat.le_of_ble_eq_true rfl, Nat.le_of_ble_eq_true rfl⟩) hP hD hS hA [0] [] [0] rfl rfl rfl (by decide) rfl rfl (fun H locs hP hD hS => ?_)
            refine lv_goto (tgt := 362) hx hb dX3_range_355 (by decide) ?_
            refine W.widen (k := 4) (n := 24) (by omega) (by omega) ?_
            have es : (s_X3_range ft p0 p1 p2 p3 p4 p5) = ((0 : Int64), (pl_ushr (-1 : Int64) (s_J13_nlz (pl_max p2 p4))), ft) := by unfold s_X3_range; rw [if_neg c1, if_neg c63, if_pos c95, if_neg c112, if_neg c113, if_neg c114, if_neg c115, if_neg c116, if_neg c118, if_neg c120, if_neg c121, if_pos c123, if_neg c124]
            exact W.vret hx hb hr (fun t ht hW => by rw [es]; exact ⟨rfl, by rw [ht]; exact hP, hD, hS.F ht⟩) hS.2.2 dX3_range_362
          · refine lv_lconst (v := (0 : Int64)) hx hb dX3_range_339 (by decide) ?_
            refine lv_goto (tgt := 352) hx hb dX3_range_340 (by decide) ?_
            refine wq_callv (wc := [(g0, .inr (2, [.int th, .ref r1, .ref r2, .long fa, .long fb, .int ft, .long xl, .long xh, .long yl, .long yh]))]) (wr := []) (w2 := [(g0, .inr (2, [.int th, .ref r1, .ref r2, .long (0 : Int64), .long (0 : Int64), .int ft, .long xl, .long xh, .long yl, .long yh]))]) (va_runV (As := [.long (0 : Int64), .long (0 : Int64)]) (rest := []) ⟨hx, hb, hml, hown, hts⟩ (c_X3_between l dC dI g0 r1 r2 s.heap.size th fa fb ft xl xh yl yh (0 : Int64) (0 : Int64)) (cwV 2 hts (gz_l gX3_range_X3_between) rfl rfl rfl ydV_X3_between ⟨Nat.le_of_ble_eq_true rfl, Nat.le_of_ble_eq_true rfl⟩) (wp_V (hK.sub (tys' := []) [] rfl) (hP.sub (ws' := [(g0, .inr (2, [.int th, .ref r1, .ref r2, .long fa, .long fb, .int ft, .long xl, .long xh, .long yl, .long yh]))]) [0] rfl) (hD.sub (ws' := [(g0, .inr (2, [.int th, .ref r1, .ref r2, .long fa, .long fb, .int ft, .long xl, .long xh, .long yl, .long yh]))]) [0] (by decide) rfl)  rfl rfl) rfl rfl hl.1 rfl (lv_room (Nat.le_of_ble_eq_true rfl)) dX3_range_352 ⟨Nat.le_of_ble_eq_true rfl, Nat.le_of_ble_eq_true rfl⟩) hP hD hS hA [0] [] [0] rfl rfl rfl (by decide) rfl rfl (fun H locs hP hD hS => ?_)
            refine lv_goto (tgt := 362) hx hb dX3_range_355 (by decide) ?_
            refine W.widen (k := 4) (n := 24) (by omega) (by omega) ?_
            have es : (s_X3_range ft p0 p1 p2 p3 p4 p5) = ((0 : Int64), (0 : Int64), ft) := by unfold s_X3_range; rw [if_neg c1, if_neg c63, if_pos c95, if_neg c112, if_neg c113, if_neg c114, if_neg c115, if_neg c116, if_neg c118, if_neg c120, if_neg c121, if_pos c123, if_pos c124]
            exact W.vret hx hb hr (fun t ht hW => by rw [es]; exact ⟨rfl, by rw [ht]; exact hP, hD, hS.F ht⟩) hS.2.2 dX3_range_362
        by_cases c125 : p0 = (9 : Int32)
        · refine lv_tableIn (off := 312) (tgt := 363) hx hb dX3_range_51 (by rw [c125]; decide) (by rw [c125]; decide) (by rw [c125]; decide) (by decide) ?_
          refine lv_iload hx hb dX3_range_363 (lv_at hl 1 rfl) ?_
          refine lv_if_eq (tgt := 413) hx hb dX3_range_365 (by decide) (fun h => absurd h (by decide)) (fun _ => ?_)
          refine lv_iload hx hb dX3_range_368 (lv_at hl 3 rfl) ?_
          refine lv_if_eq (tgt := 413) hx hb dX3_range_370 (by decide) (fun h => absurd h (by decide)) (fun _ => ?_)
          refine lv_lload hx hb dX3_range_373 (lv_at hl 7 rfl) ?_
          refine lv_iload hx hb dX3_range_375 (lv_at hl 0 rfl) ?_
          refine lv_lshl (v := pl_shl p2 (p3.toInt32 &&& p5)) hx hb dX3_range_377 rfl ?_
          refine lv_lconst (v := (0 : Int64)) hx hb dX3_range_378 (by decide) ?_
          refine pl_lt (tgt := 413) hx hb dX3_range_379 dX3_range_380 (by decide) (fun c126 => ?_) (fun c126 => ?_)
          · refine lv_aload_n hx hb dX3_range_413 rfl (lv_at hl 4 rfl) ?_
            refine wq_callv (wc := [(g0, .inr (2, [.int th, .ref r1, .ref r2, .long fa, .long fb, .int ft, .long xl, .long xh, .long yl, .long yh]))]) (wr := []) (w2 := [(g0, .inr (2, [.int th, .ref r1, .ref r2, .long (-9223372036854775808 : Int64), .long (9223372036854775807 : Int64), .int ft, .long xl, .long xh, .long yl, .long yh]))]) (va_runV (As := []) (rest := []) ⟨hx, hb, hml, hown, hts⟩ (c_X3_all l dC dI g0 r1 r2 s.heap.size th fa fb ft xl xh yl yh) (cwV 0 hts (gz_l gX3_range_X3_all) rfl rfl rfl ydV_X3_all ⟨Nat.le_of_ble_eq_true rfl, Nat.le_of_ble_eq_true rfl⟩) (wp_V (hK.sub (tys' := []) [] rfl) (hP.sub (ws' := [(g0, .inr (2, [.int th, .ref r1, .ref r2, .long fa, .long fb, .int ft, .long xl, .long xh, .long yl, .long yh]))]) [0] rfl) (hD.sub (ws' := [(g0, .inr (2, [.int th, .ref r1, .ref r2, .long fa, .long fb, .int ft, .long xl, .long xh, .long yl, .long yh]))]) [0] (by decide) rfl)  rfl rfl) rfl rfl hl.1 rfl (lv_room (Nat.le_of_ble_eq_true rfl)) dX3_range_414 ⟨Nat.le_of_ble_eq_true rfl, Nat.le_of_ble_eq_true rfl⟩) hP hD hS hA [0] [] [0] rfl rfl rfl (by decide) rfl rfl (fun H locs hP hD hS => ?_)
            refine W.widen (k := 4) (n := 24) (by omega) (by omega) ?_
            have es : (s_X3_range ft p0 p1 p2 p3 p4 p5) = ((-9223372036854775808 : Int64), (9223372036854775807 : Int64), ft) := by unfold s_X3_range; rw [if_neg c1, if_neg c63, if_pos c95, if_neg c112, if_neg c113, if_neg c114, if_neg c115, if_neg c116, if_neg c118, if_neg c120, if_neg c121, if_neg c123, if_pos c125, if_pos c126]
            exact W.vret hx hb hr (fun t ht hW => by rw [es]; exact ⟨rfl, by rw [ht]; exact hP, hD, hS.F ht⟩) hS.2.2 dX3_range_417
          · refine lv_lload hx hb dX3_range_383 (lv_at hl 7 rfl) ?_
            refine lv_iload hx hb dX3_range_385 (lv_at hl 0 rfl) ?_
            refine lv_lshl (v := pl_shl p2 (p3.toInt32 &&& p5)) hx hb dX3_range_387 rfl ?_
            refine lv_iload hx hb dX3_range_388 (lv_at hl 0 rfl) ?_
            refine lv_lshr (v := pl_shr (pl_shl p2 (p3.toInt32 &&& p5)) (p3.toInt32 &&& p5)) hx hb dX3_range_390 rfl ?_
            refine lv_lload hx hb dX3_range_391 (lv_at hl 7 rfl) ?_
            refine pl_ne (tgt := 413) hx hb dX3_range_393 dX3_range_394 (by decide) (fun c127 => ?_) (fun c127 => ?_)
            · refine lv_aload_n hx hb dX3_range_413 rfl (lv_at hl 4 rfl) ?_
              refine wq_callv (wc := [(g0, .inr (2, [.int th, .ref r1, .ref r2, .long fa, .long fb, .int ft, .long xl, .long xh, .long yl, .long yh]))]) (wr := []) (w2 := [(g0, .inr (2, [.int th, .ref r1, .ref r2, .long (-9223372036854775808 : Int64), .long (9223372036854775807 : Int64), .int ft, .long xl, .long xh, .long yl, .long yh]))]) (va_runV (As := []) (rest := []) ⟨hx, hb, hml, hown, hts⟩ (c_X3_all l dC dI g0 r1 r2 s.heap.size th fa fb ft xl xh yl yh) (cwV 0 hts (gz_l gX3_range_X3_all) rfl rfl rfl ydV_X3_all ⟨Nat.le_of_ble_eq_true rfl, Nat.le_of_ble_eq_true rfl⟩) (wp_V (hK.sub (tys' := []) [] rfl) (hP.sub (ws' := [(g0, .inr (2, [.int th, .ref r1, .ref r2, .long fa, .long fb, .int ft, .long xl, .long xh, .long yl, .long yh]))]) [0] rfl) (hD.sub (ws' := [(g0, .inr (2, [.int th, .ref r1, .ref r2, .long fa, .long fb, .int ft, .long xl, .long xh, .long yl, .long yh]))]) [0] (by decide) rfl)  rfl rfl) rfl rfl hl.1 rfl (lv_room (Nat.le_of_ble_eq_true rfl)) dX3_range_414 ⟨Nat.le_of_ble_eq_true rfl, Nat.le_of_ble_eq_true rfl⟩) hP hD hS hA [0] [] [0] rfl rfl rfl (by decide) rfl rfl (fun H locs hP hD hS => ?_)
              refine W.widen (k := 4) (n := 24) (by omega) (by omega) ?_
              have es : (s_X3_range ft p0 p1 p2 p3 p4 p5) = ((-9223372036854775808 : Int64), (9223372036854775807 : Int64), ft) := by unfold s_X3_range; rw [if_neg c1, if_neg c63, if_pos c95, if_neg c112, if_neg c113, if_neg c114, if_neg c115, if_neg c116, if_neg c118, if_neg c120, if_neg c121, if_neg c123, if_pos c125, if_neg c126, if_neg c127]
              exact W.vret hx hb hr (fun t ht hW => by rw [es]; exact ⟨rfl, by rw [ht]; exact hP, hD, hS.F ht⟩) hS.2.2 dX3_range_417
            · refine lv_aload_n hx hb dX3_range_397 rfl (lv_at hl 4 rfl) ?_
              refine lv_lload_n hx hb dX3_range_398 rfl (lv_at hl 6 rfl) ?_
              refine lv_iload hx hb dX3_range_399 (lv_at hl 0 rfl) ?_
              refine lv_lshl (v := pl_shl p1 (p3.toInt32 &&& p5)) hx hb dX3_range_401 rfl ?_
              refine lv_lload hx hb dX3_range_402 (lv_at hl 7 rfl) ?_
              refine lv_iload hx hb dX3_range_404 (lv_at hl 0 rfl) ?_
              refine lv_lshl (v := pl_shl p2 (p3.toInt32 &&& p5)) hx hb dX3_range_406 rfl ?_
              refine wq_callv (wc := [(g0, .inr (2, [.int th, .ref r1, .ref r2, .long fa, .long fb, .int ft, .long xl, .long xh, .long yl, .long yh]))]) (wr := []) (w2 := [(g0, .inr (2, [.int th, .ref r1, .ref r2, .long (pl_shl p1 (p3.toInt32 &&& p5)), .long (pl_shl p2 (p3.toInt32 &&& p5)), .int ft, .long xl, .long xh, .long yl, .long yh]))]) (va_runV (As := [.long (pl_shl p1 (p3.toInt32 &&& p5)), .long (pl_shl p2 (p3.toInt32 &&& p5))]) (rest := []) ⟨hx, hb, hml, hown, hts⟩ (c_X3_between l dC dI g0 r1 r2 s.heap.size th fa fb ft xl xh yl yh (pl_shl p1 (p3.toInt32 &&& p5)) (pl_shl p2 (p3.toInt32 &&& p5))) (cwV 2 hts (gz_l gX3_range_X3_between) rfl rfl rfl ydV_X3_between ⟨Nat.le_of_ble_eq_true rfl, Nat.le_of_ble_eq_true rfl⟩) (wp_V (hK.sub (tys' := []) [] rfl) (hP.sub (ws' := [(g0, .inr (2, [.int th, .ref r1, .ref r2, .long fa, .long fb, .int ft, .long xl, .long xh, .long yl, .long yh]))]) [0] rfl) (hD.sub (ws' := [(g0, .inr (2, [.int th, .ref r1, .ref r2, .long fa, .long fb, .int ft, .long xl, .long xh, .long yl, .long yh]))]) [0] (by decide) rfl)  rfl rfl) rfl rfl hl.1 rfl (lv_room (Nat.le_of_ble_eq_true rfl)) dX3_range_407 ⟨Nat.le_of_ble_eq_true rfl, Nat.le_of_ble_eq_true rfl⟩) hP hD hS hA [0] [] [0] rfl rfl rfl (by decide) rfl rfl (fun H locs hP hD hS => ?_)
              refine lv_goto (tgt := 417) hx hb dX3_range_410 (by decide) ?_
              refine W.widen (k := 4) (n := 24) (by omega) (by omega) ?_
              have es : (s_X3_range ft p0 p1 p2 p3 p4 p5) = ((pl_shl p1 (p3.toInt32 &&& p5)), (pl_shl p2 (p3.toInt32 &&& p5)), ft) := by unfold s_X3_range; rw [if_neg c1, if_neg c63, if_pos c95, if_neg c112, if_neg c113, if_neg c114, if_neg c115, if_neg c116, if_neg c118, if_neg c120, if_neg c121, if_neg c123, if_pos c125, if_neg c126, if_pos c127]
              exact W.vret hx hb hr (fun t ht hW => by rw [es]; exact ⟨rfl, by rw [ht]; exact hP, hD, hS.F ht⟩) hS.2.2 dX3_range_417
        by_cases c128 : p0 = (10 : Int32)
        · refine lv_tableIn (off := 367) (tgt := 418) hx hb dX3_range_51 (by rw [c128]; decide) (by rw [c128]; decide) (by rw [c128]; decide) (by decide) ?_
          refine lv_iload hx hb dX3_range_418 (lv_at hl 1 rfl) ?_
          refine lv_if_eq (tgt := 473) hx hb dX3_range_420 (by decide) (fun h => absurd h (by decide)) (fun _ => ?_)
          refine lv_iload hx hb dX3_range_423 (lv_at hl 3 rfl) ?_
          refine lv_if_eq (tgt := 444) hx hb dX3_range_425 (by decide) (fun h => absurd h (by decide)) (fun _ => ?_)
          refine lv_aload_n hx hb dX3_range_428 rfl (lv_at hl 4 rfl) ?_
          refine lv_lload_n hx hb dX3_range_429 rfl (lv_at hl 6 rfl) ?_
          refine lv_iload hx hb dX3_range_430 (lv_at hl 0 rfl) ?_
          refine lv_lshr (v := pl_shr p1 (p3.toInt32 &&& p5)) hx hb dX3_range_432 rfl ?_
          refine lv_lload hx hb dX3_range_433 (lv_at hl 7 rfl) ?_
          refine lv_iload hx hb dX3_range_435 (lv_at hl 0 rfl) ?_
          refine lv_lshr (v := pl_shr p2 (p3.toInt32 &&& p5)) hx hb dX3_range_437 rfl ?_
          refine wq_callv (wc := [(g0, .inr (2, [.int th, .ref r1, .ref r2, .long fa, .long fb, .int ft, .long xl, .long xh, .long yl, .long yh]))]) (wr := []) (w2 := [(g0, .inr (2, [.int th, .ref r1, .ref r2, .long (pl_shr p1 (p3.toInt32 &&& p5)), .long (pl_shr p2 (p3.toInt32 &&& p5)), .int ft, .long xl, .long xh, .long yl, .long yh]))]) (va_runV (As := [.long (pl_shr p1 (p3.toInt32 &&& p5)), .long (pl_shr p2 (p3.toInt32 &&& p5))]) (rest := []) ⟨hx, hb, hml, hown, hts⟩ (c_X3_between l dC dI g0 r1 r2 s.heap.size th fa fb ft xl xh yl yh (pl_shr p1 (p3.toInt32 &&& p5)) (pl_shr p2 (p3.toInt32 &&& p5))) (cwV 2 hts (gz_l gX3_range_X3_between) rfl rfl rfl ydV_X3_between ⟨Nat.le_of_ble_eq_true rfl, Nat.le_of_ble_eq_true rfl⟩) (wp_V (hK.sub (tys' := []) [] rfl) (hP.sub (ws' := [(g0, .inr (2, [.int th, .ref r1, .ref r2, .long fa, .long fb, .int ft, .long xl, .long xh, .long yl, .long yh]))]) [0] rfl) (hD.sub (ws' := [(g0, .inr (2, [.int th, .ref r1, .ref r2, .long fa, .long fb, .int ft, .long xl, .long xh, .long yl, .long yh]))]) [0] (by decide) rfl)  rfl rfl) rfl rfl hl.1 rfl (lv_room (Nat.le_of_ble_eq_true rfl)) dX3_range_438 ⟨Nat.le_of_ble_eq_true rfl, Nat.le_of_ble_eq_true rfl⟩) hP hD hS hA [0] [] [0] rfl rfl rfl (by decide) rfl rfl (fun H locs hP hD hS => ?_)
          refine lv_goto (tgt := 492) hx hb dX3_range_441 (by decide) ?_
          refine W.widen (k := 4) (n := 24) (by omega) (by omega) ?_
          have es : (s_X3_range ft p0 p1 p2 p3 p4 p5) = ((pl_shr p1 (p3.toInt32 &&& p5)), (pl_shr p2 (p3.toInt32 &&& p5)), ft) := by unfold s_X3_range; rw [if_neg c1, if_neg c63, if_pos c95, if_neg c112, if_neg c113, if_neg c114, if_neg c115, if_neg c116, if_neg c118, if_neg c120, if_neg c121, if_neg c123, if_neg c125, if_pos c128]
          exact W.vret hx hb hr (fun t ht hW => by rw [es]; exact ⟨rfl, by rw [ht]; exact hP, hD, hS.F ht⟩) hS.2.2 dX3_range_492
        by_cases c129 : p0 = (11 : Int32)
        · refine lv_tableIn (off := 442) (tgt := 493) hx hb dX3_range_51 (by rw [c129]; decide) (by rw [c129]; decide) (by rw [c129]; decide) (by decide) ?_
          refine lv_iload hx hb dX3_range_493 (lv_at hl 1 rfl) ?_
          refine lv_if_eq (tgt := 514) hx hb dX3_range_495 (by decide) (fun h => absurd h (by decide)) (fun _ => ?_)
          refine lv_aload_n hx hb dX3_range_498 rfl (lv_at hl 4 rfl) ?_
          refine lv_lload_n hx hb dX3_range_499 rfl (lv_at hl 6 rfl) ?_
          refine lv_iload hx hb dX3_range_500 (lv_at hl 0 rfl) ?_
          refine lv_lshr (v := pl_shr p1 (p3.toInt32 &&& p5)) hx hb dX3_range_502 rfl ?_
          refine lv_lload hx hb dX3_range_503 (lv_at hl 7 rfl) ?_
          refine lv_iload hx hb dX3_range_505 (lv_at hl 0 rfl) ?_
          refine lv_lshr (v := pl_shr p2 (p3.toInt32 &&& p5)) hx hb dX3_range_507 rfl ?_
          refine wq_callv (wc := [(g0, .inr (2, [.int th, .ref r1, .ref r2, .long fa, .long fb, .int ft, .long xl, .long xh, .long yl, .long yh]))]) (wr := []) (w2 := [(g0, .inr (2, [.int th, .ref r1, .ref r2, .long (pl_shr p1 (p3.toInt32 &&& p5)), .long (pl_shr p2 (p3.toInt32 &&& p5)), .int ft, .long xl, .long xh, .long yl, .long yh]))]) (va_runV (As := [.long (pl_shr p1 (p3.toInt32 &&& p5)), .long (pl_shr p2 (p3.toInt32 &&& p5))]) (rest := []) ⟨hx, hb, hml, hown, hts⟩ (c_X3_between l dC dI g0 r1 r2 s.heap.size th fa fb ft xl xh yl yh (pl_shr p1 (p3.toInt32 &&& p5)) (pl_shr p2 (p3.toInt32 &&& p5))) (cwV 2 hts (gz_l gX3_range_X3_between) rfl rfl rfl ydV_X3_between ⟨Nat.le_of_ble_eq_true rfl, Nat.le_of_ble_eq_true rfl⟩) (wp_V (hK.sub (tys' := []) [] rfl) (hP.sub (ws' := [(g0, .inr (2, [.int th, .ref r1, .ref r2, .long fa, .long fb, .int ft, .long xl, .long xh, .long yl, .long yh]))]) [0] rfl) (hD.sub (ws' := [(g0, .inr (2, [.int th, .ref r1, .ref r2, .long fa, .long fb, .int ft, .long xl, .long xh, .long yl, .long yh]))]) [0] (by decide) rfl)  rfl rfl) rfl rfl hl.1 rfl (lv_room (Nat.le_of_ble_eq_true rfl)) dX3_range_508 ⟨Nat.le_of_ble_eq_true rfl, Nat.le_of_ble_eq_true rfl⟩) hP hD hS hA [0] [] [0] rfl rfl rfl (by decide) rfl rfl (fun H locs hP hD hS => ?_)
          refine lv_goto (tgt := 533) hx hb dX3_range_511 (by decide) ?_
          refine W.widen (k := 4) (n := 24) (by omega) (by omega) ?_
          have es : (s_X3_range ft p0 p1 p2 p3 p4 p5) = ((pl_shr p1 (p3.toInt32 &&& p5)), (pl_shr p2 (p3.toInt32 &&& p5)), ft) := by unfold s_X3_range; rw [if_neg c1, if_neg c63, if_pos c95, if_neg c112, if_neg c113, if_neg c114, if_neg c115, if_neg c116, if_neg c118, if_neg c120, if_neg c121, if_neg c123, if_neg c125, if_neg c128, if_pos c129]
          exact W.vret hx hb hr (fun t ht hW => by rw [es]; exact ⟨rfl, by rw [ht]; exact hP, hD, hS.F ht⟩) hS.2.2 dX3_range_533
        refine lv_tableOut (tgt := 534) hx hb dX3_range_51 (by have h0 := lv_neT c112 (a := 0) rfl; have h1 := lv_neT c113 (a := 1) rfl; have h2 := lv_neT c114 (a := 2) rfl; have h3 := lv_neT c115 (a := 3) rfl; have h4 := lv_neT c116 (a := 4) rfl; have h5 := lv_neT c118 (a := 5) rfl; have h6 := lv_neT c120 (a := 6) rfl; have h7 := lv_neT c121 (a := 7) rfl; have h8 := lv_neT c123 (a := 8) rfl; have h9 := lv_neT c125 (a := 9) rfl; have h10 := lv_neT c128 (a := 10) rfl; have h11 := lv_neT c129 (a := 11) rfl; omega) (by decide) ?_
        refine lv_aload_n hx hb dX3_range_534 rfl (lv_at hl 4 rfl) ?_
        refine lv_iconst (v := (2 : Int32)) hx hb dX3_range_535 (by decide) ?_
        refine lv_lconst (v := (0 : Int64)) hx hb dX3_range_536 (by decide) ?_
        refine lv_lconst (v := (0 : Int64)) hx hb dX3_range_537 (by decide) ?_
        refine lv_lload_n hx hb dX3_range_538 rfl (lv_at hl 6 rfl) ?_
        refine lv_lload hx hb dX3_range_539 (lv_at hl 7 rfl) ?_
        refine wq_callv (wc := [(g0, .inr (2, [.int th, .ref r1, .ref r2, .long fa, .long fb, .int ft, .long xl, .long xh, .long yl, .long yh]))]) (wr := []) (w2 := [(g0, .inr (2, [.int th, .ref r1, .ref r2, .long ((s_X3_ends (2 : Int32) (0 : Int64) (0 : Int64) p1 p2).1), .long ((s_X3_ends (2 : Int32) (0 : Int64) (0 : Int64) p1 p2).2.1), .int ((s_X3_ends (2 : Int32) (0 : Int64) (0 : Int64) p1 p2).2.2), .long xl, .long xh, .long yl, .long yh]))]) (va_runV (As := [.int (2 : Int32), .long (0 : Int64), .long (0 : Int64), .long p1, .long p2]) (rest := []) ⟨hx, hb, hml, hown, hts⟩ (c_X3_ends l S0 hst dC dI g0 r1 r2 s.heap.size th fa fb ft xl xh yl yh (2 : Int32) (0 : Int64) (0 : Int64) p1 p2 (fun q h => hS1 q (va_free (wc := [(g0, .inr (2, [.int th, .ref r1, .ref r2, .long fa, .long fb, .int ft, .long xl, .long xh, .long yl, .long yh]))]) hD hS hA [0] rfl q h))) (cwV 5 hts (gz_V wz_A_good gX3_range_X3_ends) rfl rfl rfl ydV_X3_ends ⟨Nat.le_of_ble_eq_true rfl, Nat.le_of_ble_eq_true rfl⟩) (twp_V (hK.sub (tys' := []) [] rfl) (hP.sub (ws' := [(g0, .inr (2, [.int th, .ref r1, .ref r2, .long fa, .long fb, .int ft, .long xl, .long xh, .long yl, .long yh]))]) [0] rfl) (hD.sub (ws' := [(g0, .inr (2, [.int th, .ref r1, .ref r2, .long fa, .long fb, .int ft, .long xl, .long xh, .long yl, .long yh]))]) [0] (by decide) rfl) ham rfl rfl) rfl rfl hl.1 rfl (lv_room (Nat.le_of_ble_eq_true rfl)) dX3_range_541 ⟨Nat.le_of_ble_eq_true rfl, Nat.le_of_ble_eq_true rfl⟩) hP hD hS hA [0] [] [0] rfl rfl rfl (by decide) rfl rfl (fun H locs hP hD hS => ?_)
        have es : (s_X3_range ft p0 p1 p2 p3 p4 p5) = ((s_X3_ends (2 : Int32) (0 : Int64) (0 : Int64) p1 p2).1, (s_X3_ends (2 : Int32) (0 : Int64) (0 : Int64) p1 p2).2.1, (s_X3_ends (2 : Int32) (0 : Int64) (0 : Int64) p1 p2).2.2) := by unfold s_X3_range; rw [if_neg c1, if_neg c63, if_pos c95, if_neg c112, if_neg c113, if_neg c114, if_neg c115, if_neg c116, if_neg c118, if_neg c120, if_neg c121, if_neg c123, if_neg c125, if_neg c128, if_neg c129]
        exact W.vret hx hb hr (fun t ht hW => by rw [es]; exact ⟨rfl, by rw [ht]; exact hP, hD, hS.F ht⟩) hS.2.2 dX3_range_544
