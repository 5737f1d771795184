theorem ydV_X3_apart : yX3_apart.cls = RX3 ∧ yX3_apart.cls ≠ "java/lang/invoke/MethodHandle" ∧ yX3_apart.cls ≠ "java/lang/invoke/VarHandle" ∧ (parseMethodDescriptor yX3_apart.desc).map (fun d => d.parameters.length) = some 0 := by decide +kernel
theorem ydV_X3_below : yX3_below.cls = RX3 ∧ yX3_below.cls ≠ "java/lang/invoke/MethodHandle" ∧ yX3_below.cls ≠ "java/lang/invoke/VarHandle" ∧ (parseMethodDescriptor yX3_below.desc).map (fun d => d.parameters.length) = some 2 := by decide +kernel
theorem ydV_X3_between : yX3_between.cls = RX3 ∧ yX3_between.cls ≠ "java/lang/invoke/MethodHandle" ∧ yX3_between.cls ≠ "java/lang/invoke/VarHandle" ∧ (parseMethodDescriptor yX3_between.desc).map (fun d => d.parameters.length) = some 2 := by decide +kernel
theorem ydV_X3_turn : yX3_turn.cls = RX3 ∧ yX3_turn.cls ≠ "java/lang/invoke/MethodHandle" ∧ yX3_turn.cls ≠ "java/lang/invoke/VarHandle" ∧ (parseMethodDescriptor yX3_turn.desc).map (fun d => d.parameters.length) = some 0 := by decide +kernel
def s_X3_thrown (th : Int32) : Int32 :=
  th
set_option maxHeartbeats 4000000 in
set_option maxRecDepth 100000 in
theorem c_X3_thrown (l : Launch) (dC : Nat → ClassId) (dI : Nat → Nat → Nat) (g0 r1 r2 : Nat) (th : Int32) (fa : Int64) (fb : Int64) (ft : Int32) (xl : Int64) (xh : Int64) (yl : Int64) (yh : Int64) : Met l yX3_thrown wsX3_thrown ({ frames := 0, cells := 0, slots := 0, locals := 0 }) (rp (dC, dI) vwCl [] [.ref g0] [(g0, .inr (2, [.int th, .ref r1, .ref r2, .long fa, .long fb, .int ft, .long xl, .long xh, .long yl, .long yh]))]) (pq (some (.int (s_X3_thrown th)))) 0 0 (fun _ => False) := by
  refine Met.ofW (cc := cX3_thrown) (maxL := 1) (ret := (some .int)) (by decide) rfl ?_
  intro p e s m args below meth c s₁ B hml hv
  obtain ⟨rfl, hP, hK⟩ := hv
  have hx := B.exec
  have hb := B.bytes
  have hr := B.returns
  have hts := atoms_spec (ws := wsX3_thrown) B.pre
  have hown : s.vm.findClass RX3 = some m.cls := findClass_of_methodNamed B.named
  have hlocks := B.notSynchronized
  have hP : va_P (dC, dI) vwCl [(g0, .inr (2, [.int th, .ref r1, .ref r2, .long fa, .long fb, .int ft, .long xl, .long xh, .long yl, .long yh]))] s.heap := hP
  have hl := lv_entry ([.ref g0]) (n := 1) (Nat.le_of_ble_eq_true rfl)
  rw [lg_entry_eq]
  generalize (lg_sl ([.ref g0]) ++ List.replicate (1 - (lg_sl ([.ref g0])).length) Slot.unset).toArray = ls at hl ⊢
  have hl : lv_has ls 1 [(0, .ref g0)] := hl
  have hw0 := hts (.fieldLink RX3 18 "RangeBoxModel" "thrown" "I") (List.mem_of_getElem? (i := 1) rfl)
  have hi_RX3 : ∀ w ∈ wsX30, w ∈ wsX3_thrown := fun _ h => List.mem_cons_of_mem _ (List.mem_append_right _ h)
  refine lv_aload_n hx hb dX3_thrown_0 rfl (lv_at hl 0 rfl) ?_
  refine va_get (D := (dC, dI)) (ci := 2) (v := .int th) (C := RX3) (T := TX3) (N := 10) hx hb hts hi_RX3 hown hK hP 0 rfl rfl 0 (by decide) hw0 (fun _ h9 => h9) rfl dX3_thrown_1 ?_
  have es : (s_X3_thrown th) = th := rfl
  exact W.iret (v := th) hx hb hr (fun t ht hW => by rw [es]; exact ⟨rfl, ht⟩) (fun q h => nomatch h) dX3_thrown_4

def s_X3_no (p0 : Int32) : Int32 × Int32 :=
  ((0 : Int32), p0)
set_option maxHeartbeats 4000000 in
set_option maxRecDepth 100000 in
theorem c_X3_no (l : Launch) (dC : Nat → ClassId) (dI : Nat → Nat → Nat) (g0 r1 r2 sz : Nat) (th : Int32) (fa : Int64) (fb : Int64) (ft : Int32) (xl : Int64) (xh : Int64) (yl : Int64) (yh : Int64) (p0 : Int32) : Met l yX3_no wsX3_no ({ frames := 0, cells := 0, slots := 0, locals := 0 }) (wp9 (dC, dI) vwCl [] [.ref g0, .int p0] sz [(g0, .inr (2, [.int th, .ref r1, .ref r2, .long fa, .long fb, .int ft, .long xl, .long xh, .long yl, .long yh]))]) (wq (some (.int ((s_X3_no p0).1))) (dC, dI) vwCl [(g0, .inr (2, [.int ((s_X3_no p0).2), .ref r1, .ref r2, .long fa, .long fb, .int ft, .long xl, .long xh, .long yl, .long yh]))] (va_A [(g0, .inr (2, [.int th, .ref r1, .ref r2, .long fa, .long fb, .int ft, .long xl, .long xh, .long yl, .long yh]))] sz)) 0 0 (va_A [(g0, .inr (2, [.int th, .ref r1, .ref r2, .long fa, .long fb, .int ft, .long xl, .long xh, .long yl, .long yh]))] sz) := by
  refine Met.ofW (cc := cX3_no) (maxL := 2) (ret := (some .int)) (by decide) rfl ?_
  intro p e s m args below meth c s₁ B hml hv
  obtain ⟨rfl, hsz, hP, hK, hD0⟩ := hv
  have hx := B.exec
  have hb := B.bytes
  have hr := B.returns
  have hts := atoms_spec (ws := wsX3_no) B.pre
  have hown : s.vm.findClass RX3 = some m.cls := findClass_of_methodNamed B.named
  have hlocks := B.notSynchronized
  subst hsz
  have hD := hD0.self (sz := s.heap.size)
  generalize hAe : va_A [(g0, .inr (2, [.int th, .ref r1, .ref r2, .long fa, .long fb, .int ft, .long xl, .long xh, .long yl, .long yh]))] s.heap.size = A at hD ⊢
  have hA : ∀ q : Nat, s.heap.size ≤ q → A q := fun q h => by rw [← hAe]; exact Or.inr h
  have hS : va_S A s.heap s.heap [] := va_S.rf
  have hP : va_P (dC, dI) vwCl [(g0, .inr (2, [.int th, .ref r1, .ref r2, .long fa, .long fb, .int ft, .long xl, .long xh, .long yl, .long yh]))] s.heap := hP
  have hl := lv_entry ([.ref g0, .int p0]) (n := 2) (Nat.le_of_ble_eq_true rfl)
  rw [lg_entry_eq]
  generalize (lg_sl ([.ref g0, .int p0]) ++ List.replicate (2 - (lg_sl ([.ref g0, .int p0])).length) Slot.unset).toArray = ls at hl ⊢
  have hl : lv_has ls 2 [(0, .ref g0), (1, .int p0)] := hl
  have hw0 := hts (.fieldLink RX3 18 "RangeBoxModel" "thrown" "I") (List.mem_of_getElem? (i := 1) rfl)
  have hi_RX3 : ∀ w ∈ wsX30, w ∈ wsX3_no := fun _ h => List.mem_cons_of_mem _ (List.mem_append_right _ h)
  refine lv_aload_n hx hb dX3_no_0 rfl (lv_at hl 0 rfl) ?_
  refine lv_iload_n hx hb dX3_no_1 rfl (lv_at hl 1 rfl) ?_
  refine va_put (D := (dC, dI)) (ci := 2) (v := .int p0) (ty := .int) (C := RX3) (T := TX3) (N := 10) hx hb hts hi_RX3 tyX3 tyX3_ok nmX3 hown hK hP hD hS 0 rfl rfl 0 (by decide) hw0 (fun _ h9 => h9) rfl (tyX3_ok 0 (by decide)) rfl rfl (Nat.le_of_ble_eq_true rfl) dX3_no_2 (fun H locs hP hD hS => ?_)
  have hP : va_P (dC, dI) vwCl [(g0, .inr (2, [.int p0, .ref r1, .ref r2, .long fa, .long fb, .int ft, .long xl, .long xh, .long yl, .long yh]))] H := hP
  have hD : va_D A [(g0, .inr (2, [.int p0, .ref r1, .ref r2, .long fa, .long fb, .int ft, .long xl, .long xh, .long yl, .long yh]))] := hD
  refine lv_iconst (v := (0 : Int32)) hx hb dX3_no_5 (by decide) ?_
  have es : (s_X3_no p0) = ((0 : Int32), p0) := rfl
  exact W.iret (v := (0 : Int32)) hx hb hr (fun t ht hW => by rw [es]; exact ⟨rfl, by rw [ht]; exact hP, hD, hS.F ht⟩) hS.2.2 dX3_no_6

def s_X3_all : Int64 × Int64 :=
  ((-9223372036854775808 : Int64), (9223372036854775807 : Int64))
set_option maxHeartbeats 4000000 in
set_option maxRecDepth 100000 in
theorem c_X3_all (l : Launch) (dC : Nat → ClassId) (dI : Nat → Nat → Nat) (g0 r1 r2 sz : Nat) (th : Int32) (fa : Int64) (fb : Int64) (ft : Int32) (xl : Int64) (xh : Int64) (yl : Int64) (yh : Int64) : Met l yX3_all wsX3_all ({ frames := 0, cells := 0, slots := 0, locals := 0 }) (wp9 (dC, dI) vwCl [] [.ref g0] sz [(g0, .inr (2, [.int th, .ref r1, .ref r2, .long fa, .long fb, .int ft, .long xl, .long xh, .long yl, .long yh]))]) (wq none (dC, dI) vwCl [(g0, .inr (2, [.int th, .ref r1, .ref r2, .long s_X3_all.1, .long s_X3_all.2, .int ft, .long xl, .long xh, .long yl, .long yh]))] (va_A [(g0, .inr (2, [.int th, .ref r1, .ref r2, .long fa, .long fb, .int ft, .long xl, .long xh, .long yl, .long yh]))] sz)) 0 0 (va_A [(g0, .inr (2, [.int th, .ref r1, .ref r2, .long fa, .long fb, .int ft, .long xl, .long xh, .long yl, .long yh]))] sz) := by
  refine Met.ofW (cc := cX3_all) (maxL := 1) (ret := none) (by decide) rfl ?_
  intro p e s m args below meth c s₁ B hml hv
  obtain ⟨rfl, hsz, hP, hK, hD0⟩ := hv
  have hx := B.exec
  have hb := B.bytes
  have hr := B.returns
  have hts := atoms_spec (ws := wsX3_all) B.pre
  have hown : s.vm.findClass RX3 = some m.cls := findClass_of_methodNamed B.named
  have hlocks := B.notSynchronized
  subst hsz
  have hD := hD0.self (sz := s.heap.size)
  generalize hAe : va_A [(g0, .inr (2, [.int th, .ref r1, .ref r2, .long fa, .long fb, .int ft, .long xl, .long xh, .long yl, .long yh]))] s.heap.size = A at hD ⊢
  have hA : ∀ q : Nat, s.heap.size ≤ q → A q := fun q h => by rw [← hAe]; exact Or.inr h
  have hS : va_S A s.heap s.heap [] := va_S.rf
  have hP : va_P (dC, dI) vwCl [(g0, .inr (2, [.int th, .ref r1, .ref r2, .long fa, .long fb, .int ft, .long xl, .long xh, .long yl, .long yh]))] s.heap := hP
  have hl := lv_entry ([.ref g0]) (n := 1) (Nat.le_of_ble_eq_true rfl)
  rw [lg_entry_eq]
  generalize (lg_sl ([.ref g0]) ++ List.replicate (1 - (lg_sl ([.ref g0])).length) Slot.unset).toArray = ls at hl ⊢
  have hl : lv_has ls 1 [(0, .ref g0)] := hl
  have hw0 := hts (.constantLong RX3 39 (-9223372036854775808)) (List.mem_of_getElem? (i := 1) rfl)
  have hw1 := hts (.fieldLink RX3 41 "RangeBoxModel" "a" "J") (List.mem_of_getElem? (i := 2) rfl)
  have hi_RX3 : ∀ w ∈ wsX30, w ∈ wsX3_all := fun _ h => List.mem_cons_of_mem _ (List.mem_append_right _ h)
  have hw3 := hts (.constantLong RX3 45 (9223372036854775807)) (List.mem_of_getElem? (i := 3) rfl)
  have hw4 := hts (.fieldLink RX3 47 "RangeBoxModel" "b" "J") (List.mem_of_getElem? (i := 4) rfl)
  refine lv_aload_n hx hb dX3_all_0 rfl (lv_at hl 0 rfl) ?_
  refine lv_ldc2 (v := (-9223372036854775808 : Int64)) hx hb hown hw0 dX3_all_1 ?_
  refine va_put (D := (dC, dI)) (ci := 2) (v := .long (-9223372036854775808 : Int64)) (ty := .long) (C := RX3) (T := TX3) (N := 10) hx hb hts hi_RX3 tyX3 tyX3_ok nmX3 hown hK hP hD hS 0 rfl rfl 3 (by decide) hw1 (fun _ h9 => h9) rfl (tyX3_ok 3 (by decide)) rfl rfl (Nat.le_of_ble_eq_true rfl) dX3_all_4 (fun H locs hP hD hS => ?_)
  have hP : va_P (dC, dI) vwCl [(g0, .inr (2, [.int th, .ref r1, .ref r2, .long (-9223372036854775808 : Int64), .long fb, .int ft, .long xl, .long xh, .long yl, .long yh]))] H := hP
  have hD : va_D A [(g0, .inr (2, [.int th, .ref r1, .ref r2, .long (-9223372036854775808 : Int64), .long fb, .int ft, .long xl, .long xh, .long yl, .long yh]))] := hD
  refine lv_aload_n hx hb dX3_all_7 rfl (lv_at hl 0 rfl) ?_
  refine lv_ldc2 (v := (9223372036854775807 : Int64)) hx hb hown hw3 dX3_all_8 ?_
  refine va_put (D := (dC, dI)) (ci := 2) (v := .long (9223372036854775807 : Int64)) (ty := .long) (C := RX3) (T := TX3) (N := 10) hx hb hts hi_RX3 tyX3 tyX3_ok nmX3 hown hK hP hD hS 0 rfl rfl 4 (by decide) hw4 (fun _ h9 => h9) rfl (tyX3_ok 4 (by decide)) rfl rfl (Nat.le_of_ble_eq_true rfl) dX3_all_11 (fun H locs hP hD hS => ?_)
  have hP : va_P (dC, dI) vwCl [(g0, .inr (2, [.int th, .ref r1, .ref r2, .long (-9223372036854775808 : Int64), .long (9223372036854775807 : Int64), .int ft, .long xl, .long xh, .long yl, .long yh]))] H := hP
  have hD : va_D A [(g0, .inr (2, [.int th, .ref r1, .ref r2, .long (-9223372036854775808 : Int64), .long (9223372036854775807 : Int64), .int ft, .long xl, .long xh, .long yl, .long yh]))] := hD
  have es : s_X3_all = ((-9223372036854775808 : Int64), (9223372036854775807 : Int64)) := rfl
  exact W.vret hx hb hr (fun t ht hW => by rw [es]; exact ⟨rfl, by rw [ht]; exact hP, hD, hS.F ht⟩) hS.2.2 dX3_all_14

def s_X3_between (p0 : Int64) (p1 : Int64) : Int64 × Int64 :=
  (p0, p1)
set_option maxHeartbeats 4000000 in
set_option maxRecDepth 100000 in
theorem c_X3_between (l : Launch) (dC : Nat → ClassId) (dI : Nat → Nat → Nat) (g0 r1 r2 sz : Nat) (th : Int32) (fa : Int64) (fb : Int64) (ft : Int32) (xl : Int64) (xh : Int64) (yl : Int64) (yh : Int64) (p0 : Int64) (p1 : Int64) : Met l yX3_between wsX3_between ({ frames := 0, cells := 0, slots := 0, locals := 0 }) (wp9 (dC, dI) vwCl [] [.ref g0, .long p0, .long p1] sz [(g0, .inr (2, [.int th, .ref r1, .ref r2, .long fa, .long fb, .int ft, .long xl, .long xh, .long yl, .long yh]))]) (wq none (dC, dI) vwCl [(g0, .inr (2, [.int th, .ref r1, .ref r2, .long ((s_X3_between p0 p1).1), .long ((s_X3_between p0 p1).2), .int ft, .long xl, .long xh, .long yl, .long yh]))] (va_A [(g0, .inr (2, [.int th, .ref r1, .ref r2, .long fa, .long fb, .int ft, .long xl, .long xh, .long yl, .long yh]))] sz)) 0 0 (va_A [(g0, .inr (2, [.int th, .ref r1, .ref r2, .long fa, .long fb, .int ft, .long xl, .long xh, .long yl, .long yh]))] sz) := by
  refine Met.ofW (cc := cX3_between) (maxL := 5) (ret := none) (by decide) rfl ?_
  intro p e s m args below meth c s₁ B hml hv
  obtain ⟨rfl, hsz, hP, hK, hD0⟩ := hv
  have hx := B.exec
  have hb := B.bytes
  have hr := B.returns
  have hts := atoms_spec (ws := wsX3_between) B.pre
  have hown : s.vm.findClass RX3 = some m.cls := findClass_of_methodNamed B.named
  have hlocks := B.notSynchronized
  subst hsz
  have hD := hD0.self (sz := s.heap.size)
  generalize hAe : va_A [(g0, .inr (2, [.int th, .ref r1, .ref r2, .long fa, .long fb, .int ft, .long xl, .long xh, .long yl, .long yh]))] s.heap.size = A at hD ⊢
  have hA : ∀ q : Nat, s.heap.size ≤ q → A q := fun q h => by rw [← hAe]; exact Or.inr h
  have hS : va_S A s.heap s.heap [] := va_S.rf
  have hP : va_P (dC, dI) vwCl [(g0, .inr (2, [.int th, .ref r1, .ref r2, .long fa, .long fb, .int ft, .long xl, .long xh, .long yl, .long yh]))] s.heap := hP
  have hl := lv_entry ([.ref g0, .long p0, .long p1]) (n := 5) (Nat.le_of_ble_eq_true rfl)
  rw [lg_entry_eq]
  generalize (lg_sl ([.ref g0, .long p0, .long p1]) ++ List.replicate (5 - (lg_sl ([.ref g0, .long p0, .long p1])).length) Slot.unset).toArray = ls at hl ⊢
  have hl : lv_has ls 5 [(0, .ref g0), (1, .long p0), (3, .long p1)] := hl
  have hw0 := hts (.fieldLink RX3 41 "RangeBoxModel" "a" "J") (List.mem_of_getElem? (i := 1) rfl)
  have hi_RX3 : ∀ w ∈ wsX30, w ∈ wsX3_between := fun _ h => List.mem_cons_of_mem _ (List.mem_append_right _ h)
  have hw2 := hts (.fieldLink RX3 47 "RangeBoxModel" "b" "J") (List.mem_of_getElem? (i := 2) rfl)
  refine lv_aload_n hx hb dX3_between_0 rfl (lv_at hl 0 rfl) ?_
  refine lv_lload_n hx hb dX3_between_1 rfl (lv_at hl 1 rfl) ?_
  refine va_put (D := (dC, dI)) (ci := 2) (v := .long p0) (ty := .long) (C := RX3) (T := TX3) (N := 10) hx hb hts hi_RX3 tyX3 tyX3_ok nmX3 hown hK hP hD hS 0 rfl rfl 3 (by decide) hw0 (fun _ h9 => h9) rfl (tyX3_ok 3 (by decide)) rfl rfl (Nat.le_of_ble_eq_true rfl) dX3_between_2 (fun H locs hP hD hS => ?_)
  have hP : va_P (dC, dI) vwCl [(g0, .inr (2, [.int th, .ref r1, .ref r2, .long p0, .long fb, .int ft, .long xl, .long xh, .long yl, .long yh]))] H := hP
  have hD : va_D A [(g0, .inr (2, [.int th, .ref r1, .ref r2, .long p0, .long fb, .int ft, .long xl, .long xh, .long yl, .long yh]))] := hD
  refine lv_aload_n hx hb dX3_between_5 rfl (lv_at hl 0 rfl) ?_
  refine lv_lload_n hx hb dX3_between_6 rfl (lv_at hl 2 rfl) ?_
  refine va_put (D := (dC, dI)) (ci := 2) (v := .long p1) (ty := .long) (C := RX3) (T := TX3) (N := 10) hx hb hts hi_RX3 tyX3 tyX3_ok nmX3 hown hK hP hD hS 0 rfl rfl 4 (by decide) hw2 (fun _ h9 => h9) rfl (tyX3_ok 4 (by decide)) rfl rfl (Nat.le_of_ble_eq_true rfl) dX3_between_7 (fun H locs hP hD hS => ?_)
  have hP : va_P (dC, dI) vwCl [(g0, .inr (2, [.int th, .ref r1, .ref r2, .long p0, .long p1, .int ft, .long xl, .long xh, .long yl, .long yh]))] H := hP
  have hD : va_D A [(g0, .inr (2, [.int th, .ref r1, .ref r2, .long p0, .long p1, .int ft, .long xl, .long xh, .long yl, .long yh]))] := hD
  have es : (s_X3_between p0 p1) = (p0, p1) := rfl
  exact W.vret hx hb hr (fun t ht hW => by rw [es]; exact ⟨rfl, by rw [ht]; exact hP, hD, hS.F ht⟩) hS.2.2 dX3_between_10

def s_X3_word (p0 : Int64) (p1 : Int64) : Int64 × Int64 :=
  if p0 < (0 : Int64) then (if p0 = p1 then ((p0 &&& (4294967295 : Int64)), (p0 &&& (4294967295 : Int64)))
    else ((0 : Int64), (4294967295 : Int64)))
  else if (4294967295 : Int64) < p1 then (if p0 = p1 then ((p0 &&& (4294967295 : Int64)), (p0 &&& (4294967295 : Int64)))
    else ((0 : Int64), (4294967295 : Int64)))
  else (p0, p1)
set_option maxHeartbeats 4000000 in
set_option maxRecDepth 100000 in
theorem c_X3_word (l : Launch) (dC : Nat → ClassId) (dI : Nat → Nat → Nat) (g0 r1 r2 sz : Nat) (th : Int32) (fa : Int64) (fb : Int64) (ft : Int32) (xl : Int64) (xh : Int64) (yl : Int64) (yh : Int64) (p0 : Int64) (p1 : Int64) : Met l yX3_word wsX3_word ({ frames := 1, cells := 0, slots := 0, locals := 24 }) (wp9 (dC, dI) vwCl [] [.ref g0, .long p0, .long p1] sz [(g0, .inr (2, [.int th, .ref r1, .ref r2, .long fa, .long fb, .int ft, .long xl, .long xh, .long yl, .long yh]))]) (wq none (dC, dI) vwCl [(g0, .inr (2, [.int th, .ref r1, .ref r2, .long ((s_X3_word p0 p1).1), .long ((s_X3_word p0 p1).2), .int ft, .long xl, .long xh, .long yl, .long yh]))] (va_A [(g0, .inr (2, [.int th, .ref r1, .ref r2, .long fa, .long fb, .int ft, .long xl, .long xh, .long yl, .long yh]))] sz)) 0 0 (va_A [(g0, .inr (2, [.int th, .ref r1, .ref r2, .long fa, .long fb, .int ft, .long xl, .long xh, .long yl, .long yh]))] sz) := by
  refine Met.ofW (cc := cX3_word) (maxL := 5) (ret := none) (by decide) rfl ?_
  intro p e s m args below meth c s₁ B hml hv
  obtain ⟨rfl, hsz, hP, hK, hD0⟩ := hv
  have hx := B.exec
  have hb := B.bytes
  have hr := B.returns
  have hts := atoms_spec (ws := wsX3_word) B.pre
  have hown : s.vm.findClass RX3 = some m.cls := findClass_of_methodNamed B.named
  have hlocks := B.notSynchronized
  subst hsz
  have hD := hD0.self (sz := s.heap.size)
  generalize hAe : va_A [(g0, .inr (2, [.int th, .ref r1, .ref r2, .long fa, .long fb, .int ft, .long xl, .long xh, .long yl, .long yh]))] s.heap.size = A at hD ⊢
  have hA : ∀ q : Nat, s.heap.size ≤ q → A q := fun q h => by rw [← hAe]; exact Or.inr h
  have hS : va_S A s.heap s.heap [] := va_S.rf
  have hP : va_P (dC, dI) vwCl [(g0, .inr (2, [.int th, .ref r1, .ref r2, .long fa, .long fb, .int ft, .long xl, .long xh, .long yl, .long yh]))] s.heap := hP
  have hl := lv_entry ([.ref g0, .long p0, .long p1]) (n := 5) (Nat.le_of_ble_eq_true rfl)
  rw [lg_entry_eq]
  generalize (lg_sl ([.ref g0, .long p0, .long p1]) ++ List.replicate (5 - (lg_sl ([.ref g0, .long p0, .long p1])).length) Slot.unset).toArray = ls at hl ⊢
  have hl : lv_has ls 5 [(0, .ref g0), (1, .long p0), (3, .long p1)] := hl
  have hw0 := hts (.constantLong RX3 22 (4294967295)) (List.mem_of_getElem? (i := 1) rfl)
  refine lv_lload_n hx hb dX3_word_0 rfl (lv_at hl 1 rfl) ?_
  refine lv_lconst (v := (0 : Int64)) hx hb dX3_word_1 (by decide) ?_
  refine pl_lt (tgt := 23) hx hb dX3_word_2 dX3_word_3 (by decide) (fun c1 => ?_) (fun c1 => ?_)
  · refine lv_lload_n hx hb dX3_word_23 rfl (lv_at hl 1 rfl) ?_
    refine lv_lload_n hx hb dX3_word_24 rfl (lv_at hl 2 rfl) ?_
    refine pl_ne (tgt := 46) hx hb dX3_word_25 dX3_word_26 (by decide) (fun c2 => ?_) (fun c2 => ?_)
    · refine lv_aload_n hx hb dX3_word_46 rfl (lv_at hl 0 rfl) ?_
      refine lv_lconst (v := (0 : Int64)) hx hb dX3_word_47 (by decide) ?_
      refine lv_ldc2 (v := (4294967295 : Int64)) hx hb hown hw0 dX3_word_48 ?_
      refine wq_callv (wc := [(g0, .inr (2, [.int th, .ref r1, .ref r2, .long fa, .long fb, .int ft, .long xl, .long xh, .long yl, .long yh]))]) (wr := []) (w2 := [(g0, .inr (2, [.int th, .ref r1, .ref r2, .long (0 : Int64), .long (4294967295 : Int64), .int ft, .long xl, .long xh, .long yl, .long yh]))]) (va_runV (As := [.long (0 : Int64), .long (4294967295 : Int64)]) (rest := []) ⟨hx, hb, hml, hown, hts⟩ (c_X3_between l dC dI g0 r1 r2 s.heap.size th fa fb ft xl xh yl yh (0 : Int64) (4294967295 : Int64)) (cwV 2 hts gX3_word_X3_between rfl rfl rfl ydV_X3_between ⟨Nat.le_of_ble_eq_true rfl, Nat.le_of_ble_eq_true rfl⟩) (wp_V (hK.sub (tys' := []) [] rfl) (hP.sub (ws' := [(g0, .inr (2, [.int th, .ref r1, .ref r2, .long fa, .long fb, .int ft, .long xl, .long xh, .long yl, .long yh]))]) [0] rfl) (hD.sub (ws' := [(g0, .inr (2, [.int th, .ref r1, .ref r2, .long fa, .long fb, .int ft, .long xl, .long xh, .long yl, .long yh]))]) [0] (by decide) rfl)  rfl rfl) rfl rfl hl.1 rfl (lv_room (Nat.le_of_ble_eq_true rfl)) dX3_word_51 ⟨Nat.le_of_ble_eq_true rfl, Nat.le_of_ble_eq_true rfl⟩) hP hD hS hA [0] [] [0] rfl rfl rfl (by decide) rfl rfl (fun H locs hP hD hS => ?_)
      have es : (s_X3_word p0 p1) = ((0 : Int64), (4294967295 : Int64)) := by unfold s_X3_word; rw [if_pos c1, if_neg c2]
      exact W.vret hx hb hr (fun t ht hW => by rw [es]; exact ⟨rfl, by rw [ht]; exact hP, hD, hS.F ht⟩) hS.2.2 dX3_word_54
    · refine lv_aload_n hx hb dX3_word_29 rfl (lv_at hl 0 rfl) ?_
      refine lv_lload_n hx hb dX3_word_30 rfl (lv_at hl 1 rfl) ?_
      refine lv_ldc2 (v := (4294967295 : Int64)) hx hb hown hw0 dX3_word_31 ?_
      refine lv_land hx hb dX3_word_34 ?_
      refine lv_lload_n hx hb dX3_word_35 rfl (lv_at hl 1 rfl) ?_
      refine lv_ldc2 (v := (4294967295 : Int64)) hx hb hown hw0 dX3_word_36 ?_
      refine lv_land hx hb dX3_word_39 ?_
      refine wq_callv (wc := [(g0, .inr (2, [.int th, .ref r1, .ref r2, .long fa, .long fb, .int ft, .long xl, .long xh, .long yl, .long yh]))]) (wr := []) (w2 := [(g0, .inr (2, [.int th, .ref r1, .ref r2, .long (p0 &&& (4294967295 : Int64)), .long (p0 &&& (4294967295 : Int64)), .int ft, .long xl, .long xh, .long yl, .long yh]))]) (va_runV (As := [.long (p0 &&& (4294967295 : Int64)), .long (p0 &&& (4294967295 : Int64))]) (rest := []) ⟨hx, hb, hml, hown, hts⟩ (c_X3_between l dC dI g0 r1 r2 s.heap.size th fa fb ft xl xh yl yh (p0 &&& (4294967295 : Int64)) (p0 &&& (4294967295 : Int64))) (cwV 2 hts gX3_word_X3_between rfl rfl rfl ydV_X3_between ⟨Nat.le_of_ble_eq_true rfl, Nat.le_of_ble_eq_true rfl⟩) (wp_V (hK.sub (tys' := []) [] rfl) (hP.sub (ws' := [(g0, .inr (2, [.int th, .ref r1, .ref r2, .long fa, .long fb, .int ft, .long xl, .long xh, .long yl, .long yh]))]) [0] rfl) (hD.sub (ws' := [(g0, .inr (2, [.int th, .ref r1, .ref r2, .long fa, .long fb, .int ft, .long xl, .long xh, .long yl, .long yh]))]) [0] (by decide) rfl)  rfl rfl) rfl rfl hl.1 rfl (lv_room (Nat.le_of_ble_eq_true rfl)) dX3_word_40 ⟨Nat.le_of_ble_eq_true rfl, Nat.le_of_ble_eq_true rfl⟩) hP hD hS hA [0] [] [0] rfl rfl rfl (by decide) rfl rfl (fun H locs hP hD hS => ?_)
      refine lv_goto (tgt := 54) hx hb dX3_word_43 (by decide) ?_
      have es : (s_X3_word p0 p1) = ((p0 &&& (4294967295 : Int64)), (p0 &&& (4294967295 : Int64))) := by unfold s_X3_word; rw [if_pos c1, if_pos c2]
      exact W.vret hx hb hr (fun t ht hW => by rw [es]; exact ⟨rfl, by rw [ht]; exact hP, hD, hS.F ht⟩) hS.2.2 dX3_word_54
  · refine lv_lload_n hx hb dX3_word_6 rfl (lv_at hl 2 rfl) ?_
    refine lv_ldc2 (v := (4294967295 : Int64)) hx hb hown hw0 dX3_word_7 ?_
    refine pl_gt (tgt := 23) hx hb dX3_word_10 dX3_word_11 (by decide) (fun c3 => ?_) (fun c3 => ?_)
    · refine lv_lload_n hx hb dX3_word_23 rfl (lv_at hl 1 rfl) ?_
      refine lv_lload_n hx hb dX3_word_24 rfl (lv_at hl 2 rfl) ?_
      refine pl_ne (tgt := 46) hx hb dX3_word_25 dX3_word_26 (by decide) (fun c4 => ?_) (fun c4 => ?_)
      · refine lv_aload_n hx hb dX3_word_46 rfl (lv_at hl 0 rfl) ?_
        refine lv_lconst (v := (0 : Int64)) hx hb dX3_word_47 (by decide) ?_
        refine lv_ldc2 (v := (4294967295 : Int64)) hx hb hown hw0 dX3_word_48 ?_
        refine wq_callv (wc := [(g0, .inr (2, [.int th, .ref r1, .ref r2, .long fa, .long fb, .int ft, .long xl, .long xh, .long yl, .long yh]))]) (wr := []) (w2 := [(g0, .inr (2, [.int th, .ref r1, .ref r2, .long (0 : Int64), .long (4294967295 : Int64), .int ft, .long xl, .long xh, .long yl, .long yh]))]) (va_runV (As := [.long (0 : Int64), .long (4294967295 : Int64)]) (rest := []) ⟨hx, hb, hml, hown, hts⟩ (c_X3_between l dC dI g0 r1 r2 s.heap.size th fa fb ft xl xh yl yh (0 : Int64) (4294967295 : Int64)) (cwV 2 hts gX3_word_X3_between rfl rfl rfl ydV_X3_between ⟨Nat.le_of_ble_eq_true rfl, Nat.le_of_ble_eq_true rfl⟩) (wp_V (hK.sub (tys' := []) [] rfl) (hP.sub (ws' := [(g0, .inr (2, [.int th, .ref r1, .ref r2, .long fa, .long fb, .int ft, .long xl, .long xh, .long yl, .long yh]))]) [0] rfl) (hD.sub (ws' := [(g0, .inr (2, [.int th, .ref r1, .ref r2, .long fa, .long fb, .int ft, .long xl, .long xh, .long yl, .long yh]))]) [0] (by decide) rfl)  rfl rfl) rfl rfl hl.1 rfl (lv_room (Nat.le_of_ble_eq_true rfl)) dX3_word_51 ⟨Nat.le_of_ble_eq_true rfl, Nat.le_of_ble_eq_true rfl⟩) hP hD hS hA [0] [] [0] rfl rfl rfl (by decide) rfl rfl (fun H locs hP hD hS => ?_)
        have es : (s_X3_word p0 p1) = ((0 : Int64), (4294967295 : Int64)) := by unfold s_X3_word; rw [if_neg c1, if_pos c3, if_neg c4]
        exact W.vret hx hb hr (fun t ht hW => by rw [es]; exact ⟨rfl, by rw [ht]; exact hP, hD, hS.F ht⟩) hS.2.2 dX3_word_54
      · refine lv_aload_n hx hb dX3_word_29 rfl (lv_at hl 0 rfl) ?_
        refine lv_lload_n hx hb dX3_word_30 rfl (lv_at hl 1 rfl) ?_
        refine lv_ldc2 (v := (4294967295 : Int64)) hx hb hown hw0 dX3_word_31 ?_
        refine lv_land hx hb dX3_word_34 ?_
        refine lv_lload_n hx hb dX3_word_35 rfl (lv_at hl 1 rfl) ?_
        refine lv_ldc2 (v := (4294967295 : Int64)) hx hb hown hw0 dX3_word_36 ?_
        refine lv_land hx hb dX3_word_39 ?_
        refine wq_callv (wc := [(g0, .inr (2, [.int th, .ref r1, .ref r2, .long fa, .long fb, .int ft, .long xl, .long xh, .long yl, .long yh]))]) (wr := []) (w2 := [(g0, .inr (2, [.int th, .ref r1, .ref r2, .long (p0 &&& (4294967295 : Int64)), .long (p0 &&& (4294967295 : Int64)), .int ft, .long xl, .long xh, .long yl, .long yh]))]) (va_runV (As := [.long (p0 &&& (4294967295 : Int64)), .long (p0 &&& (4294967295 : Int64))]) (rest := []) ⟨hx, hb, hml, hown, hts⟩ (c_X3_between l dC dI g0 r1 r2 s.heap.size th fa fb ft xl xh yl yh (p0 &&& (4294967295 : Int64)) (p0 &&& (4294967295 : Int64))) (cwV 2 hts gX3_word_X3_between rfl rfl rfl ydV_X3_between ⟨Nat.le_of_ble_eq_true rfl, Nat.le_of_ble_eq_true rfl⟩) (wp_V (hK.sub (tys' := []) [] rfl) (hP.sub (ws' := [(g0, .inr (2, [.int th, .ref r1, .ref r2, .long fa, .long fb, .int ft, .long xl, .long xh, .long yl, .long yh]))]) [0] rfl) (hD.sub (ws' := [(g0, .inr (2, [.int th, .ref r1, .ref r2, .long fa, .long fb, .int ft, .long xl, .long xh, .long yl, .long yh]))]) [0] (by decide) rfl)  rfl rfl) rfl rfl hl.1 rfl (lv_room (Nat.le_of_ble_eq_true rfl)) dX3_word_40 ⟨Nat.le_of_ble_eq_true rfl, Nat.le_of_ble_eq_true rfl⟩) hP hD hS hA [0] [] [0] rfl rfl rfl (by decide) rfl rfl (fun H locs hP hD hS => ?_)
        refine lv_goto (tgt := 54) hx hb dX3_word_43 (by decide) ?_
        have es : (s_X3_word p0 p1) = ((p0 &&& (4294967295 : Int64)), (p0 &&& (4294967295 : Int64))) := by unfold s_X3_word; rw [if_neg c1, if_pos c3, if_pos c4]
        exact W.vret hx hb hr (fun t ht hW => by rw [es]; exact ⟨rfl, by rw [ht]; exact hP, hD, hS.F ht⟩) hS.2.2 dX3_word_54
    · refine lv_aload_n hx hb dX3_word_14 rfl (lv_at hl 0 rfl) ?_
      refine lv_lload_n hx hb dX3_word_15 rfl (lv_at hl 1 rfl) ?_
      refine lv_lload_n hx hb dX3_word_16 rfl (lv_at hl 2 rfl) ?_
      refine wq_callv (wc := [(g0, .inr (2, [.int th, .ref r1, .ref r2, .long fa, .long fb, .int ft, .long xl, .long xh, .long yl, .long yh]))]) (wr := []) (w2 := [(g0, .inr (2, [.int th, .ref r1, .ref r2, .long p0, .long p1, .int ft, .long xl, .long xh, .long yl, .long yh]))]) (va_runV (As := [.long p0, .long p1]) (rest := []) ⟨hx, hb, hml, hown, hts⟩ (c_X3_between l dC dI g0 r1 r2 s.heap.size th fa fb ft xl xh yl yh p0 p1) (cwV 2 hts gX3_word_X3_between rfl rfl rfl ydV_X3_between ⟨Nat.le_of_ble_eq_true rfl, Nat.le_of_ble_eq_true rfl⟩) (wp_V (hK.sub (tys' := []) [] rfl) (hP.sub (ws' := [(g0, .inr (2, [.int th, .ref r1, .ref r2, .long fa, .long fb, .int ft, .long xl, .long xh, .long yl, .long yh]))]) [0] rfl) (hD.sub (ws' := [(g0, .inr (2, [.int th, .ref r1, .ref r2, .long fa, .long fb, .int ft, .long xl, .long xh, .long yl, .long yh]))]) [0] (by decide) rfl)  rfl rfl) rfl rfl hl.1 rfl (lv_room (Nat.le_of_ble_eq_true rfl)) dX3_word_17 ⟨Nat.le_of_ble_eq_true rfl, Nat.le_of_ble_eq_true rfl⟩) hP hD hS hA [0] [] [0] rfl rfl rfl (by decide) rfl rfl (fun H locs hP hD hS => ?_)
      refine lv_goto (tgt := 54) hx hb dX3_word_20 (by decide) ?_
      have es : (s_X3_word p0 p1) = (p0, p1) := by unfold s_X3_word; rw [if_neg c1, if_neg c3]
      exact W.vret hx hb hr (fun t ht hW => by rw [es]; exact ⟨rfl, by rw [ht]; exact hP, hD, hS.F ht⟩) hS.2.2 dX3_word_54

def s_X3_turn (xl : Int64) (xh : Int64) (yl : Int64) (yh : Int64) : Int64 × Int64 × Int64 × Int64 :=
  (yl, yh, xl, xh)
set_option maxHeartbeats 4000000 in
set_option maxRecDepth 100000 in
theorem c_X3_turn (l : Launch) (dC : Nat → ClassId) (dI : Nat → Nat → Nat) (g0 r1 r2 sz : Nat) (th : Int32) (fa : Int64) (fb : Int64) (ft : Int32) (xl : Int64) (xh : Int64) (yl : Int64) (yh : Int64) : Met l yX3_turn wsX3_turn ({ frames := 0, cells := 0, slots := 0, locals := 0 }) (wp9 (dC, dI) vwCl [] [.ref g0] sz [(g0, .inr (2, [.int th, .ref r1, .ref r2, .long fa, .long fb, .int ft, .long xl, .long xh, .long yl, .long yh]))]) (wq none (dC, dI) vwCl [(g0, .inr (2, [.int th, .ref r1, .ref r2, .long fa, .long fb, .int ft, .long ((s_X3_turn xl xh yl yh).1), .long ((s_X3_turn xl xh yl yh).2.1), .long ((s_X3_turn xl xh yl yh).2.2.1), .long ((s_X3_turn xl xh yl yh).2.2.2)]))] (va_A [(g0, .inr (2, [.int th, .ref r1, .ref r2, .long fa, .long fb, .int ft, .long xl, .long xh, .long yl, .long yh]))] sz)) 0 0 (va_A [(g0, .inr (2, [.int th, .ref r1, .ref r2, .long fa, .long fb, .int ft, .long xl, .long xh, .long yl, .long yh]))] sz) := by
  refine Met.ofW (cc := cX3_turn) (maxL := 5) (ret := none) (by decide) rfl ?_
  intro p e s m args below meth c s₁ B hml hv
  obtain ⟨rfl, hsz, hP, hK, hD0⟩ := hv
  have hx := B.exec
  have hb := B.bytes
  have hr := B.returns
  have hts := atoms_spec (ws := wsX3_turn) B.pre
  have hown : s.vm.findClass RX3 = some m.cls := findClass_of_methodNamed B.named
  have hlocks := B.notSynchronized
  subst hsz
  have hD := hD0.self (sz := s.heap.size)
  generalize hAe : va_A [(g0, .inr (2, [.int th, .ref r1, .ref r2, .long fa, .long fb, .int ft, .long xl, .long xh, .long yl, .long yh]))] s.heap.size = A at hD ⊢
  have hA : ∀ q : Nat, s.heap.size ≤ q → A q := fun q h => by rw [← hAe]; exact Or.inr h
  have hS : va_S A s.heap s.heap [] := va_S.rf
  have hP : va_P (dC, dI) vwCl [(g0, .inr (2, [.int th, .ref r1, .ref r2, .long fa, .long fb, .int ft, .long xl, .long xh, .long yl, .long yh]))] s.heap := hP
  have hl := lv_entry ([.ref g0]) (n := 5) (Nat.le_of_ble_eq_true rfl)
  rw [lg_entry_eq]
  generalize (lg_sl ([.ref g0]) ++ List.replicate (5 - (lg_sl ([.ref g0])).length) Slot.unset).toArray = ls at hl ⊢
  have hl : lv_has ls 5 [(0, .ref g0)] := hl
  have hw0 := hts (.fieldLink RX3 98 "RangeBoxModel" "xl" "J") (List.mem_of_getElem? (i := 1) rfl)
  have hi_RX3 : ∀ w ∈ wsX30, w ∈ wsX3_turn := fun _ h => List.mem_cons_of_mem _ (List.mem_append_right _ h)
  have hw2 := hts (.fieldLink RX3 104 "RangeBoxModel" "xh" "J") (List.mem_of_getElem? (i := 2) rfl)
  have hw3 := hts (.fieldLink RX3 101 "RangeBoxModel" "yl" "J") (List.mem_of_getElem? (i := 3) rfl)
  have hw4 := hts (.fieldLink RX3 107 "RangeBoxModel" "yh" "J") (List.mem_of_getElem? (i := 4) rfl)
  refine lv_aload_n hx hb dX3_turn_0 rfl (lv_at hl 0 rfl) ?_
  refine va_get (D := (dC, dI)) (ci := 2) (v := .long xl) (C := RX3) (T := TX3) (N := 10) hx hb hts hi_RX3 hown hK hP 0 rfl rfl 6 (by decide) hw0 (fun _ h9 => h9) rfl dX3_turn_1 ?_
  refine lv_lstore_n (lv' := [(1, .long xl), (0, .ref g0)]) hx hb dX3_turn_4 rfl hl (by decide) rfl (fun ls hl => ?_)
  refine lv_aload_n hx hb dX3_turn_5 rfl (lv_at hl 1 rfl) ?_
  refine va_get (D := (dC, dI)) (ci := 2) (v := .long xh) (C := RX3) (T := TX3) (N := 10) hx hb hts hi_RX3 hown hK hP 0 rfl rfl 7 (by decide) hw2 (fun _ h9 => h9) rfl dX3_turn_6 ?_
  refine lv_lstore_n (lv' := [(3, .long xh), (1, .long xl), (0, .ref g0)]) hx hb dX3_turn_9 rfl hl (by decide) rfl (fun ls hl => ?_)
  refine lv_aload_n hx hb dX3_turn_10 rfl (lv_at hl 2 rfl) ?_
  refine lv_aload_n hx hb dX3_turn_11 rfl (lv_at hl 2 rfl) ?_
  refine va_get (D := (dC, dI)) (ci := 2) (v := .long yl) (C := RX3) (T := TX3) (N := 10) hx hb hts hi_RX3 hown hK hP 0 rfl rfl 8 (by decide) hw3 (fun _ h9 => h9) rfl dX3_turn_12 ?_
  refine va_put (D := (dC, dI)) (ci := 2) (v := .long yl) (ty := .long) (C := RX3) (T := TX3) (N := 10) hx hb hts hi_RX3 tyX3 tyX3_ok nmX3 hown hK hP hD hS 0 rfl rfl 6 (by decide) hw0 (fun _ h9 => h9) rfl (tyX3_ok 6 (by decide)) rfl rfl (Nat.le_of_ble_eq_true rfl) dX3_turn_15 (fun H locs hP hD hS => ?_)
  have hP : va_P (dC, dI) vwCl [(g0, .inr (2, [.int th, .ref r1, .ref r2, .long fa, .long fb, .int ft, .long yl, .long xh, .long yl, .long yh]))] H := hP
  have hD : va_D A [(g0, .inr (2, [.int th, .ref r1, .ref r2, .long fa, .long fb, .int ft, .long yl, .long xh, .long yl, .long yh]))] := hD
  refine lv_aload_n hx hb dX3_turn_18 rfl (lv_at hl 2 rfl) ?_
  refine lv_aload_n hx hb dX3_turn_19 rfl (lv_at hl 2 rfl) ?_
  refine va_get (D := (dC, dI)) (ci := 2) (v := .long yh) (C := RX3) (T := TX3) (N := 10) hx hb hts hi_RX3 hown hK hP 0 rfl rfl 9 (by decide) hw4 (fun _ h9 => h9) rfl dX3_turn_20 ?_
  refine va_put (D := (dC, dI)) (ci := 2) (v := .long yh) (ty := .long) (C := RX3) (T := TX3) (N := 10) hx hb hts hi_RX3 tyX3 tyX3_ok nmX3 hown hK hP hD hS 0 rfl rfl 7 (by decide) hw2 (fun _ h9 => h9) rfl (tyX3_ok 7 (by decide)) rfl rfl (Nat.le_of_ble_eq_true rfl) dX3_turn_23 (fun H locs hP hD hS => ?_)
  have hP : va_P (dC, dI) vwCl [(g0, .inr (2, [.int th, .ref r1, .ref r2, .long fa, .long fb, .int ft, .long yl, .long yh, .long yl, .long yh]))] H := hP
  have hD : va_D A [(g0, .inr (2, [.int th, .ref r1, .ref r2, .long fa, .long fb, .int ft, .long yl, .long yh, .long yl, .long yh]))] := hD
  refine lv_aload_n hx hb dX3_turn_26 rfl (lv_at hl 2 rfl) ?_
  refine lv_lload_n hx hb dX3_turn_27 rfl (lv_at hl 1 rfl) ?_
  refine va_put (D := (dC, dI)) (ci := 2) (v := .long xl) (ty := .long) (C := RX3) (T := TX3) (N := 10) hx hb hts hi_RX3 tyX3 tyX3_ok nmX3 hown hK hP hD hS 0 rfl rfl 8 (by decide) hw3 (fun _ h9 => h9) rfl (tyX3_ok 8 (by decide)) rfl rfl (Nat.le_of_ble_eq_true rfl) dX3_turn_28 (fun H locs hP hD hS => ?_)
  have hP : va_P (dC, dI) vwCl [(g0, .inr (2, [.int th, .ref r1, .ref r2, .long fa, .long fb, .int ft, .long yl, .long yh, .long xl, .long yh]))] H := hP
  have hD : va_D A [(g0, .inr (2, [.int th, .ref r1, .ref r2, .long fa, .long fb, .int ft, .long yl, .long yh, .long xl, .long yh]))] := hD
  refine lv_aload_n hx hb dX3_turn_31 rfl (lv_at hl 2 rfl) ?_
  refine lv_lload_n hx hb dX3_turn_32 rfl (lv_at hl 0 rfl) ?_
  refine va_put (D := (dC, dI)) (ci := 2) (v := .long xh) (ty := .long) (C := RX3) (T := TX3) (N := 10) hx hb hts hi_RX3 tyX3 tyX3_ok nmX3 hown hK hP hD hS 0 rfl rfl 9 (by decide) hw4 (fun _ h9 => h9) rfl (tyX3_ok 9 (by decide)) rfl rfl (Nat.le_of_ble_eq_true rfl) dX3_turn_33 (fun H locs hP hD hS => ?_)
  have hP : va_P (dC, dI) vwCl [(g0, .inr (2, [.int th, .ref r1, .ref r2, .long fa, .long fb, .int ft, .long yl, .long yh, .long xl, .long xh]))] H := hP
  have hD : va_D A [(g0, .inr (2, [.int th, .ref r1, .ref r2, .long fa, .long fb, .int ft, .long yl, .long yh, .long xl, .long xh]))] := hD
  have es : (s_X3_turn xl xh yl yh) = (yl, yh, xl, xh) := rfl
  exact W.vret hx hb hr (fun t ht hW => by rw [es]; exact ⟨rfl, by rw [ht]; exact hP, hD, hS.F ht⟩) hS.2.2 dX3_turn_36

def s_X3_apart (xl : Int64) (xh : Int64) (yl : Int64) (yh : Int64) : Int64 × Int64 × Int64 × Int64 :=
  if xl = xh then (if yl = yh then (if xl = yl then (xl + (1 : Int64), xh, yl, yh)
      else if xh = yl then (xl, xh - (1 : Int64), yl, yh)
      else if yl = xl then (xl, xh, yl + (1 : Int64), yh)
      else if yh = xl then (xl, xh, yl, yh - (1 : Int64))
      else (xl, xh, yl, yh))
    else if yl = xl then (xl, xh, yl + (1 : Int64), yh)
    else if yh = xl then (xl, xh, yl, yh - (1 : Int64))
    else (xl, xh, yl, yh))
  else if yl = yh then (if xl = yl then (xl + (1 : Int64), xh, yl, yh)
    else if xh = yl then (xl, xh - (1 : Int64), yl, yh)
    else (xl, xh, yl, yh))
  else (xl, xh, yl, yh)
set_option maxHeartbeats 4000000 in
set_option maxRecDepth 100000 in
theorem c_X3_apart (l : Launch) (dC : Nat → ClassId) (dI : Nat → Nat → Nat) (g0 r1 r2 sz : Nat) (th : Int32) (fa : Int64) (fb : Int64) (ft : Int32) (xl : Int64) (xh : Int64) (yl : Int64) (yh : Int64) : Met l yX3_apart wsX3_apart ({ frames := 0, cells := 0, slots := 0, locals := 0 }) (wp9 (dC, dI) vwCl [] [.ref g0] sz [(g0, .inr (2, [.int th, .ref r1, .ref r2, .long fa, .long fb, .int ft, .long xl, .long xh, .long yl, .long yh]))]) (wq none (dC, dI) vwCl [(g0, .inr (2, [.int th, .ref r1, .ref r2, .long fa, .long fb, .int ft, .long ((s_X3_apart xl xh yl yh).1), .long ((s_X3_apart xl xh yl yh).2.1), .long ((s_X3_apart xl xh yl yh).2.2.1), .long ((s_X3_apart xl xh yl yh).2.2.2)]))] (va_A [(g0, .inr (2, [.int th, .ref r1, .ref r2, .long fa, .long fb, .int ft, .long xl, .long xh, .long yl, .long yh]))] sz)) 0 0 (va_A [(g0, .inr (2, [.int th, .ref r1, .ref r2, .long fa, .long fb, .int ft, .long xl, .long xh, .long yl, .long yh]))] sz) := by
  refine Met.ofW (cc := cX3_apart) (maxL := 3) (ret := none) (by decide) rfl ?_
  intro p e s m args below meth c s₁ B hml hv
  obtain ⟨rfl, hsz, hP, hK, hD0⟩ := hv
  have hx := B.exec
  have hb := B.bytes
  have hr := B.returns
  have hts := atoms_spec (ws := wsX3_apart) B.pre
  have hown : s.vm.findClass RX3 = some m.cls := findClass_of_methodNamed B.named
  have hlocks := B.notSynchronized
  subst hsz
  have hD := hD0.self (sz := s.heap.size)
  generalize hAe : va_A [(g0, .inr (2, [.int th, .ref r1, .ref r2, .long fa, .long fb, .int ft, .long xl, .long xh, .long yl, .long yh]))] s.heap.size = A at hD ⊢
  have hA : ∀ q : Nat, s.heap.size ≤ q → A q := fun q h => by rw [← hAe]; exact Or.inr h
  have hS : va_S A s.heap s.heap [] := va_S.rf
  have hP : va_P (dC, dI) vwCl [(g0, .inr (2, [.int th, .ref r1, .ref r2, .long fa, .long fb, .int ft, .long xl, .long xh, .long yl, .long yh]))] s.heap := hP
  have hl := lv_entry ([.ref g0]) (n := 3) (Nat.le_of_ble_eq_true rfl)
  rw [lg_entry_eq]
  generalize (lg_sl ([.ref g0]) ++ List.replicate (3 - (lg_sl ([.ref g0])).length) Slot.unset).toArray = ls at hl ⊢
  have hl : lv_has ls 3 [(0, .ref g0)] := hl
  have hw0 := hts (.fieldLink RX3 98 "RangeBoxModel" "xl" "J") (List.mem_of_getElem? (i := 1) rfl)
  have hi_RX3 : ∀ w ∈ wsX30, w ∈ wsX3_apart := fun _ h => List.mem_cons_of_mem _ (List.mem_append_right _ h)
  have hw2 := hts (.fieldLink RX3 104 "RangeBoxModel" "xh" "J") (List.mem_of_getElem? (i := 2) rfl)
  have hw3 := hts (.fieldLink RX3 101 "RangeBoxModel" "yl" "J") (List.mem_of_getElem? (i := 3) rfl)
  have hw4 := hts (.fieldLink RX3 107 "RangeBoxModel" "yh" "J") (List.mem_of_getElem? (i := 4) rfl)
  refine lv_aload_n hx hb dX3_apart_0 rfl (lv_at hl 0 rfl) ?_
  refine va_get (D := (dC, dI)) (ci := 2) (v := .long xl) (C := RX3) (T := TX3) (N := 10) hx hb hts hi_RX3 hown hK hP 0 rfl rfl 6 (by decide) hw0 (fun _ h9 => h9) rfl dX3_apart_1 ?_
  refine lv_aload_n hx hb dX3_apart_4 rfl (lv_at hl 0 rfl) ?_
  refine va_get (D := (dC, dI)) (ci := 2) (v := .long xh) (C := RX3) (T := TX3) (N := 10) hx hb hts hi_RX3 hown hK hP 0 rfl rfl 7 (by decide) hw2 (fun _ h9 => h9) rfl dX3_apart_5 ?_
  refine pl_ne (tgt := 16) hx hb dX3_apart_8 dX3_apart_9 (by decide) (fun c1 => ?_) (fun c1 => ?_)
  · refine lv_iconst (v := (0 : Int32)) hx hb dX3_apart_16 (by decide) ?_
    refine lv_istore_n (lv' := [(1, .int (0 : Int32)), (0, .ref g0)]) hx hb dX3_apart_17 rfl hl (by decide) rfl (fun ls hl => ?_)
    refine lv_aload_n hx hb dX3_apart_18 rfl (lv_at hl 1 rfl) ?_
    refine va_get (D := (dC, dI)) (ci := 2) (v := .long yl) (C := RX3) (T := TX3) (N := 10) hx hb hts hi_RX3 hown hK hP 0 rfl rfl 8 (by decide) hw3 (fun _ h9 => h9) rfl dX3_apart_19 ?_
    refine lv_aload_n hx hb dX3_apart_22 rfl (lv_at hl 1 rfl) ?_
    refine va_get (D := (dC, dI)) (ci := 2) (v := .long yh) (C := RX3) (T := TX3) (N := 10) hx hb hts hi_RX3 hown hK hP 0 rfl rfl 9 (by decide) hw4 (fun _ h9 => h9) rfl dX3_apart_23 ?_
    refine pl_ne (tgt := 34) hx hb dX3_apart_26 dX3_apart_27 (by decide) (fun c2 => ?_) (fun c2 => ?_)
    · refine lv_iconst (v := (0 : Int32)) hx hb dX3_apart_34 (by decide) ?_
      refine lv_istore_n (lv' := [(2, .int (0 : Int32)), (1, .int (0 : Int32)), (0, .ref g0)]) hx hb dX3_apart_35 rfl hl (by decide) rfl (fun ls hl => ?_)
      refine lv_iload_n hx hb dX3_apart_36 rfl (lv_at hl 0 rfl) ?_
      refine lv_if_eq (tgt := 65) hx hb dX3_apart_37 (by decide) (fun _ => ?_) (fun h => absurd (by decide) h)
      refine lv_iload_n hx hb dX3_apart_65 rfl (lv_at hl 0 rfl) ?_
      refine lv_if_eq (tgt := 94) hx hb dX3_apart_66 (by decide) (fun _ => ?_) (fun h => absurd (by decide) h)
      refine lv_iload_n hx hb dX3_apart_94 rfl (lv_at hl 1 rfl) ?_
      refine lv_if_eq (tgt := 123) hx hb dX3_apart_95 (by decide) (fun _ => ?_) (fun h => absurd (by decide) h)
      refine lv_iload_n hx hb dX3_apart_123 rfl (lv_at hl 1 rfl) ?_
      refine lv_if_eq (tgt := 149) hx hb dX3_apart_124 (by decide) (fun _ => ?_) (fun h => absurd (by decide) h)
      have es : (s_X3_apart xl xh yl yh) = (xl, xh, yl, yh) := by unfold s_X3_apart; rw [if_neg c1, if_neg c2]
      exact W.vret hx hb hr (fun t ht hW => by rw [es]; exact ⟨rfl, by rw [ht]; exact hP, hD, hS.F ht⟩) hS.2.2 dX3_apart_149
    · refine lv_iconst (v := (1 : Int32)) hx hb dX3_apart_30 (by decide) ?_
      refine lv_goto (tgt := 35) hx hb dX3_apart_31 (by decide) ?_
      refine lv_istore_n (lv' := [(2, .int (1 : Int32)), (1, .int (0 : Int32)), (0, .ref g0)]) hx hb dX3_apart_35 rfl hl (by decide) rfl (fun ls hl => ?_)
      refine lv_iload_n hx hb dX3_apart_36 rfl (lv_at hl 0 rfl) ?_
      refine lv_if_eq (tgt := 65) hx hb dX3_apart_37 (by decide) (fun h => absurd h (by decide)) (fun _ => ?_)
      refine lv_aload_n hx hb dX3_apart_40 rfl (lv_at hl 2 rfl) ?_
      refine va_get (D := (dC, dI)) (ci := 2) (v := .long xl) (C := RX3) (T := TX3) (N := 10) hx hb hts hi_RX3 hown hK hP 0 rfl rfl 6 (by decide) hw0 (fun _ h9 => h9) rfl dX3_apart_41 ?_
      refine lv_aload_n hx hb dX3_apart_44 rfl (lv_at hl 2 rfl) ?_
      refine va_get (D := (dC, dI)) (ci := 2) (v := .long yl) (C := RX3) (T := TX3) (N := 10) hx hb hts hi_RX3 hown hK hP 0 rfl rfl 8 (by decide) hw3 (fun _ h9 => h9) rfl dX3_apart_45 ?_
      refine pl_ne (tgt := 65) hx hb dX3_apart_48 dX3_apart_49 (by decide) (fun c3 => ?_) (fun c3 => ?_)
      · refine lv_iload_n hx hb dX3_apart_65 rfl (lv_at hl 0 rfl) ?_
        refine lv_if_eq (tgt := 94) hx hb dX3_apart_66 (by decide) (fun h => absurd h (by decide)) (fun _ => ?_)
        refine lv_aload_n hx hb dX3_apart_69 rfl (lv_at hl 2 rfl) ?_
        refine va_get (D := (dC, dI)) (ci := 2) (v := .long xh) (C := RX3) (T := TX3) (N := 10) hx hb hts hi_RX3 hown hK hP 0 rfl rfl 7 (by decide) hw2 (fun _ h9 => h9) rfl dX3_apart_70 ?_
        refine lv_aload_n hx hb dX3_apart_73 rfl (lv_at hl 2 rfl) ?_
        refine va_get (D := (dC, dI)) (ci := 2) (v := .long yl) (C := RX3) (T := TX3) (N := 10) hx hb hts hi_RX3 hown hK hP 0 rfl rfl 8 (by decide) hw3 (fun _ h9 => h9) rfl dX3_apart_74 ?_
        refine pl_ne (tgt := 94) hx hb dX3_apart_77 dX3_apart_78 (by decide) (fun c4 => ?_) (fun c4 => ?_)
        · refine lv_iload_n hx hb dX3_apart_94 rfl (lv_at hl 1 rfl) ?_
          refine lv_if_eq (tgt := 123) hx hb dX3_apart_95 (by decide) (fun _ => ?_) (fun h => absurd (by decide) h)
          refine lv_iload_n hx hb dX3_apart_123 rfl (lv_at hl 1 rfl) ?_
          refine lv_if_eq (tgt := 149) hx hb dX3_apart_124 (by decide) (fun _ => ?_) (fun h => absurd (by decide) h)
          have es : (s_X3_apart xl xh yl yh) = (xl, xh, yl, yh) := by unfold s_X3_apart; rw [if_neg c1, if_pos c2, if_neg c3, if_neg c4]
          exact W.vret hx hb hr (fun t ht hW => by rw [es]; exact ⟨rfl, by rw [ht]; exact hP, hD, hS.F ht⟩) hS.2.2 dX3_apart_149
        · refine lv_aload_n hx hb dX3_apart_81 rfl (lv_at hl 2 rfl) ?_
          refine lv_dup hx hb dX3_apart_82 rfl ?_
          refine va_get (D := (dC, dI)) (ci := 2) (v := .long xh) (C := RX3) (T := TX3) (N := 10) hx hb hts hi_RX3 hown hK hP 0 rfl rfl 7 (by decide) hw2 (fun _ h9 => h9) rfl dX3_apart_83 ?_
          refine lv_lconst (v := (1 : Int64)) hx hb dX3_apart_86 (by decide) ?_
          refine lv_lsub hx hb dX3_apart_87 ?_
          refine va_put (D := (dC, dI)) (ci := 2) (v := .long (xh - (1 : Int64))) (ty := .long) (C := RX3) (T := TX3) (N := 10) hx hb hts hi_RX3 tyX3 tyX3_ok nmX3 hown hK hP hD hS 0 rfl rfl 7 (by decide) hw2 (fun _ h9 => h9) rfl (tyX3_ok 7 (by decide)) rfl rfl (Nat.le_of_ble_eq_true rfl) dX3_apart_88 (fun H locs hP hD hS => ?_)
          have hP : va_P (dC, dI) vwCl [(g0, .inr (2, [.int th, .ref r1, .ref r2, .long fa, .long fb, .int ft, .long xl, .long (xh - (1 : Int64)), .long yl, .long yh]))] H := hP
          have hD : va_D A [(g0, .inr (2, [.int th, .ref r1, .ref r2, .long fa, .long fb, .int ft, .long xl, .long (xh - (1 : Int64)), .long yl, .long yh]))] := hD
          refine lv_goto (tgt := 149) hx hb dX3_apart_91 (by decide) ?_
          have es : (s_X3_apart xl xh yl yh) = (xl, xh - (1 : Int64), yl, yh) := by unfold s_X3_apart; rw [if_neg c1, if_pos c2, if_neg c3, if_pos c4]
          exact W.vret hx hb hr (fun t ht hW => by rw [es]; exact ⟨rfl, by rw [ht]; exact hP, hD, hS.F ht⟩) hS.2.2 dX3_apart_149
      · refine lv_aload_n hx hb dX3_apart_52 rfl (lv_at hl 2 rfl) ?_
        refine lv_dup hx hb dX3_apart_53 rfl ?_
        refine va_get (D := (dC, dI)) (ci := 2) (v := .long xl) (C := RX3) (T := TX3) (N := 10) hx hb hts hi_RX3 hown hK hP 0 rfl rfl 6 (by decide) hw0 (fun _ h9 => h9) rfl dX3_apart_54 ?_
        refine lv_lconst (v := (1 : Int64)) hx hb dX3_apart_57 (by decide) ?_
        refine lv_ladd hx hb dX3_apart_58 ?_
        refine va_put (D := (dC, dI)) (ci := 2) (v := .long (xl + (1 : Int64))) (ty := .long) (C := RX3) (T := TX3) (N := 10) hx hb hts hi_RX3 tyX3 tyX3_ok nmX3 hown hK hP hD hS 0 rfl rfl 6 (by decide) hw0 (fun _ h9 => h9) rfl (tyX3_ok 6 (by decide)) rfl rfl (Nat.le_of_ble_eq_true rfl) dX3_apart_59 (fun H locs hP hD hS => ?_)
        have hP : va_P (dC, dI) vwCl [(g0, .inr (2, [.int th, .ref r1, .ref r2, .long fa, .long fb, .int ft, .long (xl + (1 : Int64)), .long xh, .long yl, .long yh]))] H := hP
        have hD : va_D A [(g0, .inr (2, [.int th, .ref r1, .ref r2, .long fa, .long fb, .int ft, .long (xl + (1 : Int64)), .long xh, .long yl, .long yh]))] := hD
        refine lv_goto (tgt := 149) hx hb dX3_apart_62 (by decide) ?_
        have es : (s_X3_apart xl xh yl yh) = (xl + (1 : Int64), xh, yl, yh) := by unfold s_X3_apart; rw [if_neg c1, if_pos c2, if_pos c3]
        exact W.vret hx hb hr (fun t ht hW => by rw [es]; exact ⟨rfl, by rw [ht]; exact hP, hD, hS.F ht⟩) hS.2.2 dX3_apart_149
  · refine lv_iconst (v := (1 : Int32)) hx hb dX3_apart_12 (by decide) ?_
    refine lv_goto (tgt := 17) hx hb dX3_apart_13 (by decide) ?_
    refine lv_istore_n (lv' := [(1, .int (1 : Int32)), (0, .ref g0)]) hx hb dX3_apart_17 rfl hl (by decide) rfl (fun ls hl => ?_)
    refine lv_aload_n hx hb dX3_apart_18 rfl (lv_at hl 1 rfl) ?_
    refine va_get (D := (dC, dI)) (ci := 2) (v := .long yl) (C := RX3) (T := TX3) (N := 10) hx hb hts hi_RX3 hown hK hP 0 rfl rfl 8 (by decide) hw3 (fun _ h9 => h9) rfl dX3_apart_19 ?_
    refine lv_aload_n hx hb dX3_apart_22 rfl (lv_at hl 1 rfl) ?_
    refine va_get (D := (dC, dI)) (ci := 2) (v := .long yh) (C := RX3) (T := TX3) (N := 10) hx hb hts hi_RX3 hown hK hP 0 rfl rfl 9 (by decide) hw4 (fun _ h9 => h9) rfl dX3_apart_23 ?_
    refine pl_ne (tgt := 34) hx hb dX3_apart_26 dX3_apart_27 (by decide) (fun c5 => ?_) (fun c5 => ?_)
    · refine lv_iconst (v := (0 : Int32)) hx hb dX3_apart_34 (by decide) ?_
      refine lv_istore_n (lv' := [(2, .int (0 : Int32)), (1, .int (1 : Int32)), (0, .ref g0)]) hx hb dX3_apart_35 rfl hl (by decide) rfl (fun ls hl => ?_)
      refine lv_iload_n hx hb dX3_apart_36 rfl (lv_at hl 0 rfl) ?_
      refine lv_if_eq (tgt := 65) hx hb dX3_apart_37 (by decide) (fun _ => ?_) (fun h => absurd (by decide) h)
      refine lv_iload_n hx hb dX3_apart_65 rfl (lv_at hl 0 rfl) ?_
      refine lv_if_eq (tgt := 94) hx hb dX3_apart_66 (by decide) (fun _ => ?_) (fun h => absurd (by decide) h)
      refine lv_iload_n hx hb dX3_apart_94 rfl (lv_at hl 1 rfl) ?_
      refine lv_if_eq (tgt := 123) hx hb dX3_apart_95 (by decide) (fun h => absurd h (by decide)) (fun _ => ?_)
      refine lv_aload_n hx hb dX3_apart_98 rfl (lv_at hl 2 rfl) ?_
      refine va_get (D := (dC, dI)) (ci := 2) (v := .long yl) (C := RX3) (T := TX3) (N := 10) hx hb hts hi_RX3 hown hK hP 0 rfl rfl 8 (by decide) hw3 (fun _ h9 => h9) rfl dX3_apart_99 ?_
      refine lv_aload_n hx hb dX3_apart_102 rfl (lv_at hl 2 rfl) ?_
      refine va_get (D := (dC, dI)) (ci := 2) (v := .long xl) (C := RX3) (T := TX3) (N := 10) hx hb hts hi_RX3 hown hK hP 0 rfl rfl 6 (by decide) hw0 (fun _ h9 => h9) rfl dX3_apart_103 ?_
      refine pl_ne (tgt := 123) hx hb dX3_apart_106 dX3_apart_107 (by decide) (fun c6 => ?_) (fun c6 => ?_)
      · refine lv_iload_n hx hb dX3_apart_123 rfl (lv_at hl 1 rfl) ?_
        refine lv_if_eq (tgt := 149) hx hb dX3_apart_124 (by decide) (fun h => absurd h (by decide)) (fun _ => ?_)
        refine lv_aload_n hx hb dX3_apart_127 rfl (lv_at hl 2 rfl) ?_
        refine va_get (D := (dC, dI)) (ci := 2) (v := .long yh) (C := RX3) (T := TX3) (N := 10) hx hb hts hi_RX3 hown hK hP 0 rfl rfl 9 (by decide) hw4 (fun _ h9 => h9) rfl dX3_apart_128 ?_
        refine lv_aload_n hx hb dX3_apart_131 rfl (lv_at hl 2 rfl) ?_
        refine va_get (D := (dC, dI)) (ci := 2) (v := .long xl) (C := RX3) (T := TX3) (N := 10) hx hb hts hi_RX3 hown hK hP 0 rfl rfl 6 (by decide) hw0 (fun _ h9 => h9) rfl dX3_apart_132 ?_
        refine pl_ne (tgt := 149) hx hb dX3_apart_135 dX3_apart_136 (by decide) (fun c7 => ?_) (fun c7 => ?_)
        · have es : (s_X3_apart xl xh yl yh) = (xl, xh, yl, yh) := by unfold s_X3_apart; rw [if_pos c1, if_neg c5, if_neg c6, if_neg c7]
          exact W.vret hx hb hr (fun t ht hW => by rw [es]; exact ⟨rfl, by rw [ht]; exact hP, hD, hS.F ht⟩) hS.2.2 dX3_apart_149
        · refine lv_aload_n hx hb dX3_apart_139 rfl (lv_at hl 2 rfl) ?_
          refine lv_dup hx hb dX3_apart_140 rfl ?_
          refine va_get (D := (dC, dI)) (ci := 2) (v := .long yh) (C := RX3) (T := TX3) (N := 10) hx hb hts hi_RX3 hown hK hP 0 rfl rfl 9 (by decide) hw4 (fun _ h9 => h9) rfl dX3_apart_141 ?_
          refine lv_lconst (v := (1 : Int64)) hx hb dX3_apart_144 (by decide) ?_
          refine lv_lsub hx hb dX3_apart_145 ?_
          refine va_put (D := (dC, dI)) (ci := 2) (v := .long (yh - (1 : Int64))) (ty := .long) (C := RX3) (T := TX3) (N := 10) hx hb hts hi_RX3 tyX3 tyX3_ok nmX3 hown hK hP hD hS 0 rfl rfl 9 (by decide) hw4 (fun _ h9 => h9) rfl (tyX3_ok 9 (by decide)) rfl rfl (Nat.le_of_ble_eq_true rfl) dX3_apart_146 (fun H locs hP hD hS => ?_)
          have hP : va_P (dC, dI) vwCl [(g0, .inr (2, [.int th, .ref r1, .ref r2, .long fa, .long fb, .int ft, .long xl, .long xh, .long yl, .long (yh - (1 : Int64))]))] H := hP
          have hD : va_D A [(g0, .inr (2, [.int th, .ref r1, .ref r2, .long fa, .long fb, .int ft, .long xl, .long xh, .long yl, .long (yh - (1 : Int64))]))] := hD
          have es : (s_X3_apart xl xh yl yh) = (xl, xh, yl, yh - (1 : Int64)) := by unfold s_X3_apart; rw [if_pos c1, if_neg c5, if_neg c6, if_pos c7]
          exact W.vret hx hb hr (fun t ht hW => by rw [es]; exact ⟨rfl, by rw [ht]; exact hP, hD, hS.F ht⟩) hS.2.2 dX3_apart_149
      · refine lv_aload_n hx hb dX3_apart_110 rfl (lv_at hl 2 rfl) ?_
        refine lv_dup hx hb dX3_apart_111 rfl ?_
        refine va_get (D := (dC, dI)) (ci := 2) (v := .long yl) (C := RX3) (T := TX3) (N := 10) hx hb hts hi_RX3 hown hK hP 0 rfl rfl 8 (by decide) hw3 (fun _ h9 => h9) rfl dX3_apart_112 ?_
        refine lv_lconst (v := (1 : Int64)) hx hb dX3_apart_115 (by decide) ?_
        refine lv_ladd hx hb dX3_apart_116 ?_
        refine va_put (D := (dC, dI)) (ci := 2) (v := .long (yl + (1 : Int64))) (ty := .long) (C := RX3) (T := TX3) (N := 10) hx hb hts hi_RX3 tyX3 tyX3_ok nmX3 hown hK hP hD hS 0 rfl rfl 8 (by decide) hw3 (fun _ h9 => h9) rfl (tyX3_ok 8 (by decide)) rfl rfl (Nat.le_of_ble_eq_true rfl) dX3_apart_117 (fun H locs hP hD hS => ?_)
        have hP : va_P (dC, dI) vwCl [(g0, .inr (2, [.int th, .ref r1, .ref r2, .long fa, .long fb, .int ft, .long xl, .long xh, .long (yl + (1 : Int64)), .long yh]))] H := hP
        have hD : va_D A [(g0, .inr (2, [.int th, .ref r1, .ref r2, .long fa, .long fb, .int ft, .long xl, .long xh, .long (yl + (1 : Int64)), .long yh]))] := hD
        refine lv_goto (tgt := 149) hx hb dX3_apart_120 (by decide) ?_
        have es : (s_X3_apart xl xh yl yh) = (xl, xh, yl + (1 : Int64), yh) := by unfold s_X3_apart; rw [if_pos c1, if_neg c5, if_pos c6]
        exact W.vret hx hb hr (fun t ht hW => by rw [es]; exact ⟨rfl, by rw [ht]; exact hP, hD, hS.F ht⟩) hS.2.2 dX3_apart_149
    · refine lv_iconst (v := (1 : Int32)) hx hb dX3_apart_30 (by decide) ?_
      refine lv_goto (tgt := 35) hx hb dX3_apart_31 (by decide) ?_
      refine lv_istore_n (lv' := [(2, .int (1 : Int32)), (1, .int (1 : Int32)), (0, .ref g0)]) hx hb dX3_apart_35 rfl hl (by decide) rfl (fun ls hl => ?_)
      refine lv_iload_n hx hb dX3_apart_36 rfl (lv_at hl 0 rfl) ?_
      refine lv_if_eq (tgt := 65) hx hb dX3_apart_37 (by decide) (fun h => absurd h (by decide)) (fun _ => ?_)
      refine lv_aload_n hx hb dX3_apart_40 rfl (lv_at hl 2 rfl) ?_
      refine va_get (D := (dC, dI)) (ci := 2) (v := .long xl) (C := RX3) (T := TX3) (N := 10) hx hb hts hi_RX3 hown hK hP 0 rfl rfl 6 (by decide) hw0 (fun _ h9 => h9) rfl dX3_apart_41 ?_
      refine lv_aload_n hx hb dX3_apart_44 rfl (lv_at hl 2 rfl) ?_
      refine va_get (D := (dC, dI)) (ci := 2) (v := .long yl) (C := RX3) (T := TX3) (N := 10) hx hb hts hi_RX3 hown hK hP 0 rfl rfl 8 (by decide) hw3 (fun _ h9 => h9) rfl dX3_apart_45 ?_
      refine pl_ne (tgt := 65) hx hb dX3_apart_48 dX3_apart_49 (by decide) (fun c8 => ?_) (fun c8 => ?_)
      · refine lv_iload_n hx hb dX3_apart_65 rfl (lv_at hl 0 rfl) ?_
        refine lv_if_eq (tgt := 94) hx hb dX3_apart_66 (by decide) (fun h => absurd h (by decide)) (fun _ => ?_)
        refine lv_aload_n hx hb dX3_apart_69 rfl (lv_at hl 2 rfl) ?_
        refine va_get (D := (dC, dI)) (ci := 2) (v := .long xh) (C := RX3) (T := TX3) (N := 10) hx hb hts hi_RX3 hown hK hP 0 rfl rfl 7 (by decide) hw2 (fun _ h9 => h9) rfl dX3_apart_70 ?_
        refine lv_aload_n hx hb dX3_apart_73 rfl (lv_at hl 2 rfl) ?_
        refine va_get (D := (dC, dI)) (ci := 2) (v := .long yl) (C := RX3) (T := TX3) (N := 10) hx hb hts hi_RX3 hown hK hP 0 rfl rfl 8 (by decide) hw3 (fun _ h9 => h9) rfl dX3_apart_74 ?_
        refine pl_ne (tgt := 94) hx hb dX3_apart_77 dX3_apart_78 (by decide) (fun c9 => ?_) (fun c9 => ?_)
        · refine lv_iload_n hx hb dX3_apart_94 rfl (lv_at hl 1 rfl) ?_
          refine lv_if_eq (tgt := 123) hx hb dX3_apart_95 (by decide) (fun h => absurd h (by decide)) (fun _ => ?_)
          refine lv_aload_n hx hb dX3_apart_98 rfl (lv_at hl 2 rfl) ?_
          refine va_get (D := (dC, dI)) (ci := 2) (v := .long yl) (C := RX3) (T := TX3) (N := 10) hx hb hts hi_RX3 hown hK hP 0 rfl rfl 8 (by decide) hw3 (fun _ h9 => h9) rfl dX3_apart_99 ?_
          refine lv_aload_n hx hb dX3_apart_102 rfl (lv_at hl 2 rfl) ?_
          refine va_get (D := (dC, dI)) (ci := 2) (v := .long xl) (C := RX3) (T := TX3) (N := 10) hx hb hts hi_RX3 hown hK hP 0 rfl rfl 6 (by decide) hw0 (fun _ h9 => h9) rfl dX3_apart_103 ?_
          refine pl_ne (tgt := 123) hx hb dX3_apart_106 dX3_apart_107 (by decide) (fun c10 => ?_) (fun c10 => ?_)
          · refine lv_iload_n hx hb dX3_apart_123 rfl (lv_at hl 1 rfl) ?_
            refine lv_if_eq (tgt := 149) hx hb dX3_apart_124 (by decide) (fun h => absurd h (by decide)) (fun _ => ?_)
            refine lv_aload_n hx hb dX3_apart_127 rfl (lv_at hl 2 rfl) ?_
            refine va_get (D := (dC, dI)) (ci := 2) (v := .long yh) (C := RX3) (T := TX3) (N := 10) hx hb hts hi_RX3 hown hK hP 0 rfl rfl 9 (by decide) hw4 (fun _ h9 => h9) rfl dX3_apart_128 ?_
            refine lv_aload_n hx hb dX3_apart_131 rfl (lv_at hl 2 rfl) ?_
            refine va_get (D := (dC, dI)) (ci := 2) (v := .long xl) (C := RX3) (T := TX3) (N := 10) hx hb hts hi_RX3 hown hK hP 0 rfl rfl 6 (by decide) hw0 (fun _ h9 => h9) rfl dX3_apart_132 ?_
            refine pl_ne (tgt := 149) hx hb dX3_apart_135 dX3_apart_136 (by decide) (fun c11 => ?_) (fun c11 => ?_)
            · have es : (s_X3_apart xl xh yl yh) = (xl, xh, yl, yh) := by unfold s_X3_apart; rw [if_pos c1, if_pos c5, if_neg c8, if_neg c9, if_neg c10, if_neg c11]
              exact W.vret hx hb hr (fun t ht hW => by rw [es]; exact ⟨rfl, by rw [ht]; exact hP, hD, hS.F ht⟩) hS.2.2 dX3_apart_149
            · refine lv_aload_n hx hb dX3_apart_139 rfl (lv_at hl 2 rfl) ?_
              refine lv_dup hx hb dX3_apart_140 rfl ?_
              refine va_get (D := (dC, dI)) (ci := 2) (v := .long yh) (C := RX3) (T := TX3) (N := 10) hx hb hts hi_RX3 hown hK hP 0 rfl rfl 9 (by decide) hw4 (fun _ h9 => h9) rfl dX3_apart_141 ?_
              refine lv_lconst (v := (1 : Int64)) hx hb dX3_apart_144 (by decide) ?_
              refine lv_lsub hx hb dX3_apart_145 ?_
              refine va_put (D := (dC, dI)) (ci := 2) (v := .long (yh - (1 : Int64))) (ty := .long) (C := RX3) (T := TX3) (N := 10) hx hb hts hi_RX3 tyX3 tyX3_ok nmX3 hown hK hP hD hS 0 rfl rfl 9 (by decide) hw4 (fun _ h9 => h9) rfl (tyX3_ok 9 (by decide)) rfl rfl (Nat.le_of_ble_eq_true rfl) dX3_apart_146 (fun H locs hP hD hS => ?_)
              have hP : va_P (dC, dI) vwCl [(g0, .inr (2, [.int th, .ref r1, .ref r2, .long fa, .long fb, .int ft, .long xl, .long xh, .long yl, .long (yh - (1 : Int64))]))] H := hP
              have hD : va_D A [(g0, .inr (2, [.int th, .ref r1, .ref r2, .long fa, .long fb, .int ft, .long xl, .long xh, .long yl, .long (yh - (1 : Int64))]))] := hD
              have es : (s_X3_apart xl xh yl yh) = (xl, xh, yl, yh - (1 : Int64)) := by unfold s_X3_apart; rw [if_pos c1, if_pos c5, if_neg c8, if_neg c9, if_neg c10, if_pos c11]
              exact W.vret hx hb hr (fun t ht hW => by rw [es]; exact ⟨rfl, by rw [ht]; exact hP, hD, hS.F ht⟩) hS.2.2 dX3_apart_149
          · refine lv_aload_n hx hb dX3_apart_110 rfl (lv_at hl 2 rfl) ?_
            refine lv_dup hx hb dX3_apart_111 rfl ?_
            refine va_get (D := (dC, dI)) (ci := 2) (v := .long yl) (C := RX3) (T := TX3) (N := 10) hx hb hts hi_RX3 hown hK hP 0 rfl rfl 8 (by decide) hw3 (fun _ h9 => h9) rfl dX3_apart_112 ?_
            refine lv_lconst (v := (1 : Int64)) hx hb dX3_apart_115 (by decide) ?_
            refine lv_ladd hx hb dX3_apart_116 ?_
            refine va_put (D := (dC, dI)) (ci := 2) (v := .long (yl + (1 : Int64))) (ty := .long) (C := RX3) (T := TX3) (N := 10) hx hb hts hi_RX3 tyX3 tyX3_ok nmX3 hown hK hP hD hS 0 rfl rfl 8 (by decide) hw3 (fun _ h9 => h9) rfl (tyX3_ok 8 (by decide)) rfl rfl (Nat.le_of_ble_eq_true rfl) dX3_apart_117 (fun H locs hP hD hS => ?_)
            have hP : va_P (dC, dI) vwCl [(g0, .inr (2, [.int th, .ref r1, .ref r2, .long fa, .long fb, .int ft, .long xl, .long xh, .long (yl + (1 : Int64)), .long yh]))] H := hP
            have hD : va_D A [(g0, .inr (2, [.int th, .ref r1, .ref r2, .long fa, .long fb, .int ft, .long xl, .long xh, .long (yl + (1 : Int64)), .long yh]))] := hD
            refine lv_goto (tgt := 149) hx hb dX3_apart_120 (by decide) ?_
            have es : (s_X3_apart xl xh yl yh) = (xl, xh, yl + (1 : Int64), yh) := by unfold s_X3_apart; rw [if_pos c1, if_pos c5, if_neg c8, if_neg c9, if_pos c10]
            exact W.vret hx hb hr (fun t ht hW => by rw [es]; exact ⟨rfl, by rw [ht]; exact hP, hD, hS.F ht⟩) hS.2.2 dX3_apart_149
        · refine lv_aload_n hx hb dX3_apart_81 rfl (lv_at hl 2 rfl) ?_
          refine lv_dup hx hb dX3_apart_82 rfl ?_
          refine va_get (D := (dC, dI)) (ci := 2) (v := .long xh) (C := RX3) (T := TX3) (N := 10) hx hb hts hi_RX3 hown hK hP 0 rfl rfl 7 (by decide) hw2 (fun _ h9 => h9) rfl dX3_apart_83 ?_
          refine lv_lconst (v := (1 : Int64)) hx hb dX3_apart_86 (by decide) ?_
          refine lv_lsub hx hb dX3_apart_87 ?_
          refine va_put (D := (dC, dI)) (ci := 2) (v := .long (xh - (1 : Int64))) (ty := .long) (C := RX3) (T := TX3) (N := 10) hx hb hts hi_RX3 tyX3 tyX3_ok nmX3 hown hK hP hD hS 0 rfl rfl 7 (by decide) hw2 (fun _ h9 => h9) rfl (tyX3_ok 7 (by decide)) rfl rfl (Nat.le_of_ble_eq_true rfl) dX3_apart_88 (fun H locs hP hD hS => ?_)
          have hP : va_P (dC, dI) vwCl [(g0, .inr (2, [.int th, .ref r1, .ref r2, .long fa, .long fb, .int ft, .long xl, .long (xh - (1 : Int64)), .long yl, .long yh]))] H := hP
          have hD : va_D A [(g0, .inr (2, [.int th, .ref r1, .ref r2, .long fa, .long fb, .int ft, .long xl, .long (xh - (1 : Int64)), .long yl, .long yh]))] := hD
          refine lv_goto (tgt := 149) hx hb dX3_apart_91 (by decide) ?_
          have es : (s_X3_apart xl xh yl yh) = (xl, xh - (1 : Int64), yl, yh) := by unfold s_X3_apart; rw [if_pos c1, if_pos c5, if_neg c8, if_pos c9]
          exact W.vret hx hb hr (fun t ht hW => by rw [es]; exact ⟨rfl, by rw [ht]; exact hP, hD, hS.F ht⟩) hS.2.2 dX3_apart_149
      · refine lv_aload_n hx hb dX3_apart_52 rfl (lv_at hl 2 rfl) ?_
        refine lv_dup hx hb dX3_apart_53 rfl ?_
        refine va_get (D := (dC, dI)) (ci := 2) (v := .long xl) (C := RX3) (T := TX3) (N := 10) hx hb hts hi_RX3 hown hK hP 0 rfl rfl 6 (by decide) hw0 (fun _ h9 => h9) rfl dX3_apart_54 ?_
        refine lv_lconst (v := (1 : Int64)) hx hb dX3_apart_57 (by decide) ?_
        refine lv_ladd hx hb dX3_apart_58 ?_
        refine va_put (D := (dC, dI)) (ci := 2) (v := .long (xl + (1 : Int64))) (ty := .long) (C := RX3) (T := TX3) (N := 10) hx hb hts hi_RX3 tyX3 tyX3_ok nmX3 hown hK hP hD hS 0 rfl rfl 6 (by decide) hw0 (fun _ h9 => h9) rfl (tyX3_ok 6 (by decide)) rfl rfl (Nat.le_of_ble_eq_true rfl) dX3_apart_59 (fun H locs hP hD hS => ?_)
        have hP : va_P (dC, dI) vwCl [(g0, .inr (2, [.int th, .ref r1, .ref r2, .long fa, .long fb, .int ft, .long (xl + (1 : Int64)), .long xh, .long yl, .long yh]))] H := hP
        have hD : va_D A [(g0, .inr (2, [.int th, .ref r1, .ref r2, .long fa, .long fb, .int ft, .long (xl + (1 : Int64)), .long xh, .long yl, .long yh]))] := hD
        refine lv_goto (tgt := 149) hx hb dX3_apart_62 (by decide) ?_
        have es : (s_X3_apart xl xh yl yh) = (xl + (1 : Int64), xh, yl, yh) := by unfold s_X3_apart; rw [if_pos c1, if_pos c5, if_pos c8]
        exact W.vret hx hb hr (fun t ht hW => by rw [es]; exact ⟨rfl, by rw [ht]; exact hP, hD, hS.F ht⟩) hS.2.2 dX3_apart_149

def s_X3_below (xl : Int64) (xh : Int64) (yl : Int64) (yh : Int64) (p0 : Int32) (p1 : Int32) : Int32 × Int64 × Int64 × Int64 :=
  if p1 = (0 : Int32) then (if p0 = (0 : Int32) then (if pl_min xh yh < xl then ((0 : Int32), xl, pl_min xh yh, pl_max yl xl)
      else if yh < pl_max yl xl then ((0 : Int32), xl, pl_min xh yh, pl_max yl xl)
      else ((1 : Int32), xl, pl_min xh yh, pl_max yl xl))
    else if yh = (-9223372036854775808 : Int64) then ((0 : Int32), xl, xh, yl)
    else if xl = (9223372036854775807 : Int64) then ((0 : Int32), xl, xh, yl)
    else if pl_min xh (yh - (1 : Int64)) < xl then ((0 : Int32), xl, pl_min xh (yh - (1 : Int64)), pl_max yl (xl + (1 : Int64)))
    else if yh < pl_max yl (xl + (1 : Int64)) then ((0 : Int32), xl, pl_min xh (yh - (1 : Int64)), pl_max yl (xl + (1 : Int64)))
    else ((1 : Int32), xl, pl_min xh (yh - (1 : Int64)), pl_max yl (xl + (1 : Int64))))
  else if xl < (0 : Int64) then (if yl < (0 : Int64) then ((1 : Int32), xl, xh, yl)
    else if p0 = (0 : Int32) then (if pl_min xh yh < pl_max xl (0 : Int64) then ((0 : Int32), pl_max xl (0 : Int64), pl_min xh yh, yl)
      else ((1 : Int32), pl_max xl (0 : Int64), pl_min xh yh, yl))
    else if pl_min xh (yh - (1 : Int64)) < pl_max xl (0 : Int64) then ((0 : Int32), pl_max xl (0 : Int64), pl_min xh (yh - (1 : Int64)), yl)
    else ((1 : Int32), pl_max xl (0 : Int64), pl_min xh (yh - (1 : Int64)), yl))
  else if yl < (0 : Int64) then ((1 : Int32), xl, xh, yl)
  else if p0 = (0 : Int32) then (if pl_min xh yh < xl then ((0 : Int32), xl, pl_min xh yh, pl_max yl xl)
    else if yh < pl_max yl xl then ((0 : Int32), xl, pl_min xh yh, pl_max yl xl)
    else ((1 : Int32), xl, pl_min xh yh, pl_max yl xl))
  else if yh = (-9223372036854775808 : Int64) then ((0 : Int32), xl, xh, yl)
  else if xl = (9223372036854775807 : Int64) then ((0 : Int32), xl, xh, yl)
  else if pl_min xh (yh - (1 : Int64)) < xl then ((0 : Int32), xl, pl_min xh (yh - (1 : Int64)), pl_max yl (xl + (1 : Int64)))
  else if yh < pl_max yl (xl + (1 : Int64)) then ((0 : Int32), xl, pl_min xh (yh - (1 : Int64)), pl_max yl (xl + (1 : Int64)))
  else ((1 : Int32), xl, pl_min xh (yh - (1 : Int64)), pl_max yl (xl + (1 : Int64)))
theorem z_X3_below (xl : Int64) (xh : Int64) (yl : Int64) (yh : Int64) (p0 : Int32) (p1 : Int32) : (s_X3_below xl xh yl yh p0 p1).1 = 0 ∨ (s_X3_below xl xh yl yh p0 p1).1 = 1 := by
  unfold s_X3_below
  by_cases c1 : p1 = (0 : Int32)
  · rw [if_pos c1]
    by_cases c2 : p0 = (0 : Int32)
    · rw [if_pos c2]
      by_cases c3 : pl_min xh yh < xl
      · rw [if_pos c3]
        exact Or.inl rfl
      · rw [if_neg c3]
        by_cases c4 : yh < pl_max yl xl
        · rw [if_pos c4]
          exact Or.inl rfl
        · rw [if_neg c4]
          exact Or.inr rfl
    · rw [if_neg c2]
      by_cases c5 : yh = (-9223372036854775808 : Int64)
      · rw [if_pos c5]
        exact Or.inl rfl
      · rw [if_neg c5]
        by_cases c6 : xl = (9223372036854775807 : Int64)
        · rw [if_pos c6]
          exact Or.inl rfl
        · rw [if_neg c6]
          by_cases c7 : pl_min xh (yh - (1 : Int64)) < xl
          · rw [if_pos c7]
            exact Or.inl rfl
          · rw [if_neg c7]
            by_cases c8 : yh < pl_max yl (xl + (1 : Int64))
            · rw [if_pos c8]
              exact Or.inl rfl
            · rw [if_neg c8]
              exact Or.inr rfl
  · rw [if_neg c1]
    by_cases c9 : xl < (0 : Int64)
    · rw [if_pos c9]
      by_cases c10 : yl < (0 : Int64)
      · rw [if_pos c10]
        exact Or.inr rfl
      · rw [if_neg c10]
        by_cases c11 : p0 = (0 : Int32)
        · rw [if_pos c11]
          by_cases c12 : pl_min xh yh < pl_max xl (0 : Int64)
          · rw [if_pos c12]
            exact Or.inl rfl
          · rw [if_neg c12]
            exact Or.inr rfl
        · rw [if_neg c11]
          by_cases c13 : pl_min xh (yh - (1 : Int64)) < pl_max xl (0 : Int64)
          · rw [if_pos c13]
            exact Or.inl rfl
          · rw [if_neg c13]
            exact Or.inr rfl
    · rw [if_neg c9]
      by_cases c14 : yl < (0 : Int64)
      · rw [if_pos c14]
        exact Or.inr rfl
      · rw [if_neg c14]
        by_cases c15 : p0 = (0 : Int32)
        · rw [if_pos c15]
          by_cases c16 : pl_min xh yh < xl
          · rw [if_pos c16]
            exact Or.inl rfl
          · rw [if_neg c16]
            by_cases c17 : yh < pl_max yl xl
            · rw [if_pos c17]
              exact Or.inl rfl
            · rw [if_neg c17]
              exact Or.inr rfl
        · rw [if_neg c15]
          by_cases c18 : yh = (-9223372036854775808 : Int64)
          · rw [if_pos c18]
            exact Or.inl rfl
          · rw [if_neg c18]
            by_cases c19 : xl = (9223372036854775807 : Int64)
            · rw [if_pos c19]
              exact Or.inl rfl
            · rw [if_neg c19]
              by_cases c20 : pl_min xh (yh - (1 : Int64)) < xl
              · rw [if_pos c20]
                exact Or.inl rfl
              · rw [if_neg c20]
                by_cases c21 : yh < pl_max yl (xl + (1 : Int64))
                · rw [if_pos c21]
                  exact Or.inl rfl
                · rw [if_neg c21]
                  exact Or.inr rfl
set_option maxHeartbeats 4000000 in
set_option maxRecDepth 100000 in
theorem c_X3_below (l : Launch) (dC : Nat → ClassId) (dI : Nat → Nat → Nat) (g0 r1 r2 sz : Nat) (th : Int32) (fa : Int64) (fb : Int64) (ft : Int32) (xl : Int64) (xh : Int64) (yl : Int64) (yh : Int64) (p0 : Int32) (p1 : Int32) : Met l yX3_below wsX3_below ({ frames := 1, cells := 0, slots := 0, locals := 16 }) (wp9 (dC, dI) vwCl [] [.ref g0, .int p0, .int p1] sz [(g0, .inr (2, [.int th, .ref r1, .ref r2, .long fa, .long fb, .int ft, .long xl, .long xh, .long yl, .long yh]))]) (wq (some (.int ((s_X3_below xl xh yl yh p0 p1).1))) (dC, dI) vwCl [(g0, .inr (2, [.int th, .ref r1, .ref r2, .long fa, .long fb, .int ft, .long ((s_X3_below xl xh yl yh p0 p1).2.1), .long ((s_X3_below xl xh yl yh p0 p1).2.2.1), .long ((s_X3_below xl xh yl yh p0 p1).2.2.2), .long yh]))] (va_A [(g0, .inr (2, [.int th, .ref r1, .ref r2, .long fa, .long fb, .int ft, .long xl, .long xh, .long yl, .long yh]))] sz)) 0 0 (va_A [(g0, .inr (2, [.int th, .ref r1, .ref r2, .long fa, .long fb, .int ft, .long xl, .long xh, .long yl, .long yh]))] sz) := by
  refine Met.ofW (cc := cX3_below) (maxL := 7) (ret := (some .boolean)) (by decide) rfl ?_
  intro p e s m args below meth c s₁ B hml hv
  obtain ⟨rfl, hsz, hP, hK, hD0⟩ := hv
  have hx := B.exec
  have hb := B.bytes
  have hr := B.returns
  have hts := atoms_spec (ws := wsX3_below) B.pre
  have hown : s.vm.findClass RX3 = some m.cls := findClass_of_methodNamed B.named
  have hlocks := B.notSynchronized
  subst hsz
  have hD := hD0.self (sz := s.heap.size)
  generalize hAe : va_A [(g0, .inr (2, [.int th, .ref r1, .ref r2, .long fa, .long fb, .int ft, .long xl, .long xh, .long yl, .long yh]))] s.heap.size = A at hD ⊢
  have hA : ∀ q : Nat, s.heap.size ≤ q → A q := fun q h => by rw [← hAe]; exact Or.inr h
  have hS : va_S A s.heap s.heap [] := va_S.rf
  have hP : va_P (dC, dI) vwCl [(g0, .inr (2, [.int th, .ref r1, .ref r2, .long fa, .long fb, .int ft, .long xl, .long xh, .long yl, .long yh]))] s.heap := hP
  have hl := lv_entry ([.ref g0, .int p0, .int p1]) (n := 7) (Nat.le_of_ble_eq_true rfl)
  rw [lg_entry_eq]
  generalize (lg_sl ([.ref g0, .int p0, .int p1]) ++ List.replicate (7 - (lg_sl ([.ref g0, .int p0, .int p1])).length) Slot.unset).toArray = ls at hl ⊢
  have hl : lv_has ls 7 [(0, .ref g0), (1, .int p0), (2, .int p1)] := hl
  have hw0 := hts (.fieldLink RX3 104 "RangeBoxModel" "xh" "J") (List.mem_of_getElem? (i := 7) rfl)
  have hi_RX3 : ∀ w ∈ wsX30, w ∈ wsX3_below := fun _ h => List.mem_cons_of_mem _ (List.mem_append_right _ h)
  have hw2 := hts (.fieldLink RX3 107 "RangeBoxModel" "yh" "J") (List.mem_of_getElem? (i := 8) rfl)
  have hw3 := hts (.methodLink RX3 71 Lib.MathLoose.min_long.x) (List.mem_of_getElem? (i := 9) rfl)
  have hw4 := hts (.static Lib.MathLoose.min_long.x) (List.mem_of_getElem? (i := 10) rfl)
  have hw5 := hts (.initialized "java/lang/Math") (List.mem_of_getElem? (i := 5) rfl)
  have hw6 := hts (.code Lib.MathLoose.min_long.x Lib.MathLoose.min_long.code 4 (some .long)) (List.mem_of_getElem? (i := 11) rfl)
  have hw7 := hts (.fieldLink RX3 101 "RangeBoxModel" "yl" "J") (List.mem_of_getElem? (i := 2) rfl)
  have hw8 := hts (.fieldLink RX3 98 "RangeBoxModel" "xl" "J") (List.mem_of_getElem? (i := 1) rfl)
  have hw9 := hts (.methodLink RX3 74 Lib.MathLoose.max_long.x) (List.mem_of_getElem? (i := 3) rfl)
  have hw10 := hts (.static Lib.MathLoose.max_long.x) (List.mem_of_getElem? (i := 4) rfl)
  have hw11 := hts (.code Lib.MathLoose.max_long.x Lib.MathLoose.max_long.code 4 (some .long)) (List.mem_of_getElem? (i := 6) rfl)
  have hw12 := hts (.constantLong RX3 39 (-9223372036854775808)) (List.mem_of_getElem? (i := 12) rfl)
  have hw13 := hts (.constantLong RX3 45 (9223372036854775807)) (List.mem_of_getElem? (i := 13) rfl)
  refine lv_iload_n hx hb dX3_below_0 rfl (lv_at hl 2 rfl) ?_
  refine lv_if_eq (tgt := 91) hx hb dX3_below_1 (by decide) (fun c1 => ?_) (fun c1 => ?_)
  · refine lv_iload_n hx hb dX3_below_91 rfl (lv_at hl 1 rfl) ?_
    refine lv_if_eq (tgt := 119) hx hb dX3_below_92 (by decide) (fun c2 => ?_) (fun c2 => ?_)
    · refine lv_aload_n hx hb dX3_below_119 rfl (lv_at hl 0 rfl) ?_
      refine va_get (D := (dC, dI)) (ci := 2) (v := .long xh) (C := RX3) (T := TX3) (N := 10) hx hb hts hi_RX3 hown hK hP 0 rfl rfl 7 (by decide) hw0 (fun _ h9 => h9) rfl dX3_below_120 ?_
      refine lv_iload_n hx hb dX3_below_123 rfl (lv_at hl 1 rfl) ?_
      refine lv_if_eq (tgt := 136) hx hb dX3_below_124 (by decide) (fun _ => ?_) (fun h => absurd (c2) h)
      refine lv_aload_n hx hb dX3_below_136 rfl (lv_at hl 0 rfl) ?_
      refine va_get (D := (dC, dI)) (ci := 2) (v := .long yh) (C := RX3) (T := TX3) (N := 10) hx hb hts hi_RX3 hown hK hP 0 rfl rfl 9 (by decide) hw2 (fun _ h9 => h9) rfl dX3_below_137 ?_
      refine pm_min hx hb (hml.trans hl.1.symm) hown hw3 hw4 hw5 hw6 (Nat.le_of_ble_eq_true rfl) (Nat.le_of_ble_eq_true rfl) (Nat.le_of_ble_eq_true rfl) (Nat.le_of_ble_eq_true rfl) dX3_below_140 ?_
      refine lv_lstore_n (lv' := [(3, .long (pl_min xh yh)), (0, .ref g0), (1, .int p0), (2, .int p1)]) hx hb dX3_below_143 rfl hl (by decide) rfl (fun ls hl => ?_)
      refine lv_aload_n hx hb dX3_below_144 rfl (lv_at hl 1 rfl) ?_
      refine va_get (D := (dC, dI)) (ci := 2) (v := .long yl) (C := RX3) (T := TX3) (N := 10) hx hb hts hi_RX3 hown hK hP 0 rfl rfl 8 (by decide) hw7 (fun _ h9 => h9) rfl dX3_below_145 ?_
      refine lv_iload_n hx hb dX3_below_148 rfl (lv_at hl 2 rfl) ?_
      refine lv_if_eq (tgt := 161) hx hb dX3_below_149 (by decide) (fun _ => ?_) (fun h => absurd (c2) h)
      refine lv_aload_n hx hb dX3_below_161 rfl (lv_at hl 1 rfl) ?_
      refine va_get (D := (dC, dI)) (ci := 2) (v := .long xl) (C := RX3) (T := TX3) (N := 10) hx hb hts hi_RX3 hown hK hP 0 rfl rfl 6 (by decide) hw8 (fun _ h9 => h9) rfl dX3_below_162 ?_
      refine pm_max hx hb (hml.trans hl.1.symm) hown hw9 hw10 hw5 hw11 (Nat.le_of_ble_eq_true rfl) (Nat.le_of_ble_eq_true rfl) (Nat.le_of_ble_eq_true rfl) (Nat.le_of_ble_eq_true rfl) dX3_below_165 ?_
      refine lv_lstore (lv' := [(5, .long (pl_max yl xl)), (3, .long (pl_min xh yh)), (0, .ref g0), (1, .int p0), (2, .int p1)]) hx hb dX3_below_168 hl (by decide) rfl (fun ls hl => ?_)
      refine lv_aload_n hx hb dX3_below_170 rfl (lv_at hl 2 rfl) ?_
      refine lv_lload_n hx hb dX3_below_171 rfl (lv_at hl 1 rfl) ?_
      refine va_put (D := (dC, dI)) (ci := 2) (v := .long (pl_min xh yh)) (ty := .long) (C := RX3) (T := TX3) (N := 10) hx hb hts hi_RX3 tyX3 tyX3_ok nmX3 hown hK hP hD hS 0 rfl rfl 7 (by decide) hw0 (fun _ h9 => h9) rfl (tyX3_ok 7 (by decide)) rfl rfl (Nat.le_of_ble_eq_true rfl) dX3_below_172 (fun H locs hP hD hS => ?_)
      have hP : va_P (dC, dI) vwCl [(g0, .inr (2, [.int th, .ref r1, .ref r2, .long fa, .long fb, .int ft, .long xl, .long (pl_min xh yh), .long yl, .long yh]))] H := hP
      have hD : va_D A [(g0, .inr (2, [.int th, .ref r1, .ref r2, .long fa, .long fb, .int ft, .long xl, .long (pl_min xh yh), .long yl, .long yh]))] := hD
      refine lv_aload_n hx hb dX3_below_175 rfl (lv_at hl 2 rfl) ?_
      refine lv_lload hx hb dX3_below_176 (lv_at hl 0 rfl) ?_
      refine va_put (D := (dC, dI)) (ci := 2) (v := .long (pl_max yl xl)) (ty := .long) (C := RX3) (T := TX3) (N := 10) hx hb hts hi_RX3 tyX3 tyX3_ok nmX3 hown hK hP hD hS 0 rfl rfl 8 (by decide) hw7 (fun _ h9 => h9) rfl (tyX3_ok 8 (by decide)) rfl rfl (Nat.le_of_ble_eq_true rfl) dX3_below_178 (fun H locs hP hD hS => ?_)
      have hP : va_P (dC, dI) vwCl [(g0, .inr (2, [.int th, .ref r1, .ref r2, .long fa, .long fb, .int ft, .long xl, .long (pl_min xh yh), .long (pl_max yl xl), .long yh]))] H := hP
      have hD : va_D A [(g0, .inr (2, [.int th, .ref r1, .ref r2, .long fa, .long fb, .int ft, .long xl, .long (pl_min xh yh), .long (pl_max yl xl), .long yh]))] := hD
      refine lv_aload_n hx hb dX3_below_181 rfl (lv_at hl 2 rfl) ?_
      refine va_get (D := (dC, dI)) (ci := 2) (v := .long xl) (C := RX3) (T := TX3) (N := 10) hx hb hts hi_RX3 hown hK hP 0 rfl rfl 6 (by decide) hw8 (fun _ h9 => h9) rfl dX3_below_182 ?_
      refine lv_aload_n hx hb dX3_below_185 rfl (lv_at hl 2 rfl) ?_
      refine va_get (D := (dC, dI)) (ci := 2) (v := .long (pl_min xh yh)) (C := RX3) (T := TX3) (N := 10) hx hb hts hi_RX3 hown hK hP 0 rfl rfl 7 (by decide) hw0 (fun _ h9 => h9) rfl dX3_below_186 ?_
      refine pl_gt (tgt := 209) hx hb dX3_below_189 dX3_below_190 (by decide) (fun c3 => ?_) (fun c3 => ?_)
      · refine lv_iconst (v := (0 : Int32)) hx hb dX3_below_209 (by decide) ?_
        have es : (s_X3_below xl xh yl yh p0 p1) = ((0 : Int32), xl, pl_min xh yh, pl_max yl xl) := by unfold s_X3_below; rw [if_pos c1, if_pos c2, if_pos c3]
        exact W.zret (v := (0 : Int32)) hx hb hr (rfl) (fun t ht hW => by rw [es]; exact ⟨rfl, by rw [ht]; exact hP, hD, hS.F ht⟩) hS.2.2 dX3_below_210
      · refine lv_aload_n hx hb dX3_below_193 rfl (lv_at hl 2 rfl) ?_
        refine va_get (D := (dC, dI)) (ci := 2) (v := .long (pl_max yl xl)) (C := RX3) (T := TX3) (N := 10) hx hb hts hi_RX3 hown hK hP 0 rfl rfl 8 (by decide) hw7 (fun _ h9 => h9) rfl dX3_below_194 ?_
        refine lv_aload_n hx hb dX3_below_197 rfl (lv_at hl 2 rfl) ?_
        refine va_get (D := (dC, dI)) (ci := 2) (v := .long yh) (C := RX3) (T := TX3) (N := 10) hx hb hts hi_RX3 hown hK hP 0 rfl rfl 9 (by decide) hw2 (fun _ h9 => h9) rfl dX3_below_198 ?_
        refine pl_gt (tgt := 209) hx hb dX3_below_201 dX3_below_202 (by decide) (fun c4 => ?_) (fun c4 => ?_)
        · refine lv_iconst (v := (0 : Int32)) hx hb dX3_below_209 (by decide) ?_
          have es : (s_X3_below xl xh yl yh p0 p1) = ((0 : Int32), xl, pl_min xh yh, pl_max yl xl) := by unfold s_X3_below; rw [if_pos c1, if_pos c2, if_neg c3, if_pos c4]
          exact W.zret (v := (0 : Int32)) hx hb hr (rfl) (fun t ht hW => by rw [es]; exact ⟨rfl, by rw [ht]; exact hP, hD, hS.F ht⟩) hS.2.2 dX3_below_210
        · refine lv_iconst (v := (1 : Int32)) hx hb dX3_below_205 (by decide) ?_
          refine lv_goto (tgt := 210) hx hb dX3_below_206 (by decide) ?_
          have es : (s_X3_below xl xh yl yh p0 p1) = ((1 : Int32), xl, pl_min xh yh, pl_max yl xl) := by unfold s_X3_below; rw [if_pos c1, if_pos c2, if_neg c3, if_neg c4]
          exact W.zret (v := (1 : Int32)) hx hb hr (rfl) (fun t ht hW => by rw [es]; exact ⟨rfl, by rw [ht]; exact hP, hD, hS.F ht⟩) hS.2.2 dX3_below_210
    · refine lv_aload_n hx hb dX3_below_95 rfl (lv_at hl 0 rfl) ?_
      refine va_get (D := (dC, dI)) (ci := 2) (v := .long yh) (C := RX3) (T := TX3) (N := 10) hx hb hts hi_RX3 hown hK hP 0 rfl rfl 9 (by decide) hw2 (fun _ h9 => h9) rfl dX3_below_96 ?_
      refine lv_ldc2 (v := (-9223372036854775808 : Int64)) hx hb hown hw12 dX3_below_99 ?_
      refine pl_eq (tgt := 117) hx hb dX3_below_102 dX3_below_103 (by decide) (fun c5 => ?_) (fun c5 => ?_)
      · refine lv_iconst (v := (0 : Int32)) hx hb dX3_below_117 (by decide) ?_
        have es : (s_X3_below xl xh yl yh p0 p1) = ((0 : Int32), xl, xh, yl) := by unfold s_X3_below; rw [if_pos c1, if_neg c2, if_pos c5]
        exact W.zret (v := (0 : Int32)) hx hb hr (rfl) (fun t ht hW => by rw [es]; exact ⟨rfl, by rw [ht]; exact hP, hD, hS.F ht⟩) hS.2.2 dX3_below_118
      · refine lv_aload_n hx hb dX3_below_106 rfl (lv_at hl 0 rfl) ?_
        refine va_get (D := (dC, dI)) (ci := 2) (v := .long xl) (C := RX3) (T := TX3) (N := 10) hx hb hts hi_RX3 hown hK hP 0 rfl rfl 6 (by decide) hw8 (fun _ h9 => h9) rfl dX3_below_107 ?_
        refine lv_ldc2 (v := (9223372036854775807 : Int64)) hx hb hown hw13 dX3_below_110 ?_
        refine pl_ne (tgt := 119) hx hb dX3_below_113 dX3_below_114 (by decide) (fun c6 => ?_) (fun c6 => ?_)
        · refine lv_aload_n hx hb dX3_below_119 rfl (lv_at hl 0 rfl) ?_
          refine va_get (D := (dC, dI)) (ci := 2) (v := .long xh) (C := RX3) (T := TX3) (N := 10) hx hb hts hi_RX3 hown hK hP 0 rfl rfl 7 (by decide) hw0 (fun _ h9 => h9) rfl dX3_below_120 ?_
          refine lv_iload_n hx hb dX3_below_123 rfl (lv_at hl 1 rfl) ?_
          refine lv_if_eq (tgt := 136) hx hb dX3_below_124 (by decide) (fun h => absurd h (c2)) (fun _ => ?_)
          refine lv_aload_n hx hb dX3_below_127 rfl (lv_at hl 0 rfl) ?_
          refine va_get (D := (dC, dI)) (ci := 2) (v := .long yh) (C := RX3) (T := TX3) (N := 10) hx hb hts hi_RX3 hown hK hP 0 rfl rfl 9 (by decide) hw2 (fun _ h9 => h9) rfl dX3_below_128 ?_
          refine lv_lconst (v := (1 : Int64)) hx hb dX3_below_131 (by decide) ?_
          refine lv_lsub hx hb dX3_below_132 ?_
          refine lv_goto (tgt := 140) hx hb dX3_below_133 (by decide) ?_
          refine pm_min hx hb (hml.trans hl.1.symm) hown hw3 hw4 hw5 hw6 (Nat.le_of_ble_eq_true rfl) (Nat.le_of_ble_eq_true rfl) (Nat.le_of_ble_eq_true rfl) (Nat.le_of_ble_eq_true rfl) dX3_below_140 ?_
          refine lv_lstore_n (lv' := [(3, .long (pl_min xh (yh - (1 : Int64)))), (0, .ref g0), (1, .int p0), (2, .int p1)]) hx hb dX3_below_143 rfl hl (by decide) rfl (fun ls hl => ?_)
          refine lv_aload_n hx hb dX3_below_144 rfl (lv_at hl 1 rfl) ?_
          refine va_get (D := (dC, dI)) (ci := 2) (v := .long yl) (C := RX3) (T := TX3) (N := 10) hx hb hts hi_RX3 hown hK hP 0 rfl rfl 8 (by decide) hw7 (fun _ h9 => h9) rfl dX3_below_145 ?_
          refine lv_iload_n hx hb dX3_below_148 rfl (lv_at hl 2 rfl) ?_
          refine lv_if_eq (tgt := 161) hx hb dX3_below_149 (by decide) (fun h => absurd h (c2)) (fun _ => ?_)
          refine lv_aload_n hx hb dX3_below_152 rfl (lv_at hl 1 rfl) ?_
          refine va_get (D := (dC, dI)) (ci := 2) (v := .long xl) (C := RX3) (T := TX3) (N := 10) hx hb hts hi_RX3 hown hK hP 0 rfl rfl 6 (by decide) hw8 (fun _ h9 => h9) rfl dX3_below_153 ?_
          refine lv_lconst (v := (1 : Int64)) hx hb dX3_below_156 (by decide) ?_
          refine lv_ladd hx hb dX3_below_157 ?_
          refine lv_goto (tgt := 165) hx hb dX3_below_158 (by decide) ?_
          refine pm_max hx hb (hml.trans hl.1.symm) hown hw9 hw10 hw5 hw11 (Nat.le_of_ble_eq_true rfl) (Nat.le_of_ble_eq_true rfl) (Nat.le_of_ble_eq_true rfl) (Nat.le_of_ble_eq_true rfl) dX3_below_165 ?_
          refine lv_lstore (lv' := [(5, .long (pl_max yl (xl + (1 : Int64)))), (3, .long (pl_min xh (yh - (1 : Int64)))), (0, .ref g0), (1, .int p0), (2, .int p1)]) hx hb dX3_below_168 hl (by decide) rfl (fun ls hl => ?_)
          refine lv_aload_n hx hb dX3_below_170 rfl (lv_at hl 2 rfl) ?_
          refine lv_lload_n hx hb dX3_below_171 rfl (lv_at hl 1 rfl) ?_
          refine va_put (D := (dC, dI)) (ci := 2) (v := .long (pl_min xh (yh - (1 : Int64)))) (ty := .long) (C := RX3) (T := TX3) (N := 10) hx hb hts hi_RX3 tyX3 tyX3_ok nmX3 hown hK hP hD hS 0 rfl rfl 7 (by decide) hw0 (fun _ h9 => h9) rfl (tyX3_ok 7 (by decide)) rfl rfl (Nat.le_of_ble_eq_true rfl) dX3_below_172 (fun H locs hP hD hS => ?_)
          have hP : va_P (dC, dI) vwCl [(g0, .inr (2, [.int th, .ref r1, .ref r2, .long fa, .long fb, .int ft, .long xl, .long (pl_min xh (yh - (1 : Int64))), .long yl, .long yh]))] H := hP
          have hD : va_D A [(g0, .inr (2, [.int th, .ref r1, .ref r2, .long fa, .long fb, .int ft, .long xl, .long (pl_min xh (yh - (1 : Int64))), .long yl, .long yh]))] := hD
          refine lv_aload_n hx hb dX3_below_175 rfl (lv_at hl 2 rfl) ?_
          refine lv_lload hx hb dX3_below_176 (lv_at hl 0 rfl) ?_
          refine va_put (D := (dC, dI)) (ci := 2) (v := .long (pl_max yl (xl + (1 : Int64)))) (ty := .long) (C := RX3) (T := TX3) (N := 10) hx hb hts hi_RX3 tyX3 tyX3_ok nmX3 hown hK hP hD hS 0 rfl rfl 8 (by decide) hw7 (fun _ h9 => h9) rfl (tyX3_ok 8 (by decide)) rfl rfl (Nat.le_of_ble_eq_true rfl) dX3_below_178 (fun H locs hP hD hS => ?_)
          have hP : va_P (dC, dI) vwCl [(g0, .inr (2, [.int th, .ref r1, .ref r2, .long fa, .long fb, .int ft, .long xl, .long (pl_min xh (yh - (1 : Int64))), .long (pl_max yl (xl + (1 : Int64))), .long yh]))] H := hP
          have hD : va_D A [(g0, .inr (2, [.int th, .ref r1, .ref r2, .long fa, .long fb, .int ft, .long xl, .long (pl_min xh (yh - (1 : Int64))), .long (pl_max yl (xl + (1 : Int64))), .long yh]))] := hD
          refine lv_aload_n hx hb dX3_below_181 rfl (lv_at hl 2 rfl) ?_
          refine va_get (D := (dC, dI)) (ci := 2) (v := .long xl) (C := RX3) (T := TX3) (N := 10) hx hb hts hi_RX3 hown hK hP 0 rfl rfl 6 (by decide) hw8 (fun _ h9 => h9) rfl dX3_below_182 ?_
          refine lv_aload_n hx hb dX3_below_185 rfl (lv_at hl 2 rfl) ?_
          refine va_get (D := (dC, dI)) (ci := 2) (v := .long (pl_min xh (yh - (1 : Int64)))) (C := RX3) (T := TX3) (N := 10) hx hb hts hi_RX3 hown hK hP 0 rfl rfl 7 (by decide) hw0 (fun _ h9 => h9) rfl dX3_below_186 ?_
          refine pl_gt (tgt := 209) hx hb dX3_below_189 dX3_below_190 (by decide) (fun c7 => ?_) (fun c7 => ?_)
          · refine lv_iconst (v := (0 : Int32)) hx hb dX3_below_209 (by decide) ?_
            have es : (s_X3_below xl xh yl yh p0 p1) = ((0 : Int32), xl, pl_min xh (yh - (1 : Int64)), pl_max yl (xl + (1 : Int64))) := by unfold s_X3_below; rw [if_pos c1, if_neg c2, if_neg c5, if_neg c6, if_pos c7]
            exact W.zret (v := (0 : Int32)) hx hb hr (rfl) (fun t ht hW => by rw [es]; exact ⟨rfl, by rw [ht]; exact hP, hD, hS.F ht⟩) hS.2.2 dX3_below_210
          · refine lv_aload_n hx hb dX3_below_193 rfl (lv_at hl 2 rfl) ?_
            refine va_get (D := (dC, dI)) (ci := 2) (v := .long (pl_max yl (xl + (1 : Int64)))) (C := RX3) (T := TX3) (N := 10) hx hb hts hi_RX3 hown hK hP 0 rfl rfl 8 (by decide) hw7 (fun _ h9 => h9) rfl dX3_below_194 ?_
            refine lv_aload_n hx hb dX3_below_197 rfl (lv_at hl 2 rfl) ?_
            refine va_get (D := (dC, dI)) (ci := 2) (v := .long yh) (C := RX3) (T := TX3) (N := 10) hx hb hts hi_RX3 hown hK hP 0 rfl rfl 9 (by decide) hw2 (fun _ h9 => h9) rfl dX3_below_198 ?_
            refine pl_gt (tgt := 209) hx hb dX3_below_201 dX3_below_202 (by decide) (fun c8 => ?_) (fun c8 => ?_)
            · refine lv_iconst (v := (0 : Int32)) hx hb dX3_below_209 (by decide) ?_
              have es : (s_X3_below xl xh yl yh p0 p1) = ((0 : Int32), xl, pl_min xh (yh - (1 : Int64)), pl_max yl (xl + (1 : Int64))) := by unfold s_X3_below; rw [if_pos c1, if_neg c2, if_neg c5, if_neg c6, if_neg c7, if_pos c8]
              exact W.zret (v := (0 : Int32)) hx hb hr (rfl) (fun t ht hW => by rw [es]; exact ⟨rfl, by rw [ht]; exact hP, hD, hS.F ht⟩) hS.2.2 dX3_below_210
            · refine lv_iconst (v := (1 : Int32)) hx hb dX3_below_205 (by decide) ?_
              refine lv_goto (tgt := 210) hx hb dX3_below_206 (by decide) ?_
              have es : (s_X3_below xl xh yl yh p0 p1) = ((1 : Int32), xl, pl_min xh (yh - (1 : Int64)), pl_max yl (xl + (1 : Int64))) := by unfold s_X3_below; rw [if_pos c1, if_neg c2, if_neg c5, if_neg c6, if_neg c7, if_neg c8]
              exact W.zret (v := (1 : Int32)) hx hb hr (rfl) (fun t ht hW => by rw [es]; exact ⟨rfl, by rw [ht]; exact hP, hD, hS.F ht⟩) hS.2.2 dX3_below_210
        · refine lv_iconst (v := (0 : Int32)) hx hb dX3_below_117 (by decide) ?_
          have es : (s_X3_below xl xh yl yh p0 p1) = ((0 : Int32), xl, xh, yl) := by unfold s_X3_below; rw [if_pos c1, if_neg c2, if_neg c5, if_pos c6]
          exact W.zret (v := (0 : Int32)) hx hb hr (rfl) (fun t ht hW => by rw [es]; exact ⟨rfl, by rw [ht]; exact hP, hD, hS.F ht⟩) hS.2.2 dX3_below_118
  · refine lv_aload_n hx hb dX3_below_4 rfl (lv_at hl 0 rfl) ?_
    refine va_get (D := (dC, dI)) (ci := 2) (v := .long xl) (C := RX3) (T := TX3) (N := 10) hx hb hts hi_RX3 hown hK hP 0 rfl rfl 6 (by decide) hw8 (fun _ h9 => h9) rfl dX3_below_5 ?_
    refine lv_lconst (v := (0 : Int64)) hx hb dX3_below_8 (by decide) ?_
    refine pl_lt (tgt := 22) hx hb dX3_below_9 dX3_below_10 (by decide) (fun c9 => ?_) (fun c9 => ?_)
    · refine lv_aload_n hx hb dX3_below_22 rfl (lv_at hl 0 rfl) ?_
      refine va_get (D := (dC, dI)) (ci := 2) (v := .long yl) (C := RX3) (T := TX3) (N := 10) hx hb hts hi_RX3 hown hK hP 0 rfl rfl 8 (by decide) hw7 (fun _ h9 => h9) rfl dX3_below_23 ?_
      refine lv_lconst (v := (0 : Int64)) hx hb dX3_below_26 (by decide) ?_
      refine pl_ge (tgt := 33) hx hb dX3_below_27 dX3_below_28 (by decide) (fun c10 => ?_) (fun c10 => ?_)
      · refine lv_aload_n hx hb dX3_below_33 rfl (lv_at hl 0 rfl) ?_
        refine lv_aload_n hx hb dX3_below_34 rfl (lv_at hl 0 rfl) ?_
        refine va_get (D := (dC, dI)) (ci := 2) (v := .long xl) (C := RX3) (T := TX3) (N := 10) hx hb hts hi_RX3 hown hK hP 0 rfl rfl 6 (by decide) hw8 (fun _ h9 => h9) rfl dX3_below_35 ?_
        refine lv_lconst (v := (0 : Int64)) hx hb dX3_below_38 (by decide) ?_
        refine pm_max hx hb (hml.trans hl.1.symm) hown hw9 hw10 hw5 hw11 (Nat.le_of_ble_eq_true rfl) (Nat.le_of_ble_eq_true rfl) (Nat.le_of_ble_eq_true rfl) (Nat.le_of_ble_eq_true rfl) dX3_below_39 ?_
        refine va_put (D := (dC, dI)) (ci := 2) (v := .long (pl_max xl (0 : Int64))) (ty := .long) (C := RX3) (T := TX3) (N := 10) hx hb hts hi_RX3 tyX3 tyX3_ok nmX3 hown hK hP hD hS 0 rfl rfl 6 (by decide) hw8 (fun _ h9 => h9) rfl (tyX3_ok 6 (by decide)) rfl rfl (Nat.le_of_ble_eq_true rfl) dX3_below_42 (fun H locs hP hD hS => ?_)
        have hP : va_P (dC, dI) vwCl [(g0, .inr (2, [.int th, .ref r1, .ref r2, .long fa, .long fb, .int ft, .long (pl_max xl (0 : Int64)), .long xh, .long yl, .long yh]))] H := hP
        have hD : va_D A [(g0, .inr (2, [.int th, .ref r1, .ref r2, .long fa, .long fb, .int ft, .long (pl_max xl (0 : Int64)), .long xh, .long yl, .long yh]))] := hD
        refine lv_aload_n hx hb dX3_below_45 rfl (lv_at hl 0 rfl) ?_
        refine lv_aload_n hx hb dX3_below_46 rfl (lv_at hl 0 rfl) ?_
        refine va_get (D := (dC, dI)) (ci := 2) (v := .long xh) (C := RX3) (T := TX3) (N := 10) hx hb hts hi_RX3 hown hK hP 0 rfl rfl 7 (by decide) hw0 (fun _ h9 => h9) rfl dX3_below_47 ?_
        refine lv_iload_n hx hb dX3_below_50 rfl (lv_at hl 1 rfl) ?_
        refine lv_if_eq (tgt := 63) hx hb dX3_below_51 (by decide) (fun c11 => ?_) (fun c11 => ?_)
        · refine lv_aload_n hx hb dX3_below_63 rfl (lv_at hl 0 rfl) ?_
          refine va_get (D := (dC, dI)) (ci := 2) (v := .long yh) (C := RX3) (T := TX3) (N := 10) hx hb hts hi_RX3 hown hK hP 0 rfl rfl 9 (by decide) hw2 (fun _ h9 => h9) rfl dX3_below_64 ?_
          refine pm_min hx hb (hml.trans hl.1.symm) hown hw3 hw4 hw5 hw6 (Nat.le_of_ble_eq_true rfl) (Nat.le_of_ble_eq_true rfl) (Nat.le_of_ble_eq_true rfl) (Nat.le_of_ble_eq_true rfl) dX3_below_67 ?_
          refine va_put (D := (dC, dI)) (ci := 2) (v := .long (pl_min xh yh)) (ty := .long) (C := RX3) (T := TX3) (N := 10) hx hb hts hi_RX3 tyX3 tyX3_ok nmX3 hown hK hP hD hS 0 rfl rfl 7 (by decide) hw0 (fun _ h9 => h9) rfl (tyX3_ok 7 (by decide)) rfl rfl (Nat.le_of_ble_eq_true rfl) dX3_below_70 (fun H locs hP hD hS => ?_)
          have hP : va_P (dC, dI) vwCl [(g0, .inr (2, [.int th, .ref r1, .ref r2, .long fa, .long fb, .int ft, .long (pl_max xl (0 : Int64)), .long (pl_min xh yh), .long yl, .long yh]))] H := hP
          have hD : va_D A [(g0, .inr (2, [.int th, .ref r1, .ref r2, .long fa, .long fb, .int ft, .long (pl_max xl (0 : Int64)), .long (pl_min xh yh), .long yl, .long yh]))] := hD
          refine lv_aload_n hx hb dX3_below_73 rfl (lv_at hl 0 rfl) ?_
          refine va_get (D := (dC, dI)) (ci := 2) (v := .long (pl_max xl (0 : Int64))) (C := RX3) (T := TX3) (N := 10) hx hb hts hi_RX3 hown hK hP 0 rfl rfl 6 (by decide) hw8 (fun _ h9 => h9) rfl dX3_below_74 ?_
          refine lv_aload_n hx hb dX3_below_77 rfl (lv_at hl 0 rfl) ?_
          refine va_get (D := (dC, dI)) (ci := 2) (v := .long (pl_min xh yh)) (C := RX3) (T := TX3) (N := 10) hx hb hts hi_RX3 hown hK hP 0 rfl rfl 7 (by decide) hw0 (fun _ h9 => h9) rfl dX3_below_78 ?_
          refine pl_gt (tgt := 89) hx hb dX3_below_81 dX3_below_82 (by decide) (fun c12 => ?_) (fun c12 => ?_)
          · refine lv_iconst (v := (0 : Int32)) hx hb dX3_below_89 (by decide) ?_
            have es : (s_X3_below xl xh yl yh p0 p1) = ((0 : Int32), pl_max xl (0 : Int64), pl_min xh yh, yl) := by unfold s_X3_below; rw [if_neg c1, if_pos c9, if_neg c10, if_pos c11, if_pos c12]
            exact W.zret (v := (0 : Int32)) hx hb hr (rfl) (fun t ht hW => by rw [es]; exact ⟨rfl, by rw [ht]; exact hP, hD, hS.F ht⟩) hS.2.2 dX3_below_90
          · refine lv_iconst (v := (1 : Int32)) hx hb dX3_below_85 (by decide) ?_
            refine lv_goto (tgt := 90) hx hb dX3_below_86 (by decide) ?_
            have es : (s_X3_below xl xh yl yh p0 p1) = ((1 : Int32), pl_max xl (0 : Int64), pl_min xh yh, yl) := by unfold s_X3_below; rw [if_neg c1, if_pos c9, if_neg c10, if_pos c11, if_neg c12]
            exact W.zret (v := (1 : Int32)) hx hb hr (rfl) (fun t ht hW => by rw [es]; exact ⟨rfl, by rw [ht]; exact hP, hD, hS.F ht⟩) hS.2.2 dX3_below_90
        · refine lv_aload_n hx hb dX3_below_54 rfl (lv_at hl 0 rfl) ?_
          refine va_get (D := (dC, dI)) (ci := 2) (v := .long yh) (C := RX3) (T := TX3) (N := 10) hx hb hts hi_RX3 hown hK hP 0 rfl rfl 9 (by decide) hw2 (fun _ h9 => h9) rfl dX3_below_55 ?_
          refine lv_lconst (v := (1 : Int64)) hx hb dX3_below_58 (by decide) ?_
          refine lv_lsub hx hb dX3_below_59 ?_
          refine lv_goto (tgt := 67) hx hb dX3_below_60 (by decide) ?_
          refine pm_min hx hb (hml.trans hl.1.symm) hown hw3 hw4 hw5 hw6 (Nat.le_of_ble_eq_true rfl) (Nat.le_of_ble_eq_true rfl) (Nat.le_of_ble_eq_true rfl) (Nat.le_of_ble_eq_true rfl) dX3_below_67 ?_
          refine va_put (D := (dC, dI)) (ci := 2) (v := .long (pl_min xh (yh - (1 : Int64)))) (ty := .long) (C := RX3) (T := TX3) (N := 10) hx hb hts hi_RX3 tyX3 tyX3_ok nmX3 hown hK hP hD hS 0 rfl rfl 7 (by decide) hw0 (fun _ h9 => h9) rfl (tyX3_ok 7 (by decide)) rfl rfl (Nat.le_of_ble_eq_true rfl) dX3_below_70 (fun H locs hP hD hS => ?_)
          have hP : va_P (dC, dI) vwCl [(g0, .inr (2, [.int th, .ref r1, .ref r2, .long fa, .long fb, .int ft, .long (pl_max xl (0 : Int64)), .long (pl_min xh (yh - (1 : Int64))), .long yl, .long yh]))] H := hP
          have hD : va_D A [(g0, .inr (2, [.int th, .ref r1, .ref r2, .long fa, .long fb, .int ft, .long (pl_max xl (0 : Int64)), .long (pl_min xh (yh - (1 : Int64))), .long yl, .long yh]))] := hD
          refine lv_aload_n hx hb dX3_below_73 rfl (lv_at hl 0 rfl) ?_
          refine va_get (D := (dC, dI)) (ci := 2) (v := .long (pl_max xl (0 : Int64))) (C := RX3) (T := TX3) (N := 10) hx hb hts hi_RX3 hown hK hP 0 rfl rfl 6 (by decide) hw8 (fun _ h9 => h9) rfl dX3_below_74 ?_
          refine lv_aload_n hx hb dX3_below_77 rfl (lv_at hl 0 rfl) ?_
          refine va_get (D := (dC, dI)) (ci := 2) (v := .long (pl_min xh (yh - (1 : Int64)))) (C := RX3) (T := TX3) (N := 10) hx hb hts hi_RX3 hown hK hP 0 rfl rfl 7 (by decide) hw0 (fun _ h9 => h9) rfl dX3_below_78 ?_
          refine pl_gt (tgt := 89) hx hb dX3_below_81 dX3_below_82 (by decide) (fun c13 => ?_) (fun c13 => ?_)
          · refine lv_iconst (v := (0 : Int32)) hx hb dX3_below_89 (by decide) ?_
            have es : (s_X3_below xl xh yl yh p0 p1) = ((0 : Int32), pl_max xl (0 : Int64), pl_min xh (yh - (1 : Int64)), yl) := by unfold s_X3_below; rw [if_neg c1, if_pos c9, if_neg c10, if_neg c11, if_pos c13]
            exact W.zret (v := (0 : Int32)) hx hb hr (rfl) (fun t ht hW => by rw [es]; exact ⟨rfl, by rw [ht]; exact hP, hD, hS.F ht⟩) hS.2.2 dX3_below_90
          · refine lv_iconst (v := (1 : Int32)) hx hb dX3_below_85 (by decide) ?_
            refine lv_goto (tgt := 90) hx hb dX3_below_86 (by decide) ?_
            have es : (s_X3_below xl xh yl yh p0 p1) = ((1 : Int32), pl_max xl (0 : Int64), pl_min xh (yh - (1 : Int64)), yl) := by unfold s_X3_below; rw [if_neg c1, if_pos c9, if_neg c10, if_neg c11, if_neg c13]
            exact W.zret (v := (1 : Int32)) hx hb hr (rfl) (fun t ht hW => by rw [es]; exact ⟨rfl, by rw [ht]; exact hP, hD, hS.F ht⟩) hS.2.2 dX3_below_90
      · refine lv_iconst (v := (1 : Int32)) hx hb dX3_below_31 (by decide) ?_
        have es : (s_X3_below xl xh yl yh p0 p1) = ((1 : Int32), xl, xh, yl) := by unfold s_X3_below; rw [if_neg c1, if_pos c9, if_pos c10]
        exact W.zret (v := (1 : Int32)) hx hb hr (rfl) (fun t ht hW => by rw [es]; exact ⟨rfl, by rw [ht]; exact hP, hD, hS.F ht⟩) hS.2.2 dX3_below_32
    · refine lv_aload_n hx hb dX3_below_13 rfl (lv_at hl 0 rfl) ?_
      refine va_get (D := (dC, dI)) (ci := 2) (v := .long yl) (C := RX3) (T := TX3) (N := 10) hx hb hts hi_RX3 hown hK hP 0 rfl rfl 8 (by decide) hw7 (fun _ h9 => h9) rfl dX3_below_14 ?_
      refine lv_lconst (v := (0 : Int64)) hx hb dX3_below_17 (by decide) ?_
      refine pl_ge (tgt := 91) hx hb dX3_below_18 dX3_below_19 (by decide) (fun c14 => ?_) (fun c14 => ?_)
      · refine lv_iload_n hx hb dX3_below_91 rfl (lv_at hl 1 rfl) ?_
        refine lv_if_eq (tgt := 119) hx hb dX3_below_92 (by decide) (fun c15 => ?_) (fun c15 => ?_)
        · refine lv_aload_n hx hb dX3_below_119 rfl (lv_at hl 0 rfl) ?_
          refine va_get (D := (dC, dI)) (ci := 2) (v := .long xh) (C := RX3) (T := TX3) (N := 10) hx hb hts hi_RX3 hown hK hP 0 rfl rfl 7 (by decide) hw0 (fun _ h9 => h9) rfl dX3_below_120 ?_
          refine lv_iload_n hx hb dX3_below_123 rfl (lv_at hl 1 rfl) ?_
          refine lv_if_eq (tgt := 136) hx hb dX3_below_124 (by decide) (fun _ => ?_) (fun h => absurd (c15) h)
          refine lv_aload_n hx hb dX3_below_136 rfl (lv_at hl 0 rfl) ?_
          refine va_get (D := (dC, dI)) (ci := 2) (v := .long yh) (C := RX3) (T := TX3) (N := 10) hx hb hts hi_RX3 hown hK hP 0 rfl rfl 9 (by decide) hw2 (fun _ h9 => h9) rfl dX3_below_137 ?_
          refine pm_min hx hb (hml.trans hl.1.symm) hown hw3 hw4 hw5 hw6 (Nat.le_of_ble_eq_true rfl) (Nat.le_of_ble_eq_true rfl) (Nat.le_of_ble_eq_true rfl) (Nat.le_of_ble_eq_true rfl) dX3_below_140 ?_
          refine lv_lstore_n (lv' := [(3, .long (pl_min xh yh)), (0, .ref g0), (1, .int p0), (2, .int p1)]) hx hb dX3_below_143 rfl hl (by decide) rfl (fun ls hl => ?_)
          refine lv_aload_n hx hb dX3_below_144 rfl (lv_at hl 1 rfl) ?_
          refine va_get (D := (dC, dI)) (ci := 2) (v := .long yl) (C := RX3) (T := TX3) (N := 10) hx hb hts hi_RX3 hown hK hP 0 rfl rfl 8 (by decide) hw7 (fun _ h9 => h9) rfl dX3_below_145 ?_
          refine lv_iload_n hx hb dX3_below_148 rfl (lv_at hl 2 rfl) ?_
          refine lv_if_eq (tgt := 161) hx hb dX3_below_149 (by decide) (fun _ => ?_) (fun h => absurd (c15) h)
          refine lv_aload_n hx hb dX3_below_161 rfl (lv_at hl 1 rfl) ?_
          refine va_get (D := (dC, dI)) (ci := 2) (v := .long xl) (C := RX3) (T := TX3) (N := 10) hx hb hts hi_RX3 hown hK hP 0 rfl rfl 6 (by decide) hw8 (fun _ h9 => h9) rfl dX3_below_162 ?_
          refine pm_max hx hb (hml.trans hl.1.symm) hown hw9 hw10 hw5 hw11 (Nat.le_of_ble_eq_true rfl) (Nat.le_of_ble_eq_true rfl) (Nat.le_of_ble_eq_true rfl) (Nat.le_of_ble_eq_true rfl) dX3_below_165 ?_
          refine lv_lstore (lv' := [(5, .long (pl_max yl xl)), (3, .long (pl_min xh yh)), (0, .ref g0), (1, .int p0), (2, .int p1)]) hx hb dX3_below_168 hl (by decide) rfl (fun ls hl => ?_)
          refine lv_aload_n hx hb dX3_below_170 rfl (lv_at hl 2 rfl) ?_
          refine lv_lload_n hx hb dX3_below_171 rfl (lv_at hl 1 rfl) ?_
          refine va_put (D := (dC, dI)) (ci := 2) (v := .long (pl_min xh yh)) (ty := .long) (C := RX3) (T := TX3) (N := 10) hx hb hts hi_RX3 tyX3 tyX3_ok nmX3 hown hK hP hD hS 0 rfl rfl 7 (by decide) hw0 (fun _ h9 => h9) rfl (tyX3_ok 7 (by decide)) rfl rfl (Nat.le_of_ble_eq_true rfl) dX3_below_172 (fun H locs hP hD hS => ?_)
          have hP : va_P (dC, dI) vwCl [(g0, .inr (2, [.int th, .ref r1, .ref r2, .long fa, .long fb, .int ft, .long xl, .long (pl_min xh yh), .long yl, .long yh]))] H := hP
          have hD : va_D A [(g0, .inr (2, [.int th, .ref r1, .ref r2, .long fa, .long fb, .int ft, .long xl, .long (pl_min xh yh), .long yl, .long yh]))] := hD
          refine lv_aload_n hx hb dX3_below_175 rfl (lv_at hl 2 rfl) ?_
          refine lv_lload hx hb dX3_below_176 (lv_at hl 0 rfl) ?_
          refine va_put (D := (dC, dI)) (ci := 2) (v := .long (pl_max yl xl)) (ty := .long) (C := RX3) (T := TX3) (N := 10) hx hb hts hi_RX3 tyX3 tyX3_ok nmX3 hown hK hP hD hS 0 rfl rfl 8 (by decide) hw7 (fun _ h9 => h9) rfl (tyX3_ok 8 (by decide)) rfl rfl (Nat.le_of_ble_eq_true rfl) dX3_below_178 (fun H locs hP hD hS => ?_)
          have hP : va_P (dC, dI) vwCl [(g0, .inr (2, [.int th, .ref r1, .ref r2, .long fa, .long fb, .int ft, .long xl, .long (pl_min xh yh), .long (pl_max yl xl), .long yh]))] H := hP
          have hD : va_D A [(g0, .inr (2, [.int th, .ref r1, .ref r2, .long fa, .long fb, .int ft, .long xl, .long (pl_min xh yh), .long (pl_max yl xl), .long yh]))] := hD
          refine lv_aload_n hx hb dX3_below_181 rfl (lv_at hl 2 rfl) ?_
          refine va_get (D := (dC, dI)) (ci := 2) (v := .long xl) (C := RX3) (T := TX3) (N := 10) hx hb hts hi_RX3 hown hK hP 0 rfl rfl 6 (by decide) hw8 (fun _ h9 => h9) rfl dX3_below_182 ?_
          refine lv_aload_n hx hb dX3_below_185 rfl (lv_at hl 2 rfl) ?_
          refine va_get (D := (dC, dI)) (ci := 2) (v := .long (pl_min xh yh)) (C := RX3) (T := TX3) (N := 10) hx hb hts hi_RX3 hown hK hP 0 rfl rfl 7 (by decide) hw0 (fun _ h9 => h9) rfl dX3_below_186 ?_
          refine pl_gt (tgt := 209) hx hb dX3_below_189 dX3_below_190 (by decide) (fun c16 => ?_) (fun c16 => ?_)
          · refine lv_iconst (v := (0 : Int32)) hx hb dX3_below_209 (by decide) ?_
            have es : (s_X3_below xl xh yl yh p0 p1) = ((0 : Int32), xl, pl_min xh yh, pl_max yl xl) := by unfold s_X3_below; rw [if_neg c1, if_neg c9, if_neg c14, if_pos c15, if_pos c16]
            exact W.zret (v := (0 : Int32)) hx hb hr (rfl) (fun t ht hW => by rw [es]; exact ⟨rfl, by rw [ht]; exact hP, hD, hS.F ht⟩) hS.2.2 dX3_below_210
          · refine lv_aload_n hx hb dX3_below_193 rfl (lv_at hl 2 rfl) ?_
            refine va_get (D := (dC, dI)) (ci := 2) (v := .long (pl_max yl xl)) (C := RX3) (T := TX3) (N := 10) hx hb hts hi_RX3 hown hK hP 0 rfl rfl 8 (by decide) hw7 (fun _ h9 => h9) rfl dX3_below_194 ?_
            refine lv_aload_n hx hb dX3_below_197 rfl (lv_at hl 2 rfl) ?_
            refine va_get (D := (dC, dI)) (ci := 2) (v := .long yh) (C := RX3) (T := TX3) (N := 10) hx hb hts hi_RX3 hown hK hP 0 rfl rfl 9 (by decide) hw2 (fun _ h9 => h9) rfl dX3_below_198 ?_
            refine pl_gt (tgt := 209) hx hb dX3_below_201 dX3_below_202 (by decide) (fun c17 => ?_) (fun c17 => ?_)
            · refine lv_iconst (v := (0 : Int32)) hx hb dX3_below_209 (by decide) ?_
              have es : (s_X3_below xl xh yl yh p0 p1) = ((0 : Int32), xl, pl_min xh yh, pl_max yl xl) := by unfold s_X3_below; rw [if_neg c1, if_neg c9, if_neg c14, if_pos c15, if_neg c16, if_pos c17]
              exact W.zret (v := (0 : Int32)) hx hb hr (rfl) (fun t ht hW => by rw [es]; exact ⟨rfl, by rw [ht]; exact hP, hD, hS.F ht⟩) hS.2.2 dX3_below_210
            · refine lv_iconst (v := (1 : Int32)) hx hb dX3_below_205 (by decide) ?_
              refine lv_goto (tgt := 210) hx hb dX3_below_206 (by decide) ?_
              have es : (s_X3_below xl xh yl yh p0 p1) = ((1 : Int32), xl, pl_min xh yh, pl_max yl xl) := by unfold s_X3_below; rw [if_neg c1, if_neg c9, if_neg c14, if_pos c15, if_neg c16, if_neg c17]
              exact W.zret (v := (1 : Int32)) hx hb hr (rfl) (fun t ht hW => by rw [es]; exact ⟨rfl, by rw [ht]; exact hP, hD, hS.F ht⟩) hS.2.2 dX3_below_210
        · refine lv_aload_n hx hb dX3_below_95 rfl (lv_at hl 0 rfl) ?_
          refine va_get (D := (dC, dI)) (ci := 2) (v := .long yh) (C := RX3) (T := TX3) (N := 10) hx hb hts hi_RX3 hown hK hP 0 rfl rfl 9 (by decide) hw2 (fun _ h9 => h9) rfl dX3_below_96 ?_
          refine lv_ldc2 (v := (-9223372036854775808 : Int64)) hx hb hown hw12 dX3_below_99 ?_
          refine pl_eq (tgt := 117) hx hb dX3_below_102 dX3_below_103 (by decide) (fun c18 => ?_) (fun c18 => ?_)
          · refine lv_iconst (v := (0 : Int32)) hx hb dX3_below_117 (by decide) ?_
            have es : (s_X3_below xl xh yl yh p0 p1) = ((0 : Int32), xl, xh, yl) := by unfold s_X3_below; rw [if_neg c1, if_neg c9, if_neg c14, if_neg c15, if_pos c18]
            exact W.zret (v := (0 : Int32)) hx hb hr (rfl) (fun t ht hW => by rw [es]; exact ⟨rfl, by rw [ht]; exact hP, hD, hS.F ht⟩) hS.2.2 dX3_below_118
          · refine lv_aload_n hx hb dX3_below_106 rfl (lv_at hl 0 rfl) ?_
            refine va_get (D := (dC, dI)) (ci := 2) (v := .long xl) (C := RX3) (T := TX3) (N := 10) hx hb hts hi_RX3 hown hK hP 0 rfl rfl 6 (by decide) hw8 (fun _ h9 => h9) rfl dX3_below_107 ?_
            refine lv_ldc2 (v := (9223372036854775807 : Int64)) hx hb hown hw13 dX3_below_110 ?_
            refine pl_ne (tgt := 119) hx hb dX3_below_113 dX3_below_114 (by decide) (fun c19 => ?_) (fun c19 => ?_)
            · refine lv_aload_n hx hb dX3_below_119 rfl (lv_at hl 0 rfl) ?_
              refine va_get (D := (dC, dI)) (ci := 2) (v := .long xh) (C := RX3) (T := TX3) (N := 10) hx hb hts hi_RX3 hown hK hP 0 rfl rfl 7 (by decide) hw0 (fun _ h9 => h9) rfl dX3_below_120 ?_
              refine lv_iload_n hx hb dX3_below_123 rfl (lv_at hl 1 rfl) ?_
              refine lv_if_eq (tgt := 136) hx hb dX3_below_124 (by decide) (fun h => absurd h (c15)) (fun _ => ?_)
              refine lv_aload_n hx hb dX3_below_127 rfl (lv_at hl 0 rfl) ?_
              refine va_get (D := (dC, dI)) (ci := 2) (v := .long yh) (C := RX3) (T := TX3) (N := 10) hx hb hts hi_RX3 hown hK hP 0 rfl rfl 9 (by decide) hw2 (fun _ h9 => h9) rfl dX3_below_128 ?_
              refine lv_lconst (v := (1 : Int64)) hx hb dX3_below_131 (by decide) ?_
              refine lv_lsub hx hb dX3_below_132 ?_
              refine lv_goto (tgt := 140) hx hb dX3_below_133 (by decide) ?_
              refine pm_min hx hb (hml.trans hl.1.symm) hown hw3 hw4 hw5 hw6 (Nat.le_of_ble_eq_true rfl) (Nat.le_of_ble_eq_true rfl) (Nat.le_of_ble_eq_true rfl) (Nat.le_of_ble_eq_true rfl) dX3_below_140 ?_
              refine lv_lstore_n (lv' := [(3, .long (pl_min xh (yh - (1 : Int64)))), (0, .ref g0), (1, .int p0), (2, .int p1)]) hx hb dX3_below_143 rfl hl (by decide) rfl (fun ls hl => ?_)
              refine lv_aload_n hx hb dX3_below_144 rfl (lv_at hl 1 rfl) ?_
              refine va_get (D := (dC, dI)) (ci := 2) (v := .long yl) (C := RX3) (T := TX3) (N := 10) hx hb hts hi_RX3 hown hK hP 0 rfl rfl 8 (by decide) hw7 (fun _ h9 => h9) rfl dX3_below_145 ?_
              refine lv_iload_n hx hb dX3_below_148 rfl (lv_at hl 2 rfl) ?_
              refine lv_if_eq (tgt := 161) hx hb dX3_below_149 (by decide) (fun h => absurd h (c15)) (fun _ => ?_)
              refine lv_aload_n hx hb dX3_below_152 rfl (lv_at hl 1 rfl) ?_
              refine va_get (D := (dC, dI)) (ci := 2) (v := .long xl) (C := RX3) (T := TX3) (N := 10) hx hb hts hi_RX3 hown hK hP 0 rfl rfl 6 (by decide) hw8 (fun _ h9 => h9) rfl dX3_below_153 ?_
              refine lv_lconst (v := (1 : Int64)) hx hb dX3_below_156 (by decide) ?_
              refine lv_ladd hx hb dX3_below_157 ?_
              refine lv_goto (tgt := 165) hx hb dX3_below_158 (by decide) ?_
              refine pm_max hx hb (hml.trans hl.1.symm) hown hw9 hw10 hw5 hw11 (Nat.le_of_ble_eq_true rfl) (Nat.le_of_ble_eq_true rfl) (Nat.le_of_ble_eq_true rfl) (Nat.le_of_ble_eq_true rfl) dX3_below_165 ?_
              refine lv_lstore (lv' := [(5, .long (pl_max yl (xl + (1 : Int64)))), (3, .long (pl_min xh (yh - (1 : Int64)))), (0, .ref g0), (1, .int p0), (2, .int p1)]) hx hb dX3_below_168 hl (by decide) rfl (fun ls hl => ?_)
              refine lv_aload_n hx hb dX3_below_170 rfl (lv_at hl 2 rfl) ?_
              refine lv_lload_n hx hb dX3_below_171 rfl (lv_at hl 1 rfl) ?_
              refine va_put (D := (dC, dI)) (ci := 2) (v := .long (pl_min xh (yh - (1 : Int64)))) (ty := .long) (C := RX3) (T := TX3) (N := 10) hx hb hts hi_RX3 tyX3 tyX3_ok nmX3 hown hK hP hD hS 0 rfl rfl 7 (by decide) hw0 (fun _ h9 => h9) rfl (tyX3_ok 7 (by decide)) rfl rfl (Nat.le_of_ble_eq_true rfl) dX3_below_172 (fun H locs hP hD hS => ?_)
              have hP : va_P (dC, dI) vwCl [(g0, .inr (2, [.int th, .ref r1, .ref r2, .long fa, .long fb, .int ft, .long xl, .long (pl_min xh (yh - (1 : Int64))), .long yl, .long yh]))] H := hP
              have hD : va_D A [(g0, .inr (2, [.int th, .ref r1, .ref r2, .long fa, .long fb, .int ft, .long xl, .long (pl_min xh (yh - (1 : Int64))), .long yl, .long yh]))] := hD
              refine lv_aload_n hx hb dX3_below_175 rfl (lv_at hl 2 rfl) ?_
              refine lv_lload hx hb dX3_below_176 (lv_at hl 0 rfl) ?_
              refine va_put (D := (dC, dI)) (ci := 2) (v := .long (pl_max yl (xl + (1 : Int64)))) (ty := .long) (C := RX3) (T := TX3) (N := 10) hx hb hts hi_RX3 tyX3 tyX3_ok nmX3 hown hK hP hD hS 0 rfl rfl 8 (by decide) hw7 (fun _ h9 => h9) rfl (tyX3_ok 8 (by decide)) rfl rfl (Nat.le_of_ble_eq_true rfl) dX3_below_178 (fun H locs hP hD hS => ?_)
              have hP : va_P (dC, dI) vwCl [(g0, .inr (2, [.int th, .ref r1, .ref r2, .long fa, .long fb, .int ft, .long xl, .long (pl_min xh (yh - (1 : Int64))), .long (pl_max yl (xl + (1 : Int64))), .long yh]))] H := hP
              have hD : va_D A [(g0, .inr (2, [.int th, .ref r1, .ref r2, .long fa, .long fb, .int ft, .long xl, .long (pl_min xh (yh - (1 : Int64))), .long (pl_max yl (xl + (1 : Int64))), .long yh]))] := hD
              refine lv_aload_n hx hb dX3_below_181 rfl (lv_at hl 2 rfl) ?_
              refine va_get (D := (dC, dI)) (ci := 2) (v := .long xl) (C := RX3) (T := TX3) (N := 10) hx hb hts hi_RX3 hown hK hP 0 rfl rfl 6 (by decide) hw8 (fun _ h9 => h9) rfl dX3_below_182 ?_
              refine lv_aload_n hx hb dX3_below_185 rfl (lv_at hl 2 rfl) ?_
              refine va_get (D := (dC, dI)) (ci := 2) (v := .long (pl_min xh (yh - (1 : Int64)))) (C := RX3) (T := TX3) (N := 10) hx hb hts hi_RX3 hown hK hP 0 rfl rfl 7 (by decide) hw0 (fun _ h9 => h9) rfl dX3_below_186 ?_
              refine pl_gt (tgt := 209) hx hb dX3_below_189 dX3_below_190 (by decide) (fun c20 => ?_) (fun c20 => ?_)
              · refine lv_iconst (v := (0 : Int32)) hx hb dX3_below_209 (by decide) ?_
                have es : (s_X3_below xl xh yl yh p0 p1) = ((0 : Int32), xl, pl_min xh (yh - (1 : Int64)), pl_max yl (xl + (1 : Int64))) := by unfold s_X3_below; rw [if_neg c1, if_neg c9, if_neg c14, if_neg c15, if_neg c18, if_neg c19, if_pos c20]
                exact W.zret (v := (0 : Int32)) hx hb hr (rfl) (fun t ht hW => by rw [es]; exact ⟨rfl, by rw [ht]; exact hP, hD, hS.F ht⟩) hS.2.2 dX3_below_210
              · refine lv_aload_n hx hb dX3_below_193 rfl (lv_at hl 2 rfl) ?_
                refine va_get (D := (dC, dI)) (ci := 2) (v := .long (pl_max yl (xl + (1 : Int64)))) (C := RX3) (T := TX3) (N := 10) hx hb hts hi_RX3 hown hK hP 0 rfl rfl 8 (by decide) hw7 (fun _ h9 => h9) rfl dX3_below_194 ?_
                refine lv_aload_n hx hb dX3_below_197 rfl (lv_at hl 2 rfl) ?_
                refine va_get (D := (dC, dI)) (ci := 2) (v := .long yh) (C := RX3) (T := TX3) (N := 10) hx hb hts hi_RX3 hown hK hP 0 rfl rfl 9 (by decide) hw2 (fun _ h9 => h9) rfl dX3_below_198 ?_
                refine pl_gt (tgt := 209) hx hb dX3_below_201 dX3_below_202 (by decide) (fun c21 => ?_) (fun c21 => ?_)
                · refine lv_iconst (v := (0 : Int32)) hx hb dX3_below_209 (by decide) ?_
                  have es : (s_X3_below xl xh yl yh p0 p1) = ((0 : Int32), xl, pl_min xh (yh - (1 : Int64)), pl_max yl (xl + (1 : Int64))) := by unfold s_X3_below; rw [if_neg c1, if_neg c9, if_neg c14, if_neg c15, if_neg c18, if_neg c19, if_neg c20, if_pos c21]
                  exact W.zret (v := (0 : Int32)) hx hb hr (rfl) (fun t ht hW => by rw [es]; exact ⟨rfl, by rw [ht]; exact hP, hD, hS.F ht⟩) hS.2.2 dX3_below_210
                · refine lv_iconst (v := (1 : Int32)) hx hb dX3_below_205 (by decide) ?_
                  refine lv_goto (tgt := 210) hx hb dX3_below_206 (by decide) ?_
                  have es : (s_X3_below xl xh yl yh p0 p1) = ((1 : Int32), xl, pl_min xh (yh - (1 : Int64)), pl_max yl (xl + (1 : Int64))) := by unfold s_X3_below; rw [if_neg c1, if_neg c9, if_neg c14, if_neg c15, if_neg c18, if_neg c19, if_neg c20, if_neg c21]
                  exact W.zret (v := (1 : Int32)) hx hb hr (rfl) (fun t ht hW => by rw [es]; exact ⟨rfl, by rw [ht]; exact hP, hD, hS.F ht⟩) hS.2.2 dX3_below_210
            · refine lv_iconst (v := (0 : Int32)) hx hb dX3_below_117 (by decide) ?_
              have es : (s_X3_below xl xh yl yh p0 p1) = ((0 : Int32), xl, xh, yl) := by unfold s_X3_below; rw [if_neg c1, if_neg c9, if_neg c14, if_neg c15, if_neg c18, if_pos c19]
              exact W.zret (v := (0 : Int32)) hx hb hr (rfl) (fun t ht hW => by rw [es]; exact ⟨rfl, by rw [ht]; exact hP, hD, hS.F ht⟩) hS.2.2 dX3_below_118
      · refine lv_aload_n hx hb dX3_below_22 rfl (lv_at hl 0 rfl) ?_
        refine va_get (D := (dC, dI)) (ci := 2) (v := .long yl) (C := RX3) (T := TX3) (N := 10) hx hb hts hi_RX3 hown hK hP 0 rfl rfl 8 (by decide) hw7 (fun _ h9 => h9) rfl dX3_below_23 ?_
        refine lv_lconst (v := (0 : Int64)) hx hb dX3_below_26 (by decide) ?_
        refine pl_ge (tgt := 33) hx hb dX3_below_27 dX3_below_28 (by decide) (fun h => absurd (c14) h) (fun _ => ?_)
        refine lv_iconst (v := (1 : Int32)) hx hb dX3_below_31 (by decide) ?_
        have es : (s_X3_below xl xh yl yh p0 p1) = ((1 : Int32), xl, xh, yl) := by unfold s_X3_below; rw [if_neg c1, if_neg c9, if_pos c14]
        exact W.zret (v := (1 : Int32)) hx hb hr (rfl) (fun t ht hW => by rw [es]; exact ⟨rfl, by rw [ht]; exact hP, hD, hS.F ht⟩) hS.2.2 dX3_below_32

def s_X3_side (xl : Int64) (xh : Int64) (yl : Int64) (yh : Int64) (p0 : Int32) : Int32 × Int64 × Int64 × Int64 × Int64 :=
  if p0 = (0 : Int32) then (if pl_min xh yh < pl_max xl yl then ((0 : Int32), pl_max xl yl, pl_min xh yh, pl_max xl yl, pl_min xh yh)
    else ((1 : Int32), pl_max xl yl, pl_min xh yh, pl_max xl yl, pl_min xh yh))
  else if p0 = (1 : Int32) then (if (s_X3_apart xl xh yl yh).2.1 < (s_X3_apart xl xh yl yh).1 then ((0 : Int32), (s_X3_apart xl xh yl yh).1, (s_X3_apart xl xh yl yh).2.1, (s_X3_apart xl xh yl yh).2.2.1, (s_X3_apart xl xh yl yh).2.2.2)
    else if (s_X3_apart xl xh yl yh).2.2.2 < (s_X3_apart xl xh yl yh).2.2.1 then ((0 : Int32), (s_X3_apart xl xh yl yh).1, (s_X3_apart xl xh yl yh).2.1, (s_X3_apart xl xh yl yh).2.2.1, (s_X3_apart xl xh yl yh).2.2.2)
    else ((1 : Int32), (s_X3_apart xl xh yl yh).1, (s_X3_apart xl xh yl yh).2.1, (s_X3_apart xl xh yl yh).2.2.1, (s_X3_apart xl xh yl yh).2.2.2))
  else if p0 = (2 : Int32) then ((s_X3_below xl xh yl yh (1 : Int32) (1 : Int32)).1, (s_X3_below xl xh yl yh (1 : Int32) (1 : Int32)).2.1, (s_X3_below xl xh yl yh (1 : Int32) (1 : Int32)).2.2.1, (s_X3_below xl xh yl yh (1 : Int32) (1 : Int32)).2.2.2, yh)
  else if p0 = (3 : Int32) then ((s_X3_below xl xh yl yh (0 : Int32) (1 : Int32)).1, (s_X3_below xl xh yl yh (0 : Int32) (1 : Int32)).2.1, (s_X3_below xl xh yl yh (0 : Int32) (1 : Int32)).2.2.1, (s_X3_below xl xh yl yh (0 : Int32) (1 : Int32)).2.2.2, yh)
  else if p0 = (4 : Int32) then ((s_X3_below yl yh xl xh (1 : Int32) (1 : Int32)).1, ((s_X3_below yl yh xl xh (1 : Int32) (1 : Int32)).2.2.2), xh, ((s_X3_below yl yh xl xh (1 : Int32) (1 : Int32)).2.1), ((s_X3_below yl yh xl xh (1 : Int32) (1 : Int32)).2.2.1))
  else if p0 = (5 : Int32) then ((s_X3_below yl yh xl xh (0 : Int32) (1 : Int32)).1, ((s_X3_below yl yh xl xh (0 : Int32) (1 : Int32)).2.2.2), xh, ((s_X3_below yl yh xl xh (0 : Int32) (1 : Int32)).2.1), ((s_X3_below yl yh xl xh (0 : Int32) (1 : Int32)).2.2.1))
  else if p0 = (6 : Int32) then ((s_X3_below xl xh yl yh (1 : Int32) (0 : Int32)).1, (s_X3_below xl xh yl yh (1 : Int32) (0 : Int32)).2.1, (s_X3_below xl xh yl yh (1 : Int32) (0 : Int32)).2.2.1, (s_X3_below xl xh yl yh (1 : Int32) (0 : Int32)).2.2.2, yh)
  else if p0 = (7 : Int32) then ((s_X3_below xl xh yl yh (0 : Int32) (0 : Int32)).1, (s_X3_below xl xh yl yh (0 : Int32) (0 : Int32)).2.1, (s_X3_below xl xh yl yh (0 : Int32) (0 : Int32)).2.2.1, (s_X3_below xl xh yl yh (0 : Int32) (0 : Int32)).2.2.2, yh)
  else if p0 = (8 : Int32) then ((s_X3_below yl yh xl xh (1 : Int32) (0 : Int32)).1, ((s_X3_below yl yh xl xh (1 : Int32) (0 : Int32)).2.2.2), xh, ((s_X3_below yl yh xl xh (1 : Int32) (0 : Int32)).2.1), ((s_X3_below yl yh xl xh (1 : Int32) (0 : Int32)).2.2.1))
  else if p0 = (9 : Int32) then ((s_X3_below yl yh xl xh (0 : Int32) (0 : Int32)).1, ((s_X3_below yl yh xl xh (0 : Int32) (0 : Int32)).2.2.2), xh, ((s_X3_below yl yh xl xh (0 : Int32) (0 : Int32)).2.1), ((s_X3_below yl yh xl xh (0 : Int32) (0 : Int32)).2.2.1))
  else if xh < xl then ((0 : Int32), xl, xh, yl, yh)
  else if yh < yl then ((0 : Int32), xl, xh, yl, yh)
  else ((1 : Int32), xl, xh, yl, yh)
theorem z_X3_side (xl : Int64) (xh : Int64) (yl : Int64) (yh : Int64) (p0 : Int32) : (s_X3_side xl xh yl yh p0).1 = 0 ∨ (s_X3_side xl xh yl yh p0).1 = 1 := by
  unfold s_X3_side
  by_cases c1 : p0 = (0 : Int32)
  · rw [if_pos c1]
    by_cases c2 : pl_min xh yh < pl_max xl yl
    · rw [if_pos c2]
      exact Or.inl rfl
    · rw [if_neg c2]
      exact Or.inr rfl
  · rw [if_neg c1]
    by_cases c3 : p0 = (1 : Int32)
    · rw [if_pos c3]
      by_cases c4 : (s_X3_apart xl xh yl yh).2.1 < (s_X3_apart xl xh yl yh).1
      · rw [if_pos c4]
        exact Or.inl rfl
      · rw [if_neg c4]
        by_cases c5 : (s_X3_apart xl xh yl yh).2.2.2 < (s_X3_apart xl xh yl yh).2.2.1
        · rw [if_pos c5]
          exact Or.inl rfl
        · rw [if_neg c5]
          exact Or.inr rfl
    · rw [if_neg c3]
      by_cases c6 : p0 = (2 : Int32)
      · rw [if_pos c6]
        exact z_X3_below _ _ _ _ _ _
      · rw [if_neg c6]
        by_cases c7 : p0 = (3 : Int32)
        · rw [if_pos c7]
          exact z_X3_below _ _ _ _ _ _
        · rw [if_neg c7]
          by_cases c8 : p0 = (4 : Int32)
          · rw [if_pos c8]
            exact z_X3_below _ _ _ _ _ _
          · rw [if_neg c8]
            by_cases c9 : p0 = (5 : Int32)
            · rw [if_pos c9]
              exact z_X3_below _ _ _ _ _ _
            · rw [if_neg c9]
              by_cases c10 : p0 = (6 : Int32)
              · rw [if_pos c10]
                exact z_X3_below _ _ _ _ _ _
              · rw [if_neg c10]
                by_cases c11 : p0 = (7 : Int32)
                · rw [if_pos c11]
                  exact z_X3_below _ _ _ _ _ _
                · rw [if_neg c11]
                  by_cases c12 : p0 = (8 : Int32)
                  · rw [if_pos c12]
                    exact z_X3_below _ _ _ _ _ _
                  · rw [if_neg c12]
                    by_cases c13 : p0 = (9 : Int32)
                    · rw [if_pos c13]
                      exact z_X3_below _ _ _ _ _ _
                    · rw [if_neg c13]
                      by_cases c14 : xh < xl
                      · rw [if_pos c14]
                        exact Or.inl rfl
                      · rw [if_neg c14]
                        by_cases c15 : yh < yl
                        · rw [if_pos c15]
                          exact Or.inl rfl
                        · rw [if_neg c15]
                          exact Or.inr rfl
set_option maxHeartbeats 4000000 in
set_option maxRecDepth 100000 in
theorem c_X3_side (l : Launch) (dC : Nat → ClassId) (dI : Nat → Nat → Nat) (g0 r1 r2 sz : Nat) (th : Int32) (fa : Int64) (fb : Int64) (ft : Int32) (xl : Int64) (xh : Int64) (yl : Int64) (yh : Int64) (p0 : Int32) : Met l yX3_side wsX3_side ({ frames := 2, cells := 0, slots := 0, locals := 42 }) (wp9 (dC, dI) vwCl [] [.ref g0, .int p0] sz [(g0, .inr (2, [.int th, .ref r1, .ref r2, .long fa, .long fb, .int ft, .long xl, .long xh, .long yl, .long yh]))]) (wq (some (.int ((s_X3_side xl xh yl yh p0).1))) (dC, dI) vwCl [(g0, .inr (2, [.int th, .ref r1, .ref r2, .long fa, .long fb, .int ft, .long ((s_X3_side xl xh yl yh p0).2.1), .long ((s_X3_side xl xh yl yh p0).2.2.1), .long ((s_X3_side xl xh yl yh p0).2.2.2.1), .long ((s_X3_side xl xh yl yh p0).2.2.2.2)]))] (va_A [(g0, .inr (2, [.int th, .ref r1, .ref r2, .long fa, .long fb, .int ft, .long xl, .long xh, .long yl, .long yh]))] sz)) 0 0 (va_A [(g0, .inr (2, [.int th, .ref r1, .ref r2, .long fa, .long fb, .int ft, .long xl, .long xh, .long yl, .long yh]))] sz) := by
  refine Met.ofW (cc := cX3_side) (maxL := 3) (ret := (some .boolean)) (by decide) rfl ?_
  intro p e s m args below meth c s₁ B hml hv
  obtain ⟨rfl, hsz, hP, hK, hD0⟩ := hv
  have hx := B.exec
  have hb := B.bytes
  have hr := B.returns
  have hts := atoms_spec (ws := wsX3_side) B.pre
  have hown : s.vm.findClass RX3 = some m.cls := findClass_of_methodNamed B.named
  have hlocks := B.notSynchronized
  subst hsz
  have hD := hD0.self (sz := s.heap.size)
  generalize hAe : va_A [(g0, .inr (2, [.int th, .ref r1, .ref r2, .long fa, .long fb, .int ft, .long xl, .long xh, .long yl, .long yh]))] s.heap.size = A at hD ⊢
  have hA : ∀ q : Nat, s.heap.size ≤ q → A q := fun q h => by rw [← hAe]; exact Or.inr h
  have hS : va_S A s.heap s.heap [] := va_S.rf
  have hP : va_P (dC, dI) vwCl [(g0, .inr (2, [.int th, .ref r1, .ref r2, .long fa, .long fb, .int ft, .long xl, .long xh, .long yl, .long yh]))] s.heap := hP
  have hl := lv_entry ([.ref g0, .int p0]) (n := 3) (Nat.le_of_ble_eq_true rfl)
  rw [lg_entry_eq]
  generalize (lg_sl ([.ref g0, .int p0]) ++ List.replicate (3 - (lg_sl ([.ref g0, .int p0])).length) Slot.unset).toArray = ls at hl ⊢
  have hl : lv_has ls 3 [(0, .ref g0), (1, .int p0)] := hl
  have hw0 := hts (.fieldLink RX3 98 "RangeBoxModel" "xl" "J") (List.mem_of_getElem? (i := 1) rfl)
  have hi_RX3 : ∀ w ∈ wsX30, w ∈ wsX3_side := fun _ h => List.mem_cons_of_mem _ (List.mem_append_right _ h)
  have hw2 := hts (.fieldLink RX3 101 "RangeBoxModel" "yl" "J") (List.mem_of_getElem? (i := 2) rfl)
  have hw3 := hts (.methodLink RX3 74 Lib.MathLoose.max_long.x) (List.mem_of_getElem? (i := 3) rfl)
  have hw4 := hts (.static Lib.MathLoose.max_long.x) (List.mem_of_getElem? (i := 4) rfl)
  have hw5 := hts (.initialized "java/lang/Math") (List.mem_of_getElem? (i := 5) rfl)
  have hw6 := hts (.code Lib.MathLoose.max_long.x Lib.MathLoose.max_long.code 4 (some .long)) (List.mem_of_getElem? (i := 6) rfl)
  have hw7 := hts (.fieldLink RX3 104 "RangeBoxModel" "xh" "J") (List.mem_of_getElem? (i := 7) rfl)
  have hw8 := hts (.fieldLink RX3 107 "RangeBoxModel" "yh" "J") (List.mem_of_getElem? (i := 8) rfl)
  have hw9 := hts (.methodLink RX3 71 Lib.MathLoose.min_long.x) (List.mem_of_getElem? (i := 9) rfl)
  have hw10 := hts (.static Lib.MathLoose.min_long.x) (List.mem_of_getElem? (i := 10) rfl)
  have hw11 := hts (.code Lib.MathLoose.min_long.x Lib.MathLoose.min_long.code 4 (some .long)) (List.mem_of_getElem? (i := 11) rfl)
  refine lv_iload_n hx hb dX3_side_0 rfl (lv_at hl 1 rfl) ?_
  by_cases c1 : p0 = (0 : Int32)
  · refine lv_tableIn (off := 55) (tgt := 56) hx hb dX3_side_1 (by rw [c1]; decide) (by rw [c1]; decide) (by rw [c1]; decide) (by decide) ?_
    refine lv_aload_n hx hb dX3_side_56 rfl (lv_at hl 0 rfl) ?_
    refine lv_aload_n hx hb dX3_side_57 rfl (lv_at hl 0 rfl) ?_
    refine va_get (D := (dC, dI)) (ci := 2) (v := .long xl) (C := RX3) (T := TX3) (N := 10) hx hb hts hi_RX3 hown hK hP 0 rfl rfl 6 (by decide) hw0 (fun _ h9 => h9) rfl dX3_side_58 ?_
    refine lv_aload_n hx hb dX3_side_61 rfl (lv_at hl 0 rfl) ?_
    refine va_get (D := (dC, dI)) (ci := 2) (v := .long yl) (C := RX3) (T := TX3) (N := 10) hx hb hts hi_RX3 hown hK hP 0 rfl rfl 8 (by decide) hw2 (fun _ h9 => h9) rfl dX3_side_62 ?_
    refine pm_max hx hb (hml.trans hl.1.symm) hown hw3 hw4 hw5 hw6 (Nat.le_of_ble_eq_true rfl) (Nat.le_of_ble_eq_true rfl) (Nat.le_of_ble_eq_true rfl) (Nat.le_of_ble_eq_true rfl) dX3_side_65 ?_
    refine va_put (D := (dC, dI)) (ci := 2) (v := .long (pl_max xl yl)) (ty := .long) (C := RX3) (T := TX3) (N := 10) hx hb hts hi_RX3 tyX3 tyX3_ok nmX3 hown hK hP hD hS 0 rfl rfl 6 (by decide) hw0 (fun _ h9 => h9) rfl (tyX3_ok 6 (by decide)) rfl rfl (Nat.le_of_ble_eq_true rfl) dX3_side_68 (fun H locs hP hD hS => ?_)
    have hP : va_P (dC, dI) vwCl [(g0, .inr (2, [.int th, .ref r1, .ref r2, .long fa, .long fb, .int ft, .long (pl_max xl yl), .long xh, .long yl, .long yh]))] H := hP
    have hD : va_D A [(g0, .inr (2, [.int th, .ref r1, .ref r2, .long fa, .long fb, .int ft, .long (pl_max xl yl), .long xh, .long yl, .long yh]))] := hD
    refine lv_aload_n hx hb dX3_side_71 rfl (lv_at hl 0 rfl) ?_
    refine lv_aload_n hx hb dX3_side_72 rfl (lv_at hl 0 rfl) ?_
    refine va_get (D := (dC, dI)) (ci := 2) (v := .long xh) (C := RX3) (T := TX3) (N := 10) hx hb hts hi_RX3 hown hK hP 0 rfl rfl 7 (by decide) hw7 (fun _ h9 => h9) rfl dX3_side_73 ?_
    refine lv_aload_n hx hb dX3_side_76 rfl (lv_at hl 0 rfl) ?_
    refine va_get (D := (dC, dI)) (ci := 2) (v := .long yh) (C := RX3) (T := TX3) (N := 10) hx hb hts hi_RX3 hown hK hP 0 rfl rfl 9 (by decide) hw8 (fun _ h9 => h9) rfl dX3_side_77 ?_
    refine pm_min hx hb (hml.trans hl.1.symm) hown hw9 hw10 hw5 hw11 (Nat.le_of_ble_eq_true rfl) (Nat.le_of_ble_eq_true rfl) (Nat.le_of_ble_eq_true rfl) (Nat.le_of_ble_eq_true rfl) dX3_side_80 ?_
    refine va_put (D := (dC, dI)) (ci := 2) (v := .long (pl_min xh yh)) (ty := .long) (C := RX3) (T := TX3) (N := 10) hx hb hts hi_RX3 tyX3 tyX3_ok nmX3 hown hK hP hD hS 0 rfl rfl 7 (by decide) hw7 (fun _ h9 => h9) rfl (tyX3_ok 7 (by decide)) rfl rfl (Nat.le_of_ble_eq_true rfl) dX3_side_83 (fun H locs hP hD hS => ?_)
    have hP : va_P (dC, dI) vwCl [(g0, .inr (2, [.int th, .ref r1, .ref r2, .long fa, .long fb, .int ft, .long (pl_max xl yl), .long (pl_min xh yh), .long yl, .long yh]))] H := hP
    have hD : va_D A [(g0, .inr (2, [.int th, .ref r1, .ref r2, .long fa, .long fb, .int ft, .long (pl_max xl yl), .long (pl_min xh yh), .long yl, .long yh]))] := hD
    refine lv_aload_n hx hb dX3_side_86 rfl (lv_at hl 0 rfl) ?_
    refine lv_aload_n hx hb dX3_side_87 rfl (lv_at hl 0 rfl) ?_
    refine va_get (D := (dC, dI)) (ci := 2) (v := .long (pl_max xl yl)) (C := RX3) (T := TX3) (N := 10) hx hb hts hi_RX3 hown hK hP 0 rfl rfl 6 (by decide) hw0 (fun _ h9 => h9) rfl dX3_side_88 ?_
    refine va_put (D := (dC, dI)) (ci := 2) (v := .long (pl_max xl yl)) (ty := .long) (C := RX3) (T := TX3) (N := 10) hx hb hts hi_RX3 tyX3 tyX3_ok nmX3 hown hK hP hD hS 0 rfl rfl 8 (by decide) hw2 (fun _ h9 => h9) rfl (tyX3_ok 8 (by decide)) rfl rfl (Nat.le_of_ble_eq_true rfl) dX3_side_91 (fun H locs hP hD hS => ?_)
    have hP : va_P (dC, dI) vwCl [(g0, .inr (2, [.int th, .ref r1, .ref r2, .long fa, .long fb, .int ft, .long (pl_max xl yl), .long (pl_min xh yh), .long (pl_max xl yl), .long yh]))] H := hP
    have hD : va_D A [(g0, .inr (2, [.int th, .ref r1, .ref r2, .long fa, .long fb, .int ft, .long (pl_max xl yl), .long (pl_min xh yh), .long (pl_max xl yl), .long yh]))] := hD
    refine lv_aload_n hx hb dX3_side_94 rfl (lv_at hl 0 rfl) ?_
    refine lv_aload_n hx hb dX3_side_95 rfl (lv_at hl 0 rfl) ?_
    refine va_get (D := (dC, dI)) (ci := 2) (v := .long (pl_min xh yh)) (C := RX3) (T := TX3) (N := 10) hx hb hts hi_RX3 hown hK hP 0 rfl rfl 7 (by decide) hw7 (fun _ h9 => h9) rfl dX3_side_96 ?_
    refine va_put (D := (dC, dI)) (ci := 2) (v := .long (pl_min xh yh)) (ty := .long) (C := RX3) (T := TX3) (N := 10) hx hb hts hi_RX3 tyX3 tyX3_ok nmX3 hown hK hP hD hS 0 rfl rfl 9 (by decide) hw8 (fun _ h9 => h9) rfl (tyX3_ok 9 (by decide)) rfl rfl (Nat.le_of_ble_eq_true rfl) dX3_side_99 (fun H locs hP hD hS => ?_)
    have hP : va_P (dC, dI) vwCl [(g0, .inr (2, [.int th, .ref r1, .ref r2, .long fa, .long fb, .int ft, .long (pl_max xl yl), .long (pl_min xh yh), .long (pl_max xl yl), .long (pl_min xh yh)]))] H := hP
    have hD : va_D A [(g0, .inr (2, [.int th, .ref r1, .ref r2, .long fa, .long fb, .int ft, .long (pl_max xl yl), .long (pl_min xh yh), .long (pl_max xl yl), .long (pl_min xh yh)]))] := hD
    refine lv_goto (tgt := 182) hx hb dX3_side_102 (by decide) ?_
    refine lv_aload_n hx hb dX3_side_182 rfl (lv_at hl 0 rfl) ?_
    refine va_get (D := (dC, dI)) (ci := 2) (v := .long (pl_max xl yl)) (C := RX3) (T := TX3) (N := 10) hx hb hts hi_RX3 hown hK hP 0 rfl rfl 6 (by decide) hw0 (fun _ h9 => h9) rfl dX3_side_183 ?_
    refine lv_aload_n hx hb dX3_side_186 rfl (lv_at hl 0 rfl) ?_
    refine va_get (D := (dC, dI)) (ci := 2) (v := .long (pl_min xh yh)) (C := RX3) (T := TX3) (N := 10) hx hb hts hi_RX3 hown hK hP 0 rfl rfl 7 (by decide) hw7 (fun _ h9 => h9) rfl dX3_side_187 ?_
    refine pl_gt (tgt := 210) hx hb dX3_side_190 dX3_side_191 (by decide) (fun c2 => ?_) (fun c2 => ?_)
    · refine lv_iconst (v := (0 : Int32)) hx hb dX3_side_210 (by decide) ?_
      have es : (s_X3_side xl xh yl yh p0) = ((0 : Int32), pl_max xl yl, pl_min xh yh, pl_max xl yl, pl_min xh yh) := by unfold s_X3_side; rw [if_pos c1, if_pos c2]
      exact W.zret (v := (0 : Int32)) hx hb hr (rfl) (fun t ht hW => by rw [es]; exact ⟨rfl, by rw [ht]; exact hP, hD, hS.F ht⟩) hS.2.2 dX3_side_211
    · refine lv_aload_n hx hb dX3_side_194 rfl (lv_at hl 0 rfl) ?_
      refine va_get (D := (dC, dI)) (ci := 2) (v := .long (pl_max xl yl)) (C := RX3) (T := TX3) (N := 10) hx hb hts hi_RX3 hown hK hP 0 rfl rfl 8 (by decide) hw2 (fun _ h9 => h9) rfl dX3_side_195 ?_
      refine lv_aload_n hx hb dX3_side_198 rfl (lv_at hl 0 rfl) ?_
      refine va_get (D := (dC, dI)) (ci := 2) (v := .long (pl_min xh yh)) (C := RX3) (T := TX3) (N := 10) hx hb hts hi_RX3 hown hK hP 0 rfl rfl 9 (by decide) hw8 (fun _ h9 => h9) rfl dX3_side_199 ?_
      refine pl_gt (tgt := 210) hx hb dX3_side_202 dX3_side_203 (by decide) (fun h => absurd h (c2)) (fun _ => ?_)
      refine lv_iconst (v := (1 : Int32)) hx hb dX3_side_206 (by decide) ?_
      refine lv_goto (tgt := 211) hx hb dX3_side_207 (by decide) ?_
      have es : (s_X3_side xl xh yl yh p0) = ((1 : Int32), pl_max xl yl, pl_min xh yh, pl_max xl yl, pl_min xh yh) := by unfold s_X3_side; rw [if_pos c1, if_neg c2]
      exact W.zret (v := (1 : Int32)) hx hb hr (rfl) (fun t ht hW => by rw [es]; exact ⟨rfl, by rw [ht]; exact hP, hD, hS.F ht⟩) hS.2.2 dX3_side_211
  by_cases c3 : p0 = (1 : Int32)
  · refine lv_tableIn (off := 104) (tgt := 105) hx hb dX3_side_1 (by rw [c3]; decide) (by rw [c3]; decide) (by rw [c3]; decide) (by decide) ?_
    refine lv_aload_n hx hb dX3_side_105 rfl (lv_at hl 0 rfl) ?_
    refine wq_callv (wc := [(g0, .inr (2, [.int th, .ref r1, .ref r2, .long fa, .long fb, .int ft, .long xl, .long xh, .long yl, .long yh]))]) (wr := []) (w2 := [(g0, .inr (2, [.int th, .ref r1, .ref r2, .long fa, .long fb, .int ft, .long ((s_X3_apart xl xh yl yh).1), .long ((s_X3_apart xl xh yl yh).2.1), .long ((s_X3_apart xl xh yl yh).2.2.1), .long ((s_X3_apart xl xh yl yh).2.2.2)]))]) (va_runV (As := []) (rest := []) ⟨hx, hb, hml, hown, hts⟩ (c_X3_apart l dC dI g0 r1 r2 s.heap.size th fa fb ft xl xh yl yh) (cwV 0 hts gX3_side_X3_apart rfl rfl rfl ydV_X3_apart ⟨Nat.le_of_ble_eq_true rfl, Nat.le_of_ble_eq_true rfl⟩) (wp_V (hK.sub (tys' := []) [] rfl) (hP.sub (ws' := [(g0, .inr (2, [.int th, .ref r1, .ref r2, .long fa, .long fb, .int ft, .long xl, .long xh, .long yl, .long yh]))]) [0] rfl) (hD.sub (ws' := [(g0, .inr (2, [.int th, .ref r1, .ref r2, .long fa, .long fb, .int ft, .long xl, .long xh, .long yl, .long yh]))]) [0] (by decide) rfl)  rfl rfl) rfl rfl hl.1 rfl (lv_room (Nat.le_of_ble_eq_true rfl)) dX3_side_106 ⟨Nat.le_of_ble_eq_true rfl, Nat.le_of_ble_eq_true rfl⟩) hP hD hS hA [0] [] [0] rfl rfl rfl (by decide) rfl rfl (fun H locs hP hD hS => ?_)
    refine lv_goto (tgt := 182) hx hb dX3_side_109 (by decide) ?_
    refine lv_aload_n hx hb dX3_side_182 rfl (lv_at hl 0 rfl) ?_
    refine va_get (D := (dC, dI)) (ci := 2) (v := .long ((s_X3_apart xl xh yl yh).1)) (C := RX3) (T := TX3) (N := 10) hx hb hts hi_RX3 hown hK hP 0 rfl rfl 6 (by decide) hw0 (fun _ h9 => h9) rfl dX3_side_183 ?_
    refine lv_aload_n hx hb dX3_side_186 rfl (lv_at hl 0 rfl) ?_
    refine va_get (D := (dC, dI)) (ci := 2) (v := .long ((s_X3_apart xl xh yl yh).2.1)) (C := RX3) (T := TX3) (N := 10) hx hb hts hi_RX3 hown hK hP 0 rfl rfl 7 (by decide) hw7 (fun _ h9 => h9) rfl dX3_side_187 ?_
    refine pl_gt (tgt := 210) hx hb dX3_side_190 dX3_side_191 (by decide) (fun c4 => ?_) (fun c4 => ?_)
    · refine lv_iconst (v := (0 : Int32)) hx hb dX3_side_210 (by decide) ?_
      have es : (s_X3_side xl xh yl yh p0) = ((0 : Int32), (s_X3_apart xl xh yl yh).1, (s_X3_apart xl xh yl yh).2.1, (s_X3_apart xl xh yl yh).2.2.1, (s_X3_apart xl xh yl yh).2.2.2) := by unfold s_X3_side; rw [if_neg c1, if_pos c3, if_pos c4]
      exact W.zret (v := (0 : Int32)) hx hb hr (rfl) (fun t ht hW => by rw [es]; exact ⟨rfl, by rw [ht]; exact hP, hD, hS.F ht⟩) hS.2.2 dX3_side_211
    · refine lv_aload_n hx hb dX3_side_194 rfl (lv_at hl 0 rfl) ?_
      refine va_get (D := (dC, dI)) (ci := 2) (v := .long ((s_X3_apart xl xh yl yh).2.2.1)) (C := RX3) (T := TX3) (N := 10) hx hb hts hi_RX3 hown hK hP 0 rfl rfl 8 (by decide) hw2 (fun _ h9 => h9) rfl dX3_side_195 ?_
      refine lv_aload_n hx hb dX3_side_198 rfl (lv_at hl 0 rfl) ?_
      refine va_get (D := (dC, dI)) (ci := 2) (v := .long ((s_X3_apart xl xh yl yh).2.2.2)) (C := RX3) (T := TX3) (N := 10) hx hb hts hi_RX3 hown hK hP 0 rfl rfl 9 (by decide) hw8 (fun _ h9 => h9) rfl dX3_side_199 ?_
      refine pl_gt (tgt := 210) hx hb dX3_side_202 dX3_side_203 (by decide) (fun c5 => ?_) (fun c5 => ?_)
      · refine lv_iconst (v := (0 : Int32)) hx hb dX3_side_210 (by decide) ?_
        have es : (s_X3_side xl xh yl yh p0) = ((0 : Int32), (s_X3_apart xl xh yl yh).1, (s_X3_apart xl xh yl yh).2.1, (s_X3_apart xl xh yl yh).2.2.1, (s_X3_apart xl xh yl yh).2.2.2) := by unfold s_X3_side; rw [if_neg c1, if_pos c3, if_neg c4, if_pos c5]
        exact W.zret (v := (0 : Int32)) hx hb hr (rfl) (fun t ht hW => by rw [es]; exact ⟨rfl, by rw [ht]; exact hP, hD, hS.F ht⟩) hS.2.2 dX3_side_211
      · refine lv_iconst (v := (1 : Int32)) hx hb dX3_side_206 (by decide) ?_
        refine lv_goto (tgt := 211) hx hb dX3_side_207 (by decide) ?_
        have es : (s_X3_side xl xh yl yh p0) = ((1 : Int32), (s_X3_apart xl xh yl yh).1, (s_X3_apart xl xh yl yh).2.1, (s_X3_apart xl xh yl yh).2.2.1, (s_X3_apart xl xh yl yh).2.2.2) := by unfold s_X3_side; rw [if_neg c1, if_pos c3, if_neg c4, if_neg c5]
        exact W.zret (v := (1 : Int32)) hx hb hr (rfl) (fun t ht hW => by rw [es]; exact ⟨rfl, by rw [ht]; exact hP, hD, hS.F ht⟩) hS.2.2 dX3_side_211
  by_cases c6 : p0 = (2 : Int32)
  · refine lv_tableIn (off := 111) (tgt := 112) hx hb dX3_side_1 (by rw [c6]; decide) (by rw [c6]; decide) (by rw [c6]; decide) (by decide) ?_
    refine lv_aload_n hx hb dX3_side_112 rfl (lv_at hl 0 rfl) ?_
    refine lv_iconst (v := (1 : Int32)) hx hb dX3_side_113 (by decide) ?_
    refine lv_iconst (v := (1 : Int32)) hx hb dX3_side_114 (by decide) ?_
    refine wq_calli (wc := [(g0, .inr (2, [.int th, .ref r1, .ref r2, .long fa, .long fb, .int ft, .long xl, .long xh, .long yl, .long yh]))]) (wr := []) (w2 := [(g0, .inr (2, [.int th, .ref r1, .ref r2, .long fa, .long fb, .int ft, .long ((s_X3_below xl xh yl yh (1 : Int32) (1 : Int32)).2.1), .long ((s_X3_below xl xh yl yh (1 : Int32) (1 : Int32)).2.2.1), .long ((s_X3_below xl xh yl yh (1 : Int32) (1 : Int32)).2.2.2), .long yh]))]) (va_runV (As := [.int (1 : Int32), .int (1 : Int32)]) (rest := []) ⟨hx, hb, hml, hown, hts⟩ (c_X3_below l dC dI g0 r1 r2 s.heap.size th fa fb ft xl xh yl yh (1 : Int32) (1 : Int32)) (cwV 2 hts gX3_side_X3_below rfl rfl rfl ydV_X3_below ⟨Nat.le_of_ble_eq_true rfl, Nat.le_of_ble_eq_true rfl⟩) (wp_V (hK.sub (tys' := []) [] rfl) (hP.sub (ws' := [(g0, .inr (2, [.int th, .ref r1, .ref r2, .long fa, .long fb, .int ft, .long xl, .long xh, .long yl, .long yh]))]) [0] rfl) (hD.sub (ws' := [(g0, .inr (2, [.int th, .ref r1, .ref r2, .long fa, .long fb, .int ft, .long xl, .long xh, .long yl, .long yh]))]) [0] (by decide) rfl)  rfl rfl) rfl rfl hl.1 rfl (lv_room (Nat.le_of_ble_eq_true rfl)) dX3_side_115 ⟨Nat.le_of_ble_eq_true rfl, Nat.le_of_ble_eq_true rfl⟩) hP hD hS hA [0] [] [0] rfl rfl rfl (by decide) rfl rfl (fun H locs hP hD hS => ?_)
    have es : (s_X3_side xl xh yl yh p0) = ((s_X3_below xl xh yl yh (1 : Int32) (1 : Int32)).1, (s_X3_below xl xh yl yh (1 : Int32) (1 : Int32)).2.1, (s_X3_below xl xh yl yh (1 : Int32) (1 : Int32)).2.2.1, (s_X3_below xl xh yl yh (1 : Int32) (1 : Int32)).2.2.2, yh) := by unfold s_X3_side; rw [if_neg c1, if_neg c3, if_pos c6]
    exact W.zret (v := (s_X3_below xl xh yl yh (1 : Int32) (1 : Int32)).1) hx hb hr (pz_01 (z_X3_below _ _ _ _ _ _)) (fun t ht hW => by rw [es]; exact ⟨rfl, by rw [ht]; exact hP, hD, hS.F ht⟩) hS.2.2 dX3_side_118
  by_cases c7 : p0 = (3 : Int32)
  · refine lv_tableIn (off := 118) (tgt := 119) hx hb dX3_side_1 (by rw [c7]; decide) (by rw [c7]; decide) (by rw [c7]; decide) (by decide) ?_
    refine lv_aload_n hx hb dX3_side_119 rfl (lv_at hl 0 rfl) ?_
    refine lv_iconst (v := (0 : Int32)) hx hb dX3_side_120 (by decide) ?_
    refine lv_iconst (v := (1 : Int32)) hx hb dX3_side_121 (by decide) ?_
    refine wq_calli (wc := [(g0, .inr (2, [.int th, .ref r1, .ref r2, .long fa, .long fb, .int ft, .long xl, .long xh, .long yl, .long yh]))]) (wr := []) (w2 := [(g0, .inr (2, [.int th, .ref r1, .ref r2, .long fa, .long fb, .int ft, .long ((s_X3_below xl xh yl yh (0 : Int32) (1 : Int32)).2.1), .long ((s_X3_below xl xh yl yh (0 : Int32) (1 : Int32)).2.2.1), .long ((s_X3_below xl xh yl yh (0 : Int32) (1 : Int32)).2.2.2), .long yh]))]) (va_runV (As := [.int (0 : Int32), .int (1 : Int32)]) (rest := []) ⟨hx, hb, hml, hown, hts⟩ (c_X3_below l dC dI g0 r1 r2 s.heap.size th fa fb ft xl xh yl yh (0 : Int32) (1 : Int32)) (cwV 2 hts gX3_side_X3_below rfl rfl rfl ydV_X3_below ⟨Nat.le_of_ble_eq_true rfl, Nat.le_of_ble_eq_true rfl⟩) (wp_V (hK.sub (tys' := []) [] rfl) (hP.sub (ws' := [(g0, .inr (2, [.int th, .ref r1, .ref r2, .long fa, .long fb, .int ft, .long xl, .long xh, .long yl, .long yh]))]) [0] rfl) (hD.sub (ws' := [(g0, .inr (2, [.int th, .ref r1, .ref r2, .long fa, .long fb, .int ft, .long xl, .long xh, .long yl, .long yh]))]) [0] (by decide) rfl)  rfl rfl) rfl rfl hl.1 rfl (lv_room (Nat.le_of_ble_eq_true rfl)) dX3_side_122 ⟨Nat.le_of_ble_eq_true rfl, Nat.le_of_ble_eq_true rfl⟩) hP hD hS hA [0] [] [0] rfl rfl rfl (by decide) rfl rfl (fun H locs hP hD hS => ?_)
    have es : (s_X3_side xl xh yl yh p0) = ((s_X3_below xl xh yl yh (0 : Int32) (1 : Int32)).1, (s_X3_below xl xh yl yh (0 : Int32) (1 : Int32)).2.1, (s_X3_below xl xh yl yh (0 : Int32) (1 : Int32)).2.2.1, (s_X3_below xl xh yl yh (0 : Int32) (1 : Int32)).2.2.2, yh) := by unfold s_X3_side; rw [if_neg c1, if_neg c3, if_neg c6, if_pos c7]
    exact W.zret (v := (s_X3_below xl xh yl yh (0 : Int32) (1 : Int32)).1) hx hb hr (pz_01 (z_X3_below _ _ _ _ _ _)) (fun t ht hW => by rw [es]; exact ⟨rfl, by rw [ht]; exact hP, hD, hS.F ht⟩) hS.2.2 dX3_side_125
  by_cases c8 : p0 = (4 : Int32)
  · refine lv_tableIn (off := 139) (tgt := 140) hx hb dX3_side_1 (by rw [c8]; decide) (by rw [c8]; decide) (by rw [c8]; decide) (by decide) ?_
    refine lv_aload_n hx hb dX3_side_140 rfl (lv_at hl 0 rfl) ?_
    refine wq_callv (wc := [(g0, .inr (2, [.int th, .ref r1, .ref r2, .long fa, .long fb, .int ft, .long xl, .long xh, .long yl, .long yh]))]) (wr := []) (w2 := [(g0, .inr (2, [.int th, .ref r1, .ref r2, .long fa, .long fb, .int ft, .long yl, .long yh, .long xl, .long xh]))]) (va_runV (As := []) (rest := []) ⟨hx, hb, hml, hown, hts⟩ (c_X3_turn l dC dI g0 r1 r2 s.heap.size th fa fb ft xl xh yl yh) (cwV 0 hts gX3_side_X3_turn rfl rfl rfl ydV_X3_turn ⟨Nat.le_of_ble_eq_true rfl, Nat.le_of_ble_eq_true rfl⟩) (wp_V (hK.sub (tys' := []) [] rfl) (hP.sub (ws' := [(g0, .inr (2, [.int th, .ref r1, .ref r2, .long fa, .long fb, .int ft, .long xl, .long xh, .long yl, .long yh]))]) [0] rfl) (hD.sub (ws' := [(g0, .inr (2, [.int th, .ref r1, .ref r2, .long fa, .long fb, .int ft, .long xl, .long xh, .long yl, .long yh]))]) [0] (by decide) rfl)  rfl rfl) rfl rfl hl.1 rfl (lv_room (Nat.le_of_ble_eq_true rfl)) dX3_side_141 ⟨Nat.le_of_ble_eq_true rfl, Nat.le_of_ble_eq_true rfl⟩) hP hD hS hA [0] [] [0] rfl rfl rfl (by decide) rfl rfl (fun H locs hP hD hS => ?_)
    refine lv_aload_n hx hb dX3_side_144 rfl (lv_at hl 0 rfl) ?_
    refine lv_iload_n hx hb dX3_side_145 rfl (lv_at hl 1 rfl) ?_
    refine lv_iconst (v := (4 : Int32)) hx hb dX3_side_146 (by decide) ?_
    refine lv_icmp_eq (tgt := 156) hx hb dX3_side_147 (by decide) (fun _ => ?_) (fun h => absurd (c8) h)
    refine lv_iconst (v := (1 : Int32)) hx hb dX3_side_156 (by decide) ?_
    refine lv_goto (tgt := 161) hx hb dX3_side_157 (by decide) ?_
    refine lv_iload_n hx hb dX3_side_161 rfl (lv_at hl 1 rfl) ?_
    refine lv_bipush (v := (6 : Int32)) hx hb dX3_side_162 (by decide) ?_
    refine pi_icmp_ge (tgt := 171) hx hb dX3_side_164 (by decide) (fun h => absurd (by rw [c8]; decide) h) (fun _ => ?_)
    refine lv_iconst (v := (1 : Int32)) hx hb dX3_side_167 (by decide) ?_
    refine lv_goto (tgt := 172) hx hb dX3_side_168 (by decide) ?_
    refine wq_calli (wc := [(g0, .inr (2, [.int th, .ref r1, .ref r2, .long fa, .long fb, .int ft, .long yl, .long yh, .long xl, .long xh]))]) (wr := []) (w2 := [(g0, .inr (2, [.int th, .ref r1, .ref r2, .long fa, .long fb, .int ft, .long ((s_X3_below yl yh xl xh (1 : Int32) (1 : Int32)).2.1), .long ((s_X3_below yl yh xl xh (1 : Int32) (1 : Int32)).2.2.1), .long ((s_X3_below yl yh xl xh (1 : Int32) (1 : Int32)).2.2.2), .long xh]))]) (va_runV (As := [.int (1 : Int32), .int (1 : Int32)]) (rest := []) ⟨hx, hb, hml, hown, hts⟩ (c_X3_below l dC dI g0 r1 r2 H.size th fa fb ft yl yh xl xh (1 : Int32) (1 : Int32)) (cwV 2 hts gX3_side_X3_below rfl rfl rfl ydV_X3_below ⟨Nat.le_of_ble_eq_true rfl, Nat.le_of_ble_eq_true rfl⟩) (wp_V (hK.sub (tys' := []) [] rfl) (hP.sub (ws' := [(g0, .inr (2, [.int th, .ref r1, .ref r2, .long fa, .long fb, .int ft, .long yl, .long yh, .long xl, .long xh]))]) [0] rfl) (hD.sub (ws' := [(g0, .inr (2, [.int th, .ref r1, .ref r2, .long fa, .long fb, .int ft, .long yl, .long yh, .long xl, .long xh]))]) [0] (by decide) rfl)  rfl rfl) rfl rfl hl.1 rfl (lv_room (Nat.le_of_ble_eq_true rfl)) dX3_side_172 ⟨Nat.le_of_ble_eq_true rfl, Nat.le_of_ble_eq_true rfl⟩) hP hD hS hA [0] [] [0] rfl rfl rfl (by decide) rfl rfl (fun H locs hP hD hS => ?_)
    refine lv_istore_n (lv' := [(2, .int ((s_X3_below yl yh xl xh (1 : Int32) (1 : Int32)).1)), (0, .ref g0), (1, .int p0)]) hx hb dX3_side_175 rfl hl (by decide) rfl (fun ls hl => ?_)
    refine lv_aload_n hx hb dX3_side_176 rfl (lv_at hl 1 rfl) ?_
    refine wq_callv (wc := [(g0, .inr (2, [.int th, .ref r1, .ref r2, .long fa, .long fb, .int ft, .long ((s_X3_below yl yh xl xh (1 : Int32) (1 : Int32)).2.1), .long ((s_X3_below yl yh xl xh (1 : Int32) (1 : Int32)).2.2.1), .long ((s_X3_below yl yh xl xh (1 : Int32) (1 : Int32)).2.2.2), .long xh]))]) (wr := []) (w2 := [(g0, .inr (2, [.int th, .ref r1, .ref r2, .long fa, .long fb, .int ft, .long ((s_X3_below yl yh xl xh (1 : Int32) (1 : Int32)).2.2.2), .long xh, .long ((s_X3_below yl yh xl xh (1 : Int32) (1 : Int32)).2.1), .long ((s_X3_below yl yh xl xh (1 : Int32) (1 : Int32)).2.2.1)]))]) (va_runV (As := []) (rest := []) ⟨hx, hb, hml, hown, hts⟩ (c_X3_turn l dC dI g0 r1 r2 H.size th fa fb ft ((s_X3_below yl yh xl xh (1 : Int32) (1 : Int32)).2.1) ((s_X3_below yl yh xl xh (1 : Int32) (1 : Int32)).2.2.1) ((s_X3_below yl yh xl xh (1 : Int32) (1 : Int32)).2.2.2) xh) (cwV 0 hts gX3_side_X3_turn rfl rfl rfl ydV_X3_turn ⟨Nat.le_of_ble_eq_true rfl, Nat.le_of_ble_eq_true rfl⟩) (wp_V (hK.sub (tys' := []) [] rfl) (hP.sub (ws' := [(g0, .inr (2, [.int th, .ref r1, .ref r2, .long fa, .long fb, .int ft, .long ((s_X3_below yl yh xl xh (1 : Int32) (1 : Int32)).2.1), .long ((s_X3_below yl yh xl xh (1 : Int32) (1 : Int32)).2.2.1), .long ((s_X3_below yl yh xl xh (1 : Int32) (1 : Int32)).2.2.2), .long xh]))]) [0] rfl) (hD.sub (ws' := [(g0, .inr (2, [.int th, .ref r1, .ref r2, .long fa, .long fb, .int ft, .long ((s_X3_below yl yh xl xh (1 : Int32) (1 : Int32)).2.1), .long ((s_X3_below yl yh xl xh (1 : Int32) (1 : Int32)).2.2.1), .long ((s_X3_below yl yh xl xh (1 : Int32) (1 : Int32)).2.2.2), .long xh]))]) [0] (by decide) rfl)  rfl rfl) rfl rfl hl.1 rfl (lv_room (Nat.le_of_ble_eq_true rfl)) dX3_side_177 ⟨Nat.le_of_ble_eq_true rfl, Nat.le_of_ble_eq_true rfl⟩) hP hD hS hA [0] [] [0] rfl rfl rfl (by decide) rfl rfl (fun H locs hP hD hS => ?_)
    refine lv_iload_n hx hb dX3_side_180 rfl (lv_at hl 0 rfl) ?_
    have es : (s_X3_side xl xh yl yh p0) = ((s_X3_below yl yh xl xh (1 : Int32) (1 : Int32)).1, ((s_X3_below yl yh xl xh (1 : Int32) (1 : Int32)).2.2.2), xh, ((s_X3_below yl yh xl xh (1 : Int32) (1 : Int32)).2.1), ((s_X3_below yl yh xl xh (1 : Int32) (1 : Int32)).2.2.1)) := by unfold s_X3_side; rw [if_neg c1, if_neg c3, if_neg c6, if_neg c7, if_pos c8]
    exact W.zret (v := (s_X3_below yl yh xl xh (1 : Int32) (1 : Int32)).1) hx hb hr (pz_01 (z_X3_below _ _ _ _ _ _)) (fun t ht hW => by rw [es]; exact ⟨rfl, by rw [ht]; exact hP, hD, hS.F ht⟩) hS.2.2 dX3_side_181
  by_cases c9 : p0 = (5 : Int32)
  · refine lv_tableIn (off := 139) (tgt := 140) hx hb dX3_side_1 (by rw [c9]; decide) (by rw [c9]; decide) (by rw [c9]; decide) (by decide) ?_
    refine lv_aload_n hx hb dX3_side_140 rfl (lv_at hl 0 rfl) ?_
    refine wq_callv (wc := [(g0, .inr (2, [.int th, .ref r1, .ref r2, .long fa, .long fb, .int ft, .long xl, .long xh, .long yl, .long yh]))]) (wr := []) (w2 := [(g0, .inr (2, [.int th, .ref r1, .ref r2, .long fa, .long fb, .int ft, .long yl, .long yh, .long xl, .long xh]))]) (va_runV (As := []) (rest := []) ⟨hx, hb, hml, hown, hts⟩ (c_X3_turn l dC dI g0 r1 r2 s.heap.size th fa fb ft xl xh yl yh) (cwV 0 hts gX3_side_X3_turn rfl rfl rfl ydV_X3_turn ⟨Nat.le_of_ble_eq_true rfl, Nat.le_of_ble_eq_true rfl⟩) (wp_V (hK.sub (tys' := []) [] rfl) (hP.sub (ws' := [(g0, .inr (2, [.int th, .ref r1, .ref r2, .long fa, .long fb, .int ft, .long xl, .long xh, .long yl, .long yh]))]) [0] rfl) (hD.sub (ws' := [(g0, .inr (2, [.int th, .ref r1, .ref r2, .long fa, .long fb, .int ft, .long xl, .long xh, .long yl, .long yh]))]) [0] (by decide) rfl)  rfl rfl) rfl rfl hl.1 rfl (lv_room (Nat.le_of_ble_eq_true rfl)) dX3_side_141 ⟨Nat.le_of_ble_eq_true rfl, Nat.le_of_ble_eq_true rfl⟩) hP hD hS hA [0] [] [0] rfl rfl rfl (by decide) rfl rfl (fun H locs hP hD hS => ?_)
    refine lv_aload_n hx hb dX3_side_144 rfl (lv_at hl 0 rfl) ?_
    refine lv_iload_n hx hb dX3_side_145 rfl (lv_at hl 1 rfl) ?_
    refine lv_iconst (v := (4 : Int32)) hx hb dX3_side_146 (by decide) ?_
    refine lv_icmp_eq (tgt := 156) hx hb dX3_side_147 (by decide) (fun h => absurd h (c8)) (fun _ => ?_)
    refine lv_iload_n hx hb dX3_side_150 rfl (lv_at hl 1 rfl) ?_
    refine lv_bipush (v := (8 : Int32)) hx hb dX3_side_151 (by decide) ?_
    refine lv_icmp_ne (tgt := 160) hx hb dX3_side_153 (by decide) (fun _ => ?_) (fun h => absurd h (by rw [c9]; decide))
    refine lv_iconst (v := (0 : Int32)) hx hb dX3_side_160 (by decide) ?_
    refine lv_iload_n hx hb dX3_side_161 rfl (lv_at hl 1 rfl) ?_
    refine lv_bipush (v := (6 : Int32)) hx hb dX3_side_162 (by decide) ?_
    refine pi_icmp_ge (tgt := 171) hx hb dX3_side_164 (by decide) (fun h => absurd (by rw [c9]; decide) h) (fun _ => ?_)
    refine lv_iconst (v := (1 : Int32)) hx hb dX3_side_167 (by decide) ?_
    refine lv_goto (tgt := 172) hx hb dX3_side_168 (by decide) ?_
    refine wq_calli (wc := [(g0, .inr (2, [.int th, .ref r1, .ref r2, .long fa, .long fb, .int ft, .long yl, .long yh, .long xl, .long xh]))]) (wr := []) (w2 := [(g0, .inr (2, [.int th, .ref r1, .ref r2, .long fa, .long fb, .int ft, .long ((s_X3_below yl yh xl xh (0 : Int32) (1 : Int32)).2.1), .long ((s_X3_below yl yh xl xh (0 : Int32) (1 : Int32)).2.2.1), .long ((s_X3_below yl yh xl xh (0 : Int32) (1 : Int32)).2.2.2), .long xh]))]) (va_runV (As := [.int (0 : Int32), .int (1 : Int32)]) (rest := []) ⟨hx, hb, hml, hown, hts⟩ (c_X3_below l dC dI g0 r1 r2 H.size th fa fb ft yl yh xl xh (0 : Int32) (1 : Int32)) (cwV 2 hts gX3_side_X3_below rfl rfl rfl ydV_X3_below ⟨Nat.le_of_ble_eq_true rfl, Nat.le_of_ble_eq_true rfl⟩) (wp_V (hK.sub (tys' := []) [] rfl) (hP.sub (ws' := [(g0, .inr (2, [.int th, .ref r1, .ref r2, .long fa, .long fb, .int ft, .long yl, .long yh, .long xl, .long xh]))]) [0] rfl) (hD.sub (ws' := [(g0, .inr (2, [.int th, .ref r1, .ref r2, .long fa, .long fb, .int ft, .long yl, .long yh, .long xl, .long xh]))]) [0] (by decide) rfl)  rfl rfl) rfl rfl hl.1 rfl (lv_room (Nat.le_of_ble_eq_true rfl)) dX3_side_172 ⟨Nat.le_of_ble_eq_true rfl, Nat.le_of_ble_eq_true rfl⟩) hP hD hS hA [0] [] [0] rfl rfl rfl (by decide) rfl rfl (fun H locs hP hD hS => ?_)
    refine lv_istore_n (lv' := [(2, .int ((s_X3_below yl yh xl xh (0 : Int32) (1 : Int32)).1)), (0, .ref g0), (1, .int p0)]) hx hb dX3_side_175 rfl hl (by decide) rfl (fun ls hl => ?_)
    refine lv_aload_n hx hb dX3_side_176 rfl (lv_at hl 1 rfl) ?_
    refine wq_callv (wc := [(g0, .inr (2, [.int th, .ref r1, .ref r2, .long fa, .long fb, .int ft, .long ((s_X3_below yl yh xl xh (0 : Int32) (1 : Int32)).2.1), .long ((s_X3_below yl yh xl xh (0 : Int32) (1 : Int32)).2.2.1), .long ((s_X3_below yl yh xl xh (0 : Int32) (1 : Int32)).2.2.2), .long xh]))]) (wr := []) (w2 := [(g0, .inr (2, [.int th, .ref r1, .ref r2, .long fa, .long fb, .int ft, .long ((s_X3_below yl yh xl xh (0 : Int32) (1 : Int32)).2.2.2), .long xh, .long ((s_X3_below yl yh xl xh (0 : Int32) (1 : Int32)).2.1), .long ((s_X3_below yl yh xl xh (0 : Int32) (1 : Int32)).2.2.1)]))]) (va_runV (As := []) (rest := []) ⟨hx, hb, hml, hown, hts⟩ (c_X3_turn l dC dI g0 r1 r2 H.size th fa fb ft ((s_X3_below yl yh xl xh (0 : Int32) (1 : Int32)).2.1) ((s_X3_below yl yh xl xh (0 : Int32) (1 : Int32)).2.2.1) ((s_X3_below yl yh xl xh (0 : Int32) (1 : Int32)).2.2.2) xh) (cwV 0 hts gX3_side_X3_turn rfl rfl rfl ydV_X3_turn ⟨Nat.le_of_ble_eq_true rfl, Nat.le_of_ble_eq_true rfl⟩) (wp_V (hK.sub (tys' := []) [] rfl) (hP.sub (ws' := [(g0, .inr (2, [.int th, .ref r1, .ref r2, .long fa, .long fb, .int ft, .long ((s_X3_below yl yh xl xh (0 : Int32) (1 : Int32)).2.1), .long ((s_X3_below yl yh xl xh (0 : Int32) (1 : Int32)).2.2.1), .long ((s_X3_below yl yh xl xh (0 : Int32) (1 : Int32)).2.2.2), .long xh]))]) [0] rfl) (hD.sub (ws' := [(g0, .inr (2, [.int th, .ref r1, .ref r2, .long fa, .long fb, .int ft, .long ((s_X3_below yl yh xl xh (0 : Int32) (1 : Int32)).2.1), .long ((s_X3_below yl yh xl xh (0 : Int32) (1 : Int32)).2.2.1), .long ((s_X3_below yl yh xl xh (0 : Int32) (1 : Int32)).2.2.2), .long xh]))]) [0] (by decide) rfl)  rfl rfl) rfl rfl hl.1 rfl (lv_room (Nat.le_of_ble_eq_true rfl)) dX3_side_177 ⟨Nat.le_of_ble_eq_true rfl, Nat.le_of_ble_eq_true rfl⟩) hP hD hS hA [0] [] [0] rfl rfl rfl (by decide) rfl rfl (fun H locs hP hD hS => ?_)
    refine lv_iload_n hx hb dX3_side_180 rfl (lv_at hl 0 rfl) ?_
    have es : (s_X3_side xl xh yl yh p0) = ((s_X3_below yl yh xl xh (0 : Int32) (1 : Int32)).1, ((s_X3_below yl yh xl xh (0 : Int32) (1 : Int32)).2.2.2), xh, ((s_X3_below yl yh xl xh (0 : Int32) (1 : Int32)).2.1), ((s_X3_below yl yh xl xh (0 : Int32) (1 : Int32)).2.2.1)) := by unfold s_X3_side; rw [if_neg c1, if_neg c3, if_neg c6, if_neg c7, if_neg c8, if_pos c9]
    exact W.zret (v := (s_X3_below yl yh xl xh (0 : Int32) (1 : Int32)).1) hx hb hr (pz_01 (z_X3_below _ _ _ _ _ _)) (fun t ht hW => by rw [es]; exact ⟨rfl, by rw [ht]; exact hP, hD, hS.F ht⟩) hS.2.2 dX3_side_181
  by_cases c10 : p0 = (6 : Int32)
  · refine lv_tableIn (off := 125) (tgt := 126) hx hb dX3_side_1 (by rw [c10]; decide) (by rw [c10]; decide) (by rw [c10]; decide) (by decide) ?_
    refine lv_aload_n hx hb dX3_side_126 rfl (lv_at hl 0 rfl) ?_
    refine lv_iconst (v := (1 : Int32)) hx hb dX3_side_127 (by decide) ?_
    refine lv_iconst (v := (0 : Int32)) hx hb dX3_side_128 (by decide) ?_
    refine wq_calli (wc := [(g0, .inr (2, [.int th, .ref r1, .ref r2, .long fa, .long fb, .int ft, .long xl, .long xh, .long yl, .long yh]))]) (wr := []) (w2 := [(g0, .inr (2, [.int th, .ref r1, .ref r2, .long fa, .long fb, .int ft, .long ((s_X3_below xl xh yl yh (1 : Int32) (0 : Int32)).2.1), .long ((s_X3_below xl xh yl yh (1 : Int32) (0 : Int32)).2.2.1), .long ((s_X3_below xl xh yl yh (1 : Int32) (0 : Int32)).2.2.2), .long yh]))]) (va_runV (As := [.int (1 : Int32), .int (0 : Int32)]) (rest := []) ⟨hx, hb, hml, hown, hts⟩ (c_X3_below l dC dI g0 r1 r2 s.heap.size th fa fb ft xl xh yl yh (1 : Int32) (0 : Int32)) (cwV 2 hts gX3_side_X3_below rfl rfl rfl ydV_X3_below ⟨Nat.le_of_ble_eq_true rfl, Nat.le_of_ble_eq_true rfl⟩) (wp_V (hK.sub (tys' := []) [] rfl) (hP.sub (ws' := [(g0, .inr (2, [.int th, .ref r1, .ref r2, .long fa, .long fb, .int ft, .long xl, .long xh, .long yl, .long yh]))]) [0] rfl) (hD.sub (ws' := [(g0, .inr (2, [.int th, .ref r1, .ref r2, .long fa, .long fb, .int ft, .long xl, .long xh, .long yl, .long yh]))]) [0] (by decide) rfl)  rfl rfl) rfl rfl hl.1 rfl (lv_room (Nat.le_of_ble_eq_true rfl)) dX3_side_129 ⟨Nat.le_of_ble_eq_true rfl, Nat.le_of_ble_eq_true rfl⟩) hP hD hS hA [0] [] [0] rfl rfl rfl (by decide) rfl rfl (fun H locs hP hD hS => ?_)
    have es : (s_X3_side xl xh yl yh p0) = ((s_X3_below xl xh yl yh (1 : Int32) (0 : Int32)).1, (s_X3_below xl xh yl yh (1 : Int32) (0 : Int32)).2.1, (s_X3_below xl xh yl yh (1 : Int32) (0 : Int32)).2.2.1, (s_X3_below xl xh yl yh (1 : Int32) (0 : Int32)).2.2.2, yh) := by unfold s_X3_side; rw [if_neg c1, if_neg c3, if_neg c6, if_neg c7, if_neg c8, if_neg c9, if_pos c10]
    exact W.zret (v := (s_X3_below xl xh yl yh (1 : Int32) (0 : Int32)).1) hx hb hr (pz_01 (z_X3_below _ _ _ _ _ _)) (fun t ht hW => by rw [es]; exact ⟨rfl, by rw [ht]; exact hP, hD, hS.F ht⟩) hS.2.2 dX3_side_132
  by_cases c11 : p0 = (7 : Int32)
  · refine lv_tableIn (off := 132) (tgt := 133) hx hb dX3_side_1 (by rw [c11]; decide) (by rw [c11]; decide) (by rw [c11]; decide) (by decide) ?_
    refine lv_aload_n hx hb dX3_side_133 rfl (lv_at hl 0 rfl) ?_
    refine lv_iconst (v := (0 : Int32)) hx hb dX3_side_134 (by decide) ?_
    refine lv_iconst (v := (0 : Int32)) hx hb dX3_side_135 (by decide) ?_
    refine wq_calli (wc := [(g0, .inr (2, [.int th, .ref r1, .ref r2, .long fa, .long fb, .int ft, .long xl, .long xh, .long yl, .long yh]))]) (wr := []) (w2 := [(g0, .inr (2, [.int th, .ref r1, .ref r2, .long fa, .long fb, .int ft, .long ((s_X3_below xl xh yl yh (0 : Int32) (0 : Int32)).2.1), .long ((s_X3_below xl xh yl yh (0 : Int32) (0 : Int32)).2.2.1), .long ((s_X3_below xl xh yl yh (0 : Int32) (0 : Int32)).2.2.2), .long yh]))]) (va_runV (As := [.int (0 : Int32), .int (0 : Int32)]) (rest := []) ⟨hx, hb, hml, hown, hts⟩ (c_X3_below l dC dI g0 r1 r2 s.heap.size th fa fb ft xl xh yl yh (0 : Int32) (0 : Int32)) (cwV 2 hts gX3_side_X3_below rfl rfl rfl ydV_X3_below ⟨Nat.le_of_ble_eq_true rfl, Nat.le_of_ble_eq_true rfl⟩) (wp_V (hK.sub (tys' := []) [] rfl) (hP.sub (ws' := [(g0, .inr (2, [.int th, .ref r1, .ref r2, .long fa, .long fb, .int ft, .long xl, .long xh, .long yl, .long yh]))]) [0] rfl) (hD.sub (ws' := [(g0, .inr (2, [.int th, .ref r1, .ref r2, .long fa, .long fb, .int ft, .long xl, .long xh, .long yl, .long yh]))]) [0] (by decide) rfl)  rfl rfl) rfl rfl hl.1 rfl (lv_room (Nat.le_of_ble_eq_true rfl)) dX3_side_136 ⟨Nat.le_of_ble_eq_true rfl, Nat.le_of_ble_eq_true rfl⟩) hP hD hS hA [0] [] [0] rfl rfl rfl (by decide) rfl rfl (fun H locs hP hD hS => ?_)
    have es : (s_X3_side xl xh yl yh p0) = ((s_X3_below xl xh yl yh (0 : Int32) (0 : Int32)).1, (s_X3_below xl xh yl yh (0 : Int32) (0 : Int32)).2.1, (s_X3_below xl xh yl yh (0 : Int32) (0 : Int32)).2.2.1, (s_X3_below xl xh yl yh (0 : Int32) (0 : Int32)).2.2.2, yh) := by unfold s_X3_side; rw [if_neg c1, if_neg c3, if_neg c6, if_neg c7, if_neg c8, if_neg c9, if_neg c10, if_pos c11]
    exact W.zret (v := (s_X3_below xl xh yl yh (0 : Int32) (0 : Int32)).1) hx hb hr (pz_01 (z_X3_below _ _ _ _ _ _)) (fun t ht hW => by rw [es]; exact ⟨rfl, by rw [ht]; exact hP, hD, hS.F ht⟩) hS.2.2 dX3_side_139
  by_cases c12 : p0 = (8 : Int32)
  · refine lv_tableIn (off := 139) (tgt := 140) hx hb dX3_side_1 (by rw [c12]; decide) (by rw [c12]; decide) (by rw [c12]; decide) (by decide) ?_
    refine lv_aload_n hx hb dX3_side_140 rfl (lv_at hl 0 rfl) ?_
    refine wq_callv (wc := [(g0, .inr (2, [.int th, .ref r1, .ref r2, .long fa, .long fb, .int ft, .long xl, .long xh, .long yl, .long yh]))]) (wr := []) (w2 := [(g0, .inr (2, [.int th, .ref r1, .ref r2, .long fa, .long fb, .int ft, .long yl, .long yh, .long xl, .long xh]))]) (va_runV (As := []) (rest := []) ⟨hx, hb, hml, hown, hts⟩ (c_X3_turn l dC dI g0 r1 r2 s.heap.size th fa fb ft xl xh yl yh) (cwV 0 hts gX3_side_X3_turn rfl rfl rfl ydV_X3_turn ⟨Nat.le_of_ble_eq_true rfl, Nat.le_of_ble_eq_true rfl⟩) (wp_V (hK.sub (tys' := []) [] rfl) (hP.sub (ws' := [(g0, .inr (2, [.int th, .ref r1, .ref r2, .long fa, .long fb, .int ft, .long xl, .long xh, .long yl, .long yh]))]) [0] rfl) (hD.sub (ws' := [(g0, .inr (2, [.int th, .ref r1, .ref r2, .long fa, .long fb, .int ft, .long xl, .long xh, .long yl, .long yh]))]) [0] (by decide) rfl)  rfl rfl) rfl rfl hl.1 rfl (lv_room (Nat.le_of_ble_eq_true rfl)) dX3_side_141 ⟨Nat.le_of_ble_eq_true rfl, Nat.le_of_ble_eq_true rfl⟩) hP hD hS hA [0] [] [0] rfl rfl rfl (by decide) rfl rfl (fun H locs hP hD hS => ?_)
    refine lv_aload_n hx hb dX3_side_144 rfl (lv_at hl 0 rfl) ?_
    refine lv_iload_n hx hb dX3_side_145 rfl (lv_at hl 1 rfl) ?_
    refine lv_iconst (v := (4 : Int32)) hx hb dX3_side_146 (by decide) ?_
    refine lv_icmp_eq (tgt := 156) hx hb dX3_side_147 (by decide) (fun h => absurd h (c8)) (fun _ => ?_)
    refine lv_iload_n hx hb dX3_side_150 rfl (lv_at hl 1 rfl) ?_
    refine lv_bipush (v := (8 : Int32)) hx hb dX3_side_151 (by decide) ?_
    refine lv_icmp_ne (tgt := 160) hx hb dX3_side_153 (by decide) (fun h => absurd (c12) h) (fun _ => ?_)
    refine lv_iconst (v := (1 : Int32)) hx hb dX3_side_156 (by decide) ?_
    refine lv_goto (tgt := 161) hx hb dX3_side_157 (by decide) ?_
    refine lv_iload_n hx hb dX3_side_161 rfl (lv_at hl 1 rfl) ?_
    refine lv_bipush (v := (6 : Int32)) hx hb dX3_side_162 (by decide) ?_
    refine pi_icmp_ge (tgt := 171) hx hb dX3_side_164 (by decide) (fun _ => ?_) (fun h => absurd h (by rw [c12]; decide))
    refine lv_iconst (v := (0 : Int32)) hx hb dX3_side_171 (by decide) ?_
    refine wq_calli (wc := [(g0, .inr (2, [.int th, .ref r1, .ref r2, .long fa, .long fb, .int ft, .long yl, .long yh, .long xl, .long xh]))]) (wr := []) (w2 := [(g0, .inr (2, [.int th, .ref r1, .ref r2, .long fa, .long fb, .int ft, .long ((s_X3_below yl yh xl xh (1 : Int32) (0 : Int32)).2.1), .long ((s_X3_below yl yh xl xh (1 : Int32) (0 : Int32)).2.2.1), .long ((s_X3_below yl yh xl xh (1 : Int32) (0 : Int32)).2.2.2), .long xh]))]) (va_runV (As := [.int (1 : Int32), .int (0 : Int32)]) (rest := []) ⟨hx, hb, hml, hown, hts⟩ (c_X3_below l dC dI g0 r1 r2 H.size th fa fb ft yl yh xl xh (1 : Int32) (0 : Int32)) (cwV 2 hts gX3_side_X3_below rfl rfl rfl ydV_X3_below ⟨Nat.le_of_ble_eq_true rfl, Nat.le_of_ble_eq_true rfl⟩) (wp_V (hK.sub (tys' := []) [] rfl) (hP.sub (ws' := [(g0, .inr (2, [.int th, .ref r1, .ref r2, .long fa, .long fb, .int ft, .long yl, .long yh, .long xl, .long xh]))]) [0] rfl) (hD.sub (ws' := [(g0, .inr (2, [.int th, .ref r1, .ref r2, .long fa, .long fb, .int ft, .long yl, .long yh, .long xl, .long xh]))]) [0] (by decide) rfl)  rfl rfl) rfl rfl hl.1 rfl (lv_room (Nat.le_of_ble_eq_true rfl)) dX3_side_172 ⟨Nat.le_of_ble_eq_true rfl, Nat.le_of_ble_eq_true rfl⟩) hP hD hS hA [0] [] [0] rfl rfl rfl (by decide) rfl rfl (fun H locs hP hD hS => ?_)
    refine lv_istore_n (lv' := [(2, .int ((s_X3_below yl yh xl xh (1 : Int32) (0 : Int32)).1)), (0, .ref g0), (1, .int p0)]) hx hb dX3_side_175 rfl hl (by decide) rfl (fun ls hl => ?_)
    refine lv_aload_n hx hb dX3_side_176 rfl (lv_at hl 1 rfl) ?_
    refine wq_callv (wc := [(g0, .inr (2, [.int th, .ref r1, .ref r2, .long fa, .long fb, .int ft, .long ((s_X3_below yl yh xl xh (1 : Int32) (0 : Int32)).2.1), .long ((s_X3_below yl yh xl xh (1 : Int32) (0 : Int32)).2.2.1), .long ((s_X3_below yl yh xl xh (1 : Int32) (0 : Int32)).2.2.2), .long xh]))]) (wr := []) (w2 := [(g0, .inr (2, [.int th, .ref r1, .ref r2, .long fa, .long fb, .int ft, .long ((s_X3_below yl yh xl xh (1 : Int32) (0 : Int32)).2.2.2), .long xh, .long ((s_X3_below yl yh xl xh (1 : Int32) (0 : Int32)).2.1), .long ((s_X3_below yl yh xl xh (1 : Int32) (0 : Int32)).2.2.1)]))]) (va_runV (As := []) (rest := []) ⟨hx, hb, hml, hown, hts⟩ (c_X3_turn l dC dI g0 r1 r2 H.size th fa fb ft ((s_X3_below yl yh xl xh (1 : Int32) (0 : Int32)).2.1) ((s_X3_below yl yh xl xh (1 : Int32) (0 : Int32)).2.2.1) ((s_X3_below yl yh xl xh (1 : Int32) (0 : Int32)).2.2.2) xh) (cwV 0 hts gX3_side_X3_turn rfl rfl rfl ydV_X3_turn ⟨Nat.le_of_ble_eq_true rfl, Nat.le_of_ble_eq_true rfl⟩) (wp_V (hK.sub (tys' := []) [] rfl) (hP.sub (ws' := [(g0, .inr (2, [.int th, .ref r1, .ref r2, .long fa, .long fb, .int ft, .long ((s_X3_below yl yh xl xh (1 : Int32) (0 : Int32)).2.1), .long ((s_X3_below yl yh xl xh (1 : Int32) (0 : Int32)).2.2.1), .long ((s_X3_below yl yh xl xh (1 : Int32) (0 : Int32)).2.2.2), .long xh]))]) [0] rfl) (hD.sub (ws' := [(g0, .inr (2, [.int th, .ref r1, .ref r2, .long fa, .long fb, .int ft, .long ((s_X3_below yl yh xl xh (1 : Int32) (0 : Int32)).2.1), .long ((s_X3_below yl yh xl xh (1 : Int32) (0 : Int32)).2.2.1), .long ((s_X3_below yl yh xl xh (1 : Int32) (0 : Int32)).2.2.2), .long xh]))]) [0] (by decide) rfl)  rfl rfl) rfl rfl hl.1 rfl (lv_room (Nat.le_of_ble_eq_true rfl)) dX3_side_177 ⟨Nat.le_of_ble_eq_true rfl, Nat.le_of_ble_eq_true rfl⟩) hP hD hS hA [0] [] [0] rfl rfl rfl (by decide) rfl rfl (fun H locs hP hD hS => ?_)
    refine lv_iload_n hx hb dX3_side_180 rfl (lv_at hl 0 rfl) ?_
    have es : (s_X3_side xl xh yl yh p0) = ((s_X3_below yl yh xl xh (1 : Int32) (0 : Int32)).1, ((s_X3_below yl yh xl xh (1 : Int32) (0 : Int32)).2.2.2), xh, ((s_X3_below yl yh xl xh (1 : Int32) (0 : Int32)).2.1), ((s_X3_below yl yh xl xh (1 : Int32) (0 : Int32)).2.2.1)) := by unfold s_X3_side; rw [if_neg c1, if_neg c3, if_neg c6, if_neg c7, if_neg c8, if_neg c9, if_neg c10, if_neg c11, if_pos c12]
    exact W.zret (v := (s_X3_below yl yh xl xh (1 : Int32) (0 : Int32)).1) hx hb hr (pz_01 (z_X3_below _ _ _ _ _ _)) (fun t ht hW => by rw [es]; exact ⟨rfl, by rw [ht]; exact hP, hD, hS.F ht⟩) hS.2.2 dX3_side_181
  by_cases c13 : p0 = (9 : Int32)
  · refine lv_tableIn (off := 139) (tgt := 140) hx hb dX3_side_1 (by rw [c13]; decide) (by rw [c13]; decide) (by rw [c13]; decide) (by decide) ?_
    refine lv_aload_n hx hb dX3_side_140 rfl (lv_at hl 0 rfl) ?_
    refine wq_callv (wc := [(g0, .inr (2, [.int th, .ref r1, .ref r2, .long fa, .long fb, .int ft, .long xl, .long xh, .long yl, .long yh]))]) (wr := []) (w2 := [(g0, .inr (2, [.int th, .ref r1, .ref r2, .long fa, .long fb, .int ft, .long yl, .long yh, .long xl, .long xh]))]) (va_runV (As := []) (rest := []) ⟨hx, hb, hml, hown, hts⟩ (c_X3_turn l dC dI g0 r1 r2 s.heap.size th fa fb ft xl xh yl yh) (cwV 0 hts gX3_side_X3_turn rfl rfl rfl ydV_X3_turn ⟨Nat.le_of_ble_eq_true rfl, Nat.le_of_ble_eq_true rfl⟩) (wp_V (hK.sub (tys' := []) [] rfl) (hP.sub (ws' := [(g0, .inr (2, [.int th, .ref r1, .ref r2, .long fa, .long fb, .int ft, .long xl, .long xh, .long yl, .long yh]))]) [0] rfl) (hD.sub (ws' := [(g0, .inr (2, [.int th, .ref r1, .ref r2, .long fa, .long fb, .int ft, .long xl, .long xh, .long yl, .long yh]))]) [0] (by decide) rfl)  rfl rfl) rfl rfl hl.1 rfl (lv_room (Nat.le_of_ble_eq_true rfl)) dX3_side_141 ⟨Nat.le_of_ble_eq_true rfl, Nat.le_of_ble_eq_true rfl⟩) hP hD hS hA [0] [] [0] rfl rfl rfl (by decide) rfl rfl (fun H locs hP hD hS => ?_)
    refine lv_aload_n hx hb dX3_side_144 rfl (lv_at hl 0 rfl) ?_
    refine lv_iload_n hx hb dX3_side_145 rfl (lv_at hl 1 rfl) ?_
    refine lv_iconst (v := (4 : Int32)) hx hb dX3_side_146 (by decide) ?_
    refine lv_icmp_eq (tgt := 156) hx hb dX3_side_147 (by decide) (fun h => absurd h (c8)) (fun _ => ?_)
    refine lv_iload_n hx hb dX3_side_150 rfl (lv_at hl 1 rfl) ?_
    refine lv_bipush (v := (8 : Int32)) hx hb dX3_side_151 (by decide) ?_
    refine lv_icmp_ne (tgt := 160) hx hb dX3_side_153 (by decide) (fun _ => ?_) (fun h => absurd h (c12))
    refine lv_iconst (v := (0 : Int32)) hx hb dX3_side_160 (by decide) ?_
    refine lv_iload_n hx hb dX3_side_161 rfl (lv_at hl 1 rfl) ?_
    refine lv_bipush (v := (6 : Int32)) hx hb dX3_side_162 (by decide) ?_
    refine pi_icmp_ge (tgt := 171) hx hb dX3_side_164 (by decide) (fun _ => ?_) (fun h => absurd h (by rw [c13]; decide))
    refine lv_iconst (v := (0 : Int32)) hx hb dX3_side_171 (by decide) ?_
    refine wq_calli (wc := [(g0, .inr (2, [.int th, .ref r1, .ref r2, .long fa, .long fb, .int ft, .long yl, .long yh, .long xl, .long xh]))]) (wr := []) (w2 := [(g0, .inr (2, [.int th, .ref r1, .ref r2, .long fa, .long fb, .int ft, .long ((s_X3_below yl yh xl xh (0 : Int32) (0 : Int32)).2.1), .long ((s_X3_below yl yh xl xh (0 : Int32) (0 : Int32)).2.2.1), .long ((s_X3_below yl yh xl xh (0 : Int32) (0 : Int32)).2.2.2), .long xh]))]) (va_runV (As := [.int (0 : Int32), .int (0 : Int32)]) (rest := []) ⟨hx, hb, hml, hown, hts⟩ (c_X3_below l dC dI g0 r1 r2 H.size th fa fb ft yl yh xl xh (0 : Int32) (0 : Int32)) (cwV 2 hts gX3_side_X3_below rfl rfl rfl ydV_X3_below ⟨Nat.le_of_ble_eq_true rfl, Nat.le_of_ble_eq_true rfl⟩) (wp_V (hK.sub (tys' := []) [] rfl) (hP.sub (ws' := [(g0, .inr (2, [.int th, .ref r1, .ref r2, .long fa, .long fb, .int ft, .long yl, .long yh, .long xl, .long xh]))]) [0] rfl) (hD.sub (ws' := [(g0, .inr (2, [.int th, .ref r1, .ref r2, .long fa, .long fb, .int ft, .long yl, .long yh, .long xl, .long xh]))]) [0] (by decide) rfl)  rfl rfl) rfl rfl hl.1 rfl (lv_room (Nat.le_of_ble_eq_true rfl)) dX3_side_172 ⟨Nat.le_of_ble_eq_true rfl, Nat.le_of_ble_eq_true rfl⟩) hP hD hS hA [0] [] [0] rfl rfl rfl (by decide) rfl rfl (fun H locs hP hD hS => ?_)
    refine lv_istore_n (lv' := [(2, .int ((s_X3_below yl yh xl xh (0 : Int32) (0 : Int32)).1)), (0, .ref g0), (1, .int p0)]) hx hb dX3_side_175 rfl hl (by decide) rfl (fun ls hl => ?_)
    refine lv_aload_n hx hb dX3_side_176 rfl (lv_at hl 1 rfl) ?_
    refine wq_callv (wc := [(g0, .inr (2, [.int th, .ref r1, .ref r2, .long fa, .long fb, .int ft, .long ((s_X3_below yl yh xl xh (0 : Int32) (0 : Int32)).2.1), .long ((s_X3_below yl yh xl xh (0 : Int32) (0 : Int32)).2.2.1), .long ((s_X3_below yl yh xl xh (0 : Int32) (0 : Int32)).2.2.2), .long xh]))]) (wr := []) (w2 := [(g0, .inr (2, [.int th, .ref r1, .ref r2, .long fa, .long fb, .int ft, .long ((s_X3_below yl yh xl xh (0 : Int32) (0 : Int32)).2.2.2), .long xh, .long ((s_X3_below yl yh xl xh (0 : Int32) (0 : Int32)).2.1), .long ((s_X3_below yl yh xl xh (0 : Int32) (0 : Int32)).2.2.1)]))]) (va_runV (As := []) (rest := []) ⟨hx, hb, hml, hown, hts⟩ (c_X3_turn l dC dI g0 r1 r2 H.size th fa fb ft ((s_X3_below yl yh xl xh (0 : Int32) (0 : Int32)).2.1) ((s_X3_below yl yh xl xh (0 : Int32) (0 : Int32)).2.2.1) ((s_X3_below yl yh xl xh (0 : Int32) (0 : Int32)).2.2.2) xh) (cwV 0 hts gX3_side_X3_turn rfl rfl rfl ydV_X3_turn ⟨Nat.le_of_ble_eq_true rfl, Nat.le_of_ble_eq_true rfl⟩) (wp_V (hK.sub (tys' := []) [] rfl) (hP.sub (ws' := [(g0, .inr (2, [.int th, .ref r1, .ref r2, .long fa, .long fb, .int ft, .long ((s_X3_below yl yh xl xh (0 : Int32) (0 : Int32)).2.1), .long ((s_X3_below yl yh xl xh (0 : Int32) (0 : Int32)).2.2.1), .long ((s_X3_below yl yh xl xh (0 : Int32) (0 : Int32)).2.2.2), .long xh]))]) [0] rfl) (hD.sub (ws' := [(g0, .inr (2, [.int th, .ref r1, .ref r2, .long fa, .long fb, .int ft, .long ((s_X3_below yl yh xl xh (0 : Int32) (0 : Int32)).2.1), .long ((s_X3_below yl yh xl xh (0 : Int32) (0 : Int32)).2.2.1), .long ((s_X3_below yl yh xl xh (0 : Int32) (0 : Int32)).2.2.2), .long xh]))]) [0] (by decide) rfl)  rfl rfl) rfl rfl hl.1 rfl (lv_room (Nat.le_of_ble_eq_true rfl)) dX3_side_177 ⟨Nat.le_of_ble_eq_true rfl, Nat.le_of_ble_eq_true rfl⟩) hP hD hS hA [0] [] [0] rfl rfl rfl (by decide) rfl rfl (fun H locs hP hD hS => ?_)
    refine lv_iload_n hx hb dX3_side_180 rfl (lv_at hl 0 rfl) ?_
    have es : (s_X3_side xl xh yl yh p0) = ((s_X3_below yl yh xl xh (0 : Int32) (0 : Int32)).1, ((s_X3_below yl yh xl xh (0 : Int32) (0 : Int32)).2.2.2), xh, ((s_X3_below yl yh xl xh (0 : Int32) (0 : Int32)).2.1), ((s_X3_below yl yh xl xh (0 : Int32) (0 : Int32)).2.2.1)) := by unfold s_X3_side; rw [if_neg c1, if_neg c3, if_neg c6, if_neg c7, if_neg c8, if_neg c9, if_neg c10, if_neg c11, if_neg c12, if_pos c13]
    exact W.zret (v := (s_X3_below yl yh xl xh (0 : Int32) (0 : Int32)).1) hx hb hr (pz_01 (z_X3_below _ _ _ _ _ _)) (fun t ht hW => by rw [es]; exact ⟨rfl, by rw [ht]; exact hP, hD, hS.F ht⟩) hS.2.2 dX3_side_181
  refine lv_tableOut (tgt := 182) hx hb dX3_side_1 (by have h0 := lv_neT c1 (a := 0) rfl; have h1 := lv_neT c3 (a := 1) rfl; have h2 := lv_neT c6 (a := 2) rfl; have h3 := lv_neT c7 (a := 3) rfl; have h4 := lv_neT c8 (a := 4) rfl; have h5 := lv_neT c9 (a := 5) rfl; have h6 := lv_neT c10 (a := 6) rfl; have h7 := lv_neT c11 (a := 7) rfl; have h8 := lv_neT c12 (a := 8) rfl; have h9 := lv_neT c13 (a := 9) rfl; omega) (by decide) ?_
  refine lv_aload_n hx hb dX3_side_182 rfl (lv_at hl 0 rfl) ?_
  refine va_get (D := (dC, dI)) (ci := 2) (v := .long xl) (C := RX3) (T := TX3) (N := 10) hx hb hts hi_RX3 hown hK hP 0 rfl rfl 6 (by decide) hw0 (fun _ h9 => h9) rfl dX3_side_183 ?_
  refine lv_aload_n hx hb dX3_side_186 rfl (lv_at hl 0 rfl) ?_
  refine va_get (D := (dC, dI)) (ci := 2) (v := .long xh) (C := RX3) (T := TX3) (N := 10) hx hb hts hi_RX3 hown hK hP 0 rfl rfl 7 (by decide) hw7 (fun _ h9 => h9) rfl dX3_side_187 ?_
  refine pl_gt (tgt := 210) hx hb dX3_side_190 dX3_side_191 (by decide) (fun c14 => ?_) (fun c14 => ?_)
  · refine lv_iconst (v := (0 : Int32)) hx hb dX3_side_210 (by decide) ?_
    have es : (s_X3_side xl xh yl yh p0) = ((0 : Int32), xl, xh, yl, yh) := by unfold s_X3_side; rw [if_neg c1, if_neg c3, if_neg c6, if_neg c7, if_neg c8, if_neg c9, if_neg c10, if_neg c11, if_neg c12, if_neg c13, if_pos c14]
    exact W.zret (v := (0 : Int32)) hx hb hr (rfl) (fun t ht hW => by rw [es]; exact ⟨rfl, by rw [ht]; exact hP, hD, hS.F ht⟩) hS.2.2 dX3_side_211
  · refine lv_aload_n hx hb dX3_side_194 rfl (lv_at hl 0 rfl) ?_
    refine va_get (D := (dC, dI)) (ci := 2) (v := .long yl) (C := RX3) (T := TX3) (N := 10) hx hb hts hi_RX3 hown hK hP 0 rfl rfl 8 (by decide) hw2 (fun _ h9 => h9) rfl dX3_side_195 ?_
    refine lv_aload_n hx hb dX3_side_198 rfl (lv_at hl 0 rfl) ?_
    refine va_get (D := (dC, dI)) (ci := 2) (v := .long yh) (C := RX3) (T := TX3) (N := 10) hx hb hts hi_RX3 hown hK hP 0 rfl rfl 9 (by decide) hw8 (fun _ h9 => h9) rfl dX3_side_199 ?_
    refine pl_gt (tgt := 210) hx hb dX3_side_202 dX3_side_203 (by decide) (fun c15 => ?_) (fun c15 => ?_)
    · refine lv_iconst (v := (0 : Int32)) hx hb dX3_side_210 (by decide) ?_
      have es : (s_X3_side xl xh yl yh p0) = ((0 : Int32), xl, xh, yl, yh) := by unfold s_X3_side; rw [if_neg c1, if_neg c3, if_neg c6, if_neg c7, if_neg c8, if_neg c9, if_neg c10, if_neg c11, if_neg c12, if_neg c13, if_neg c14, if_pos c15]
      exact W.zret (v := (0 : Int32)) hx hb hr (rfl) (fun t ht hW => by rw [es]; exact ⟨rfl, by rw [ht]; exact hP, hD, hS.F ht⟩) hS.2.2 dX3_side_211
    · refine lv_iconst (v := (1 : Int32)) hx hb dX3_side_206 (by decide) ?_
      refine lv_goto (tgt := 211) hx hb dX3_side_207 (by decide) ?_
      have es : (s_X3_side xl xh yl yh p0) = ((1 : Int32), xl, xh, yl, yh) := by unfold s_X3_side; rw [if_neg c1, if_neg c3, if_neg c6, if_neg c7, if_neg c8, if_neg c9, if_neg c10, if_neg c11, if_neg c12, if_neg c13, if_neg c14, if_neg c15]
      exact W.zret (v := (1 : Int32)) hx hb hr (rfl) (fun t ht hW => by rw [es]; exact ⟨rfl, by rw [ht]; exact hP, hD, hS.F ht⟩) hS.2.2 dX3_side_211
