def s_X2_needRange (p0 : Int32) : Int32 :=
  if p0 < (0 : Int32) then (1 : Int32)
  else if p0 < (16 : Int32) then (0 : Int32)
  else (1 : Int32)
set_option maxHeartbeats 4000000 in
set_option maxRecDepth 100000 in
theorem c_X2_needRange (l : Launch) (S0 : Nat) (hst : l.stackTraces = false) (p0 : Int32) : vx_Met l yX2_needRange wsX2_needRange ({ frames := 6, cells := 1, slots := 6, locals := 82 }) (tp S0 [.int p0]) (tq (s_X2_needRange p0) none) (xq (s_X2_needRange p0) n_IAE) 1 6 (fun _ => False) := by
  refine vx_ofW (cc := cX2_needRange) (maxL := 1) (ret := none) (by decide) rfl ?_
  intro p e s m args below meth c s₁ B hml htab hv
  obtain ⟨rfl, ham⟩ := hv
  have hx := B.exec
  have hb := B.bytes
  have hr := B.returns
  have hts := atoms_spec (ws := wsX2_needRange) B.pre
  have hown : s.vm.findClass RX2 = some m.cls := findClass_of_methodNamed B.named
  have hlocks := B.notSynchronized
  have hl := lv_entry ([.int p0]) (n := 1) (Nat.le_of_ble_eq_true rfl)
  rw [lg_entry_eq]
  generalize (lg_sl ([.int p0]) ++ List.replicate (1 - (lg_sl ([.int p0])).length) Slot.unset).toArray = ls at hl ⊢
  have hl : lv_has ls 1 [(0, .int p0)] := hl
  have hw0 := hts (.classLink RX2 27 "java/lang/IllegalArgumentException") (List.mem_of_getElem? (i := 1) rfl)
  have hw1 := hts (.initialized "java/lang/IllegalArgumentException") (List.mem_of_getElem? (i := 2) rfl)
  refine lv_iload_n hx hb dX2_needRange_0 rfl (lv_at hl 0 rfl) ?_
  refine lv_if_lt (tgt := 10) hx hb dX2_needRange_1 (by decide) (fun c1 => ?_) (fun c1 => ?_)
  · obtain ⟨sa, hsa⟩ := ham.2.2.2.1.1
    have es : (s_X2_needRange p0) = (1 : Int32) := by unfold s_X2_needRange; rw [if_pos c1]
    exact vx_throwS (A := fun q => S0 ≤ q) (names := n_chain) hx hb hst hown (by decide) (by decide +kernel) hw0 hw1 hsa (hat_I ham (fun w h => hts w (List.mem_cons_of_mem _ (List.mem_append_right _ h)))) good_I ham.1.1 ham.1.2 va_S.rf (hl.1.trans hml.symm) dX2_needRange_10 dX2_needRange_13 dX2_needRange_14 dX2_needRange_16 dX2_needRange_19 (fun x hx => (htab x hx).elim) (Nat.le_of_ble_eq_true rfl) (Nat.le_of_ble_eq_true rfl) (Nat.le_of_ble_eq_true rfl) (Nat.le_of_ble_eq_true rfl) hlocks (fun t _ h1 h2 => by rw [es]; exact ⟨rfl, rfl, h1, h2⟩) (fun z h => nomatch h) (Nat.le_of_ble_eq_true rfl) (Nat.le_of_ble_eq_true rfl)
  · refine lv_iload_n hx hb dX2_needRange_4 rfl (lv_at hl 0 rfl) ?_
    refine lv_bipush (v := (16 : Int32)) hx hb dX2_needRange_5 (by decide) ?_
    refine lv_icmp_lt (tgt := 20) hx hb dX2_needRange_7 (by decide) (fun c2 => ?_) (fun c2 => ?_)
    · refine vx_ret ?_
      refine W.widen (k := 1) (n := 6) (by omega) (by omega) ?_
      have es : (s_X2_needRange p0) = (0 : Int32) := by unfold s_X2_needRange; rw [if_neg c1, if_pos c2]
      exact W.vret hx hb hr (fun t ht hW => by rw [es]; exact ⟨rfl, ht, rfl⟩) (fun q h => nomatch h) dX2_needRange_20
    · obtain ⟨sa, hsa⟩ := ham.2.2.2.1.1
      have es : (s_X2_needRange p0) = (1 : Int32) := by unfold s_X2_needRange; rw [if_neg c1, if_neg c2]
      exact vx_throwS (A := fun q => S0 ≤ q) (names := n_chain) hx hb hst hown (by decide) (by decide +kernel) hw0 hw1 hsa (hat_I ham (fun w h => hts w (List.mem_cons_of_mem _ (List.mem_append_right _ h)))) good_I ham.1.1 ham.1.2 va_S.rf (hl.1.trans hml.symm) dX2_needRange_10 dX2_needRange_13 dX2_needRange_14 dX2_needRange_16 dX2_needRange_19 (fun x hx => (htab x hx).elim) (Nat.le_of_ble_eq_true rfl) (Nat.le_of_ble_eq_true rfl) (Nat.le_of_ble_eq_true rfl) (Nat.le_of_ble_eq_true rfl) hlocks (fun t _ h1 h2 => by rw [es]; exact ⟨rfl, rfl, h1, h2⟩) (fun z h => nomatch h) (Nat.le_of_ble_eq_true rfl) (Nat.le_of_ble_eq_true rfl)

def s_X2_needInstruction (p0 : Int32) : Int32 :=
  if p0 < (0 : Int32) then (1 : Int32)
  else if p0 < (13 : Int32) then (0 : Int32)
  else (1 : Int32)
set_option maxHeartbeats 4000000 in
set_option maxRecDepth 100000 in
theorem c_X2_needInstruction (l : Launch) (S0 : Nat) (hst : l.stackTraces = false) (p0 : Int32) : vx_Met l yX2_needInstruction wsX2_needInstruction ({ frames := 6, cells := 1, slots := 6, locals := 82 }) (tp S0 [.int p0]) (tq (s_X2_needInstruction p0) none) (xq (s_X2_needInstruction p0) n_IAE) 1 6 (fun _ => False) := by
  refine vx_ofW (cc := cX2_needInstruction) (maxL := 1) (ret := none) (by decide) rfl ?_
  intro p e s m args below meth c s₁ B hml htab hv
  obtain ⟨rfl, ham⟩ := hv
  have hx := B.exec
  have hb := B.bytes
  have hr := B.returns
  have hts := atoms_spec (ws := wsX2_needInstruction) B.pre
  have hown : s.vm.findClass RX2 = some m.cls := findClass_of_methodNamed B.named
  have hlocks := B.notSynchronized
  have hl := lv_entry ([.int p0]) (n := 1) (Nat.le_of_ble_eq_true rfl)
  rw [lg_entry_eq]
  generalize (lg_sl ([.int p0]) ++ List.replicate (1 - (lg_sl ([.int p0])).length) Slot.unset).toArray = ls at hl ⊢
  have hl : lv_has ls 1 [(0, .int p0)] := hl
  have hw0 := hts (.classLink RX2 27 "java/lang/IllegalArgumentException") (List.mem_of_getElem? (i := 1) rfl)
  have hw1 := hts (.initialized "java/lang/IllegalArgumentException") (List.mem_of_getElem? (i := 2) rfl)
  refine lv_iload_n hx hb dX2_needInstruction_0 rfl (lv_at hl 0 rfl) ?_
  refine lv_if_lt (tgt := 10) hx hb dX2_needInstruction_1 (by decide) (fun c1 => ?_) (fun c1 => ?_)
  · obtain ⟨sa, hsa⟩ := ham.2.2.2.1.2.2.1
    have es : (s_X2_needInstruction p0) = (1 : Int32) := by unfold s_X2_needInstruction; rw [if_pos c1]
    exact vx_throwS (A := fun q => S0 ≤ q) (names := n_chain) hx hb hst hown (by decide) (by decide +kernel) hw0 hw1 hsa (hat_I ham (fun w h => hts w (List.mem_cons_of_mem _ (List.mem_append_right _ h)))) good_I ham.1.1 ham.1.2 va_S.rf (hl.1.trans hml.symm) dX2_needInstruction_10 dX2_needInstruction_13 dX2_needInstruction_14 dX2_needInstruction_16 dX2_needInstruction_19 (fun x hx => (htab x hx).elim) (Nat.le_of_ble_eq_true rfl) (Nat.le_of_ble_eq_true rfl) (Nat.le_of_ble_eq_true rfl) (Nat.le_of_ble_eq_true rfl) hlocks (fun t _ h1 h2 => by rw [es]; exact ⟨rfl, rfl, h1, h2⟩) (fun z h => nomatch h) (Nat.le_of_ble_eq_true rfl) (Nat.le_of_ble_eq_true rfl)
  · refine lv_iload_n hx hb dX2_needInstruction_4 rfl (lv_at hl 0 rfl) ?_
    refine lv_bipush (v := (13 : Int32)) hx hb dX2_needInstruction_5 (by decide) ?_
    refine lv_icmp_lt (tgt := 20) hx hb dX2_needInstruction_7 (by decide) (fun c2 => ?_) (fun c2 => ?_)
    · refine vx_ret ?_
      refine W.widen (k := 1) (n := 6) (by omega) (by omega) ?_
      have es : (s_X2_needInstruction p0) = (0 : Int32) := by unfold s_X2_needInstruction; rw [if_neg c1, if_pos c2]
      exact W.vret hx hb hr (fun t ht hW => by rw [es]; exact ⟨rfl, ht, rfl⟩) (fun q h => nomatch h) dX2_needInstruction_20
    · obtain ⟨sa, hsa⟩ := ham.2.2.2.1.2.2.1
      have es : (s_X2_needInstruction p0) = (1 : Int32) := by unfold s_X2_needInstruction; rw [if_neg c1, if_neg c2]
      exact vx_throwS (A := fun q => S0 ≤ q) (names := n_chain) hx hb hst hown (by decide) (by decide +kernel) hw0 hw1 hsa (hat_I ham (fun w h => hts w (List.mem_cons_of_mem _ (List.mem_append_right _ h)))) good_I ham.1.1 ham.1.2 va_S.rf (hl.1.trans hml.symm) dX2_needInstruction_10 dX2_needInstruction_13 dX2_needInstruction_14 dX2_needInstruction_16 dX2_needInstruction_19 (fun x hx => (htab x hx).elim) (Nat.le_of_ble_eq_true rfl) (Nat.le_of_ble_eq_true rfl) (Nat.le_of_ble_eq_true rfl) (Nat.le_of_ble_eq_true rfl) hlocks (fun t _ h1 h2 => by rw [es]; exact ⟨rfl, rfl, h1, h2⟩) (fun z h => nomatch h) (Nat.le_of_ble_eq_true rfl) (Nat.le_of_ble_eq_true rfl)

def s_X2_needCondition (p0 : Int32) : Int32 :=
  if p0 < (0 : Int32) then (1 : Int32)
  else if p0 < (11 : Int32) then (0 : Int32)
  else (1 : Int32)
set_option maxHeartbeats 4000000 in
set_option maxRecDepth 100000 in
theorem c_X2_needCondition (l : Launch) (S0 : Nat) (hst : l.stackTraces = false) (p0 : Int32) : vx_Met l yX2_needCondition wsX2_needCondition ({ frames := 6, cells := 1, slots := 6, locals := 82 }) (tp S0 [.int p0]) (tq (s_X2_needCondition p0) none) (xq (s_X2_needCondition p0) n_IAE) 1 6 (fun _ => False) := by
  refine vx_ofW (cc := cX2_needCondition) (maxL := 1) (ret := none) (by decide) rfl ?_
  intro p e s m args below meth c s₁ B hml htab hv
  obtain ⟨rfl, ham⟩ := hv
  have hx := B.exec
  have hb := B.bytes
  have hr := B.returns
  have hts := atoms_spec (ws := wsX2_needCondition) B.pre
  have hown : s.vm.findClass RX2 = some m.cls := findClass_of_methodNamed B.named
  have hlocks := B.notSynchronized
  have hl := lv_entry ([.int p0]) (n := 1) (Nat.le_of_ble_eq_true rfl)
  rw [lg_entry_eq]
  generalize (lg_sl ([.int p0]) ++ List.replicate (1 - (lg_sl ([.int p0])).length) Slot.unset).toArray = ls at hl ⊢
  have hl : lv_has ls 1 [(0, .int p0)] := hl
  have hw0 := hts (.classLink RX2 27 "java/lang/IllegalArgumentException") (List.mem_of_getElem? (i := 1) rfl)
  have hw1 := hts (.initialized "java/lang/IllegalArgumentException") (List.mem_of_getElem? (i := 2) rfl)
  refine lv_iload_n hx hb dX2_needCondition_0 rfl (lv_at hl 0 rfl) ?_
  refine lv_if_lt (tgt := 10) hx hb dX2_needCondition_1 (by decide) (fun c1 => ?_) (fun c1 => ?_)
  · obtain ⟨sa, hsa⟩ := ham.2.2.2.1.2.2.2.1
    have es : (s_X2_needCondition p0) = (1 : Int32) := by unfold s_X2_needCondition; rw [if_pos c1]
    exact vx_throwS (A := fun q => S0 ≤ q) (names := n_chain) hx hb hst hown (by decide) (by decide +kernel) hw0 hw1 hsa (hat_I ham (fun w h => hts w (List.mem_cons_of_mem _ (List.mem_append_right _ h)))) good_I ham.1.1 ham.1.2 va_S.rf (hl.1.trans hml.symm) dX2_needCondition_10 dX2_needCondition_13 dX2_needCondition_14 dX2_needCondition_16 dX2_needCondition_19 (fun x hx => (htab x hx).elim) (Nat.le_of_ble_eq_true rfl) (Nat.le_of_ble_eq_true rfl) (Nat.le_of_ble_eq_true rfl) (Nat.le_of_ble_eq_true rfl) hlocks (fun t _ h1 h2 => by rw [es]; exact ⟨rfl, rfl, h1, h2⟩) (fun z h => nomatch h) (Nat.le_of_ble_eq_true rfl) (Nat.le_of_ble_eq_true rfl)
  · refine lv_iload_n hx hb dX2_needCondition_4 rfl (lv_at hl 0 rfl) ?_
    refine lv_bipush (v := (11 : Int32)) hx hb dX2_needCondition_5 (by decide) ?_
    refine lv_icmp_lt (tgt := 20) hx hb dX2_needCondition_7 (by decide) (fun c2 => ?_) (fun c2 => ?_)
    · refine vx_ret ?_
      refine W.widen (k := 1) (n := 6) (by omega) (by omega) ?_
      have es : (s_X2_needCondition p0) = (0 : Int32) := by unfold s_X2_needCondition; rw [if_neg c1, if_pos c2]
      exact W.vret hx hb hr (fun t ht hW => by rw [es]; exact ⟨rfl, ht, rfl⟩) (fun q h => nomatch h) dX2_needCondition_20
    · obtain ⟨sa, hsa⟩ := ham.2.2.2.1.2.2.2.1
      have es : (s_X2_needCondition p0) = (1 : Int32) := by unfold s_X2_needCondition; rw [if_neg c1, if_neg c2]
      exact vx_throwS (A := fun q => S0 ≤ q) (names := n_chain) hx hb hst hown (by decide) (by decide +kernel) hw0 hw1 hsa (hat_I ham (fun w h => hts w (List.mem_cons_of_mem _ (List.mem_append_right _ h)))) good_I ham.1.1 ham.1.2 va_S.rf (hl.1.trans hml.symm) dX2_needCondition_10 dX2_needCondition_13 dX2_needCondition_14 dX2_needCondition_16 dX2_needCondition_19 (fun x hx => (htab x hx).elim) (Nat.le_of_ble_eq_true rfl) (Nat.le_of_ble_eq_true rfl) (Nat.le_of_ble_eq_true rfl) (Nat.le_of_ble_eq_true rfl) hlocks (fun t _ h1 h2 => by rw [es]; exact ⟨rfl, rfl, h1, h2⟩) (fun z h => nomatch h) (Nat.le_of_ble_eq_true rfl) (Nat.le_of_ble_eq_true rfl)

def s_J9_addExact (p0 : Int64) (p1 : Int64) : Int32 × Int64 :=
  if (p0 ^^^ (p0 + p1)) &&& (p1 ^^^ (p0 + p1)) < (0 : Int64) then ((1 : Int32), (0 : Int64))
  else ((0 : Int32), p0 + p1)
set_option maxHeartbeats 4000000 in
set_option maxRecDepth 100000 in
theorem c_J9_addExact (l : Launch) (S0 : Nat) (hst : l.stackTraces = false) (p0 : Int64) (p1 : Int64) : vx_Met l yJ9_addExact_f86c9 (wsJ9_addExact_f86c9 ++ wz_A) ({ frames := 6, cells := 1, slots := 6, locals := 82 }) (tp S0 [.long p0, .long p1]) (tq ((s_J9_addExact p0 p1).1) (some (.long ((s_J9_addExact p0 p1).2)))) (xq ((s_J9_addExact p0 p1).1) n_AE) 1 6 (fun _ => False) := by
  refine zx_ofW (cc := cJ9_addExact_f86c9) (maxL := 6) (ret := (some .long)) (by decide +kernel) rfl ?_
  intro p e s m args below meth c s₁ B hml htab hv
  obtain ⟨rfl, ham⟩ := hv
  have hx := B.exec
  have hb := B.bytes
  have hr := B.returns
  have hts := atoms_spec (ws := (wsJ9_addExact_f86c9 ++ wz_A)) B.pre
  have hown : s.vm.findClass RJ9 = some m.cls := findClass_of_methodNamed B.named
  have hlocks := B.notSynchronized
  have hl := lv_entry ([.long p0, .long p1]) (n := 6) (Nat.le_of_ble_eq_true rfl)
  rw [lg_entry_eq]
  generalize (lg_sl ([.long p0, .long p1]) ++ List.replicate (6 - (lg_sl ([.long p0, .long p1])).length) Slot.unset).toArray = ls at hl ⊢
  have hl : lv_has ls 6 [(0, .long p0), (2, .long p1)] := hl
  refine lv_lload_n hx hb dJ9_addExact_f86c9_0 rfl (lv_at hl 0 rfl) ?_
  refine lv_lload_n hx hb dJ9_addExact_f86c9_1 rfl (lv_at hl 1 rfl) ?_
  refine lv_ladd hx hb dJ9_addExact_f86c9_2 ?_
  refine lv_lstore (lv' := [(4, .long (p0 + p1)), (0, .long p0), (2, .long p1)]) hx hb dJ9_addExact_f86c9_3 hl (by decide) rfl (fun ls hl => ?_)
  refine lv_lload_n hx hb dJ9_addExact_f86c9_5 rfl (lv_at hl 1 rfl) ?_
  refine lv_lload hx hb dJ9_addExact_f86c9_6 (lv_at hl 0 rfl) ?_
  refine lv_lxor hx hb dJ9_addExact_f86c9_8 ?_
  refine lv_lload_n hx hb dJ9_addExact_f86c9_9 rfl (lv_at hl 2 rfl) ?_
  refine lv_lload hx hb dJ9_addExact_f86c9_10 (lv_at hl 0 rfl) ?_
  refine lv_lxor hx hb dJ9_addExact_f86c9_12 ?_
  refine lv_land hx hb dJ9_addExact_f86c9_13 ?_
  refine lv_lconst (v := (0 : Int64)) hx hb dJ9_addExact_f86c9_14 (by decide) ?_
  refine pl_ge (tgt := 29) hx hb dJ9_addExact_f86c9_15 dJ9_addExact_f86c9_16 (by decide) (fun c1 => ?_) (fun c1 => ?_)
  · refine lv_lload hx hb dJ9_addExact_f86c9_29 (lv_at hl 0 rfl) ?_
    refine vx_ret ?_
    refine W.widen (k := 1) (n := 6) (by omega) (by omega) ?_
    have es : (s_J9_addExact p0 p1) = ((0 : Int32), p0 + p1) := by unfold s_J9_addExact; rw [if_neg c1]
    exact W.lret (v := p0 + p1) hx hb hr (fun t ht hW => by rw [es]; exact ⟨rfl, ht, rfl⟩) (fun q h => nomatch h) dJ9_addExact_f86c9_31
  · obtain ⟨sa, hsa⟩ := ham.2.2.2.1.2.2.2.2.2
    have es : (s_J9_addExact p0 p1) = ((1 : Int32), (0 : Int64)) := by unfold s_J9_addExact; rw [if_pos c1]
    exact vx_throwS (A := fun q => S0 ≤ q) (names := n_chain) hx hb hst hown (by decide) (by decide +kernel) (hts _ (List.mem_append_right _ (List.mem_of_getElem? (i := 0) rfl))) (hts _ (List.mem_append_right _ (List.mem_of_getElem? (i := 1) rfl))) hsa (hat_A ham (fun w h => hts w (List.mem_append_right _ (List.mem_append_right _ h)))) good_A ham.1.1 ham.1.2 va_S.rf (hl.1.trans hml.symm) dJ9_addExact_f86c9_19 dJ9_addExact_f86c9_22 dJ9_addExact_f86c9_23 dJ9_addExact_f86c9_25 dJ9_addExact_f86c9_28 (fun x hx => (htab x hx).elim) (Nat.le_of_ble_eq_true rfl) (Nat.le_of_ble_eq_true rfl) (Nat.le_of_ble_eq_true rfl) (Nat.le_of_ble_eq_true rfl) hlocks (fun t _ h1 h2 => by rw [es]; exact ⟨rfl, rfl, h1, h2⟩) (fun z h => nomatch h) (Nat.le_of_ble_eq_true rfl) (Nat.le_of_ble_eq_true rfl)

def s_J9_subtractExact (p0 : Int64) (p1 : Int64) : Int32 × Int64 :=
  if (p0 ^^^ p1) &&& (p0 ^^^ (p0 - p1)) < (0 : Int64) then ((1 : Int32), (0 : Int64))
  else ((0 : Int32), p0 - p1)
set_option maxHeartbeats 4000000 in
set_option maxRecDepth 100000 in
theorem c_J9_subtractExact (l : Launch) (S0 : Nat) (hst : l.stackTraces = false) (p0 : Int64) (p1 : Int64) : vx_Met l yJ9_subtractExact_f86c9 (wsJ9_subtractExact_f86c9 ++ wz_A) ({ frames := 6, cells := 1, slots := 6, locals := 82 }) (tp S0 [.long p0, .long p1]) (tq ((s_J9_subtractExact p0 p1).1) (some (.long ((s_J9_subtractExact p0 p1).2)))) (xq ((s_J9_subtractExact p0 p1).1) n_AE) 1 6 (fun _ => False) := by
  refine zx_ofW (cc := cJ9_subtractExact_f86c9) (maxL := 6) (ret := (some .long)) (by decide +kernel) rfl ?_
  intro p e s m args below meth c s₁ B hml htab hv
  obtain ⟨rfl, ham⟩ := hv
  have hx := B.exec
  have hb := B.bytes
  have hr := B.returns
  have hts := atoms_spec (ws := (wsJ9_subtractExact_f86c9 ++ wz_A)) B.pre
  have hown : s.vm.findClass RJ9 = some m.cls := findClass_of_methodNamed B.named
  have hlocks := B.notSynchronized
  have hl := lv_entry ([.long p0, .long p1]) (n := 6) (Nat.le_of_ble_eq_true rfl)
  rw [lg_entry_eq]
  generalize (lg_sl ([.long p0, .long p1]) ++ List.replicate (6 - (lg_sl ([.long p0, .long p1])).length) Slot.unset).toArray = ls at hl ⊢
  have hl : lv_has ls 6 [(0, .long p0), (2, .long p1)] := hl
  refine lv_lload_n hx hb dJ9_subtractExact_f86c9_0 rfl (lv_at hl 0 rfl) ?_
  refine lv_lload_n hx hb dJ9_subtractExact_f86c9_1 rfl (lv_at hl 1 rfl) ?_
  refine lv_lsub hx hb dJ9_subtractExact_f86c9_2 ?_
  refine lv_lstore (lv' := [(4, .long (p0 - p1)), (0, .long p0), (2, .long p1)]) hx hb dJ9_subtractExact_f86c9_3 hl (by decide) rfl (fun ls hl => ?_)
  refine lv_lload_n hx hb dJ9_subtractExact_f86c9_5 rfl (lv_at hl 1 rfl) ?_
  refine lv_lload_n hx hb dJ9_subtractExact_f86c9_6 rfl (lv_at hl 2 rfl) ?_
  refine lv_lxor hx hb dJ9_subtractExact_f86c9_7 ?_
  refine lv_lload_n hx hb dJ9_subtractExact_f86c9_8 rfl (lv_at hl 1 rfl) ?_
  refine lv_lload hx hb dJ9_subtractExact_f86c9_9 (lv_at hl 0 rfl) ?_
  refine lv_lxor hx hb dJ9_subtractExact_f86c9_11 ?_
  refine lv_land hx hb dJ9_subtractExact_f86c9_12 ?_
  refine lv_lconst (v := (0 : Int64)) hx hb dJ9_subtractExact_f86c9_13 (by decide) ?_
  refine pl_ge (tgt := 28) hx hb dJ9_subtractExact_f86c9_14 dJ9_subtractExact_f86c9_15 (by decide) (fun c1 => ?_) (fun c1 => ?_)
  · refine lv_lload hx hb dJ9_subtractExact_f86c9_28 (lv_at hl 0 rfl) ?_
    refine vx_ret ?_
    refine W.widen (k := 1) (n := 6) (by omega) (by omega) ?_
    have es : (s_J9_subtractExact p0 p1) = ((0 : Int32), p0 - p1) := by unfold s_J9_subtractExact; rw [if_neg c1]
    exact W.lret (v := p0 - p1) hx hb hr (fun t ht hW => by rw [es]; exact ⟨rfl, ht, rfl⟩) (fun q h => nomatch h) dJ9_subtractExact_f86c9_30
  · obtain ⟨sa, hsa⟩ := ham.2.2.2.1.2.2.2.2.2
    have es : (s_J9_subtractExact p0 p1) = ((1 : Int32), (0 : Int64)) := by unfold s_J9_subtractExact; rw [if_pos c1]
    exact vx_throwS (A := fun q => S0 ≤ q) (names := n_chain) hx hb hst hown (by decide) (by decide +kernel) (hts _ (List.mem_append_right _ (List.mem_of_getElem? (i := 0) rfl))) (hts _ (List.mem_append_right _ (List.mem_of_getElem? (i := 1) rfl))) hsa (hat_A ham (fun w h => hts w (List.mem_append_right _ (List.mem_append_right _ h)))) good_A ham.1.1 ham.1.2 va_S.rf (hl.1.trans hml.symm) dJ9_subtractExact_f86c9_18 dJ9_subtractExact_f86c9_21 dJ9_subtractExact_f86c9_22 dJ9_subtractExact_f86c9_24 dJ9_subtractExact_f86c9_27 (fun x hx => (htab x hx).elim) (Nat.le_of_ble_eq_true rfl) (Nat.le_of_ble_eq_true rfl) (Nat.le_of_ble_eq_true rfl) (Nat.le_of_ble_eq_true rfl) hlocks (fun t _ h1 h2 => by rw [es]; exact ⟨rfl, rfl, h1, h2⟩) (fun z h => nomatch h) (Nat.le_of_ble_eq_true rfl) (Nat.le_of_ble_eq_true rfl)

def s_J9_multiplyExact (p0 : Int64) (p1 : Int64) : Int32 × Int64 :=
  if pl_ushr ((pl_abs p0) ||| (pl_abs p1)) (31 : Int32) = (0 : Int64) then ((0 : Int32), p0 * p1)
  else if p1 = (0 : Int64) then (if p0 = (-9223372036854775808 : Int64) then (if p1 = (-1 : Int64) then ((1 : Int32), (0 : Int64))
      else ((0 : Int32), p0 * p1))
    else ((0 : Int32), p0 * p1))
  else if (p0 * p1) / p1 = p0 then (if p0 = (-9223372036854775808 : Int64) then (if p1 = (-1 : Int64) then ((1 : Int32), (0 : Int64))
      else ((0 : Int32), p0 * p1))
    else ((0 : Int32), p0 * p1))
  else ((1 : Int32), (0 : Int64))
set_option maxHeartbeats 4000000 in
set_option maxRecDepth 100000 in
theorem c_J9_multiplyExact (l : Launch) (S0 : Nat) (hst : l.stackTraces = false) (p0 : Int64) (p1 : Int64) : vx_Met l yJ9_multiplyExact_f86c9 (wsJ9_multiplyExact_f86c9 ++ wz_A) ({ frames := 6, cells := 1, slots := 6, locals := 82 }) (tp S0 [.long p0, .long p1]) (tq ((s_J9_multiplyExact p0 p1).1) (some (.long ((s_J9_multiplyExact p0 p1).2)))) (xq ((s_J9_multiplyExact p0 p1).1) n_AE) 1 6 (fun _ => False) := by
  refine zx_ofW (cc := cJ9_multiplyExact_f86c9) (maxL := 10) (ret := (some .long)) (by decide +kernel) rfl ?_
  intro p e s m args below meth c s₁ B hml htab hv
  obtain ⟨rfl, ham⟩ := hv
  have hx := B.exec
  have hb := B.bytes
  have hr := B.returns
  have hts := atoms_spec (ws := (wsJ9_multiplyExact_f86c9 ++ wz_A)) B.pre
  have hown : s.vm.findClass RJ9 = some m.cls := findClass_of_methodNamed B.named
  have hlocks := B.notSynchronized
  have hl := lv_entry ([.long p0, .long p1]) (n := 10) (Nat.le_of_ble_eq_true rfl)
  rw [lg_entry_eq]
  generalize (lg_sl ([.long p0, .long p1]) ++ List.replicate (10 - (lg_sl ([.long p0, .long p1])).length) Slot.unset).toArray = ls at hl ⊢
  have hl : lv_has ls 10 [(0, .long p0), (2, .long p1)] := hl
  have hw0 := hts (.methodLink RJ9 122 Lib.MathLoose.abs_long.x) (List.mem_of_getElem? (i := 1) rfl)
  have hw1 := hts (.static Lib.MathLoose.abs_long.x) (List.mem_of_getElem? (i := 2) rfl)
  have hw2 := hts (.initialized "java/lang/Math") (List.mem_of_getElem? (i := 3) rfl)
  have hw3 := hts (.code Lib.MathLoose.abs_long.x Lib.MathLoose.abs_long.code 2 (some .long)) (List.mem_of_getElem? (i := 4) rfl)
  have hw4 := hts (.constantLong RJ9 128 (-9223372036854775808)) (List.mem_of_getElem? (i := 5) rfl)
  have hw5 := hts (.constantLong RJ9 130 (-1)) (List.mem_of_getElem? (i := 6) rfl)
  refine lv_lload_n hx hb dJ9_multiplyExact_f86c9_0 rfl (lv_at hl 0 rfl) ?_
  refine lv_lload_n hx hb dJ9_multiplyExact_f86c9_1 rfl (lv_at hl 1 rfl) ?_
  refine lv_lmul hx hb dJ9_multiplyExact_f86c9_2 ?_
  refine lv_lstore (lv' := [(4, .long (p0 * p1)), (0, .long p0), (2, .long p1)]) hx hb dJ9_multiplyExact_f86c9_3 hl (by decide) rfl (fun ls hl => ?_)
  refine lv_lload_n hx hb dJ9_multiplyExact_f86c9_5 rfl (lv_at hl 1 rfl) ?_
  refine pm_abs hx hb (hml.trans hl.1.symm) hown hw0 hw1 hw2 hw3 (Nat.le_of_ble_eq_true rfl) (Nat.le_of_ble_eq_true rfl) (Nat.le_of_ble_eq_true rfl) (Nat.le_of_ble_eq_true rfl) dJ9_multiplyExact_f86c9_6 ?_
  refine lv_lstore (lv' := [(6, .long (pl_abs p0)), (4, .long (p0 * p1)), (0, .long p0), (2, .long p1)]) hx hb dJ9_multiplyExact_f86c9_9 hl (by decide) rfl (fun ls hl => ?_)
  refine lv_lload_n hx hb dJ9_multiplyExact_f86c9_11 rfl (lv_at hl 3 rfl) ?_
  refine pm_abs hx hb (hml.trans hl.1.symm) hown hw0 hw1 hw2 hw3 (Nat.le_of_ble_eq_true rfl) (Nat.le_of_ble_eq_true rfl) (Nat.le_of_ble_eq_true rfl) (Nat.le_of_ble_eq_true rfl) dJ9_multiplyExact_f86c9_12 ?_
  refine lv_lstore (lv' := [(8, .long (pl_abs p1)), (6, .long (pl_abs p0)), (4, .long (p0 * p1)), (0, .long p0), (2, .long p1)]) hx hb dJ9_multiplyExact_f86c9_15 hl (by decide) rfl (fun ls hl => ?_)
  refine lv_lload hx hb dJ9_multiplyExact_f86c9_17 (lv_at hl 1 rfl) ?_
  refine lv_lload hx hb dJ9_multiplyExact_f86c9_19 (lv_at hl 0 rfl) ?_
  refine lv_lor hx hb dJ9_multiplyExact_f86c9_21 ?_
  refine lv_bipush (v := (31 : Int32)) hx hb dJ9_multiplyExact_f86c9_22 (by decide) ?_
  refine lv_lushr (v := pl_ushr ((pl_abs p0) ||| (pl_abs p1)) (31 : Int32)) hx hb dJ9_multiplyExact_f86c9_24 rfl ?_
  refine lv_lconst (v := (0 : Int64)) hx hb dJ9_multiplyExact_f86c9_25 (by decide) ?_
  refine pl_eq (tgt := 71) hx hb dJ9_multiplyExact_f86c9_26 dJ9_multiplyExact_f86c9_27 (by decide) (fun c1 => ?_) (fun c1 => ?_)
  · refine lv_lload hx hb dJ9_multiplyExact_f86c9_71 (lv_at hl 2 rfl) ?_
    refine vx_ret ?_
    refine W.widen (k := 1) (n := 6) (by omega) (by omega) ?_
    have es : (s_J9_multiplyExact p0 p1) = ((0 : Int32), p0 * p1) := by unfold s_J9_multiplyExact; rw [if_pos c1]
    exact W.lret (v := p0 * p1) hx hb hr (fun t ht hW => by rw [es]; exact ⟨rfl, ht, rfl⟩) (fun q h => nomatch h) dJ9_multiplyExact_f86c9_73
  · refine lv_lload_n hx hb dJ9_multiplyExact_f86c9_30 rfl (lv_at hl 4 rfl) ?_
    refine lv_lconst (v := (0 : Int64)) hx hb dJ9_multiplyExact_f86c9_31 (by decide) ?_
    refine pl_eq (tgt := 45) hx hb dJ9_multiplyExact_f86c9_32 dJ9_multiplyExact_f86c9_33 (by decide) (fun c2 => ?_) (fun c2 => ?_)
    · refine lv_lload_n hx hb dJ9_multiplyExact_f86c9_45 rfl (lv_at hl 3 rfl) ?_
      refine lv_ldc2 (v := (-9223372036854775808 : Int64)) hx hb hown hw4 dJ9_multiplyExact_f86c9_46 ?_
      refine pl_ne (tgt := 71) hx hb dJ9_multiplyExact_f86c9_49 dJ9_multiplyExact_f86c9_50 (by decide) (fun c3 => ?_) (fun c3 => ?_)
      · refine lv_lload hx hb dJ9_multiplyExact_f86c9_71 (lv_at hl 2 rfl) ?_
        refine vx_ret ?_
        refine W.widen (k := 1) (n := 6) (by omega) (by omega) ?_
        have es : (s_J9_multiplyExact p0 p1) = ((0 : Int32), p0 * p1) := by unfold s_J9_multiplyExact; rw [if_neg c1, if_pos c2, if_neg c3]
        exact W.lret (v := p0 * p1) hx hb hr (fun t ht hW => by rw [es]; exact ⟨rfl, ht, rfl⟩) (fun q h => nomatch h) dJ9_multiplyExact_f86c9_73
      · refine lv_lload_n hx hb dJ9_multiplyExact_f86c9_53 rfl (lv_at hl 4 rfl) ?_
        refine lv_ldc2 (v := (-1 : Int64)) hx hb hown hw5 dJ9_multiplyExact_f86c9_54 ?_
        refine pl_ne (tgt := 71) hx hb dJ9_multiplyExact_f86c9_57 dJ9_multiplyExact_f86c9_58 (by decide) (fun c4 => ?_) (fun c4 => ?_)
        · refine lv_lload hx hb dJ9_multiplyExact_f86c9_71 (lv_at hl 2 rfl) ?_
          refine vx_ret ?_
          refine W.widen (k := 1) (n := 6) (by omega) (by omega) ?_
          have es : (s_J9_multiplyExact p0 p1) = ((0 : Int32), p0 * p1) := by unfold s_J9_multiplyExact; rw [if_neg c1, if_pos c2, if_pos c3, if_neg c4]
          exact W.lret (v := p0 * p1) hx hb hr (fun t ht hW => by rw [es]; exact ⟨rfl, ht, rfl⟩) (fun q h => nomatch h) dJ9_multiplyExact_f86c9_73
        · obtain ⟨sa, hsa⟩ := ham.2.2.2.1.2.2.2.2.2
          have es : (s_J9_multiplyExact p0 p1) = ((1 : Int32), (0 : Int64)) := by unfold s_J9_multiplyExact; rw [if_neg c1, if_pos c2, if_pos c3, if_pos c4]
          exact vx_throwS (A := fun q => S0 ≤ q) (names := n_chain) hx hb hst hown (by decide) (by decide +kernel) (hts _ (List.mem_append_right _ (List.mem_of_getElem? (i := 0) rfl))) (hts _ (List.mem_append_right _ (List.mem_of_getElem? (i := 1) rfl))) hsa (hat_A ham (fun w h => hts w (List.mem_append_right _ (List.mem_append_right _ h)))) good_A ham.1.1 ham.1.2 va_S.rf (hl.1.trans hml.symm) dJ9_multiplyExact_f86c9_61 dJ9_multiplyExact_f86c9_64 dJ9_multiplyExact_f86c9_65 dJ9_multiplyExact_f86c9_67 dJ9_multiplyExact_f86c9_70 (fun x hx => (htab x hx).elim) (Nat.le_of_ble_eq_true rfl) (Nat.le_of_ble_eq_true rfl) (Nat.le_of_ble_eq_true rfl) (Nat.le_of_ble_eq_true rfl) hlocks (fun t _ h1 h2 => by rw [es]; exact ⟨rfl, rfl, h1, h2⟩) (fun z h => nomatch h) (Nat.le_of_ble_eq_true rfl) (Nat.le_of_ble_eq_true rfl)
    · refine lv_lload hx hb dJ9_multiplyExact_f86c9_36 (lv_at hl 2 rfl) ?_
      refine lv_lload_n hx hb dJ9_multiplyExact_f86c9_38 rfl (lv_at hl 4 rfl) ?_
      refine lv_ldiv hx hb dJ9_multiplyExact_f86c9_39 (c2) ?_
      refine lv_lload_n hx hb dJ9_multiplyExact_f86c9_40 rfl (lv_at hl 3 rfl) ?_
      refine pl_ne (tgt := 61) hx hb dJ9_multiplyExact_f86c9_41 dJ9_multiplyExact_f86c9_42 (by decide) (fun c5 => ?_) (fun c5 => ?_)
      · obtain ⟨sa, hsa⟩ := ham.2.2.2.1.2.2.2.2.2
        have es : (s_J9_multiplyExact p0 p1) = ((1 : Int32), (0 : Int64)) := by unfold s_J9_multiplyExact; rw [if_neg c1, if_neg c2, if_neg c5]
        exact vx_throwS (A := fun q => S0 ≤ q) (names := n_chain) hx hb hst hown (by decide) (by decide +kernel) (hts _ (List.mem_append_right _ (List.mem_of_getElem? (i := 0) rfl))) (hts _ (List.mem_append_right _ (List.mem_of_getElem? (i := 1) rfl))) hsa (hat_A ham (fun w h => hts w (List.mem_append_right _ (List.mem_append_right _ h)))) good_A ham.1.1 ham.1.2 va_S.rf (hl.1.trans hml.symm) dJ9_multiplyExact_f86c9_61 dJ9_multiplyExact_f86c9_64 dJ9_multiplyExact_f86c9_65 dJ9_multiplyExact_f86c9_67 dJ9_multiplyExact_f86c9_70 (fun x hx => (htab x hx).elim) (Nat.le_of_ble_eq_true rfl) (Nat.le_of_ble_eq_true rfl) (Nat.le_of_ble_eq_true rfl) (Nat.le_of_ble_eq_true rfl) hlocks (fun t _ h1 h2 => by rw [es]; exact ⟨rfl, rfl, h1, h2⟩) (fun z h => nomatch h) (Nat.le_of_ble_eq_true rfl) (Nat.le_of_ble_eq_true rfl)
      · refine lv_lload_n hx hb dJ9_multiplyExact_f86c9_45 rfl (lv_at hl 3 rfl) ?_
        refine lv_ldc2 (v := (-9223372036854775808 : Int64)) hx hb hown hw4 dJ9_multiplyExact_f86c9_46 ?_
        refine pl_ne (tgt := 71) hx hb dJ9_multiplyExact_f86c9_49 dJ9_multiplyExact_f86c9_50 (by decide) (fun c6 => ?_) (fun c6 => ?_)
        · refine lv_lload hx hb dJ9_multiplyExact_f86c9_71 (lv_at hl 2 rfl) ?_
          refine vx_ret ?_
          refine W.widen (k := 1) (n := 6) (by omega) (by omega) ?_
          have es : (s_J9_multiplyExact p0 p1) = ((0 : Int32), p0 * p1) := by unfold s_J9_multiplyExact; rw [if_neg c1, if_neg c2, if_pos c5, if_neg c6]
          exact W.lret (v := p0 * p1) hx hb hr (fun t ht hW => by rw [es]; exact ⟨rfl, ht, rfl⟩) (fun q h => nomatch h) dJ9_multiplyExact_f86c9_73
        · refine lv_lload_n hx hb dJ9_multiplyExact_f86c9_53 rfl (lv_at hl 4 rfl) ?_
          refine lv_ldc2 (v := (-1 : Int64)) hx hb hown hw5 dJ9_multiplyExact_f86c9_54 ?_
          refine pl_ne (tgt := 71) hx hb dJ9_multiplyExact_f86c9_57 dJ9_multiplyExact_f86c9_58 (by decide) (fun c7 => ?_) (fun c7 => ?_)
          · refine lv_lload hx hb dJ9_multiplyExact_f86c9_71 (lv_at hl 2 rfl) ?_
            refine vx_ret ?_
            refine W.widen (k := 1) (n := 6) (by omega) (by omega) ?_
            have es : (s_J9_multiplyExact p0 p1) = ((0 : Int32), p0 * p1) := by unfold s_J9_multiplyExact; rw [if_neg c1, if_neg c2, if_pos c5, if_pos c6, if_neg c7]
            exact W.lret (v := p0 * p1) hx hb hr (fun t ht hW => by rw [es]; exact ⟨rfl, ht, rfl⟩) (fun q h => nomatch h) dJ9_multiplyExact_f86c9_73
          · obtain ⟨sa, hsa⟩ := ham.2.2.2.1.2.2.2.2.2
            have es : (s_J9_multiplyExact p0 p1) = ((1 : Int32), (0 : Int64)) := by unfold s_J9_multiplyExact; rw [if_neg c1, if_neg c2, if_pos c5, if_pos c6, if_pos c7]
            exact vx_throwS (A := fun q => S0 ≤ q) (names := n_chain) hx hb hst hown (by decide) (by decide +kernel) (hts _ (List.mem_append_right _ (List.mem_of_getElem? (i := 0) rfl))) (hts _ (List.mem_append_right _ (List.mem_of_getElem? (i := 1) rfl))) hsa (hat_A ham (fun w h => hts w (List.mem_append_right _ (List.mem_append_right _ h)))) good_A ham.1.1 ham.1.2 va_S.rf (hl.1.trans hml.symm) dJ9_multiplyExact_f86c9_61 dJ9_multiplyExact_f86c9_64 dJ9_multiplyExact_f86c9_65 dJ9_multiplyExact_f86c9_67 dJ9_multiplyExact_f86c9_70 (fun x hx => (htab x hx).elim) (Nat.le_of_ble_eq_true rfl) (Nat.le_of_ble_eq_true rfl) (Nat.le_of_ble_eq_true rfl) (Nat.le_of_ble_eq_true rfl) hlocks (fun t _ h1 h2 => by rw [es]; exact ⟨rfl, rfl, h1, h2⟩) (fun z h => nomatch h) (Nat.le_of_ble_eq_true rfl) (Nat.le_of_ble_eq_true rfl)
