theorem ydS_X1_isNarrow : yX1_isNarrow.cls ≠ "java/lang/invoke/MethodHandle" ∧ yX1_isNarrow.cls ≠ "java/lang/invoke/VarHandle" ∧ (parseMethodDescriptor yX1_isNarrow.desc).map (fun d => d.parameters.length) = some 2 := by decide +kernel
def s_X1_isNarrow (p0 : Int64) (p1 : Int64) : Int32 :=
  if p0 < (0 : Int64) then (0 : Int32)
  else if (4294967295 : Int64) < p1 then (0 : Int32)
  else (1 : Int32)
theorem z_X1_isNarrow (p0 : Int64) (p1 : Int64) : (s_X1_isNarrow p0 p1) = 0 ∨ (s_X1_isNarrow p0 p1) = 1 := by
  unfold s_X1_isNarrow
  by_cases c1 : p0 < (0 : Int64)
  · rw [if_pos c1]
    exact Or.inl rfl
  · rw [if_neg c1]
    by_cases c2 : (4294967295 : Int64) < p1
    · rw [if_pos c2]
      exact Or.inl rfl
    · rw [if_neg c2]
      exact Or.inr rfl
set_option maxHeartbeats 4000000 in
set_option maxRecDepth 100000 in
theorem c_X1_isNarrow (l : Launch) (p0 : Int64) (p1 : Int64) : Met l yX1_isNarrow wsX1_isNarrow ({ frames := 0, cells := 0, slots := 0, locals := 0 }) (ap [.long p0, .long p1]) (pq (some (.int (s_X1_isNarrow p0 p1)))) 0 0 (fun _ => False) := by
  refine Met.ofW (cc := cX1_isNarrow) (maxL := 4) (ret := (some .boolean)) (by decide) rfl ?_
  intro p e s m args below meth c s₁ B hml hv
  have hv : args = ([.long p0, .long p1] : List Value).toArray := hv
  subst hv
  have hx := B.exec
  have hb := B.bytes
  have hr := B.returns
  have hts := atoms_spec (ws := wsX1_isNarrow) B.pre
  have hown : s.vm.findClass RX1 = some m.cls := findClass_of_methodNamed B.named
  have hlocks := B.notSynchronized
  have hl := lv_entry ([.long p0, .long p1]) (n := 4) (Nat.le_of_ble_eq_true rfl)
  rw [lg_entry_eq]
  generalize (lg_sl ([.long p0, .long p1]) ++ List.replicate (4 - (lg_sl ([.long p0, .long p1])).length) Slot.unset).toArray = ls at hl ⊢
  have hl : lv_has ls 4 [(0, .long p0), (2, .long p1)] := hl
  have hw0 := hts (.constantLong RX1 54 (4294967295)) (List.mem_of_getElem? (i := 1) rfl)
  refine lv_lload_n hx hb dX1_isNarrow_0 rfl (lv_at hl 0 rfl) ?_
  refine lv_lconst (v := (0 : Int64)) hx hb dX1_isNarrow_1 (by decide) ?_
  refine pl_lt (tgt := 18) hx hb dX1_isNarrow_2 dX1_isNarrow_3 (by decide) (fun c1 => ?_) (fun c1 => ?_)
  · refine lv_iconst (v := (0 : Int32)) hx hb dX1_isNarrow_18 (by decide) ?_
    have es : (s_X1_isNarrow p0 p1) = (0 : Int32) := by unfold s_X1_isNarrow; rw [if_pos c1]
    exact W.zret (v := (0 : Int32)) hx hb hr (rfl) (fun t ht hW => by rw [es]; exact ⟨rfl, ht⟩) (fun q h => nomatch h) dX1_isNarrow_19
  · refine lv_lload_n hx hb dX1_isNarrow_6 rfl (lv_at hl 1 rfl) ?_
    refine lv_ldc2 (v := (4294967295 : Int64)) hx hb hown hw0 dX1_isNarrow_7 ?_
    refine pl_gt (tgt := 18) hx hb dX1_isNarrow_10 dX1_isNarrow_11 (by decide) (fun c2 => ?_) (fun c2 => ?_)
    · refine lv_iconst (v := (0 : Int32)) hx hb dX1_isNarrow_18 (by decide) ?_
      have es : (s_X1_isNarrow p0 p1) = (0 : Int32) := by unfold s_X1_isNarrow; rw [if_neg c1, if_pos c2]
      exact W.zret (v := (0 : Int32)) hx hb hr (rfl) (fun t ht hW => by rw [es]; exact ⟨rfl, ht⟩) (fun q h => nomatch h) dX1_isNarrow_19
    · refine lv_iconst (v := (1 : Int32)) hx hb dX1_isNarrow_14 (by decide) ?_
      refine lv_goto (tgt := 19) hx hb dX1_isNarrow_15 (by decide) ?_
      have es : (s_X1_isNarrow p0 p1) = (1 : Int32) := by unfold s_X1_isNarrow; rw [if_neg c1, if_neg c2]
      exact W.zret (v := (1 : Int32)) hx hb hr (rfl) (fun t ht hW => by rw [es]; exact ⟨rfl, ht⟩) (fun q h => nomatch h) dX1_isNarrow_19

def s_X1_narrowLow (p0 : Int64) (p1 : Int64) : Int64 :=
  if p0 = p1 then p0 &&& (4294967295 : Int64)
  else if (s_X1_isNarrow p0 p1) = (0 : Int32) then (0 : Int64)
  else p0
set_option maxHeartbeats 4000000 in
set_option maxRecDepth 100000 in
theorem c_X1_narrowLow (l : Launch) (p0 : Int64) (p1 : Int64) : Met l yX1_narrowLow wsX1_narrowLow ({ frames := 1, cells := 0, slots := 0, locals := 23 }) (ap [.long p0, .long p1]) (pq (some (.long (s_X1_narrowLow p0 p1)))) 0 0 (fun _ => False) := by
  refine Met.ofW (cc := cX1_narrowLow) (maxL := 4) (ret := (some .long)) (by decide) rfl ?_
  intro p e s m args below meth c s₁ B hml hv
  have hv : args = ([.long p0, .long p1] : List Value).toArray := hv
  subst hv
  have hx := B.exec
  have hb := B.bytes
  have hr := B.returns
  have hts := atoms_spec (ws := wsX1_narrowLow) B.pre
  have hown : s.vm.findClass RX1 = some m.cls := findClass_of_methodNamed B.named
  have hlocks := B.notSynchronized
  have hl := lv_entry ([.long p0, .long p1]) (n := 4) (Nat.le_of_ble_eq_true rfl)
  rw [lg_entry_eq]
  generalize (lg_sl ([.long p0, .long p1]) ++ List.replicate (4 - (lg_sl ([.long p0, .long p1])).length) Slot.unset).toArray = ls at hl ⊢
  have hl : lv_has ls 4 [(0, .long p0), (2, .long p1)] := hl
  have hw0 := hts (.constantLong RX1 54 (4294967295)) (List.mem_of_getElem? (i := 1) rfl)
  refine lv_lload_n hx hb dX1_narrowLow_0 rfl (lv_at hl 0 rfl) ?_
  refine lv_lload_n hx hb dX1_narrowLow_1 rfl (lv_at hl 1 rfl) ?_
  refine pl_ne (tgt := 12) hx hb dX1_narrowLow_2 dX1_narrowLow_3 (by decide) (fun c1 => ?_) (fun c1 => ?_)
  · refine lv_lload_n hx hb dX1_narrowLow_12 rfl (lv_at hl 0 rfl) ?_
    refine lv_lload_n hx hb dX1_narrowLow_13 rfl (lv_at hl 1 rfl) ?_
    refine pq_calli (va_runS (As := [.long p0, .long p1]) (rest := []) ⟨hx, hb, hml, hown, hts⟩ (c_X1_isNarrow l p0 p1) (va_cwS 2 hts gX1_narrowLow_X1_isNarrow rfl rfl rfl ydS_X1_isNarrow ⟨Nat.le_of_ble_eq_true rfl, Nat.le_of_ble_eq_true rfl⟩) ap_S rfl rfl hl.1 rfl (lv_room (Nat.le_of_ble_eq_true rfl)) dX1_narrowLow_14 ⟨Nat.le_of_ble_eq_true rfl, Nat.le_of_ble_eq_true rfl⟩) ?_
    refine lv_if_eq (tgt := 24) hx hb dX1_narrowLow_17 (by decide) (fun c2 => ?_) (fun c2 => ?_)
    · refine lv_lconst (v := (0 : Int64)) hx hb dX1_narrowLow_24 (by decide) ?_
      have es : (s_X1_narrowLow p0 p1) = (0 : Int64) := by unfold s_X1_narrowLow; rw [if_neg c1, if_pos c2]
      exact W.lret (v := (0 : Int64)) hx hb hr (fun t ht hW => by rw [es]; exact ⟨rfl, ht⟩) (fun q h => nomatch h) dX1_narrowLow_25
    · refine lv_lload_n hx hb dX1_narrowLow_20 rfl (lv_at hl 0 rfl) ?_
      refine lv_goto (tgt := 25) hx hb dX1_narrowLow_21 (by decide) ?_
      have es : (s_X1_narrowLow p0 p1) = p0 := by unfold s_X1_narrowLow; rw [if_neg c1, if_neg c2]
      exact W.lret (v := p0) hx hb hr (fun t ht hW => by rw [es]; exact ⟨rfl, ht⟩) (fun q h => nomatch h) dX1_narrowLow_25
  · refine lv_lload_n hx hb dX1_narrowLow_6 rfl (lv_at hl 0 rfl) ?_
    refine lv_ldc2 (v := (4294967295 : Int64)) hx hb hown hw0 dX1_narrowLow_7 ?_
    refine lv_land hx hb dX1_narrowLow_10 ?_
    have es : (s_X1_narrowLow p0 p1) = p0 &&& (4294967295 : Int64) := by unfold s_X1_narrowLow; rw [if_pos c1]
    exact W.lret (v := p0 &&& (4294967295 : Int64)) hx hb hr (fun t ht hW => by rw [es]; exact ⟨rfl, ht⟩) (fun q h => nomatch h) dX1_narrowLow_11

def s_X1_narrowHigh (p0 : Int64) (p1 : Int64) : Int64 :=
  if p0 = p1 then p1 &&& (4294967295 : Int64)
  else if (s_X1_isNarrow p0 p1) = (0 : Int32) then (4294967295 : Int64)
  else p1
set_option maxHeartbeats 4000000 in
set_option maxRecDepth 100000 in
theorem c_X1_narrowHigh (l : Launch) (p0 : Int64) (p1 : Int64) : Met l yX1_narrowHigh wsX1_narrowHigh ({ frames := 1, cells := 0, slots := 0, locals := 23 }) (ap [.long p0, .long p1]) (pq (some (.long (s_X1_narrowHigh p0 p1)))) 0 0 (fun _ => False) := by
  refine Met.ofW (cc := cX1_narrowHigh) (maxL := 4) (ret := (some .long)) (by decide) rfl ?_
  intro p e s m args below meth c s₁ B hml hv
  have hv : args = ([.long p0, .long p1] : List Value).toArray := hv
  subst hv
  have hx := B.exec
  have hb := B.bytes
  have hr := B.returns
  have hts := atoms_spec (ws := wsX1_narrowHigh) B.pre
  have hown : s.vm.findClass RX1 = some m.cls := findClass_of_methodNamed B.named
  have hlocks := B.notSynchronized
  have hl := lv_entry ([.long p0, .long p1]) (n := 4) (Nat.le_of_ble_eq_true rfl)
  rw [lg_entry_eq]
  generalize (lg_sl ([.long p0, .long p1]) ++ List.replicate (4 - (lg_sl ([.long p0, .long p1])).length) Slot.unset).toArray = ls at hl ⊢
  have hl : lv_has ls 4 [(0, .long p0), (2, .long p1)] := hl
  have hw0 := hts (.constantLong RX1 54 (4294967295)) (List.mem_of_getElem? (i := 1) rfl)
  refine lv_lload_n hx hb dX1_narrowHigh_0 rfl (lv_at hl 0 rfl) ?_
  refine lv_lload_n hx hb dX1_narrowHigh_1 rfl (lv_at hl 1 rfl) ?_
  refine pl_ne (tgt := 12) hx hb dX1_narrowHigh_2 dX1_narrowHigh_3 (by decide) (fun c1 => ?_) (fun c1 => ?_)
  · refine lv_lload_n hx hb dX1_narrowHigh_12 rfl (lv_at hl 0 rfl) ?_
    refine lv_lload_n hx hb dX1_narrowHigh_13 rfl (lv_at hl 1 rfl) ?_
    refine pq_calli (va_runS (As := [.long p0, .long p1]) (rest := []) ⟨hx, hb, hml, hown, hts⟩ (c_X1_isNarrow l p0 p1) (va_cwS 2 hts gX1_narrowHigh_X1_isNarrow rfl rfl rfl ydS_X1_isNarrow ⟨Nat.le_of_ble_eq_true rfl, Nat.le_of_ble_eq_true rfl⟩) ap_S rfl rfl hl.1 rfl (lv_room (Nat.le_of_ble_eq_true rfl)) dX1_narrowHigh_14 ⟨Nat.le_of_ble_eq_true rfl, Nat.le_of_ble_eq_true rfl⟩) ?_
    refine lv_if_eq (tgt := 24) hx hb dX1_narrowHigh_17 (by decide) (fun c2 => ?_) (fun c2 => ?_)
    · refine lv_ldc2 (v := (4294967295 : Int64)) hx hb hown hw0 dX1_narrowHigh_24 ?_
      have es : (s_X1_narrowHigh p0 p1) = (4294967295 : Int64) := by unfold s_X1_narrowHigh; rw [if_neg c1, if_pos c2]
      exact W.lret (v := (4294967295 : Int64)) hx hb hr (fun t ht hW => by rw [es]; exact ⟨rfl, ht⟩) (fun q h => nomatch h) dX1_narrowHigh_27
    · refine lv_lload_n hx hb dX1_narrowHigh_20 rfl (lv_at hl 1 rfl) ?_
      refine lv_goto (tgt := 27) hx hb dX1_narrowHigh_21 (by decide) ?_
      have es : (s_X1_narrowHigh p0 p1) = p1 := by unfold s_X1_narrowHigh; rw [if_neg c1, if_neg c2]
      exact W.lret (v := p1) hx hb hr (fun t ht hW => by rw [es]; exact ⟨rfl, ht⟩) (fun q h => nomatch h) dX1_narrowHigh_27
  · refine lv_lload_n hx hb dX1_narrowHigh_6 rfl (lv_at hl 1 rfl) ?_
    refine lv_ldc2 (v := (4294967295 : Int64)) hx hb hown hw0 dX1_narrowHigh_7 ?_
    refine lv_land hx hb dX1_narrowHigh_10 ?_
    have es : (s_X1_narrowHigh p0 p1) = p1 &&& (4294967295 : Int64) := by unfold s_X1_narrowHigh; rw [if_pos c1]
    exact W.lret (v := p1 &&& (4294967295 : Int64)) hx hb hr (fun t ht hW => by rw [es]; exact ⟨rfl, ht⟩) (fun q h => nomatch h) dX1_narrowHigh_11

def s_X1_isSumLong (p0 : Int64) (p1 : Int64) : Int32 :=
  if (p0 ^^^ (p0 + p1)) &&& (p1 ^^^ (p0 + p1)) < (0 : Int64) then (0 : Int32)
  else (1 : Int32)
theorem z_X1_isSumLong (p0 : Int64) (p1 : Int64) : (s_X1_isSumLong p0 p1) = 0 ∨ (s_X1_isSumLong p0 p1) = 1 := by
  unfold s_X1_isSumLong
  by_cases c1 : (p0 ^^^ (p0 + p1)) &&& (p1 ^^^ (p0 + p1)) < (0 : Int64)
  · rw [if_pos c1]
    exact Or.inl rfl
  · rw [if_neg c1]
    exact Or.inr rfl
set_option maxHeartbeats 4000000 in
set_option maxRecDepth 100000 in
theorem c_X1_isSumLong (l : Launch) (p0 : Int64) (p1 : Int64) : Met l yX1_isSumLong wsX1_isSumLong ({ frames := 0, cells := 0, slots := 0, locals := 0 }) (ap [.long p0, .long p1]) (pq (some (.int (s_X1_isSumLong p0 p1)))) 0 0 (fun _ => False) := by
  refine Met.ofW (cc := cX1_isSumLong) (maxL := 6) (ret := (some .boolean)) (by decide) rfl ?_
  intro p e s m args below meth c s₁ B hml hv
  have hv : args = ([.long p0, .long p1] : List Value).toArray := hv
  subst hv
  have hx := B.exec
  have hb := B.bytes
  have hr := B.returns
  have hts := atoms_spec (ws := wsX1_isSumLong) B.pre
  have hown : s.vm.findClass RX1 = some m.cls := findClass_of_methodNamed B.named
  have hlocks := B.notSynchronized
  have hl := lv_entry ([.long p0, .long p1]) (n := 6) (Nat.le_of_ble_eq_true rfl)
  rw [lg_entry_eq]
  generalize (lg_sl ([.long p0, .long p1]) ++ List.replicate (6 - (lg_sl ([.long p0, .long p1])).length) Slot.unset).toArray = ls at hl ⊢
  have hl : lv_has ls 6 [(0, .long p0), (2, .long p1)] := hl
  refine lv_lload_n hx hb dX1_isSumLong_0 rfl (lv_at hl 0 rfl) ?_
  refine lv_lload_n hx hb dX1_isSumLong_1 rfl (lv_at hl 1 rfl) ?_
  refine lv_ladd hx hb dX1_isSumLong_2 ?_
  refine lv_lstore (lv' := [(4, .long (p0 + p1)), (0, .long p0), (2, .long p1)]) hx hb dX1_isSumLong_3 hl (by decide) rfl (fun ls hl => ?_)
  refine lv_lload_n hx hb dX1_isSumLong_5 rfl (lv_at hl 1 rfl) ?_
  refine lv_lload hx hb dX1_isSumLong_6 (lv_at hl 0 rfl) ?_
  refine lv_lxor hx hb dX1_isSumLong_8 ?_
  refine lv_lload_n hx hb dX1_isSumLong_9 rfl (lv_at hl 2 rfl) ?_
  refine lv_lload hx hb dX1_isSumLong_10 (lv_at hl 0 rfl) ?_
  refine lv_lxor hx hb dX1_isSumLong_12 ?_
  refine lv_land hx hb dX1_isSumLong_13 ?_
  refine lv_lconst (v := (0 : Int64)) hx hb dX1_isSumLong_14 (by decide) ?_
  refine pl_lt (tgt := 23) hx hb dX1_isSumLong_15 dX1_isSumLong_16 (by decide) (fun c1 => ?_) (fun c1 => ?_)
  · refine lv_iconst (v := (0 : Int32)) hx hb dX1_isSumLong_23 (by decide) ?_
    have es : (s_X1_isSumLong p0 p1) = (0 : Int32) := by unfold s_X1_isSumLong; rw [if_pos c1]
    exact W.zret (v := (0 : Int32)) hx hb hr (rfl) (fun t ht hW => by rw [es]; exact ⟨rfl, ht⟩) (fun q h => nomatch h) dX1_isSumLong_24
  · refine lv_iconst (v := (1 : Int32)) hx hb dX1_isSumLong_19 (by decide) ?_
    refine lv_goto (tgt := 24) hx hb dX1_isSumLong_20 (by decide) ?_
    have es : (s_X1_isSumLong p0 p1) = (1 : Int32) := by unfold s_X1_isSumLong; rw [if_neg c1]
    exact W.zret (v := (1 : Int32)) hx hb hr (rfl) (fun t ht hW => by rw [es]; exact ⟨rfl, ht⟩) (fun q h => nomatch h) dX1_isSumLong_24

def s_X1_isDifferenceLong (p0 : Int64) (p1 : Int64) : Int32 :=
  if (p0 ^^^ p1) &&& (p0 ^^^ (p0 - p1)) < (0 : Int64) then (0 : Int32)
  else (1 : Int32)
theorem z_X1_isDifferenceLong (p0 : Int64) (p1 : Int64) : (s_X1_isDifferenceLong p0 p1) = 0 ∨ (s_X1_isDifferenceLong p0 p1) = 1 := by
  unfold s_X1_isDifferenceLong
  by_cases c1 : (p0 ^^^ p1) &&& (p0 ^^^ (p0 - p1)) < (0 : Int64)
  · rw [if_pos c1]
    exact Or.inl rfl
  · rw [if_neg c1]
    exact Or.inr rfl
set_option maxHeartbeats 4000000 in
set_option maxRecDepth 100000 in
theorem c_X1_isDifferenceLong (l : Launch) (p0 : Int64) (p1 : Int64) : Met l yX1_isDifferenceLong wsX1_isDifferenceLong ({ frames := 0, cells := 0, slots := 0, locals := 0 }) (ap [.long p0, .long p1]) (pq (some (.int (s_X1_isDifferenceLong p0 p1)))) 0 0 (fun _ => False) := by
  refine Met.ofW (cc := cX1_isDifferenceLong) (maxL := 6) (ret := (some .boolean)) (by decide) rfl ?_
  intro p e s m args below meth c s₁ B hml hv
  have hv : args = ([.long p0, .long p1] : List Value).toArray := hv
  subst hv
  have hx := B.exec
  have hb := B.bytes
  have hr := B.returns
  have hts := atoms_spec (ws := wsX1_isDifferenceLong) B.pre
  have hown : s.vm.findClass RX1 = some m.cls := findClass_of_methodNamed B.named
  have hlocks := B.notSynchronized
  have hl := lv_entry ([.long p0, .long p1]) (n := 6) (Nat.le_of_ble_eq_true rfl)
  rw [lg_entry_eq]
  generalize (lg_sl ([.long p0, .long p1]) ++ List.replicate (6 - (lg_sl ([.long p0, .long p1])).length) Slot.unset).toArray = ls at hl ⊢
  have hl : lv_has ls 6 [(0, .long p0), (2, .long p1)] := hl
  refine lv_lload_n hx hb dX1_isDifferenceLong_0 rfl (lv_at hl 0 rfl) ?_
  refine lv_lload_n hx hb dX1_isDifferenceLong_1 rfl (lv_at hl 1 rfl) ?_
  refine lv_lsub hx hb dX1_isDifferenceLong_2 ?_
  refine lv_lstore (lv' := [(4, .long (p0 - p1)), (0, .long p0), (2, .long p1)]) hx hb dX1_isDifferenceLong_3 hl (by decide) rfl (fun ls hl => ?_)
  refine lv_lload_n hx hb dX1_isDifferenceLong_5 rfl (lv_at hl 1 rfl) ?_
  refine lv_lload_n hx hb dX1_isDifferenceLong_6 rfl (lv_at hl 2 rfl) ?_
  refine lv_lxor hx hb dX1_isDifferenceLong_7 ?_
  refine lv_lload_n hx hb dX1_isDifferenceLong_8 rfl (lv_at hl 1 rfl) ?_
  refine lv_lload hx hb dX1_isDifferenceLong_9 (lv_at hl 0 rfl) ?_
  refine lv_lxor hx hb dX1_isDifferenceLong_11 ?_
  refine lv_land hx hb dX1_isDifferenceLong_12 ?_
  refine lv_lconst (v := (0 : Int64)) hx hb dX1_isDifferenceLong_13 (by decide) ?_
  refine pl_lt (tgt := 22) hx hb dX1_isDifferenceLong_14 dX1_isDifferenceLong_15 (by decide) (fun c1 => ?_) (fun c1 => ?_)
  · refine lv_iconst (v := (0 : Int32)) hx hb dX1_isDifferenceLong_22 (by decide) ?_
    have es : (s_X1_isDifferenceLong p0 p1) = (0 : Int32) := by unfold s_X1_isDifferenceLong; rw [if_pos c1]
    exact W.zret (v := (0 : Int32)) hx hb hr (rfl) (fun t ht hW => by rw [es]; exact ⟨rfl, ht⟩) (fun q h => nomatch h) dX1_isDifferenceLong_23
  · refine lv_iconst (v := (1 : Int32)) hx hb dX1_isDifferenceLong_18 (by decide) ?_
    refine lv_goto (tgt := 23) hx hb dX1_isDifferenceLong_19 (by decide) ?_
    have es : (s_X1_isDifferenceLong p0 p1) = (1 : Int32) := by unfold s_X1_isDifferenceLong; rw [if_neg c1]
    exact W.zret (v := (1 : Int32)) hx hb hr (rfl) (fun t ht hW => by rw [es]; exact ⟨rfl, ht⟩) (fun q h => nomatch h) dX1_isDifferenceLong_23

def s_X1_isProductLong (p0 : Int64) (p1 : Int64) : Int32 :=
  if p0 = (0 : Int64) then (1 : Int32)
  else if p0 = (-1 : Int64) then (if p1 = (-9223372036854775808 : Int64) then (0 : Int32)
    else (1 : Int32))
  else if (p0 * p1) / p0 = p1 then (1 : Int32)
  else (0 : Int32)
theorem z_X1_isProductLong (p0 : Int64) (p1 : Int64) : (s_X1_isProductLong p0 p1) = 0 ∨ (s_X1_isProductLong p0 p1) = 1 := by
  unfold s_X1_isProductLong
  by_cases c1 : p0 = (0 : Int64)
  · rw [if_pos c1]
    exact Or.inr rfl
  · rw [if_neg c1]
    by_cases c2 : p0 = (-1 : Int64)
    · rw [if_pos c2]
      by_cases c3 : p1 = (-9223372036854775808 : Int64)
      · rw [if_pos c3]
        exact Or.inl rfl
      · rw [if_neg c3]
        exact Or.inr rfl
    · rw [if_neg c2]
      by_cases c4 : (p0 * p1) / p0 = p1
      · rw [if_pos c4]
        exact Or.inr rfl
      · rw [if_neg c4]
        exact Or.inl rfl
set_option maxHeartbeats 4000000 in
set_option maxRecDepth 100000 in
theorem c_X1_isProductLong (l : Launch) (p0 : Int64) (p1 : Int64) : Met l yX1_isProductLong wsX1_isProductLong ({ frames := 0, cells := 0, slots := 0, locals := 0 }) (ap [.long p0, .long p1]) (pq (some (.int (s_X1_isProductLong p0 p1)))) 0 0 (fun _ => False) := by
  refine Met.ofW (cc := cX1_isProductLong) (maxL := 4) (ret := (some .boolean)) (by decide) rfl ?_
  intro p e s m args below meth c s₁ B hml hv
  have hv : args = ([.long p0, .long p1] : List Value).toArray := hv
  subst hv
  have hx := B.exec
  have hb := B.bytes
  have hr := B.returns
  have hts := atoms_spec (ws := wsX1_isProductLong) B.pre
  have hown : s.vm.findClass RX1 = some m.cls := findClass_of_methodNamed B.named
  have hlocks := B.notSynchronized
  have hl := lv_entry ([.long p0, .long p1]) (n := 4) (Nat.le_of_ble_eq_true rfl)
  rw [lg_entry_eq]
  generalize (lg_sl ([.long p0, .long p1]) ++ List.replicate (4 - (lg_sl ([.long p0, .long p1])).length) Slot.unset).toArray = ls at hl ⊢
  have hl : lv_has ls 4 [(0, .long p0), (2, .long p1)] := hl
  have hw0 := hts (.constantLong RX1 122 (-1)) (List.mem_of_getElem? (i := 1) rfl)
  have hw1 := hts (.constantLong RX1 50 (-9223372036854775808)) (List.mem_of_getElem? (i := 2) rfl)
  refine lv_lload_n hx hb dX1_isProductLong_0 rfl (lv_at hl 0 rfl) ?_
  refine lv_lconst (v := (0 : Int64)) hx hb dX1_isProductLong_1 (by decide) ?_
  refine pl_ne (tgt := 8) hx hb dX1_isProductLong_2 dX1_isProductLong_3 (by decide) (fun c1 => ?_) (fun c1 => ?_)
  · refine lv_lload_n hx hb dX1_isProductLong_8 rfl (lv_at hl 0 rfl) ?_
    refine lv_ldc2 (v := (-1 : Int64)) hx hb hown hw0 dX1_isProductLong_9 ?_
    refine pl_ne (tgt := 30) hx hb dX1_isProductLong_12 dX1_isProductLong_13 (by decide) (fun c2 => ?_) (fun c2 => ?_)
    · refine lv_lload_n hx hb dX1_isProductLong_30 rfl (lv_at hl 0 rfl) ?_
      refine lv_lload_n hx hb dX1_isProductLong_31 rfl (lv_at hl 1 rfl) ?_
      refine lv_lmul hx hb dX1_isProductLong_32 ?_
      refine lv_lload_n hx hb dX1_isProductLong_33 rfl (lv_at hl 0 rfl) ?_
      refine lv_ldiv hx hb dX1_isProductLong_34 (c1) ?_
      refine lv_lload_n hx hb dX1_isProductLong_35 rfl (lv_at hl 1 rfl) ?_
      refine pl_ne (tgt := 44) hx hb dX1_isProductLong_36 dX1_isProductLong_37 (by decide) (fun c3 => ?_) (fun c3 => ?_)
      · refine lv_iconst (v := (0 : Int32)) hx hb dX1_isProductLong_44 (by decide) ?_
        have es : (s_X1_isProductLong p0 p1) = (0 : Int32) := by unfold s_X1_isProductLong; rw [if_neg c1, if_neg c2, if_neg c3]
        exact W.zret (v := (0 : Int32)) hx hb hr (rfl) (fun t ht hW => by rw [es]; exact ⟨rfl, ht⟩) (fun q h => nomatch h) dX1_isProductLong_45
      · refine lv_iconst (v := (1 : Int32)) hx hb dX1_isProductLong_40 (by decide) ?_
        refine lv_goto (tgt := 45) hx hb dX1_isProductLong_41 (by decide) ?_
        have es : (s_X1_isProductLong p0 p1) = (1 : Int32) := by unfold s_X1_isProductLong; rw [if_neg c1, if_neg c2, if_pos c3]
        exact W.zret (v := (1 : Int32)) hx hb hr (rfl) (fun t ht hW => by rw [es]; exact ⟨rfl, ht⟩) (fun q h => nomatch h) dX1_isProductLong_45
    · refine lv_lload_n hx hb dX1_isProductLong_16 rfl (lv_at hl 1 rfl) ?_
      refine lv_ldc2 (v := (-9223372036854775808 : Int64)) hx hb hown hw1 dX1_isProductLong_17 ?_
      refine pl_eq (tgt := 28) hx hb dX1_isProductLong_20 dX1_isProductLong_21 (by decide) (fun c4 => ?_) (fun c4 => ?_)
      · refine lv_iconst (v := (0 : Int32)) hx hb dX1_isProductLong_28 (by decide) ?_
        have es : (s_X1_isProductLong p0 p1) = (0 : Int32) := by unfold s_X1_isProductLong; rw [if_neg c1, if_pos c2, if_pos c4]
        exact W.zret (v := (0 : Int32)) hx hb hr (rfl) (fun t ht hW => by rw [es]; exact ⟨rfl, ht⟩) (fun q h => nomatch h) dX1_isProductLong_29
      · refine lv_iconst (v := (1 : Int32)) hx hb dX1_isProductLong_24 (by decide) ?_
        refine lv_goto (tgt := 29) hx hb dX1_isProductLong_25 (by decide) ?_
        have es : (s_X1_isProductLong p0 p1) = (1 : Int32) := by unfold s_X1_isProductLong; rw [if_neg c1, if_pos c2, if_neg c4]
        exact W.zret (v := (1 : Int32)) hx hb hr (rfl) (fun t ht hW => by rw [es]; exact ⟨rfl, ht⟩) (fun q h => nomatch h) dX1_isProductLong_29
  · refine lv_iconst (v := (1 : Int32)) hx hb dX1_isProductLong_6 (by decide) ?_
    have es : (s_X1_isProductLong p0 p1) = (1 : Int32) := by unfold s_X1_isProductLong; rw [if_pos c1]
    exact W.zret (v := (1 : Int32)) hx hb hr (rfl) (fun t ht hW => by rw [es]; exact ⟨rfl, ht⟩) (fun q h => nomatch h) dX1_isProductLong_7

def s_X1_allBitsUpTo (p0 : Int64) : Int64 :=
  pl_sm (pl_sm (pl_sm (pl_sm (pl_sm (pl_sm p0 (1 : Int32)) (2 : Int32)) (4 : Int32)) (8 : Int32)) (16 : Int32)) (32 : Int32)
set_option maxHeartbeats 4000000 in
set_option maxRecDepth 100000 in
theorem c_X1_allBitsUpTo (l : Launch) (p0 : Int64) : Met l yX1_allBitsUpTo wsX1_allBitsUpTo ({ frames := 0, cells := 0, slots := 0, locals := 0 }) (ap [.long p0]) (pq (some (.long (s_X1_allBitsUpTo p0)))) 0 0 (fun _ => False) := by
  refine Met.ofW (cc := cX1_allBitsUpTo) (maxL := 5) (ret := (some .long)) (by decide) rfl ?_
  intro p e s m args below meth c s₁ B hml hv
  have hv : args = ([.long p0] : List Value).toArray := hv
  subst hv
  have hx := B.exec
  have hb := B.bytes
  have hr := B.returns
  have hts := atoms_spec (ws := wsX1_allBitsUpTo) B.pre
  have hown : s.vm.findClass RX1 = some m.cls := findClass_of_methodNamed B.named
  have hlocks := B.notSynchronized
  have hl := lv_entry ([.long p0]) (n := 5) (Nat.le_of_ble_eq_true rfl)
  rw [lg_entry_eq]
  generalize (lg_sl ([.long p0]) ++ List.replicate (5 - (lg_sl ([.long p0])).length) Slot.unset).toArray = ls at hl ⊢
  have hl : lv_has ls 5 [(0, .long p0)] := hl
  refine lv_lload_n hx hb dX1_allBitsUpTo_0 rfl (lv_at hl 0 rfl) ?_
  refine lv_lstore_n (lv' := [(2, .long p0), (0, .long p0)]) hx hb dX1_allBitsUpTo_1 rfl hl (by decide) rfl (fun ls hl => ?_)
  refine lv_iconst (v := (1 : Int32)) hx hb dX1_allBitsUpTo_2 (by decide) ?_
  refine lv_istore (lv' := [(4, .int (1 : Int32)), (2, .long p0), (0, .long p0)]) hx hb dX1_allBitsUpTo_3 hl (by decide) rfl (fun ls hl => ?_)
  refine lv_iload hx hb dX1_allBitsUpTo_5 (lv_at hl 0 rfl) ?_
  refine lv_bipush (v := (64 : Int32)) hx hb dX1_allBitsUpTo_7 (by decide) ?_
  refine pi_icmp_ge (tgt := 28) hx hb dX1_allBitsUpTo_9 (by decide) (fun h => absurd (by decide) h) (fun _ => ?_)
  refine lv_lload_n hx hb dX1_allBitsUpTo_12 rfl (lv_at hl 1 rfl) ?_
  refine lv_lload_n hx hb dX1_allBitsUpTo_13 rfl (lv_at hl 1 rfl) ?_
  refine lv_iload hx hb dX1_allBitsUpTo_14 (lv_at hl 0 rfl) ?_
  refine lv_lushr (v := pl_ushr p0 (1 : Int32)) hx hb dX1_allBitsUpTo_16 rfl ?_
  refine pl_lor (v := pl_sm p0 (1 : Int32)) hx hb dX1_allBitsUpTo_17 rfl ?_
  refine lv_lstore_n (lv' := [(2, .long (pl_sm p0 (1 : Int32))), (4, .int (1 : Int32)), (0, .long p0)]) hx hb dX1_allBitsUpTo_18 rfl hl (by decide) rfl (fun ls hl => ?_)
  refine lv_iload hx hb dX1_allBitsUpTo_19 (lv_at hl 1 rfl) ?_
  refine lv_iconst (v := (2 : Int32)) hx hb dX1_allBitsUpTo_21 (by decide) ?_
  refine pi_imul (v := (2 : Int32)) hx hb dX1_allBitsUpTo_22 (by decide) ?_
  refine lv_istore (lv' := [(4, .int (2 : Int32)), (2, .long (pl_sm p0 (1 : Int32))), (0, .long p0)]) hx hb dX1_allBitsUpTo_23 hl (by decide) rfl (fun ls hl => ?_)
  refine lv_goto (tgt := 5) hx hb dX1_allBitsUpTo_25 (by decide) ?_
  refine lv_iload hx hb dX1_allBitsUpTo_5 (lv_at hl 0 rfl) ?_
  refine lv_bipush (v := (64 : Int32)) hx hb dX1_allBitsUpTo_7 (by decide) ?_
  refine pi_icmp_ge (tgt := 28) hx hb dX1_allBitsUpTo_9 (by decide) (fun h => absurd (by decide) h) (fun _ => ?_)
  refine lv_lload_n hx hb dX1_allBitsUpTo_12 rfl (lv_at hl 1 rfl) ?_
  refine lv_lload_n hx hb dX1_allBitsUpTo_13 rfl (lv_at hl 1 rfl) ?_
  refine lv_iload hx hb dX1_allBitsUpTo_14 (lv_at hl 0 rfl) ?_
  refine lv_lushr (v := pl_ushr (pl_sm p0 (1 : Int32)) (2 : Int32)) hx hb dX1_allBitsUpTo_16 rfl ?_
  refine pl_lor (v := pl_sm (pl_sm p0 (1 : Int32)) (2 : Int32)) hx hb dX1_allBitsUpTo_17 rfl ?_
  refine lv_lstore_n (lv' := [(2, .long (pl_sm (pl_sm p0 (1 : Int32)) (2 : Int32))), (4, .int (2 : Int32)), (0, .long p0)]) hx hb dX1_allBitsUpTo_18 rfl hl (by decide) rfl (fun ls hl => ?_)
  refine lv_iload hx hb dX1_allBitsUpTo_19 (lv_at hl 1 rfl) ?_
  refine lv_iconst (v := (2 : Int32)) hx hb dX1_allBitsUpTo_21 (by decide) ?_
  refine pi_imul (v := (4 : Int32)) hx hb dX1_allBitsUpTo_22 (by decide) ?_
  refine lv_istore (lv' := [(4, .int (4 : Int32)), (2, .long (pl_sm (pl_sm p0 (1 : Int32)) (2 : Int32))), (0, .long p0)]) hx hb dX1_allBitsUpTo_23 hl (by decide) rfl (fun ls hl => ?_)
  refine lv_goto (tgt := 5) hx hb dX1_allBitsUpTo_25 (by decide) ?_
  refine lv_iload hx hb dX1_allBitsUpTo_5 (lv_at hl 0 rfl) ?_
  refine lv_bipush (v := (64 : Int32)) hx hb dX1_allBitsUpTo_7 (by decide) ?_
  refine pi_icmp_ge (tgt := 28) hx hb dX1_allBitsUpTo_9 (by decide) (fun h => absurd (by decide) h) (fun _ => ?_)
  refine lv_lload_n hx hb dX1_allBitsUpTo_12 rfl (lv_at hl 1 rfl) ?_
  refine lv_lload_n hx hb dX1_allBitsUpTo_13 rfl (lv_at hl 1 rfl) ?_
  refine lv_iload hx hb dX1_allBitsUpTo_14 (lv_at hl 0 rfl) ?_
  refine lv_lushr (v := pl_ushr (pl_sm (pl_sm p0 (1 : Int32)) (2 : Int32)) (4 : Int32)) hx hb dX1_allBitsUpTo_16 rfl ?_
  refine pl_lor (v := pl_sm (pl_sm (pl_sm p0 (1 : Int32)) (2 : Int32)) (4 : Int32)) hx hb dX1_allBitsUpTo_17 rfl ?_
  refine lv_lstore_n (lv' := [(2, .long (pl_sm (pl_sm (pl_sm p0 (1 : Int32)) (2 : Int32)) (4 : Int32))), (4, .int (4 : Int32)), (0, .long p0)]) hx hb dX1_allBitsUpTo_18 rfl hl (by decide) rfl (fun ls hl => ?_)
  refine lv_iload hx hb dX1_allBitsUpTo_19 (lv_at hl 1 rfl) ?_
  refine lv_iconst (v := (2 : Int32)) hx hb dX1_allBitsUpTo_21 (by decide) ?_
  refine pi_imul (v := (8 : Int32)) hx hb dX1_allBitsUpTo_22 (by decide) ?_
  refine lv_istore (lv' := [(4, .int (8 : Int32)), (2, .long (pl_sm (pl_sm (pl_sm p0 (1 : Int32)) (2 : Int32)) (4 : Int32))), (0, .long p0)]) hx hb dX1_allBitsUpTo_23 hl (by decide) rfl (fun ls hl => ?_)
  refine lv_goto (tgt := 5) hx hb dX1_allBitsUpTo_25 (by decide) ?_
  refine lv_iload hx hb dX1_allBitsUpTo_5 (lv_at hl 0 rfl) ?_
  refine lv_bipush (v := (64 : Int32)) hx hb dX1_allBitsUpTo_7 (by decide) ?_
  refine pi_icmp_ge (tgt := 28) hx hb dX1_allBitsUpTo_9 (by decide) (fun h => absurd (by decide) h) (fun _ => ?_)
  refine lv_lload_n hx hb dX1_allBitsUpTo_12 rfl (lv_at hl 1 rfl) ?_
  refine lv_lload_n hx hb dX1_allBitsUpTo_13 rfl (lv_at hl 1 rfl) ?_
  refine lv_iload hx hb dX1_allBitsUpTo_14 (lv_at hl 0 rfl) ?_
  refine lv_lushr (v := pl_ushr (pl_sm (pl_sm (pl_sm p0 (1 : Int32)) (2 : Int32)) (4 : Int32)) (8 : Int32)) hx hb dX1_allBitsUpTo_16 rfl ?_
  refine pl_lor (v := pl_sm (pl_sm (pl_sm (pl_sm p0 (1 : Int32)) (2 : Int32)) (4 : Int32)) (8 : Int32)) hx hb dX1_allBitsUpTo_17 rfl ?_
  refine lv_lstore_n (lv' := [(2, .long (pl_sm (pl_sm (pl_sm (pl_sm p0 (1 : Int32)) (2 : Int32)) (4 : Int32)) (8 : Int32))), (4, .int (8 : Int32)), (0, .long p0)]) hx hb dX1_allBitsUpTo_18 rfl hl (by decide) rfl (fun ls hl => ?_)
  refine lv_iload hx hb dX1_allBitsUpTo_19 (lv_at hl 1 rfl) ?_
  refine lv_iconst (v := (2 : Int32)) hx hb dX1_allBitsUpTo_21 (by decide) ?_
  refine pi_imul (v := (16 : Int32)) hx hb dX1_allBitsUpTo_22 (by decide) ?_
  refine lv_istore (lv' := [(4, .int (16 : Int32)), (2, .long (pl_sm (pl_sm (pl_sm (pl_sm p0 (1 : Int32)) (2 : Int32)) (4 : Int32)) (8 : Int32))), (0, .long p0)]) hx hb dX1_allBitsUpTo_23 hl (by decide) rfl (fun ls hl => ?_)
  refine lv_goto (tgt := 5) hx hb dX1_allBitsUpTo_25 (by decide) ?_
  refine lv_iload hx hb dX1_allBitsUpTo_5 (lv_at hl 0 rfl) ?_
  refine lv_bipush (v := (64 : Int32)) hx hb dX1_allBitsUpTo_7 (by decide) ?_
  refine pi_icmp_ge (tgt := 28) hx hb dX1_allBitsUpTo_9 (by decide) (fun h => absurd (by decide) h) (fun _ => ?_)
  refine lv_lload_n hx hb dX1_allBitsUpTo_12 rfl (lv_at hl 1 rfl) ?_
  refine lv_lload_n hx hb dX1_allBitsUpTo_13 rfl (lv_at hl 1 rfl) ?_
  refine lv_iload hx hb dX1_allBitsUpTo_14 (lv_at hl 0 rfl) ?_
  refine lv_lushr (v := pl_ushr (pl_sm (pl_sm (pl_sm (pl_sm p0 (1 : Int32)) (2 : Int32)) (4 : Int32)) (8 : Int32)) (16 : Int32)) hx hb dX1_allBitsUpTo_16 rfl ?_
  refine pl_lor (v := pl_sm (pl_sm (pl_sm (pl_sm (pl_sm p0 (1 : Int32)) (2 : Int32)) (4 : Int32)) (8 : Int32)) (16 : Int32)) hx hb dX1_allBitsUpTo_17 rfl ?_
  refine lv_lstore_n (lv' := [(2, .long (pl_sm (pl_sm (pl_sm (pl_sm (pl_sm p0 (1 : Int32)) (2 : Int32)) (4 : Int32)) (8 : Int32)) (16 : Int32))), (4, .int (16 : Int32)), (0, .long p0)]) hx hb dX1_allBitsUpTo_18 rfl hl (by decide) rfl (fun ls hl => ?_)
  refine lv_iload hx hb dX1_allBitsUpTo_19 (lv_at hl 1 rfl) ?_
  refine lv_iconst (v := (2 : Int32)) hx hb dX1_allBitsUpTo_21 (by decide) ?_
  refine pi_imul (v := (32 : Int32)) hx hb dX1_allBitsUpTo_22 (by decide) ?_
  refine lv_istore (lv' := [(4, .int (32 : Int32)), (2, .long (pl_sm (pl_sm (pl_sm (pl_sm (pl_sm p0 (1 : Int32)) (2 : Int32)) (4 : Int32)) (8 : Int32)) (16 : Int32))), (0, .long p0)]) hx hb dX1_allBitsUpTo_23 hl (by decide) rfl (fun ls hl => ?_)
  refine lv_goto (tgt := 5) hx hb dX1_allBitsUpTo_25 (by decide) ?_
  refine lv_iload hx hb dX1_allBitsUpTo_5 (lv_at hl 0 rfl) ?_
  refine lv_bipush (v := (64 : Int32)) hx hb dX1_allBitsUpTo_7 (by decide) ?_
  refine pi_icmp_ge (tgt := 28) hx hb dX1_allBitsUpTo_9 (by decide) (fun h => absurd (by decide) h) (fun _ => ?_)
  refine lv_lload_n hx hb dX1_allBitsUpTo_12 rfl (lv_at hl 1 rfl) ?_
  refine lv_lload_n hx hb dX1_allBitsUpTo_13 rfl (lv_at hl 1 rfl) ?_
  refine lv_iload hx hb dX1_allBitsUpTo_14 (lv_at hl 0 rfl) ?_
  refine lv_lushr (v := pl_ushr (pl_sm (pl_sm (pl_sm (pl_sm (pl_sm p0 (1 : Int32)) (2 : Int32)) (4 : Int32)) (8 : Int32)) (16 : Int32)) (32 : Int32)) hx hb dX1_allBitsUpTo_16 rfl ?_
  refine pl_lor (v := pl_sm (pl_sm (pl_sm (pl_sm (pl_sm (pl_sm p0 (1 : Int32)) (2 : Int32)) (4 : Int32)) (8 : Int32)) (16 : Int32)) (32 : Int32)) hx hb dX1_allBitsUpTo_17 rfl ?_
  refine lv_lstore_n (lv' := [(2, .long (pl_sm (pl_sm (pl_sm (pl_sm (pl_sm (pl_sm p0 (1 : Int32)) (2 : Int32)) (4 : Int32)) (8 : Int32)) (16 : Int32)) (32 : Int32))), (4, .int (32 : Int32)), (0, .long p0)]) hx hb dX1_allBitsUpTo_18 rfl hl (by decide) rfl (fun ls hl => ?_)
  refine lv_iload hx hb dX1_allBitsUpTo_19 (lv_at hl 1 rfl) ?_
  refine lv_iconst (v := (2 : Int32)) hx hb dX1_allBitsUpTo_21 (by decide) ?_
  refine pi_imul (v := (64 : Int32)) hx hb dX1_allBitsUpTo_22 (by decide) ?_
  refine lv_istore (lv' := [(4, .int (64 : Int32)), (2, .long (pl_sm (pl_sm (pl_sm (pl_sm (pl_sm (pl_sm p0 (1 : Int32)) (2 : Int32)) (4 : Int32)) (8 : Int32)) (16 : Int32)) (32 : Int32))), (0, .long p0)]) hx hb dX1_allBitsUpTo_23 hl (by decide) rfl (fun ls hl => ?_)
  refine lv_goto (tgt := 5) hx hb dX1_allBitsUpTo_25 (by decide) ?_
  refine lv_iload hx hb dX1_allBitsUpTo_5 (lv_at hl 0 rfl) ?_
  refine lv_bipush (v := (64 : Int32)) hx hb dX1_allBitsUpTo_7 (by decide) ?_
  refine pi_icmp_ge (tgt := 28) hx hb dX1_allBitsUpTo_9 (by decide) (fun _ => ?_) (fun h => absurd h (by decide))
  refine lv_lload_n hx hb dX1_allBitsUpTo_28 rfl (lv_at hl 1 rfl) ?_
  have es : (s_X1_allBitsUpTo p0) = pl_sm (pl_sm (pl_sm (pl_sm (pl_sm (pl_sm p0 (1 : Int32)) (2 : Int32)) (4 : Int32)) (8 : Int32)) (16 : Int32)) (32 : Int32) := rfl
  exact W.lret (v := pl_sm (pl_sm (pl_sm (pl_sm (pl_sm (pl_sm p0 (1 : Int32)) (2 : Int32)) (4 : Int32)) (8 : Int32)) (16 : Int32)) (32 : Int32)) hx hb hr (fun t ht hW => by rw [es]; exact ⟨rfl, ht⟩) (fun q h => nomatch h) dX1_allBitsUpTo_29
