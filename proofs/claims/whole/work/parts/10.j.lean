theorem ydS_J13_compare_74951 : yJ13_compare_74951.cls ≠ "java/lang/invoke/MethodHandle" ∧ yJ13_compare_74951.cls ≠ "java/lang/invoke/VarHandle" ∧ (parseMethodDescriptor yJ13_compare_74951.desc).map (fun d => d.parameters.length) = some 2 := by decide +kernel
theorem ydS_J6_numberOfLeadingZeros_0f7a4 : yJ6_numberOfLeadingZeros_0f7a4.cls ≠ "java/lang/invoke/MethodHandle" ∧ yJ6_numberOfLeadingZeros_0f7a4.cls ≠ "java/lang/invoke/VarHandle" ∧ (parseMethodDescriptor yJ6_numberOfLeadingZeros_0f7a4.desc).map (fun d => d.parameters.length) = some 1 := by decide +kernel
def s_J13_divideUnsigned (p0 : Int64) (p1 : Int64) : Int64 :=
  if p1 < (0 : Int64) then pl_ushr (p0 &&& ((p0 - p1) ^^^ (-1 : Int64))) (63 : Int32)
  else (pl_shl ((pl_ushr p0 (1 : Int32)) / p1) (1 : Int32)) + (pl_ushr ((p0 - ((pl_shl ((pl_ushr p0 (1 : Int32)) / p1) (1 : Int32)) * p1)) ||| (((p0 - ((pl_shl ((pl_ushr p0 (1 : Int32)) / p1) (1 : Int32)) * p1)) - p1) ^^^ (-1 : Int64))) (63 : Int32))
set_option maxHeartbeats 4000000 in
set_option maxRecDepth 100000 in
theorem c_J13_divideUnsigned (l : Launch) (p0 : Int64) (p1 : Int64) (hy : ¬ p1 = (0 : Int64)) : Met l yJ13_divideUnsigned_f86c9 wsJ13_divideUnsigned_f86c9 ({ frames := 0, cells := 0, slots := 0, locals := 0 }) (ap [.long p0, .long p1]) (pq (some (.long (s_J13_divideUnsigned p0 p1)))) 0 0 (fun _ => False) := by
  refine Met.ofW (cc := cJ13_divideUnsigned_f86c9) (maxL := 8) (ret := (some .long)) (by decide) rfl ?_
  intro p e s m args below meth c s₁ B hml hv
  have hv : args = ([.long p0, .long p1] : List Value).toArray := hv
  subst hv
  have hx := B.exec
  have hb := B.bytes
  have hr := B.returns
  have hts := atoms_spec (ws := wsJ13_divideUnsigned_f86c9) B.pre
  have hown : s.vm.findClass RJ13 = some m.cls := findClass_of_methodNamed B.named
  have hlocks := B.notSynchronized
  have hl := lv_entry ([.long p0, .long p1]) (n := 8) (Nat.le_of_ble_eq_true rfl)
  rw [lg_entry_eq]
  generalize (lg_sl ([.long p0, .long p1]) ++ List.replicate (8 - (lg_sl ([.long p0, .long p1])).length) Slot.unset).toArray = ls at hl ⊢
  have hl : lv_has ls 8 [(0, .long p0), (2, .long p1)] := hl
  have hw0 := hts (.constantLong RJ13 306 (-1)) (List.mem_of_getElem? (i := 1) rfl)
  refine lv_lload_n hx hb dJ13_divideUnsigned_f86c9_0 rfl (lv_at hl 1 rfl) ?_
  refine lv_lconst (v := (0 : Int64)) hx hb dJ13_divideUnsigned_f86c9_1 (by decide) ?_
  refine pl_lt (tgt := 41) hx hb dJ13_divideUnsigned_f86c9_2 dJ13_divideUnsigned_f86c9_3 (by decide) (fun c1 => ?_) (fun c1 => ?_)
  · refine lv_lload_n hx hb dJ13_divideUnsigned_f86c9_41 rfl (lv_at hl 0 rfl) ?_
    refine lv_lload_n hx hb dJ13_divideUnsigned_f86c9_42 rfl (lv_at hl 0 rfl) ?_
    refine lv_lload_n hx hb dJ13_divideUnsigned_f86c9_43 rfl (lv_at hl 1 rfl) ?_
    refine lv_lsub hx hb dJ13_divideUnsigned_f86c9_44 ?_
    refine lv_ldc2 (v := (-1 : Int64)) hx hb hown hw0 dJ13_divideUnsigned_f86c9_45 ?_
    refine lv_lxor hx hb dJ13_divideUnsigned_f86c9_48 ?_
    refine lv_land hx hb dJ13_divideUnsigned_f86c9_49 ?_
    refine lv_bipush (v := (63 : Int32)) hx hb dJ13_divideUnsigned_f86c9_50 (by decide) ?_
    refine lv_lushr (v := pl_ushr (p0 &&& ((p0 - p1) ^^^ (-1 : Int64))) (63 : Int32)) hx hb dJ13_divideUnsigned_f86c9_52 rfl ?_
    have es : (s_J13_divideUnsigned p0 p1) = pl_ushr (p0 &&& ((p0 - p1) ^^^ (-1 : Int64))) (63 : Int32) := by unfold s_J13_divideUnsigned; rw [if_pos c1]
    exact W.lret (v := pl_ushr (p0 &&& ((p0 - p1) ^^^ (-1 : Int64))) (63 : Int32)) hx hb hr (fun t ht hW => by rw [es]; exact ⟨rfl, ht⟩) (fun q h => nomatch h) dJ13_divideUnsigned_f86c9_53
  · refine lv_lload_n hx hb dJ13_divideUnsigned_f86c9_6 rfl (lv_at hl 0 rfl) ?_
    refine lv_iconst (v := (1 : Int32)) hx hb dJ13_divideUnsigned_f86c9_7 (by decide) ?_
    refine lv_lushr (v := pl_ushr p0 (1 : Int32)) hx hb dJ13_divideUnsigned_f86c9_8 rfl ?_
    refine lv_lload_n hx hb dJ13_divideUnsigned_f86c9_9 rfl (lv_at hl 1 rfl) ?_
    refine lv_ldiv hx hb dJ13_divideUnsigned_f86c9_10 (hy) ?_
    refine lv_iconst (v := (1 : Int32)) hx hb dJ13_divideUnsigned_f86c9_11 (by decide) ?_
    refine lv_lshl (v := pl_shl ((pl_ushr p0 (1 : Int32)) / p1) (1 : Int32)) hx hb dJ13_divideUnsigned_f86c9_12 rfl ?_
    refine lv_lstore (lv' := [(4, .long (pl_shl ((pl_ushr p0 (1 : Int32)) / p1) (1 : Int32))), (0, .long p0), (2, .long p1)]) hx hb dJ13_divideUnsigned_f86c9_13 hl (by decide) rfl (fun ls hl => ?_)
    refine lv_lload_n hx hb dJ13_divideUnsigned_f86c9_15 rfl (lv_at hl 1 rfl) ?_
    refine lv_lload hx hb dJ13_divideUnsigned_f86c9_16 (lv_at hl 0 rfl) ?_
    refine lv_lload_n hx hb dJ13_divideUnsigned_f86c9_18 rfl (lv_at hl 2 rfl) ?_
    refine lv_lmul hx hb dJ13_divideUnsigned_f86c9_19 ?_
    refine lv_lsub hx hb dJ13_divideUnsigned_f86c9_20 ?_
    refine lv_lstore (lv' := [(6, .long (p0 - ((pl_shl ((pl_ushr p0 (1 : Int32)) / p1) (1 : Int32)) * p1))), (4, .long (pl_shl ((pl_ushr p0 (1 : Int32)) / p1) (1 : Int32))), (0, .long p0), (2, .long p1)]) hx hb dJ13_divideUnsigned_f86c9_21 hl (by decide) rfl (fun ls hl => ?_)
    refine lv_lload hx hb dJ13_divideUnsigned_f86c9_23 (lv_at hl 1 rfl) ?_
    refine lv_lload hx hb dJ13_divideUnsigned_f86c9_25 (lv_at hl 0 rfl) ?_
    refine lv_lload hx hb dJ13_divideUnsigned_f86c9_27 (lv_at hl 0 rfl) ?_
    refine lv_lload_n hx hb dJ13_divideUnsigned_f86c9_29 rfl (lv_at hl 3 rfl) ?_
    refine lv_lsub hx hb dJ13_divideUnsigned_f86c9_30 ?_
    refine lv_ldc2 (v := (-1 : Int64)) hx hb hown hw0 dJ13_divideUnsigned_f86c9_31 ?_
    refine lv_lxor hx hb dJ13_divideUnsigned_f86c9_34 ?_
    refine lv_lor hx hb dJ13_divideUnsigned_f86c9_35 ?_
    refine lv_bipush (v := (63 : Int32)) hx hb dJ13_divideUnsigned_f86c9_36 (by decide) ?_
    refine lv_lushr (v := pl_ushr ((p0 - ((pl_shl ((pl_ushr p0 (1 : Int32)) / p1) (1 : Int32)) * p1)) ||| (((p0 - ((pl_shl ((pl_ushr p0 (1 : Int32)) / p1) (1 : Int32)) * p1)) - p1) ^^^ (-1 : Int64))) (63 : Int32)) hx hb dJ13_divideUnsigned_f86c9_38 rfl ?_
    refine lv_ladd hx hb dJ13_divideUnsigned_f86c9_39 ?_
    have es : (s_J13_divideUnsigned p0 p1) = (pl_shl ((pl_ushr p0 (1 : Int32)) / p1) (1 : Int32)) + (pl_ushr ((p0 - ((pl_shl ((pl_ushr p0 (1 : Int32)) / p1) (1 : Int32)) * p1)) ||| (((p0 - ((pl_shl ((pl_ushr p0 (1 : Int32)) / p1) (1 : Int32)) * p1)) - p1) ^^^ (-1 : Int64))) (63 : Int32)) := by unfold s_J13_divideUnsigned; rw [if_neg c1]
    exact W.lret (v := (pl_shl ((pl_ushr p0 (1 : Int32)) / p1) (1 : Int32)) + (pl_ushr ((p0 - ((pl_shl ((pl_ushr p0 (1 : Int32)) / p1) (1 : Int32)) * p1)) ||| (((p0 - ((pl_shl ((pl_ushr p0 (1 : Int32)) / p1) (1 : Int32)) * p1)) - p1) ^^^ (-1 : Int64))) (63 : Int32))) hx hb hr (fun t ht hW => by rw [es]; exact ⟨rfl, ht⟩) (fun q h => nomatch h) dJ13_divideUnsigned_f86c9_40

def s_J13_remainderUnsigned (p0 : Int64) (p1 : Int64) : Int64 :=
  if p1 < (0 : Int64) then p0 - ((pl_shr (p0 &&& ((p0 - p1) ^^^ (-1 : Int64))) (63 : Int32)) &&& p1)
  else (p0 - ((pl_shl ((pl_ushr p0 (1 : Int32)) / p1) (1 : Int32)) * p1)) - ((pl_shr (((p0 - ((pl_shl ((pl_ushr p0 (1 : Int32)) / p1) (1 : Int32)) * p1)) - p1) ^^^ (-1 : Int64)) (63 : Int32)) &&& p1)
set_option maxHeartbeats 4000000 in
set_option maxRecDepth 100000 in
theorem c_J13_remainderUnsigned (l : Launch) (p0 : Int64) (p1 : Int64) (hy : ¬ p1 = (0 : Int64)) : Met l yJ13_remainderUnsigned_f86c9 wsJ13_remainderUnsigned_f86c9 ({ frames := 0, cells := 0, slots := 0, locals := 0 }) (ap [.long p0, .long p1]) (pq (some (.long (s_J13_remainderUnsigned p0 p1)))) 0 0 (fun _ => False) := by
  refine Met.ofW (cc := cJ13_remainderUnsigned_f86c9) (maxL := 8) (ret := (some .long)) (by decide) rfl ?_
  intro p e s m args below meth c s₁ B hml hv
  have hv : args = ([.long p0, .long p1] : List Value).toArray := hv
  subst hv
  have hx := B.exec
  have hb := B.bytes
  have hr := B.returns
  have hts := atoms_spec (ws := wsJ13_remainderUnsigned_f86c9) B.pre
  have hown : s.vm.findClass RJ13 = some m.cls := findClass_of_methodNamed B.named
  have hlocks := B.notSynchronized
  have hl := lv_entry ([.long p0, .long p1]) (n := 8) (Nat.le_of_ble_eq_true rfl)
  rw [lg_entry_eq]
  generalize (lg_sl ([.long p0, .long p1]) ++ List.replicate (8 - (lg_sl ([.long p0, .long p1])).length) Slot.unset).toArray = ls at hl ⊢
  have hl : lv_has ls 8 [(0, .long p0), (2, .long p1)] := hl
  have hw0 := hts (.constantLong RJ13 306 (-1)) (List.mem_of_getElem? (i := 1) rfl)
  refine lv_lload_n hx hb dJ13_remainderUnsigned_f86c9_0 rfl (lv_at hl 1 rfl) ?_
  refine lv_lconst (v := (0 : Int64)) hx hb dJ13_remainderUnsigned_f86c9_1 (by decide) ?_
  refine pl_lt (tgt := 40) hx hb dJ13_remainderUnsigned_f86c9_2 dJ13_remainderUnsigned_f86c9_3 (by decide) (fun c1 => ?_) (fun c1 => ?_)
  · refine lv_lload_n hx hb dJ13_remainderUnsigned_f86c9_40 rfl (lv_at hl 0 rfl) ?_
    refine lv_lload_n hx hb dJ13_remainderUnsigned_f86c9_41 rfl (lv_at hl 0 rfl) ?_
    refine lv_lload_n hx hb dJ13_remainderUnsigned_f86c9_42 rfl (lv_at hl 0 rfl) ?_
    refine lv_lload_n hx hb dJ13_remainderUnsigned_f86c9_43 rfl (lv_at hl 1 rfl) ?_
    refine lv_lsub hx hb dJ13_remainderUnsigned_f86c9_44 ?_
    refine lv_ldc2 (v := (-1 : Int64)) hx hb hown hw0 dJ13_remainderUnsigned_f86c9_45 ?_
    refine lv_lxor hx hb dJ13_remainderUnsigned_f86c9_48 ?_
    refine lv_land hx hb dJ13_remainderUnsigned_f86c9_49 ?_
    refine lv_bipush (v := (63 : Int32)) hx hb dJ13_remainderUnsigned_f86c9_50 (by decide) ?_
    refine lv_lshr (v := pl_shr (p0 &&& ((p0 - p1) ^^^ (-1 : Int64))) (63 : Int32)) hx hb dJ13_remainderUnsigned_f86c9_52 rfl ?_
    refine lv_lload_n hx hb dJ13_remainderUnsigned_f86c9_53 rfl (lv_at hl 1 rfl) ?_
    refine lv_land hx hb dJ13_remainderUnsigned_f86c9_54 ?_
    refine lv_lsub hx hb dJ13_remainderUnsigned_f86c9_55 ?_
    have es : (s_J13_remainderUnsigned p0 p1) = p0 - ((pl_shr (p0 &&& ((p0 - p1) ^^^ (-1 : Int64))) (63 : Int32)) &&& p1) := by unfold s_J13_remainderUnsigned; rw [if_pos c1]
    exact W.lret (v := p0 - ((pl_shr (p0 &&& ((p0 - p1) ^^^ (-1 : Int64))) (63 : Int32)) &&& p1)) hx hb hr (fun t ht hW => by rw [es]; exact ⟨rfl, ht⟩) (fun q h => nomatch h) dJ13_remainderUnsigned_f86c9_56
  · refine lv_lload_n hx hb dJ13_remainderUnsigned_f86c9_6 rfl (lv_at hl 0 rfl) ?_
    refine lv_iconst (v := (1 : Int32)) hx hb dJ13_remainderUnsigned_f86c9_7 (by decide) ?_
    refine lv_lushr (v := pl_ushr p0 (1 : Int32)) hx hb dJ13_remainderUnsigned_f86c9_8 rfl ?_
    refine lv_lload_n hx hb dJ13_remainderUnsigned_f86c9_9 rfl (lv_at hl 1 rfl) ?_
    refine lv_ldiv hx hb dJ13_remainderUnsigned_f86c9_10 (hy) ?_
    refine lv_iconst (v := (1 : Int32)) hx hb dJ13_remainderUnsigned_f86c9_11 (by decide) ?_
    refine lv_lshl (v := pl_shl ((pl_ushr p0 (1 : Int32)) / p1) (1 : Int32)) hx hb dJ13_remainderUnsigned_f86c9_12 rfl ?_
    refine lv_lstore (lv' := [(4, .long (pl_shl ((pl_ushr p0 (1 : Int32)) / p1) (1 : Int32))), (0, .long p0), (2, .long p1)]) hx hb dJ13_remainderUnsigned_f86c9_13 hl (by decide) rfl (fun ls hl => ?_)
    refine lv_lload_n hx hb dJ13_remainderUnsigned_f86c9_15 rfl (lv_at hl 1 rfl) ?_
    refine lv_lload hx hb dJ13_remainderUnsigned_f86c9_16 (lv_at hl 0 rfl) ?_
    refine lv_lload_n hx hb dJ13_remainderUnsigned_f86c9_18 rfl (lv_at hl 2 rfl) ?_
    refine lv_lmul hx hb dJ13_remainderUnsigned_f86c9_19 ?_
    refine lv_lsub hx hb dJ13_remainderUnsigned_f86c9_20 ?_
    refine lv_lstore (lv' := [(6, .long (p0 - ((pl_shl ((pl_ushr p0 (1 : Int32)) / p1) (1 : Int32)) * p1))), (4, .long (pl_shl ((pl_ushr p0 (1 : Int32)) / p1) (1 : Int32))), (0, .long p0), (2, .long p1)]) hx hb dJ13_remainderUnsigned_f86c9_21 hl (by decide) rfl (fun ls hl => ?_)
    refine lv_lload hx hb dJ13_remainderUnsigned_f86c9_23 (lv_at hl 0 rfl) ?_
    refine lv_lload hx hb dJ13_remainderUnsigned_f86c9_25 (lv_at hl 0 rfl) ?_
    refine lv_lload_n hx hb dJ13_remainderUnsigned_f86c9_27 rfl (lv_at hl 3 rfl) ?_
    refine lv_lsub hx hb dJ13_remainderUnsigned_f86c9_28 ?_
    refine lv_ldc2 (v := (-1 : Int64)) hx hb hown hw0 dJ13_remainderUnsigned_f86c9_29 ?_
    refine lv_lxor hx hb dJ13_remainderUnsigned_f86c9_32 ?_
    refine lv_bipush (v := (63 : Int32)) hx hb dJ13_remainderUnsigned_f86c9_33 (by decide) ?_
    refine lv_lshr (v := pl_shr (((p0 - ((pl_shl ((pl_ushr p0 (1 : Int32)) / p1) (1 : Int32)) * p1)) - p1) ^^^ (-1 : Int64)) (63 : Int32)) hx hb dJ13_remainderUnsigned_f86c9_35 rfl ?_
    refine lv_lload_n hx hb dJ13_remainderUnsigned_f86c9_36 rfl (lv_at hl 3 rfl) ?_
    refine lv_land hx hb dJ13_remainderUnsigned_f86c9_37 ?_
    refine lv_lsub hx hb dJ13_remainderUnsigned_f86c9_38 ?_
    have es : (s_J13_remainderUnsigned p0 p1) = (p0 - ((pl_shl ((pl_ushr p0 (1 : Int32)) / p1) (1 : Int32)) * p1)) - ((pl_shr (((p0 - ((pl_shl ((pl_ushr p0 (1 : Int32)) / p1) (1 : Int32)) * p1)) - p1) ^^^ (-1 : Int64)) (63 : Int32)) &&& p1) := by unfold s_J13_remainderUnsigned; rw [if_neg c1]
    exact W.lret (v := (p0 - ((pl_shl ((pl_ushr p0 (1 : Int32)) / p1) (1 : Int32)) * p1)) - ((pl_shr (((p0 - ((pl_shl ((pl_ushr p0 (1 : Int32)) / p1) (1 : Int32)) * p1)) - p1) ^^^ (-1 : Int64)) (63 : Int32)) &&& p1)) hx hb hr (fun t ht hW => by rw [es]; exact ⟨rfl, ht⟩) (fun q h => nomatch h) dJ13_remainderUnsigned_f86c9_39

def s_J6_nlz (p0 : Int32) : Int32 :=
  if (0 : Int32) < p0 then (if p0 < (65536 : Int32) then (if p0 < (256 : Int32) then (if p0 < (16 : Int32) then (if p0 < (4 : Int32) then (31 : Int32) - (pi_ushr p0 (1 : Int32))
          else (29 : Int32) - (pi_ushr (pi_ushr p0 (2 : Int32)) (1 : Int32)))
        else if pi_ushr p0 (4 : Int32) < (4 : Int32) then (27 : Int32) - (pi_ushr (pi_ushr p0 (4 : Int32)) (1 : Int32))
        else (25 : Int32) - (pi_ushr (pi_ushr (pi_ushr p0 (4 : Int32)) (2 : Int32)) (1 : Int32)))
      else if pi_ushr p0 (8 : Int32) < (16 : Int32) then (if pi_ushr p0 (8 : Int32) < (4 : Int32) then (23 : Int32) - (pi_ushr (pi_ushr p0 (8 : Int32)) (1 : Int32))
        else (21 : Int32) - (pi_ushr (pi_ushr (pi_ushr p0 (8 : Int32)) (2 : Int32)) (1 : Int32)))
      else if pi_ushr (pi_ushr p0 (8 : Int32)) (4 : Int32) < (4 : Int32) then (19 : Int32) - (pi_ushr (pi_ushr (pi_ushr p0 (8 : Int32)) (4 : Int32)) (1 : Int32))
      else (17 : Int32) - (pi_ushr (pi_ushr (pi_ushr (pi_ushr p0 (8 : Int32)) (4 : Int32)) (2 : Int32)) (1 : Int32)))
    else if pi_ushr p0 (16 : Int32) < (256 : Int32) then (if pi_ushr p0 (16 : Int32) < (16 : Int32) then (if pi_ushr p0 (16 : Int32) < (4 : Int32) then (15 : Int32) - (pi_ushr (pi_ushr p0 (16 : Int32)) (1 : Int32))
        else (13 : Int32) - (pi_ushr (pi_ushr (pi_ushr p0 (16 : Int32)) (2 : Int32)) (1 : Int32)))
      else if pi_ushr (pi_ushr p0 (16 : Int32)) (4 : Int32) < (4 : Int32) then (11 : Int32) - (pi_ushr (pi_ushr (pi_ushr p0 (16 : Int32)) (4 : Int32)) (1 : Int32))
      else (9 : Int32) - (pi_ushr (pi_ushr (pi_ushr (pi_ushr p0 (16 : Int32)) (4 : Int32)) (2 : Int32)) (1 : Int32)))
    else if pi_ushr (pi_ushr p0 (16 : Int32)) (8 : Int32) < (16 : Int32) then (if pi_ushr (pi_ushr p0 (16 : Int32)) (8 : Int32) < (4 : Int32) then (7 : Int32) - (pi_ushr (pi_ushr (pi_ushr p0 (16 : Int32)) (8 : Int32)) (1 : Int32))
      else (5 : Int32) - (pi_ushr (pi_ushr (pi_ushr (pi_ushr p0 (16 : Int32)) (8 : Int32)) (2 : Int32)) (1 : Int32)))
    else if pi_ushr (pi_ushr (pi_ushr p0 (16 : Int32)) (8 : Int32)) (4 : Int32) < (4 : Int32) then (3 : Int32) - (pi_ushr (pi_ushr (pi_ushr (pi_ushr p0 (16 : Int32)) (8 : Int32)) (4 : Int32)) (1 : Int32))
    else (1 : Int32) - (pi_ushr (pi_ushr (pi_ushr (pi_ushr (pi_ushr p0 (16 : Int32)) (8 : Int32)) (4 : Int32)) (2 : Int32)) (1 : Int32)))
  else if p0 = (0 : Int32) then (32 : Int32)
  else (0 : Int32)
set_option maxHeartbeats 4000000 in
set_option maxRecDepth 100000 in
theorem c_J6_nlz (l : Launch) (p0 : Int32) : Met l yJ6_numberOfLeadingZeros_0f7a4 wsJ6_numberOfLeadingZeros_0f7a4 ({ frames := 0, cells := 0, slots := 0, locals := 0 }) (ap [.int p0]) (pq (some (.int (s_J6_nlz p0)))) 0 0 (fun _ => False) := by
  refine Met.ofW (cc := cJ6_numberOfLeadingZeros_0f7a4) (maxL := 2) (ret := (some .int)) (by decide) rfl ?_
  intro p e s m args below meth c s₁ B hml hv
  have hv : args = ([.int p0] : List Value).toArray := hv
  subst hv
  have hx := B.exec
  have hb := B.bytes
  have hr := B.returns
  have hts := atoms_spec (ws := wsJ6_numberOfLeadingZeros_0f7a4) B.pre
  have hown : s.vm.findClass RJ6 = some m.cls := findClass_of_methodNamed B.named
  have hlocks := B.notSynchronized
  have hl := lv_entry ([.int p0]) (n := 2) (Nat.le_of_ble_eq_true rfl)
  rw [lg_entry_eq]
  generalize (lg_sl ([.int p0]) ++ List.replicate (2 - (lg_sl ([.int p0])).length) Slot.unset).toArray = ls at hl ⊢
  have hl : lv_has ls 2 [(0, .int p0)] := hl
  have hw0 := hts (.constant RJ6 264 (65536)) (List.mem_of_getElem? (i := 1) rfl)
  refine lv_iload_n hx hb dJ6_numberOfLeadingZeros_0f7a4_0 rfl (lv_at hl 0 rfl) ?_
  refine lv_if_gt (tgt := 15) hx hb dJ6_numberOfLeadingZeros_0f7a4_1 (by decide) (fun c1 => ?_) (fun c1 => ?_)
  · refine lv_bipush (v := (31 : Int32)) hx hb dJ6_numberOfLeadingZeros_0f7a4_15 (by decide) ?_
    refine lv_istore_n (lv' := [(1, .int (31 : Int32)), (0, .int p0)]) hx hb dJ6_numberOfLeadingZeros_0f7a4_17 rfl hl (by decide) rfl (fun ls hl => ?_)
    refine lv_iload_n hx hb dJ6_numberOfLeadingZeros_0f7a4_18 rfl (lv_at hl 1 rfl) ?_
    refine lv_ldcw (v := (65536 : Int32)) hx hb hown hw0 dJ6_numberOfLeadingZeros_0f7a4_19 ?_
    refine lv_icmp_lt (tgt := 33) hx hb dJ6_numberOfLeadingZeros_0f7a4_22 (by decide) (fun c2 => ?_) (fun c2 => ?_)
    · refine lv_iload_n hx hb dJ6_numberOfLeadingZeros_0f7a4_33 rfl (lv_at hl 1 rfl) ?_
      refine lv_sipush (v := (256 : Int32)) hx hb dJ6_numberOfLeadingZeros_0f7a4_34 (by decide) ?_
      refine lv_icmp_lt (tgt := 48) hx hb dJ6_numberOfLeadingZeros_0f7a4_37 (by decide) (fun c3 => ?_) (fun c3 => ?_)
      · refine lv_iload_n hx hb dJ6_numberOfLeadingZeros_0f7a4_48 rfl (lv_at hl 1 rfl) ?_
        refine lv_bipush (v := (16 : Int32)) hx hb dJ6_numberOfLeadingZeros_0f7a4_49 (by decide) ?_
        refine lv_icmp_lt (tgt := 61) hx hb dJ6_numberOfLeadingZeros_0f7a4_51 (by decide) (fun c4 => ?_) (fun c4 => ?_)
        · refine lv_iload_n hx hb dJ6_numberOfLeadingZeros_0f7a4_61 rfl (lv_at hl 1 rfl) ?_
          refine lv_iconst (v := (4 : Int32)) hx hb dJ6_numberOfLeadingZeros_0f7a4_62 (by decide) ?_
          refine lv_icmp_lt (tgt := 73) hx hb dJ6_numberOfLeadingZeros_0f7a4_63 (by decide) (fun c5 => ?_) (fun c5 => ?_)
          · refine lv_iload_n hx hb dJ6_numberOfLeadingZeros_0f7a4_73 rfl (lv_at hl 0 rfl) ?_
            refine lv_iload_n hx hb dJ6_numberOfLeadingZeros_0f7a4_74 rfl (lv_at hl 1 rfl) ?_
            refine lv_iconst (v := (1 : Int32)) hx hb dJ6_numberOfLeadingZeros_0f7a4_75 (by decide) ?_
            refine lv_iushr (v := pi_ushr p0 (1 : Int32)) hx hb dJ6_numberOfLeadingZeros_0f7a4_76 rfl ?_
            refine lv_isub hx hb dJ6_numberOfLeadingZeros_0f7a4_77 ?_
            have es : (s_J6_nlz p0) = (31 : Int32) - (pi_ushr p0 (1 : Int32)) := by unfold s_J6_nlz; rw [if_pos c1, if_pos c2, if_pos c3, if_pos c4, if_pos c5]
            exact W.iret (v := (31 : Int32) - (pi_ushr p0 (1 : Int32))) hx hb hr (fun t ht hW => by rw [es]; exact ⟨rfl, ht⟩) (fun q h => nomatch h) dJ6_numberOfLeadingZeros_0f7a4_78
          · refine lv_iinc (v := (29 : Int32)) (lv' := [(1, .int (29 : Int32)), (0, .int p0)]) hx hb dJ6_numberOfLeadingZeros_0f7a4_66 hl (k := 0) rfl (by decide) (by decide) rfl (fun ls hl => ?_)
            refine lv_iload_n hx hb dJ6_numberOfLeadingZeros_0f7a4_69 rfl (lv_at hl 1 rfl) ?_
            refine lv_iconst (v := (2 : Int32)) hx hb dJ6_numberOfLeadingZeros_0f7a4_70 (by decide) ?_
            refine lv_iushr (v := pi_ushr p0 (2 : Int32)) hx hb dJ6_numberOfLeadingZeros_0f7a4_71 rfl ?_
            refine lv_istore_n (lv' := [(0, .int (pi_ushr p0 (2 : Int32))), (1, .int (29 : Int32))]) hx hb dJ6_numberOfLeadingZeros_0f7a4_72 rfl hl (by decide) rfl (fun ls hl => ?_)
            refine lv_iload_n hx hb dJ6_numberOfLeadingZeros_0f7a4_73 rfl (lv_at hl 1 rfl) ?_
            refine lv_iload_n hx hb dJ6_numberOfLeadingZeros_0f7a4_74 rfl (lv_at hl 0 rfl) ?_
            refine lv_iconst (v := (1 : Int32)) hx hb dJ6_numberOfLeadingZeros_0f7a4_75 (by decide) ?_
            refine lv_iushr (v := pi_ushr (pi_ushr p0 (2 : Int32)) (1 : Int32)) hx hb dJ6_numberOfLeadingZeros_0f7a4_76 rfl ?_
            refine lv_isub hx hb dJ6_numberOfLeadingZeros_0f7a4_77 ?_
            have es : (s_J6_nlz p0) = (29 : Int32) - (pi_ushr (pi_ushr p0 (2 : Int32)) (1 : Int32)) := by unfold s_J6_nlz; rw [if_pos c1, if_pos c2, if_pos c3, if_pos c4, if_neg c5]
            exact W.iret (v := (29 : Int32) - (pi_ushr (pi_ushr p0 (2 : Int32)) (1 : Int32))) hx hb hr (fun t ht hW => by rw [es]; exact ⟨rfl, ht⟩) (fun q h => nomatch h) dJ6_numberOfLeadingZeros_0f7a4_78
        · refine lv_iinc (v := (27 : Int32)) (lv' := [(1, .int (27 : Int32)), (0, .int p0)]) hx hb dJ6_numberOfLeadingZeros_0f7a4_54 hl (k := 0) rfl (by decide) (by decide) rfl (fun ls hl => ?_)
          refine lv_iload_n hx hb dJ6_numberOfLeadingZeros_0f7a4_57 rfl (lv_at hl 1 rfl) ?_
          refine lv_iconst (v := (4 : Int32)) hx hb dJ6_numberOfLeadingZeros_0f7a4_58 (by decide) ?_
          refine lv_iushr (v := pi_ushr p0 (4 : Int32)) hx hb dJ6_numberOfLeadingZeros_0f7a4_59 rfl ?_
          refine lv_istore_n (lv' := [(0, .int (pi_ushr p0 (4 : Int32))), (1, .int (27 : Int32))]) hx hb dJ6_numberOfLeadingZeros_0f7a4_60 rfl hl (by decide) rfl (fun ls hl => ?_)
          refine lv_iload_n hx hb dJ6_numberOfLeadingZeros_0f7a4_61 rfl (lv_at hl 0 rfl) ?_
          refine lv_iconst (v := (4 : Int32)) hx hb dJ6_numberOfLeadingZeros_0f7a4_62 (by decide) ?_
          refine lv_icmp_lt (tgt := 73) hx hb dJ6_numberOfLeadingZeros_0f7a4_63 (by decide) (fun c6 => ?_) (fun c6 => ?_)
          · refine lv_iload_n hx hb dJ6_numberOfLeadingZeros_0f7a4_73 rfl (lv_at hl 1 rfl) ?_
            refine lv_iload_n hx hb dJ6_numberOfLeadingZeros_0f7a4_74 rfl (lv_at hl 0 rfl) ?_
            refine lv_iconst (v := (1 : Int32)) hx hb dJ6_numberOfLeadingZeros_0f7a4_75 (by decide) ?_
            refine lv_iushr (v := pi_ushr (pi_ushr p0 (4 : Int32)) (1 : Int32)) hx hb dJ6_numberOfLeadingZeros_0f7a4_76 rfl ?_
            refine lv_isub hx hb dJ6_numberOfLeadingZeros_0f7a4_77 ?_
            have es : (s_J6_nlz p0) = (27 : Int32) - (pi_ushr (pi_ushr p0 (4 : Int32)) (1 : Int32)) := by unfold s_J6_nlz; rw [if_pos c1, if_pos c2, if_pos c3, if_neg c4, if_pos c6]
            exact W.iret (v := (27 : Int32) - (pi_ushr (pi_ushr p0 (4 : Int32)) (1 : Int32))) hx hb hr (fun t ht hW => by rw [es]; exact ⟨rfl, ht⟩) (fun q h => nomatch h) dJ6_numberOfLeadingZeros_0f7a4_78
          · refine lv_iinc (v := (25 : Int32)) (lv' := [(1, .int (25 : Int32)), (0, .int (pi_ushr p0 (4 : Int32)))]) hx hb dJ6_numberOfLeadingZeros_0f7a4_66 hl (k := 1) rfl (by decide) (by decide) rfl (fun ls hl => ?_)
            refine lv_iload_n hx hb dJ6_numberOfLeadingZeros_0f7a4_69 rfl (lv_at hl 1 rfl) ?_
            refine lv_iconst (v := (2 : Int32)) hx hb dJ6_numberOfLeadingZeros_0f7a4_70 (by decide) ?_
            refine lv_iushr (v := pi_ushr (pi_ushr p0 (4 : Int32)) (2 : Int32)) hx hb dJ6_numberOfLeadingZeros_0f7a4_71 rfl ?_
            refine lv_istore_n (lv' := [(0, .int (pi_ushr (pi_ushr p0 (4 : Int32)) (2 : Int32))), (1, .int (25 : Int32))]) hx hb dJ6_numberOfLeadingZeros_0f7a4_72 rfl hl (by decide) rfl (fun ls hl => ?_)
            refine lv_iload_n hx hb dJ6_numberOfLeadingZeros_0f7a4_73 rfl (lv_at hl 1 rfl) ?_
            refine lv_iload_n hx hb dJ6_numberOfLeadingZeros_0f7a4_74 rfl (lv_at hl 0 rfl) ?_
            refine lv_iconst (v := (1 : Int32)) hx hb dJ6_numberOfLeadingZeros_0f7a4_75 (by decide) ?_
            refine lv_iushr (v := pi_ushr (pi_ushr (pi_ushr p0 (4 : Int32)) (2 : Int32)) (1 : Int32)) hx hb dJ6_numberOfLeadingZeros_0f7a4_76 rfl ?_
            refine lv_isub hx hb dJ6_numberOfLeadingZeros_0f7a4_77 ?_
            have es : (s_J6_nlz p0) = (25 : Int32) - (pi_ushr (pi_ushr (pi_ushr p0 (4 : Int32)) (2 : Int32)) (1 : Int32)) := by unfold s_J6_nlz; rw [if_pos c1, if_pos c2, if_pos c3, if_neg c4, if_neg c6]
            exact W.iret (v := (25 : Int32) - (pi_ushr (pi_ushr (pi_ushr p0 (4 : Int32)) (2 : Int32)) (1 : Int32))) hx hb hr (fun t ht hW => by rw [es]; exact ⟨rfl, ht⟩) (fun q h => nomatch h) dJ6_numberOfLeadingZeros_0f7a4_78
      · refine lv_iinc (v := (23 : Int32)) (lv' := [(1, .int (23 : Int32)), (0, .int p0)]) hx hb dJ6_numberOfLeadingZeros_0f7a4_40 hl (k := 0) rfl (by decide) (by decide) rfl (fun ls hl => ?_)
        refine lv_iload_n hx hb dJ6_numberOfLeadingZeros_0f7a4_43 rfl (lv_at hl 1 rfl) ?_
        refine lv_bipush (v := (8 : Int32)) hx hb dJ6_numberOfLeadingZeros_0f7a4_44 (by decide) ?_
        refine lv_iushr (v := pi_ushr p0 (8 : Int32)) hx hb dJ6_numberOfLeadingZeros_0f7a4_46 rfl ?_
        refine lv_istore_n (lv' := [(0, .int (pi_ushr p0 (8 : Int32))), (1, .int (23 : Int32))]) hx hb dJ6_numberOfLeadingZeros_0f7a4_47 rfl hl (by decide) rfl (fun ls hl => ?_)
        refine lv_iload_n hx hb dJ6_numberOfLeadingZeros_0f7a4_48 rfl (lv_at hl 0 rfl) ?_
        refine lv_bipush (v := (16 : Int32)) hx hb dJ6_numberOfLeadingZeros_0f7a4_49 (by decide) ?_
        refine lv_icmp_lt (tgt := 61) hx hb dJ6_numberOfLeadingZeros_0f7a4_51 (by decide) (fun c7 => ?_) (fun c7 => ?_)
        · refine lv_iload_n hx hb dJ6_numberOfLeadingZeros_0f7a4_61 rfl (lv_at hl 0 rfl) ?_
          refine lv_iconst (v := (4 : Int32)) hx hb dJ6_numberOfLeadingZeros_0f7a4_62 (by decide) ?_
          refine lv_icmp_lt (tgt := 73) hx hb dJ6_numberOfLeadingZeros_0f7a4_63 (by decide) (fun c8 => ?_) (fun c8 => ?_)
          · refine lv_iload_n hx hb dJ6_numberOfLeadingZeros_0f7a4_73 rfl (lv_at hl 1 rfl) ?_
            refine lv_iload_n hx hb dJ6_numberOfLeadingZeros_0f7a4_74 rfl (lv_at hl 0 rfl) ?_
            refine lv_iconst (v := (1 : Int32)) hx hb dJ6_numberOfLeadingZeros_0f7a4_75 (by decide) ?_
            refine lv_iushr (v := pi_ushr (pi_ushr p0 (8 : Int32)) (1 : Int32)) hx hb dJ6_numberOfLeadingZeros_0f7a4_76 rfl ?_
            refine lv_isub hx hb dJ6_numberOfLeadingZeros_0f7a4_77 ?_
            have es : (s_J6_nlz p0) = (23 : Int32) - (pi_ushr (pi_ushr p0 (8 : Int32)) (1 : Int32)) := by unfold s_J6_nlz; rw [if_pos c1, if_pos c2, if_neg c3, if_pos c7, if_pos c8]
            exact W.iret (v := (23 : Int32) - (pi_ushr (pi_ushr p0 (8 : Int32)) (1 : Int32))) hx hb hr (fun t ht hW => by rw [es]; exact ⟨rfl, ht⟩) (fun q h => nomatch h) dJ6_numberOfLeadingZeros_0f7a4_78
          · refine lv_iinc (v := (21 : Int32)) (lv' := [(1, .int (21 : Int32)), (0, .int (pi_ushr p0 (8 : Int32)))]) hx hb dJ6_numberOfLeadingZeros_0f7a4_66 hl (k := 1) rfl (by decide) (by decide) rfl (fun ls hl => ?_)
            refine lv_iload_n hx hb dJ6_numberOfLeadingZeros_0f7a4_69 rfl (lv_at hl 1 rfl) ?_
            refine lv_iconst (v := (2 : Int32)) hx hb dJ6_numberOfLeadingZeros_0f7a4_70 (by decide) ?_
            refine lv_iushr (v := pi_ushr (pi_ushr p0 (8 : Int32)) (2 : Int32)) hx hb dJ6_numberOfLeadingZeros_0f7a4_71 rfl ?_
            refine lv_istore_n (lv' := [(0, .int (pi_ushr (pi_ushr p0 (8 : Int32)) (2 : Int32))), (1, .int (21 : Int32))]) hx hb dJ6_numberOfLeadingZeros_0f7a4_72 rfl hl (by decide) rfl (fun ls hl => ?_)
            refine lv_iload_n hx hb dJ6_numberOfLeadingZeros_0f7a4_73 rfl (lv_at hl 1 rfl) ?_
            refine lv_iload_n hx hb dJ6_numberOfLeadingZeros_0f7a4_74 rfl (lv_at hl 0 rfl) ?_
            refine lv_iconst (v := (1 : Int32)) hx hb dJ6_numberOfLeadingZeros_0f7a4_75 (by decide) ?_
            refine lv_iushr (v := pi_ushr (pi_ushr (pi_ushr p0 (8 : Int32)) (2 : Int32)) (1 : Int32)) hx hb dJ6_numberOfLeadingZeros_0f7a4_76 rfl ?_
            refine lv_isub hx hb dJ6_numberOfLeadingZeros_0f7a4_77 ?_
            have es : (s_J6_nlz p0) = (21 : Int32) - (pi_ushr (pi_ushr (pi_ushr p0 (8 : Int32)) (2 : Int32)) (1 : Int32)) := by unfold s_J6_nlz; rw [if_pos c1, if_pos c2, if_neg c3, if_pos c7, if_neg c8]
            exact W.iret (v := (21 : Int32) - (pi_ushr (pi_ushr (pi_ushr p0 (8 : Int32)) (2 : Int32)) (1 : Int32))) hx hb hr (fun t ht hW => by rw [es]; exact ⟨rfl, ht⟩) (fun q h => nomatch h) dJ6_numberOfLeadingZeros_0f7a4_78
        · refine lv_iinc (v := (19 : Int32)) (lv' := [(1, .int (19 : Int32)), (0, .int (pi_ushr p0 (8 : Int32)))]) hx hb dJ6_numberOfLeadingZeros_0f7a4_54 hl (k := 1) rfl (by decide) (by decide) rfl (fun ls hl => ?_)
          refine lv_iload_n hx hb dJ6_numberOfLeadingZeros_0f7a4_57 rfl (lv_at hl 1 rfl) ?_
          refine lv_iconst (v := (4 : Int32)) hx hb dJ6_numberOfLeadingZeros_0f7a4_58 (by decide) ?_
          refine lv_iushr (v := pi_ushr (pi_ushr p0 (8 : Int32)) (4 : Int32)) hx hb dJ6_numberOfLeadingZeros_0f7a4_59 rfl ?_
          refine lv_istore_n (lv' := [(0, .int (pi_ushr (pi_ushr p0 (8 : Int32)) (4 : Int32))), (1, .int (19 : Int32))]) hx hb dJ6_numberOfLeadingZeros_0f7a4_60 rfl hl (by decide) rfl (fun ls hl => ?_)
          refine lv_iload_n hx hb dJ6_numberOfLeadingZeros_0f7a4_61 rfl (lv_at hl 0 rfl) ?_
          refine lv_iconst (v := (4 : Int32)) hx hb dJ6_numberOfLeadingZeros_0f7a4_62 (by decide) ?_
          refine lv_icmp_lt (tgt := 73) hx hb dJ6_numberOfLeadingZeros_0f7a4_63 (by decide) (fun c9 => ?_) (fun c9 => ?_)
          · refine lv_iload_n hx hb dJ6_numberOfLeadingZeros_0f7a4_73 rfl (lv_at hl 1 rfl) ?_
            refine lv_iload_n hx hb dJ6_numberOfLeadingZeros_0f7a4_74 rfl (lv_at hl 0 rfl) ?_
            refine lv_iconst (v := (1 : Int32)) hx hb dJ6_numberOfLeadingZeros_0f7a4_75 (by decide) ?_
            refine lv_iushr (v := pi_ushr (pi_ushr (pi_ushr p0 (8 : Int32)) (4 : Int32)) (1 : Int32)) hx hb dJ6_numberOfLeadingZeros_0f7a4_76 rfl ?_
            refine lv_isub hx hb dJ6_numberOfLeadingZeros_0f7a4_77 ?_
            have es : (s_J6_nlz p0) = (19 : Int32) - (pi_ushr (pi_ushr (pi_ushr p0 (8 : Int32)) (4 : Int32)) (1 : Int32)) := by unfold s_J6_nlz; rw [if_pos c1, if_pos c2, if_neg c3, if_neg c7, if_pos c9]
            exact W.iret (v := (19 : Int32) - (pi_ushr (pi_ushr (pi_ushr p0 (8 : Int32)) (4 : Int32)) (1 : Int32))) hx hb hr (fun t ht hW => by rw [es]; exact ⟨rfl, ht⟩) (fun q h => nomatch h) dJ6_numberOfLeadingZeros_0f7a4_78
          · refine lv_iinc (v := (17 : Int32)) (lv' := [(1, .int (17 : Int32)), (0, .int (pi_ushr (pi_ushr p0 (8 : Int32)) (4 : Int32)))]) hx hb dJ6_numberOfLeadingZeros_0f7a4_66 hl (k := 1) rfl (by decide) (by decide) rfl (fun ls hl => ?_)
            refine lv_iload_n hx hb dJ6_numberOfLeadingZeros_0f7a4_69 rfl (lv_at hl 1 rfl) ?_
            refine lv_iconst (v := (2 : Int32)) hx hb dJ6_numberOfLeadingZeros_0f7a4_70 (by decide) ?_
            refine lv_iushr (v := pi_ushr (pi_ushr (pi_ushr p0 (8 : Int32)) (4 : Int32)) (2 : Int32)) hx hb dJ6_numberOfLeadingZeros_0f7a4_71 rfl ?_
            refine lv_istore_n (lv' := [(0, .int (pi_ushr (pi_ushr (pi_ushr p0 (8 : Int32)) (4 : Int32)) (2 : Int32))), (1, .int (17 : Int32))]) hx hb dJ6_numberOfLeadingZeros_0f7a4_72 rfl hl (by decide) rfl (fun ls hl => ?_)
            refine lv_iload_n hx hb dJ6_numberOfLeadingZeros_0f7a4_73 rfl (lv_at hl 1 rfl) ?_
            refine lv_iload_n hx hb dJ6_numberOfLeadingZeros_0f7a4_74 rfl (lv_at hl 0 rfl) ?_
            refine lv_iconst (v := (1 : Int32)) hx hb dJ6_numberOfLeadingZeros_0f7a4_75 (by decide) ?_
            refine lv_iushr (v := pi_ushr (pi_ushr (pi_ushr (pi_ushr p0 (8 : Int32)) (4 : Int32)) (2 : Int32)) (1 : Int32)) hx hb dJ6_numberOfLeadingZeros_0f7a4_76 rfl ?_
            refine lv_isub hx hb dJ6_numberOfLeadingZeros_0f7a4_77 ?_
            have es : (s_J6_nlz p0) = (17 : Int32) - (pi_ushr (pi_ushr (pi_ushr (pi_ushr p0 (8 : Int32)) (4 : Int32)) (2 : Int32)) (1 : Int32)) := by unfold s_J6_nlz; rw [if_pos c1, if_pos c2, if_neg c3, if_neg c7, if_neg c9]
            exact W.iret (v := (17 : Int32) - (pi_ushr (pi_ushr (pi_ushr (pi_ushr p0 (8 : Int32)) (4 : Int32)) (2 : Int32)) (1 : Int32))) hx hb hr (fun t ht hW => by rw [es]; exact ⟨rfl, ht⟩) (fun q h => nomatch h) dJ6_numberOfLeadingZeros_0f7a4_78
    · refine lv_iinc (v := (15 : Int32)) (lv' := [(1, .int (15 : Int32)), (0, .int p0)]) hx hb dJ6_numberOfLeadingZeros_0f7a4_25 hl (k := 0) rfl (by decide) (by decide) rfl (fun ls hl => ?_)
      refine lv_iload_n hx hb dJ6_numberOfLeadingZeros_0f7a4_28 rfl (lv_at hl 1 rfl) ?_
      refine lv_bipush (v := (16 : Int32)) hx hb dJ6_numberOfLeadingZeros_0f7a4_29 (by decide) ?_
      refine lv_iushr (v := pi_ushr p0 (16 : Int32)) hx hb dJ6_numberOfLeadingZeros_0f7a4_31 rfl ?_
      refine lv_istore_n (lv' := [(0, .int (pi_ushr p0 (16 : Int32))), (1, .int (15 : Int32))]) hx hb dJ6_numberOfLeadingZeros_0f7a4_32 rfl hl (by decide) rfl (fun ls hl => ?_)
      refine lv_iload_n hx hb dJ6_numberOfLeadingZeros_0f7a4_33 rfl (lv_at hl 0 rfl) ?_
      refine lv_sipush (v := (256 : Int32)) hx hb dJ6_numberOfLeadingZeros_0f7a4_34 (by decide) ?_
      refine lv_icmp_lt (tgt := 48) hx hb dJ6_numberOfLeadingZeros_0f7a4_37 (by decide) (fun c10 => ?_) (fun c10 => ?_)
      · refine lv_iload_n hx hb dJ6_numberOfLeadingZeros_0f7a4_48 rfl (lv_at hl 0 rfl) ?_
        refine lv_bipush (v := (16 : Int32)) hx hb dJ6_numberOfLeadingZeros_0f7a4_49 (by decide) ?_
        refine lv_icmp_lt (tgt := 61) hx hb dJ6_numberOfLeadingZeros_0f7a4_51 (by decide) (fun c11 => ?_) (fun c11 => ?_)
        · refine lv_iload_n hx hb dJ6_numberOfLeadingZeros_0f7a4_61 rfl (lv_at hl 0 rfl) ?_
          refine lv_iconst (v := (4 : Int32)) hx hb dJ6_numberOfLeadingZeros_0f7a4_62 (by decide) ?_
          refine lv_icmp_lt (tgt := 73) hx hb dJ6_numberOfLeadingZeros_0f7a4_63 (by decide) (fun c12 => ?_) (fun c12 => ?_)
          · refine lv_iload_n hx hb dJ6_numberOfLeadingZeros_0f7a4_73 rfl (lv_at hl 1 rfl) ?_
            refine lv_iload_n hx hb dJ6_numberOfLeadingZeros_0f7a4_74 rfl (lv_at hl 0 rfl) ?_
            refine lv_iconst (v := (1 : Int32)) hx hb dJ6_numberOfLeadingZeros_0f7a4_75 (by decide) ?_
            refine lv_iushr (v := pi_ushr (pi_ushr p0 (16 : Int32)) (1 : Int32)) hx hb dJ6_numberOfLeadingZeros_0f7a4_76 rfl ?_
            refine lv_isub hx hb dJ6_numberOfLeadingZeros_0f7a4_77 ?_
            have es : (s_J6_nlz p0) = (15 : Int32) - (pi_ushr (pi_ushr p0 (16 : Int32)) (1 : Int32)) := by unfold s_J6_nlz; rw [if_pos c1, if_neg c2, if_pos c10, if_pos c11, if_pos c12]
            exact W.iret (v := (15 : Int32) - (pi_ushr (pi_ushr p0 (16 : Int32)) (1 : Int32))) hx hb hr (fun t ht hW => by rw [es]; exact ⟨rfl, ht⟩) (fun q h => nomatch h) dJ6_numberOfLeadingZeros_0f7a4_78
          · refine lv_iinc (v := (13 : Int32)) (lv' := [(1, .int (13 : Int32)), (0, .int (pi_ushr p0 (16 : Int32)))]) hx hb dJ6_numberOfLeadingZeros_0f7a4_66 hl (k := 1) rfl (by decide) (by decide) rfl (fun ls hl => ?_)
            refine lv_iload_n hx hb dJ6_numberOfLeadingZeros_0f7a4_69 rfl (lv_at hl 1 rfl) ?_
            refine lv_iconst (v := (2 : Int32)) hx hb dJ6_numberOfLeadingZeros_0f7a4_70 (by decide) ?_
            refine lv_iushr (v := pi_ushr (pi_ushr p0 (16 : Int32)) (2 : Int32)) hx hb dJ6_numberOfLeadingZeros_0f7a4_71 rfl ?_
            refine lv_istore_n (lv' := [(0, .int (pi_ushr (pi_ushr p0 (16 : Int32)) (2 : Int32))), (1, .int (13 : Int32))]) hx hb dJ6_numberOfLeadingZeros_0f7a4_72 rfl hl (by decide) rfl (fun ls hl => ?_)
            refine lv_iload_n hx hb dJ6_numberOfLeadingZeros_0f7a4_73 rfl (lv_at hl 1 rfl) ?_
            refine lv_iload_n hx hb dJ6_numberOfLeadingZeros_0f7a4_74 rfl (lv_at hl 0 rfl) ?_
            refine lv_iconst (v := (1 : Int32)) hx hb dJ6_numberOfLeadingZeros_0f7a4_75 (by decide) ?_
            refine lv_iushr (v := pi_ushr (pi_ushr (pi_ushr p0 (16 : Int32)) (2 : Int32)) (1 : Int32)) hx hb dJ6_numberOfLeadingZeros_0f7a4_76 rfl ?_
            refine lv_isub hx hb dJ6_numberOfLeadingZeros_0f7a4_77 ?_
            have es : (s_J6_nlz p0) = (13 : Int32) - (pi_ushr (pi_ushr (pi_ushr p0 (16 : Int32)) (2 : Int32)) (1 : Int32)) := by unfold s_J6_nlz; rw [if_pos c1, if_neg c2, if_pos c10, if_pos c11, if_neg c12]
            exact W.iret (v := (13 : Int32) - (pi_ushr (pi_ushr (pi_ushr p0 (16 : Int32)) (2 : Int32)) (1 : Int32))) hx hb hr (fun t ht hW => by rw [es]; exact ⟨rfl, ht⟩) (fun q h => nomatch h) dJ6_numberOfLeadingZeros_0f7a4_78
        · refine lv_iinc (v := (11 : Int32)) (lv' := [(1, .int (11 : Int32)), (0, .int (pi_ushr p0 (16 : Int32)))]) hx hb dJ6_numberOfLeadingZeros_0f7a4_54 hl (k := 1) rfl (by decide) (by decide) rfl (fun ls hl => ?_)
          refine lv_iload_n hx hb dJ6_numberOfLeadingZeros_0f7a4_57 rfl (lv_at hl 1 rfl) ?_
          refine lv_iconst (v := (4 : Int32)) hx hb dJ6_numberOfLeadingZeros_0f7a4_58 (by decide) ?_
          refine lv_iushr (v := pi_ushr (pi_ushr p0 (16 : Int32)) (4 : Int32)) hx hb dJ6_numberOfLeadingZeros_0f7a4_59 rfl ?_
          refine lv_istore_n (lv' := [(0, .int (pi_ushr (pi_ushr p0 (16 : Int32)) (4 : Int32))), (1, .int (11 : Int32))]) hx hb dJ6_numberOfLeadingZeros_0f7a4_60 rfl hl (by decide) rfl (fun ls hl => ?_)
          refine lv_iload_n hx hb dJ6_numberOfLeadingZeros_0f7a4_61 rfl (lv_at hl 0 rfl) ?_
          refine lv_iconst (v := (4 : Int32)) hx hb dJ6_numberOfLeadingZeros_0f7a4_62 (by decide) ?_
          refine lv_icmp_lt (tgt := 73) hx hb dJ6_numberOfLeadingZeros_0f7a4_63 (by decide) (fun c13 => ?_) (fun c13 => ?_)
          · refine lv_iload_n hx hb dJ6_numberOfLeadingZeros_0f7a4_73 rfl (lv_at hl 1 rfl) ?_
            refine lv_iload_n hx hb dJ6_numberOfLeadingZeros_0f7a4_74 rfl (lv_at hl 0 rfl) ?_
            refine lv_iconst (v := (1 : Int32)) hx hb dJ6_numberOfLeadingZeros_0f7a4_75 (by decide) ?_
            refine lv_iushr (v := pi_ushr (pi_ushr (pi_ushr p0 (16 : Int32)) (4 : Int32)) (1 : Int32)) hx hb dJ6_numberOfLeadingZeros_0f7a4_76 rfl ?_
            refine lv_isub hx hb dJ6_numberOfLeadingZeros_0f7a4_77 ?_
            have es : (s_J6_nlz p0) = (11 : Int32) - (pi_ushr (pi_ushr (pi_ushr p0 (16 : Int32)) (4 : Int32)) (1 : Int32)) := by unfold s_J6_nlz; rw [if_pos c1, if_neg c2, if_pos c10, if_neg c11, if_pos c13]
            exact W.iret (v := (11 : Int32) - (pi_ushr (pi_ushr (pi_ushr p0 (16 : Int32)) (4 : Int32)) (1 : Int32))) hx hb hr (fun t ht hW => by rw [es]; exact ⟨rfl, ht⟩) (fun q h => nomatch h) dJ6_numberOfLeadingZeros_0f7a4_78
          · refine lv_iinc (v := (9 : Int32)) (lv' := [(1, .int (9 : Int32)), (0, .int (pi_ushr (pi_ushr p0 (16 : Int32)) (4 : Int32)))]) hx hb dJ6_numberOfLeadingZeros_0f7a4_66 hl (k := 1) rfl (by decide) (by decide) rfl (fun ls hl => ?_)
            refine lv_iload_n hx hb dJ6_numberOfLeadingZeros_0f7a4_69 rfl (lv_at hl 1 rfl) ?_
            refine lv_iconst (v := (2 : Int32)) hx hb dJ6_numberOfLeadingZeros_0f7a4_70 (by decide) ?_
            refine lv_iushr (v := pi_ushr (pi_ushr (pi_ushr p0 (16 : Int32)) (4 : Int32)) (2 : Int32)) hx hb dJ6_numberOfLeadingZeros_0f7a4_71 rfl ?_
            refine lv_istore_n (lv' := [(0, .int (pi_ushr (pi_ushr (pi_ushr p0 (16 : Int32)) (4 : Int32)) (2 : Int32))), (1, .int (9 : Int32))]) hx hb dJ6_numberOfLeadingZeros_0f7a4_72 rfl hl (by decide) rfl (fun ls hl => ?_)
            refine lv_iload_n hx hb dJ6_numberOfLeadingZeros_0f7a4_73 rfl (lv_at hl 1 rfl) ?_
            refine lv_iload_n hx hb dJ6_numberOfLeadingZeros_0f7a4_74 rfl (lv_at hl 0 rfl) ?_
            refine lv_iconst (v := (1 : Int32)) hx hb dJ6_numberOfLeadingZeros_0f7a4_75 (by decide) ?_
            refine lv_iushr (v := pi_ushr (pi_ushr (pi_ushr (pi_ushr p0 (16 : Int32)) (4 : Int32)) (2 : Int32)) (1 : Int32)) hx hb dJ6_numberOfLeadingZeros_0f7a4_76 rfl ?_
            refine lv_isub hx hb dJ6_numberOfLeadingZeros_0f7a4_77 ?_
            have es : (s_J6_nlz p0) = (9 : Int32) - (pi_ushr (pi_ushr (pi_ushr (pi_ushr p0 (16 : Int32)) (4 : Int32)) (2 : Int32)) (1 : Int32)) := by unfold s_J6_nlz; rw [if_pos c1, if_neg c2, if_pos c10, if_neg c11, if_neg c13]
            exact W.iret (v := (9 : Int32) - (pi_ushr (pi_ushr (pi_ushr (pi_ushr p0 (16 : Int32)) (4 : Int32)) (2 : Int32)) (1 : Int32))) hx hb hr (fun t ht hW => by rw [es]; exact ⟨rfl, ht⟩) (fun q h => nomatch h) dJ6_numberOfLeadingZeros_0f7a4_78
      · refine lv_iinc (v := (7 : Int32)) (lv' := [(1, .int (7 : Int32)), (0, .int (pi_ushr p0 (16 : Int32)))]) hx hb dJ6_numberOfLeadingZeros_0f7a4_40 hl (k := 1) rfl (by decide) (by decide) rfl (fun ls hl => ?_)
        refine lv_iload_n hx hb dJ6_numberOfLeadingZeros_0f7a4_43 rfl (lv_at hl 1 rfl) ?_
        refine lv_bipush (v := (8 : Int32)) hx hb dJ6_numberOfLeadingZeros_0f7a4_44 (by decide) ?_
        refine lv_iushr (v := pi_ushr (pi_ushr p0 (16 : Int32)) (8 : Int32)) hx hb dJ6_numberOfLeadingZeros_0f7a4_46 rfl ?_
        refine lv_istore_n (lv' := [(0, .int (pi_ushr (pi_ushr p0 (16 : Int32)) (8 : Int32))), (1, .int (7 : Int32))]) hx hb dJ6_numberOfLeadingZeros_0f7a4_47 rfl hl (by decide) rfl (fun ls hl => ?_)
        refine lv_iload_n hx hb dJ6_numberOfLeadingZeros_0f7a4_48 rfl (lv_at hl 0 rfl) ?_
        refine lv_bipush (v := (16 : Int32)) hx hb dJ6_numberOfLeadingZeros_0f7a4_49 (by decide) ?_
        refine lv_icmp_lt (tgt := 61) hx hb dJ6_numberOfLeadingZeros_0f7a4_51 (by decide) (fun c14 => ?_) (fun c14 => ?_)
        · refine lv_iload_n hx hb dJ6_numberOfLeadingZeros_0f7a4_61 rfl (lv_at hl 0 rfl) ?_
          refine lv_iconst (v := (4 : Int32)) hx hb dJ6_numberOfLeadingZeros_0f7a4_62 (by decide) ?_
          refine lv_icmp_lt (tgt := 73) hx hb dJ6_numberOfLeadingZeros_0f7a4_63 (by decide) (fun c15 => ?_) (fun c15 => ?_)
          · refine lv_iload_n hx hb dJ6_numberOfLeadingZeros_0f7a4_73 rfl (lv_at hl 1 rfl) ?_
            refine lv_iload_n hx hb dJ6_numberOfLeadingZeros_0f7a4_74 rfl (lv_at hl 0 rfl) ?_
            refine lv_iconst (v := (1 : Int32)) hx hb dJ6_numberOfLeadingZeros_0f7a4_75 (by decide) ?_
            refine lv_iushr (v := pi_ushr (pi_ushr (pi_ushr p0 (16 : Int32)) (8 : Int32)) (1 : Int32)) hx hb dJ6_numberOfLeadingZeros_0f7a4_76 rfl ?_
            refine lv_isub hx hb dJ6_numberOfLeadingZeros_0f7a4_77 ?_
            have es : (s_J6_nlz p0) = (7 : Int32) - (pi_ushr (pi_ushr (pi_ushr p0 (16 : Int32)) (8 : Int32)) (1 : Int32)) := by unfold s_J6_nlz; rw [if_pos c1, if_neg c2, if_neg c10, if_pos c14, if_pos c15]
            exact W.iret (v := (7 : Int32) - (pi_ushr (pi_ushr (pi_ushr p0 (16 : Int32)) (8 : Int32)) (1 : Int32))) hx hb hr (fun t ht hW => by rw [es]; exact ⟨rfl, ht⟩) (fun q h => nomatch h) dJ6_numberOfLeadingZeros_0f7a4_78
          · refine lv_iinc (v := (5 : Int32)) (lv' := [(1, .int (5 : Int32)), (0, .int (pi_ushr (pi_ushr p0 (16 : Int32)) (8 : Int32)))]) hx hb dJ6_numberOfLeadingZeros_0f7a4_66 hl (k := 1) rfl (by decide) (by decide) rfl (fun ls hl => ?_)
            refine lv_iload_n hx hb dJ6_numberOfLeadingZeros_0f7a4_69 rfl (lv_at hl 1 rfl) ?_
            refine lv_iconst (v := (2 : Int32)) hx hb dJ6_numberOfLeadingZeros_0f7a4_70 (by decide) ?_
            refine lv_iushr (v := pi_ushr (pi_ushr (pi_ushr p0 (16 : Int32)) (8 : Int32)) (2 : Int32)) hx hb dJ6_numberOfLeadingZeros_0f7a4_71 rfl ?_
            refine lv_istore_n (lv' := [(0, .int (pi_ushr (pi_ushr (pi_ushr p0 (16 : Int32)) (8 : Int32)) (2 : Int32))), (1, .int (5 : Int32))]) hx hb dJ6_numberOfLeadingZeros_0f7a4_72 rfl hl (by decide) rfl (fun ls hl => ?_)
            refine lv_iload_n hx hb dJ6_numberOfLeadingZeros_0f7a4_73 rfl (lv_at hl 1 rfl) ?_
            refine lv_iload_n hx hb dJ6_numberOfLeadingZeros_0f7a4_74 rfl (lv_at hl 0 rfl) ?_
            refine lv_iconst (v := (1 : Int32)) hx hb dJ6_numberOfLeadingZeros_0f7a4_75 (by decide) ?_
            refine lv_iushr (v := pi_ushr (pi_ushr (pi_ushr (pi_ushr p0 (16 : Int32)) (8 : Int32)) (2 : Int32)) (1 : Int32)) hx hb dJ6_numberOfLeadingZeros_0f7a4_76 rfl ?_
            refine lv_isub hx hb dJ6_numberOfLeadingZeros_0f7a4_77 ?_
            have es : (s_J6_nlz p0) = (5 : Int32) - (pi_ushr (pi_ushr (pi_ushr (pi_ushr p0 (16 : Int32)) (8 : Int32)) (2 : Int32)) (1 : Int32)) := by unfold s_J6_nlz; rw [if_pos c1, if_neg c2, if_neg c10, if_pos c14, if_neg c15]
            exact W.iret (v := (5 : Int32) - (pi_ushr (pi_ushr (pi_ushr (pi_ushr p0 (16 : Int32)) (8 : Int32)) (2 : Int32)) (1 : Int32))) hx hb hr (fun t ht hW => by rw [es]; exact ⟨rfl, ht⟩) (fun q h => nomatch h) dJ6_numberOfLeadingZeros_0f7a4_78
        · refine lv_iinc (v := (3 : Int32)) (lv' := [(1, .int (3 : Int32)), (0, .int (pi_ushr (pi_ushr p0 (16 : Int32)) (8 : Int32)))]) hx hb dJ6_numberOfLeadingZeros_0f7a4_54 hl (k := 1) rfl (by decide) (by decide) rfl (fun ls hl => ?_)
          refine lv_iload_n hx hb dJ6_numberOfLeadingZeros_0f7a4_57 rfl (lv_at hl 1 rfl) ?_
          refine lv_iconst (v := (4 : Int32)) hx hb dJ6_numberOfLeadingZeros_0f7a4_58 (by decide) ?_
          refine lv_iushr (v := pi_ushr (pi_ushr (pi_ushr p0 (16 : Int32)) (8 : Int32)) (4 : Int32)) hx hb dJ6_numberOfLeadingZeros_0f7a4_59 rfl ?_
          refine lv_istore_n (lv' := [(0, .int (pi_ushr (pi_ushr (pi_ushr p0 (16 : Int32)) (8 : Int32)) (4 : Int32))), (1, .int (3 : Int32))]) hx hb dJ6_numberOfLeadingZeros_0f7a4_60 rfl hl (by decide) rfl (fun ls hl => ?_)
          refine lv_iload_n hx hb dJ6_numberOfLeadingZeros_0f7a4_61 rfl (lv_at hl 0 rfl) ?_
          refine lv_iconst (v := (4 : Int32)) hx hb dJ6_numberOfLeadingZeros_0f7a4_62 (by decide) ?_
          refine lv_icmp_lt (tgt := 73) hx hb dJ6_numberOfLeadingZeros_0f7a4_63 (by decide) (fun c16 => ?_) (fun c16 => ?_)
          · refine lv_iload_n hx hb dJ6_numberOfLeadingZeros_0f7a4_73 rfl (lv_at hl 1 rfl) ?_
            refine lv_iload_n hx hb dJ6_numberOfLeadingZeros_0f7a4_74 rfl (lv_at hl 0 rfl) ?_
            refine lv_iconst (v := (1 : Int32)) hx hb dJ6_numberOfLeadingZeros_0f7a4_75 (by decide) ?_
            refine lv_iushr (v := pi_ushr (pi_ushr (pi_ushr (pi_ushr p0 (16 : Int32)) (8 : Int32)) (4 : Int32)) (1 : Int32)) hx hb dJ6_numberOfLeadingZeros_0f7a4_76 rfl ?_
            refine lv_isub hx hb dJ6_numberOfLeadingZeros_0f7a4_77 ?_
            have es : (s_J6_nlz p0) = (3 : Int32) - (pi_ushr (pi_ushr (pi_ushr (pi_ushr p0 (16 : Int32)) (8 : Int32)) (4 : Int32)) (1 : Int32)) := by unfold s_J6_nlz; rw [if_pos c1, if_neg c2, if_neg c10, if_neg c14, if_pos c16]
            exact W.iret (v := (3 : Int32) - (pi_ushr (pi_ushr (pi_ushr (pi_ushr p0 (16 : Int32)) (8 : Int32)) (4 : Int32)) (1 : Int32))) hx hb hr (fun t ht hW => by rw [es]; exact ⟨rfl, ht⟩) (fun q h => nomatch h) dJ6_numberOfLeadingZeros_0f7a4_78
          · refine lv_iinc (v := (1 : Int32)) (lv' := [(1, .int (1 : Int32)), (0, .int (pi_ushr (pi_ushr (pi_ushr p0 (16 : Int32)) (8 : Int32)) (4 : Int32)))]) hx hb dJ6_numberOfLeadingZeros_0f7a4_66 hl (k := 1) rfl (by decide) (by decide) rfl (fun ls hl => ?_)
            refine lv_iload_n hx hb dJ6_numberOfLeadingZeros_0f7a4_69 rfl (lv_at hl 1 rfl) ?_
            refine lv_iconst (v := (2 : Int32)) hx hb dJ6_numberOfLeadingZeros_0f7a4_70 (by decide) ?_
            refine lv_iushr (v := pi_ushr (pi_ushr (pi_ushr (pi_ushr p0 (16 : Int32)) (8 : Int32)) (4 : Int32)) (2 : Int32)) hx hb dJ6_numberOfLeadingZeros_0f7a4_71 rfl ?_
            refine lv_istore_n (lv' := [(0, .int (pi_ushr (pi_ushr (pi_ushr (pi_ushr p0 (16 : Int32)) (8 : Int32)) (4 : Int32)) (2 : Int32))), (1, .int (1 : Int32))]) hx hb dJ6_numberOfLeadingZeros_0f7a4_72 rfl hl (by decide) rfl (fun ls hl => ?_)
            refine lv_iload_n hx hb dJ6_numberOfLeadingZeros_0f7a4_73 rfl (lv_at hl 1 rfl) ?_
            refine lv_iload_n hx hb dJ6_numberOfLeadingZeros_0f7a4_74 rfl (lv_at hl 0 rfl) ?_
            refine lv_iconst (v := (1 : Int32)) hx hb dJ6_numberOfLeadingZeros_0f7a4_75 (by decide) ?_
            refine lv_iushr (v := pi_ushr (pi_ushr (pi_ushr (pi_ushr (pi_ushr p0 (16 : Int32)) (8 : Int32)) (4 : Int32)) (2 : Int32)) (1 : Int32)) hx hb dJ6_numberOfLeadingZeros_0f7a4_76 rfl ?_
            refine lv_isub hx hb dJ6_numberOfLeadingZeros_0f7a4_77 ?_
            have es : (s_J6_nlz p0) = (1 : Int32) - (pi_ushr (pi_ushr (pi_ushr (pi_ushr (pi_ushr p0 (16 : Int32)) (8 : Int32)) (4 : Int32)) (2 : Int32)) (1 : Int32)) := by unfold s_J6_nlz; rw [if_pos c1, if_neg c2, if_neg c10, if_neg c14, if_neg c16]
            exact W.iret (v := (1 : Int32) - (pi_ushr (pi_ushr (pi_ushr (pi_ushr (pi_ushr p0 (16 : Int32)) (8 : Int32)) (4 : Int32)) (2 : Int32)) (1 : Int32))) hx hb hr (fun t ht hW => by rw [es]; exact ⟨rfl, ht⟩) (fun q h => nomatch h) dJ6_numberOfLeadingZeros_0f7a4_78
  · refine lv_iload_n hx hb dJ6_numberOfLeadingZeros_0f7a4_4 rfl (lv_at hl 0 rfl) ?_
    refine lv_if_ne (tgt := 13) hx hb dJ6_numberOfLeadingZeros_0f7a4_5 (by decide) (fun c17 => ?_) (fun c17 => ?_)
    · refine lv_iconst (v := (0 : Int32)) hx hb dJ6_numberOfLeadingZeros_0f7a4_13 (by decide) ?_
      have es : (s_J6_nlz p0) = (0 : Int32) := by unfold s_J6_nlz; rw [if_neg c1, if_neg c17]
      exact W.iret (v := (0 : Int32)) hx hb hr (fun t ht hW => by rw [es]; exact ⟨rfl, ht⟩) (fun q h => nomatch h) dJ6_numberOfLeadingZeros_0f7a4_14
    · refine lv_bipush (v := (32 : Int32)) hx hb dJ6_numberOfLeadingZeros_0f7a4_8 (by decide) ?_
      refine lv_goto (tgt := 14) hx hb dJ6_numberOfLeadingZeros_0f7a4_10 (by decide) ?_
      have es : (s_J6_nlz p0) = (32 : Int32) := by unfold s_J6_nlz; rw [if_neg c1, if_pos c17]
      exact W.iret (v := (32 : Int32)) hx hb hr (fun t ht hW => by rw [es]; exact ⟨rfl, ht⟩) (fun q h => nomatch h) dJ6_numberOfLeadingZeros_0f7a4_14

def s_J13_nlz (p0 : Int64) : Int32 :=
  if (pl_ushr p0 (32 : Int32)).toInt32 = (0 : Int32) then (32 : Int32) + (s_J6_nlz p0.toInt32)
  else (s_J6_nlz ((pl_ushr p0 (32 : Int32)).toInt32))
set_option maxHeartbeats 4000000 in
set_option maxRecDepth 100000 in
theorem c_J13_nlz (l : Launch) (p0 : Int64) : Met l yJ13_numberOfLeadingZeros_95d88 wsJ13_numberOfLeadingZeros_95d88 ({ frames := 1, cells := 0, slots := 0, locals := 21 }) (ap [.long p0]) (pq (some (.int (s_J13_nlz p0)))) 0 0 (fun _ => False) := by
  refine Met.ofW (cc := cJ13_numberOfLeadingZeros_95d88) (maxL := 3) (ret := (some .int)) (by decide) rfl ?_
  intro p e s m args below meth c s₁ B hml hv
  have hv : args = ([.long p0] : List Value).toArray := hv
  subst hv
  have hx := B.exec
  have hb := B.bytes
  have hr := B.returns
  have hts := atoms_spec (ws := wsJ13_numberOfLeadingZeros_95d88) B.pre
  have hown : s.vm.findClass RJ13 = some m.cls := findClass_of_methodNamed B.named
  have hlocks := B.notSynchronized
  have hl := lv_entry ([.long p0]) (n := 3) (Nat.le_of_ble_eq_true rfl)
  rw [lg_entry_eq]
  generalize (lg_sl ([.long p0]) ++ List.replicate (3 - (lg_sl ([.long p0])).length) Slot.unset).toArray = ls at hl ⊢
  have hl : lv_has ls 3 [(0, .long p0)] := hl
  refine lv_lload_n hx hb dJ13_numberOfLeadingZeros_95d88_0 rfl (lv_at hl 0 rfl) ?_
  refine lv_bipush (v := (32 : Int32)) hx hb dJ13_numberOfLeadingZeros_95d88_1 (by decide) ?_
  refine lv_lushr (v := pl_ushr p0 (32 : Int32)) hx hb dJ13_numberOfLeadingZeros_95d88_3 rfl ?_
  refine lv_l2i (v := (pl_ushr p0 (32 : Int32)).toInt32) hx hb dJ13_numberOfLeadingZeros_95d88_4 rfl ?_
  refine lv_istore_n (lv' := [(2, .int ((pl_ushr p0 (32 : Int32)).toInt32)), (0, .long p0)]) hx hb dJ13_numberOfLeadingZeros_95d88_5 rfl hl (by decide) rfl (fun ls hl => ?_)
  refine lv_iload_n hx hb dJ13_numberOfLeadingZeros_95d88_6 rfl (lv_at hl 0 rfl) ?_
  refine lv_if_ne (tgt := 21) hx hb dJ13_numberOfLeadingZeros_95d88_7 (by decide) (fun c1 => ?_) (fun c1 => ?_)
  · refine lv_iload_n hx hb dJ13_numberOfLeadingZeros_95d88_21 rfl (lv_at hl 0 rfl) ?_
    refine pq_calli (va_runS (As := [.int ((pl_ushr p0 (32 : Int32)).toInt32)]) (rest := []) ⟨hx, hb, hml, hown, hts⟩ (c_J6_nlz l ((pl_ushr p0 (32 : Int32)).toInt32)) (va_cwS 1 hts gJ13_numberOfLeadingZeros_95d88_J6_numberOfLeadingZeros_0f7a4 rfl rfl rfl ydS_J6_numberOfLeadingZeros_0f7a4 ⟨Nat.le_of_ble_eq_true rfl, Nat.le_of_ble_eq_true rfl⟩) ap_S rfl rfl hl.1 rfl (lv_room (Nat.le_of_ble_eq_true rfl)) dJ13_numberOfLeadingZeros_95d88_22 ⟨Nat.le_of_ble_eq_true rfl, Nat.le_of_ble_eq_true rfl⟩) ?_
    have es : (s_J13_nlz p0) = (s_J6_nlz ((pl_ushr p0 (32 : Int32)).toInt32)) := by unfold s_J13_nlz; rw [if_neg c1]
    exact W.iret (v := (s_J6_nlz ((pl_ushr p0 (32 : Int32)).toInt32))) hx hb hr (fun t ht hW => by rw [es]; exact ⟨rfl, ht⟩) (fun q h => nomatch h) dJ13_numberOfLeadingZeros_95d88_25
  · refine lv_bipush (v := (32 : Int32)) hx hb dJ13_numberOfLeadingZeros_95d88_10 (by decide) ?_
    refine lv_lload_n hx hb dJ13_numberOfLeadingZeros_95d88_12 rfl (lv_at hl 1 rfl) ?_
    refine lv_l2i (v := p0.toInt32) hx hb dJ13_numberOfLeadingZeros_95d88_13 rfl ?_
    refine pq_calli (va_runS (As := [.int p0.toInt32]) (rest := [.int (32 : Int32)]) ⟨hx, hb, hml, hown, hts⟩ (c_J6_nlz l p0.toInt32) (va_cwS 1 hts gJ13_numberOfLeadingZeros_95d88_J6_numberOfLeadingZeros_0f7a4 rfl rfl rfl ydS_J6_numberOfLeadingZeros_0f7a4 ⟨Nat.le_of_ble_eq_true rfl, Nat.le_of_ble_eq_true rfl⟩) ap_S rfl rfl hl.1 rfl (lv_room (Nat.le_of_ble_eq_true rfl)) dJ13_numberOfLeadingZeros_95d88_14 ⟨Nat.le_of_ble_eq_true rfl, Nat.le_of_ble_eq_true rfl⟩) ?_
    refine lv_iadd hx hb dJ13_numberOfLeadingZeros_95d88_17 ?_
    refine lv_goto (tgt := 25) hx hb dJ13_numberOfLeadingZeros_95d88_18 (by decide) ?_
    have es : (s_J13_nlz p0) = (32 : Int32) + (s_J6_nlz p0.toInt32) := by unfold s_J13_nlz; rw [if_pos c1]
    exact W.iret (v := (32 : Int32) + (s_J6_nlz p0.toInt32)) hx hb hr (fun t ht hW => by rw [es]; exact ⟨rfl, ht⟩) (fun q h => nomatch h) dJ13_numberOfLeadingZeros_95d88_25

def s_J13_compare (p0 : Int64) (p1 : Int64) : Int32 :=
  if p0 < p1 then (-1 : Int32)
  else if p0 = p1 then (0 : Int32)
  else (1 : Int32)
set_option maxHeartbeats 4000000 in
set_option maxRecDepth 100000 in
theorem c_J13_compare (l : Launch) (p0 : Int64) (p1 : Int64) : Met l yJ13_compare_74951 wsJ13_compare_74951 ({ frames := 0, cells := 0, slots := 0, locals := 0 }) (ap [.long p0, .long p1]) (pq (some (.int (s_J13_compare p0 p1)))) 0 0 (fun _ => False) := by
  refine Met.ofW (cc := cJ13_compare_74951) (maxL := 4) (ret := (some .int)) (by decide) rfl ?_
  intro p e s m args below meth c s₁ B hml hv
  have hv : args = ([.long p0, .long p1] : List Value).toArray := hv
  subst hv
  have hx := B.exec
  have hb := B.bytes
  have hr := B.returns
  have hts := atoms_spec (ws := wsJ13_compare_74951) B.pre
  have hown : s.vm.findClass RJ13 = some m.cls := findClass_of_methodNamed B.named
  have hlocks := B.notSynchronized
  have hl := lv_entry ([.long p0, .long p1]) (n := 4) (Nat.le_of_ble_eq_true rfl)
  rw [lg_entry_eq]
  generalize (lg_sl ([.long p0, .long p1]) ++ List.replicate (4 - (lg_sl ([.long p0, .long p1])).length) Slot.unset).toArray = ls at hl ⊢
  have hl : lv_has ls 4 [(0, .long p0), (2, .long p1)] := hl
  refine lv_lload_n hx hb dJ13_compare_74951_0 rfl (lv_at hl 0 rfl) ?_
  refine lv_lload_n hx hb dJ13_compare_74951_1 rfl (lv_at hl 1 rfl) ?_
  refine pl_ge (tgt := 10) hx hb dJ13_compare_74951_2 dJ13_compare_74951_3 (by decide) (fun c1 => ?_) (fun c1 => ?_)
  · refine lv_lload_n hx hb dJ13_compare_74951_10 rfl (lv_at hl 0 rfl) ?_
    refine lv_lload_n hx hb dJ13_compare_74951_11 rfl (lv_at hl 1 rfl) ?_
    refine pl_ne (tgt := 20) hx hb dJ13_compare_74951_12 dJ13_compare_74951_13 (by decide) (fun c2 => ?_) (fun c2 => ?_)
    · refine lv_iconst (v := (1 : Int32)) hx hb dJ13_compare_74951_20 (by decide) ?_
      have es : (s_J13_compare p0 p1) = (1 : Int32) := by unfold s_J13_compare; rw [if_neg c1, if_neg c2]
      exact W.iret (v := (1 : Int32)) hx hb hr (fun t ht hW => by rw [es]; exact ⟨rfl, ht⟩) (fun q h => nomatch h) dJ13_compare_74951_21
    · refine lv_iconst (v := (0 : Int32)) hx hb dJ13_compare_74951_16 (by decide) ?_
      refine lv_goto (tgt := 21) hx hb dJ13_compare_74951_17 (by decide) ?_
      have es : (s_J13_compare p0 p1) = (0 : Int32) := by unfold s_J13_compare; rw [if_neg c1, if_pos c2]
      exact W.iret (v := (0 : Int32)) hx hb hr (fun t ht hW => by rw [es]; exact ⟨rfl, ht⟩) (fun q h => nomatch h) dJ13_compare_74951_21
  · refine lv_iconst (v := (-1 : Int32)) hx hb dJ13_compare_74951_6 (by decide) ?_
    refine lv_goto (tgt := 21) hx hb dJ13_compare_74951_7 (by decide) ?_
    have es : (s_J13_compare p0 p1) = (-1 : Int32) := by unfold s_J13_compare; rw [if_pos c1]
    exact W.iret (v := (-1 : Int32)) hx hb hr (fun t ht hW => by rw [es]; exact ⟨rfl, ht⟩) (fun q h => nomatch h) dJ13_compare_74951_21

def s_J13_compareUnsigned (p0 : Int64) (p1 : Int64) : Int32 :=
  (s_J13_compare (p0 + (-9223372036854775808 : Int64)) (p1 + (-9223372036854775808 : Int64)))
set_option maxHeartbeats 4000000 in
set_option maxRecDepth 100000 in
theorem c_J13_compareUnsigned (l : Launch) (p0 : Int64) (p1 : Int64) : Met l yJ13_compareUnsigned_74951 wsJ13_compareUnsigned_74951 ({ frames := 1, cells := 0, slots := 0, locals := 23 }) (ap [.long p0, .long p1]) (pq (some (.int (s_J13_compareUnsigned p0 p1)))) 0 0 (fun _ => False) := by
  refine Met.ofW (cc := cJ13_compareUnsigned_74951) (maxL := 4) (ret := (some .int)) (by decide) rfl ?_
  intro p e s m args below meth c s₁ B hml hv
  have hv : args = ([.long p0, .long p1] : List Value).toArray := hv
  subst hv
  have hx := B.exec
  have hb := B.bytes
  have hr := B.returns
  have hts := atoms_spec (ws := wsJ13_compareUnsigned_74951) B.pre
  have hown : s.vm.findClass RJ13 = some m.cls := findClass_of_methodNamed B.named
  have hlocks := B.notSynchronized
  have hl := lv_entry ([.long p0, .long p1]) (n := 4) (Nat.le_of_ble_eq_true rfl)
  rw [lg_entry_eq]
  generalize (lg_sl ([.long p0, .long p1]) ++ List.replicate (4 - (lg_sl ([.long p0, .long p1])).length) Slot.unset).toArray = ls at hl ⊢
  have hl : lv_has ls 4 [(0, .long p0), (2, .long p1)] := hl
  have hw0 := hts (.constantLong RJ13 168 (-9223372036854775808)) (List.mem_of_getElem? (i := 1) rfl)
  refine lv_lload_n hx hb dJ13_compareUnsigned_74951_0 rfl (lv_at hl 0 rfl) ?_
  refine lv_ldc2 (v := (-9223372036854775808 : Int64)) hx hb hown hw0 dJ13_compareUnsigned_74951_1 ?_
  refine lv_ladd hx hb dJ13_compareUnsigned_74951_4 ?_
  refine lv_lload_n hx hb dJ13_compareUnsigned_74951_5 rfl (lv_at hl 1 rfl) ?_
  refine lv_ldc2 (v := (-9223372036854775808 : Int64)) hx hb hown hw0 dJ13_compareUnsigned_74951_6 ?_
  refine lv_ladd hx hb dJ13_compareUnsigned_74951_9 ?_
  refine pq_calli (va_runS (As := [.long (p0 + (-9223372036854775808 : Int64)), .long (p1 + (-9223372036854775808 : Int64))]) (rest := []) ⟨hx, hb, hml, hown, hts⟩ (c_J13_compare l (p0 + (-9223372036854775808 : Int64)) (p1 + (-9223372036854775808 : Int64))) (va_cwS 2 hts gJ13_compareUnsigned_74951_J13_compare_74951 rfl rfl rfl ydS_J13_compare_74951 ⟨Nat.le_of_ble_eq_true rfl, Nat.le_of_ble_eq_true rfl⟩) ap_S rfl rfl hl.1 rfl (lv_room (Nat.le_of_ble_eq_true rfl)) dJ13_compareUnsigned_74951_10 ⟨Nat.le_of_ble_eq_true rfl, Nat.le_of_ble_eq_true rfl⟩) ?_
  have es : (s_J13_compareUnsigned p0 p1) = (s_J13_compare (p0 + (-9223372036854775808 : Int64)) (p1 + (-9223372036854775808 : Int64))) := rfl
  exact W.iret (v := (s_J13_compare (p0 + (-9223372036854775808 : Int64)) (p1 + (-9223372036854775808 : Int64)))) hx hb hr (fun t ht hW => by rw [es]; exact ⟨rfl, ht⟩) (fun q h => nomatch h) dJ13_compareUnsigned_74951_13
