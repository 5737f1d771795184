theorem ydS_J13_compareUnsigned_74951 : yJ13_compareUnsigned_74951.cls ≠ "java/lang/invoke/MethodHandle" ∧ yJ13_compareUnsigned_74951.cls ≠ "java/lang/invoke/VarHandle" ∧ (parseMethodDescriptor yJ13_compareUnsigned_74951.desc).map (fun d => d.parameters.length) = some 2 := by decide +kernel
theorem ydS_J13_divideUnsigned_f86c9 : yJ13_divideUnsigned_f86c9.cls ≠ "java/lang/invoke/MethodHandle" ∧ yJ13_divideUnsigned_f86c9.cls ≠ "java/lang/invoke/VarHandle" ∧ (parseMethodDescriptor yJ13_divideUnsigned_f86c9.desc).map (fun d => d.parameters.length) = some 2 := by decide +kernel
theorem ydS_J13_remainderUnsigned_f86c9 : yJ13_remainderUnsigned_f86c9.cls ≠ "java/lang/invoke/MethodHandle" ∧ yJ13_remainderUnsigned_f86c9.cls ≠ "java/lang/invoke/VarHandle" ∧ (parseMethodDescriptor yJ13_remainderUnsigned_f86c9.desc).map (fun d => d.parameters.length) = some 2 := by decide +kernel
theorem ydS_X3_reckon : yX3_reckon.cls ≠ "java/lang/invoke/MethodHandle" ∧ yX3_reckon.cls ≠ "java/lang/invoke/VarHandle" ∧ (parseMethodDescriptor yX3_reckon.desc).map (fun d => d.parameters.length) = some 4 := by decide +kernel
def s_X3_isRange (p0 : Int32) : Int32 :=
  if p0 < (0 : Int32) then (0 : Int32)
  else if p0 < (16 : Int32) then (1 : Int32)
  else (0 : Int32)
theorem z_X3_isRange (p0 : Int32) : (s_X3_isRange p0) = 0 ∨ (s_X3_isRange p0) = 1 := by
  unfold s_X3_isRange
  by_cases c1 : p0 < (0 : Int32)
  · rw [if_pos c1]
    exact Or.inl rfl
  · rw [if_neg c1]
    by_cases c2 : p0 < (16 : Int32)
    · rw [if_pos c2]
      exact Or.inr rfl
    · rw [if_neg c2]
      exact Or.inl rfl
set_option maxHeartbeats 4000000 in
set_option maxRecDepth 100000 in
theorem c_X3_isRange (l : Launch) (p0 : Int32) : Met l yX3_isRange wsX3_isRange ({ frames := 0, cells := 0, slots := 0, locals := 0 }) (ap [.int p0]) (pq (some (.int (s_X3_isRange p0)))) 0 0 (fun _ => False) := by
  refine Met.ofW (cc := cX3_isRange) (maxL := 1) (ret := (some .boolean)) (by decide) rfl ?_
  intro p e s m args below meth c s₁ B hml hv
  have hv : args = ([.int p0] : List Value).toArray := hv
  subst hv
  have hx := B.exec
  have hb := B.bytes
  have hr := B.returns
  have hts := atoms_spec (ws := wsX3_isRange) B.pre
  have hown : s.vm.findClass RX3 = some m.cls := findClass_of_methodNamed B.named
  have hlocks := B.notSynchronized
  have hl := lv_entry ([.int p0]) (n := 1) (Nat.le_of_ble_eq_true rfl)
  rw [lg_entry_eq]
  generalize (lg_sl ([.int p0]) ++ List.replicate (1 - (lg_sl ([.int p0])).length) Slot.unset).toArray = ls at hl ⊢
  have hl : lv_has ls 1 [(0, .int p0)] := hl
  refine lv_iload_n hx hb dX3_isRange_0 rfl (lv_at hl 0 rfl) ?_
  refine lv_if_lt (tgt := 14) hx hb dX3_isRange_1 (by decide) (fun c1 => ?_) (fun c1 => ?_)
  · refine lv_iconst (v := (0 : Int32)) hx hb dX3_isRange_14 (by decide) ?_
    have es : (s_X3_isRange p0) = (0 : Int32) := by unfold s_X3_isRange; rw [if_pos c1]
    exact W.zret (v := (0 : Int32)) hx hb hr (rfl) (fun t ht hW => by rw [es]; exact ⟨rfl, ht⟩) (fun q h => nomatch h) dX3_isRange_15
  · refine lv_iload_n hx hb dX3_isRange_4 rfl (lv_at hl 0 rfl) ?_
    refine lv_bipush (v := (16 : Int32)) hx hb dX3_isRange_5 (by decide) ?_
    refine pi_icmp_ge (tgt := 14) hx hb dX3_isRange_7 (by decide) (fun c2 => ?_) (fun c2 => ?_)
    · refine lv_iconst (v := (0 : Int32)) hx hb dX3_isRange_14 (by decide) ?_
      have es : (s_X3_isRange p0) = (0 : Int32) := by unfold s_X3_isRange; rw [if_neg c1, if_neg c2]
      exact W.zret (v := (0 : Int32)) hx hb hr (rfl) (fun t ht hW => by rw [es]; exact ⟨rfl, ht⟩) (fun q h => nomatch h) dX3_isRange_15
    · refine lv_iconst (v := (1 : Int32)) hx hb dX3_isRange_10 (by decide) ?_
      refine lv_goto (tgt := 15) hx hb dX3_isRange_11 (by decide) ?_
      have es : (s_X3_isRange p0) = (1 : Int32) := by unfold s_X3_isRange; rw [if_neg c1, if_pos c2]
      exact W.zret (v := (1 : Int32)) hx hb hr (rfl) (fun t ht hW => by rw [es]; exact ⟨rfl, ht⟩) (fun q h => nomatch h) dX3_isRange_15

def s_X3_reckon0 (p0 : Int32) (p1 : Int64) (p2 : Int64) : Int64 :=
  if p0 = (0 : Int32) then p2
  else if p0 = (1 : Int32) then p1 + p2
  else if p0 = (2 : Int32) then p1 - p2
  else if p0 = (3 : Int32) then p1 * p2
  else if p0 = (4 : Int32) then (if p2 = (0 : Int64) then (0 : Int64)
    else (s_J13_divideUnsigned p1 p2))
  else if p0 = (5 : Int32) then (if p2 = (0 : Int64) then p1
    else (s_J13_remainderUnsigned p1 p2))
  else if p0 = (6 : Int32) then p1 &&& p2
  else if p0 = (7 : Int32) then p1 ||| p2
  else if p0 = (8 : Int32) then p1 ^^^ p2
  else if p0 = (9 : Int32) then pl_shl p1 ((p2 &&& (63 : Int64)).toInt32)
  else if p0 = (10 : Int32) then pl_ushr p1 ((p2 &&& (63 : Int64)).toInt32)
  else if p0 = (11 : Int32) then pl_shr p1 ((p2 &&& (63 : Int64)).toInt32)
  else -p1
set_option maxHeartbeats 4000000 in
set_option maxRecDepth 100000 in
theorem c_X3_reckon0 (l : Launch) (p0 : Int32) (p1 : Int64) (p2 : Int64) : Met l yX3_reckon wsX3_reckon ({ frames := 1, cells := 0, slots := 0, locals := 27 }) (ap [.int p0, .long p1, .long p2, .int (0 : Int32)]) (pq (some (.long (s_X3_reckon0 p0 p1 p2)))) 0 0 (fun _ => False) := by
  refine Met.ofW (cc := cX3_reckon) (maxL := 10) (ret := (some .long)) (by decide) rfl ?_
  intro p e s m args below meth c s₁ B hml hv
  have hv : args = ([.int p0, .long p1, .long p2, .int (0 : Int32)] : List Value).toArray := hv
  subst hv
  have hx := B.exec
  have hb := B.bytes
  have hr := B.returns
  have hts := atoms_spec (ws := wsX3_reckon) B.pre
  have hown : s.vm.findClass RX3 = some m.cls := findClass_of_methodNamed B.named
  have hlocks := B.notSynchronized
  have hl := lv_entry ([.int p0, .long p1, .long p2, .int (0 : Int32)]) (n := 10) (Nat.le_of_ble_eq_true rfl)
  rw [lg_entry_eq]
  generalize (lg_sl ([.int p0, .long p1, .long p2, .int (0 : Int32)]) ++ List.replicate (10 - (lg_sl ([.int p0, .long p1, .long p2, .int (0 : Int32)])).length) Slot.unset).toArray = ls at hl ⊢
  have hl : lv_has ls 10 [(0, .int p0), (1, .long p1), (3, .long p2), (5, .int (0 : Int32))] := hl
  have hw0 := hts (.constantLong RX3 37 (63)) (List.mem_of_getElem? (i := 3) rfl)
  refine lv_iload hx hb dX3_reckon_0 (lv_at hl 3 rfl) ?_
  refine lv_if_eq (tgt := 105) hx hb dX3_reckon_2 (by decide) (fun _ => ?_) (fun h => absurd (by decide) h)
  refine lv_iload_n hx hb dX3_reckon_105 rfl (lv_at hl 0 rfl) ?_
  by_cases c1 : p0 = (0 : Int32)
  · refine lv_tableIn (off := 62) (tgt := 168) hx hb dX3_reckon_106 (by rw [c1]; decide) (by rw [c1]; decide) (by rw [c1]; decide) (by decide) ?_
    refine lv_lload_n hx hb dX3_reckon_168 rfl (lv_at hl 2 rfl) ?_
    have es : (s_X3_reckon0 p0 p1 p2) = p2 := by unfold s_X3_reckon0; rw [if_pos c1]
    exact W.lret (v := p2) hx hb hr (fun t ht hW => by rw [es]; exact ⟨rfl, ht⟩) (fun q h => nomatch h) dX3_reckon_169
  by_cases c2 : p0 = (1 : Int32)
  · refine lv_tableIn (off := 64) (tgt := 170) hx hb dX3_reckon_106 (by rw [c2]; decide) (by rw [c2]; decide) (by rw [c2]; decide) (by decide) ?_
    refine lv_lload_n hx hb dX3_reckon_170 rfl (lv_at hl 1 rfl) ?_
    refine lv_lload_n hx hb dX3_reckon_171 rfl (lv_at hl 2 rfl) ?_
    refine lv_ladd hx hb dX3_reckon_172 ?_
    have es : (s_X3_reckon0 p0 p1 p2) = p1 + p2 := by unfold s_X3_reckon0; rw [if_neg c1, if_pos c2]
    exact W.lret (v := p1 + p2) hx hb hr (fun t ht hW => by rw [es]; exact ⟨rfl, ht⟩) (fun q h => nomatch h) dX3_reckon_173
  by_cases c3 : p0 = (2 : Int32)
  · refine lv_tableIn (off := 68) (tgt := 174) hx hb dX3_reckon_106 (by rw [c3]; decide) (by rw [c3]; decide) (by rw [c3]; decide) (by decide) ?_
    refine lv_lload_n hx hb dX3_reckon_174 rfl (lv_at hl 1 rfl) ?_
    refine lv_lload_n hx hb dX3_reckon_175 rfl (lv_at hl 2 rfl) ?_
    refine lv_lsub hx hb dX3_reckon_176 ?_
    have es : (s_X3_reckon0 p0 p1 p2) = p1 - p2 := by unfold s_X3_reckon0; rw [if_neg c1, if_neg c2, if_pos c3]
    exact W.lret (v := p1 - p2) hx hb hr (fun t ht hW => by rw [es]; exact ⟨rfl, ht⟩) (fun q h => nomatch h) dX3_reckon_177
  by_cases c4 : p0 = (3 : Int32)
  · refine lv_tableIn (off := 72) (tgt := 178) hx hb dX3_reckon_106 (by rw [c4]; decide) (by rw [c4]; decide) (by rw [c4]; decide) (by decide) ?_
    refine lv_lload_n hx hb dX3_reckon_178 rfl (lv_at hl 1 rfl) ?_
    refine lv_lload_n hx hb dX3_reckon_179 rfl (lv_at hl 2 rfl) ?_
    refine lv_lmul hx hb dX3_reckon_180 ?_
    have es : (s_X3_reckon0 p0 p1 p2) = p1 * p2 := by unfold s_X3_reckon0; rw [if_neg c1, if_neg c2, if_neg c3, if_pos c4]
    exact W.lret (v := p1 * p2) hx hb hr (fun t ht hW => by rw [es]; exact ⟨rfl, ht⟩) (fun q h => nomatch h) dX3_reckon_181
  by_cases c5 : p0 = (4 : Int32)
  · refine lv_tableIn (off := 76) (tgt := 182) hx hb dX3_reckon_106 (by rw [c5]; decide) (by rw [c5]; decide) (by rw [c5]; decide) (by decide) ?_
    refine lv_lload_n hx hb dX3_reckon_182 rfl (lv_at hl 2 rfl) ?_
    refine lv_lconst (v := (0 : Int64)) hx hb dX3_reckon_183 (by decide) ?_
    refine pl_ne (tgt := 192) hx hb dX3_reckon_184 dX3_reckon_185 (by decide) (fun c6 => ?_) (fun c6 => ?_)
    · refine lv_lload_n hx hb dX3_reckon_192 rfl (lv_at hl 1 rfl) ?_
      refine lv_lload_n hx hb dX3_reckon_193 rfl (lv_at hl 2 rfl) ?_
      refine pq_calll (va_runS (As := [.long p1, .long p2]) (rest := []) ⟨hx, hb, hml, hown, hts⟩ (c_J13_divideUnsigned l p1 p2 c6) (va_cwS 2 hts gX3_reckon_J13_divideUnsigned_f86c9 rfl rfl rfl ydS_J13_divideUnsigned_f86c9 ⟨Nat.le_of_ble_eq_true rfl, Nat.le_of_ble_eq_true rfl⟩) ap_S rfl rfl hl.1 rfl (lv_room (Nat.le_of_ble_eq_true rfl)) dX3_reckon_194 ⟨Nat.le_of_ble_eq_true rfl, Nat.le_of_ble_eq_true rfl⟩) ?_
      have es : (s_X3_reckon0 p0 p1 p2) = (s_J13_divideUnsigned p1 p2) := by unfold s_X3_reckon0; rw [if_neg c1, if_neg c2, if_neg c3, if_neg c4, if_pos c5, if_neg c6]
      exact W.lret (v := (s_J13_divideUnsigned p1 p2)) hx hb hr (fun t ht hW => by rw [es]; exact ⟨rfl, ht⟩) (fun q h => nomatch h) dX3_reckon_197
    · refine lv_lconst (v := (0 : Int64)) hx hb dX3_reckon_188 (by decide) ?_
      refine lv_goto (tgt := 197) hx hb dX3_reckon_189 (by decide) ?_
      have es : (s_X3_reckon0 p0 p1 p2) = (0 : Int64) := by unfold s_X3_reckon0; rw [if_neg c1, if_neg c2, if_neg c3, if_neg c4, if_pos c5, if_pos c6]
      exact W.lret (v := (0 : Int64)) hx hb hr (fun t ht hW => by rw [es]; exact ⟨rfl, ht⟩) (fun q h => nomatch h) dX3_reckon_197
  by_cases c7 : p0 = (5 : Int32)
  · refine lv_tableIn (off := 92) (tgt := 198) hx hb dX3_reckon_106 (by rw [c7]; decide) (by rw [c7]; decide) (by rw [c7]; decide) (by decide) ?_
    refine lv_lload_n hx hb dX3_reckon_198 rfl (lv_at hl 2 rfl) ?_
    refine lv_lconst (v := (0 : Int64)) hx hb dX3_reckon_199 (by decide) ?_
    refine pl_ne (tgt := 208) hx hb dX3_reckon_200 dX3_reckon_201 (by decide) (fun c8 => ?_) (fun c8 => ?_)
    · refine lv_lload_n hx hb dX3_reckon_208 rfl (lv_at hl 1 rfl) ?_
      refine lv_lload_n hx hb dX3_reckon_209 rfl (lv_at hl 2 rfl) ?_
      refine pq_calll (va_runS (As := [.long p1, .long p2]) (rest := []) ⟨hx, hb, hml, hown, hts⟩ (c_J13_remainderUnsigned l p1 p2 c8) (va_cwS 2 hts gX3_reckon_J13_remainderUnsigned_f86c9 rfl rfl rfl ydS_J13_remainderUnsigned_f86c9 ⟨Nat.le_of_ble_eq_true rfl, Nat.le_of_ble_eq_true rfl⟩) ap_S rfl rfl hl.1 rfl (lv_room (Nat.le_of_ble_eq_true rfl)) dX3_reckon_210 ⟨Nat.le_of_ble_eq_true rfl, Nat.le_of_ble_eq_true rfl⟩) ?_
      have es : (s_X3_reckon0 p0 p1 p2) = (s_J13_remainderUnsigned p1 p2) := by unfold s_X3_reckon0; rw [if_neg c1, if_neg c2, if_neg c3, if_neg c4, if_neg c5, if_pos c7, if_neg c8]
      exact W.lret (v := (s_J13_remainderUnsigned p1 p2)) hx hb hr (fun t ht hW => by rw [es]; exact ⟨rfl, ht⟩) (fun q h => nomatch h) dX3_reckon_213
    · refine lv_lload_n hx hb dX3_reckon_204 rfl (lv_at hl 1 rfl) ?_
      refine lv_goto (tgt := 213) hx hb dX3_reckon_205 (by decide) ?_
      have es : (s_X3_reckon0 p0 p1 p2) = p1 := by unfold s_X3_reckon0; rw [if_neg c1, if_neg c2, if_neg c3, if_neg c4, if_neg c5, if_pos c7, if_pos c8]
      exact W.lret (v := p1) hx hb hr (fun t ht hW => by rw [es]; exact ⟨rfl, ht⟩) (fun q h => nomatch h) dX3_reckon_213
  by_cases c9 : p0 = (6 : Int32)
  · refine lv_tableIn (off := 108) (tgt := 214) hx hb dX3_reckon_106 (by rw [c9]; decide) (by rw [c9]; decide) (by rw [c9]; decide) (by decide) ?_
    refine lv_lload_n hx hb dX3_reckon_214 rfl (lv_at hl 1 rfl) ?_
    refine lv_lload_n hx hb dX3_reckon_215 rfl (lv_at hl 2 rfl) ?_
    refine lv_land hx hb dX3_reckon_216 ?_
    have es : (s_X3_reckon0 p0 p1 p2) = p1 &&& p2 := by unfold s_X3_reckon0; rw [if_neg c1, if_neg c2, if_neg c3, if_neg c4, if_neg c5, if_neg c7, if_pos c9]
    exact W.lret (v := p1 &&& p2) hx hb hr (fun t ht hW => by rw [es]; exact ⟨rfl, ht⟩) (fun q h => nomatch h) dX3_reckon_217
  by_cases c10 : p0 = (7 : Int32)
  · refine lv_tableIn (off := 112) (tgt := 218) hx hb dX3_reckon_106 (by rw [c10]; decide) (by rw [c10]; decide) (by rw [c10]; decide) (by decide) ?_
    refine lv_lload_n hx hb dX3_reckon_218 rfl (lv_at hl 1 rfl) ?_
    refine lv_lload_n hx hb dX3_reckon_219 rfl (lv_at hl 2 rfl) ?_
    refine lv_lor hx hb dX3_reckon_220 ?_
    have es : (s_X3_reckon0 p0 p1 p2) = p1 ||| p2 := by unfold s_X3_reckon0; rw [if_neg c1, if_neg c2, if_neg c3, if_neg c4, if_neg c5, if_neg c7, if_neg c9, if_pos c10]
    exact W.lret (v := p1 ||| p2) hx hb hr (fun t ht hW => by rw [es]; exact ⟨rfl, ht⟩) (fun q h => nomatch h) dX3_reckon_221
  by_cases c11 : p0 = (8 : Int32)
  · refine lv_tableIn (off := 116) (tgt := 222) hx hb dX3_reckon_106 (by rw [c11]; decide) (by rw [c11]; decide) (by rw [c11]; decide) (by decide) ?_
    refine lv_lload_n hx hb dX3_reckon_222 rfl (lv_at hl 1 rfl) ?_
    refine lv_lload_n hx hb dX3_reckon_223 rfl (lv_at hl 2 rfl) ?_
    refine lv_lxor hx hb dX3_reckon_224 ?_
    have es : (s_X3_reckon0 p0 p1 p2) = p1 ^^^ p2 := by unfold s_X3_reckon0; rw [if_neg c1, if_neg c2, if_neg c3, if_neg c4, if_neg c5, if_neg c7, if_neg c9, if_neg c10, if_pos c11]
    exact W.lret (v := p1 ^^^ p2) hx hb hr (fun t ht hW => by rw [es]; exact ⟨rfl, ht⟩) (fun q h => nomatch h) dX3_reckon_225
  by_cases c12 : p0 = (9 : Int32)
  · refine lv_tableIn (off := 120) (tgt := 226) hx hb dX3_reckon_106 (by rw [c12]; decide) (by rw [c12]; decide) (by rw [c12]; decide) (by decide) ?_
    refine lv_lload_n hx hb dX3_reckon_226 rfl (lv_at hl 1 rfl) ?_
    refine lv_lload_n hx hb dX3_reckon_227 rfl (lv_at hl 2 rfl) ?_
    refine lv_ldc2 (v := (63 : Int64)) hx hb hown hw0 dX3_reckon_228 ?_
    refine lv_land hx hb dX3_reckon_231 ?_
    refine lv_l2i (v := (p2 &&& (63 : Int64)).toInt32) hx hb dX3_reckon_232 rfl ?_
    refine lv_lshl (v := pl_shl p1 ((p2 &&& (63 : Int64)).toInt32)) hx hb dX3_reckon_233 rfl ?_
    have es : (s_X3_reckon0 p0 p1 p2) = pl_shl p1 ((p2 &&& (63 : Int64)).toInt32) := by unfold s_X3_reckon0; rw [if_neg c1, if_neg c2, if_neg c3, if_neg c4, if_neg c5, if_neg c7, if_neg c9, if_neg c10, if_neg c11, if_pos c12]
    exact W.lret (v := pl_shl p1 ((p2 &&& (63 : Int64)).toInt32)) hx hb hr (fun t ht hW => by rw [es]; exact ⟨rfl, ht⟩) (fun q h => nomatch h) dX3_reckon_234
  by_cases c13 : p0 = (10 : Int32)
  · refine lv_tableIn (off := 129) (tgt := 235) hx hb dX3_reckon_106 (by rw [c13]; decide) (by rw [c13]; decide) (by rw [c13]; decide) (by decide) ?_
    refine lv_lload_n hx hb dX3_reckon_235 rfl (lv_at hl 1 rfl) ?_
    refine lv_lload_n hx hb dX3_reckon_236 rfl (lv_at hl 2 rfl) ?_
    refine lv_ldc2 (v := (63 : Int64)) hx hb hown hw0 dX3_reckon_237 ?_
    refine lv_land hx hb dX3_reckon_240 ?_
    refine lv_l2i (v := (p2 &&& (63 : Int64)).toInt32) hx hb dX3_reckon_241 rfl ?_
    refine lv_lushr (v := pl_ushr p1 ((p2 &&& (63 : Int64)).toInt32)) hx hb dX3_reckon_242 rfl ?_
    have es : (s_X3_reckon0 p0 p1 p2) = pl_ushr p1 ((p2 &&& (63 : Int64)).toInt32) := by unfold s_X3_reckon0; rw [if_neg c1, if_neg c2, if_neg c3, if_neg c4, if_neg c5, if_neg c7, if_neg c9, if_neg c10, if_neg c11, if_neg c12, if_pos c13]
    exact W.lret (v := pl_ushr p1 ((p2 &&& (63 : Int64)).toInt32)) hx hb hr (fun t ht hW => by rw [es]; exact ⟨rfl, ht⟩) (fun q h => nomatch h) dX3_reckon_243
  by_cases c14 : p0 = (11 : Int32)
  · refine lv_tableIn (off := 138) (tgt := 244) hx hb dX3_reckon_106 (by rw [c14]; decide) (by rw [c14]; decide) (by rw [c14]; decide) (by decide) ?_
    refine lv_lload_n hx hb dX3_reckon_244 rfl (lv_at hl 1 rfl) ?_
    refine lv_lload_n hx hb dX3_reckon_245 rfl (lv_at hl 2 rfl) ?_
    refine lv_ldc2 (v := (63 : Int64)) hx hb hown hw0 dX3_reckon_246 ?_
    refine lv_land hx hb dX3_reckon_249 ?_
    refine lv_l2i (v := (p2 &&& (63 : Int64)).toInt32) hx hb dX3_reckon_250 rfl ?_
    refine lv_lshr (v := pl_shr p1 ((p2 &&& (63 : Int64)).toInt32)) hx hb dX3_reckon_251 rfl ?_
    have es : (s_X3_reckon0 p0 p1 p2) = pl_shr p1 ((p2 &&& (63 : Int64)).toInt32) := by unfold s_X3_reckon0; rw [if_neg c1, if_neg c2, if_neg c3, if_neg c4, if_neg c5, if_neg c7, if_neg c9, if_neg c10, if_neg c11, if_neg c12, if_neg c13, if_pos c14]
    exact W.lret (v := pl_shr p1 ((p2 &&& (63 : Int64)).toInt32)) hx hb hr (fun t ht hW => by rw [es]; exact ⟨rfl, ht⟩) (fun q h => nomatch h) dX3_reckon_252
  refine lv_tableOut (tgt := 253) hx hb dX3_reckon_106 (by have h0 := lv_neT c1 (a := 0) rfl; have h1 := lv_neT c2 (a := 1) rfl; have h2 := lv_neT c3 (a := 2) rfl; have h3 := lv_neT c4 (a := 3) rfl; have h4 := lv_neT c5 (a := 4) rfl; have h5 := lv_neT c7 (a := 5) rfl; have h6 := lv_neT c9 (a := 6) rfl; have h7 := lv_neT c10 (a := 7) rfl; have h8 := lv_neT c11 (a := 8) rfl; have h9 := lv_neT c12 (a := 9) rfl; have h10 := lv_neT c13 (a := 10) rfl; have h11 := lv_neT c14 (a := 11) rfl; omega) (by decide) ?_
  refine lv_lload_n hx hb dX3_reckon_253 rfl (lv_at hl 1 rfl) ?_
  refine lv_lneg hx hb dX3_reckon_254 ?_
  have es : (s_X3_reckon0 p0 p1 p2) = -p1 := by unfold s_X3_reckon0; rw [if_neg c1, if_neg c2, if_neg c3, if_neg c4, if_neg c5, if_neg c7, if_neg c9, if_neg c10, if_neg c11, if_neg c12, if_neg c13, if_neg c14]
  exact W.lret (v := -p1) hx hb hr (fun t ht hW => by rw [es]; exact ⟨rfl, ht⟩) (fun q h => nomatch h) dX3_reckon_255

def s_X3_reckon (p0 : Int32) (p1 : Int64) (p2 : Int64) (p3 : Int32) : Int64 :=
  if p3 = (0 : Int32) then (if p0 = (0 : Int32) then p2
    else if p0 = (1 : Int32) then p1 + p2
    else if p0 = (2 : Int32) then p1 - p2
    else if p0 = (3 : Int32) then p1 * p2
    else if p0 = (4 : Int32) then (if p2 = (0 : Int64) then (0 : Int64)
      else (s_J13_divideUnsigned p1 p2))
    else if p0 = (5 : Int32) then (if p2 = (0 : Int64) then p1
      else (s_J13_remainderUnsigned p1 p2))
    else if p0 = (6 : Int32) then p1 &&& p2
    else if p0 = (7 : Int32) then p1 ||| p2
    else if p0 = (8 : Int32) then p1 ^^^ p2
    else if p0 = (9 : Int32) then pl_shl p1 ((p2 &&& (63 : Int64)).toInt32)
    else if p0 = (10 : Int32) then pl_ushr p1 ((p2 &&& (63 : Int64)).toInt32)
    else if p0 = (11 : Int32) then pl_shr p1 ((p2 &&& (63 : Int64)).toInt32)
    else -p1)
  else if p0 = (9 : Int32) then (pl_shl (p1 &&& (4294967295 : Int64)) (((p2 &&& (4294967295 : Int64)) &&& (31 : Int64)).toInt32)) &&& (4294967295 : Int64)
  else if p0 = (10 : Int32) then pl_ushr (p1 &&& (4294967295 : Int64)) (((p2 &&& (4294967295 : Int64)) &&& (31 : Int64)).toInt32)
  else if p0 = (11 : Int32) then ((pi_shr ((p1 &&& (4294967295 : Int64)).toInt32) (((p2 &&& (4294967295 : Int64)) &&& (31 : Int64)).toInt32)).toInt64) &&& (4294967295 : Int64)
  else (s_X3_reckon0 p0 (p1 &&& (4294967295 : Int64)) (p2 &&& (4294967295 : Int64))) &&& (4294967295 : Int64)
set_option maxHeartbeats 4000000 in
set_option maxRecDepth 100000 in
theorem c_X3_reckon (l : Launch) (p0 : Int32) (p1 : Int64) (p2 : Int64) (p3 : Int32) : Met l yX3_reckon wsX3_reckon ({ frames := 2, cells := 0, slots := 0, locals := 56 }) (ap [.int p0, .long p1, .long p2, .int p3]) (pq (some (.long (s_X3_reckon p0 p1 p2 p3)))) 0 0 (fun _ => False) := by
  refine Met.ofW (cc := cX3_reckon) (maxL := 10) (ret := (some .long)) (by decide) rfl ?_
  intro p e s m args below meth c s₁ B hml hv
  have hv : args = ([.int p0, .long p1, .long p2, .int p3] : List Value).toArray := hv
  subst hv
  have hx := B.exec
  have hb := B.bytes
  have hr := B.returns
  have hts := atoms_spec (ws := wsX3_reckon) B.pre
  have hown : s.vm.findClass RX3 = some m.cls := findClass_of_methodNamed B.named
  have hlocks := B.notSynchronized
  have hl := lv_entry ([.int p0, .long p1, .long p2, .int p3]) (n := 10) (Nat.le_of_ble_eq_true rfl)
  rw [lg_entry_eq]
  generalize (lg_sl ([.int p0, .long p1, .long p2, .int p3]) ++ List.replicate (10 - (lg_sl ([.int p0, .long p1, .long p2, .int p3])).length) Slot.unset).toArray = ls at hl ⊢
  have hl : lv_has ls 10 [(0, .int p0), (1, .long p1), (3, .long p2), (5, .int p3)] := hl
  have hw0 := hts (.constantLong RX3 37 (63)) (List.mem_of_getElem? (i := 3) rfl)
  have hw1 := hts (.constantLong RX3 22 (4294967295)) (List.mem_of_getElem? (i := 1) rfl)
  have hw2 := hts (.constantLong RX3 24 (31)) (List.mem_of_getElem? (i := 2) rfl)
  refine lv_iload hx hb dX3_reckon_0 (lv_at hl 3 rfl) ?_
  refine lv_if_eq (tgt := 105) hx hb dX3_reckon_2 (by decide) (fun c1 => ?_) (fun c1 => ?_)
  · refine lv_iload_n hx hb dX3_reckon_105 rfl (lv_at hl 0 rfl) ?_
    by_cases c2 : p0 = (0 : Int32)
    · refine lv_tableIn (off := 62) (tgt := 168) hx hb dX3_reckon_106 (by rw [c2]; decide) (by rw [c2]; decide) (by rw [c2]; decide) (by decide) ?_
      refine lv_lload_n hx hb dX3_reckon_168 rfl (lv_at hl 2 rfl) ?_
      have es : (s_X3_reckon p0 p1 p2 p3) = p2 := by unfold s_X3_reckon; rw [if_pos c1, if_pos c2]
      exact W.lret (v := p2) hx hb hr (fun t ht hW => by rw [es]; exact ⟨rfl, ht⟩) (fun q h => nomatch h) dX3_reckon_169
    by_cases c3 : p0 = (1 : Int32)
    · refine lv_tableIn (off := 64) (tgt := 170) hx hb dX3_reckon_106 (by rw [c3]; decide) (by rw [c3]; decide) (by rw [c3]; decide) (by decide) ?_
      refine lv_lload_n hx hb dX3_reckon_170 rfl (lv_at hl 1 rfl) ?_
      refine lv_lload_n hx hb dX3_reckon_171 rfl (lv_at hl 2 rfl) ?_
      refine lv_ladd hx hb dX3_reckon_172 ?_
      have es : (s_X3_reckon p0 p1 p2 p3) = p1 + p2 := by unfold s_X3_reckon; rw [if_pos c1, if_neg c2, if_pos c3]
      exact W.lret (v := p1 + p2) hx hb hr (fun t ht hW => by rw [es]; exact ⟨rfl, ht⟩) (fun q h => nomatch h) dX3_reckon_173
    by_cases c4 : p0 = (2 : Int32)
    · refine lv_tableIn (off := 68) (tgt := 174) hx hb dX3_reckon_106 (by rw [c4]; decide) (by rw [c4]; decide) (by rw [c4]; decide) (by decide) ?_
      refine lv_lload_n hx hb dX3_reckon_174 rfl (lv_at hl 1 rfl) ?_
      refine lv_lload_n hx hb dX3_reckon_175 rfl (lv_at hl 2 rfl) ?_
      refine lv_lsub hx hb dX3_reckon_176 ?_
      have es : (s_X3_reckon p0 p1 p2 p3) = p1 - p2 := by unfold s_X3_reckon; rw [if_pos c1, if_neg c2, if_neg c3, if_pos c4]
      exact W.lret (v := p1 - p2) hx hb hr (fun t ht hW => by rw [es]; exact ⟨rfl, ht⟩) (fun q h => nomatch h) dX3_reckon_177
    by_cases c5 : p0 = (3 : Int32)
    · refine lv_tableIn (off := 72) (tgt := 178) hx hb dX3_reckon_106 (by rw [c5]; decide) (by rw [c5]; decide) (by rw [c5]; decide) (by decide) ?_
      refine lv_lload_n hx hb dX3_reckon_178 rfl (lv_at hl 1 rfl) ?_
      refine lv_lload_n hx hb dX3_reckon_179 rfl (lv_at hl 2 rfl) ?_
      refine lv_lmul hx hb dX3_reckon_180 ?_
      have es : (s_X3_reckon p0 p1 p2 p3) = p1 * p2 := by unfold s_X3_reckon; rw [if_pos c1, if_neg c2, if_neg c3, if_neg c4, if_pos c5]
      exact W.lret (v := p1 * p2) hx hb hr (fun t ht hW => by rw [es]; exact ⟨rfl, ht⟩) (fun q h => nomatch h) dX3_reckon_181
    by_cases c6 : p0 = (4 : Int32)
    · refine lv_tableIn (off := 76) (tgt := 182) hx hb dX3_reckon_106 (by rw [c6]; decide) (by rw [c6]; decide) (by rw [c6]; decide) (by decide) ?_
      refine lv_lload_n hx hb dX3_reckon_182 rfl (lv_at hl 2 rfl) ?_
      refine lv_lconst (v := (0 : Int64)) hx hb dX3_reckon_183 (by decide) ?_
      refine pl_ne (tgt := 192) hx hb dX3_reckon_184 dX3_reckon_185 (by decide) (fun c7 => ?_) (fun c7 => ?_)
      · refine lv_lload_n hx hb dX3_reckon_192 rfl (lv_at hl 1 rfl) ?_
        refine lv_lload_n hx hb dX3_reckon_193 rfl (lv_at hl 2 rfl) ?_
        refine pq_calll (va_runS (As := [.long p1, .long p2]) (rest := []) ⟨hx, hb, hml, hown, hts⟩ (c_J13_divideUnsigned l p1 p2 c7) (va_cwS 2 hts gX3_reckon_J13_divideUnsigned_f86c9 rfl rfl rfl ydS_J13_divideUnsigned_f86c9 ⟨Nat.le_of_ble_eq_true rfl, Nat.le_of_ble_eq_true rfl⟩) ap_S rfl rfl hl.1 rfl (lv_room (Nat.le_of_ble_eq_true rfl)) dX3_reckon_194 ⟨Nat.le_of_ble_eq_true rfl, Nat.le_of_ble_eq_true rfl⟩) ?_
        have es : (s_X3_reckon p0 p1 p2 p3) = (s_J13_divideUnsigned p1 p2) := by unfold s_X3_reckon; rw [if_pos c1, if_neg c2, if_neg c3, if_neg c4, if_neg c5, if_pos c6, if_neg c7]
        exact W.lret (v := (s_J13_divideUnsigned p1 p2)) hx hb hr (fun t ht hW => by rw [es]; exact ⟨rfl, ht⟩) (fun q h => nomatch h) dX3_reckon_197
      · refine lv_lconst (v := (0 : Int64)) hx hb dX3_reckon_188 (by decide) ?_
        refine lv_goto (tgt := 197) hx hb dX3_reckon_189 (by decide) ?_
        have es : (s_X3_reckon p0 p1 p2 p3) = (0 : Int64) := by unfold s_X3_reckon; rw [if_pos c1, if_neg c2, if_neg c3, if_neg c4, if_neg c5, if_pos c6, if_pos c7]
        exact W.lret (v := (0 : Int64)) hx hb hr (fun t ht hW => by rw [es]; exact ⟨rfl, ht⟩) (fun q h => nomatch h) dX3_reckon_197
    by_cases c8 : p0 = (5 : Int32)
    · refine lv_tableIn (off := 92) (tgt := 198) hx hb dX3_reckon_106 (by rw [c8]; decide) (by rw [c8]; decide) (by rw [c8]; decide) (by decide) ?_
      refine lv_lload_n hx hb dX3_reckon_198 rfl (lv_at hl 2 rfl) ?_
      refine lv_lconst (v := (0 : Int64)) hx hb dX3_reckon_199 (by decide) ?_
      refine pl_ne (tgt := 208) hx hb dX3_reckon_200 dX3_reckon_201 (by decide) (fun c9 => ?_) (fun c9 => ?_)
      · refine lv_lload_n hx hb dX3_reckon_208 rfl (lv_at hl 1 rfl) ?_
        refine lv_lload_n hx hb dX3_reckon_209 rfl (lv_at hl 2 rfl) ?_
        refine pq_calll (va_runS (As := [.long p1, .long p2]) (rest := []) ⟨hx, hb, hml, hown, hts⟩ (c_J13_remainderUnsigned l p1 p2 c9) (va_cwS 2 hts gX3_reckon_J13_remainderUnsigned_f86c9 rfl rfl rfl ydS_J13_remainderUnsigned_f86c9 ⟨Nat.le_of_ble_eq_true rfl, Nat.le_of_ble_eq_true rfl⟩) ap_S rfl rfl hl.1 rfl (lv_room (Nat.le_of_ble_eq_true rfl)) dX3_reckon_210 ⟨Nat.le_of_ble_eq_true rfl, Nat.le_of_ble_eq_true rfl⟩) ?_
        have es : (s_X3_reckon p0 p1 p2 p3) = (s_J13_remainderUnsigned p1 p2) := by unfold s_X3_reckon; rw [if_pos c1, if_neg c2, if_neg c3, if_neg c4, if_neg c5, if_neg c6, if_pos c8, if_neg c9]
        exact W.lret (v := (s_J13_remainderUnsigned p1 p2)) hx hb hr (fun t ht hW => by rw [es]; exact ⟨rfl, ht⟩) (fun q h => nomatch h) dX3_reckon_213
      · refine lv_lload_n hx hb dX3_reckon_204 rfl (lv_at hl 1 rfl) ?_
        refine lv_goto (tgt := 213) hx hb dX3_reckon_205 (by decide) ?_
        have es : (s_X3_reckon p0 p1 p2 p3) = p1 := by unfold s_X3_reckon; rw [if_pos c1, if_neg c2, if_neg c3, if_neg c4, if_neg c5, if_neg c6, if_pos c8, if_pos c9]
        exact W.lret (v := p1) hx hb hr (fun t ht hW => by rw [es]; exact ⟨rfl, ht⟩) (fun q h => nomatch h) dX3_reckon_213
    by_cases c10 : p0 = (6 : Int32)
    · refine lv_tableIn (off := 108) (tgt := 214) hx hb dX3_reckon_106 (by rw [c10]; decide) (by rw [c10]; decide) (by rw [c10]; decide) (by decide) ?_
      refine lv_lload_n hx hb dX3_reckon_214 rfl (lv_at hl 1 rfl) ?_
      refine lv_lload_n hx hb dX3_reckon_215 rfl (lv_at hl 2 rfl) ?_
      refine lv_land hx hb dX3_reckon_216 ?_
      have es : (s_X3_reckon p0 p1 p2 p3) = p1 &&& p2 := by unfold s_X3_reckon; rw [if_pos c1, if_neg c2, if_neg c3, if_neg c4, if_neg c5, if_neg c6, if_neg c8, if_pos c10]
      exact W.lret (v := p1 &&& p2) hx hb hr (fun t ht hW => by rw [es]; exact ⟨rfl, ht⟩) (fun q h => nomatch h) dX3_reckon_217
    by_cases c11 : p0 = (7 : Int32)
    · refine lv_tableIn (off := 112) (tgt := 218) hx hb dX3_reckon_106 (by rw [c11]; decide) (by rw [c11]; decide) (by rw [c11]; decide) (by decide) ?_
      refine lv_lload_n hx hb dX3_reckon_218 rfl (lv_at hl 1 rfl) ?_
      refine lv_lload_n hx hb dX3_reckon_219 rfl (lv_at hl 2 rfl) ?_
      refine lv_lor hx hb dX3_reckon_220 ?_
      have es : (s_X3_reckon p0 p1 p2 p3) = p1 ||| p2 := by unfold s_X3_reckon; rw [if_pos c1, if_neg c2, if_neg c3, if_neg c4, if_neg c5, if_neg c6, if_neg c8, if_neg c10, if_pos c11]
      exact W.lret (v := p1 ||| p2) hx hb hr (fun t ht hW => by rw [es]; exact ⟨rfl, ht⟩) (fun q h => nomatch h) dX3_reckon_221
    by_cases c12 : p0 = (8 : Int32)
    · refine lv_tableIn (off := 116) (tgt := 222) hx hb dX3_reckon_106 (by rw [c12]; decide) (by rw [c12]; decide) (by rw [c12]; decide) (by decide) ?_
      refine lv_lload_n hx hb dX3_reckon_222 rfl (lv_at hl 1 rfl) ?_
      refine lv_lload_n hx hb dX3_reckon_223 rfl (lv_at hl 2 rfl) ?_
      refine lv_lxor hx hb dX3_reckon_224 ?_
      have es : (s_X3_reckon p0 p1 p2 p3) = p1 ^^^ p2 := by unfold s_X3_reckon; rw [if_pos c1, if_neg c2, if_neg c3, if_neg c4, if_neg c5, if_neg c6, if_neg c8, if_neg c10, if_neg c11, if_pos c12]
      exact W.lret (v := p1 ^^^ p2) hx hb hr (fun t ht hW => by rw [es]; exact ⟨rfl, ht⟩) (fun q h => nomatch h) dX3_reckon_225
    by_cases c13 : p0 = (9 : Int32)
    · refine lv_tableIn (off := 120) (tgt := 226) hx hb dX3_reckon_106 (by rw [c13]; decide) (by rw [c13]; decide) (by rw [c13]; decide) (by decide) ?_
      refine lv_lload_n hx hb dX3_reckon_226 rfl (lv_at hl 1 rfl) ?_
      refine lv_lload_n hx hb dX3_reckon_227 rfl (lv_at hl 2 rfl) ?_
      refine lv_ldc2 (v := (63 : Int64)) hx hb hown hw0 dX3_reckon_228 ?_
      refine lv_land hx hb dX3_reckon_231 ?_
      refine lv_l2i (v := (p2 &&& (63 : Int64)).toInt32) hx hb dX3_reckon_232 rfl ?_
      refine lv_lshl (v := pl_shl p1 ((p2 &&& (63 : Int64)).toInt32)) hx hb dX3_reckon_233 rfl ?_
      have es : (s_X3_reckon p0 p1 p2 p3) = pl_shl p1 ((p2 &&& (63 : Int64)).toInt32) := by unfold s_X3_reckon; rw [if_pos c1, if_neg c2, if_neg c3, if_neg c4, if_neg c5, if_neg c6, if_neg c8, if_neg c10, if_neg c11, if_neg c12, if_pos c13]
      exact W.lret (v := pl_shl p1 ((p2 &&& (63 : Int64)).toInt32)) hx hb hr (fun t ht hW => by rw [es]; exact ⟨rfl, ht⟩) (fun q h => nomatch h) dX3_reckon_234
    by_cases c14 : p0 = (10 : Int32)
    · refine lv_tableIn (off := 129) (tgt := 235) hx hb dX3_reckon_106 (by rw [c14]; decide) (by rw [c14]; decide) (by rw [c14]; decide) (by decide) ?_
      refine lv_lload_n hx hb dX3_reckon_235 rfl (lv_at hl 1 rfl) ?_
      refine lv_lload_n hx hb dX3_reckon_236 rfl (lv_at hl 2 rfl) ?_
      refine lv_ldc2 (v := (63 : Int64)) hx hb hown hw0 dX3_reckon_237 ?_
      refine lv_land hx hb dX3_reckon_240 ?_
      refine lv_l2i (v := (p2 &&& (63 : Int64)).toInt32) hx hb dX3_reckon_241 rfl ?_
      refine lv_lushr (v := pl_ushr p1 ((p2 &&& (63 : Int64)).toInt32)) hx hb dX3_reckon_242 rfl ?_
      have es : (s_X3_reckon p0 p1 p2 p3) = pl_ushr p1 ((p2 &&& (63 : Int64)).toInt32) := by unfold s_X3_reckon; rw [if_pos c1, if_neg c2, if_neg c3, if_neg c4, if_neg c5, if_neg c6, if_neg c8, if_neg c10, if_neg c11, if_neg c12, if_neg c13, if_pos c14]
      exact W.lret (v := pl_ushr p1 ((p2 &&& (63 : Int64)).toInt32)) hx hb hr (fun t ht hW => by rw [es]; exact ⟨rfl, ht⟩) (fun q h => nomatch h) dX3_reckon_243
    by_cases c15 : p0 = (11 : Int32)
    · refine lv_tableIn (off := 138) (tgt := 244) hx hb dX3_reckon_106 (by rw [c15]; decide) (by rw [c15]; decide) (by rw [c15]; decide) (by decide) ?_
      refine lv_lload_n hx hb dX3_reckon_244 rfl (lv_at hl 1 rfl) ?_
      refine lv_lload_n hx hb dX3_reckon_245 rfl (lv_at hl 2 rfl) ?_
      refine lv_ldc2 (v := (63 : Int64)) hx hb hown hw0 dX3_reckon_246 ?_
      refine lv_land hx hb dX3_reckon_249 ?_
      refine lv_l2i (v := (p2 &&& (63 : Int64)).toInt32) hx hb dX3_reckon_250 rfl ?_
      refine lv_lshr (v := pl_shr p1 ((p2 &&& (63 : Int64)).toInt32)) hx hb dX3_reckon_251 rfl ?_
      have es : (s_X3_reckon p0 p1 p2 p3) = pl_shr p1 ((p2 &&& (63 : Int64)).toInt32) := by unfold s_X3_reckon; rw [if_pos c1, if_neg c2, if_neg c3, if_neg c4, if_neg c5, if_neg c6, if_neg c8, if_neg c10, if_neg c11, if_neg c12, if_neg c13, if_neg c14, if_pos c15]
      exact W.lret (v := pl_shr p1 ((p2 &&& (63 : Int64)).toInt32)) hx hb hr (fun t ht hW => by rw [es]; exact ⟨rfl, ht⟩) (fun q h => nomatch h) dX3_reckon_252
    refine lv_tableOut (tgt := 253) hx hb dX3_reckon_106 (by have h0 := lv_neT c2 (a := 0) rfl; have h1 := lv_neT c3 (a := 1) rfl; have h2 := lv_neT c4 (a := 2) rfl; have h3 := lv_neT c5 (a := 3) rfl; have h4 := lv_neT c6 (a := 4) rfl; have h5 := lv_neT c8 (a := 5) rfl; have h6 := lv_neT c10 (a := 6) rfl; have h7 := lv_neT c11 (a := 7) rfl; have h8 := lv_neT c12 (a := 8) rfl; have h9 := lv_neT c13 (a := 9) rfl; have h10 := lv_neT c14 (a := 10) rfl; have h11 := lv_neT c15 (a := 11) rfl; omega) (by decide) ?_
    refine lv_lload_n hx hb dX3_reckon_253 rfl (lv_at hl 1 rfl) ?_
    refine lv_lneg hx hb dX3_reckon_254 ?_
    have es : (s_X3_reckon p0 p1 p2 p3) = -p1 := by unfold s_X3_reckon; rw [if_pos c1, if_neg c2, if_neg c3, if_neg c4, if_neg c5, if_neg c6, if_neg c8, if_neg c10, if_neg c11, if_neg c12, if_neg c13, if_neg c14, if_neg c15]
    exact W.lret (v := -p1) hx hb hr (fun t ht hW => by rw [es]; exact ⟨rfl, ht⟩) (fun q h => nomatch h) dX3_reckon_255
  · refine lv_lload_n hx hb dX3_reckon_5 rfl (lv_at hl 1 rfl) ?_
    refine lv_ldc2 (v := (4294967295 : Int64)) hx hb hown hw1 dX3_reckon_6 ?_
    refine lv_land hx hb dX3_reckon_9 ?_
    refine lv_lstore (lv' := [(6, .long (p1 &&& (4294967295 : Int64))), (0, .int p0), (1, .long p1), (3, .long p2), (5, .int p3)]) hx hb dX3_reckon_10 hl (by decide) rfl (fun ls hl => ?_)
    refine lv_lload_n hx hb dX3_reckon_12 rfl (lv_at hl 3 rfl) ?_
    refine lv_ldc2 (v := (4294967295 : Int64)) hx hb hown hw1 dX3_reckon_13 ?_
    refine lv_land hx hb dX3_reckon_16 ?_
    refine lv_lstore (lv' := [(8, .long (p2 &&& (4294967295 : Int64))), (6, .long (p1 &&& (4294967295 : Int64))), (0, .int p0), (1, .long p1), (3, .long p2), (5, .int p3)]) hx hb dX3_reckon_17 hl (by decide) rfl (fun ls hl => ?_)
    refine lv_iload_n hx hb dX3_reckon_19 rfl (lv_at hl 2 rfl) ?_
    by_cases c16 : p0 = (9 : Int32)
    · refine lv_tableIn (off := 28) (tgt := 48) hx hb dX3_reckon_20 (by rw [c16]; decide) (by rw [c16]; decide) (by rw [c16]; decide) (by decide) ?_
      refine lv_lload hx hb dX3_reckon_48 (lv_at hl 1 rfl) ?_
      refine lv_lload hx hb dX3_reckon_50 (lv_at hl 0 rfl) ?_
      refine lv_ldc2 (v := (31 : Int64)) hx hb hown hw2 dX3_reckon_52 ?_
      refine lv_land hx hb dX3_reckon_55 ?_
      refine lv_l2i (v := ((p2 &&& (4294967295 : Int64)) &&& (31 : Int64)).toInt32) hx hb dX3_reckon_56 rfl ?_
      refine lv_lshl (v := pl_shl (p1 &&& (4294967295 : Int64)) (((p2 &&& (4294967295 : Int64)) &&& (31 : Int64)).toInt32)) hx hb dX3_reckon_57 rfl ?_
      refine lv_ldc2 (v := (4294967295 : Int64)) hx hb hown hw1 dX3_reckon_58 ?_
      refine lv_land hx hb dX3_reckon_61 ?_
      have es : (s_X3_reckon p0 p1 p2 p3) = (pl_shl (p1 &&& (4294967295 : Int64)) (((p2 &&& (4294967295 : Int64)) &&& (31 : Int64)).toInt32)) &&& (4294967295 : Int64) := by unfold s_X3_reckon; rw [if_neg c1, if_pos c16]
      exact W.lret (v := (pl_shl (p1 &&& (4294967295 : Int64)) (((p2 &&& (4294967295 : Int64)) &&& (31 : Int64)).toInt32)) &&& (4294967295 : Int64)) hx hb hr (fun t ht hW => by rw [es]; exact ⟨rfl, ht⟩) (fun q h => nomatch h) dX3_reckon_62
    by_cases c17 : p0 = (10 : Int32)
    · refine lv_tableIn (off := 43) (tgt := 63) hx hb dX3_reckon_20 (by rw [c17]; decide) (by rw [c17]; decide) (by rw [c17]; decide) (by decide) ?_
      refine lv_lload hx hb dX3_reckon_63 (lv_at hl 1 rfl) ?_
      refine lv_lload hx hb dX3_reckon_65 (lv_at hl 0 rfl) ?_
      refine lv_ldc2 (v := (31 : Int64)) hx hb hown hw2 dX3_reckon_67 ?_
      refine lv_land hx hb dX3_reckon_70 ?_
      refine lv_l2i (v := ((p2 &&& (4294967295 : Int64)) &&& (31 : Int64)).toInt32) hx hb dX3_reckon_71 rfl ?_
      refine lv_lushr (v := pl_ushr (p1 &&& (4294967295 : Int64)) (((p2 &&& (4294967295 : Int64)) &&& (31 : Int64)).toInt32)) hx hb dX3_reckon_72 rfl ?_
      have es : (s_X3_reckon p0 p1 p2 p3) = pl_ushr (p1 &&& (4294967295 : Int64)) (((p2 &&& (4294967295 : Int64)) &&& (31 : Int64)).toInt32) := by unfold s_X3_reckon; rw [if_neg c1, if_neg c16, if_pos c17]
      exact W.lret (v := pl_ushr (p1 &&& (4294967295 : Int64)) (((p2 &&& (4294967295 : Int64)) &&& (31 : Int64)).toInt32)) hx hb hr (fun t ht hW => by rw [es]; exact ⟨rfl, ht⟩) (fun q h => nomatch h) dX3_reckon_73
    by_cases c18 : p0 = (11 : Int32)
    · refine lv_tableIn (off := 54) (tgt := 74) hx hb dX3_reckon_20 (by rw [c18]; decide) (by rw [c18]; decide) (by rw [c18]; decide) (by decide) ?_
      refine lv_lload hx hb dX3_reckon_74 (lv_at hl 1 rfl) ?_
      refine lv_l2i (v := (p1 &&& (4294967295 : Int64)).toInt32) hx hb dX3_reckon_76 rfl ?_
      refine lv_lload hx hb dX3_reckon_77 (lv_at hl 0 rfl) ?_
      refine lv_ldc2 (v := (31 : Int64)) hx hb hown hw2 dX3_reckon_79 ?_
      refine lv_land hx hb dX3_reckon_82 ?_
      refine lv_l2i (v := ((p2 &&& (4294967295 : Int64)) &&& (31 : Int64)).toInt32) hx hb dX3_reckon_83 rfl ?_
      refine pi_ishr hx hb dX3_reckon_84 ?_
      refine lv_i2l (v := (pi_shr ((p1 &&& (4294967295 : Int64)).toInt32) (((p2 &&& (4294967295 : Int64)) &&& (31 : Int64)).toInt32)).toInt64) hx hb dX3_reckon_85 rfl ?_
      refine lv_ldc2 (v := (4294967295 : Int64)) hx hb hown hw1 dX3_reckon_86 ?_
      refine lv_land hx hb dX3_reckon_89 ?_
      have es : (s_X3_reckon p0 p1 p2 p3) = ((pi_shr ((p1 &&& (4294967295 : Int64)).toInt32) (((p2 &&& (4294967295 : Int64)) &&& (31 : Int64)).toInt32)).toInt64) &&& (4294967295 : Int64) := by unfold s_X3_reckon; rw [if_neg c1, if_neg c16, if_neg c17, if_pos c18]
      exact W.lret (v := ((pi_shr ((p1 &&& (4294967295 : Int64)).toInt32) (((p2 &&& (4294967295 : Int64)) &&& (31 : Int64)).toInt32)).toInt64) &&& (4294967295 : Int64)) hx hb hr (fun t ht hW => by rw [es]; exact ⟨rfl, ht⟩) (fun q h => nomatch h) dX3_reckon_90
    refine lv_tableOut (tgt := 91) hx hb dX3_reckon_20 (by have h9 := lv_neT c16 (a := 9) rfl; have h10 := lv_neT c17 (a := 10) rfl; have h11 := lv_neT c18 (a := 11) rfl; omega) (by decide) ?_
    refine lv_iload_n hx hb dX3_reckon_91 rfl (lv_at hl 2 rfl) ?_
    refine lv_lload hx hb dX3_reckon_92 (lv_at hl 1 rfl) ?_
    refine lv_lload hx hb dX3_reckon_94 (lv_at hl 0 rfl) ?_
    refine lv_iconst (v := (0 : Int32)) hx hb dX3_reckon_96 (by decide) ?_
    refine pq_calll (va_runS (As := [.int p0, .long (p1 &&& (4294967295 : Int64)), .long (p2 &&& (4294967295 : Int64)), .int (0 : Int32)]) (rest := []) ⟨hx, hb, hml, hown, hts⟩ (c_X3_reckon0 l p0 (p1 &&& (4294967295 : Int64)) (p2 &&& (4294967295 : Int64))) (va_cwS 4 hts gX3_reckon_X3_reckon rfl rfl rfl ydS_X3_reckon ⟨Nat.le_of_ble_eq_true rfl, Nat.le_of_ble_eq_true rfl⟩) ap_S rfl rfl hl.1 rfl (lv_room (Nat.le_of_ble_eq_true rfl)) dX3_reckon_97 ⟨Nat.le_of_ble_eq_true rfl, Nat.le_of_ble_eq_true rfl⟩) ?_
    refine lv_ldc2 (v := (4294967295 : Int64)) hx hb hown hw1 dX3_reckon_100 ?_
    refine lv_land hx hb dX3_reckon_103 ?_
    have es : (s_X3_reckon p0 p1 p2 p3) = (s_X3_reckon0 p0 (p1 &&& (4294967295 : Int64)) (p2 &&& (4294967295 : Int64))) &&& (4294967295 : Int64) := by unfold s_X3_reckon; rw [if_neg c1, if_neg c16, if_neg c17, if_neg c18]
    exact W.lret (v := (s_X3_reckon0 p0 (p1 &&& (4294967295 : Int64)) (p2 &&& (4294967295 : Int64))) &&& (4294967295 : Int64)) hx hb hr (fun t ht hW => by rw [es]; exact ⟨rfl, ht⟩) (fun q h => nomatch h) dX3_reckon_104

def s_X3_holds (p0 : Int32) (p1 : Int64) (p2 : Int64) : Int32 :=
  if p0 = (0 : Int32) then (if p1 = p2 then (1 : Int32)
    else (0 : Int32))
  else if p0 = (1 : Int32) then (if p1 = p2 then (0 : Int32)
    else (1 : Int32))
  else if p0 = (2 : Int32) then (if (s_J13_compareUnsigned p1 p2) < (0 : Int32) then (1 : Int32)
    else (0 : Int32))
  else if p0 = (3 : Int32) then (if (0 : Int32) < (s_J13_compareUnsigned p1 p2) then (0 : Int32)
    else (1 : Int32))
  else if p0 = (4 : Int32) then (if (0 : Int32) < (s_J13_compareUnsigned p1 p2) then (1 : Int32)
    else (0 : Int32))
  else if p0 = (5 : Int32) then (if (s_J13_compareUnsigned p1 p2) < (0 : Int32) then (0 : Int32)
    else (1 : Int32))
  else if p0 = (6 : Int32) then (if p1 < p2 then (1 : Int32)
    else (0 : Int32))
  else if p0 = (7 : Int32) then (if p2 < p1 then (0 : Int32)
    else (1 : Int32))
  else if p0 = (8 : Int32) then (if p2 < p1 then (1 : Int32)
    else (0 : Int32))
  else if p0 = (9 : Int32) then (if p1 < p2 then (0 : Int32)
    else (1 : Int32))
  else if p1 &&& p2 = (0 : Int64) then (0 : Int32)
  else (1 : Int32)
theorem z_X3_holds (p0 : Int32) (p1 : Int64) (p2 : Int64) : (s_X3_holds p0 p1 p2) = 0 ∨ (s_X3_holds p0 p1 p2) = 1 := by
  unfold s_X3_holds
  by_cases c1 : p0 = (0 : Int32)
  · rw [if_pos c1]
    by_cases c2 : p1 = p2
    · rw [if_pos c2]
      exact Or.inr rfl
    · rw [if_neg c2]
      exact Or.inl rfl
  · rw [if_neg c1]
    by_cases c3 : p0 = (1 : Int32)
    · rw [if_pos c3]
      by_cases c4 : p1 = p2
      · rw [if_pos c4]
        exact Or.inl rfl
      · rw [if_neg c4]
        exact Or.inr rfl
    · rw [if_neg c3]
      by_cases c5 : p0 = (2 : Int32)
      · rw [if_pos c5]
        by_cases c6 : (s_J13_compareUnsigned p1 p2) < (0 : Int32)
        · rw [if_pos c6]
          exact Or.inr rfl
        · rw [if_neg c6]
          exact Or.inl rfl
      · rw [if_neg c5]
        by_cases c7 : p0 = (3 : Int32)
        · rw [if_pos c7]
          by_cases c8 : (0 : Int32) < (s_J13_compareUnsigned p1 p2)
          · rw [if_pos c8]
            exact Or.inl rfl
          · rw [if_neg c8]
            exact Or.inr rfl
        · rw [if_neg c7]
          by_cases c9 : p0 = (4 : Int32)
          · rw [if_pos c9]
            by_cases c10 : (0 : Int32) < (s_J13_compareUnsigned p1 p2)
            · rw [if_pos c10]
              exact Or.inr rfl
            · rw [if_neg c10]
              exact Or.inl rfl
          · rw [if_neg c9]
            by_cases c11 : p0 = (5 : Int32)
            · rw [if_pos c11]
              by_cases c12 : (s_J13_compareUnsigned p1 p2) < (0 : Int32)
              · rw [if_pos c12]
                exact Or.inl rfl
              · rw [if_neg c12]
                exact Or.inr rfl
            · rw [if_neg c11]
              by_cases c13 : p0 = (6 : Int32)
              · rw [if_pos c13]
                by_cases c14 : p1 < p2
                · rw [if_pos c14]
                  exact Or.inr rfl
                · rw [if_neg c14]
                  exact Or.inl rfl
              · rw [if_neg c13]
                by_cases c15 : p0 = (7 : Int32)
                · rw [if_pos c15]
                  by_cases c16 : p2 < p1
                  · rw [if_pos c16]
                    exact Or.inl rfl
                  · rw [if_neg c16]
                    exact Or.inr rfl
                · rw [if_neg c15]
                  by_cases c17 : p0 = (8 : Int32)
                  · rw [if_pos c17]
                    by_cases c18 : p2 < p1
                    · rw [if_pos c18]
                      exact Or.inr rfl
                    · rw [if_neg c18]
                      exact Or.inl rfl
                  · rw [if_neg c17]
                    by_cases c19 : p0 = (9 : Int32)
                    · rw [if_pos c19]
                      by_cases c20 : p1 < p2
                      · rw [if_pos c20]
                        exact Or.inl rfl
                      · rw [if_neg c20]
                        exact Or.inr rfl
                    · rw [if_neg c19]
                      by_cases c21 : p1 &&& p2 = (0 : Int64)
                      · rw [if_pos c21]
                        exact Or.inl rfl
                      · rw [if_neg c21]
                        exact Or.inr rfl
set_option maxHeartbeats 4000000 in
set_option maxRecDepth 100000 in
theorem c_X3_holds (l : Launch) (p0 : Int32) (p1 : Int64) (p2 : Int64) (p3 : Int32) : Met l yX3_holds wsX3_holds ({ frames := 2, cells := 0, slots := 0, locals := 46 }) (ap [.int p0, .long p1, .long p2, .int p3]) (pq (some (.int (s_X3_holds p0 p1 p2)))) 0 0 (fun _ => False) := by
  refine Met.ofW (cc := cX3_holds) (maxL := 6) (ret := (some .boolean)) (by decide) rfl ?_
  intro p e s m args below meth c s₁ B hml hv
  have hv : args = ([.int p0, .long p1, .long p2, .int p3] : List Value).toArray := hv
  subst hv
  have hx := B.exec
  have hb := B.bytes
  have hr := B.returns
  have hts := atoms_spec (ws := wsX3_holds) B.pre
  have hown : s.vm.findClass RX3 = some m.cls := findClass_of_methodNamed B.named
  have hlocks := B.notSynchronized
  have hl := lv_entry ([.int p0, .long p1, .long p2, .int p3]) (n := 6) (Nat.le_of_ble_eq_true rfl)
  rw [lg_entry_eq]
  generalize (lg_sl ([.int p0, .long p1, .long p2, .int p3]) ++ List.replicate (6 - (lg_sl ([.int p0, .long p1, .long p2, .int p3])).length) Slot.unset).toArray = ls at hl ⊢
  have hl : lv_has ls 6 [(0, .int p0), (1, .long p1), (3, .long p2), (5, .int p3)] := hl
  refine lv_iload_n hx hb dX3_holds_0 rfl (lv_at hl 0 rfl) ?_
  by_cases c1 : p0 = (0 : Int32)
  · refine lv_tableIn (off := 55) (tgt := 56) hx hb dX3_holds_1 (by rw [c1]; decide) (by rw [c1]; decide) (by rw [c1]; decide) (by decide) ?_
    refine lv_lload_n hx hb dX3_holds_56 rfl (lv_at hl 1 rfl) ?_
    refine lv_lload_n hx hb dX3_holds_57 rfl (lv_at hl 2 rfl) ?_
    refine pl_ne (tgt := 66) hx hb dX3_holds_58 dX3_holds_59 (by decide) (fun c2 => ?_) (fun c2 => ?_)
    · refine lv_iconst (v := (0 : Int32)) hx hb dX3_holds_66 (by decide) ?_
      have es : (s_X3_holds p0 p1 p2) = (0 : Int32) := by unfold s_X3_holds; rw [if_pos c1, if_neg c2]
      exact W.zret (v := (0 : Int32)) hx hb hr (rfl) (fun t ht hW => by rw [es]; exact ⟨rfl, ht⟩) (fun q h => nomatch h) dX3_holds_67
    · refine lv_iconst (v := (1 : Int32)) hx hb dX3_holds_62 (by decide) ?_
      refine lv_goto (tgt := 67) hx hb dX3_holds_63 (by decide) ?_
      have es : (s_X3_holds p0 p1 p2) = (1 : Int32) := by unfold s_X3_holds; rw [if_pos c1, if_pos c2]
      exact W.zret (v := (1 : Int32)) hx hb hr (rfl) (fun t ht hW => by rw [es]; exact ⟨rfl, ht⟩) (fun q h => nomatch h) dX3_holds_67
  by_cases c3 : p0 = (1 : Int32)
  · refine lv_tableIn (off := 67) (tgt := 68) hx hb dX3_holds_1 (by rw [c3]; decide) (by rw [c3]; decide) (by rw [c3]; decide) (by decide) ?_
    refine lv_lload_n hx hb dX3_holds_68 rfl (lv_at hl 1 rfl) ?_
    refine lv_lload_n hx hb dX3_holds_69 rfl (lv_at hl 2 rfl) ?_
    refine pl_eq (tgt := 78) hx hb dX3_holds_70 dX3_holds_71 (by decide) (fun c4 => ?_) (fun c4 => ?_)
    · refine lv_iconst (v := (0 : Int32)) hx hb dX3_holds_78 (by decide) ?_
      have es : (s_X3_holds p0 p1 p2) = (0 : Int32) := by unfold s_X3_holds; rw [if_neg c1, if_pos c3, if_pos c4]
      exact W.zret (v := (0 : Int32)) hx hb hr (rfl) (fun t ht hW => by rw [es]; exact ⟨rfl, ht⟩) (fun q h => nomatch h) dX3_holds_79
    · refine lv_iconst (v := (1 : Int32)) hx hb dX3_holds_74 (by decide) ?_
      refine lv_goto (tgt := 79) hx hb dX3_holds_75 (by decide) ?_
      have es : (s_X3_holds p0 p1 p2) = (1 : Int32) := by unfold s_X3_holds; rw [if_neg c1, if_pos c3, if_neg c4]
      exact W.zret (v := (1 : Int32)) hx hb hr (rfl) (fun t ht hW => by rw [es]; exact ⟨rfl, ht⟩) (fun q h => nomatch h) dX3_holds_79
  by_cases c5 : p0 = (2 : Int32)
  · refine lv_tableIn (off := 79) (tgt := 80) hx hb dX3_holds_1 (by rw [c5]; decide) (by rw [c5]; decide) (by rw [c5]; decide) (by decide) ?_
    refine lv_lload_n hx hb dX3_holds_80 rfl (lv_at hl 1 rfl) ?_
    refine lv_lload_n hx hb dX3_holds_81 rfl (lv_at hl 2 rfl) ?_
    refine pq_calli (va_runS (As := [.long p1, .long p2]) (rest := []) ⟨hx, hb, hml, hown, hts⟩ (c_J13_compareUnsigned l p1 p2) (va_cwS 2 hts gX3_holds_J13_compareUnsigned_74951 rfl rfl rfl ydS_J13_compareUnsigned_74951 ⟨Nat.le_of_ble_eq_true rfl, Nat.le_of_ble_eq_true rfl⟩) ap_S rfl rfl hl.1 rfl (lv_room (Nat.le_of_ble_eq_true rfl)) dX3_holds_82 ⟨Nat.le_of_ble_eq_true rfl, Nat.le_of_ble_eq_true rfl⟩) ?_
    refine pi_if_ge (tgt := 92) hx hb dX3_holds_85 (by decide) (fun c6 => ?_) (fun c6 => ?_)
    · refine lv_iconst (v := (0 : Int32)) hx hb dX3_holds_92 (by decide) ?_
      have es : (s_X3_holds p0 p1 p2) = (0 : Int32) := by unfold s_X3_holds; rw [if_neg c1, if_neg c3, if_pos c5, if_neg c6]
      exact W.zret (v := (0 : Int32)) hx hb hr (rfl) (fun t ht hW => by rw [es]; exact ⟨rfl, ht⟩) (fun q h => nomatch h) dX3_holds_93
    · refine lv_iconst (v := (1 : Int32)) hx hb dX3_holds_88 (by decide) ?_
      refine lv_goto (tgt := 93) hx hb dX3_holds_89 (by decide) ?_
      have es : (s_X3_holds p0 p1 p2) = (1 : Int32) := by unfold s_X3_holds; rw [if_neg c1, if_neg c3, if_pos c5, if_pos c6]
      exact W.zret (v := (1 : Int32)) hx hb hr (rfl) (fun t ht hW => by rw [es]; exact ⟨rfl, ht⟩) (fun q h => nomatch h) dX3_holds_93
  by_cases c7 : p0 = (3 : Int32)
  · refine lv_tableIn (off := 93) (tgt := 94) hx hb dX3_holds_1 (by rw [c7]; decide) (by rw [c7]; decide) (by rw [c7]; decide) (by decide) ?_
    refine lv_lload_n hx hb dX3_holds_94 rfl (lv_at hl 1 rfl) ?_
    refine lv_lload_n hx hb dX3_holds_95 rfl (lv_at hl 2 rfl) ?_
    refine pq_calli (va_runS (As := [.long p1, .long p2]) (rest := []) ⟨hx, hb, hml, hown, hts⟩ (c_J13_compareUnsigned l p1 p2) (va_cwS 2 hts gX3_holds_J13_compareUnsigned_74951 rfl rfl rfl ydS_J13_compareUnsigned_74951 ⟨Nat.le_of_ble_eq_true rfl, Nat.le_of_ble_eq_true rfl⟩) ap_S rfl rfl hl.1 rfl (lv_room (Nat.le_of_ble_eq_true rfl)) dX3_holds_96 ⟨Nat.le_of_ble_eq_true rfl, Nat.le_of_ble_eq_true rfl⟩) ?_
    refine lv_if_gt (tgt := 106) hx hb dX3_holds_99 (by decide) (fun c8 => ?_) (fun c8 => ?_)
    · refine lv_iconst (v := (0 : Int32)) hx hb dX3_holds_106 (by decide) ?_
      have es : (s_X3_holds p0 p1 p2) = (0 : Int32) := by unfold s_X3_holds; rw [if_neg c1, if_neg c3, if_neg c5, if_pos c7, if_pos c8]
      exact W.zret (v := (0 : Int32)) hx hb hr (rfl) (fun t ht hW => by rw [es]; exact ⟨rfl, ht⟩) (fun q h => nomatch h) dX3_holds_107
    · refine lv_iconst (v := (1 : Int32)) hx hb dX3_holds_102 (by decide) ?_
      refine lv_goto (tgt := 107) hx hb dX3_holds_103 (by decide) ?_
      have es : (s_X3_holds p0 p1 p2) = (1 : Int32) := by unfold s_X3_holds; rw [if_neg c1, if_neg c3, if_neg c5, if_pos c7, if_neg c8]
      exact W.zret (v := (1 : Int32)) hx hb hr (rfl) (fun t ht hW => by rw [es]; exact ⟨rfl, ht⟩) (fun q h => nomatch h) dX3_holds_107
  by_cases c9 : p0 = (4 : Int32)
  · refine lv_tableIn (off := 107) (tgt := 108) hx hb dX3_holds_1 (by rw [c9]; decide) (by rw [c9]; decide) (by rw [c9]; decide) (by decide) ?_
    refine lv_lload_n hx hb dX3_holds_108 rfl (lv_at hl 1 rfl) ?_
    refine lv_lload_n hx hb dX3_holds_109 rfl (lv_at hl 2 rfl) ?_
    refine pq_calli (va_runS (As := [.long p1, .long p2]) (rest := []) ⟨hx, hb, hml, hown, hts⟩ (c_J13_compareUnsigned l p1 p2) (va_cwS 2 hts gX3_holds_J13_compareUnsigned_74951 rfl rfl rfl ydS_J13_compareUnsigned_74951 ⟨Nat.le_of_ble_eq_true rfl, Nat.le_of_ble_eq_true rfl⟩) ap_S rfl rfl hl.1 rfl (lv_room (Nat.le_of_ble_eq_true rfl)) dX3_holds_110 ⟨Nat.le_of_ble_eq_true rfl, Nat.le_of_ble_eq_true rfl⟩) ?_
    refine pi_if_le (tgt := 120) hx hb dX3_holds_113 (by decide) (fun c10 => ?_) (fun c10 => ?_)
    · refine lv_iconst (v := (0 : Int32)) hx hb dX3_holds_120 (by decide) ?_
      have es : (s_X3_holds p0 p1 p2) = (0 : Int32) := by unfold s_X3_holds; rw [if_neg c1, if_neg c3, if_neg c5, if_neg c7, if_pos c9, if_neg c10]
      exact W.zret (v := (0 : Int32)) hx hb hr (rfl) (fun t ht hW => by rw [es]; exact ⟨rfl, ht⟩) (fun q h => nomatch h) dX3_holds_121
    · refine lv_iconst (v := (1 : Int32)) hx hb dX3_holds_116 (by decide) ?_
      refine lv_goto (tgt := 121) hx hb dX3_holds_117 (by decide) ?_
      have es : (s_X3_holds p0 p1 p2) = (1 : Int32) := by unfold s_X3_holds; rw [if_neg c1, if_neg c3, if_neg c5, if_neg c7, if_pos c9, if_pos c10]
      exact W.zret (v := (1 : Int32)) hx hb hr (rfl) (fun t ht hW => by rw [es]; exact ⟨rfl, ht⟩) (fun q h => nomatch h) dX3_holds_121
  by_cases c11 : p0 = (5 : Int32)
  · refine lv_tableIn (off := 121) (tgt := 122) hx hb dX3_holds_1 (by rw [c11]; decide) (by rw [c11]; decide) (by rw [c11]; decide) (by decide) ?_
    refine lv_lload_n hx hb dX3_holds_122 rfl (lv_at hl 1 rfl) ?_
    refine lv_lload_n hx hb dX3_holds_123 rfl (lv_at hl 2 rfl) ?_
    refine pq_calli (va_runS (As := [.long p1, .long p2]) (rest := []) ⟨hx, hb, hml, hown, hts⟩ (c_J13_compareUnsigned l p1 p2) (va_cwS 2 hts gX3_holds_J13_compareUnsigned_74951 rfl rfl rfl ydS_J13_compareUnsigned_74951 ⟨Nat.le_of_ble_eq_true rfl, Nat.le_of_ble_eq_true rfl⟩) ap_S rfl rfl hl.1 rfl (lv_room (Nat.le_of_ble_eq_true rfl)) dX3_holds_124 ⟨Nat.le_of_ble_eq_true rfl, Nat.le_of_ble_eq_true rfl⟩) ?_
    refine lv_if_lt (tgt := 134) hx hb dX3_holds_127 (by decide) (fun c12 => ?_) (fun c12 => ?_)
    · refine lv_iconst (v := (0 : Int32)) hx hb dX3_holds_134 (by decide) ?_
      have es : (s_X3_holds p0 p1 p2) = (0 : Int32) := by unfold s_X3_holds; rw [if_neg c1, if_neg c3, if_neg c5, if_neg c7, if_neg c9, if_pos c11, if_pos c12]
      exact W.zret (v := (0 : Int32)) hx hb hr (rfl) (fun t ht hW => by rw [es]; exact ⟨rfl, ht⟩) (fun q h => nomatch h) dX3_holds_135
    · refine lv_iconst (v := (1 : Int32)) hx hb dX3_holds_130 (by decide) ?_
      refine lv_goto (tgt := 135) hx hb dX3_holds_131 (by decide) ?_
      have es : (s_X3_holds p0 p1 p2) = (1 : Int32) := by unfold s_X3_holds; rw [if_neg c1, if_neg c3, if_neg c5, if_neg c7, if_neg c9, if_pos c11, if_neg c12]
      exact W.zret (v := (1 : Int32)) hx hb hr (rfl) (fun t ht hW => by rw [es]; exact ⟨rfl, ht⟩) (fun q h => nomatch h) dX3_holds_135
  by_cases c13 : p0 = (6 : Int32)
  · refine lv_tableIn (off := 135) (tgt := 136) hx hb dX3_holds_1 (by rw [c13]; decide) (by rw [c13]; decide) (by rw [c13]; decide) (by decide) ?_
    refine lv_lload_n hx hb dX3_holds_136 rfl (lv_at hl 1 rfl) ?_
    refine lv_lload_n hx hb dX3_holds_137 rfl (lv_at hl 2 rfl) ?_
    refine pl_ge (tgt := 146) hx hb dX3_holds_138 dX3_holds_139 (by decide) (fun c14 => ?_) (fun c14 => ?_)
    · refine lv_iconst (v := (0 : Int32)) hx hb dX3_holds_146 (by decide) ?_
      have es : (s_X3_holds p0 p1 p2) = (0 : Int32) := by unfold s_X3_holds; rw [if_neg c1, if_neg c3, if_neg c5, if_neg c7, if_neg c9, if_neg c11, if_pos c13, if_neg c14]
      exact W.zret (v := (0 : Int32)) hx hb hr (rfl) (fun t ht hW => by rw [es]; exact ⟨rfl, ht⟩) (fun q h => nomatch h) dX3_holds_147
    · refine lv_iconst (v := (1 : Int32)) hx hb dX3_holds_142 (by decide) ?_
      refine lv_goto (tgt := 147) hx hb dX3_holds_143 (by decide) ?_
      have es : (s_X3_holds p0 p1 p2) = (1 : Int32) := by unfold s_X3_holds; rw [if_neg c1, if_neg c3, if_neg c5, if_neg c7, if_neg c9, if_neg c11, if_pos c13, if_pos c14]
      exact W.zret (v := (1 : Int32)) hx hb hr (rfl) (fun t ht hW => by rw [es]; exact ⟨rfl, ht⟩) (fun q h => nomatch h) dX3_holds_147
  by_cases c15 : p0 = (7 : Int32)
  · refine lv_tableIn (off := 147) (tgt := 148) hx hb dX3_holds_1 (by rw [c15]; decide) (by rw [c15]; decide) (by rw [c15]; decide) (by decide) ?_
    refine lv_lload_n hx hb dX3_holds_148 rfl (lv_at hl 1 rfl) ?_
    refine lv_lload_n hx hb dX3_holds_149 rfl (lv_at hl 2 rfl) ?_
    refine pl_gt (tgt := 158) hx hb dX3_holds_150 dX3_holds_151 (by decide) (fun c16 => ?_) (fun c16 => ?_)
    · refine lv_iconst (v := (0 : Int32)) hx hb dX3_holds_158 (by decide) ?_
      have es : (s_X3_holds p0 p1 p2) = (0 : Int32) := by unfold s_X3_holds; rw [if_neg c1, if_neg c3, if_neg c5, if_neg c7, if_neg c9, if_neg c11, if_neg c13, if_pos c15, if_pos c16]
      exact W.zret (v := (0 : Int32)) hx hb hr (rfl) (fun t ht hW => by rw [es]; exact ⟨rfl, ht⟩) (fun q h => nomatch h) dX3_holds_159
    · refine lv_iconst (v := (1 : Int32)) hx hb dX3_holds_154 (by decide) ?_
      refine lv_goto (tgt := 159) hx hb dX3_holds_155 (by decide) ?_
      have es : (s_X3_holds p0 p1 p2) = (1 : Int32) := by unfold s_X3_holds; rw [if_neg c1, if_neg c3, if_neg c5, if_neg c7, if_neg c9, if_neg c11, if_neg c13, if_pos c15, if_neg c16]
      exact W.zret (v := (1 : Int32)) hx hb hr (rfl) (fun t ht hW => by rw [es]; exact ⟨rfl, ht⟩) (fun q h => nomatch h) dX3_holds_159
  by_cases c17 : p0 = (8 : Int32)
  · refine lv_tableIn (off := 159) (tgt := 160) hx hb dX3_holds_1 (by rw [c17]; decide) (by rw [c17]; decide) (by rw [c17]; decide) (by decide) ?_
    refine lv_lload_n hx hb dX3_holds_160 rfl (lv_at hl 1 rfl) ?_
    refine lv_lload_n hx hb dX3_holds_161 rfl (lv_at hl 2 rfl) ?_
    refine pl_le (tgt := 170) hx hb dX3_holds_162 dX3_holds_163 (by decide) (fun c18 => ?_) (fun c18 => ?_)
    · refine lv_iconst (v := (0 : Int32)) hx hb dX3_holds_170 (by decide) ?_
      have es : (s_X3_holds p0 p1 p2) = (0 : Int32) := by unfold s_X3_holds; rw [if_neg c1, if_neg c3, if_neg c5, if_neg c7, if_neg c9, if_neg c11, if_neg c13, if_neg c15, if_pos c17, if_neg c18]
      exact W.zret (v := (0 : Int32)) hx hb hr (rfl) (fun t ht hW => by rw [es]; exact ⟨rfl, ht⟩) (fun q h => nomatch h) dX3_holds_171
    · refine lv_iconst (v := (1 : Int32)) hx hb dX3_holds_166 (by decide) ?_
      refine lv_goto (tgt := 171) hx hb dX3_holds_167 (by decide) ?_
      have es : (s_X3_holds p0 p1 p2) = (1 : Int32) := by unfold s_X3_holds; rw [if_neg c1, if_neg c3, if_neg c5, if_neg c7, if_neg c9, if_neg c11, if_neg c13, if_neg c15, if_pos c17, if_pos c18]
      exact W.zret (v := (1 : Int32)) hx hb hr (rfl) (fun t ht hW => by rw [es]; exact ⟨rfl, ht⟩) (fun q h => nomatch h) dX3_holds_171
  by_cases c19 : p0 = (9 : Int32)
  · refine lv_tableIn (off := 171) (tgt := 172) hx hb dX3_holds_1 (by rw [c19]; decide) (by rw [c19]; decide) (by rw [c19]; decide) (by decide) ?_
    refine lv_lload_n hx hb dX3_holds_172 rfl (lv_at hl 1 rfl) ?_
    refine lv_lload_n hx hb dX3_holds_173 rfl (lv_at hl 2 rfl) ?_
    refine pl_lt (tgt := 182) hx hb dX3_holds_174 dX3_holds_175 (by decide) (fun c20 => ?_) (fun c20 => ?_)
    · refine lv_iconst (v := (0 : Int32)) hx hb dX3_holds_182 (by decide) ?_
      have es : (s_X3_holds p0 p1 p2) = (0 : Int32) := by unfold s_X3_holds; rw [if_neg c1, if_neg c3, if_neg c5, if_neg c7, if_neg c9, if_neg c11, if_neg c13, if_neg c15, if_neg c17, if_pos c19, if_pos c20]
      exact W.zret (v := (0 : Int32)) hx hb hr (rfl) (fun t ht hW => by rw [es]; exact ⟨rfl, ht⟩) (fun q h => nomatch h) dX3_holds_183
    · refine lv_iconst (v := (1 : Int32)) hx hb dX3_holds_178 (by decide) ?_
      refine lv_goto (tgt := 183) hx hb dX3_holds_179 (by decide) ?_
      have es : (s_X3_holds p0 p1 p2) = (1 : Int32) := by unfold s_X3_holds; rw [if_neg c1, if_neg c3, if_neg c5, if_neg c7, if_neg c9, if_neg c11, if_neg c13, if_neg c15, if_neg c17, if_pos c19, if_neg c20]
      exact W.zret (v := (1 : Int32)) hx hb hr (rfl) (fun t ht hW => by rw [es]; exact ⟨rfl, ht⟩) (fun q h => nomatch h) dX3_holds_183
  refine lv_tableOut (tgt := 184) hx hb dX3_holds_1 (by have h0 := lv_neT c1 (a := 0) rfl; have h1 := lv_neT c3 (a := 1) rfl; have h2 := lv_neT c5 (a := 2) rfl; have h3 := lv_neT c7 (a := 3) rfl; have h4 := lv_neT c9 (a := 4) rfl; have h5 := lv_neT c11 (a := 5) rfl; have h6 := lv_neT c13 (a := 6) rfl; have h7 := lv_neT c15 (a := 7) rfl; have h8 := lv_neT c17 (a := 8) rfl; have h9 := lv_neT c19 (a := 9) rfl; omega) (by decide) ?_
  refine lv_lload_n hx hb dX3_holds_184 rfl (lv_at hl 1 rfl) ?_
  refine lv_lload_n hx hb dX3_holds_185 rfl (lv_at hl 2 rfl) ?_
  refine lv_land hx hb dX3_holds_186 ?_
  refine lv_lconst (v := (0 : Int64)) hx hb dX3_holds_187 (by decide) ?_
  refine pl_eq (tgt := 196) hx hb dX3_holds_188 dX3_holds_189 (by decide) (fun c21 => ?_) (fun c21 => ?_)
  · refine lv_iconst (v := (0 : Int32)) hx hb dX3_holds_196 (by decide) ?_
    have es : (s_X3_holds p0 p1 p2) = (0 : Int32) := by unfold s_X3_holds; rw [if_neg c1, if_neg c3, if_neg c5, if_neg c7, if_neg c9, if_neg c11, if_neg c13, if_neg c15, if_neg c17, if_neg c19, if_pos c21]
    exact W.zret (v := (0 : Int32)) hx hb hr (rfl) (fun t ht hW => by rw [es]; exact ⟨rfl, ht⟩) (fun q h => nomatch h) dX3_holds_197
  · refine lv_iconst (v := (1 : Int32)) hx hb dX3_holds_192 (by decide) ?_
    refine lv_goto (tgt := 197) hx hb dX3_holds_193 (by decide) ?_
    have es : (s_X3_holds p0 p1 p2) = (1 : Int32) := by unfold s_X3_holds; rw [if_neg c1, if_neg c3, if_neg c5, if_neg c7, if_neg c9, if_neg c11, if_neg c13, if_neg c15, if_neg c17, if_neg c19, if_neg c21]
    exact W.zret (v := (1 : Int32)) hx hb hr (rfl) (fun t ht hW => by rw [es]; exact ⟨rfl, ht⟩) (fun q h => nomatch h) dX3_holds_197

def s_X3_opposite (p0 : Int32) : Int32 :=
  if p0 = (0 : Int32) then (1 : Int32)
  else if p0 = (1 : Int32) then (0 : Int32)
  else if p0 = (2 : Int32) then (5 : Int32)
  else if p0 = (3 : Int32) then (4 : Int32)
  else if p0 = (4 : Int32) then (3 : Int32)
  else if p0 = (5 : Int32) then (2 : Int32)
  else if p0 = (6 : Int32) then (9 : Int32)
  else if p0 = (7 : Int32) then (8 : Int32)
  else if p0 = (8 : Int32) then (7 : Int32)
  else if p0 = (9 : Int32) then (6 : Int32)
  else (-1 : Int32)
set_option maxHeartbeats 4000000 in
set_option maxRecDepth 100000 in
theorem c_X3_opposite (l : Launch) (p0 : Int32) : Met l yX3_opposite wsX3_opposite ({ frames := 0, cells := 0, slots := 0, locals := 0 }) (ap [.int p0]) (pq (some (.int (s_X3_opposite p0)))) 0 0 (fun _ => False) := by
  refine Met.ofW (cc := cX3_opposite) (maxL := 1) (ret := (some .int)) (by decide) rfl ?_
  intro p e s m args below meth c s₁ B hml hv
  have hv : args = ([.int p0] : List Value).toArray := hv
  subst hv
  have hx := B.exec
  have hb := B.bytes
  have hr := B.returns
  have hts := atoms_spec (ws := wsX3_opposite) B.pre
  have hown : s.vm.findClass RX3 = some m.cls := findClass_of_methodNamed B.named
  have hlocks := B.notSynchronized
  have hl := lv_entry ([.int p0]) (n := 1) (Nat.le_of_ble_eq_true rfl)
  rw [lg_entry_eq]
  generalize (lg_sl ([.int p0]) ++ List.replicate (1 - (lg_sl ([.int p0])).length) Slot.unset).toArray = ls at hl ⊢
  have hl : lv_has ls 1 [(0, .int p0)] := hl
  refine lv_iload_n hx hb dX3_opposite_0 rfl (lv_at hl 0 rfl) ?_
  by_cases c1 : p0 = (0 : Int32)
  · refine lv_tableIn (off := 51) (tgt := 52) hx hb dX3_opposite_1 (by rw [c1]; decide) (by rw [c1]; decide) (by rw [c1]; decide) (by decide) ?_
    refine lv_iconst (v := (1 : Int32)) hx hb dX3_opposite_52 (by decide) ?_
    have es : (s_X3_opposite p0) = (1 : Int32) := by unfold s_X3_opposite; rw [if_pos c1]
    exact W.iret (v := (1 : Int32)) hx hb hr (fun t ht hW => by rw [es]; exact ⟨rfl, ht⟩) (fun q h => nomatch h) dX3_opposite_53
  by_cases c2 : p0 = (1 : Int32)
  · refine lv_tableIn (off := 53) (tgt := 54) hx hb dX3_opposite_1 (by rw [c2]; decide) (by rw [c2]; decide) (by rw [c2]; decide) (by decide) ?_
    refine lv_iconst (v := (0 : Int32)) hx hb dX3_opposite_54 (by decide) ?_
    have es : (s_X3_opposite p0) = (0 : Int32) := by unfold s_X3_opposite; rw [if_neg c1, if_pos c2]
    exact W.iret (v := (0 : Int32)) hx hb hr (fun t ht hW => by rw [es]; exact ⟨rfl, ht⟩) (fun q h => nomatch h) dX3_opposite_55
  by_cases c3 : p0 = (2 : Int32)
  · refine lv_tableIn (off := 55) (tgt := 56) hx hb dX3_opposite_1 (by rw [c3]; decide) (by rw [c3]; decide) (by rw [c3]; decide) (by decide) ?_
    refine lv_iconst (v := (5 : Int32)) hx hb dX3_opposite_56 (by decide) ?_
    have es : (s_X3_opposite p0) = (5 : Int32) := by unfold s_X3_opposite; rw [if_neg c1, if_neg c2, if_pos c3]
    exact W.iret (v := (5 : Int32)) hx hb hr (fun t ht hW => by rw [es]; exact ⟨rfl, ht⟩) (fun q h => nomatch h) dX3_opposite_57
  by_cases c4 : p0 = (3 : Int32)
  · refine lv_tableIn (off := 57) (tgt := 58) hx hb dX3_opposite_1 (by rw [c4]; decide) (by rw [c4]; decide) (by rw [c4]; decide) (by decide) ?_
    refine lv_iconst (v := (4 : Int32)) hx hb dX3_opposite_58 (by decide) ?_
    have es : (s_X3_opposite p0) = (4 : Int32) := by unfold s_X3_opposite; rw [if_neg c1, if_neg c2, if_neg c3, if_pos c4]
    exact W.iret (v := (4 : Int32)) hx hb hr (fun t ht hW => by rw [es]; exact ⟨rfl, ht⟩) (fun q h => nomatch h) dX3_opposite_59
  by_cases c5 : p0 = (4 : Int32)
  · refine lv_tableIn (off := 59) (tgt := 60) hx hb dX3_opposite_1 (by rw [c5]; decide) (by rw [c5]; decide) (by rw [c5]; decide) (by decide) ?_
    refine lv_iconst (v := (3 : Int32)) hx hb dX3_opposite_60 (by decide) ?_
    have es : (s_X3_opposite p0) = (3 : Int32) := by unfold s_X3_opposite; rw [if_neg c1, if_neg c2, if_neg c3, if_neg c4, if_pos c5]
    exact W.iret (v := (3 : Int32)) hx hb hr (fun t ht hW => by rw [es]; exact ⟨rfl, ht⟩) (fun q h => nomatch h) dX3_opposite_61
  by_cases c6 : p0 = (5 : Int32)
  · refine lv_tableIn (off := 61) (tgt := 62) hx hb dX3_opposite_1 (by rw [c6]; decide) (by rw [c6]; decide) (by rw [c6]; decide) (by decide) ?_
    refine lv_iconst (v := (2 : Int32)) hx hb dX3_opposite_62 (by decide) ?_
    have es : (s_X3_opposite p0) = (2 : Int32) := by unfold s_X3_opposite; rw [if_neg c1, if_neg c2, if_neg c3, if_neg c4, if_neg c5, if_pos c6]
    exact W.iret (v := (2 : Int32)) hx hb hr (fun t ht hW => by rw [es]; exact ⟨rfl, ht⟩) (fun q h => nomatch h) dX3_opposite_63
  by_cases c7 : p0 = (6 : Int32)
  · refine lv_tableIn (off := 63) (tgt := 64) hx hb dX3_opposite_1 (by rw [c7]; decide) (by rw [c7]; decide) (by rw [c7]; decide) (by decide) ?_
    refine lv_bipush (v := (9 : Int32)) hx hb dX3_opposite_64 (by decide) ?_
    have es : (s_X3_opposite p0) = (9 : Int32) := by unfold s_X3_opposite; rw [if_neg c1, if_neg c2, if_neg c3, if_neg c4, if_neg c5, if_neg c6, if_pos c7]
    exact W.iret (v := (9 : Int32)) hx hb hr (fun t ht hW => by rw [es]; exact ⟨rfl, ht⟩) (fun q h => nomatch h) dX3_opposite_66
  by_cases c8 : p0 = (7 : Int32)
  · refine lv_tableIn (off := 66) (tgt := 67) hx hb dX3_opposite_1 (by rw [c8]; decide) (by rw [c8]; decide) (by rw [c8]; decide) (by decide) ?_
    refine lv_bipush (v := (8 : Int32)) hx hb dX3_opposite_67 (by decide) ?_
    have es : (s_X3_opposite p0) = (8 : Int32) := by unfold s_X3_opposite; rw [if_neg c1, if_neg c2, if_neg c3, if_neg c4, if_neg c5, if_neg c6, if_neg c7, if_pos c8]
    exact W.iret (v := (8 : Int32)) hx hb hr (fun t ht hW => by rw [es]; exact ⟨rfl, ht⟩) (fun q h => nomatch h) dX3_opposite_69
  by_cases c9 : p0 = (8 : Int32)
  · refine lv_tableIn (off := 69) (tgt := 70) hx hb dX3_opposite_1 (by rw [c9]; decide) (by rw [c9]; decide) (by rw [c9]; decide) (by decide) ?_
    refine lv_bipush (v := (7 : Int32)) hx hb dX3_opposite_70 (by decide) ?_
    have es : (s_X3_opposite p0) = (7 : Int32) := by unfold s_X3_opposite; rw [if_neg c1, if_neg c2, if_neg c3, if_neg c4, if_neg c5, if_neg c6, if_neg c7, if_neg c8, if_pos c9]
    exact W.iret (v := (7 : Int32)) hx hb hr (fun t ht hW => by rw [es]; exact ⟨rfl, ht⟩) (fun q h => nomatch h) dX3_opposite_72
  refine lv_tableOut (tgt := 73) hx hb dX3_opposite_1 (by have h0 := lv_neT c1 (a := 0) rfl; have h1 := lv_neT c2 (a := 1) rfl; have h2 := lv_neT c3 (a := 2) rfl; have h3 := lv_neT c4 (a := 3) rfl; have h4 := lv_neT c5 (a := 4) rfl; have h5 := lv_neT c6 (a := 5) rfl; have h6 := lv_neT c7 (a := 6) rfl; have h7 := lv_neT c8 (a := 7) rfl; have h8 := lv_neT c9 (a := 8) rfl; omega) (by decide) ?_
  refine lv_iload_n hx hb dX3_opposite_73 rfl (lv_at hl 0 rfl) ?_
  refine lv_bipush (v := (9 : Int32)) hx hb dX3_opposite_74 (by decide) ?_
  refine lv_icmp_ne (tgt := 84) hx hb dX3_opposite_76 (by decide) (fun c10 => ?_) (fun c10 => ?_)
  · refine lv_iconst (v := (-1 : Int32)) hx hb dX3_opposite_84 (by decide) ?_
    have es : (s_X3_opposite p0) = (-1 : Int32) := by unfold s_X3_opposite; rw [if_neg c1, if_neg c2, if_neg c3, if_neg c4, if_neg c5, if_neg c6, if_neg c7, if_neg c8, if_neg c9, if_neg c10]
    exact W.iret (v := (-1 : Int32)) hx hb hr (fun t ht hW => by rw [es]; exact ⟨rfl, ht⟩) (fun q h => nomatch h) dX3_opposite_85
  · refine lv_bipush (v := (6 : Int32)) hx hb dX3_opposite_79 (by decide) ?_
    refine lv_goto (tgt := 85) hx hb dX3_opposite_81 (by decide) ?_
    have es : (s_X3_opposite p0) = (6 : Int32) := by unfold s_X3_opposite; rw [if_neg c1, if_neg c2, if_neg c3, if_neg c4, if_neg c5, if_neg c6, if_neg c7, if_neg c8, if_neg c9, if_pos c10]
    exact W.iret (v := (6 : Int32)) hx hb hr (fun t ht hW => by rw [es]; exact ⟨rfl, ht⟩) (fun q h => nomatch h) dX3_opposite_85
