/-! the three constructors -/
theorem c_X1_init (l : Launch) (h0 : Nat) : Met l yX1_init wsX1_init ({ frames := 1, cells := 0, slots := 0, locals := 12 }) (ap [.ref h0]) (pq none) 0 0 (fun _ => False) := by
  refine Met.ofW (cc := cX1_init) (maxL := 1) (ret := none) (by decide) rfl ?_
  intro p e s m args below meth c s₁ B hml hv
  obtain rfl := hv
  have hx := B.exec
  have hb := B.bytes
  have hr := B.returns
  have hts := atoms_spec (ws := wsX1_init) B.pre
  have hown : s.vm.findClass RX1 = some m.cls := findClass_of_methodNamed B.named
  have hl := lv_entry ([.ref h0]) (n := 1) (Nat.le_of_ble_eq_true rfl)
  rw [lg_entry_eq]
  generalize (lg_sl ([.ref h0]) ++ List.replicate (1 - (lg_sl ([.ref h0])).length) Slot.unset).toArray = ls at hl ⊢
  have hl : lv_has ls 1 [(0, .ref h0)] := hl
  refine lv_aload_n hx hb dX1_init_0 rfl (lv_at hl 0 rfl) ?_
  refine W.objInit hx hb hown (hts (.methodLink RX1 1 objectInit) (List.mem_of_getElem? (i := 1) rfl)) (hts (.instanceMethod objectInit) (List.mem_of_getElem? (i := 2) rfl)) (hts _ (List.mem_of_getElem? (i := 3) rfl)) rfl (by rw [hml]; exact hl.1) rfl dX1_init_1 (Nat.le_of_ble_eq_true rfl) (Nat.le_of_ble_eq_true rfl) ?_
  refine W.eq (g2 := F0 m 4 ls []) rfl ?_
  exact W.vret hx hb hr (fun t ht hW => ⟨rfl, ht⟩) (fun q h => by cases h) dX1_init_4
def zL : Nat → Int64 := fun _ => 0
/-- a new RangeBox -/
def wX2 (h0 : Nat) (u : Nat × Nat × Nat × ClassId × ClassId) : va_W := [(h0, .inr (1, [.ref u.1, .ref u.2.1, .ref u.2.2.1])), (u.1, .inl (u.2.2.2.1, 16, .inr (.inl zL))), (u.2.1, .inl (u.2.2.2.2, 16, .inr (.inl zL))), (u.2.2.1, .inr (0, [.long 0, .long 0, .long 0, .long 0, .long 0, .long 0]))]
def at_X2 (dC : Nat → ClassId) (dI : Nat → Nat → Nat) (A : Nat → Prop) (h0 : Nat) (u : Nat × Nat × Nat × ClassId × ClassId) (t : State) : Prop := va_P (dC, dI) vwCl (wX2 h0 u) t.heap ∧ va_K (dC, dI) vwCl [(u.2.2.2.1, .long), (u.2.2.2.2, .long)] t ∧ va_D A (wX2 h0 u)
set_option maxHeartbeats 4000000 in
set_option maxRecDepth 100000 in
theorem c_X2_init (l : Launch) (S0 : Nat) (dC : Nat → ClassId) (dI : Nat → Nat → Nat) (h0 sz : Nat) : Met l yX2_init wsX2_init ({ frames := 2, cells := 3, slots := 38, locals := 32 }) (twp S0 (dC, dI) vwCl [] [.ref h0] sz [(h0, .inr (1, [.null, .null, .null]))]) (va_Qv (fun _ : Nat × Nat × Nat × ClassId × ClassId => True) (at_X2 dC dI (va_A [(h0, .inr (1, [.null, .null, .null]))] sz) h0) (va_A [(h0, .inr (1, [.null, .null, .null]))] sz)) 3 38 (va_A [(h0, .inr (1, [.null, .null, .null]))] sz) := by
  refine Met.ofW (cc := cX2_init) (maxL := 1) (ret := none) (by decide) rfl ?_
  intro p e s m args below meth c s₁ B hml hv
  obtain ⟨rfl, hsz, hP, hK, hD0, hAm⟩ := hv
  have hx := B.exec
  have hb := B.bytes
  have hr := B.returns
  have hts := atoms_spec (ws := wsX2_init) B.pre
  have hown : s.vm.findClass RX2 = some m.cls := findClass_of_methodNamed B.named
  have hlocks := B.notSynchronized
  have hin : meth.name = "<init>" := (name_of_methodNamed B.named B.method).1
  subst hsz
  have hD := hD0.self (sz := s.heap.size)
  generalize hAe : va_A [(h0, .inr (1, [.null, .null, .null]))] s.heap.size = A at hD ⊢
  have hA : ∀ q : Nat, s.heap.size ≤ q → A q := fun q h => by rw [← hAe]; exact Or.inr h
  have hS : va_S A s.heap s.heap [] := va_S.rf
  have hP : va_P (dC, dI) vwCl [(h0, .inr (1, [.null, .null, .null]))] s.heap := hP
  have hl := lv_entry ([.ref h0]) (n := 1) (Nat.le_of_ble_eq_true rfl)
  rw [lg_entry_eq]
  generalize (lg_sl ([.ref h0]) ++ List.replicate (1 - (lg_sl ([.ref h0])).length) Slot.unset).toArray = ls at hl ⊢
  have hl : lv_has ls 1 [(0, .ref h0)] := hl
  have hi_RX2 : ∀ w ∈ wsX20, w ∈ wsX2_init := fun _ h => List.mem_cons_of_mem _ (List.mem_append_left _ (List.mem_append_right _ h))
  have hi_RX1 : ∀ w ∈ wsX10, w ∈ wsX2_init := fun _ h => List.mem_cons_of_mem _ (List.mem_append_right _ h)
  have harr := hts (.arrayClass .long) (List.mem_of_getElem? (i := 4) rfl)
  refine lv_aload_n hx hb dX2_init_0 rfl (lv_at hl 0 rfl) ?_
  refine W.objInit hx hb hown (hts (.methodLink RX2 1 objectInit) (List.mem_of_getElem? (i := 1) rfl)) (hts (.instanceMethod objectInit) (List.mem_of_getElem? (i := 2) rfl)) (hts _ (List.mem_of_getElem? (i := 3) rfl)) rfl (by rw [hml]; exact hl.1) rfl dX2_init_1 (Nat.le_of_ble_eq_true rfl) (Nat.le_of_ble_eq_true rfl) ?_
  refine W.eq (g2 := F0 m 4 ls []) rfl ?_
  refine lv_aload_n hx hb dX2_init_4 rfl (lv_at hl 0 rfl) ?_
  refine lv_bipush (v := 16) hx hb dX2_init_5 rfl ?_
  refine va_newa (atype := .long) (n := 16) (ty := .long) (a0 := (16, .inr (.inl zL))) (N' := 16) hx hb harr rfl hK hP hD hS hA (fun _ => rfl) (by decide) (by decide) (by decide) (Nat.le_of_ble_eq_true rfl) (Nat.le_of_ble_eq_true rfl) dX2_init_7 (fun q1 cA H hK hP hD hS => ?_)
  have hP : va_P (dC, dI) vwCl [(h0, .inr (1, [.null, .null, .null])), (q1, .inl (cA, 16, .inr (.inl zL)))] H := hP
  have hD : va_D A [(h0, .inr (1, [.null, .null, .null])), (q1, .inl (cA, 16, .inr (.inl zL)))] := hD
  have hK : va_K (dC, dI) vwCl [(cA, .long)] s := hK
  refine W.widen (k := 1) (n := 16) (by omega) (by omega) ?_
  refine va_putF (D := (dC, dI)) (ci := 1) (v := .ref q1) (ty := .array .long) (C := RX2) (T := TX2) (N := 3) hx hb hts hi_RX2 tyX2 tyX2_ok nmX2 hown hK hP hD hS 0 rfl rfl 0 (by decide) (hts (.fieldLink RX2 9 "RangeBox" "lows" "[J") (List.mem_of_getElem? (i := 5) rfl)) (fun _ h9 => h9) rfl hin rfl (tyX2_ok 0 (by decide)) rfl rfl (Nat.le_of_ble_eq_true rfl) dX2_init_9 (fun H locs hP hD hS => ?_)
  have hP : va_P (dC, dI) vwCl [(h0, .inr (1, [.ref q1, .null, .null])), (q1, .inl (cA, 16, .inr (.inl zL)))] H := hP
  have hD : va_D A [(h0, .inr (1, [.ref q1, .null, .null])), (q1, .inl (cA, 16, .inr (.inl zL)))] := hD
  refine lv_aload_n hx hb dX2_init_12 rfl (lv_at hl 0 rfl) ?_
  refine lv_bipush (v := 16) hx hb dX2_init_13 rfl ?_
  refine va_newa (atype := .long) (n := 16) (ty := .long) (a0 := (16, .inr (.inl zL))) (N' := 16) hx hb harr rfl hK hP hD hS hA (fun _ => rfl) (by decide) (by decide) (by decide) (Nat.le_of_ble_eq_true rfl) (Nat.le_of_ble_eq_true rfl) dX2_init_15 (fun q2 cB H hK hP hD hS => ?_)
  have hP : va_P (dC, dI) vwCl [(h0, .inr (1, [.ref q1, .null, .null])), (q1, .inl (cA, 16, .inr (.inl zL))), (q2, .inl (cB, 16, .inr (.inl zL)))] H := hP
  have hD : va_D A [(h0, .inr (1, [.ref q1, .null, .null])), (q1, .inl (cA, 16, .inr (.inl zL))), (q2, .inl (cB, 16, .inr (.inl zL)))] := hD
  have hK : va_K (dC, dI) vwCl [(cA, .long), (cB, .long)] s := hK
  refine W.widen (k := 2) (n := 32) (by omega) (by omega) ?_
  refine va_putF (D := (dC, dI)) (ci := 1) (v := .ref q2) (ty := .array .long) (C := RX2) (T := TX2) (N := 3) hx hb hts hi_RX2 tyX2 tyX2_ok nmX2 hown hK hP hD hS 0 rfl rfl 1 (by decide) (hts (.fieldLink RX2 13 "RangeBox" "highs" "[J") (List.mem_of_getElem? (i := 6) rfl)) (fun _ h9 => h9) rfl hin rfl (tyX2_ok 1 (by decide)) rfl rfl (Nat.le_of_ble_eq_true rfl) dX2_init_17 (fun H locs hP hD hS => ?_)
  have hP : va_P (dC, dI) vwCl [(h0, .inr (1, [.ref q1, .ref q2, .null])), (q1, .inl (cA, 16, .inr (.inl zL))), (q2, .inl (cB, 16, .inr (.inl zL)))] H := hP
  have hD : va_D A [(h0, .inr (1, [.ref q1, .ref q2, .null])), (q1, .inl (cA, 16, .inr (.inl zL))), (q2, .inl (cB, 16, .inr (.inl zL)))] := hD
  refine lv_aload_n hx hb dX2_init_20 rfl (lv_at hl 0 rfl) ?_
  refine va_new (ci := 0) (fs := [.long 0, .long 0, .long 0, .long 0, .long 0, .long 0]) (C := RX1) (T := TX1) (N := 6) hx hb hts hi_RX1 tyX1 tyX1_ok hown (hts (.classLink RX2 16 RX1) (List.mem_of_getElem? (i := 7) rfl)) (hts (.instantiable RX1 6) (List.mem_of_getElem? (i := 8) rfl)) (hts (.initialized RX1) (List.mem_of_getElem? (i := 9) rfl)) hK hP hD hS hA rfl (fun j hj => by rcases (show j = 0 ∨ j = 1 ∨ j = 2 ∨ j = 3 ∨ j = 4 ∨ j = 5 by omega) with rfl | rfl | rfl | rfl | rfl | rfl <;> rfl) (Nat.le_of_ble_eq_true rfl) (Nat.le_of_ble_eq_true rfl) dX2_init_21 (fun q3 H hP hD hS => ?_)
  have hP : va_P (dC, dI) vwCl [(h0, .inr (1, [.ref q1, .ref q2, .null])), (q1, .inl (cA, 16, .inr (.inl zL))), (q2, .inl (cB, 16, .inr (.inl zL))), (q3, .inr (0, [.long 0, .long 0, .long 0, .long 0, .long 0, .long 0]))] H := hP
  have hD : va_D A [(h0, .inr (1, [.ref q1, .ref q2, .null])), (q1, .inl (cA, 16, .inr (.inl zL))), (q2, .inl (cB, 16, .inr (.inl zL))), (q3, .inr (0, [.long 0, .long 0, .long 0, .long 0, .long 0, .long 0]))] := hD
  refine W.widen (k := 3) (n := 38) (by omega) (by omega) ?_
  refine lv_dup hx hb dX2_init_24 rfl ?_
  refine pq_callv (va_runIN (As := []) (rest := [.ref q3, .ref h0]) ⟨hx, hb, hml, hown, hts⟩ (c_X1_init l q3) ⟨va_cnB (host := "RangeBox") 0 hts gX2_init_X1_init_n18 rfl rfl rfl hAm.2.2.2.2.2.2 (hts (.initialized RX1) (List.mem_of_getElem? (i := 9) rfl)) (by decide +kernel) ⟨Nat.le_of_ble_eq_true rfl, Nat.le_of_ble_eq_true rfl⟩, rfl, hts (.instanceMethod yX1_init) (List.mem_of_getElem? (i := 11) rfl)⟩ ap_S rfl rfl hl.1 rfl (lv_room (Nat.le_of_ble_eq_true rfl)) dX2_init_25 ⟨Nat.le_of_ble_eq_true rfl, Nat.le_of_ble_eq_true rfl⟩) ?_
  refine va_putF (D := (dC, dI)) (ci := 1) (v := .ref q3) (ty := .object "RangeBox$Outcome") (C := RX2) (T := TX2) (N := 3) hx hb hts hi_RX2 tyX2 tyX2_ok nmX2 hown hK hP hD hS 0 rfl rfl 2 (by decide) (hts (.fieldLink RX2 19 "RangeBox" "outcome" "LRangeBox$Outcome;") (List.mem_of_getElem? (i := 10) rfl)) (fun _ h9 => h9) rfl hin rfl (tyX2_ok 2 (by decide)) rfl rfl (Nat.le_of_ble_eq_true rfl) dX2_init_28 (fun H locs hP hD hS => ?_)
  have hP : va_P (dC, dI) vwCl (wX2 h0 (q1, q2, q3, cA, cB)) H := hP
  have hD : va_D A (wX2 h0 (q1, q2, q3, cA, cB)) := hD
  exact W.vret hx hb hr (fun t ht hW => ⟨⟨(q1, q2, q3, cA, cB), rfl, trivial, by rw [ht]; exact hP, va_K.moved hW.alike hK, hD⟩, hS.F ht⟩) hS.2.2 dX2_init_31
/-- a new RangeBoxModel -/
def wX3 (g0 : Nat) (u : Nat × Nat × ClassId × ClassId) : va_W := [(g0, .inr (2, [.int 0, .ref u.1, .ref u.2.1, .long 0, .long 0, .int 0, .long 0, .long 0, .long 0, .long 0])), (u.1, .inl (u.2.2.1, 16, .inr (.inl zL))), (u.2.1, .inl (u.2.2.2, 16, .inr (.inl zL)))]
def at_X3 (dC : Nat → ClassId) (dI : Nat → Nat → Nat) (A : Nat → Prop) (g0 : Nat) (u : Nat × Nat × ClassId × ClassId) (t : State) : Prop := va_P (dC, dI) vwCl (wX3 g0 u) t.heap ∧ va_K (dC, dI) vwCl [(u.2.2.1, .long), (u.2.2.2, .long)] t ∧ va_D A (wX3 g0 u)
set_option maxHeartbeats 4000000 in
set_option maxRecDepth 100000 in
theorem c_X3_init (l : Launch) (dC : Nat → ClassId) (dI : Nat → Nat → Nat) (g0 sz : Nat) : Met l yX3_init wsX3_init ({ frames := 1, cells := 2, slots := 32, locals := 12 }) (wp9 (dC, dI) vwCl [] [.ref g0] sz [(g0, .inr (2, [.int 0, .null, .null, .long 0, .long 0, .int 0, .long 0, .long 0, .long 0, .long 0]))]) (va_Qv (fun _ : Nat × Nat × ClassId × ClassId => True) (at_X3 dC dI (va_A [(g0, .inr (2, [.int 0, .null, .null, .long 0, .long 0, .int 0, .long 0, .long 0, .long 0, .long 0]))] sz) g0) (va_A [(g0, .inr (2, [.int 0, .null, .null, .long 0, .long 0, .int 0, .long 0, .long 0, .long 0, .long 0]))] sz)) 2 32 (va_A [(g0, .inr (2, [.int 0, .null, .null, .long 0, .long 0, .int 0, .long 0, .long 0, .long 0, .long 0]))] sz) := by
  refine Met.ofW (cc := cX3_init) (maxL := 1) (ret := none) (by decide) rfl ?_
  intro p e s m args below meth c s₁ B hml hv
  obtain ⟨rfl, hsz, hP, hK, hD0⟩ := hv
  have hx := B.exec
  have hb := B.bytes
  have hr := B.returns
  have hts := atoms_spec (ws := wsX3_init) B.pre
  have hown : s.vm.findClass RX3 = some m.cls := findClass_of_methodNamed B.named
  have hlocks := B.notSynchronized
  have hin : meth.name = "<init>" := (name_of_methodNamed B.named B.method).1
  subst hsz
  have hD := hD0.self (sz := s.heap.size)
  generalize hAe : va_A [(g0, .inr (2, [.int 0, .null, .null, .long 0, .long 0, .int 0, .long 0, .long 0, .long 0, .long 0]))] s.heap.size = A at hD ⊢
  have hA : ∀ q : Nat, s.heap.size ≤ q → A q := fun q h => by rw [← hAe]; exact Or.inr h
  have hS : va_S A s.heap s.heap [] := va_S.rf
  have hP : va_P (dC, dI) vwCl [(g0, .inr (2, [.int 0, .null, .null, .long 0, .long 0, .int 0, .long 0, .long 0, .long 0, .long 0]))] s.heap := hP
  have hl := lv_entry ([.ref g0]) (n := 1) (Nat.le_of_ble_eq_true rfl)
  rw [lg_entry_eq]
  generalize (lg_sl ([.ref g0]) ++ List.replicate (1 - (lg_sl ([.ref g0])).length) Slot.unset).toArray = ls at hl ⊢
  have hl : lv_has ls 1 [(0, .ref g0)] := hl
  have hi_RX3 : ∀ w ∈ wsX30, w ∈ wsX3_init := fun _ h => List.mem_cons_of_mem _ (List.mem_append_right _ h)
  have harr := hts (.arrayClass .long) (List.mem_of_getElem? (i := 4) rfl)
  refine lv_aload_n hx hb dX3_init_0 rfl (lv_at hl 0 rfl) ?_
  refine W.objInit hx hb hown (hts (.methodLink RX3 3 objectInit) (List.mem_of_getElem? (i := 1) rfl)) (hts (.instanceMethod objectInit) (List.mem_of_getElem? (i := 2) rfl)) (hts _ (List.mem_of_getElem? (i := 3) rfl)) rfl (by rw [hml]; exact hl.1) rfl dX3_init_1 (Nat.le_of_ble_eq_true rfl) (Nat.le_of_ble_eq_true rfl) ?_
  refine W.eq (g2 := F0 m 4 ls []) rfl ?_
  refine lv_aload_n hx hb dX3_init_4 rfl (lv_at hl 0 rfl) ?_
  refine lv_bipush (v := 16) hx hb dX3_init_5 rfl ?_
  refine va_newa (atype := .long) (n := 16) (ty := .long) (a0 := (16, .inr (.inl zL))) (N' := 16) hx hb harr rfl hK hP hD hS hA (fun _ => rfl) (by decide) (by decide) (by decide) (Nat.le_of_ble_eq_true rfl) (Nat.le_of_ble_eq_true rfl) dX3_init_7 (fun r1 cC H hK hP hD hS => ?_)
  have hP : va_P (dC, dI) vwCl [(g0, .inr (2, [.int 0, .null, .null, .long 0, .long 0, .int 0, .long 0, .long 0, .long 0, .long 0])), (r1, .inl (cC, 16, .inr (.inl zL)))] H := hP
  have hD : va_D A [(g0, .inr (2, [.int 0, .null, .null, .long 0, .long 0, .int 0, .long 0, .long 0, .long 0, .long 0])), (r1, .inl (cC, 16, .inr (.inl zL)))] := hD
  have hK : va_K (dC, dI) vwCl [(cC, .long)] s := hK
  refine W.widen (k := 1) (n := 16) (by omega) (by omega) ?_
  refine va_putF (D := (dC, dI)) (ci := 2) (v := .ref r1) (ty := .array .long) (C := RX3) (T := TX3) (N := 10) hx hb hts hi_RX3 tyX3 tyX3_ok nmX3 hown hK hP hD hS 0 rfl rfl 1 (by decide) (hts (.fieldLink RX3 9 "RangeBoxModel" "low" "[J") (List.mem_of_getElem? (i := 5) rfl)) (fun _ h9 => h9) rfl hin rfl (tyX3_ok 1 (by decide)) rfl rfl (Nat.le_of_ble_eq_true rfl) dX3_init_9 (fun H locs hP hD hS => ?_)
  have hP : va_P (dC, dI) vwCl [(g0, .inr (2, [.int 0, .ref r1, .null, .long 0, .long 0, .int 0, .long 0, .long 0, .long 0, .long 0])), (r1, .inl (cC, 16, .inr (.inl zL)))] H := hP
  have hD : va_D A [(g0, .inr (2, [.int 0, .ref r1, .null, .long 0, .long 0, .int 0, .long 0, .long 0, .long 0, .long 0])), (r1, .inl (cC, 16, .inr (.inl zL)))] := hD
  refine lv_aload_n hx hb dX3_init_12 rfl (lv_at hl 0 rfl) ?_
  refine lv_bipush (v := 16) hx hb dX3_init_13 rfl ?_
  refine va_newa (atype := .long) (n := 16) (ty := .long) (a0 := (16, .inr (.inl zL))) (N' := 16) hx hb harr rfl hK hP hD hS hA (fun _ => rfl) (by decide) (by decide) (by decide) (Nat.le_of_ble_eq_true rfl) (Nat.le_of_ble_eq_true rfl) dX3_init_15 (fun r2 cD H hK hP hD hS => ?_)
  have hP : va_P (dC, dI) vwCl [(g0, .inr (2, [.int 0, .ref r1, .null, .long 0, .long 0, .int 0, .long 0, .long 0, .long 0, .long 0])), (r1, .inl (cC, 16, .inr (.inl zL))), (r2, .inl (cD, 16, .inr (.inl zL)))] H := hP
  have hD : va_D A [(g0, .inr (2, [.int 0, .ref r1, .null, .long 0, .long 0, .int 0, .long 0, .long 0, .long 0, .long 0])), (r1, .inl (cC, 16, .inr (.inl zL))), (r2, .inl (cD, 16, .inr (.inl zL)))] := hD
  have hK : va_K (dC, dI) vwCl [(cC, .long), (cD, .long)] s := hK
  refine W.widen (k := 2) (n := 32) (by omega) (by omega) ?_
  refine va_putF (D := (dC, dI)) (ci := 2) (v := .ref r2) (ty := .array .long) (C := RX3) (T := TX3) (N := 10) hx hb hts hi_RX3 tyX3 tyX3_ok nmX3 hown hK hP hD hS 0 rfl rfl 2 (by decide) (hts (.fieldLink RX3 15 "RangeBoxModel" "high" "[J") (List.mem_of_getElem? (i := 6) rfl)) (fun _ h9 => h9) rfl hin rfl (tyX3_ok 2 (by decide)) rfl rfl (Nat.le_of_ble_eq_true rfl) dX3_init_17 (fun H locs hP hD hS => ?_)
  have hP : va_P (dC, dI) vwCl (wX3 g0 (r1, r2, cC, cD)) H := hP
  have hD : va_D A (wX3 g0 (r1, r2, cC, cD)) := hD
  exact W.vret hx hb hr (fun t ht hW => ⟨⟨(r1, r2, cC, cD), rfl, trivial, by rw [ht]; exact hP, va_K.moved hW.alike hK, hD⟩, hS.F ht⟩) hS.2.2 dX3_init_20
