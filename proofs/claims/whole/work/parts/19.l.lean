theorem ydV_X2_cut : yX2_cut.cls = RX2 ∧ yX2_cut.cls ≠ "java/lang/invoke/MethodHandle" ∧ yX2_cut.cls ≠ "java/lang/invoke/VarHandle" ∧ (parseMethodDescriptor yX2_cut.desc).map (fun d => d.parameters.length) = some 4 := by decide +kernel
theorem ydV_X2_exact : yX2_exact.cls = RX2 ∧ yX2_exact.cls ≠ "java/lang/invoke/MethodHandle" ∧ yX2_exact.cls ≠ "java/lang/invoke/VarHandle" ∧ (parseMethodDescriptor yX2_exact.desc).map (fun d => d.parameters.length) = some 4 := by decide +kernel
theorem ydV_X2_high : yX2_high.cls = RX2 ∧ yX2_high.cls ≠ "java/lang/invoke/MethodHandle" ∧ yX2_high.cls ≠ "java/lang/invoke/VarHandle" ∧ (parseMethodDescriptor yX2_high.desc).map (fun d => d.parameters.length) = some 1 := by decide +kernel
theorem ydV_X2_holds : yX2_holds.cls = RX2 ∧ yX2_holds.cls ≠ "java/lang/invoke/MethodHandle" ∧ yX2_holds.cls ≠ "java/lang/invoke/VarHandle" ∧ (parseMethodDescriptor yX2_holds.desc).map (fun d => d.parameters.length) = some 3 := by decide +kernel
theorem ydV_X2_low : yX2_low.cls = RX2 ∧ yX2_low.cls ≠ "java/lang/invoke/MethodHandle" ∧ yX2_low.cls ≠ "java/lang/invoke/VarHandle" ∧ (parseMethodDescriptor yX2_low.desc).map (fun d => d.parameters.length) = some 1 := by decide +kernel
theorem ydV_X2_put : yX2_put.cls = RX2 ∧ yX2_put.cls ≠ "java/lang/invoke/MethodHandle" ∧ yX2_put.cls ≠ "java/lang/invoke/VarHandle" ∧ (parseMethodDescriptor yX2_put.desc).map (fun d => d.parameters.length) = some 3 := by decide +kernel
theorem ydV_X2_work : yX2_work.cls = RX2 ∧ yX2_work.cls ≠ "java/lang/invoke/MethodHandle" ∧ yX2_work.cls ≠ "java/lang/invoke/VarHandle" ∧ (parseMethodDescriptor yX2_work.desc).map (fun d => d.parameters.length) = some 5 := by decide +kernel
def s_L_put (lo : Nat → Int64) (hi : Nat → Int64) (p1 : Int32) (p2 : Int64) (p3 : Int64) : Int32 × (Nat → Int64) × (Nat → Int64) :=
  if (s_X2_put lo hi p1 p2 p3).1 = (1 : Int32) then ((1 : Int32), lo, hi)
  else ((0 : Int32), (s_X2_put lo hi p1 p2 p3).2.1, (s_X2_put lo hi p1 p2 p3).2.2)
set_option maxHeartbeats 4000000 in
set_option maxRecDepth 100000 in
theorem c_L_put (l : Launch) (S0 : Nat) (hst : l.stackTraces = false) (dC : Nat → ClassId) (dI : Nat → Nat → Nat) (cA cB : ClassId) (h0 q1 q2 q3 sz : Nat) (lo : Nat → Int64) (hi : Nat → Int64) (p1 : Int32) (p2 : Int64) (p3 : Int64) : Met l yL_put wsL_put ({ frames := 8, cells := 2, slots := 12, locals := 127 }) (twp S0 (dC, dI) vwCl [(cA, .long), (cB, .long)] [.ref h0, .int p1, .long p2, .long p3] sz [(h0, .inr (1, [.ref q1, .ref q2, .ref q3])), (q1, .inl (cA, 16, .inr (.inl lo))), (q2, .inl (cB, 16, .inr (.inl hi)))]) (wq (some (.int ((s_L_put lo hi p1 p2 p3).1))) (dC, dI) vwCl [(h0, .inr (1, [.ref q1, .ref q2, .ref q3])), (q1, .inl (cA, 16, .inr (.inl ((s_L_put lo hi p1 p2 p3).2.1)))), (q2, .inl (cB, 16, .inr (.inl ((s_L_put lo hi p1 p2 p3).2.2))))] (va_A [(h0, .inr (1, [.ref q1, .ref q2, .ref q3])), (q1, .inl (cA, 16, .inr (.inl lo))), (q2, .inl (cB, 16, .inr (.inl hi)))] sz)) 2 12 (va_A [(h0, .inr (1, [.ref q1, .ref q2, .ref q3])), (q1, .inl (cA, 16, .inr (.inl lo))), (q2, .inl (cB, 16, .inr (.inl hi)))] sz) := by
  refine va_MetW (cc := cL_put) (maxL := 7) (ret := (some .int)) (by decide) rfl ?_
  intro p e s m args below meth c s₁ B hml hv
  obtain ⟨rfl, hsz, hP, hK, hD0, ham⟩ := hv
  have hx := B.exec
  have hb := B.bytes
  have hr := B.returns
  have hts := atoms_spec (ws := wsL_put) B.pre
  have hown : s.vm.findClass RL = some m.cls := findClass_of_methodNamed B.named
  have hlocks := B.notSynchronized
  subst hsz
  have hD := hD0.self (sz := s.heap.size)
  generalize hAe : va_A [(h0, .inr (1, [.ref q1, .ref q2, .ref q3])), (q1, .inl (cA, 16, .inr (.inl lo))), (q2, .inl (cB, 16, .inr (.inl hi)))] s.heap.size = A at hD ⊢
  have hA : ∀ q : Nat, s.heap.size ≤ q → A q := fun q h => by rw [← hAe]; exact Or.inr h
  have hS : va_S A s.heap s.heap [] := va_S.rf
  have hP : va_P (dC, dI) vwCl [(h0, .inr (1, [.ref q1, .ref q2, .ref q3])), (q1, .inl (cA, 16, .inr (.inl lo))), (q2, .inl (cB, 16, .inr (.inl hi)))] s.heap := hP
  have hl := lv_entry ([.ref h0, .int p1, .long p2, .long p3]) (n := 7) (Nat.le_of_ble_eq_true rfl)
  rw [lg_entry_eq]
  generalize (lg_sl ([.ref h0, .int p1, .long p2, .long p3]) ++ List.replicate (7 - (lg_sl ([.ref h0, .int p1, .long p2, .long p3])).length) Slot.unset).toArray = ls at hl ⊢
  have hl : lv_has ls 7 [(0, .ref h0), (1, .int p1), (2, .long p2), (4, .long p3)] := hl
  have htb := vx_table (x := yL_put) B (hts _ (List.mem_of_getElem? (i := 0) rfl))
  have hw1 := hts (.classLink RL 13 "java/lang/IllegalArgumentException") (List.mem_of_getElem? (i := 1) rfl)
  refine lv_aload_n hx hb dL_put_0 rfl (lv_at hl 0 rfl) ?_
  refine lv_iload_n hx hb dL_put_1 rfl (lv_at hl 1 rfl) ?_
  refine lv_lload_n hx hb dL_put_2 rfl (lv_at hl 2 rfl) ?_
  refine lv_lload hx hb dL_put_3 (lv_at hl 3 rfl) ?_
  refine twq_callv (wc := [(h0, .inr (1, [.ref q1, .ref q2, .ref q3])), (q1, .inl (cA, 16, .inr (.inl lo))), (q2, .inl (cB, 16, .inr (.inl hi)))]) (wr := []) (w2 := [(h0, .inr (1, [.ref q1, .ref q2, .ref q3])), (q1, .inl (cA, 16, .inr (.inl ((s_X2_put lo hi p1 p2 p3).2.1)))), (q2, .inl (cB, 16, .inr (.inl ((s_X2_put lo hi p1 p2 p3).2.2))))]) (vx_runV (As := [.int p1, .long p2, .long p3]) (rest := []) ⟨hx, hb, hml, hown, hts⟩ (c_X2_put l S0 hst dC dI cA cB h0 q1 q2 q3 s.heap.size lo hi p1 p2 p3) (cwV 3 hts gL_put_X2_put rfl rfl rfl ydV_X2_put ⟨Nat.le_of_ble_eq_true rfl, Nat.le_of_ble_eq_true rfl⟩) (twp_V (hK.sub (tys' := [(cA, .long), (cB, .long)]) [0, 1] rfl) (hP.sub (ws' := [(h0, .inr (1, [.ref q1, .ref q2, .ref q3])), (q1, .inl (cA, 16, .inr (.inl lo))), (q2, .inl (cB, 16, .inr (.inl hi)))]) [0, 1, 2] rfl) (hD.sub (ws' := [(h0, .inr (1, [.ref q1, .ref q2, .ref q3])), (q1, .inl (cA, 16, .inr (.inl lo))), (q2, .inl (cB, 16, .inr (.inl hi)))]) [0, 1, 2] (by decide) rfl) ham rfl rfl) rfl rfl hl.1 rfl (lv_room (Nat.le_of_ble_eq_true rfl)) dL_put_5 ⟨Nat.le_of_ble_eq_true rfl, Nat.le_of_ble_eq_true rfl⟩) hP hD hS hA [0, 1, 2] [] [0, 1, 2] rfl rfl rfl (by decide) rfl rfl (fun ce q9 H locs c1 hP hS hce hcv hcl => ?_) (fun H locs c1 hP hD hS => ?_)
  · refine zx_catch (x := ⟨0, 8, 11, 13⟩) hown htb (by decide) (by decide) hw1 (va_Nw.use rfl ham.2.2.1.2.2.2.1) hce hcv hcl ?_
    refine lv_astore (lv' := [(6, .ref q9), (0, .ref h0), (1, .int p1), (2, .long p2), (4, .long p3)]) hx hb dL_put_11 hl (by decide) rfl (fun ls hl => ?_)
    refine lv_iconst (v := (1 : Int32)) hx hb dL_put_13 (by decide) ?_
    have es : (s_L_put lo hi p1 p2 p3) = ((1 : Int32), lo, hi) := by unfold s_L_put; rw [if_pos c1]
    exact W.iret (v := (1 : Int32)) hx hb hr (fun t ht hW => by rw [es]; exact ⟨rfl, by rw [ht]; exact hP, hD, hS.F ht⟩) hS.2.2 dL_put_14
  · refine lv_goto (tgt := 15) hx hb dL_put_8 (by decide) ?_
    refine lv_iconst (v := (0 : Int32)) hx hb dL_put_15 (by decide) ?_
    have es : (s_L_put lo hi p1 p2 p3) = ((0 : Int32), (s_X2_put lo hi p1 p2 p3).2.1, (s_X2_put lo hi p1 p2 p3).2.2) := by unfold s_L_put; rw [if_neg c1]
    exact W.iret (v := (0 : Int32)) hx hb hr (fun t ht hW => by rw [es]; exact ⟨rfl, by rw [ht]; exact hP, hD, hS.F ht⟩) hS.2.2 dL_put_16

def s_L_work (lo : Nat → Int64) (hi : Nat → Int64) (f0 : Int64) (f1 : Int64) (f2 : Int64) (f3 : Int64) (f4 : Int64) (f5 : Int64) (p1 : Int32) (p2 : Int32) (p3 : Int32) (p4 : Int32) (p5 : Int32) : Int32 × (Nat → Int64) × (Nat → Int64) × Int64 × Int64 × Int64 × Int64 × Int64 × Int64 :=
  if (s_X2_work lo hi f0 f1 f2 f3 f4 f5 p1 p2 p3 p4 p5).1 = (1 : Int32) then ((1 : Int32), lo, hi, f0, f1, f2, f3, f4, f5)
  else ((0 : Int32), (s_X2_work lo hi f0 f1 f2 f3 f4 f5 p1 p2 p3 p4 p5).2.1, (s_X2_work lo hi f0 f1 f2 f3 f4 f5 p1 p2 p3 p4 p5).2.2.1, (s_X2_work lo hi f0 f1 f2 f3 f4 f5 p1 p2 p3 p4 p5).2.2.2.1, (s_X2_work lo hi f0 f1 f2 f3 f4 f5 p1 p2 p3 p4 p5).2.2.2.2.1, (s_X2_work lo hi f0 f1 f2 f3 f4 f5 p1 p2 p3 p4 p5).2.2.2.2.2.1, (s_X2_work lo hi f0 f1 f2 f3 f4 f5 p1 p2 p3 p4 p5).2.2.2.2.2.2.1, (s_X2_work lo hi f0 f1 f2 f3 f4 f5 p1 p2 p3 p4 p5).2.2.2.2.2.2.2.1, (s_X2_work lo hi f0 f1 f2 f3 f4 f5 p1 p2 p3 p4 p5).2.2.2.2.2.2.2.2)
set_option maxHeartbeats 4000000 in
set_option maxRecDepth 100000 in
theorem c_L_work (l : Launch) (S0 : Nat) (hst : l.stackTraces = false) (dC : Nat → ClassId) (dI : Nat → Nat → Nat) (cA cB : ClassId) (h0 q1 q2 q3 sz : Nat) (lo : Nat → Int64) (hi : Nat → Int64) (f0 : Int64) (f1 : Int64) (f2 : Int64) (f3 : Int64) (f4 : Int64) (f5 : Int64) (p1 : Int32) (p2 : Int32) (p3 : Int32) (p4 : Int32) (p5 : Int32) : Met l yL_work wsL_work ({ frames := 8, cells := 4, slots := 24, locals := 177 }) (twp S0 (dC, dI) vwCl [(cA, .long), (cB, .long)] [.ref h0, .int p1, .int p2, .int p3, .int p4, .int p5] sz [(h0, .inr (1, [.ref q1, .ref q2, .ref q3])), (q1, .inl (cA, 16, .inr (.inl lo))), (q2, .inl (cB, 16, .inr (.inl hi))), (q3, .inr (0, [.long f0, .long f1, .long f2, .long f3, .long f4, .long f5]))]) (wq (some (.int ((s_L_work lo hi f0 f1 f2 f3 f4 f5 p1 p2 p3 p4 p5).1))) (dC, dI) vwCl [(h0, .inr (1, [.ref q1, .ref q2, .ref q3])), (q1, .inl (cA, 16, .inr (.inl ((s_L_work lo hi f0 f1 f2 f3 f4 f5 p1 p2 p3 p4 p5).2.1)))), (q2, .inl (cB, 16, .inr (.inl ((s_L_work lo hi f0 f1 f2 f3 f4 f5 p1 p2 p3 p4 p5).2.2.1)))), (q3, .inr (0, [.long ((s_L_work lo hi f0 f1 f2 f3 f4 f5 p1 p2 p3 p4 p5).2.2.2.1), .long ((s_L_work lo hi f0 f1 f2 f3 f4 f5 p1 p2 p3 p4 p5).2.2.2.2.1), .long ((s_L_work lo hi f0 f1 f2 f3 f4 f5 p1 p2 p3 p4 p5).2.2.2.2.2.1), .long ((s_L_work lo hi f0 f1 f2 f3 f4 f5 p1 p2 p3 p4 p5).2.2.2.2.2.2.1), .long ((s_L_work lo hi f0 f1 f2 f3 f4 f5 p1 p2 p3 p4 p5).2.2.2.2.2.2.2.1), .long ((s_L_work lo hi f0 f1 f2 f3 f4 f5 p1 p2 p3 p4 p5).2.2.2.2.2.2.2.2)]))] (va_A [(h0, .inr (1, [.ref q1, .ref q2, .ref q3])), (q1, .inl (cA, 16, .inr (.inl lo))), (q2, .inl (cB, 16, .inr (.inl hi))), (q3, .inr (0, [.long f0, .long f1, .long f2, .long f3, .long f4, .long f5]))] sz)) 4 24 (va_A [(h0, .inr (1, [.ref q1, .ref q2, .ref q3])), (q1, .inl (cA, 16, .inr (.inl lo))), (q2, .inl (cB, 16, .inr (.inl hi))), (q3, .inr (0, [.long f0, .long f1, .long f2, .long f3, .long f4, .long f5]))] sz) := by
  refine va_MetW (cc := cL_work) (maxL := 7) (ret := (some .int)) (by decide) rfl ?_
  intro p e s m args below meth c s₁ B hml hv
  obtain ⟨rfl, hsz, hP, hK, hD0, ham⟩ := hv
  have hx := B.exec
  have hb := B.bytes
  have hr := B.returns
  have hts := atoms_spec (ws := wsL_work) B.pre
  have hown : s.vm.findClass RL = some m.cls := findClass_of_methodNamed B.named
  have hlocks := B.notSynchronized
  subst hsz
  have hD := hD0.self (sz := s.heap.size)
  generalize hAe : va_A [(h0, .inr (1, [.ref q1, .ref q2, .ref q3])), (q1, .inl (cA, 16, .inr (.inl lo))), (q2, .inl (cB, 16, .inr (.inl hi))), (q3, .inr (0, [.long f0, .long f1, .long f2, .long f3, .long f4, .long f5]))] s.heap.size = A at hD ⊢
  have hA : ∀ q : Nat, s.heap.size ≤ q → A q := fun q h => by rw [← hAe]; exact Or.inr h
  have hS : va_S A s.heap s.heap [] := va_S.rf
  have hP : va_P (dC, dI) vwCl [(h0, .inr (1, [.ref q1, .ref q2, .ref q3])), (q1, .inl (cA, 16, .inr (.inl lo))), (q2, .inl (cB, 16, .inr (.inl hi))), (q3, .inr (0, [.long f0, .long f1, .long f2, .long f3, .long f4, .long f5]))] s.heap := hP
  have hl := lv_entry ([.ref h0, .int p1, .int p2, .int p3, .int p4, .int p5]) (n := 7) (Nat.le_of_ble_eq_true rfl)
  rw [lg_entry_eq]
  generalize (lg_sl ([.ref h0, .int p1, .int p2, .int p3, .int p4, .int p5]) ++ List.replicate (7 - (lg_sl ([.ref h0, .int p1, .int p2, .int p3, .int p4, .int p5])).length) Slot.unset).toArray = ls at hl ⊢
  have hl : lv_has ls 7 [(0, .ref h0), (1, .int p1), (2, .int p2), (3, .int p3), (4, .int p4), (5, .int p5)] := hl
  have htb := vx_table (x := yL_work) B (hts _ (List.mem_of_getElem? (i := 0) rfl))
  have hw1 := hts (.classLink RL 13 "java/lang/IllegalArgumentException") (List.mem_of_getElem? (i := 1) rfl)
  refine lv_aload_n hx hb dL_work_0 rfl (lv_at hl 0 rfl) ?_
  refine lv_iload_n hx hb dL_work_1 rfl (lv_at hl 1 rfl) ?_
  refine lv_iload_n hx hb dL_work_2 rfl (lv_at hl 2 rfl) ?_
  refine lv_iload_n hx hb dL_work_3 rfl (lv_at hl 3 rfl) ?_
  refine lv_iload hx hb dL_work_4 (lv_at hl 4 rfl) ?_
  refine lv_iload hx hb dL_work_6 (lv_at hl 5 rfl) ?_
  refine twq_callv (wc := [(h0, .inr (1, [.ref q1, .ref q2, .ref q3])), (q1, .inl (cA, 16, .inr (.inl lo))), (q2, .inl (cB, 16, .inr (.inl hi))), (q3, .inr (0, [.long f0, .long f1, .long f2, .long f3, .long f4, .long f5]))]) (wr := []) (w2 := [(h0, .inr (1, [.ref q1, .ref q2, .ref q3])), (q1, .inl (cA, 16, .inr (.inl ((s_X2_work lo hi f0 f1 f2 f3 f4 f5 p1 p2 p3 p4 p5).2.1)))), (q2, .inl (cB, 16, .inr (.inl ((s_X2_work lo hi f0 f1 f2 f3 f4 f5 p1 p2 p3 p4 p5).2.2.1)))), (q3, .inr (0, [.long ((s_X2_work lo hi f0 f1 f2 f3 f4 f5 p1 p2 p3 p4 p5).2.2.2.1), .long ((s_X2_work lo hi f0 f1 f2 f3 f4 f5 p1 p2 p3 p4 p5).2.2.2.2.1), .long ((s_X2_work lo hi f0 f1 f2 f3 f4 f5 p1 p2 p3 p4 p5).2.2.2.2.2.1), .long ((s_X2_work lo hi f0 f1 f2 f3 f4 f5 p1 p2 p3 p4 p5).2.2.2.2.2.2.1), .long ((s_X2_work lo hi f0 f1 f2 f3 f4 f5 p1 p2 p3 p4 p5).2.2.2.2.2.2.2.1), .long ((s_X2_work lo hi f0 f1 f2 f3 f4 f5 p1 p2 p3 p4 p5).2.2.2.2.2.2.2.2)]))]) (vx_runV (As := [.int p1, .int p2, .int p3, .int p4, .int p5]) (rest := []) ⟨hx, hb, hml, hown, hts⟩ (c_X2_work l S0 hst dC dI cA cB h0 q1 q2 q3 s.heap.size lo hi f0 f1 f2 f3 f4 f5 p1 p2 p3 p4 p5) (cwV 5 hts gL_work_X2_work rfl rfl rfl ydV_X2_work ⟨Nat.le_of_ble_eq_true rfl, Nat.le_of_ble_eq_true rfl⟩) (twp_V (hK.sub (tys' := [(cA, .long), (cB, .long)]) [0, 1] rfl) (hP.sub (ws' := [(h0, .inr (1, [.ref q1, .ref q2, .ref q3])), (q1, .inl (cA, 16, .inr (.inl lo))), (q2, .inl (cB, 16, .inr (.inl hi))), (q3, .inr (0, [.long f0, .long f1, .long f2, .long f3, .long f4, .long f5]))]) [0, 1, 2, 3] rfl) (hD.sub (ws' := [(h0, .inr (1, [.ref q1, .ref q2, .ref q3])), (q1, .inl (cA, 16, .inr (.inl lo))), (q2, .inl (cB, 16, .inr (.inl hi))), (q3, .inr (0, [.long f0, .long f1, .long f2, .long f3, .long f4, .long f5]))]) [0, 1, 2, 3] (by decide) rfl) ham rfl rfl) rfl rfl hl.1 rfl (lv_room (Nat.le_of_ble_eq_true rfl)) dL_work_8 ⟨Nat.le_of_ble_eq_true rfl, Nat.le_of_ble_eq_true rfl⟩) hP hD hS hA [0, 1, 2, 3] [] [0, 1, 2, 3] rfl rfl rfl (by decide) rfl rfl (fun ce q9 H locs c1 hP hS hce hcv hcl => ?_) (fun H locs c1 hP hD hS => ?_)
  · refine zx_catch (x := ⟨0, 11, 14, 13⟩) hown htb (by decide) (by decide) hw1 (va_Nw.use rfl ham.2.2.1.2.2.2.1) hce hcv hcl ?_
    refine lv_astore (lv' := [(6, .ref q9), (0, .ref h0), (1, .int p1), (2, .int p2), (3, .int p3), (4, .int p4), (5, .int p5)]) hx hb dL_work_14 hl (by decide) rfl (fun ls hl => ?_)
    refine lv_iconst (v := (1 : Int32)) hx hb dL_work_16 (by decide) ?_
    have es : (s_L_work lo hi f0 f1 f2 f3 f4 f5 p1 p2 p3 p4 p5) = ((1 : Int32), lo, hi, f0, f1, f2, f3, f4, f5) := by unfold s_L_work; rw [if_pos c1]
    exact W.iret (v := (1 : Int32)) hx hb hr (fun t ht hW => by rw [es]; exact ⟨rfl, by rw [ht]; exact hP, hD, hS.F ht⟩) hS.2.2 dL_work_17
  · refine lv_goto (tgt := 18) hx hb dL_work_11 (by decide) ?_
    refine lv_iconst (v := (0 : Int32)) hx hb dL_work_18 (by decide) ?_
    have es : (s_L_work lo hi f0 f1 f2 f3 f4 f5 p1 p2 p3 p4 p5) = ((0 : Int32), (s_X2_work lo hi f0 f1 f2 f3 f4 f5 p1 p2 p3 p4 p5).2.1, (s_X2_work lo hi f0 f1 f2 f3 f4 f5 p1 p2 p3 p4 p5).2.2.1, (s_X2_work lo hi f0 f1 f2 f3 f4 f5 p1 p2 p3 p4 p5).2.2.2.1, (s_X2_work lo hi f0 f1 f2 f3 f4 f5 p1 p2 p3 p4 p5).2.2.2.2.1, (s_X2_work lo hi f0 f1 f2 f3 f4 f5 p1 p2 p3 p4 p5).2.2.2.2.2.1, (s_X2_work lo hi f0 f1 f2 f3 f4 f5 p1 p2 p3 p4 p5).2.2.2.2.2.2.1, (s_X2_work lo hi f0 f1 f2 f3 f4 f5 p1 p2 p3 p4 p5).2.2.2.2.2.2.2.1, (s_X2_work lo hi f0 f1 f2 f3 f4 f5 p1 p2 p3 p4 p5).2.2.2.2.2.2.2.2) := by unfold s_L_work; rw [if_neg c1]
    exact W.iret (v := (0 : Int32)) hx hb hr (fun t ht hW => by rw [es]; exact ⟨rfl, by rw [ht]; exact hP, hD, hS.F ht⟩) hS.2.2 dL_work_19

def s_L_exact (ou : Nat → Int64) (p1 : Int32) (p2 : Int64) (p3 : Int64) (p4 : Int32) : Int32 × (Nat → Int64) :=
  if (s_X2_exact p1 p2 p3 p4).1 = (1 : Int32) then ((1 : Int32), ou)
  else ((0 : Int32), vp_updL ou (0 : Int32).toNatClampNeg ((s_X2_exact p1 p2 p3 p4).2))
set_option maxHeartbeats 4000000 in
set_option maxRecDepth 100000 in
theorem c_L_exact (l : Launch) (S0 : Nat) (hst : l.stackTraces = false) (dC : Nat → ClassId) (dI : Nat → Nat → Nat) (cO : ClassId) (h0 o0 q1 q2 q3 sz : Nat) (ou : Nat → Int64) (p1 : Int32) (p2 : Int64) (p3 : Int64) (p4 : Int32) : Met l yL_exact wsL_exact ({ frames := 8, cells := 1, slots := 6, locals := 150 }) (twp S0 (dC, dI) vwCl [(cO, .long)] [.ref h0, .int p1, .long p2, .long p3, .int p4, .ref o0] sz [(h0, .inr (1, [.ref q1, .ref q2, .ref q3])), (o0, .inl (cO, 1, .inr (.inl ou)))]) (wq (some (.int ((s_L_exact ou p1 p2 p3 p4).1))) (dC, dI) vwCl [(h0, .inr (1, [.ref q1, .ref q2, .ref q3])), (o0, .inl (cO, 1, .inr (.inl ((s_L_exact ou p1 p2 p3 p4).2))))] (va_A [(h0, .inr (1, [.ref q1, .ref q2, .ref q3])), (o0, .inl (cO, 1, .inr (.inl ou)))] sz)) 1 6 (va_A [(h0, .inr (1, [.ref q1, .ref q2, .ref q3])), (o0, .inl (cO, 1, .inr (.inl ou)))] sz) := by
  refine va_MetW (cc := cL_exact) (maxL := 9) (ret := (some .int)) (by decide) rfl ?_
  intro p e s m args below meth c s₁ B hml hv
  obtain ⟨rfl, hsz, hP, hK, hD0, ham⟩ := hv
  have hx := B.exec
  have hb := B.bytes
  have hr := B.returns
  have hts := atoms_spec (ws := wsL_exact) B.pre
  have hown : s.vm.findClass RL = some m.cls := findClass_of_methodNamed B.named
  have hlocks := B.notSynchronized
  subst hsz
  have hD := hD0.self (sz := s.heap.size)
  generalize hAe : va_A [(h0, .inr (1, [.ref q1, .ref q2, .ref q3])), (o0, .inl (cO, 1, .inr (.inl ou)))] s.heap.size = A at hD ⊢
  have hA : ∀ q : Nat, s.heap.size ≤ q → A q := fun q h => by rw [← hAe]; exact Or.inr h
  have hS : va_S A s.heap s.heap [] := va_S.rf
  have hP : va_P (dC, dI) vwCl [(h0, .inr (1, [.ref q1, .ref q2, .ref q3])), (o0, .inl (cO, 1, .inr (.inl ou)))] s.heap := hP
  have hl := lv_entry ([.ref h0, .int p1, .long p2, .long p3, .int p4, .ref o0]) (n := 9) (Nat.le_of_ble_eq_true rfl)
  rw [lg_entry_eq]
  generalize (lg_sl ([.ref h0, .int p1, .long p2, .long p3, .int p4, .ref o0]) ++ List.replicate (9 - (lg_sl ([.ref h0, .int p1, .long p2, .long p3, .int p4, .ref o0])).length) Slot.unset).toArray = ls at hl ⊢
  have hl : lv_has ls 9 [(0, .ref h0), (1, .int p1), (2, .long p2), (4, .long p3), (6, .int p4), (7, .ref o0)] := hl
  have htb := vx_table (x := yL_exact) B (hts _ (List.mem_of_getElem? (i := 0) rfl))
  have hw1 := hts (.classLink RL 13 "java/lang/IllegalArgumentException") (List.mem_of_getElem? (i := 1) rfl)
  refine lv_aload hx hb dL_exact_0 (lv_at hl 5 rfl) ?_
  refine lv_iconst (v := (0 : Int32)) hx hb dL_exact_2 (by decide) ?_
  refine lv_aload_n hx hb dL_exact_3 rfl (lv_at hl 0 rfl) ?_
  refine lv_iload_n hx hb dL_exact_4 rfl (lv_at hl 1 rfl) ?_
  refine lv_lload_n hx hb dL_exact_5 rfl (lv_at hl 2 rfl) ?_
  refine lv_lload hx hb dL_exact_6 (lv_at hl 3 rfl) ?_
  refine lv_iload hx hb dL_exact_8 (lv_at hl 4 rfl) ?_
  refine tq_calll (vx_runV (As := [.int p1, .long p2, .long p3, .int p4]) (rest := [.int (0 : Int32), .ref o0]) ⟨hx, hb, hml, hown, hts⟩ (c_X2_exact l S0 hst dC dI h0 q1 q2 q3 p1 p2 p3 p4) (cwV 4 hts gL_exact_X2_exact rfl rfl rfl ydV_X2_exact ⟨Nat.le_of_ble_eq_true rfl, Nat.le_of_ble_eq_true rfl⟩) (trp_V (hK.sub (tys' := []) [] rfl) (hP.sub (ws' := [(h0, .inr (1, [.ref q1, .ref q2, .ref q3]))]) [0] rfl) ham rfl rfl) rfl rfl hl.1 rfl (lv_room (Nat.le_of_ble_eq_true rfl)) dL_exact_10 ⟨Nat.le_of_ble_eq_true rfl, Nat.le_of_ble_eq_true rfl⟩) (fun ce q9 H c1 hz hk hce hcv hcl => ?_) (fun c1 => ?_)
  · have hP : va_P (dC, dI) vwCl [(h0, .inr (1, [.ref q1, .ref q2, .ref q3])), (o0, .inl (cO, 1, .inr (.inl ou)))] H := va_P_grow hP hk
    have hS := va_S_grow hS hz hk
    refine zx_catch (x := ⟨0, 14, 17, 13⟩) hown htb (by decide) (by decide) hw1 (va_Nw.use rfl ham.2.2.1.2.2.2.1) hce hcv hcl ?_
    refine lv_astore (lv' := [(8, .ref q9), (0, .ref h0), (1, .int p1), (2, .long p2), (4, .long p3), (6, .int p4), (7, .ref o0)]) hx hb dL_exact_17 hl (by decide) rfl (fun ls hl => ?_)
    refine lv_iconst (v := (1 : Int32)) hx hb dL_exact_19 (by decide) ?_
    have es : (s_L_exact ou p1 p2 p3 p4) = ((1 : Int32), ou) := by unfold s_L_exact; rw [if_pos c1]
    exact W.iret (v := (1 : Int32)) hx hb hr (fun t ht hW => by rw [es]; exact ⟨rfl, by rw [ht]; exact hP, hD, hS.F ht⟩) hS.2.2 dL_exact_20
  · refine va_last hx hb hK hP hD hS 1 0 rfl rfl (by unfold vp_in; decide) dL_exact_13 (fun H locs hP hD hS => ?_)
    have hP : va_P (dC, dI) vwCl [(h0, .inr (1, [.ref q1, .ref q2, .ref q3])), (o0, .inl (cO, 1, .inr (.inl (vp_updL ou (0 : Int32).toNatClampNeg ((s_X2_exact p1 p2 p3 p4).2)))))] H := hP
    have hD : va_D A [(h0, .inr (1, [.ref q1, .ref q2, .ref q3])), (o0, .inl (cO, 1, .inr (.inl (vp_updL ou (0 : Int32).toNatClampNeg ((s_X2_exact p1 p2 p3 p4).2)))))] := hD
    refine lv_goto (tgt := 21) hx hb dL_exact_14 (by decide) ?_
    refine lv_iconst (v := (0 : Int32)) hx hb dL_exact_21 (by decide) ?_
    have es : (s_L_exact ou p1 p2 p3 p4) = ((0 : Int32), vp_updL ou (0 : Int32).toNatClampNeg ((s_X2_exact p1 p2 p3 p4).2)) := by unfold s_L_exact; rw [if_neg c1]
    exact W.iret (v := (0 : Int32)) hx hb hr (fun t ht hW => by rw [es]; exact ⟨rfl, by rw [ht]; exact hP, hD, hS.F ht⟩) hS.2.2 dL_exact_22

def s_L_cut (lo : Nat → Int64) (hi : Nat → Int64) (ou : Nat → Int64) (p1 : Int32) (p2 : Int32) (p3 : Int32) (p4 : Int32) : Int32 × (Nat → Int64) × (Nat → Int64) × (Nat → Int64) :=
  if (s_X2_cut lo hi p1 p2 p3 p4).1 = (1 : Int32) then ((1 : Int32), lo, hi, ou)
  else if (s_X2_cut lo hi p1 p2 p3 p4).2.1 = (0 : Int32) then ((0 : Int32), (s_X2_cut lo hi p1 p2 p3 p4).2.2.1, (s_X2_cut lo hi p1 p2 p3 p4).2.2.2, vp_updL ou (0 : Int32).toNatClampNeg (0 : Int64))
  else ((0 : Int32), (s_X2_cut lo hi p1 p2 p3 p4).2.2.1, (s_X2_cut lo hi p1 p2 p3 p4).2.2.2, vp_updL ou (0 : Int32).toNatClampNeg (1 : Int64))
set_option maxHeartbeats 4000000 in
set_option maxRecDepth 100000 in
theorem c_L_cut (l : Launch) (S0 : Nat) (hst : l.stackTraces = false) (dC : Nat → ClassId) (dI : Nat → Nat → Nat) (cA cB cO : ClassId) (h0 q1 q2 o0 q3 sz : Nat) (lo : Nat → Int64) (hi : Nat → Int64) (ou : Nat → Int64) (p1 : Int32) (p2 : Int32) (p3 : Int32) (p4 : Int32) : Met l yL_cut wsL_cut ({ frames := 8, cells := 4, slots := 24, locals := 126 }) (twp S0 (dC, dI) vwCl [(cA, .long), (cB, .long), (cO, .long)] [.ref h0, .int p1, .int p2, .int p3, .int p4, .ref o0] sz [(h0, .inr (1, [.ref q1, .ref q2, .ref q3])), (q1, .inl (cA, 16, .inr (.inl lo))), (q2, .inl (cB, 16, .inr (.inl hi))), (o0, .inl (cO, 1, .inr (.inl ou)))]) (wq (some (.int ((s_L_cut lo hi ou p1 p2 p3 p4).1))) (dC, dI) vwCl [(h0, .inr (1, [.ref q1, .ref q2, .ref q3])), (q1, .inl (cA, 16, .inr (.inl ((s_L_cut lo hi ou p1 p2 p3 p4).2.1)))), (q2, .inl (cB, 16, .inr (.inl ((s_L_cut lo hi ou p1 p2 p3 p4).2.2.1)))), (o0, .inl (cO, 1, .inr (.inl ((s_L_cut lo hi ou p1 p2 p3 p4).2.2.2))))] (va_A [(h0, .inr (1, [.ref q1, .ref q2, .ref q3])), (q1, .inl (cA, 16, .inr (.inl lo))), (q2, .inl (cB, 16, .inr (.inl hi))), (o0, .inl (cO, 1, .inr (.inl ou)))] sz)) 4 24 (va_A [(h0, .inr (1, [.ref q1, .ref q2, .ref q3])), (q1, .inl (cA, 16, .inr (.inl lo))), (q2, .inl (cB, 16, .inr (.inl hi))), (o0, .inl (cO, 1, .inr (.inl ou)))] sz) := by
  refine va_MetW (cc := cL_cut) (maxL := 7) (ret := (some .int)) (by decide) rfl ?_
  intro p e s m args below meth c s₁ B hml hv
  obtain ⟨rfl, hsz, hP, hK, hD0, ham⟩ := hv
  have hx := B.exec
  have hb := B.bytes
  have hr := B.returns
  have hts := atoms_spec (ws := wsL_cut) B.pre
  have hown : s.vm.findClass RL = some m.cls := findClass_of_methodNamed B.named
  have hlocks := B.notSynchronized
  subst hsz
  have hD := hD0.self (sz := s.heap.size)
  generalize hAe : va_A [(h0, .inr (1, [.ref q1, .ref q2, .ref q3])), (q1, .inl (cA, 16, .inr (.inl lo))), (q2, .inl (cB, 16, .inr (.inl hi))), (o0, .inl (cO, 1, .inr (.inl ou)))] s.heap.size = A at hD ⊢
  have hA : ∀ q : Nat, s.heap.size ≤ q → A q := fun q h => by rw [← hAe]; exact Or.inr h
  have hS : va_S A s.heap s.heap [] := va_S.rf
  have hP : va_P (dC, dI) vwCl [(h0, .inr (1, [.ref q1, .ref q2, .ref q3])), (q1, .inl (cA, 16, .inr (.inl lo))), (q2, .inl (cB, 16, .inr (.inl hi))), (o0, .inl (cO, 1, .inr (.inl ou)))] s.heap := hP
  have hl := lv_entry ([.ref h0, .int p1, .int p2, .int p3, .int p4, .ref o0]) (n := 7) (Nat.le_of_ble_eq_true rfl)
  rw [lg_entry_eq]
  generalize (lg_sl ([.ref h0, .int p1, .int p2, .int p3, .int p4, .ref o0]) ++ List.replicate (7 - (lg_sl ([.ref h0, .int p1, .int p2, .int p3, .int p4, .ref o0])).length) Slot.unset).toArray = ls at hl ⊢
  have hl : lv_has ls 7 [(0, .ref h0), (1, .int p1), (2, .int p2), (3, .int p3), (4, .int p4), (5, .ref o0)] := hl
  have htb := vx_table (x := yL_cut) B (hts _ (List.mem_of_getElem? (i := 0) rfl))
  have hw1 := hts (.classLink RL 13 "java/lang/IllegalArgumentException") (List.mem_of_getElem? (i := 1) rfl)
  refine lv_aload hx hb dL_cut_0 (lv_at hl 5 rfl) ?_
  refine lv_iconst (v := (0 : Int32)) hx hb dL_cut_2 (by decide) ?_
  refine lv_aload_n hx hb dL_cut_3 rfl (lv_at hl 0 rfl) ?_
  refine lv_iload_n hx hb dL_cut_4 rfl (lv_at hl 1 rfl) ?_
  refine lv_iload_n hx hb dL_cut_5 rfl (lv_at hl 2 rfl) ?_
  refine lv_iload_n hx hb dL_cut_6 rfl (lv_at hl 3 rfl) ?_
  refine lv_iload hx hb dL_cut_7 (lv_at hl 4 rfl) ?_
  refine twq_calli (wc := [(h0, .inr (1, [.ref q1, .ref q2, .ref q3])), (q1, .inl (cA, 16, .inr (.inl lo))), (q2, .inl (cB, 16, .inr (.inl hi)))]) (wr := [(o0, .inl (cO, 1, .inr (.inl ou)))]) (w2 := [(h0, .inr (1, [.ref q1, .ref q2, .ref q3])), (q1, .inl (cA, 16, .inr (.inl ((s_X2_cut lo hi p1 p2 p3 p4).2.2.1)))), (q2, .inl (cB, 16, .inr (.inl ((s_X2_cut lo hi p1 p2 p3 p4).2.2.2)))), (o0, .inl (cO, 1, .inr (.inl ou)))]) (vx_runV (As := [.int p1, .int p2, .int p3, .int p4]) (rest := [.int (0 : Int32), .ref o0]) ⟨hx, hb, hml, hown, hts⟩ (c_X2_cut l S0 hst dC dI cA cB h0 q1 q2 q3 s.heap.size lo hi p1 p2 p3 p4) (cwV 4 hts gL_cut_X2_cut rfl rfl rfl ydV_X2_cut ⟨Nat.le_of_ble_eq_true rfl, Nat.le_of_ble_eq_true rfl⟩) (twp_V (hK.sub (tys' := [(cA, .long), (cB, .long)]) [0, 1] rfl) (hP.sub (ws' := [(h0, .inr (1, [.ref q1, .ref q2, .ref q3])), (q1, .inl (cA, 16, .inr (.inl lo))), (q2, .inl (cB, 16, .inr (.inl hi)))]) [0, 1, 2] rfl) (hD.sub (ws' := [(h0, .inr (1, [.ref q1, .ref q2, .ref q3])), (q1, .inl (cA, 16, .inr (.inl lo))), (q2, .inl (cB, 16, .inr (.inl hi)))]) [0, 1, 2] (by decide) rfl) ham rfl rfl) rfl rfl hl.1 rfl (lv_room (Nat.le_of_ble_eq_true rfl)) dL_cut_9 ⟨Nat.le_of_ble_eq_true rfl, Nat.le_of_ble_eq_true rfl⟩) hP hD hS hA [0, 1, 2] [3] [1, 2, 3, 0] rfl rfl rfl (by decide) rfl rfl (fun ce q9 H locs c1 hP hS hce hcv hcl => ?_) (fun H locs c1 hP hD hS => ?_)
  · refine zx_catch (x := ⟨0, 21, 24, 13⟩) hown htb (by decide) (by decide) hw1 (va_Nw.use rfl ham.2.2.1.2.2.2.1) hce hcv hcl ?_
    refine lv_astore (lv' := [(6, .ref q9), (0, .ref h0), (1, .int p1), (2, .int p2), (3, .int p3), (4, .int p4), (5, .ref o0)]) hx hb dL_cut_24 hl (by decide) rfl (fun ls hl => ?_)
    refine lv_iconst (v := (1 : Int32)) hx hb dL_cut_26 (by decide) ?_
    have es : (s_L_cut lo hi ou p1 p2 p3 p4) = ((1 : Int32), lo, hi, ou) := by unfold s_L_cut; rw [if_pos c1]
    exact W.iret (v := (1 : Int32)) hx hb hr (fun t ht hW => by rw [es]; exact ⟨rfl, by rw [ht]; exact hP, hD, hS.F ht⟩) hS.2.2 dL_cut_27
  · refine lv_if_eq (tgt := 19) hx hb dL_cut_12 (by decide) (fun c2 => ?_) (fun c2 => ?_)
    · refine lv_lconst (v := (0 : Int64)) hx hb dL_cut_19 (by decide) ?_
      refine va_last hx hb hK hP hD hS 3 2 rfl rfl (by unfold vp_in; decide) dL_cut_20 (fun H locs hP hD hS => ?_)
      have hP : va_P (dC, dI) vwCl [(h0, .inr (1, [.ref q1, .ref q2, .ref q3])), (q1, .inl (cA, 16, .inr (.inl ((s_X2_cut lo hi p1 p2 p3 p4).2.2.1)))), (q2, .inl (cB, 16, .inr (.inl ((s_X2_cut lo hi p1 p2 p3 p4).2.2.2)))), (o0, .inl (cO, 1, .inr (.inl (vp_updL ou (0 : Int32).toNatClampNeg (0 : Int64)))))] H := hP
      have hD : va_D A [(h0, .inr (1, [.ref q1, .ref q2, .ref q3])), (q1, .inl (cA, 16, .inr (.inl ((s_X2_cut lo hi p1 p2 p3 p4).2.2.1)))), (q2, .inl (cB, 16, .inr (.inl ((s_X2_cut lo hi p1 p2 p3 p4).2.2.2)))), (o0, .inl (cO, 1, .inr (.inl (vp_updL ou (0 : Int32).toNatClampNeg (0 : Int64)))))] := hD
      refine lv_goto (tgt := 28) hx hb dL_cut_21 (by decide) ?_
      refine lv_iconst (v := (0 : Int32)) hx hb dL_cut_28 (by decide) ?_
      have es : (s_L_cut lo hi ou p1 p2 p3 p4) = ((0 : Int32), (s_X2_cut lo hi p1 p2 p3 p4).2.2.1, (s_X2_cut lo hi p1 p2 p3 p4).2.2.2, vp_updL ou (0 : Int32).toNatClampNeg (0 : Int64)) := by unfold s_L_cut; rw [if_neg c1, if_pos c2]
      exact W.iret (v := (0 : Int32)) hx hb hr (fun t ht hW => by rw [es]; exact ⟨rfl, by rw [ht]; exact hP, hD, hS.F ht⟩) hS.2.2 dL_cut_29
    · refine lv_lconst (v := (1 : Int64)) hx hb dL_cut_15 (by decide) ?_
      refine lv_goto (tgt := 20) hx hb dL_cut_16 (by decide) ?_
      refine va_last hx hb hK hP hD hS 3 2 rfl rfl (by unfold vp_in; decide) dL_cut_20 (fun H locs hP hD hS => ?_)
      have hP : va_P (dC, dI) vwCl [(h0, .inr (1, [.ref q1, .ref q2, .ref q3])), (q1, .inl (cA, 16, .inr (.inl ((s_X2_cut lo hi p1 p2 p3 p4).2.2.1)))), (q2, .inl (cB, 16, .inr (.inl ((s_X2_cut lo hi p1 p2 p3 p4).2.2.2)))), (o0, .inl (cO, 1, .inr (.inl (vp_updL ou (0 : Int32).toNatClampNeg (1 : Int64)))))] H := hP
      have hD : va_D A [(h0, .inr (1, [.ref q1, .ref q2, .ref q3])), (q1, .inl (cA, 16, .inr (.inl ((s_X2_cut lo hi p1 p2 p3 p4).2.2.1)))), (q2, .inl (cB, 16, .inr (.inl ((s_X2_cut lo hi p1 p2 p3 p4).2.2.2)))), (o0, .inl (cO, 1, .inr (.inl (vp_updL ou (0 : Int32).toNatClampNeg (1 : Int64)))))] := hD
      refine lv_goto (tgt := 28) hx hb dL_cut_21 (by decide) ?_
      refine lv_iconst (v := (0 : Int32)) hx hb dL_cut_28 (by decide) ?_
      have es : (s_L_cut lo hi ou p1 p2 p3 p4) = ((0 : Int32), (s_X2_cut lo hi p1 p2 p3 p4).2.2.1, (s_X2_cut lo hi p1 p2 p3 p4).2.2.2, vp_updL ou (0 : Int32).toNatClampNeg (1 : Int64)) := by unfold s_L_cut; rw [if_neg c1, if_neg c2]
      exact W.iret (v := (0 : Int32)) hx hb hr (fun t ht hW => by rw [es]; exact ⟨rfl, by rw [ht]; exact hP, hD, hS.F ht⟩) hS.2.2 dL_cut_29

def s_L_holds (ou : Nat → Int64) (p1 : Int32) (p2 : Int64) (p3 : Int64) : Int32 × (Nat → Int64) :=
  if (s_X2_holds p1 p2 p3).1 = (1 : Int32) then ((1 : Int32), ou)
  else if (s_X2_holds p1 p2 p3).2 = (0 : Int32) then ((0 : Int32), vp_updL ou (0 : Int32).toNatClampNeg (0 : Int64))
  else ((0 : Int32), vp_updL ou (0 : Int32).toNatClampNeg (1 : Int64))
set_option maxHeartbeats 4000000 in
set_option maxRecDepth 100000 in
theorem c_L_holds (l : Launch) (S0 : Nat) (hst : l.stackTraces = false) (dC : Nat → ClassId) (dI : Nat → Nat → Nat) (cO : ClassId) (h0 o0 q1 q2 q3 sz : Nat) (ou : Nat → Int64) (p1 : Int32) (p2 : Int64) (p3 : Int64) : Met l yL_holds wsL_holds ({ frames := 8, cells := 1, slots := 6, locals := 127 }) (twp S0 (dC, dI) vwCl [(cO, .long)] [.ref h0, .int p1, .long p2, .long p3, .ref o0] sz [(h0, .inr (1, [.ref q1, .ref q2, .ref q3])), (o0, .inl (cO, 1, .inr (.inl ou)))]) (wq (some (.int ((s_L_holds ou p1 p2 p3).1))) (dC, dI) vwCl [(h0, .inr (1, [.ref q1, .ref q2, .ref q3])), (o0, .inl (cO, 1, .inr (.inl ((s_L_holds ou p1 p2 p3).2))))] (va_A [(h0, .inr (1, [.ref q1, .ref q2, .ref q3])), (o0, .inl (cO, 1, .inr (.inl ou)))] sz)) 1 6 (va_A [(h0, .inr (1, [.ref q1, .ref q2, .ref q3])), (o0, .inl (cO, 1, .inr (.inl ou)))] sz) := by
  refine va_MetW (cc := cL_holds) (maxL := 8) (ret := (some .int)) (by decide) rfl ?_
  intro p e s m args below meth c s₁ B hml hv
  obtain ⟨rfl, hsz, hP, hK, hD0, ham⟩ := hv
  have hx := B.exec
  have hb := B.bytes
  have hr := B.returns
  have hts := atoms_spec (ws := wsL_holds) B.pre
  have hown : s.vm.findClass RL = some m.cls := findClass_of_methodNamed B.named
  have hlocks := B.notSynchronized
  subst hsz
  have hD := hD0.self (sz := s.heap.size)
  generalize hAe : va_A [(h0, .inr (1, [.ref q1, .ref q2, .ref q3])), (o0, .inl (cO, 1, .inr (.inl ou)))] s.heap.size = A at hD ⊢
  have hA : ∀ q : Nat, s.heap.size ≤ q → A q := fun q h => by rw [← hAe]; exact Or.inr h
  have hS : va_S A s.heap s.heap [] := va_S.rf
  have hP : va_P (dC, dI) vwCl [(h0, .inr (1, [.ref q1, .ref q2, .ref q3])), (o0, .inl (cO, 1, .inr (.inl ou)))] s.heap := hP
  have hl := lv_entry ([.ref h0, .int p1, .long p2, .long p3, .ref o0]) (n := 8) (Nat.le_of_ble_eq_true rfl)
  rw [lg_entry_eq]
  generalize (lg_sl ([.ref h0, .int p1, .long p2, .long p3, .ref o0]) ++ List.replicate (8 - (lg_sl ([.ref h0, .int p1, .long p2, .long p3, .ref o0])).length) Slot.unset).toArray = ls at hl ⊢
  have hl : lv_has ls 8 [(0, .ref h0), (1, .int p1), (2, .long p2), (4, .long p3), (6, .ref o0)] := hl
  have htb := vx_table (x := yL_holds) B (hts _ (List.mem_of_getElem? (i := 0) rfl))
  have hw1 := hts (.classLink RL 13 "java/lang/IllegalArgumentException") (List.mem_of_getElem? (i := 1) rfl)
  refine lv_aload hx hb dL_holds_0 (lv_at hl 4 rfl) ?_
  refine lv_iconst (v := (0 : Int32)) hx hb dL_holds_2 (by decide) ?_
  refine lv_aload_n hx hb dL_holds_3 rfl (lv_at hl 0 rfl) ?_
  refine lv_iload_n hx hb dL_holds_4 rfl (lv_at hl 1 rfl) ?_
  refine lv_lload_n hx hb dL_holds_5 rfl (lv_at hl 2 rfl) ?_
  refine lv_lload hx hb dL_holds_6 (lv_at hl 3 rfl) ?_
  refine tq_calli (vx_runV (As := [.int p1, .long p2, .long p3]) (rest := [.int (0 : Int32), .ref o0]) ⟨hx, hb, hml, hown, hts⟩ (c_X2_holds l S0 hst dC dI h0 q1 q2 q3 p1 p2 p3) (cwV 3 hts gL_holds_X2_holds rfl rfl rfl ydV_X2_holds ⟨Nat.le_of_ble_eq_true rfl, Nat.le_of_ble_eq_true rfl⟩) (trp_V (hK.sub (tys' := []) [] rfl) (hP.sub (ws' := [(h0, .inr (1, [.ref q1, .ref q2, .ref q3]))]) [0] rfl) ham rfl rfl) rfl rfl hl.1 rfl (lv_room (Nat.le_of_ble_eq_true rfl)) dL_holds_8 ⟨Nat.le_of_ble_eq_true rfl, Nat.le_of_ble_eq_true rfl⟩) (fun ce q9 H c1 hz hk hce hcv hcl => ?_) (fun c1 => ?_)
  · have hP : va_P (dC, dI) vwCl [(h0, .inr (1, [.ref q1, .ref q2, .ref q3])), (o0, .inl (cO, 1, .inr (.inl ou)))] H := va_P_grow hP hk
    have hS := va_S_grow hS hz hk
    refine zx_catch (x := ⟨0, 20, 23, 13⟩) hown htb (by decide) (by decide) hw1 (va_Nw.use rfl ham.2.2.1.2.2.2.1) hce hcv hcl ?_
    refine lv_astore (lv' := [(7, .ref q9), (0, .ref h0), (1, .int p1), (2, .long p2), (4, .long p3), (6, .ref o0)]) hx hb dL_holds_23 hl (by decide) rfl (fun ls hl => ?_)
    refine lv_iconst (v := (1 : Int32)) hx hb dL_holds_25 (by decide) ?_
    have es : (s_L_holds ou p1 p2 p3) = ((1 : Int32), ou) := by unfold s_L_holds; rw [if_pos c1]
    exact W.iret (v := (1 : Int32)) hx hb hr (fun t ht hW => by rw [es]; exact ⟨rfl, by rw [ht]; exact hP, hD, hS.F ht⟩) hS.2.2 dL_holds_26
  · refine lv_if_eq (tgt := 18) hx hb dL_holds_11 (by decide) (fun c2 => ?_) (fun c2 => ?_)
    · refine lv_lconst (v := (0 : Int64)) hx hb dL_holds_18 (by decide) ?_
      refine va_last hx hb hK hP hD hS 1 0 rfl rfl (by unfold vp_in; decide) dL_holds_19 (fun H locs hP hD hS => ?_)
      have hP : va_P (dC, dI) vwCl [(h0, .inr (1, [.ref q1, .ref q2, .ref q3])), (o0, .inl (cO, 1, .inr (.inl (vp_updL ou (0 : Int32).toNatClampNeg (0 : Int64)))))] H := hP
      have hD : va_D A [(h0, .inr (1, [.ref q1, .ref q2, .ref q3])), (o0, .inl (cO, 1, .inr (.inl (vp_updL ou (0 : Int32).toNatClampNeg (0 : Int64)))))] := hD
      refine lv_goto (tgt := 27) hx hb dL_holds_20 (by decide) ?_
      refine lv_iconst (v := (0 : Int32)) hx hb dL_holds_27 (by decide) ?_
      have es : (s_L_holds ou p1 p2 p3) = ((0 : Int32), vp_updL ou (0 : Int32).toNatClampNeg (0 : Int64)) := by unfold s_L_holds; rw [if_neg c1, if_pos c2]
      exact W.iret (v := (0 : Int32)) hx hb hr (fun t ht hW => by rw [es]; exact ⟨rfl, by rw [ht]; exact hP, hD, hS.F ht⟩) hS.2.2 dL_holds_28
    · refine lv_lconst (v := (1 : Int64)) hx hb dL_holds_14 (by decide) ?_
      refine lv_goto (tgt := 19) hx hb dL_holds_15 (by decide) ?_
      refine va_last hx hb hK hP hD hS 1 0 rfl rfl (by unfold vp_in; decide) dL_holds_19 (fun H locs hP hD hS => ?_)
      have hP : va_P (dC, dI) vwCl [(h0, .inr (1, [.ref q1, .ref q2, .ref q3])), (o0, .inl (cO, 1, .inr (.inl (vp_updL ou (0 : Int32).toNatClampNeg (1 : Int64)))))] H := hP
      have hD : va_D A [(h0, .inr (1, [.ref q1, .ref q2, .ref q3])), (o0, .inl (cO, 1, .inr (.inl (vp_updL ou (0 : Int32).toNatClampNeg (1 : Int64)))))] := hD
      refine lv_goto (tgt := 27) hx hb dL_holds_20 (by decide) ?_
      refine lv_iconst (v := (0 : Int32)) hx hb dL_holds_27 (by decide) ?_
      have es : (s_L_holds ou p1 p2 p3) = ((0 : Int32), vp_updL ou (0 : Int32).toNatClampNeg (1 : Int64)) := by unfold s_L_holds; rw [if_neg c1, if_neg c2]
      exact W.iret (v := (0 : Int32)) hx hb hr (fun t ht hW => by rw [es]; exact ⟨rfl, by rw [ht]; exact hP, hD, hS.F ht⟩) hS.2.2 dL_holds_28

def s_L_low (lo : Nat → Int64) (ou : Nat → Int64) (p1 : Int32) : Int32 × (Nat → Int64) :=
  if (s_X2_low lo p1).1 = (1 : Int32) then ((1 : Int32), ou)
  else ((0 : Int32), vp_updL ou (0 : Int32).toNatClampNeg ((s_X2_low lo p1).2))
set_option maxHeartbeats 4000000 in
set_option maxRecDepth 100000 in
theorem c_L_low (l : Launch) (S0 : Nat) (hst : l.stackTraces = false) (dC : Nat → ClassId) (dI : Nat → Nat → Nat) (cA cB cO : ClassId) (h0 q1 q2 o0 q3 sz : Nat) (lo : Nat → Int64) (hi : Nat → Int64) (ou : Nat → Int64) (p1 : Int32) : Met l yL_low wsL_low ({ frames := 8, cells := 1, slots := 6, locals := 123 }) (twp S0 (dC, dI) vwCl [(cA, .long), (cB, .long), (cO, .long)] [.ref h0, .int p1, .ref o0] sz [(h0, .inr (1, [.ref q1, .ref q2, .ref q3])), (q1, .inl (cA, 16, .inr (.inl lo))), (q2, .inl (cB, 16, .inr (.inl hi))), (o0, .inl (cO, 1, .inr (.inl ou)))]) (wq (some (.int ((s_L_low lo ou p1).1))) (dC, dI) vwCl [(h0, .inr (1, [.ref q1, .ref q2, .ref q3])), (q1, .inl (cA, 16, .inr (.inl lo))), (q2, .inl (cB, 16, .inr (.inl hi))), (o0, .inl (cO, 1, .inr (.inl ((s_L_low lo ou p1).2))))] (va_A [(h0, .inr (1, [.ref q1, .ref q2, .ref q3])), (q1, .inl (cA, 16, .inr (.inl lo))), (q2, .inl (cB, 16, .inr (.inl hi))), (o0, .inl (cO, 1, .inr (.inl ou)))] sz)) 1 6 (va_A [(h0, .inr (1, [.ref q1, .ref q2, .ref q3])), (q1, .inl (cA, 16, .inr (.inl lo))), (q2, .inl (cB, 16, .inr (.inl hi))), (o0, .inl (cO, 1, .inr (.inl ou)))] sz) := by
  refine va_MetW (cc := cL_low) (maxL := 4) (ret := (some .int)) (by decide) rfl ?_
  intro p e s m args below meth c s₁ B hml hv
  obtain ⟨rfl, hsz, hP, hK, hD0, ham⟩ := hv
  have hx := B.exec
  have hb := B.bytes
  have hr := B.returns
  have hts := atoms_spec (ws := wsL_low) B.pre
  have hown : s.vm.findClass RL = some m.cls := findClass_of_methodNamed B.named
  have hlocks := B.notSynchronized
  subst hsz
  have hD := hD0.self (sz := s.heap.size)
  generalize hAe : va_A [(h0, .inr (1, [.ref q1, .ref q2, .ref q3])), (q1, .inl (cA, 16, .inr (.inl lo))), (q2, .inl (cB, 16, .inr (.inl hi))), (o0, .inl (cO, 1, .inr (.inl ou)))] s.heap.size = A at hD ⊢
  have hA : ∀ q : Nat, s.heap.size ≤ q → A q := fun q h => by rw [← hAe]; exact Or.inr h
  have hS : va_S A s.heap s.heap [] := va_S.rf
  have hP : va_P (dC, dI) vwCl [(h0, .inr (1, [.ref q1, .ref q2, .ref q3])), (q1, .inl (cA, 16, .inr (.inl lo))), (q2, .inl (cB, 16, .inr (.inl hi))), (o0, .inl (cO, 1, .inr (.inl ou)))] s.heap := hP
  have hl := lv_entry ([.ref h0, .int p1, .ref o0]) (n := 4) (Nat.le_of_ble_eq_true rfl)
  rw [lg_entry_eq]
  generalize (lg_sl ([.ref h0, .int p1, .ref o0]) ++ List.replicate (4 - (lg_sl ([.ref h0, .int p1, .ref o0])).length) Slot.unset).toArray = ls at hl ⊢
  have hl : lv_has ls 4 [(0, .ref h0), (1, .int p1), (2, .ref o0)] := hl
  have htb := vx_table (x := yL_low) B (hts _ (List.mem_of_getElem? (i := 0) rfl))
  have hw1 := hts (.classLink RL 13 "java/lang/IllegalArgumentException") (List.mem_of_getElem? (i := 1) rfl)
  refine lv_aload_n hx hb dL_low_0 rfl (lv_at hl 2 rfl) ?_
  refine lv_iconst (v := (0 : Int32)) hx hb dL_low_1 (by decide) ?_
  refine lv_aload_n hx hb dL_low_2 rfl (lv_at hl 0 rfl) ?_
  refine lv_iload_n hx hb dL_low_3 rfl (lv_at hl 1 rfl) ?_
  refine tq_calll (vx_runV (As := [.int p1]) (rest := [.int (0 : Int32), .ref o0]) ⟨hx, hb, hml, hown, hts⟩ (c_X2_low l S0 hst dC dI cA cB h0 q1 q2 q3 lo hi p1) (cwV 1 hts gL_low_X2_low rfl rfl rfl ydV_X2_low ⟨Nat.le_of_ble_eq_true rfl, Nat.le_of_ble_eq_true rfl⟩) (trp_V (hK.sub (tys' := [(cA, .long), (cB, .long)]) [0, 1] rfl) (hP.sub (ws' := [(h0, .inr (1, [.ref q1, .ref q2, .ref q3])), (q1, .inl (cA, 16, .inr (.inl lo))), (q2, .inl (cB, 16, .inr (.inl hi)))]) [0, 1, 2] rfl) ham rfl rfl) rfl rfl hl.1 rfl (lv_room (Nat.le_of_ble_eq_true rfl)) dL_low_4 ⟨Nat.le_of_ble_eq_true rfl, Nat.le_of_ble_eq_true rfl⟩) (fun ce q9 H c1 hz hk hce hcv hcl => ?_) (fun c1 => ?_)
  · have hP : va_P (dC, dI) vwCl [(h0, .inr (1, [.ref q1, .ref q2, .ref q3])), (q1, .inl (cA, 16, .inr (.inl lo))), (q2, .inl (cB, 16, .inr (.inl hi))), (o0, .inl (cO, 1, .inr (.inl ou)))] H := va_P_grow hP hk
    have hS := va_S_grow hS hz hk
    refine zx_catch (x := ⟨0, 8, 11, 13⟩) hown htb (by decide) (by decide) hw1 (va_Nw.use rfl ham.2.2.1.2.2.2.1) hce hcv hcl ?_
    refine lv_astore_n (lv' := [(3, .ref q9), (0, .ref h0), (1, .int p1), (2, .ref o0)]) hx hb dL_low_11 rfl hl (by decide) rfl (fun ls hl => ?_)
    refine lv_iconst (v := (1 : Int32)) hx hb dL_low_12 (by decide) ?_
    have es : (s_L_low lo ou p1) = ((1 : Int32), ou) := by unfold s_L_low; rw [if_pos c1]
    exact W.iret (v := (1 : Int32)) hx hb hr (fun t ht hW => by rw [es]; exact ⟨rfl, by rw [ht]; exact hP, hD, hS.F ht⟩) hS.2.2 dL_low_13
  · refine va_last hx hb hK hP hD hS 3 2 rfl rfl (by unfold vp_in; decide) dL_low_7 (fun H locs hP hD hS => ?_)
    have hP : va_P (dC, dI) vwCl [(h0, .inr (1, [.ref q1, .ref q2, .ref q3])), (q1, .inl (cA, 16, .inr (.inl lo))), (q2, .inl (cB, 16, .inr (.inl hi))), (o0, .inl (cO, 1, .inr (.inl (vp_updL ou (0 : Int32).toNatClampNeg ((s_X2_low lo p1).2)))))] H := hP
    have hD : va_D A [(h0, .inr (1, [.ref q1, .ref q2, .ref q3])), (q1, .inl (cA, 16, .inr (.inl lo))), (q2, .inl (cB, 16, .inr (.inl hi))), (o0, .inl (cO, 1, .inr (.inl (vp_updL ou (0 : Int32).toNatClampNeg ((s_X2_low lo p1).2)))))] := hD
    refine lv_goto (tgt := 14) hx hb dL_low_8 (by decide) ?_
    refine lv_iconst (v := (0 : Int32)) hx hb dL_low_14 (by decide) ?_
    have es : (s_L_low lo ou p1) = ((0 : Int32), vp_updL ou (0 : Int32).toNatClampNeg ((s_X2_low lo p1).2)) := by unfold s_L_low; rw [if_neg c1]
    exact W.iret (v := (0 : Int32)) hx hb hr (fun t ht hW => by rw [es]; exact ⟨rfl, by rw [ht]; exact hP, hD, hS.F ht⟩) hS.2.2 dL_low_15

def s_L_high (hi : Nat → Int64) (ou : Nat → Int64) (p1 : Int32) : Int32 × (Nat → Int64) :=
  if (s_X2_high hi p1).1 = (1 : Int32) then ((1 : Int32), ou)
  else ((0 : Int32), vp_updL ou (0 : Int32).toNatClampNeg ((s_X2_high hi p1).2))
set_option maxHeartbeats 4000000 in
set_option maxRecDepth 100000 in
theorem c_L_high (l : Launch) (S0 : Nat) (hst : l.stackTraces = false) (dC : Nat → ClassId) (dI : Nat → Nat → Nat) (cA cB cO : ClassId) (h0 q1 q2 o0 q3 sz : Nat) (lo : Nat → Int64) (hi : Nat → Int64) (ou : Nat → Int64) (p1 : Int32) : Met l yL_high wsL_high ({ frames := 8, cells := 1, slots := 6, locals := 123 }) (twp S0 (dC, dI) vwCl [(cA, .long), (cB, .long), (cO, .long)] [.ref h0, .int p1, .ref o0] sz [(h0, .inr (1, [.ref q1, .ref q2, .ref q3])), (q1, .inl (cA, 16, .inr (.inl lo))), (q2, .inl (cB, 16, .inr (.inl hi))), (o0, .inl (cO, 1, .inr (.inl ou)))]) (wq (some (.int ((s_L_high hi ou p1).1))) (dC, dI) vwCl [(h0, .inr (1, [.ref q1, .ref q2, .ref q3])), (q1, .inl (cA, 16, .inr (.inl lo))), (q2, .inl (cB, 16, .inr (.inl hi))), (o0, .inl (cO, 1, .inr (.inl ((s_L_high hi ou p1).2))))] (va_A [(h0, .inr (1, [.ref q1, .ref q2, .ref q3])), (q1, .inl (cA, 16, .inr (.inl lo))), (q2, .inl (cB, 16, .inr (.inl hi))), (o0, .inl (cO, 1, .inr (.inl ou)))] sz)) 1 6 (va_A [(h0, .inr (1, [.ref q1, .ref q2, .ref q3])), (q1, .inl (cA, 16, .inr (.inl lo))), (q2, .inl (cB, 16, .inr (.inl hi))), (o0, .inl (cO, 1, .inr (.inl ou)))] sz) := by
  refine va_MetW (cc := cL_high) (maxL := 4) (ret := (some .int)) (by decide) rfl ?_
  intro p e s m args below meth c s₁ B hml hv
  obtain ⟨rfl, hsz, hP, hK, hD0, ham⟩ := hv
  have hx := B.exec
  have hb := B.bytes
  have hr := B.returns
  have hts := atoms_spec (ws := wsL_high) B.pre
  have hown : s.vm.findClass RL = some m.cls := findClass_of_methodNamed B.named
  have hlocks := B.notSynchronized
  subst hsz
  have hD := hD0.self (sz := s.heap.size)
  generalize hAe : va_A [(h0, .inr (1, [.ref q1, .ref q2, .ref q3])), (q1, .inl (cA, 16, .inr (.inl lo))), (q2, .inl (cB, 16, .inr (.inl hi))), (o0, .inl (cO, 1, .inr (.inl ou)))] s.heap.size = A at hD ⊢
  have hA : ∀ q : Nat, s.heap.size ≤ q → A q := fun q h => by rw [← hAe]; exact Or.inr h
  have hS : va_S A s.heap s.heap [] := va_S.rf
  have hP : va_P (dC, dI) vwCl [(h0, .inr (1, [.ref q1, .ref q2, .ref q3])), (q1, .inl (cA, 16, .inr (.inl lo))), (q2, .inl (cB, 16, .inr (.inl hi))), (o0, .inl (cO, 1, .inr (.inl ou)))] s.heap := hP
  have hl := lv_entry ([.ref h0, .int p1, .ref o0]) (n := 4) (Nat.le_of_ble_eq_true rfl)
  rw [lg_entry_eq]
  generalize (lg_sl ([.ref h0, .int p1, .ref o0]) ++ List.replicate (4 - (lg_sl ([.ref h0, .int p1, .ref o0])).length) Slot.unset).toArray = ls at hl ⊢
  have hl : lv_has ls 4 [(0, .ref h0), (1, .int p1), (2, .ref o0)] := hl
  have htb := vx_table (x := yL_high) B (hts _ (List.mem_of_getElem? (i := 0) rfl))
  have hw1 := hts (.classLink RL 13 "java/lang/IllegalArgumentException") (List.mem_of_getElem? (i := 1) rfl)
  refine lv_aload_n hx hb dL_high_0 rfl (lv_at hl 2 rfl) ?_
  refine lv_iconst (v := (0 : Int32)) hx hb dL_high_1 (by decide) ?_
  refine lv_aload_n hx hb dL_high_2 rfl (lv_at hl 0 rfl) ?_
  refine lv_iload_n hx hb dL_high_3 rfl (lv_at hl 1 rfl) ?_
  refine tq_calll (vx_runV (As := [.int p1]) (rest := [.int (0 : Int32), .ref o0]) ⟨hx, hb, hml, hown, hts⟩ (c_X2_high l S0 hst dC dI cA cB h0 q1 q2 q3 lo hi p1) (cwV 1 hts gL_high_X2_high rfl rfl rfl ydV_X2_high ⟨Nat.le_of_ble_eq_true rfl, Nat.le_of_ble_eq_true rfl⟩) (trp_V (hK.sub (tys' := [(cA, .long), (cB, .long)]) [0, 1] rfl) (hP.sub (ws' := [(h0, .inr (1, [.ref q1, .ref q2, .ref q3])), (q1, .inl (cA, 16, .inr (.inl lo))), (q2, .inl (cB, 16, .inr (.inl hi)))]) [0, 1, 2] rfl) ham rfl rfl) rfl rfl hl.1 rfl (lv_room (Nat.le_of_ble_eq_true rfl)) dL_high_4 ⟨Nat.le_of_ble_eq_true rfl, Nat.le_of_ble_eq_true rfl⟩) (fun ce q9 H c1 hz hk hce hcv hcl => ?_) (fun c1 => ?_)
  · have hP : va_P (dC, dI) vwCl [(h0, .inr (1, [.ref q1, .ref q2, .ref q3])), (q1, .inl (cA, 16, .inr (.inl lo))), (q2, .inl (cB, 16, .inr (.inl hi))), (o0, .inl (cO, 1, .inr (.inl ou)))] H := va_P_grow hP hk
    have hS := va_S_grow hS hz hk
    refine zx_catch (x := ⟨0, 8, 11, 13⟩) hown htb (by decide) (by decide) hw1 (va_Nw.use rfl ham.2.2.1.2.2.2.1) hce hcv hcl ?_
    refine lv_astore_n (lv' := [(3, .ref q9), (0, .ref h0), (1, .int p1), (2, .ref o0)]) hx hb dL_high_11 rfl hl (by decide) rfl (fun ls hl => ?_)
    refine lv_iconst (v := (1 : Int32)) hx hb dL_high_12 (by decide) ?_
    have es : (s_L_high hi ou p1) = ((1 : Int32), ou) := by unfold s_L_high; rw [if_pos c1]
    exact W.iret (v := (1 : Int32)) hx hb hr (fun t ht hW => by rw [es]; exact ⟨rfl, by rw [ht]; exact hP, hD, hS.F ht⟩) hS.2.2 dL_high_13
  · refine va_last hx hb hK hP hD hS 3 2 rfl rfl (by unfold vp_in; decide) dL_high_7 (fun H locs hP hD hS => ?_)
    have hP : va_P (dC, dI) vwCl [(h0, .inr (1, [.ref q1, .ref q2, .ref q3])), (q1, .inl (cA, 16, .inr (.inl lo))), (q2, .inl (cB, 16, .inr (.inl hi))), (o0, .inl (cO, 1, .inr (.inl (vp_updL ou (0 : Int32).toNatClampNeg ((s_X2_high hi p1).2)))))] H := hP
    have hD : va_D A [(h0, .inr (1, [.ref q1, .ref q2, .ref q3])), (q1, .inl (cA, 16, .inr (.inl lo))), (q2, .inl (cB, 16, .inr (.inl hi))), (o0, .inl (cO, 1, .inr (.inl (vp_updL ou (0 : Int32).toNatClampNeg ((s_X2_high hi p1).2)))))] := hD
    refine lv_goto (tgt := 14) hx hb dL_high_8 (by decide) ?_
    refine lv_iconst (v := (0 : Int32)) hx hb dL_high_14 (by decide) ?_
    have es : (s_L_high hi ou p1) = ((0 : Int32), vp_updL ou (0 : Int32).toNatClampNeg ((s_X2_high hi p1).2)) := by unfold s_L_high; rw [if_neg c1]
    exact W.iret (v := (0 : Int32)) hx hb hr (fun t ht hW => by rw [es]; exact ⟨rfl, by rw [ht]; exact hP, hD, hS.F ht⟩) hS.2.2 dL_high_15
