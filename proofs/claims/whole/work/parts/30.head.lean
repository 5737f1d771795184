/-! the law's loop: what holds at its head -/
def R_law : String := "RangeBoxLaw"
def lw_P (b : Addr) (xs : List Int32) (args : Array Value) (s : State) : Prop := args = #[.ref b] ∧ s.IntsAt b xs ∧ xs.length ≤ 3584 ∧ (Jvm.Cond.and given_1 narrow_1).before args s = true
def lw_Q (_ : Array Value) (s : State) (o : Outcome) (t : State) : Prop := o = .returned (some (.int 1)) ∧ Framed s o t [] 601024 7293034
def lw_Z (below : List Frame) (a : Array Value) (s : State) : State → Prop := fun t => ∃ o, t.status = .running ∧ Ended t below o ∧ lw_Q a s o t
/-- the law's own end, with 1 on the stack, nothing written that was there before, its room as the claim has it -/
theorem lw_ret {p : Program} {l : Launch} {e : Env} {s : State} {m : MethodId} {below : List Frame} {meth : Method} {c : Code} {b : Nat} (hx : p.tables.exec = Jvm.exec) (hb : c.code = code) (hr : meth.sig.returnType = ret) (hlocks : meth.locks = false) {pc : Nat} {H : Heap} {ls : Array Slot} (hdg : decode code pc = .ok (.ireturn, 1)) : W p l e room_1 s m #[Value.ref b] below meth c H [] 601024 7293034 (lw_Z below #[Value.ref b] s) (F0 m pc ls [.int 1]) := by
  intro T hT X
  obtain ⟨fs, hret, hrun, hended, hW, hframe⟩ := X.leave (v := some (.int 1)) (hlocks := hlocks) (fun h => by rw [hr] at h; cases h)
  have hmeth' : T.vm.method? m = some meth := X.method'
  refine ⟨T.setFrames fs, ?_, .returned (some (.int 1)), hrun, hended, rfl, ⟨_, rfl⟩, hW, hframe⟩
  jvm_step X.here [X.here.top, hx, hb, hdg, hmeth', hr, ret, narrow_b1]
  (try refine ⟨rfl, ?_⟩); (try refine ⟨rfl, ?_⟩)
  first | (intro acts; rw [hret _ acts rfl rfl rfl]) | rw [hret _ _ rfl rfl rfl]
  exact Steps.refl _
/-- what holds at the law's entry: the machine, the code, the tables' words (any of lw_tbl by 'hts w (by decide +kernel)'), the script of L ints xs at the cell b, what the Statement gives of the start (any of its parts by flat_of_before) -/
def lw_At (p : Program) (s : State) (m : MethodId) (meth : Method) (c : Code) (b L : Nat) (xs : Nat → Int32) : Prop :=
  p.tables.exec = Jvm.exec ∧ c.code = code ∧ meth.sig.returnType = ret ∧ c.maxLocals = 8 ∧ s.vm.findClass R_law = some m.cls ∧ (∀ w ∈ lw_tbl, w.before #[Value.ref b] s = true) ∧ va_X b L xs s s.heap ∧ b < s.heap.size ∧ meth.locks = false ∧ (Jvm.Cond.and given_1 narrow_1).before #[Value.ref b] s = true
/-- from the loop's head at place i, with n turns' room left, the law comes to its end with true -/
def lwK (p : Program) (l : Launch) (e : Env) (s : State) (m : MethodId) (below : List Frame) (meth : Method) (c : Code) (D : va_G) (A : Nat → Prop) (b h0 q1 q2 q3 g0 r1 r2 o0 : Nat) (cA cB cC cD cO : ClassId) (n i : Nat) : Prop :=
  ∀ (f0 : Int64) (f1 : Int64) (f2 : Int64) (f3 : Int64) (f4 : Int64) (f5 : Int64) (th : Int32) (fa : Int64) (fb : Int64) (ft : Int32) (xl : Int64) (xh : Int64) (yl : Int64) (yh : Int64) (lo : Nat → Int64) (hi : Nat → Int64) (ou : Nat → Int64) (kc : Nat) (ks : Nat) (H : Heap) (locs : List Loc) (ls : Array Slot), okR lo hi → kc + 8 * n ≤ 601024 → ks + 48 * n ≤ 7293034 → va_P D vwCl [(h0, .inr (1, [.ref q1, .ref q2, .ref q3])), (q1, .inl (cA, 16, .inr (.inl lo))), (q2, .inl (cB, 16, .inr (.inl hi))), (q3, .inr (0, [.long f0, .long f1, .long f2, .long f3, .long f4, .long f5])), (g0, .inr (2, [.int th, .ref r1, .ref r2, .long fa, .long fb, .int ft, .long xl, .long xh, .long yl, .long yh])), (r1, .inl (cC, 16, .inr (.inl lo))), (r2, .inl (cD, 16, .inr (.inl hi))), (o0, .inl (cO, 1, .inr (.inl ou)))] H → va_D A [(h0, .inr (1, [.ref q1, .ref q2, .ref q3])), (q1, .inl (cA, 16, .inr (.inl lo))), (q2, .inl (cB, 16, .inr (.inl hi))), (q3, .inr (0, [.long f0, .long f1, .long f2, .long f3, .long f4, .long f5])), (g0, .inr (2, [.int th, .ref r1, .ref r2, .long fa, .long fb, .int ft, .long xl, .long xh, .long yl, .long yh])), (r1, .inl (cC, 16, .inr (.inl lo))), (r2, .inl (cD, 16, .inr (.inl hi))), (o0, .inl (cO, 1, .inr (.inl ou)))] → va_S A s.heap H locs → lv_has ls 8 [(0, .ref b), (1, .ref h0), (2, .ref g0), (3, .ref o0), (4, .int (nI i))] → W p l e room_1 s m #[Value.ref b] below meth c H locs kc ks (lw_Z below #[Value.ref b] s) (F0 m 23 ls [])
theorem in_c42 : Cond.constantLong RL 42 (4294967295) ∈ lw_tbl := by decide +kernel
theorem lw_in {i L j : Nat} (h : i + 7 ≤ L) (hL : L ≤ 3584) (hj : j < 7) : vp_in (nI i + nI j) L := by
  rw [nI_add]
  exact vp_in_nI (by omega) (by omega)
theorem lw_i7 (i : Nat) : nI i + Int32.ofInt 7 = nI (i + 7) := by
  rw [show Int32.ofInt 7 = nI 7 from by decide]
  exact nI_add i 7
theorem lw_more {i L : Nat} (hL : L ≤ 3584) (hi : i ≤ L) (h : ¬ Int32.ofNat L - 7 < nI i) : i + 7 ≤ L := by
  have e1 : (nI i).toInt = i := nI_toInt (by omega)
  have e2 : (Int32.ofNat L).toInt = L := nI_toInt (n := L) (by omega)
  have e3 : (7 : Int32).toInt = 7 := by decide
  rw [Int32.lt_iff_toInt_lt, Int32.toInt_sub, e1, e2, e3] at h
  have e4 : ((L : Int) - 7).bmod (2 ^ 32) = (L : Int) - 7 := by
    rw [show ∀ n : Int, n.bmod (2 ^ 32) = (if n % 4294967296 < 2147483648 then n % 4294967296 else n % 4294967296 - 4294967296) from fun _ => rfl]
    split <;> omega
  rw [e4] at h
  omega
theorem lw_sld {p : Program} {l : Launch} {e : Env} {R : Room} {s : State} {m : MethodId} {args : Array Value} {below : List Frame} {meth : Method} {c : Code} {H H0 : Heap} {locs : List Loc} {cells slots : Nat} {Q : State → Prop} {cc : ByteArray} {pc : Nat} {ls : Array Slot} {rest : List Value} {A : Nat → Prop} (hexec : p.tables.exec = Jvm.exec) (hb : c.code = cc) {b L : Nat} {xs : Nat → Int32} (hX : va_X b L xs s H0) (hbl : b < H0.size) (hbA : ¬ A b) (hS : va_S A H0 H locs) {i v : Int32} (hin : vp_in i L) (hv : v = xs i.toNatClampNeg) (hdg : decode cc pc = .ok (.iaload, 1))
    (kk : W p l e R s m args below meth c H locs cells slots Q (F0 m (pc + 1) ls (.int v :: rest))) : W p l e R s m args below meth c H locs cells slots Q (F0 m pc ls (.int i :: .ref b :: rest)) := by
  subst hv
  exact va_sld hexec hb hX hbl hbA hS hin hdg kk
theorem ydS_L_cut : yL_cut.cls ≠ "java/lang/invoke/MethodHandle" ∧ yL_cut.cls ≠ "java/lang/invoke/VarHandle" ∧ (parseMethodDescriptor yL_cut.desc).map (fun d => d.parameters.length) = some 6 := by decide +kernel
theorem ydS_L_exact : yL_exact.cls ≠ "java/lang/invoke/MethodHandle" ∧ yL_exact.cls ≠ "java/lang/invoke/VarHandle" ∧ (parseMethodDescriptor yL_exact.desc).map (fun d => d.parameters.length) = some 6 := by decide +kernel
theorem ydS_L_high : yL_high.cls ≠ "java/lang/invoke/MethodHandle" ∧ yL_high.cls ≠ "java/lang/invoke/VarHandle" ∧ (parseMethodDescriptor yL_high.desc).map (fun d => d.parameters.length) = some 3 := by decide +kernel
theorem ydS_L_holds : yL_holds.cls ≠ "java/lang/invoke/MethodHandle" ∧ yL_holds.cls ≠ "java/lang/invoke/VarHandle" ∧ (parseMethodDescriptor yL_holds.desc).map (fun d => d.parameters.length) = some 5 := by decide +kernel
theorem ydS_L_low : yL_low.cls ≠ "java/lang/invoke/MethodHandle" ∧ yL_low.cls ≠ "java/lang/invoke/VarHandle" ∧ (parseMethodDescriptor yL_low.desc).map (fun d => d.parameters.length) = some 3 := by decide +kernel
theorem ydS_L_put : yL_put.cls ≠ "java/lang/invoke/MethodHandle" ∧ yL_put.cls ≠ "java/lang/invoke/VarHandle" ∧ (parseMethodDescriptor yL_put.desc).map (fun d => d.parameters.length) = some 4 := by decide +kernel
theorem ydS_L_work : yL_work.cls ≠ "java/lang/invoke/MethodHandle" ∧ yL_work.cls ≠ "java/lang/invoke/VarHandle" ∧ (parseMethodDescriptor yL_work.desc).map (fun d => d.parameters.length) = some 6 := by decide +kernel
theorem ydV_X3_cut : yX3_cut.cls = RX3 ∧ yX3_cut.cls ≠ "java/lang/invoke/MethodHandle" ∧ yX3_cut.cls ≠ "java/lang/invoke/VarHandle" ∧ (parseMethodDescriptor yX3_cut.desc).map (fun d => d.parameters.length) = some 4 := by decide +kernel
theorem ydV_X3_exact : yX3_exact.cls = RX3 ∧ yX3_exact.cls ≠ "java/lang/invoke/MethodHandle" ∧ yX3_exact.cls ≠ "java/lang/invoke/VarHandle" ∧ (parseMethodDescriptor yX3_exact.desc).map (fun d => d.parameters.length) = some 4 := by decide +kernel
theorem ydV_X3_high : yX3_high.cls = RX3 ∧ yX3_high.cls ≠ "java/lang/invoke/MethodHandle" ∧ yX3_high.cls ≠ "java/lang/invoke/VarHandle" ∧ (parseMethodDescriptor yX3_high.desc).map (fun d => d.parameters.length) = some 1 := by decide +kernel
theorem ydV_X3_holds_ : yX3_holds_.cls = RX3 ∧ yX3_holds_.cls ≠ "java/lang/invoke/MethodHandle" ∧ yX3_holds_.cls ≠ "java/lang/invoke/VarHandle" ∧ (parseMethodDescriptor yX3_holds_.desc).map (fun d => d.parameters.length) = some 3 := by decide +kernel
theorem ydV_X3_low : yX3_low.cls = RX3 ∧ yX3_low.cls ≠ "java/lang/invoke/MethodHandle" ∧ yX3_low.cls ≠ "java/lang/invoke/VarHandle" ∧ (parseMethodDescriptor yX3_low.desc).map (fun d => d.parameters.length) = some 1 := by decide +kernel
theorem ydV_X3_put : yX3_put.cls = RX3 ∧ yX3_put.cls ≠ "java/lang/invoke/MethodHandle" ∧ yX3_put.cls ≠ "java/lang/invoke/VarHandle" ∧ (parseMethodDescriptor yX3_put.desc).map (fun d => d.parameters.length) = some 3 := by decide +kernel
theorem ydV_X3_thrown : yX3_thrown.cls = RX3 ∧ yX3_thrown.cls ≠ "java/lang/invoke/MethodHandle" ∧ yX3_thrown.cls ≠ "java/lang/invoke/VarHandle" ∧ (parseMethodDescriptor yX3_thrown.desc).map (fun d => d.parameters.length) = some 0 := by decide +kernel
theorem ydV_X3_work : yX3_work.cls = RX3 ∧ yX3_work.cls ≠ "java/lang/invoke/MethodHandle" ∧ yX3_work.cls ≠ "java/lang/invoke/VarHandle" ∧ (parseMethodDescriptor yX3_work.desc).map (fun d => d.parameters.length) = some 5 := by decide +kernel
