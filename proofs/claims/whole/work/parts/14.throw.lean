/-! what every road that may throw takes along; methods that return or throw: own words and rows -/
abbrev n_IAE : String := "java/lang/IllegalArgumentException"
abbrev n_AE : String := "java/lang/ArithmeticException"
abbrev n_chain : List String := ["java/lang/RuntimeException", "java/lang/Exception"]
def y_iR : MethodName := ⟨"java/lang/RuntimeException", "<init>", "(Ljava/lang/String;)V"⟩
def y_iE : MethodName := ⟨"java/lang/Exception", "<init>", "(Ljava/lang/String;)V"⟩
def y_iT : MethodName := ⟨"java/lang/Throwable", "<init>", "(Ljava/lang/String;)V"⟩
def ctr (j : Nat) : Int32 := ([1, 0, 5, 4, 3, 2, 9, 8, 7, 6, 10] : List Int32).getD j 0
/-- of the tables alone -/
def am2 (U : State) : Prop := (va_Nw (.declares y_iR) U ∧ va_Nw (.declares y_iE) U ∧ va_Nw (.declares y_iT) U ∧ va_Nw (.castable n_IAE n_IAE) U ∧ va_Nw (.castable n_AE n_AE) U) ∧
  ((∃ a, vk_R RX2 78 "no such range" a U) ∧ (∃ a, vk_R RX2 29 "low is above high" a U) ∧ (∃ a, vk_R RX2 80 "no such instruction" a U) ∧ (∃ a, vk_R RX2 82 "no such condition" a U) ∧ (∃ a, vk_R RX2 60 "a range is not cut by itself" a U) ∧ (∃ a, vk_R RJ9 116 "long overflow" a U)) ∧
  (va_Nw (.fieldLinkNest RX2 45 "RangeBox$Outcome" "low" "J" "RangeBox") U ∧ va_Nw (.fieldLinkNest RX2 49 "RangeBox$Outcome" "high" "J" "RangeBox") U ∧ va_Nw (.methodLinkNest RX2 18 yX1_init "RangeBox") U)
/-- .. and of the statics' cells, which lie below S0 -/
def am (S0 : Nat) (U : State) (H : Heap) : Prop :=
  (vx_Zq Bundle.tN "UNASSIGNED_STACK" Bundle.steD (fun q => S0 ≤ q) U H ∧ vx_Zq Bundle.tN "SUPPRESSED_SENTINEL" Bundle.listD (fun q => S0 ≤ q) U H) ∧
  (∃ t : Nat, va_Z RX0 "CONTRARY" "[I" (.ref t) (fun q => S0 ≤ q) U H ∧ va_T .int t 11 (fun j => .int (ctr j)) (fun q => S0 ≤ q) U H) ∧ am2 U
theorem am2.warm {s U : State} (hW : s.WarmedH U.vm) (h : am2 s) : am2 U := by
  obtain ⟨⟨a1, a2, a3, a4, a5⟩, ⟨⟨b1, c1⟩, ⟨b2, c2⟩, ⟨b3, c3⟩, ⟨b4, c4⟩, ⟨b5, c5⟩, ⟨b6, c6⟩⟩, d1, d2, d3⟩ := h
  exact ⟨⟨va_Nw.warmD hW a1, va_Nw.warmD hW a2, va_Nw.warmD hW a3, va_Nw.warmC hW a4, va_Nw.warmC hW a5⟩, ⟨⟨b1, vk_R.warm hW c1⟩, ⟨b2, vk_R.warm hW c2⟩, ⟨b3, vk_R.warm hW c3⟩, ⟨b4, vk_R.warm hW c4⟩, ⟨b5, vk_R.warm hW c5⟩, ⟨b6, vk_R.warm hW c6⟩⟩, va_Nw.warmF hW d1, va_Nw.warmF hW d2, va_Nw.warmM hW d3⟩
theorem am2.same {u U : State} (hv : u.vm = U.vm) (h : am2 u) : am2 U := by
  obtain ⟨⟨a1, a2, a3, a4, a5⟩, ⟨⟨b1, c1⟩, ⟨b2, c2⟩, ⟨b3, c3⟩, ⟨b4, c4⟩, ⟨b5, c5⟩, ⟨b6, c6⟩⟩, d1, d2, d3⟩ := h
  exact ⟨⟨va_Nw.same rfl hv a1, va_Nw.same rfl hv a2, va_Nw.same rfl hv a3, va_Nw.same rfl hv a4, va_Nw.same rfl hv a5⟩, ⟨⟨b1, vk_R.same hv.symm c1⟩, ⟨b2, vk_R.same hv.symm c2⟩, ⟨b3, vk_R.same hv.symm c3⟩, ⟨b4, vk_R.same hv.symm c4⟩, ⟨b5, vk_R.same hv.symm c5⟩, ⟨b6, vk_R.same hv.symm c6⟩⟩, va_Nw.same rfl hv d1, va_Nw.same rfl hv d2, va_Nw.same rfl hv d3⟩
theorem am.warm {S0 : Nat} {s U : State} {H : Heap} (hW : s.WarmedH U.vm) (h : am S0 s H) : am S0 U H := by
  obtain ⟨⟨a1, a2⟩, ⟨t, b1, b2⟩, c⟩ := h
  exact ⟨⟨vx_Zq.moved hW.alike a1, vx_Zq.moved hW.alike a2⟩, ⟨t, va_Z.moved hW.alike b1, va_T.moved hW.alike b2⟩, c.warm hW⟩
theorem am.same {S0 : Nat} {u U : State} {H : Heap} (hv : u.vm = U.vm) (h : am S0 u H) : am S0 U H := by
  obtain ⟨⟨a1, a2⟩, ⟨t, b1, b2⟩, c⟩ := h
  have ha : u.vm.Alike U.vm := by rw [hv]; exact Vm.Alike.refl U.vm
  exact ⟨⟨vx_Zq.moved ha a1, vx_Zq.moved ha a2⟩, ⟨t, va_Z.moved ha b1, va_T.moved ha b2⟩, c.same hv⟩
theorem am.kept {S0 : Nat} {U : State} {H H1 : Heap} (h : am S0 U H) (hq : ∀ a : Nat, a < H.size → ¬ S0 ≤ a → H1[a]? = H[a]?) : am S0 U H1 := by
  obtain ⟨⟨a1, a2⟩, ⟨t, b1, b2⟩, c⟩ := h
  exact ⟨⟨a1.kept hq, a2.kept hq⟩, ⟨t, b1.kept hq, b2.kept hq⟩, c⟩
/-- a start with what is taken along -/
def tp (S0 : Nat) (av : List Value) : Array Value → State → Prop := fun v U => v = av.toArray ∧ am S0 U U.heap
def trp (S0 : Nat) (D : va_G) (cl : List vw_C) (tys : List (ClassId × FieldType)) (av : List Value) (ws : va_W) : Array Value → State → Prop := fun v U => v = av.toArray ∧ va_P D cl ws U.heap ∧ va_K D cl tys U ∧ am S0 U U.heap
def twp (S0 : Nat) (D : va_G) (cl : List vw_C) (tys : List (ClassId × FieldType)) (av : List Value) (sz : Nat) (ws : va_W) : Array Value → State → Prop := fun v U => v = av.toArray ∧ U.heap.size = sz ∧ va_P D cl ws U.heap ∧ va_K D cl tys U ∧ va_D (fun _ => True) ws ∧ am S0 U U.heap
/-- an end that returned (fl = 0), an end that threw (fl = 1) -/
def tq (fl : Int32) (v : Option Value) : Array Value → State → Outcome → State → Prop := fun _ st o t => o = .returned v ∧ t.heap = st.heap ∧ fl = 0
def twq (fl : Int32) (v : Option Value) (D : va_G) (cl : List vw_C) (w1 : va_W) (A : Nat → Prop) : Array Value → State → Outcome → State → Prop := fun _ st o t => o = .returned v ∧ va_P D cl w1 t.heap ∧ va_D A w1 ∧ va_F A st t ∧ fl = 0
def xq (fl : Int32) (cls : String) : String → State → State → Prop := fun E st t => E = cls ∧ fl = 1 ∧ st.heap.size ≤ t.heap.size ∧ ∀ q : Nat, q < st.heap.size → t.heap[q]? = st.heap[q]?
theorem va_S_grow {A : Nat → Prop} {H0 H H1 : Heap} {locs : List Loc} (h : va_S A H0 H locs) (hz : H.size ≤ H1.size) (hk : ∀ q : Nat, q < H.size → H1[q]? = H[q]?) : va_S A H0 H1 locs :=
  ⟨Nat.le_trans h.1 hz, fun q h1 h2 => by rw [hk q (Nat.lt_of_lt_of_le h1 h.1)]; exact h.2.1 q h1 h2, h.2.2⟩
theorem va_P_grow {D : va_G} {cl : List vw_C} {ws : va_W} {H H1 : Heap} (h : va_P D cl ws H) (hk : ∀ q : Nat, q < H.size → H1[q]? = H[q]?) : va_P D cl ws H1 := h.kept (fun k q hq => hk q.1 (h k q hq).lt)
section TQ
variable {p : Program} {l : Launch} {e : Env} {R : Room} {s : State} {m : MethodId} {args : Array Value} {below : List Frame} {meth : Method} {c : Code} {H : Heap} {locs : List Loc} {cells slots : Nat} {Q : State → Prop}
variable {cc : ByteArray} {pc : Nat} {ls : Array Slot} {rest st0 : List Value} {a : Array Value} {D : va_G} {cl : List vw_C} {tys : List (ClassId × FieldType)} {A0 : Nat → Prop} {H0 : Heap} {mc ms S0 : Nat} {fl : Int32} {cls : String}
theorem tp_S {As : List Value} (h : am S0 s H) : PreS s H (tp S0 As) As := ⟨fun a U g mk q => ⟨q.1, am.same (U := U.calling g mk a) rfl q.2⟩, fun U hU hW => ⟨rfl, by rw [hU]; exact h.warm hW⟩⟩
theorem trp_V {As : List Value} {ws : va_W} {b ci : Nat} {q : vw_C} {fs : List Value} (hK : va_K D cl tys s) (hP : va_P D cl ws H) (h : am S0 s H) (hc : cl[ci]? = some q) (he : ws[0]? = some (b, .inr (ci, fs))) : PreV s H q.1 b (trp S0 D cl tys (.ref b :: As) ws) As :=
  ⟨fun a U g mk q => ⟨q.1, q.2.1, va_K.moved (u := U) (U := U.calling g mk a) (Vm.Alike.refl U.vm) q.2.2.1, am.same (U := U.calling g mk a) rfl q.2.2.2⟩, va_recv hK hP hc he, fun U hU hW => ⟨rfl, by rw [hU]; exact hP, va_K.moved hW.alike hK, by rw [hU]; exact h.warm hW⟩⟩
theorem twp_blind {av : List Value} {ws : va_W} {sz : Nat} : FrameBlind (twp S0 D cl tys av sz ws) := fun a U g mk q => ⟨q.1, q.2.1, q.2.2.1, va_K.moved (u := U) (U := U.calling g mk a) (Vm.Alike.refl U.vm) q.2.2.2.1, q.2.2.2.2.1, am.same (U := U.calling g mk a) rfl q.2.2.2.2.2⟩
theorem twp_V {As : List Value} {ws : va_W} {b ci : Nat} {q : vw_C} {fs : List Value} (hK : va_K D cl tys s) (hP : va_P D cl ws H) (hD : va_D A0 ws) (h : am S0 s H) (hc : cl[ci]? = some q) (he : ws[0]? = some (b, .inr (ci, fs))) : PreV s H q.1 b (twp S0 D cl tys (.ref b :: As) H.size ws) As :=
  ⟨twp_blind, va_recv hK hP hc he, fun U hU hW => ⟨rfl, by rw [hU], by rw [hU]; exact hP, va_K.moved hW.alike hK, hD.weaken (fun _ _ _ _ => trivial), by rw [hU]; exact h.warm hW⟩⟩
theorem twp_S {As : List Value} {ws : va_W} (hK : va_K D cl tys s) (hP : va_P D cl ws H) (hD : va_D A0 ws) (h : am S0 s H) : PreS s H (twp S0 D cl tys As H.size ws) As :=
  ⟨twp_blind, fun U hU hW => ⟨rfl, by rw [hU], by rw [hU]; exact hP, va_K.moved hW.alike hK, hD.weaken (fun _ _ _ _ => trivial), by rw [hU]; exact h.warm hW⟩⟩
theorem tq_call {v : Option Value} (hr : vx_Run p l e R s m args below meth c H locs cells slots mc ms (F0 m pc ls st0) rest (tq fl v a) (xq fl cls) (fun _ => False))
    (kx : ∀ (ce : Cell) (q9 : Addr) (H1 : Heap), fl = 1 → H.size ≤ H1.size → (∀ q : Nat, q < H.size → H1[q]? = H[q]?) → H1[q9]? = some ce → ce.vm = .none → s.vm.findClass cls = some ce.cls → vx_W p l e R s m args below meth c H1 locs (cells + mc) (slots + ms) Q (F0 m pc ls rest) q9)
    (kk : ¬ fl = 1 → W p l e R s m args below meth c H locs (cells + mc) (slots + ms) Q (F0 m (pc + 3) ls (v.toList ++ rest))) : W p l e R s m args below meth c H locs cells slots Q (F0 m pc ls st0) := by
  intro T hT X
  rcases hr T hT X with ⟨v', st₀, t, T', L, h0, X', hL, e1, e2, ⟨hv, hh, hf⟩, st⟩ | ⟨q, st₀, t, T', L, E, ce, h0, X', hL, e1, e2, ⟨hE, hf, hz, hk⟩, hce, hcv, hcl, st⟩
  · cases hv
    obtain ⟨t2, a1, b1⟩ := kk (by rw [hf]; decide) T' (by rw [e1, hh, h0]) (Stand.forget X' (fun q h => (hL q h).elim))
    exact ⟨t2, st t2 a1, b1⟩
  · subst hE
    rw [h0] at hz hk
    obtain ⟨t2, a1, b1⟩ := kx ce q T'.heap hf (by rw [e1]; exact hz) (fun q h => by rw [e1]; exact hk q h) (by rw [e1]; exact hce) hcv hcl T' rfl (Stand.forget X' (fun q h => (hL q h).elim))
    exact ⟨t2, st.trans a1, b1⟩
theorem tq_callv (hr : vx_Run p l e R s m args below meth c H locs cells slots mc ms (F0 m pc ls st0) rest (tq fl none a) (xq fl cls) (fun _ => False))
    (kx : ∀ (ce : Cell) (q9 : Addr) (H1 : Heap), fl = 1 → H.size ≤ H1.size → (∀ q : Nat, q < H.size → H1[q]? = H[q]?) → H1[q9]? = some ce → ce.vm = .none → s.vm.findClass cls = some ce.cls → vx_W p l e R s m args below meth c H1 locs (cells + mc) (slots + ms) Q (F0 m pc ls rest) q9)
    (kk : ¬ fl = 1 → W p l e R s m args below meth c H locs (cells + mc) (slots + ms) Q (F0 m (pc + 3) ls rest)) : W p l e R s m args below meth c H locs cells slots Q (F0 m pc ls st0) := tq_call hr kx kk
theorem tq_calli {r : Int32} (hr : vx_Run p l e R s m args below meth c H locs cells slots mc ms (F0 m pc ls st0) rest (tq fl (some (.int r)) a) (xq fl cls) (fun _ => False))
    (kx : ∀ (ce : Cell) (q9 : Addr) (H1 : Heap), fl = 1 → H.size ≤ H1.size → (∀ q : Nat, q < H.size → H1[q]? = H[q]?) → H1[q9]? = some ce → ce.vm = .none → s.vm.findClass cls = some ce.cls → vx_W p l e R s m args below meth c H1 locs (cells + mc) (slots + ms) Q (F0 m pc ls rest) q9)
    (kk : ¬ fl = 1 → W p l e R s m args below meth c H locs (cells + mc) (slots + ms) Q (F0 m (pc + 3) ls (.int r :: rest))) : W p l e R s m args below meth c H locs cells slots Q (F0 m pc ls st0) := tq_call hr kx kk
theorem tq_calll {r : Int64} (hr : vx_Run p l e R s m args below meth c H locs cells slots mc ms (F0 m pc ls st0) rest (tq fl (some (.long r)) a) (xq fl cls) (fun _ => False))
    (kx : ∀ (ce : Cell) (q9 : Addr) (H1 : Heap), fl = 1 → H.size ≤ H1.size → (∀ q : Nat, q < H.size → H1[q]? = H[q]?) → H1[q9]? = some ce → ce.vm = .none → s.vm.findClass cls = some ce.cls → vx_W p l e R s m args below meth c H1 locs (cells + mc) (slots + ms) Q (F0 m pc ls rest) q9)
    (kk : ¬ fl = 1 → W p l e R s m args below meth c H locs (cells + mc) (slots + ms) Q (F0 m (pc + 3) ls (.long r :: rest))) : W p l e R s m args below meth c H locs cells slots Q (F0 m pc ls st0) := tq_call hr kx kk
theorem twq_call {v : Option Value} {ws wc wr w1 w2 : va_W} (hr : vx_Run p l e R s m args below meth c H locs cells slots mc ms (F0 m pc ls st0) rest (twq fl v D cl w1 (va_A wc H.size) a) (xq fl cls) (va_A wc H.size)) (hP : va_P D cl ws H) (hD : va_D A0 ws) (hS : va_S A0 H0 H locs) (hA : ∀ q, H0.size ≤ q → A0 q) (isC isR is2 : List Nat) (hC : isC.map (fun i => ws[i]?) = wc.map some) (hR : isR.map (fun i => ws[i]?) = wr.map some) (hn : va_nd isR = true) (hdis : ∀ i ∈ isR, i ∉ isC) (h2 : is2.map (fun i => (wr ++ w1)[i]?) = w2.map some) (hn2 : va_nd is2 = true)
    (kx : ∀ (ce : Cell) (q9 : Addr) (H1 : Heap) (locs1 : List Loc), fl = 1 → va_P D cl ws H1 → va_S A0 H0 H1 locs1 → H1[q9]? = some ce → ce.vm = .none → s.vm.findClass cls = some ce.cls → vx_W p l e R s m args below meth c H1 locs1 (cells + mc) (slots + ms) Q (F0 m pc ls rest) q9)
    (kk : ∀ (H1 : Heap) (locs1 : List Loc), ¬ fl = 1 → va_P D cl w2 H1 → va_D A0 w2 → va_S A0 H0 H1 locs1 → W p l e R s m args below meth c H1 locs1 (cells + mc) (slots + ms) Q (F0 m (pc + 3) ls (v.toList ++ rest))) : W p l e R s m args below meth c H locs cells slots Q (F0 m pc ls st0) := by
  have hFc := va_free (wc := wc) hD hS hA isC hC
  intro T hT X
  rcases hr T hT X with ⟨v', st₀, t, T', L, h0, X', hL, e1, e2, ⟨hv, hp, hd, hF, hf⟩, st⟩ | ⟨q, st₀, t, T', L, E, ce, h0, X', hL, e1, e2, ⟨hE, hf, hz, hk⟩, hce, hcv, hcl, st⟩
  · cases hv
    obtain ⟨k1, k2, k3⟩ := vx_keep h0 e1 hS (fun q _ h => hFc q h) hFc hL hF
    obtain ⟨j1, j2⟩ := va_join (w1 := w1) (H1 := T'.heap) hP hD isC isR hC hR hn hdis k2 hFc (by rw [e1]; exact hp) hd
    obtain ⟨t2, a1, b1⟩ := kk T'.heap (locs ++ L) (by rw [hf]; decide) (j1.sub is2 (fm_of h2)) (j2.sub is2 hn2 h2) k3 T' rfl X'
    exact ⟨t2, st t2 a1, b1⟩
  · subst hE
    obtain ⟨k1, k2, k3⟩ := vx_keep (A1 := fun _ => False) h0 e1 hS (fun q _ h => h.elim) hFc hL ⟨hz, fun q h _ => hk q h⟩
    obtain ⟨t2, a1, b1⟩ := kx ce q T'.heap (locs ++ L) hf (va_P_grow hP (fun q h => k2 q h (fun z => z))) k3 (by rw [e1]; exact hce) hcv hcl T' rfl X'
    exact ⟨t2, st.trans a1, b1⟩
theorem twq_callv {ws wc wr w1 w2 : va_W} (hr : vx_Run p l e R s m args below meth c H locs cells slots mc ms (F0 m pc ls st0) rest (twq fl none D cl w1 (va_A wc H.size) a) (xq fl cls) (va_A wc H.size)) (hP : va_P D cl ws H) (hD : va_D A0 ws) (hS : va_S A0 H0 H locs) (hA : ∀ q, H0.size ≤ q → A0 q) (isC isR is2 : List Nat) (hC : isC.map (fun i => ws[i]?) = wc.map some) (hR : isR.map (fun i => ws[i]?) = wr.map some) (hn : va_nd isR = true) (hdis : ∀ i ∈ isR, i ∉ isC) (h2 : is2.map (fun i => (wr ++ w1)[i]?) = w2.map some) (hn2 : va_nd is2 = true)
    (kx : ∀ (ce : Cell) (q9 : Addr) (H1 : Heap) (locs1 : List Loc), fl = 1 → va_P D cl ws H1 → va_S A0 H0 H1 locs1 → H1[q9]? = some ce → ce.vm = .none → s.vm.findClass cls = some ce.cls → vx_W p l e R s m args below meth c H1 locs1 (cells + mc) (slots + ms) Q (F0 m pc ls rest) q9)
    (kk : ∀ (H1 : Heap) (locs1 : List Loc), ¬ fl = 1 → va_P D cl w2 H1 → va_D A0 w2 → va_S A0 H0 H1 locs1 → W p l e R s m args below meth c H1 locs1 (cells + mc) (slots + ms) Q (F0 m (pc + 3) ls rest)) : W p l e R s m args below meth c H locs cells slots Q (F0 m pc ls st0) := twq_call hr hP hD hS hA isC isR is2 hC hR hn hdis h2 hn2 kx kk
theorem twq_calli {r : Int32} {ws wc wr w1 w2 : va_W} (hr : vx_Run p l e R s m args below meth c H locs cells slots mc ms (F0 m pc ls st0) rest (twq fl (some (.int r)) D cl w1 (va_A wc H.size) a) (xq fl cls) (va_A wc H.size)) (hP : va_P D cl ws H) (hD : va_D A0 ws) (hS : va_S A0 H0 H locs) (hA : ∀ q, H0.size ≤ q → A0 q) (isC isR is2 : List Nat) (hC : isC.map (fun i => ws[i]?) = wc.map some) (hR : isR.map (fun i => ws[i]?) = wr.map some) (hn : va_nd isR = true) (hdis : ∀ i ∈ isR, i ∉ isC) (h2 : is2.map (fun i => (wr ++ w1)[i]?) = w2.map some) (hn2 : va_nd is2 = true)
    (kx : ∀ (ce : Cell) (q9 : Addr) (H1 : Heap) (locs1 : List Loc), fl = 1 → va_P D cl ws H1 → va_S A0 H0 H1 locs1 → H1[q9]? = some ce → ce.vm = .none → s.vm.findClass cls = some ce.cls → vx_W p l e R s m args below meth c H1 locs1 (cells + mc) (slots + ms) Q (F0 m pc ls rest) q9)
    (kk : ∀ (H1 : Heap) (locs1 : List Loc), ¬ fl = 1 → va_P D cl w2 H1 → va_D A0 w2 → va_S A0 H0 H1 locs1 → W p l e R s m args below meth c H1 locs1 (cells + mc) (slots + ms) Q (F0 m (pc + 3) ls (.int r :: rest))) : W p l e R s m args below meth c H locs cells slots Q (F0 m pc ls st0) := twq_call hr hP hD hS hA isC isR is2 hC hR hn hdis h2 hn2 kx kk
end TQ
/-! 'throw new IllegalArgumentException("..")' in RangeBox, 'throw new ArithmeticException("long overflow")' in Math -/
theorem good_I : ∀ w ∈ Cond.classLink RX2 27 n_IAE :: Cond.initialized n_IAE :: vx_atS RX2 31 n_IAE n_chain, vx_ot w = true := by decide +kernel
theorem bad_I : ∀ w ∈ (vx_atS RX2 31 n_IAE n_chain).filter (fun w => !goodWord w), w ∈ ([.declares y_iR, .declares y_iE, .declares y_iT, .castable n_IAE n_IAE, .castable n_AE n_AE] : List Cond) := by decide +kernel
theorem good_A : ∀ w ∈ Cond.classLink RJ9 109 n_AE :: Cond.initialized n_AE :: vx_atS RJ9 113 n_AE n_chain, vx_ot w = true := by decide +kernel
theorem bad_A : ∀ w ∈ (vx_atS RJ9 113 n_AE n_chain).filter (fun w => !goodWord w), w ∈ ([.declares y_iR, .declares y_iE, .declares y_iT, .castable n_IAE n_IAE, .castable n_AE n_AE] : List Cond) := by decide +kernel
theorem am_decl {S0 : Nat} {s : State} {H : Heap} {args : Array Value} (h : am S0 s H) : ∀ w ∈ ([.declares y_iR, .declares y_iE, .declares y_iT, .castable n_IAE n_IAE, .castable n_AE n_AE] : List Cond), w.before args s = true :=
  vx_c (va_Nw.use rfl h.2.2.1.1) (vx_c (va_Nw.use rfl h.2.2.1.2.1) (vx_c (va_Nw.use rfl h.2.2.1.2.2.1) (vx_c (va_Nw.use rfl h.2.2.1.2.2.2.1) (vx_c (va_Nw.use rfl h.2.2.1.2.2.2.2) vx_n))))
theorem hat_I {S0 : Nat} {s : State} {H : Heap} {args : Array Value} (h : am S0 s H) (h1 : ∀ w ∈ (vx_atS RX2 31 n_IAE n_chain).filter goodWord, w.before args s = true) : ∀ w ∈ vx_atS RX2 31 n_IAE n_chain, w.before args s = true := vx_hat h1 bad_I (am_decl h)
theorem hat_A {S0 : Nat} {s : State} {H : Heap} {args : Array Value} (h : am S0 s H) (h1 : ∀ w ∈ (vx_atS RJ9 113 n_AE n_chain).filter goodWord, w.before args s = true) : ∀ w ∈ vx_atS RJ9 113 n_AE n_chain, w.before args s = true := vx_hat h1 bad_A (am_decl h)
/-- the words that Math's exact functions need to throw, and their catcher -/
def wz_A : List Cond := [Cond.classLink RJ9 109 n_AE, Cond.initialized n_AE, Cond.classLink RX3 61 n_AE] ++ (vx_atS RJ9 113 n_AE n_chain).filter goodWord
theorem wz_A_good : ∀ w ∈ wz_A, goodWord w = true := by decide +kernel
theorem wz_A_tbl : ∀ w ∈ wz_A, w ∈ lw_tbl := by decide +kernel
theorem gz {A B C : List Cond} (hC : ∀ w ∈ C, goodWord w = true) (h : GoodIn A B) : GoodIn (A ++ C) (B ++ C) := fun w hw => by
  rcases List.mem_append.mp hw with h1 | h1
  · exact ⟨List.mem_append_left _ (h w h1).1, (h w h1).2⟩
  · exact ⟨List.mem_append_right _ h1, good_of_word (hC w h1)⟩
theorem gz_S {A B C : List Cond} {own : String} {i : Nat} {y : MethodName} (hC : ∀ w ∈ C, goodWord w = true) (h : GoodIn A (va_wsS own i y B)) : GoodIn (A ++ C) (va_wsS own i y (B ++ C)) := by
  have h2 := gz hC h
  unfold va_wsS at h2 ⊢
  rw [← List.append_assoc]
  exact h2
theorem gz_V {A B C : List Cond} {own cls : String} {i : Nat} {y : MethodName} (hC : ∀ w ∈ C, goodWord w = true) (h : GoodIn A (wsV own i cls y B)) : GoodIn (A ++ C) (wsV own i cls y (B ++ C)) := by
  have h2 := gz hC h
  unfold wsV at h2 ⊢
  rw [← List.append_assoc]
  exact h2
theorem gz_l {A B C : List Cond} (h : GoodIn A B) : GoodIn (A ++ C) B := fun w hw => ⟨List.mem_append_left _ (h w hw).1, (h w hw).2⟩
/-- a body that returns or throws, of a method that no entry runs in its place -/
theorem zx_ofW {l : Launch} {y : MethodName} {ws ws' : List Cond} {rm : Room} {Pc : Array Value → State → Prop} {Qc : Array Value → State → Outcome → State → Prop} {XC : String → State → State → Prop} {mc ms : Nat} {free : Addr → Prop} {cc : ByteArray} {maxL : Nat} {ret : Option FieldType}
    (hy : plainFor y = true) (hw : ws = Cond.code y cc maxL ret :: ws')
    (body : ∀ p e s m args below meth c s₁, BodyLoose p l y (headSpec ws rm) cc maxL ret e s m args below meth c s₁ → c.maxLocals = maxL → (∀ x ∈ c.exceptionTable.toList, False) → Pc args s →
      W p l e (headSpec ws rm).room s m args below meth c s.heap [] 0 0 (vx_MQ below Qc XC args s mc ms free) (entryFrame m args maxL)) : vx_Met l y ws rm Pc Qc XC mc ms free := by
  refine MetFree.of_bodySF (code := cc) (maxLocals := maxL) (ret := ret) hy ?_ ?_
  · intro args s m h hn
    obtain ⟨meth, c, h1, h2, h3, h4, h5, h6, -, -⟩ := Cond.code_spec hn (atoms_spec (ws := ws) h _ (by rw [hw]; exact List.mem_cons_self))
    exact ⟨meth, c, h1, h2, h3, h4, h5, h6⟩
  · intro p e s m args below meth c s₁ B hml hP _
    have hh0 : s₁.heap = s.heap := by rw [B.state]; rfl
    have ht : ∀ x ∈ c.exceptionTable.toList, False := by
      obtain ⟨meth9, c9, h1, h2, -, -, -, -, h7, -⟩ := Cond.code_spec B.named (atoms_spec (ws := ws) B.pre _ (by rw [hw]; exact List.mem_cons_self))
      cases Option.some.inj (h1.symm.trans B.method)
      cases Option.some.inj (h2.symm.trans (Stand.of_body B).code)
      intro x hx
      rw [Array.isEmpty_iff.mp h7] at hx
      cases hx
    obtain ⟨t, a1, o, b1, b2, b3⟩ := body p e s m args below meth c s₁ B hml ht hP s₁ hh0 (Stand.of_body B)
    exact ⟨t, o, a1, b1, b2, b3⟩
