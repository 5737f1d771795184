/-! the loop -/
set_option maxHeartbeats 4000000 in
set_option maxRecDepth 100000 in
theorem law_loop {p : Program} {l : Launch} {e : Env} {s : State} {m : MethodId} {below : List Frame} {meth : Method} {c : Code} (hst : l.stackTraces = false) (hx : p.tables.exec = Jvm.exec) (hb : c.code = code) (hml : c.maxLocals = 8) (hown : s.vm.findClass RL = some m.cls) {b L : Nat} {xs : Nat → Int32} (hts : ∀ w ∈ lw_tbl, w.before #[Value.ref b] s = true) (hX : va_X b L xs s s.heap) (hbl : b < s.heap.size) {A : Nat → Prop} {S0 : Nat} (hA : ∀ q : Nat, s.heap.size ≤ q → A q) (hS1 : ∀ q, A q → S0 ≤ q) (hbA : ¬ A b) (ham : am S0 s s.heap) {dC : Nat → ClassId} {dI : Nat → Nat → Nat} {h0 q1 q2 q3 g0 r1 r2 o0 : Nat} {cA cB cC cD cO : ClassId} (hK : va_K (dC, dI) vwCl [(cA, .long), (cB, .long), (cC, .long), (cD, .long), (cO, .long)] s) (hL : L ≤ 3584) (hr : meth.sig.returnType = ret) (hlocks : meth.locks = false) (hAs : ∀ q, A q → s.heap.size ≤ q) : ∀ n i, i ≤ L → L + 1 ≤ i + n → lwK p l e s m below meth c (dC, dI) A b h0 q1 q2 q3 g0 r1 r2 o0 cA cB cC cD cO n i := by
  intro n
  induction n with
  | zero =>
    intro i h1 h2
    exact absurd h2 (by omega)
  | succ n ih =>
    intro i h1 h2
    intro f0 f1 f2 f3 f4 f5 th fa fb ft xl xh yl yh lo hi ou kc ks H locs ls hok hkc hks hP hD hS hl
    refine lv_iload hx hb dL_law_23 (lv_at hl 4 rfl) ?_
    refine lv_aload_n hx hb dL_law_25 rfl (lv_at hl 0 rfl) ?_
    refine va_slen hx hb hX hbl hbA hS dL_law_26 ?_
    refine lv_bipush (v := (7 : Int32)) hx hb dL_law_27 (by decide) ?_
    refine lv_isub hx hb dL_law_29 ?_
    refine lv_icmp_gt (tgt := 863) hx hb dL_law_30 (by decide) (fun cx => ?_) (fun cx => ?_)
    · refine lv_iconst (v := 1) hx hb dL_law_863 (by decide) ?_
      refine va_forget (fun q hq => hAs _ (hS.2.2 q hq)) ?_
      refine W.widen (k := 601024) (n := 7293034) (by omega) (by omega) ?_
      exact lw_ret hx hb hr hlocks dL_law_864
    · have h7 : i + 7 ≤ L := lw_more hL h1 cx
      have ih := ih (i + 7) h7 (by omega)
      refine lv_aload_n hx hb dL_law_33 rfl (lv_at hl 0 rfl) ?_
      refine lv_iload hx hb dL_law_34 (lv_at hl 4 rfl) ?_
      obtain ⟨a0, ea0⟩ : ∃ y : Int32, y = xs (nI i).toNatClampNeg := ⟨_, rfl⟩
      refine lw_sld hx hb hX hbl hbA hS (vp_in_nI (by omega) (by omega)) ea0 dL_law_36 ?_
      refine lv_bipush (v := (7 : Int32)) hx hb dL_law_37 (by decide) ?_
      refine lv_iand hx hb dL_law_39 ?_
      by_cases c0 : a0 &&& (7 : Int32) = (0 : Int32)
      · refine lv_tableIn (off := 44) (tgt := 84) hx hb dL_law_40 (by rw [c0]; decide) (by rw [c0]; decide) (by rw [c0]; decide) (by decide) ?_
        exact law_put hst hx hb hml hown hts hX hbl hA hS1 hbA ham hK hL h7 ih hok hkc hks hP hD hS hl
      by_cases c1 : a0 &&& (7 : Int32) = (1 : Int32)
      · refine lv_tableIn (off := 168) (tgt := 208) hx hb dL_law_40 (by rw [c1]; decide) (by rw [c1]; decide) (by rw [c1]; decide) (by decide) ?_
        exact law_work hst hx hb hml hown hts hX hbl hA hS1 hbA ham hK hL h7 ih hok hkc hks hP hD hS hl
      by_cases c2 : a0 &&& (7 : Int32) = (2 : Int32)
      · refine lv_tableIn (off := 268) (tgt := 308) hx hb dL_law_40 (by rw [c2]; decide) (by rw [c2]; decide) (by rw [c2]; decide) (by decide) ?_
        exact law_exact hst hx hb hml hown hts hX hbl hA hS1 hbA ham hK hL h7 ih hok hkc hks hP hD hS hl
      by_cases c3 : a0 &&& (7 : Int32) = (3 : Int32)
      · refine lv_tableIn (off := 441) (tgt := 481) hx hb dL_law_40 (by rw [c3]; decide) (by rw [c3]; decide) (by rw [c3]; decide) (by decide) ?_
        exact law_cut hst hx hb hml hown hts hX hbl hA hS1 hbA ham hK hL h7 ih hok hkc hks hP hD hS hl
      by_cases c4 : a0 &&& (7 : Int32) = (4 : Int32)
      · refine lv_tableIn (off := 556) (tgt := 596) hx hb dL_law_40 (by rw [c4]; decide) (by rw [c4]; decide) (by rw [c4]; decide) (by decide) ?_
        exact law_holds hst hx hb hml hown hts hX hbl hA hS1 hbA ham hK hL h7 ih hok hkc hks hP hD hS hl
      by_cases c5 : a0 &&& (7 : Int32) = (5 : Int32)
      · refine lv_tableIn (off := 707) (tgt := 747) hx hb dL_law_40 (by rw [c5]; decide) (by rw [c5]; decide) (by rw [c5]; decide) (by decide) ?_
        exact law_low hst hx hb hml hown hts hX hbl hA hS1 hbA ham hK hL h7 ih hok hkc hks hP hD hS hl
      by_cases c6 : a0 &&& (7 : Int32) = (6 : Int32)
      · refine lv_tableIn (off := 762) (tgt := 802) hx hb dL_law_40 (by rw [c6]; decide) (by rw [c6]; decide) (by rw [c6]; decide) (by decide) ?_
        exact law_high hst hx hb hml hown hts hX hbl hA hS1 hbA ham hK hL h7 ih hok hkc hks hP hD hS hl
      refine lv_tableOut (tgt := 857) hx hb dL_law_40 (by have h10 := lv_neT c0 (a := 0) rfl; have h11 := lv_neT c1 (a := 1) rfl; have h12 := lv_neT c2 (a := 2) rfl; have h13 := lv_neT c3 (a := 3) rfl; have h14 := lv_neT c4 (a := 4) rfl; have h15 := lv_neT c5 (a := 5) rfl; have h16 := lv_neT c6 (a := 6) rfl; omega) (by decide) ?_
      refine lv_iinc (v := nI (i + 7)) (lv' := [(4, .int (nI (i + 7))), (0, .ref b), (1, .ref h0), (2, .ref g0), (3, .ref o0)]) hx hb dL_law_857 hl (k := 4) rfl (lw_i7 i) (by decide) rfl (fun ls hl => ?_)
      refine lv_goto (tgt := 23) hx hb dL_law_860 (by decide) ?_
      exact ih _ _ _ _ _ _ _ _ _ _ _ _ _ _ _ _ _ _ _ _ _ _ hok (by omega) (by omega) hP hD hS (lv_sub hl [1, 2, 3, 4, 0] rfl)
