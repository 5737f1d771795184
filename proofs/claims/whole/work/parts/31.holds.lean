set_option maxHeartbeats 4000000 in
set_option maxRecDepth 100000 in
theorem law_holds {p : Program} {l : Launch} {e : Env} {s : State} {m : MethodId} {below : List Frame} {meth : Method} {c : Code} (hst : l.stackTraces = false) (hx : p.tables.exec = Jvm.exec) (hb : c.code = code) (hml : c.maxLocals = 8) (hown : s.vm.findClass RL = some m.cls) {b L : Nat} {xs : Nat → Int32} (hts : ∀ w ∈ lw_tbl, w.before #[Value.ref b] s = true) (hX : va_X b L xs s s.heap) (hbl : b < s.heap.size) {A : Nat → Prop} {S0 : Nat} (hA : ∀ q : Nat, s.heap.size ≤ q → A q) (hS1 : ∀ q, A q → S0 ≤ q) (hbA : ¬ A b) (ham : am S0 s s.heap) {dC : Nat → ClassId} {dI : Nat → Nat → Nat} {h0 q1 q2 q3 g0 r1 r2 o0 : Nat} {cA cB cC cD cO : ClassId} (hK : va_K (dC, dI) vwCl [(cA, .long), (cB, .long), (cC, .long), (cD, .long), (cO, .long)] s) (hL : L ≤ 3584) {n i : Nat} (hi7 : i + 7 ≤ L) (ih : lwK p l e s m below meth c (dC, dI) A b h0 q1 q2 q3 g0 r1 r2 o0 cA cB cC cD cO n (i + 7)) {f0 : Int64} {f1 : Int64} {f2 : Int64} {f3 : Int64} {f4 : Int64} {f5 : Int64} {th : Int32} {fa : Int64} {fb : Int64} {ft : Int32} {xl : Int64} {xh : Int64} {yl : Int64} {yh : Int64} {lo : Nat → Int64} {hi : Nat → Int64} {ou : Nat → Int64} {kc : Nat} {ks : Nat} {H : Heap} {locs : List Loc} {ls : Array Slot} (hok : okR lo hi) (hkc : kc + 8 * (n + 1) ≤ 601024) (hks : ks + 48 * (n + 1) ≤ 7293034) (hP : va_P (dC, dI) vwCl [(h0, .inr (1, [.ref q1, .ref q2, .ref q3])), (q1, .inl (cA, 16, .inr (.inl lo))), (q2, .inl (cB, 16, .inr (.inl hi))), (q3, .inr (0, [.long f0, .long f1, .long f2, .long f3, .long f4, .long f5])), (g0, .inr (2, [.int th, .ref r1, .ref r2, .long fa, .long fb, .int ft, .long xl, .long xh, .long yl, .long yh])), (r1, .inl (cC, 16, .inr (.inl lo))), (r2, .inl (cD, 16, .inr (.inl hi))), (o0, .inl (cO, 1, .inr (.inl ou)))] H) (hD : va_D A [(h0, .inr (1, [.ref q1, .ref q2, .ref q3])), (q1, .inl (cA, 16, .inr (.inl lo))), (q2, .inl (cB, 16, .inr (.inl hi))), (q3, .inr (0, [.long f0, .long f1, .long f2, .long f3, .long f4, .long f5])), (g0, .inr (2, [.int th, .ref r1, .ref r2, .long fa, .long fb, .int ft, .long xl, .long xh, .long yl, .long yh])), (r1, .inl (cC, 16, .inr (.inl lo))), (r2, .inl (cD, 16, .inr (.inl hi))), (o0, .inl (cO, 1, .inr (.inl ou)))]) (hS : va_S A s.heap H locs) (hl : lv_has ls 8 [(0, .ref b), (1, .ref h0), (2, .ref g0), (3, .ref o0), (4, .int (nI i))]) : W p l e room_1 s m #[Value.ref b] below meth c H locs kc ks (lw_Z below #[Value.ref b] s) (F0 m 596 ls []) := by
  obtain ⟨a1, ea1⟩ : ∃ y : Int32, y = xs (nI i + (1 : Int32)).toNatClampNeg := ⟨_, rfl⟩
  obtain ⟨a2, ea2⟩ : ∃ y : Int32, y = xs (nI i + (2 : Int32)).toNatClampNeg := ⟨_, rfl⟩
  obtain ⟨a3, ea3⟩ : ∃ y : Int32, y = xs (nI i + (3 : Int32)).toNatClampNeg := ⟨_, rfl⟩
  obtain ⟨a4, ea4⟩ : ∃ y : Int32, y = xs (nI i + (4 : Int32)).toNatClampNeg := ⟨_, rfl⟩
  obtain ⟨a5, ea5⟩ : ∃ y : Int32, y = xs (nI i + (5 : Int32)).toNatClampNeg := ⟨_, rfl⟩
  refine lv_aload_n hx hb dL_law_596 rfl (lv_at hl 1 rfl) ?_
  refine lv_aload_n hx hb dL_law_597 rfl (lv_at hl 0 rfl) ?_
  refine lv_iload hx hb dL_law_598 (lv_at hl 4 rfl) ?_
  refine lv_iconst (v := (1 : Int32)) hx hb dL_law_600 (by decide) ?_
  refine lv_iadd hx hb dL_law_601 ?_
  refine lw_sld hx hb hX hbl hbA hS (lw_in hi7 hL (j := 1) (by decide)) ea1 dL_law_602 ?_
  refine lv_aload_n hx hb dL_law_603 rfl (lv_at hl 0 rfl) ?_
  refine lv_iload hx hb dL_law_604 (lv_at hl 4 rfl) ?_
  refine lv_iconst (v := (2 : Int32)) hx hb dL_law_606 (by decide) ?_
  refine lv_iadd hx hb dL_law_607 ?_
  refine lw_sld hx hb hX hbl hbA hS (lw_in hi7 hL (j := 2) (by decide)) ea2 dL_law_608 ?_
  refine lv_i2l (v := a2.toInt64) hx hb dL_law_609 rfl ?_
  refine lv_bipush (v := (32 : Int32)) hx hb dL_law_610 (by decide) ?_
  refine lv_lshl (v := pl_shl a2.toInt64 (32 : Int32)) hx hb dL_law_612 rfl ?_
  refine lv_aload_n hx hb dL_law_613 rfl (lv_at hl 0 rfl) ?_
  refine lv_iload hx hb dL_law_614 (lv_at hl 4 rfl) ?_
  refine lv_iconst (v := (3 : Int32)) hx hb dL_law_616 (by decide) ?_
  refine lv_iadd hx hb dL_law_617 ?_
  refine lw_sld hx hb hX hbl hbA hS (lw_in hi7 hL (j := 3) (by decide)) ea3 dL_law_618 ?_
  refine lv_i2l (v := a3.toInt64) hx hb dL_law_619 rfl ?_
  refine lv_ldc2 (v := (4294967295 : Int64)) hx hb hown (hts _ in_c42) dL_law_620 ?_
  refine lv_land hx hb dL_law_623 ?_
  refine lv_lor hx hb dL_law_624 ?_
  refine lv_aload_n hx hb dL_law_625 rfl (lv_at hl 0 rfl) ?_
  refine lv_iload hx hb dL_law_626 (lv_at hl 4 rfl) ?_
  refine lv_iconst (v := (4 : Int32)) hx hb dL_law_628 (by decide) ?_
  refine lv_iadd hx hb dL_law_629 ?_
  refine lw_sld hx hb hX hbl hbA hS (lw_in hi7 hL (j := 4) (by decide)) ea4 dL_law_630 ?_
  refine lv_i2l (v := a4.toInt64) hx hb dL_law_631 rfl ?_
  refine lv_bipush (v := (32 : Int32)) hx hb dL_law_632 (by decide) ?_
  refine lv_lshl (v := pl_shl a4.toInt64 (32 : Int32)) hx hb dL_law_634 rfl ?_
  refine lv_aload_n hx hb dL_law_635 rfl (lv_at hl 0 rfl) ?_
  refine lv_iload hx hb dL_law_636 (lv_at hl 4 rfl) ?_
  refine lv_iconst (v := (5 : Int32)) hx hb dL_law_638 (by decide) ?_
  refine lv_iadd hx hb dL_law_639 ?_
  refine lw_sld hx hb hX hbl hbA hS (lw_in hi7 hL (j := 5) (by decide)) ea5 dL_law_640 ?_
  refine lv_i2l (v := a5.toInt64) hx hb dL_law_641 rfl ?_
  refine lv_ldc2 (v := (4294967295 : Int64)) hx hb hown (hts _ in_c42) dL_law_642 ?_
  refine lv_land hx hb dL_law_645 ?_
  refine lv_lor hx hb dL_law_646 ?_
  refine lv_aload_n hx hb dL_law_647 rfl (lv_at hl 3 rfl) ?_
  refine wq_calli (wc := [(h0, .inr (1, [.ref q1, .ref q2, .ref q3])), (o0, .inl (cO, 1, .inr (.inl ou)))]) (wr := [(q1, .inl (cA, 16, .inr (.inl lo))), (q2, .inl (cB, 16, .inr (.inl hi))), (q3, .inr (0, [.long f0, .long f1, .long f2, .long f3, .long f4, .long f5])), (g0, .inr (2, [.int th, .ref r1, .ref r2, .long fa, .long fb, .int ft, .long xl, .long xh, .long yl, .long yh])), (r1, .inl (cC, 16, .inr (.inl lo))), (r2, .inl (cD, 16, .inr (.inl hi)))]) (w2 := [(h0, .inr (1, [.ref q1, .ref q2, .ref q3])), (q1, .inl (cA, 16, .inr (.inl lo))), (q2, .inl (cB, 16, .inr (.inl hi))), (q3, .inr (0, [.long f0, .long f1, .long f2, .long f3, .long f4, .long f5])), (g0, .inr (2, [.int th, .ref r1, .ref r2, .long fa, .long fb, .int ft, .long xl, .long xh, .long yl, .long yh])), (r1, .inl (cC, 16, .inr (.inl lo))), (r2, .inl (cD, 16, .inr (.inl hi))), (o0, .inl (cO, 1, .inr (.inl ((s_L_holds ou a1 ((pl_shl a2.toInt64 (32 : Int32)) ||| (a3.toInt64 &&& (4294967295 : Int64))) ((pl_shl a4.toInt64 (32 : Int32)) ||| (a5.toInt64 &&& (4294967295 : Int64)))).2))))]) (vx_runSW (As := [.ref h0, .int a1, .long ((pl_shl a2.toInt64 (32 : Int32)) ||| (a3.toInt64 &&& (4294967295 : Int64))), .long ((pl_shl a4.toInt64 (32 : Int32)) ||| (a5.toInt64 &&& (4294967295 : Int64))), .ref o0]) (rest := []) ⟨hx, hb, hml, hown, hts⟩ (c_L_holds l S0 hst dC dI cO h0 o0 q1 q2 q3 H.size ou a1 ((pl_shl a2.toInt64 (32 : Int32)) ||| (a3.toInt64 &&& (4294967295 : Int64))) ((pl_shl a4.toInt64 (32 : Int32)) ||| (a5.toInt64 &&& (4294967295 : Int64)))) (vx_cwSW 5 hts gl_L_holds rfl rfl rfl ydS_L_holds ⟨Nat.le_of_ble_eq_true rfl, Nat.le_of_ble_eq_true rfl⟩) (twp_S (hK.sub (tys' := [(cO, .long)]) [4] rfl) (hP.sub (ws' := [(h0, .inr (1, [.ref q1, .ref q2, .ref q3])), (o0, .inl (cO, 1, .inr (.inl ou)))]) [0, 7] rfl) (hD.sub (ws' := [(h0, .inr (1, [.ref q1, .ref q2, .ref q3])), (o0, .inl (cO, 1, .inr (.inl ou)))]) [0, 7] (by decide) rfl) (ham.kept (fun a h1 h2 => hS.2.1 a h1 (fun h3 => h2 (hS1 a h3))))) rfl rfl hl.1 rfl (lv_room (Nat.le_of_ble_eq_true rfl)) dL_law_648 ⟨(by omega : kc + 1 ≤ 601024), (by omega : ks + 6 ≤ 7293034)⟩) hP hD hS hA [0, 7] [1, 2, 3, 4, 5, 6] [6, 0, 1, 2, 3, 4, 5, 7] rfl rfl rfl (by decide) rfl rfl (fun H locs hP hD hS => ?_)
  refine lv_istore (lv' := [(5, .int ((s_L_holds ou a1 ((pl_shl a2.toInt64 (32 : Int32)) ||| (a3.toInt64 &&& (4294967295 : Int64))) ((pl_shl a4.toInt64 (32 : Int32)) ||| (a5.toInt64 &&& (4294967295 : Int64)))).1)), (0, .ref b), (1, .ref h0), (2, .ref g0), (3, .ref o0), (4, .int (nI i))]) hx hb dL_law_651 hl (by decide) rfl (fun ls hl => ?_)
  refine lv_aload_n hx hb dL_law_653 rfl (lv_at hl 3 rfl) ?_
  refine lv_aload_n hx hb dL_law_654 rfl (lv_at hl 1 rfl) ?_
  refine lv_iload hx hb dL_law_655 (lv_at hl 5 rfl) ?_
  refine lv_iconst (v := (1 : Int32)) hx hb dL_law_657 (by decide) ?_
  refine lv_iadd hx hb dL_law_658 ?_
  refine lw_sld hx hb hX hbl hbA hS (lw_in hi7 hL (j := 1) (by decide)) ea1 dL_law_659 ?_
  refine lv_aload_n hx hb dL_law_660 rfl (lv_at hl 1 rfl) ?_
  refine lv_iload hx hb dL_law_661 (lv_at hl 5 rfl) ?_
  refine lv_iconst (v := (2 : Int32)) hx hb dL_law_663 (by decide) ?_
  refine lv_iadd hx hb dL_law_664 ?_
  refine lw_sld hx hb hX hbl hbA hS (lw_in hi7 hL (j := 2) (by decide)) ea2 dL_law_665 ?_
  refine lv_i2l (v := a2.toInt64) hx hb dL_law_666 rfl ?_
  refine lv_bipush (v := (32 : Int32)) hx hb dL_law_667 (by decide) ?_
  refine lv_lshl (v := pl_shl a2.toInt64 (32 : Int32)) hx hb dL_law_669 rfl ?_
  refine lv_aload_n hx hb dL_law_670 rfl (lv_at hl 1 rfl) ?_
  refine lv_iload hx hb dL_law_671 (lv_at hl 5 rfl) ?_
  refine lv_iconst (v := (3 : Int32)) hx hb dL_law_673 (by decide) ?_
  refine lv_iadd hx hb dL_law_674 ?_
  refine lw_sld hx hb hX hbl hbA hS (lw_in hi7 hL (j := 3) (by decide)) ea3 dL_law_675 ?_
  refine lv_i2l (v := a3.toInt64) hx hb dL_law_676 rfl ?_
  refine lv_ldc2 (v := (4294967295 : Int64)) hx hb hown (hts _ in_c42) dL_law_677 ?_
  refine lv_land hx hb dL_law_680 ?_
  refine lv_lor hx hb dL_law_681 ?_
  refine lv_aload_n hx hb dL_law_682 rfl (lv_at hl 1 rfl) ?_
  refine lv_iload hx hb dL_law_683 (lv_at hl 5 rfl) ?_
  refine lv_iconst (v := (4 : Int32)) hx hb dL_law_685 (by decide) ?_
  refine lv_iadd hx hb dL_law_686 ?_
  refine lw_sld hx hb hX hbl hbA hS (lw_in hi7 hL (j := 4) (by decide)) ea4 dL_law_687 ?_
  refine lv_i2l (v := a4.toInt64) hx hb dL_law_688 rfl ?_
  refine lv_bipush (v := (32 : Int32)) hx hb dL_law_689 (by decide) ?_
  refine lv_lshl (v := pl_shl a4.toInt64 (32 : Int32)) hx hb dL_law_691 rfl ?_
  refine lv_aload_n hx hb dL_law_692 rfl (lv_at hl 1 rfl) ?_
  refine lv_iload hx hb dL_law_693 (lv_at hl 5 rfl) ?_
  refine lv_iconst (v := (5 : Int32)) hx hb dL_law_695 (by decide) ?_
  refine lv_iadd hx hb dL_law_696 ?_
  refine lw_sld hx hb hX hbl hbA hS (lw_in hi7 hL (j := 5) (by decide)) ea5 dL_law_697 ?_
  refine lv_i2l (v := a5.toInt64) hx hb dL_law_698 rfl ?_
  refine lv_ldc2 (v := (4294967295 : Int64)) hx hb hown (hts _ in_c42) dL_law_699 ?_
  refine lv_land hx hb dL_law_702 ?_
  refine lv_lor hx hb dL_law_703 ?_
  refine wq_calli (wc := [(g0, .inr (2, [.int th, .ref r1, .ref r2, .long fa, .long fb, .int ft, .long xl, .long xh, .long yl, .long yh])), (r1, .inl (cC, 16, .inr (.inl lo))), (r2, .inl (cD, 16, .inr (.inl hi)))]) (wr := [(h0, .inr (1, [.ref q1, .ref q2, .ref q3])), (q1, .inl (cA, 16, .inr (.inl lo))), (q2, .inl (cB, 16, .inr (.inl hi))), (q3, .inr (0, [.long f0, .long f1, .long f2, .long f3, .long f4, .long f5])), (o0, .inl (cO, 1, .inr (.inl ((s_L_holds ou a1 ((pl_shl a2.toInt64 (32 : Int32)) ||| (a3.toInt64 &&& (4294967295 : Int64))) ((pl_shl a4.toInt64 (32 : Int32)) ||| (a5.toInt64 &&& (4294967295 : Int64)))).2))))]) (w2 := [(h0, .inr (1, [.ref q1, .ref q2, .ref q3])), (q1, .inl (cA, 16, .inr (.inl lo))), (q2, .inl (cB, 16, .inr (.inl hi))), (q3, .inr (0, [.long f0, .long f1, .long f2, .long f3, .long f4, .long f5])), (g0, .inr (2, [.int ((s_X3_holds_ a1 ((pl_shl a2.toInt64 (32 : Int32)) ||| (a3.toInt64 &&& (4294967295 : Int64))) ((pl_shl a4.toInt64 (32 : Int32)) ||| (a5.toInt64 &&& (4294967295 : Int64)))).2), .ref r1, .ref r2, .long fa, .long fb, .int ft, .long xl, .long xh, .long yl, .long yh])), (r1, .inl (cC, 16, .inr (.inl lo))), (r2, .inl (cD, 16, .inr (.inl hi))), (o0, .inl (cO, 1, .inr (.inl ((s_L_holds ou a1 ((pl_shl a2.toInt64 (32 : Int32)) ||| (a3.toInt64 &&& (4294967295 : Int64))) ((pl_shl a4.toInt64 (32 : Int32)) ||| (a5.toInt64 &&& (4294967295 : Int64)))).2))))]) (va_runV (As := [.int a1, .long ((pl_shl a2.toInt64 (32 : Int32)) ||| (a3.toInt64 &&& (4294967295 : Int64))), .long ((pl_shl a4.toInt64 (32 : Int32)) ||| (a5.toInt64 &&& (4294967295 : Int64)))]) (rest := []) ⟨hx, hb, hml, hown, hts⟩ (c_X3_holds_ l dC dI cC cD g0 r1 r2 H.size th fa fb ft xl xh yl yh lo hi a1 ((pl_shl a2.toInt64 (32 : Int32)) ||| (a3.toInt64 &&& (4294967295 : Int64))) ((pl_shl a4.toInt64 (32 : Int32)) ||| (a5.toInt64 &&& (4294967295 : Int64)))) (cwV 3 hts gl_X3_holds_ rfl rfl rfl ydV_X3_holds_ ⟨Nat.le_of_ble_eq_true rfl, Nat.le_of_ble_eq_true rfl⟩) (wp_V (hK.sub (tys' := [(cC, .long), (cD, .long)]) [2, 3] rfl) (hP.sub (ws' := [(g0, .inr (2, [.int th, .ref r1, .ref r2, .long fa, .long fb, .int ft, .long xl, .long xh, .long yl, .long yh])), (r1, .inl (cC, 16, .inr (.inl lo))), (r2, .inl (cD, 16, .inr (.inl hi)))]) [4, 5, 6] rfl) (hD.sub (ws' := [(g0, .inr (2, [.int th, .ref r1, .ref r2, .long fa, .long fb, .int ft, .long xl, .long xh, .long yl, .long yh])), (r1, .inl (cC, 16, .inr (.inl lo))), (r2, .inl (cD, 16, .inr (.inl hi)))]) [4, 5, 6] (by decide) rfl)  rfl rfl) rfl rfl hl.1 rfl (lv_room (Nat.le_of_ble_eq_true rfl)) dL_law_704 ⟨(by omega : kc + 1 + 0 ≤ 601024), (by omega : ks + 6 + 0 ≤ 7293034)⟩) hP hD hS hA [4, 5, 6] [0, 1, 2, 3, 7] [0, 1, 2, 3, 5, 6, 7, 4] rfl rfl rfl (by decide) rfl rfl (fun H locs hP hD hS => ?_)
  refine lv_istore (lv' := [(6, .int ((s_X3_holds_ a1 ((pl_shl a2.toInt64 (32 : Int32)) ||| (a3.toInt64 &&& (4294967295 : Int64))) ((pl_shl a4.toInt64 (32 : Int32)) ||| (a5.toInt64 &&& (4294967295 : Int64)))).1)), (5, .int ((s_L_holds ou a1 ((pl_shl a2.toInt64 (32 : Int32)) ||| (a3.toInt64 &&& (4294967295 : Int64))) ((pl_shl a4.toInt64 (32 : Int32)) ||| (a5.toInt64 &&& (4294967295 : Int64)))).1)), (0, .ref b), (1, .ref h0), (2, .ref g0), (3, .ref o0), (4, .int (nI i))]) hx hb dL_law_707 hl (by decide) rfl (fun ls hl => ?_)
  refine lv_aload_n hx hb dL_law_709 rfl (lv_at hl 4 rfl) ?_
  refine pq_calli (va_runV (As := []) (rest := []) ⟨hx, hb, hml, hown, hts⟩ (c_X3_thrown l dC dI g0 r1 r2 ((s_X3_holds_ a1 ((pl_shl a2.toInt64 (32 : Int32)) ||| (a3.toInt64 &&& (4294967295 : Int64))) ((pl_shl a4.toInt64 (32 : Int32)) ||| (a5.toInt64 &&& (4294967295 : Int64)))).2) fa fb ft xl xh yl yh) (cwV 0 hts gl_X3_thrown rfl rfl rfl ydV_X3_thrown ⟨Nat.le_of_ble_eq_true rfl, Nat.le_of_ble_eq_true rfl⟩) (rp_V (hK.sub (tys' := []) [] rfl) (hP.sub (ws' := [(g0, .inr (2, [.int ((s_X3_holds_ a1 ((pl_shl a2.toInt64 (32 : Int32)) ||| (a3.toInt64 &&& (4294967295 : Int64))) ((pl_shl a4.toInt64 (32 : Int32)) ||| (a5.toInt64 &&& (4294967295 : Int64)))).2), .ref r1, .ref r2, .long fa, .long fb, .int ft, .long xl, .long xh, .long yl, .long yh]))]) [4] rfl)  rfl rfl) rfl rfl hl.1 rfl (lv_room (Nat.le_of_ble_eq_true rfl)) dL_law_710 ⟨(by omega : kc + 1 + 0 + 0 ≤ 601024), (by omega : ks + 6 + 0 + 0 ≤ 7293034)⟩) ?_
  refine lv_iload hx hb dL_law_713 (lv_at hl 1 rfl) ?_
  refine lv_icmp_eq (tgt := 720) hx hb dL_law_715 (by decide) (fun _ => ?_) (fun h => absurd ((L_holds_eq ou a1 ((pl_shl a2.toInt64 (32 : Int32)) ||| (a3.toInt64 &&& (4294967295 : Int64))) ((pl_shl a4.toInt64 (32 : Int32)) ||| (a5.toInt64 &&& (4294967295 : Int64)))).1) h)
  refine lv_iload hx hb dL_law_720 (lv_at hl 1 rfl) ?_
  refine lv_if_ne (tgt := 744) hx hb dL_law_722 (by decide) (fun c1 => ?_) (fun c1 => ?_)
  · refine lv_goto (tgt := 857) hx hb dL_law_744 (by decide) ?_
    refine lv_iinc (v := nI (i + 7)) (lv' := [(4, .int (nI (i + 7))), (6, .int ((s_X3_holds_ a1 ((pl_shl a2.toInt64 (32 : Int32)) ||| (a3.toInt64 &&& (4294967295 : Int64))) ((pl_shl a4.toInt64 (32 : Int32)) ||| (a5.toInt64 &&& (4294967295 : Int64)))).1)), (5, .int ((s_L_holds ou a1 ((pl_shl a2.toInt64 (32 : Int32)) ||| (a3.toInt64 &&& (4294967295 : Int64))) ((pl_shl a4.toInt64 (32 : Int32)) ||| (a5.toInt64 &&& (4294967295 : Int64)))).1)), (0, .ref b), (1, .ref h0), (2, .ref g0), (3, .ref o0)]) hx hb dL_law_857 hl (k := 6) rfl (lw_i7 i) (by decide) rfl (fun ls hl => ?_)
    refine lv_goto (tgt := 23) hx hb dL_law_860 (by decide) ?_
    exact ih _ _ _ _ _ _ _ _ _ _ _ _ _ _ _ _ _ _ _ _ _ _ hok (by omega) (by omega) hP hD hS (lv_sub hl [3, 4, 5, 6, 0] rfl)
  · refine lv_aload_n hx hb dL_law_725 rfl (lv_at hl 5 rfl) ?_
    refine lv_iconst (v := (0 : Int32)) hx hb dL_law_726 (by decide) ?_
    refine va_lald hx hb hK hP 7 4 rfl rfl (by unfold vp_in; decide) dL_law_727 ?_
    refine lv_iload hx hb dL_law_728 (lv_at hl 0 rfl) ?_
    refine lv_if_eq (tgt := 737) hx hb dL_law_730 (by decide) (fun c2 => ?_) (fun c2 => ?_)
    · refine lv_lconst (v := (0 : Int64)) hx hb dL_law_737 (by decide) ?_
      refine pl_eq (tgt := 744) hx hb dL_law_738 dL_law_739 (by decide) (fun _ => ?_) (fun h => absurd (by rw [(L_holds_eq ou a1 ((pl_shl a2.toInt64 (32 : Int32)) ||| (a3.toInt64 &&& (4294967295 : Int64))) ((pl_shl a4.toInt64 (32 : Int32)) ||| (a5.toInt64 &&& (4294967295 : Int64)))).2 c1, if_pos c2]) h)
      refine lv_goto (tgt := 857) hx hb dL_law_744 (by decide) ?_
      refine lv_iinc (v := nI (i + 7)) (lv' := [(4, .int (nI (i + 7))), (6, .int ((s_X3_holds_ a1 ((pl_shl a2.toInt64 (32 : Int32)) ||| (a3.toInt64 &&& (4294967295 : Int64))) ((pl_shl a4.toInt64 (32 : Int32)) ||| (a5.toInt64 &&& (4294967295 : Int64)))).1)), (5, .int ((s_L_holds ou a1 ((pl_shl a2.toInt64 (32 : Int32)) ||| (a3.toInt64 &&& (4294967295 : Int64))) ((pl_shl a4.toInt64 (32 : Int32)) ||| (a5.toInt64 &&& (4294967295 : Int64)))).1)), (0, .ref b), (1, .ref h0), (2, .ref g0), (3, .ref o0)]) hx hb dL_law_857 hl (k := 6) rfl (lw_i7 i) (by decide) rfl (fun ls hl => ?_)
      refine lv_goto (tgt := 23) hx hb dL_law_860 (by decide) ?_
      exact ih _ _ _ _ _ _ _ _ _ _ _ _ _ _ _ _ _ _ _ _ _ _ hok (by omega) (by omega) hP hD hS (lv_sub hl [3, 4, 5, 6, 0] rfl)
    · refine lv_lconst (v := (1 : Int64)) hx hb dL_law_733 (by decide) ?_
      refine lv_goto (tgt := 738) hx hb dL_law_734 (by decide) ?_
      refine pl_eq (tgt := 744) hx hb dL_law_738 dL_law_739 (by decide) (fun _ => ?_) (fun h => absurd (by rw [(L_holds_eq ou a1 ((pl_shl a2.toInt64 (32 : Int32)) ||| (a3.toInt64 &&& (4294967295 : Int64))) ((pl_shl a4.toInt64 (32 : Int32)) ||| (a5.toInt64 &&& (4294967295 : Int64)))).2 c1, if_neg c2]) h)
      refine lv_goto (tgt := 857) hx hb dL_law_744 (by decide) ?_
      refine lv_iinc (v := nI (i + 7)) (lv' := [(4, .int (nI (i + 7))), (6, .int ((s_X3_holds_ a1 ((pl_shl a2.toInt64 (32 : Int32)) ||| (a3.toInt64 &&& (4294967295 : Int64))) ((pl_shl a4.toInt64 (32 : Int32)) ||| (a5.toInt64 &&& (4294967295 : Int64)))).1)), (5, .int ((s_L_holds ou a1 ((pl_shl a2.toInt64 (32 : Int32)) ||| (a3.toInt64 &&& (4294967295 : Int64))) ((pl_shl a4.toInt64 (32 : Int32)) ||| (a5.toInt64 &&& (4294967295 : Int64)))).1)), (0, .ref b), (1, .ref h0), (2, .ref g0), (3, .ref o0)]) hx hb dL_law_857 hl (k := 6) rfl (lw_i7 i) (by decide) rfl (fun ls hl => ?_)
      refine lv_goto (tgt := 23) hx hb dL_law_860 (by decide) ?_
      exact ih _ _ _ _ _ _ _ _ _ _ _ _ _ _ _ _ _ _ _ _ _ _ hok (by omega) (by omega) hP hD hS (lv_sub hl [3, 4, 5, 6, 0] rfl)
