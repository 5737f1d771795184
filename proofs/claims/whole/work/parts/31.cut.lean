set_option maxHeartbeats 4000000 in
set_option maxRecDepth 100000 in
theorem law_cut {p : Program} {l : Launch} {e : Env} {s : State} {m : MethodId} {below : List Frame} {meth : Method} {c : Code} (hst : l.stackTraces = false) (hx : p.tables.exec = Jvm.exec) (hb : c.code = code) (hml : c.maxLocals = 8) (hown : s.vm.findClass RL = some m.cls) {b L : Nat} {xs : Nat → Int32} (hts : ∀ w ∈ lw_tbl, w.before #[Value.ref b] s = true) (hX : va_X b L xs s s.heap) (hbl : b < s.heap.size) {A : Nat → Prop} {S0 : Nat} (hA : ∀ q : Nat, s.heap.size ≤ q → A q) (hS1 : ∀ q, A q → S0 ≤ q) (hbA : ¬ A b) (ham : am S0 s s.heap) {dC : Nat → ClassId} {dI : Nat → Nat → Nat} {h0 q1 q2 q3 g0 r1 r2 o0 : Nat} {cA cB cC cD cO : ClassId} (hK : va_K (dC, dI) vwCl [(cA, .long), (cB, .long), (cC, .long), (cD, .long), (cO, .long)] s) (hL : L ≤ 3584) {n i : Nat} (hi7 : i + 7 ≤ L) (ih : lwK p l e s m below meth c (dC, dI) A b h0 q1 q2 q3 g0 r1 r2 o0 cA cB cC cD cO n (i + 7)) {f0 : Int64} {f1 : Int64} {f2 : Int64} {f3 : Int64} {f4 : Int64} {f5 : Int64} {th : Int32} {fa : Int64} {fb : Int64} {ft : Int32} {xl : Int64} {xh : Int64} {yl : Int64} {yh : Int64} {lo : Nat → Int64} {hi : Nat → Int64} {ou : Nat → Int64} {kc : Nat} {ks : Nat} {H : Heap} {locs : List Loc} {ls : Array Slot} (hok : okR lo hi) (hkc : kc + 8 * (n + 1) ≤ 601024) (hks : ks + 48 * (n + 1) ≤ 7293034) (hP : va_P (dC, dI) vwCl [(h0, .inr (1, [.ref q1, .ref q2, .ref q3])), (q1, .inl (cA, 16, .inr (.inl lo))), (q2, .inl (cB, 16, .inr (.inl hi))), (q3, .inr (0, [.long f0, .long f1, .long f2, .long f3, .long f4, .long f5])), (g0, .inr (2, [.int th, .ref r1, .ref r2, .long fa, .long fb, .int ft, .long xl, .long xh, .long yl, .long yh])), (r1, .inl (cC, 16, .inr (.inl lo))), (r2, .inl (cD, 16, .inr (.inl hi))), (o0, .inl (cO, 1, .inr (.inl ou)))] H) (hD : va_D A [(h0, .inr (1, [.ref q1, .ref q2, .ref q3])), (q1, .inl (cA, 16, .inr (.inl lo))), (q2, .inl (cB, 16, .inr (.inl hi))), (q3, .inr (0, [.long f0, .long f1, .long f2, .long f3, .long f4, .long f5])), (g0, .inr (2, [.int th, .ref r1, .ref r2, .long fa, .long fb, .int ft, .long xl, .long xh, .long yl, .long yh])), (r1, .inl (cC, 16, .inr (.inl lo))), (r2, .inl (cD, 16, .inr (.inl hi))), (o0, .inl (cO, 1, .inr (.inl ou)))]) (hS : va_S A s.heap H locs) (hl : lv_has ls 8 [(0, .ref b), (1, .ref h0), (2, .ref g0), (3, .ref o0), (4, .int (nI i))]) : W p l e room_1 s m #[Value.ref b] below meth c H locs kc ks (lw_Z below #[Value.ref b] s) (F0 m 481 ls []) := by
  obtain ⟨a1, ea1⟩ : ∃ y : Int32, y = xs (nI i + (1 : Int32)).toNatClampNeg := ⟨_, rfl⟩
  obtain ⟨a2, ea2⟩ : ∃ y : Int32, y = xs (nI i + (2 : Int32)).toNatClampNeg := ⟨_, rfl⟩
  obtain ⟨a3, ea3⟩ : ∃ y : Int32, y = xs (nI i + (3 : Int32)).toNatClampNeg := ⟨_, rfl⟩
  obtain ⟨a4, ea4⟩ : ∃ y : Int32, y = xs (nI i + (4 : Int32)).toNatClampNeg := ⟨_, rfl⟩
  refine lv_aload_n hx hb dL_law_481 rfl (lv_at hl 1 rfl) ?_
  refine lv_aload_n hx hb dL_law_482 rfl (lv_at hl 0 rfl) ?_
  refine lv_iload hx hb dL_law_483 (lv_at hl 4 rfl) ?_
  refine lv_iconst (v := (1 : Int32)) hx hb dL_law_485 (by decide) ?_
  refine lv_iadd hx hb dL_law_486 ?_
  refine lw_sld hx hb hX hbl hbA hS (lw_in hi7 hL (j := 1) (by decide)) ea1 dL_law_487 ?_
  refine lv_aload_n hx hb dL_law_488 rfl (lv_at hl 0 rfl) ?_
  refine lv_iload hx hb dL_law_489 (lv_at hl 4 rfl) ?_
  refine lv_iconst (v := (2 : Int32)) hx hb dL_law_491 (by decide) ?_
  refine lv_iadd hx hb dL_law_492 ?_
  refine lw_sld hx hb hX hbl hbA hS (lw_in hi7 hL (j := 2) (by decide)) ea2 dL_law_493 ?_
  refine lv_aload_n hx hb dL_law_494 rfl (lv_at hl 0 rfl) ?_
  refine lv_iload hx hb dL_law_495 (lv_at hl 4 rfl) ?_
  refine lv_iconst (v := (3 : Int32)) hx hb dL_law_497 (by decide) ?_
  refine lv_iadd hx hb dL_law_498 ?_
  refine lw_sld hx hb hX hbl hbA hS (lw_in hi7 hL (j := 3) (by decide)) ea3 dL_law_499 ?_
  refine lv_aload_n hx hb dL_law_500 rfl (lv_at hl 0 rfl) ?_
  refine lv_iload hx hb dL_law_501 (lv_at hl 4 rfl) ?_
  refine lv_iconst (v := (4 : Int32)) hx hb dL_law_503 (by decide) ?_
  refine lv_iadd hx hb dL_law_504 ?_
  refine lw_sld hx hb hX hbl hbA hS (lw_in hi7 hL (j := 4) (by decide)) ea4 dL_law_505 ?_
  refine lv_if_eq (tgt := 513) hx hb dL_law_506 (by decide) (fun c1 => ?_) (fun c1 => ?_)
  · refine lv_iconst (v := (0 : Int32)) hx hb dL_law_513 (by decide) ?_
    refine lv_aload_n hx hb dL_law_514 rfl (lv_at hl 3 rfl) ?_
    refine wq_calli (wc := [(h0, .inr (1, [.ref q1, .ref q2, .ref q3])), (q1, .inl (cA, 16, .inr (.inl lo))), (q2, .inl (cB, 16, .inr (.inl hi))), (o0, .inl (cO, 1, .inr (.inl ou)))]) (wr := [(q3, .inr (0, [.long f0, .long f1, .long f2, .long f3, .long f4, .long f5])), (g0, .inr (2, [.int th, .ref r1, .ref r2, .long fa, .long fb, .int ft, .long xl, .long xh, .long yl, .long yh])), (r1, .inl (cC, 16, .inr (.inl lo))), (r2, .inl (cD, 16, .inr (.inl hi)))]) (w2 := [(h0, .inr (1, [.ref q1, .ref q2, .ref q3])), (q1, .inl (cA, 16, .inr (.inl ((s_L_cut lo hi ou a1 a2 a3 (0 : Int32)).2.1)))), (q2, .inl (cB, 16, .inr (.inl ((s_L_cut lo hi ou a1 a2 a3 (0 : Int32)).2.2.1)))), (q3, .inr (0, [.long f0, .long f1, .long f2, .long f3, .long f4, .long f5])), (g0, .inr (2, [.int th, .ref r1, .ref r2, .long fa, .long fb, .int ft, .long xl, .long xh, .long yl, .long yh])), (r1, .inl (cC, 16, .inr (.inl lo))), (r2, .inl (cD, 16, .inr (.inl hi))), (o0, .inl (cO, 1, .inr (.inl ((s_L_cut lo hi ou a1 a2 a3 (0 : Int32)).2.2.2))))]) (vx_runSW (As := [.ref h0, .int a1, .int a2, .int a3, .int (0 : Int32), .ref o0]) (rest := []) ⟨hx, hb, hml, hown, hts⟩ (c_L_cut l S0 hst dC dI cA cB cO h0 q1 q2 o0 q3 H.size lo hi ou a1 a2 a3 (0 : Int32)) (vx_cwSW 6 hts gl_L_cut rfl rfl rfl ydS_L_cut ⟨Nat.le_of_ble_eq_true rfl, Nat.le_of_ble_eq_true rfl⟩) (twp_S (hK.sub (tys' := [(cA, .long), (cB, .long), (cO, .long)]) [0, 1, 4] rfl) (hP.sub (ws' := [(h0, .inr (1, [.ref q1, .ref q2, .ref q3])), (q1, .inl (cA, 16, .inr (.inl lo))), (q2, .inl (cB, 16, .inr (.inl hi))), (o0, .inl (cO, 1, .inr (.inl ou)))]) [0, 1, 2, 7] rfl) (hD.sub (ws' := [(h0, .inr (1, [.ref q1, .ref q2, .ref q3])), (q1, .inl (cA, 16, .inr (.inl lo))), (q2, .inl (cB, 16, .inr (.inl hi))), (o0, .inl (cO, 1, .inr (.inl ou)))]) [0, 1, 2, 7] (by decide) rfl) (ham.kept (fun a h1 h2 => hS.2.1 a h1 (fun h3 => h2 (hS1 a h3))))) rfl rfl hl.1 rfl (lv_room (Nat.le_of_ble_eq_true rfl)) dL_law_515 ⟨(by omega : kc + 4 ≤ 601024), (by omega : ks + 24 ≤ 7293034)⟩) hP hD hS hA [0, 1, 2, 7] [3, 4, 5, 6] [4, 5, 6, 0, 1, 2, 3, 7] rfl rfl rfl (by decide) rfl rfl (fun H locs hP hD hS => ?_)
    refine lv_istore (lv' := [(5, .int ((s_L_cut lo hi ou a1 a2 a3 (0 : Int32)).1)), (0, .ref b), (1, .ref h0), (2, .ref g0), (3, .ref o0), (4, .int (nI i))]) hx hb dL_law_518 hl (by decide) rfl (fun ls hl => ?_)
    refine lv_aload_n hx hb dL_law_520 rfl (lv_at hl 3 rfl) ?_
    refine lv_aload_n hx hb dL_law_521 rfl (lv_at hl 1 rfl) ?_
    refine lv_iload hx hb dL_law_522 (lv_at hl 5 rfl) ?_
    refine lv_iconst (v := (1 : Int32)) hx hb dL_law_524 (by decide) ?_
    refine lv_iadd hx hb dL_law_525 ?_
    refine lw_sld hx hb hX hbl hbA hS (lw_in hi7 hL (j := 1) (by decide)) ea1 dL_law_526 ?_
    refine lv_aload_n hx hb dL_law_527 rfl (lv_at hl 1 rfl) ?_
    refine lv_iload hx hb dL_law_528 (lv_at hl 5 rfl) ?_
    refine lv_iconst (v := (2 : Int32)) hx hb dL_law_530 (by decide) ?_
    refine lv_iadd hx hb dL_law_531 ?_
    refine lw_sld hx hb hX hbl hbA hS (lw_in hi7 hL (j := 2) (by decide)) ea2 dL_law_532 ?_
    refine lv_aload_n hx hb dL_law_533 rfl (lv_at hl 1 rfl) ?_
    refine lv_iload hx hb dL_law_534 (lv_at hl 5 rfl) ?_
    refine lv_iconst (v := (3 : Int32)) hx hb dL_law_536 (by decide) ?_
    refine lv_iadd hx hb dL_law_537 ?_
    refine lw_sld hx hb hX hbl hbA hS (lw_in hi7 hL (j := 3) (by decide)) ea3 dL_law_538 ?_
    refine lv_aload_n hx hb dL_law_539 rfl (lv_at hl 1 rfl) ?_
    refine lv_iload hx hb dL_law_540 (lv_at hl 5 rfl) ?_
    refine lv_iconst (v := (4 : Int32)) hx hb dL_law_542 (by decide) ?_
    refine lv_iadd hx hb dL_law_543 ?_
    refine lw_sld hx hb hX hbl hbA hS (lw_in hi7 hL (j := 4) (by decide)) ea4 dL_law_544 ?_
    refine lv_if_eq (tgt := 552) hx hb dL_law_545 (by decide) (fun _ => ?_) (fun h => absurd (c1) h)
    refine lv_iconst (v := (0 : Int32)) hx hb dL_law_552 (by decide) ?_
    refine wq_calli (wc := [(g0, .inr (2, [.int th, .ref r1, .ref r2, .long fa, .long fb, .int ft, .long xl, .long xh, .long yl, .long yh])), (r1, .inl (cC, 16, .inr (.inl lo))), (r2, .inl (cD, 16, .inr (.inl hi)))]) (wr := [(h0, .inr (1, [.ref q1, .ref q2, .ref q3])), (q1, .inl (cA, 16, .inr (.inl ((s_L_cut lo hi ou a1 a2 a3 (0 : Int32)).2.1)))), (q2, .inl (cB, 16, .inr (.inl ((s_L_cut lo hi ou a1 a2 a3 (0 : Int32)).2.2.1)))), (q3, .inr (0, [.long f0, .long f1, .long f2, .long f3, .long f4, .long f5])), (o0, .inl (cO, 1, .inr (.inl ((s_L_cut lo hi ou a1 a2 a3 (0 : Int32)).2.2.2))))]) (w2 := [(h0, .inr (1, [.ref q1, .ref q2, .ref q3])), (q1, .inl (cA, 16, .inr (.inl ((s_L_cut lo hi ou a1 a2 a3 (0 : Int32)).2.1)))), (q2, .inl (cB, 16, .inr (.inl ((s_L_cut lo hi ou a1 a2 a3 (0 : Int32)).2.2.1)))), (q3, .inr (0, [.long f0, .long f1, .long f2, .long f3, .long f4, .long f5])), (g0, .inr (2, [.int ((s_X3_cut xl xh yl yh lo hi a1 a2 a3 (0 : Int32)).2.1), .ref r1, .ref r2, .long fa, .long fb, .int ft, .long ((s_X3_cut xl xh yl yh lo hi a1 a2 a3 (0 : Int32)).2.2.1), .long ((s_X3_cut xl xh yl yh lo hi a1 a2 a3 (0 : Int32)).2.2.2.1), .long ((s_X3_cut xl xh yl yh lo hi a1 a2 a3 (0 : Int32)).2.2.2.2.1), .long ((s_X3_cut xl xh yl yh lo hi a1 a2 a3 (0 : Int32)).2.2.2.2.2.1)])), (r1, .inl (cC, 16, .inr (.inl ((s_X3_cut xl xh yl yh lo hi a1 a2 a3 (0 : Int32)).2.2.2.2.2.2.1)))), (r2, .inl (cD, 16, .inr (.inl ((s_X3_cut xl xh yl yh lo hi a1 a2 a3 (0 : Int32)).2.2.2.2.2.2.2)))), (o0, .inl (cO, 1, .inr (.inl ((s_L_cut lo hi ou a1 a2 a3 (0 : Int32)).2.2.2))))]) (va_runV (As := [.int a1, .int a2, .int a3, .int (0 : Int32)]) (rest := []) ⟨hx, hb, hml, hown, hts⟩ (c_X3_cut l dC dI cC cD g0 r1 r2 H.size th fa fb ft xl xh yl yh lo hi a1 a2 a3 (0 : Int32)) (cwV 4 hts gl_X3_cut rfl rfl rfl ydV_X3_cut ⟨Nat.le_of_ble_eq_true rfl, Nat.le_of_ble_eq_true rfl⟩) (wp_V (hK.sub (tys' := [(cC, .long), (cD, .long)]) [2, 3] rfl) (hP.sub (ws' := [(g0, .inr (2, [.int th, .ref r1, .ref r2, .long fa, .long fb, .int ft, .long xl, .long xh, .long yl, .long yh])), (r1, .inl (cC, 16, .inr (.inl lo))), (r2, .inl (cD, 16, .inr (.inl hi)))]) [4, 5, 6] rfl) (hD.sub (ws' := [(g0, .inr (2, [.int th, .ref r1, .ref r2, .long fa, .long fb, .int ft, .long xl, .long xh, .long yl, .long yh])), (r1, .inl (cC, 16, .inr (.inl lo))), (r2, .inl (cD, 16, .inr (.inl hi)))]) [4, 5, 6] (by decide) rfl)  rfl rfl) rfl rfl hl.1 rfl (lv_room (Nat.le_of_ble_eq_true rfl)) dL_law_553 ⟨(by omega : kc + 4 + 0 ≤ 601024), (by omega : ks + 24 + 0 ≤ 7293034)⟩) hP hD hS hA [4, 5, 6] [0, 1, 2, 3, 7] [0, 1, 2, 3, 5, 6, 7, 4] rfl rfl rfl (by decide) rfl rfl (fun H locs hP hD hS => ?_)
    refine lv_istore (lv' := [(6, .int ((s_X3_cut xl xh yl yh lo hi a1 a2 a3 (0 : Int32)).1)), (5, .int ((s_L_cut lo hi ou a1 a2 a3 (0 : Int32)).1)), (0, .ref b), (1, .ref h0), (2, .ref g0), (3, .ref o0), (4, .int (nI i))]) hx hb dL_law_556 hl (by decide) rfl (fun ls hl => ?_)
    refine lv_aload_n hx hb dL_law_558 rfl (lv_at hl 4 rfl) ?_
    refine pq_calli (va_runV (As := []) (rest := []) ⟨hx, hb, hml, hown, hts⟩ (c_X3_thrown l dC dI g0 r1 r2 ((s_X3_cut xl xh yl yh lo hi a1 a2 a3 (0 : Int32)).2.1) fa fb ft ((s_X3_cut xl xh yl yh lo hi a1 a2 a3 (0 : Int32)).2.2.1) ((s_X3_cut xl xh yl yh lo hi a1 a2 a3 (0 : Int32)).2.2.2.1) ((s_X3_cut xl xh yl yh lo hi a1 a2 a3 (0 : Int32)).2.2.2.2.1) ((s_X3_cut xl xh yl yh lo hi a1 a2 a3 (0 : Int32)).2.2.2.2.2.1)) (cwV 0 hts gl_X3_thrown rfl rfl rfl ydV_X3_thrown ⟨Nat.le_of_ble_eq_true rfl, Nat.le_of_ble_eq_true rfl⟩) (rp_V (hK.sub (tys' := []) [] rfl) (hP.sub (ws' := [(g0, .inr (2, [.int ((s_X3_cut xl xh yl yh lo hi a1 a2 a3 (0 : Int32)).2.1), .ref r1, .ref r2, .long fa, .long fb, .int ft, .long ((s_X3_cut xl xh yl yh lo hi a1 a2 a3 (0 : Int32)).2.2.1), .long ((s_X3_cut xl xh yl yh lo hi a1 a2 a3 (0 : Int32)).2.2.2.1), .long ((s_X3_cut xl xh yl yh lo hi a1 a2 a3 (0 : Int32)).2.2.2.2.1), .long ((s_X3_cut xl xh yl yh lo hi a1 a2 a3 (0 : Int32)).2.2.2.2.2.1)]))]) [4] rfl)  rfl rfl) rfl rfl hl.1 rfl (lv_room (Nat.le_of_ble_eq_true rfl)) dL_law_559 ⟨(by omega : kc + 4 + 0 + 0 ≤ 601024), (by omega : ks + 24 + 0 + 0 ≤ 7293034)⟩) ?_
    refine lv_iload hx hb dL_law_562 (lv_at hl 1 rfl) ?_
    refine lv_icmp_eq (tgt := 569) hx hb dL_law_564 (by decide) (fun _ => ?_) (fun h => absurd ((L_cut_eq xl xh yl yh lo hi ou hok a1 a2 a3 (0 : Int32)).1.1) h)
    refine lv_iload hx hb dL_law_569 (lv_at hl 1 rfl) ?_
    refine lv_if_ne (tgt := 593) hx hb dL_law_571 (by decide) (fun c2 => ?_) (fun c2 => ?_)
    · refine lv_goto (tgt := 857) hx hb dL_law_593 (by decide) ?_
      refine lv_iinc (v := nI (i + 7)) (lv' := [(4, .int (nI (i + 7))), (6, .int ((s_X3_cut xl xh yl yh lo hi a1 a2 a3 (0 : Int32)).1)), (5, .int ((s_L_cut lo hi ou a1 a2 a3 (0 : Int32)).1)), (0, .ref b), (1, .ref h0), (2, .ref g0), (3, .ref o0)]) hx hb dL_law_857 hl (k := 6) rfl (lw_i7 i) (by decide) rfl (fun ls hl => ?_)
      refine lv_goto (tgt := 23) hx hb dL_law_860 (by decide) ?_
      have eL := L_cut_eq xl xh yl yh lo hi ou hok a1 a2 a3 (0 : Int32)
      rw [eL.1.2.1, eL.1.2.2] at hP hD
      exact ih _ _ _ _ _ _ _ _ _ _ _ _ _ _ _ _ _ _ _ _ _ _ eL.2.1 (by omega) (by omega) hP hD hS (lv_sub hl [3, 4, 5, 6, 0] rfl)
    · refine lv_aload_n hx hb dL_law_574 rfl (lv_at hl 5 rfl) ?_
      refine lv_iconst (v := (0 : Int32)) hx hb dL_law_575 (by decide) ?_
      refine va_lald hx hb hK hP 7 4 rfl rfl (by unfold vp_in; decide) dL_law_576 ?_
      refine lv_iload hx hb dL_law_577 (lv_at hl 0 rfl) ?_
      refine lv_if_eq (tgt := 586) hx hb dL_law_579 (by decide) (fun c3 => ?_) (fun c3 => ?_)
      · refine lv_lconst (v := (0 : Int64)) hx hb dL_law_586 (by decide) ?_
        refine pl_eq (tgt := 593) hx hb dL_law_587 dL_law_588 (by decide) (fun _ => ?_) (fun h => absurd (by rw [(L_cut_eq xl xh yl yh lo hi ou hok a1 a2 a3 (0 : Int32)).2.2 c2, if_pos c3]) h)
        refine lv_goto (tgt := 857) hx hb dL_law_593 (by decide) ?_
        refine lv_iinc (v := nI (i + 7)) (lv' := [(4, .int (nI (i + 7))), (6, .int ((s_X3_cut xl xh yl yh lo hi a1 a2 a3 (0 : Int32)).1)), (5, .int ((s_L_cut lo hi ou a1 a2 a3 (0 : Int32)).1)), (0, .ref b), (1, .ref h0), (2, .ref g0), (3, .ref o0)]) hx hb dL_law_857 hl (k := 6) rfl (lw_i7 i) (by decide) rfl (fun ls hl => ?_)
        refine lv_goto (tgt := 23) hx hb dL_law_860 (by decide) ?_
        have eL := L_cut_eq xl xh yl yh lo hi ou hok a1 a2 a3 (0 : Int32)
        rw [eL.1.2.1, eL.1.2.2] at hP hD
        exact ih _ _ _ _ _ _ _ _ _ _ _ _ _ _ _ _ _ _ _ _ _ _ eL.2.1 (by omega) (by omega) hP hD hS (lv_sub hl [3, 4, 5, 6, 0] rfl)
      · refine lv_lconst (v := (1 : Int64)) hx hb dL_law_582 (by decide) ?_
        refine lv_goto (tgt := 587) hx hb dL_law_583 (by decide) ?_
        refine pl_eq (tgt := 593) hx hb dL_law_587 dL_law_588 (by decide) (fun _ => ?_) (fun h => absurd (by rw [(L_cut_eq xl xh yl yh lo hi ou hok a1 a2 a3 (0 : Int32)).2.2 c2, if_neg c3]) h)
        refine lv_goto (tgt := 857) hx hb dL_law_593 (by decide) ?_
        refine lv_iinc (v := nI (i + 7)) (lv' := [(4, .int (nI (i + 7))), (6, .int ((s_X3_cut xl xh yl yh lo hi a1 a2 a3 (0 : Int32)).1)), (5, .int ((s_L_cut lo hi ou a1 a2 a3 (0 : Int32)).1)), (0, .ref b), (1, .ref h0), (2, .ref g0), (3, .ref o0)]) hx hb dL_law_857 hl (k := 6) rfl (lw_i7 i) (by decide) rfl (fun ls hl => ?_)
        refine lv_goto (tgt := 23) hx hb dL_law_860 (by decide) ?_
        have eL := L_cut_eq xl xh yl yh lo hi ou hok a1 a2 a3 (0 : Int32)
        rw [eL.1.2.1, eL.1.2.2] at hP hD
        exact ih _ _ _ _ _ _ _ _ _ _ _ _ _ _ _ _ _ _ _ _ _ _ eL.2.1 (by omega) (by omega) hP hD hS (lv_sub hl [3, 4, 5, 6, 0] rfl)
  · refine lv_iconst (v := (1 : Int32)) hx hb dL_law_509 (by decide) ?_
    refine lv_goto (tgt := 514) hx hb dL_law_510 (by decide) ?_
    refine lv_aload_n hx hb dL_law_514 rfl (lv_at hl 3 rfl) ?_
    refine wq_calli (wc := [(h0, .inr (1, [.ref q1, .ref q2, .ref q3])), (q1, .inl (cA, 16, .inr (.inl lo))), (q2, .inl (cB, 16, .inr (.inl hi))), (o0, .inl (cO, 1, .inr (.inl ou)))]) (wr := [(q3, .inr (0, [.long f0, .long f1, .long f2, .long f3, .long f4, .long f5])), (g0, .inr (2, [.int th, .ref r1, .ref r2, .long fa, .long fb, .int ft, .long xl, .long xh, .long yl, .long yh])), (r1, .inl (cC, 16, .inr (.inl lo))), (r2, .inl (cD, 16, .inr (.inl hi)))]) (w2 := [(h0, .inr (1, [.ref q1, .ref q2, .ref q3])), (q1, .inl (cA, 16, .inr (.inl ((s_L_cut lo hi ou a1 a2 a3 (1 : Int32)).2.1)))), (q2, .inl (cB, 16, .inr (.inl ((s_L_cut lo hi ou a1 a2 a3 (1 : Int32)).2.2.1)))), (q3, .inr (0, [.long f0, .long f1, .long f2, .long f3, .long f4, .long f5])), (g0, .inr (2, [.int th, .ref r1, .ref r2, .long fa, .long fb, .int ft, .long xl, .long xh, .long yl, .long yh])), (r1, .inl (cC, 16, .inr (.inl lo))), (r2, .inl (cD, 16, .inr (.inl hi))), (o0, .inl (cO, 1, .inr (.inl ((s_L_cut lo hi ou a1 a2 a3 (1 : Int32)).2.2.2))))]) (vx_runSW (As := [.ref h0, .int a1, .int a2, .int a3, .int (1 : Int32), .ref o0]) (rest := []) ⟨hx, hb, hml, hown, hts⟩ (c_L_cut l S0 hst dC dI cA cB cO h0 q1 q2 o0 q3 H.size lo hi ou a1 a2 a3 (1 : Int32)) (vx_cwSW 6 hts gl_L_cut rfl rfl rfl ydS_L_cut ⟨Nat.le_of_ble_eq_true rfl, Nat.le_of_ble_eq_true rfl⟩) (twp_S (hK.sub (tys' := [(cA, .long), (cB, .long), (cO, .long)]) [0, 1, 4] rfl) (hP.sub (ws' := [(h0, .inr (1, [.ref q1, .ref q2, .ref q3])), (q1, .inl (cA, 16, .inr (.inl lo))), (q2, .inl (cB, 16, .inr (.inl hi))), (o0, .inl (cO, 1, .inr (.inl ou)))]) [0, 1, 2, 7] rfl) (hD.sub (ws' := [(h0, .inr (1, [.ref q1, .ref q2, .ref q3])), (q1, .inl (cA, 16, .inr (.inl lo))), (q2, .inl (cB, 16, .inr (.inl hi))), (o0, .inl (cO, 1, .inr (.inl ou)))]) [0, 1, 2, 7] (by decide) rfl) (ham.kept (fun a h1 h2 => hS.2.1 a h1 (fun h3 => h2 (hS1 a h3))))) rfl rfl hl.1 rfl (lv_room (Nat.le_of_ble_eq_true rfl)) dL_law_515 ⟨(by omega : kc + 4 ≤ 601024), (by omega : ks + 24 ≤ 7293034)⟩) hP hD hS hA [0, 1, 2, 7] [3, 4, 5, 6] [4, 5, 6, 0, 1, 2, 3, 7] rfl rfl rfl (by decide) rfl rfl (fun H locs hP hD hS => ?_)
    refine lv_istore (lv' := [(5, .int ((s_L_cut lo hi ou a1 a2 a3 (1 : Int32)).1)), (0, .ref b), (1, .ref h0), (2, .ref g0), (3, .ref o0), (4, .int (nI i))]) hx hb dL_law_518 hl (by decide) rfl (fun ls hl => ?_)
    refine lv_aload_n hx hb dL_law_520 rfl (lv_at hl 3 rfl) ?_
    refine lv_aload_n hx hb dL_law_521 rfl (lv_at hl 1 rfl) ?_
    refine lv_iload hx hb dL_law_522 (lv_at hl 5 rfl) ?_
    refine lv_iconst (v := (1 : Int32)) hx hb dL_law_524 (by decide) ?_
    refine lv_iadd hx hb dL_law_525 ?_
    refine lw_sld hx hb hX hbl hbA hS (lw_in hi7 hL (j := 1) (by decide)) ea1 dL_law_526 ?_
    refine lv_aload_n hx hb dL_law_527 rfl (lv_at hl 1 rfl) ?_
    refine lv_iload hx hb dL_law_528 (lv_at hl 5 rfl) ?_
    refine lv_iconst (v := (2 : Int32)) hx hb dL_law_530 (by decide) ?_
    refine lv_iadd hx hb dL_law_531 ?_
    refine lw_sld hx hb hX hbl hbA hS (lw_in hi7 hL (j := 2) (by decide)) ea2 dL_law_532 ?_
    refine lv_aload_n hx hb dL_law_533 rfl (lv_at hl 1 rfl) ?_
    refine lv_iload hx hb dL_law_534 (lv_at hl 5 rfl) ?_
    refine lv_iconst (v := (3 : Int32)) hx hb dL_law_536 (by decide) ?_
    refine lv_iadd hx hb dL_law_537 ?_
    refine lw_sld hx hb hX hbl hbA hS (lw_in hi7 hL (j := 3) (by decide)) ea3 dL_law_538 ?_
    refine lv_aload_n hx hb dL_law_539 rfl (lv_at hl 1 rfl) ?_
    refine lv_iload hx hb dL_law_540 (lv_at hl 5 rfl) ?_
    refine lv_iconst (v := (4 : Int32)) hx hb dL_law_542 (by decide) ?_
    refine lv_iadd hx hb dL_law_543 ?_
    refine lw_sld hx hb hX hbl hbA hS (lw_in hi7 hL (j := 4) (by decide)) ea4 dL_law_544 ?_
    refine lv_if_eq (tgt := 552) hx hb dL_law_545 (by decide) (fun h => absurd h (c1)) (fun _ => ?_)
    refine lv_iconst (v := (1 : Int32)) hx hb dL_law_548 (by decide) ?_
    refine lv_goto (tgt := 553) hx hb dL_law_549 (by decide) ?_
    refine wq_calli (wc := [(g0, .inr (2, [.int th, .ref r1, .ref r2, .long fa, .long fb, .int ft, .long xl, .long xh, .long yl, .long yh])), (r1, .inl (cC, 16, .inr (.inl lo))), (r2, .inl (cD, 16, .inr (.inl hi)))]) (wr := [(h0, .inr (1, [.ref q1, .ref q2, .ref q3])), (q1, .inl (cA, 16, .inr (.inl ((s_L_cut lo hi ou a1 a2 a3 (1 : Int32)).2.1)))), (q2, .inl (cB, 16, .inr (.inl ((s_L_cut lo hi ou a1 a2 a3 (1 : Int32)).2.2.1)))), (q3, .inr (0, [.long f0, .long f1, .long f2, .long f3, .long f4, .long f5])), (o0, .inl (cO, 1, .inr (.inl ((s_L_cut lo hi ou a1 a2 a3 (1 : Int32)).2.2.2))))]) (w2 := [(h0, .inr (1, [.ref q1, .ref q2, .ref q3])), (q1, .inl (cA, 16, .inr (.inl ((s_L_cut lo hi ou a1 a2 a3 (1 : Int32)).2.1)))), (q2, .inl (cB, 16, .inr (.inl ((s_L_cut lo hi ou a1 a2 a3 (1 : Int32)).2.2.1)))), (q3, .inr (0, [.long f0, .long f1, .long f2, .long f3, .long f4, .long f5])), (g0, .inr (2, [.int ((s_X3_cut xl xh yl yh lo hi a1 a2 a3 (1 : Int32)).2.1), .ref r1, .ref r2, .long fa, .long fb, .int ft, .long ((s_X3_cut xl xh yl yh lo hi a1 a2 a3 (1 : Int32)).2.2.1), .long ((s_X3_cut xl xh yl yh lo hi a1 a2 a3 (1 : Int32)).2.2.2.1), .long ((s_X3_cut xl xh yl yh lo hi a1 a2 a3 (1 : Int32)).2.2.2.2.1), .long ((s_X3_cut xl xh yl yh lo hi a1 a2 a3 (1 : Int32)).2.2.2.2.2.1)])), (r1, .inl (cC, 16, .inr (.inl ((s_X3_cut xl xh yl yh lo hi a1 a2 a3 (1 : Int32)).2.2.2.2.2.2.1)))), (r2, .inl (cD, 16, .inr (.inl ((s_X3_cut xl xh yl yh lo hi a1 a2 a3 (1 : Int32)).2.2.2.2.2.2.2)))), (o0, .inl (cO, 1, .inr (.inl ((s_L_cut lo hi ou a1 a2 a3 (1 : Int32)).2.2.2))))]) (va_runV (As := [.int a1, .int a2, .int a3, .int (1 : Int32)]) (rest := []) ⟨hx, hb, hml, hown, hts⟩ (c_X3_cut l dC dI cC cD g0 r1 r2 H.size th fa fb ft xl xh yl yh lo hi a1 a2 a3 (1 : Int32)) (cwV 4 hts gl_X3_cut rfl rfl rfl ydV_X3_cut ⟨Nat.le_of_ble_eq_true rfl, Nat.le_of_ble_eq_true rfl⟩) (wp_V (hK.sub (tys' := [(cC, .long), (cD, .long)]) [2, 3] rfl) (hP.sub (ws' := [(g0, .inr (2, [.int th, .ref r1, .ref r2, .long fa, .long fb, .int ft, .long xl, .long xh, .long yl, .long yh])), (r1, .inl (cC, 16, .inr (.inl lo))), (r2, .inl (cD, 16, .inr (.inl hi)))]) [4, 5, 6] rfl) (hD.sub (ws' := [(g0, .inr (2, [.int th, .ref r1, .ref r2, .long fa, .long fb, .int ft, .long xl, .long xh, .long yl, .long yh])), (r1, .inl (cC, 16, .inr (.inl lo))), (r2, .inl (cD, 16, .inr (.inl hi)))]) [4, 5, 6] (by decide) rfl)  rfl rfl) rfl rfl hl.1 rfl (lv_room (Nat.le_of_ble_eq_true rfl)) dL_law_553 ⟨(by omega : kc + 4 + 0 ≤ 601024), (by omega : ks + 24 + 0 ≤ 7293034)⟩) hP hD hS hA [4, 5, 6] [0, 1, 2, 3, 7] [0, 1, 2, 3, 5, 6, 7, 4] rfl rfl rfl (by decide) rfl rfl (fun H locs hP hD hS => ?_)
    refine lv_istore (lv' := [(6, .int ((s_X3_cut xl xh yl yh lo hi a1 a2 a3 (1 : Int32)).1)), (5, .int ((s_L_cut lo hi ou a1 a2 a3 (1 : Int32)).1)), (0, .ref b), (1, .ref h0), (2, .ref g0), (3, .ref o0), (4, .int (nI i))]) hx hb dL_law_556 hl (by decide) rfl (fun ls hl => ?_)
    refine lv_aload_n hx hb dL_law_558 rfl (lv_at hl 4 rfl) ?_
    refine pq_calli (va_runV (As := []) (rest := []) ⟨hx, hb, hml, hown, hts⟩ (c_X3_thrown l dC dI g0 r1 r2 ((s_X3_cut xl xh yl yh lo hi a1 a2 a3 (1 : Int32)).2.1) fa fb ft ((s_X3_cut xl xh yl yh lo hi a1 a2 a3 (1 : Int32)).2.2.1) ((s_X3_cut xl xh yl yh lo hi a1 a2 a3 (1 : Int32)).2.2.2.1) ((s_X3_cut xl xh yl yh lo hi a1 a2 a3 (1 : Int32)).2.2.2.2.1) ((s_X3_cut xl xh yl yh lo hi a1 a2 a3 (1 : Int32)).2.2.2.2.2.1)) (cwV 0 hts gl_X3_thrown rfl rfl rfl ydV_X3_thrown ⟨Nat.le_of_ble_eq_true rfl, Nat.le_of_ble_eq_true rfl⟩) (rp_V (hK.sub (tys' := []) [] rfl) (hP.sub (ws' := [(g0, .inr (2, [.int ((s_X3_cut xl xh yl yh lo hi a1 a2 a3 (1 : Int32)).2.1), .ref r1, .ref r2, .long fa, .long fb, .int ft, .long ((s_X3_cut xl xh yl yh lo hi a1 a2 a3 (1 : Int32)).2.2.1), .long ((s_X3_cut xl xh yl yh lo hi a1 a2 a3 (1 : Int32)).2.2.2.1), .long ((s_X3_cut xl xh yl yh lo hi a1 a2 a3 (1 : Int32)).2.2.2.2.1), .long ((s_X3_cut xl xh yl yh lo hi a1 a2 a3 (1 : Int32)).2.2.2.2.2.1)]))]) [4] rfl)  rfl rfl) rfl rfl hl.1 rfl (lv_room (Nat.le_of_ble_eq_true rfl)) dL_law_559 ⟨(by omega : kc + 4 + 0 + 0 ≤ 601024), (by omega : ks + 24 + 0 + 0 ≤ 7293034)⟩) ?_
    refine lv_iload hx hb dL_law_562 (lv_at hl 1 rfl) ?_
    refine lv_icmp_eq (tgt := 569) hx hb dL_law_564 (by decide) (fun _ => ?_) (fun h => absurd ((L_cut_eq xl xh yl yh lo hi ou hok a1 a2 a3 (1 : Int32)).1.1) h)
    refine lv_iload hx hb dL_law_569 (lv_at hl 1 rfl) ?_
    refine lv_if_ne (tgt := 593) hx hb dL_law_571 (by decide) (fun c4 => ?_) (fun c4 => ?_)
    · refine lv_goto (tgt := 857) hx hb dL_law_593 (by decide) ?_
      refine lv_iinc (v := nI (i + 7)) (lv' := [(4, .int (nI (i + 7))), (6, .int ((s_X3_cut xl xh yl yh lo hi a1 a2 a3 (1 : Int32)).1)), (5, .int ((s_L_cut lo hi ou a1 a2 a3 (1 : Int32)).1)), (0, .ref b), (1, .ref h0), (2, .ref g0), (3, .ref o0)]) hx hb dL_law_857 hl (k := 6) rfl (lw_i7 i) (by decide) rfl (fun ls hl => ?_)
      refine lv_goto (tgt := 23) hx hb dL_law_860 (by decide) ?_
      have eL := L_cut_eq xl xh yl yh lo hi ou hok a1 a2 a3 (1 : Int32)
      rw [eL.1.2.1, eL.1.2.2] at hP hD
      exact ih _ _ _ _ _ _ _ _ _ _ _ _ _ _ _ _ _ _ _ _ _ _ eL.2.1 (by omega) (by omega) hP hD hS (lv_sub hl [3, 4, 5, 6, 0] rfl)
    · refine lv_aload_n hx hb dL_law_574 rfl (lv_at hl 5 rfl) ?_
      refine lv_iconst (v := (0 : Int32)) hx hb dL_law_575 (by decide) ?_
      refine va_lald hx hb hK hP 7 4 rfl rfl (by unfold vp_in; decide) dL_law_576 ?_
      refine lv_iload hx hb dL_law_577 (lv_at hl 0 rfl) ?_
      refine lv_if_eq (tgt := 586) hx hb dL_law_579 (by decide) (fun c5 => ?_) (fun c5 => ?_)
      · refine lv_lconst (v := (0 : Int64)) hx hb dL_law_586 (by decide) ?_
        refine pl_eq (tgt := 593) hx hb dL_law_587 dL_law_588 (by decide) (fun _ => ?_) (fun h => absurd (by rw [(L_cut_eq xl xh yl yh lo hi ou hok a1 a2 a3 (1 : Int32)).2.2 c4, if_pos c5]) h)
        refine lv_goto (tgt := 857) hx hb dL_law_593 (by decide) ?_
        refine lv_iinc (v := nI (i + 7)) (lv' := [(4, .int (nI (i + 7))), (6, .int ((s_X3_cut xl xh yl yh lo hi a1 a2 a3 (1 : Int32)).1)), (5, .int ((s_L_cut lo hi ou a1 a2 a3 (1 : Int32)).1)), (0, .ref b), (1, .ref h0), (2, .ref g0), (3, .ref o0)]) hx hb dL_law_857 hl (k := 6) rfl (lw_i7 i) (by decide) rfl (fun ls hl => ?_)
        refine lv_goto (tgt := 23) hx hb dL_law_860 (by decide) ?_
        have eL := L_cut_eq xl xh yl yh lo hi ou hok a1 a2 a3 (1 : Int32)
        rw [eL.1.2.1, eL.1.2.2] at hP hD
        exact ih _ _ _ _ _ _ _ _ _ _ _ _ _ _ _ _ _ _ _ _ _ _ eL.2.1 (by omega) (by omega) hP hD hS (lv_sub hl [3, 4, 5, 6, 0] rfl)
      · refine lv_lconst (v := (1 : Int64)) hx hb dL_law_582 (by decide) ?_
        refine lv_goto (tgt := 587) hx hb dL_law_583 (by decide) ?_
        refine pl_eq (tgt := 593) hx hb dL_law_587 dL_law_588 (by decide) (fun _ => ?_) (fun h => absurd (by rw [(L_cut_eq xl xh yl yh lo hi ou hok a1 a2 a3 (1 : Int32)).2.2 c4, if_neg c5]) h)
        refine lv_goto (tgt := 857) hx hb dL_law_593 (by decide) ?_
        refine lv_iinc (v := nI (i + 7)) (lv' := [(4, .int (nI (i + 7))), (6, .int ((s_X3_cut xl xh yl yh lo hi a1 a2 a3 (1 : Int32)).1)), (5, .int ((s_L_cut lo hi ou a1 a2 a3 (1 : Int32)).1)), (0, .ref b), (1, .ref h0), (2, .ref g0), (3, .ref o0)]) hx hb dL_law_857 hl (k := 6) rfl (lw_i7 i) (by decide) rfl (fun ls hl => ?_)
        refine lv_goto (tgt := 23) hx hb dL_law_860 (by decide) ?_
        have eL := L_cut_eq xl xh yl yh lo hi ou hok a1 a2 a3 (1 : Int32)
        rw [eL.1.2.1, eL.1.2.2] at hP hD
        exact ih _ _ _ _ _ _ _ _ _ _ _ _ _ _ _ _ _ _ _ _ _ _ eL.2.1 (by omega) (by omega) hP hD hS (lv_sub hl [3, 4, 5, 6, 0] rfl)
