set_option maxHeartbeats 4000000 in
set_option maxRecDepth 100000 in
theorem law_exact {p : Program} {l : Launch} {e : Env} {s : State} {m : MethodId} {below : List Frame} {meth : Method} {c : Code} (hst : l.stackTraces = false) (hx : p.tables.exec = Jvm.exec) (hb : c.code = code) (hml : c.maxLocals = 8) (hown : s.vm.findClass RL = some m.cls) {b L : Nat} {xs : Nat → Int32} (hts : ∀ w ∈ lw_tbl, w.before #[Value.ref b] s = true) (hX : va_X b L xs s s.heap) (hbl : b < s.heap.size) {A : Nat → Prop} {S0 : Nat} (hA : ∀ q : Nat, s.heap.size ≤ q → A q) (hS1 : ∀ q, A q → S0 ≤ q) (hbA : ¬ A b) (ham : am S0 s s.heap) {dC : Nat → ClassId} {dI : Nat → Nat → Nat} {h0 q1 q2 q3 g0 r1 r2 o0 : Nat} {cA cB cC cD cO : ClassId} (hK : va_K (dC, dI) vwCl [(cA, .long), (cB, .long), (cC, .long), (cD, .long), (cO, .long)] s) (hL : L ≤ 3584) {n i : Nat} (hi7 : i + 7 ≤ L) (ih : lwK p l e s m below meth c (dC, dI) A b h0 q1 q2 q3 g0 r1 r2 o0 cA cB cC cD cO n (i + 7)) {f0 : Int64} {f1 : Int64} {f2 : Int64} {f3 : Int64} {f4 : Int64} {f5 : Int64} {th : Int32} {fa : Int64} {fb : Int64} {ft : Int32} {xl : Int64} {xh : Int64} {yl : Int64} {yh : Int64} {lo : Nat → Int64} {hi : Nat → Int64} {ou : Nat → Int64} {kc : Nat} {ks : Nat} {H : Heap} {locs : List Loc} {ls : Array Slot} (hok : okR lo hi) (hkc : kc + 8 * (n + 1) ≤ 601024) (hks : ks + 48 * (n + 1) ≤ 7293034) (hP : va_P (dC, dI) vwCl [(h0, .inr (1, [.ref q1, .ref q2, .ref q3])), (q1, .inl (cA, 16, .inr (.inl lo))), (q2, .inl (cB, 16, .inr (.inl hi))), (q3, .inr (0, [.long f0, .long f1, .long f2, .long f3, .long f4, .long f5])), (g0, .inr (2, [.int th, .ref r1, .ref r2, .long fa, .long fb, .int ft, .long xl, .long xh, .long yl, .long yh])), (r1, .inl (cC, 16, .inr (.inl lo))), (r2, .inl (cD, 16, .inr (.inl hi))), (o0, .inl (cO, 1, .inr (.inl ou)))] H) (hD : va_D A [(h0, .inr (1, [.ref q1, .ref q2, .ref q3])), (q1, .inl (cA, 16, .inr (.inl lo))), (q2, .inl (cB, 16, .inr (.inl hi))), (q3, .inr (0, [.long f0, .long f1, .long f2, .long f3, .long f4, .long f5])), (g0, .inr (2, [.int th, .ref r1, .ref r2, .long fa, .long fb, .int ft, .long xl, .long xh, .long yl, .long yh])), (r1, .inl (cC, 16, .inr (.inl lo))), (r2, .inl (cD, 16, .inr (.inl hi))), (o0, .inl (cO, 1, .inr (.inl ou)))]) (hS : va_S A s.heap H locs) (hl : lv_has ls 8 [(0, .ref b), (1, .ref h0), (2, .ref g0), (3, .ref o0), (4, .int (nI i))]) : W p l e room_1 s m #[Value.ref b] below meth c H locs kc ks (lw_Z below #[Value.ref b] s) (F0 m 308 ls []) := by
  obtain ⟨a1, ea1⟩ : ∃ y : Int32, y = xs (nI i + (1 : Int32)).toNatClampNeg := ⟨_, rfl⟩
  obtain ⟨a2, ea2⟩ : ∃ y : Int32, y = xs (nI i + (2 : Int32)).toNatClampNeg := ⟨_, rfl⟩
  obtain ⟨a3, ea3⟩ : ∃ y : Int32, y = xs (nI i + (3 : Int32)).toNatClampNeg := ⟨_, rfl⟩
  obtain ⟨a4, ea4⟩ : ∃ y : Int32, y = xs (nI i + (4 : Int32)).toNatClampNeg := ⟨_, rfl⟩
  obtain ⟨a5, ea5⟩ : ∃ y : Int32, y = xs (nI i + (5 : Int32)).toNatClampNeg := ⟨_, rfl⟩
  obtain ⟨a6, ea6⟩ : ∃ y : Int32, y = xs (nI i + (6 : Int32)).toNatClampNeg := ⟨_, rfl⟩
  refine lv_aload_n hx hb dL_law_308 rfl (lv_at hl 1 rfl) ?_
  refine lv_aload_n hx hb dL_law_309 rfl (lv_at hl 0 rfl) ?_
  refine lv_iload hx hb dL_law_310 (lv_at hl 4 rfl) ?_
  refine lv_iconst (v := (1 : Int32)) hx hb dL_law_312 (by decide) ?_
  refine lv_iadd hx hb dL_law_313 ?_
  refine lw_sld hx hb hX hbl hbA hS (lw_in hi7 hL (j := 1) (by decide)) ea1 dL_law_314 ?_
  refine lv_aload_n hx hb dL_law_315 rfl (lv_at hl 0 rfl) ?_
  refine lv_iload hx hb dL_law_316 (lv_at hl 4 rfl) ?_
  refine lv_iconst (v := (2 : Int32)) hx hb dL_law_318 (by decide) ?_
  refine lv_iadd hx hb dL_law_319 ?_
  refine lw_sld hx hb hX hbl hbA hS (lw_in hi7 hL (j := 2) (by decide)) ea2 dL_law_320 ?_
  refine lv_i2l (v := a2.toInt64) hx hb dL_law_321 rfl ?_
  refine lv_bipush (v := (32 : Int32)) hx hb dL_law_322 (by decide) ?_
  refine lv_lshl (v := pl_shl a2.toInt64 (32 : Int32)) hx hb dL_law_324 rfl ?_
  refine lv_aload_n hx hb dL_law_325 rfl (lv_at hl 0 rfl) ?_
  refine lv_iload hx hb dL_law_326 (lv_at hl 4 rfl) ?_
  refine lv_iconst (v := (3 : Int32)) hx hb dL_law_328 (by decide) ?_
  refine lv_iadd hx hb dL_law_329 ?_
  refine lw_sld hx hb hX hbl hbA hS (lw_in hi7 hL (j := 3) (by decide)) ea3 dL_law_330 ?_
  refine lv_i2l (v := a3.toInt64) hx hb dL_law_331 rfl ?_
  refine lv_ldc2 (v := (4294967295 : Int64)) hx hb hown (hts _ in_c42) dL_law_332 ?_
  refine lv_land hx hb dL_law_335 ?_
  refine lv_lor hx hb dL_law_336 ?_
  refine lv_aload_n hx hb dL_law_337 rfl (lv_at hl 0 rfl) ?_
  refine lv_iload hx hb dL_law_338 (lv_at hl 4 rfl) ?_
  refine lv_iconst (v := (4 : Int32)) hx hb dL_law_340 (by decide) ?_
  refine lv_iadd hx hb dL_law_341 ?_
  refine lw_sld hx hb hX hbl hbA hS (lw_in hi7 hL (j := 4) (by decide)) ea4 dL_law_342 ?_
  refine lv_i2l (v := a4.toInt64) hx hb dL_law_343 rfl ?_
  refine lv_bipush (v := (32 : Int32)) hx hb dL_law_344 (by decide) ?_
  refine lv_lshl (v := pl_shl a4.toInt64 (32 : Int32)) hx hb dL_law_346 rfl ?_
  refine lv_aload_n hx hb dL_law_347 rfl (lv_at hl 0 rfl) ?_
  refine lv_iload hx hb dL_law_348 (lv_at hl 4 rfl) ?_
  refine lv_iconst (v := (5 : Int32)) hx hb dL_law_350 (by decide) ?_
  refine lv_iadd hx hb dL_law_351 ?_
  refine lw_sld hx hb hX hbl hbA hS (lw_in hi7 hL (j := 5) (by decide)) ea5 dL_law_352 ?_
  refine lv_i2l (v := a5.toInt64) hx hb dL_law_353 rfl ?_
  refine lv_ldc2 (v := (4294967295 : Int64)) hx hb hown (hts _ in_c42) dL_law_354 ?_
  refine lv_land hx hb dL_law_357 ?_
  refine lv_lor hx hb dL_law_358 ?_
  refine lv_aload_n hx hb dL_law_359 rfl (lv_at hl 0 rfl) ?_
  refine lv_iload hx hb dL_law_360 (lv_at hl 4 rfl) ?_
  refine lv_bipush (v := (6 : Int32)) hx hb dL_law_362 (by decide) ?_
  refine lv_iadd hx hb dL_law_364 ?_
  refine lw_sld hx hb hX hbl hbA hS (lw_in hi7 hL (j := 6) (by decide)) ea6 dL_law_365 ?_
  refine lv_if_eq (tgt := 373) hx hb dL_law_366 (by decide) (fun c1 => ?_) (fun c1 => ?_)
  · refine lv_iconst (v := (0 : Int32)) hx hb dL_law_373 (by decide) ?_
    refine lv_aload_n hx hb dL_law_374 rfl (lv_at hl 3 rfl) ?_
    refine wq_calli (wc := [(h0, .inr (1, [.ref q1, .ref q2, .ref q3])), (o0, .inl (cO, 1, .inr (.inl ou)))]) (wr := [(q1, .inl (cA, 16, .inr (.inl lo))), (q2, .inl (cB, 16, .inr (.inl hi))), (q3, .inr (0, [.long f0, .long f1, .long f2, .long f3, .long f4, .long f5])), (g0, .inr (2, [.int th, .ref r1, .ref r2, .long fa, .long fb, .int ft, .long xl, .long xh, .long yl, .long yh])), (r1, .inl (cC, 16, .inr (.inl lo))), (r2, .inl (cD, 16, .inr (.inl hi)))]) (w2 := [(h0, .inr (1, [.ref q1, .ref q2, .ref q3])), (q1, .inl (cA, 16, .inr (.inl lo))), (q2, .inl (cB, 16, .inr (.inl hi))), (q3, .inr (0, [.long f0, .long f1, .long f2, .long f3, .long f4, .long f5])), (g0, .inr (2, [.int th, .ref r1, .ref r2, .long fa, .long fb, .int ft, .long xl, .long xh, .long yl, .long yh])), (r1, .inl (cC, 16, .inr (.inl lo))), (r2, .inl (cD, 16, .inr (.inl hi))), (o0, .inl (cO, 1, .inr (.inl ((s_L_exact ou a1 ((pl_shl a2.toInt64 (32 : Int32)) ||| (a3.toInt64 &&& (4294967295 : Int64))) ((pl_shl a4.toInt64 (32 : Int32)) ||| (a5.toInt64 &&& (4294967295 : Int64))) (0 : Int32)).2))))]) (vx_runSW (As := [.ref h0, .int a1, .long ((pl_shl a2.toInt64 (32 : Int32)) ||| (a3.toInt64 &&& (4294967295 : Int64))), .long ((pl_shl a4.toInt64 (32 : Int32)) ||| (a5.toInt64 &&& (4294967295 : Int64))), .int (0 : Int32), .ref o0]) (rest := []) ⟨hx, hb, hml, hown, hts⟩ (c_L_exact l S0 hst dC dI cO h0 o0 q1 q2 q3 H.size ou a1 ((pl_shl a2.toInt64 (32 : Int32)) ||| (a3.toInt64 &&& (4294967295 : Int64))) ((pl_shl a4.toInt64 (32 : Int32)) ||| (a5.toInt64 &&& (4294967295 : Int64))) (0 : Int32)) (vx_cwSW 6 hts gl_L_exact rfl rfl rfl ydS_L_exact ⟨Nat.le_of_ble_eq_true rfl, Nat.le_of_ble_eq_true rfl⟩) (twp_S (hK.sub (tys' := [(cO, .long)]) [4] rfl) (hP.sub (ws' := [(h0, .inr (1, [.ref q1, .ref q2, .ref q3])), (o0, .inl (cO, 1, .inr (.inl ou)))]) [0, 7] rfl) (hD.sub (ws' := [(h0, .inr (1, [.ref q1, .ref q2, .ref q3])), (o0, .inl (cO, 1, .inr (.inl ou)))]) [0, 7] (by decide) rfl) (ham.kept (fun a h1 h2 => hS.2.1 a h1 (fun h3 => h2 (hS1 a h3))))) rfl rfl hl.1 rfl (lv_room (Nat.le_of_ble_eq_true rfl)) dL_law_375 ⟨(by omega : kc + 1 ≤ 601024), (by omega : ks + 6 ≤ 7293034)⟩) hP hD hS hA [0, 7] [1, 2, 3, 4, 5, 6] [6, 0, 1, 2, 3, 4, 5, 7] rfl rfl rfl (by decide) rfl rfl (fun H locs hP hD hS => ?_)
    refine lv_istore (lv' := [(5, .int ((s_L_exact ou a1 ((pl_shl a2.toInt64 (32 : Int32)) ||| (a3.toInt64 &&& (4294967295 : Int64))) ((pl_shl a4.toInt64 (32 : Int32)) ||| (a5.toInt64 &&& (4294967295 : Int64))) (0 : Int32)).1)), (0, .ref b), (1, .ref h0), (2, .ref g0), (3, .ref o0), (4, .int (nI i))]) hx hb dL_law_378 hl (by decide) rfl (fun ls hl => ?_)
    refine lv_aload_n hx hb dL_law_380 rfl (lv_at hl 3 rfl) ?_
    refine lv_aload_n hx hb dL_law_381 rfl (lv_at hl 1 rfl) ?_
    refine lv_iload hx hb dL_law_382 (lv_at hl 5 rfl) ?_
    refine lv_iconst (v := (1 : Int32)) hx hb dL_law_384 (by decide) ?_
    refine lv_iadd hx hb dL_law_385 ?_
    refine lw_sld hx hb hX hbl hbA hS (lw_in hi7 hL (j := 1) (by decide)) ea1 dL_law_386 ?_
    refine lv_aload_n hx hb dL_law_387 rfl (lv_at hl 1 rfl) ?_
    refine lv_iload hx hb dL_law_388 (lv_at hl 5 rfl) ?_
    refine lv_iconst (v := (2 : Int32)) hx hb dL_law_390 (by decide) ?_
    refine lv_iadd hx hb dL_law_391 ?_
    refine lw_sld hx hb hX hbl hbA hS (lw_in hi7 hL (j := 2) (by decide)) ea2 dL_law_392 ?_
    refine lv_i2l (v := a2.toInt64) hx hb dL_law_393 rfl ?_
    refine lv_bipush (v := (32 : Int32)) hx hb dL_law_394 (by decide) ?_
    refine lv_lshl (v := pl_shl a2.toInt64 (32 : Int32)) hx hb dL_law_396 rfl ?_
    refine lv_aload_n hx hb dL_law_397 rfl (lv_at hl 1 rfl) ?_
    refine lv_iload hx hb dL_law_398 (lv_at hl 5 rfl) ?_
    refine lv_iconst (v := (3 : Int32)) hx hb dL_law_400 (by decide) ?_
    refine lv_iadd hx hb dL_law_401 ?_
    refine lw_sld hx hb hX hbl hbA hS (lw_in hi7 hL (j := 3) (by decide)) ea3 dL_law_402 ?_
    refine lv_i2l (v := a3.toInt64) hx hb dL_law_403 rfl ?_
    refine lv_ldc2 (v := (4294967295 : Int64)) hx hb hown (hts _ in_c42) dL_law_404 ?_
    refine lv_land hx hb dL_law_407 ?_
    refine lv_lor hx hb dL_law_408 ?_
    refine lv_aload_n hx hb dL_law_409 rfl (lv_at hl 1 rfl) ?_
    refine lv_iload hx hb dL_law_410 (lv_at hl 5 rfl) ?_
    refine lv_iconst (v := (4 : Int32)) hx hb dL_law_412 (by decide) ?_
    refine lv_iadd hx hb dL_law_413 ?_
    refine lw_sld hx hb hX hbl hbA hS (lw_in hi7 hL (j := 4) (by decide)) ea4 dL_law_414 ?_
    refine lv_i2l (v := a4.toInt64) hx hb dL_law_415 rfl ?_
    refine lv_bipush (v := (32 : Int32)) hx hb dL_law_416 (by decide) ?_
    refine lv_lshl (v := pl_shl a4.toInt64 (32 : Int32)) hx hb dL_law_418 rfl ?_
    refine lv_aload_n hx hb dL_law_419 rfl (lv_at hl 1 rfl) ?_
    refine lv_iload hx hb dL_law_420 (lv_at hl 5 rfl) ?_
    refine lv_iconst (v := (5 : Int32)) hx hb dL_law_422 (by decide) ?_
    refine lv_iadd hx hb dL_law_423 ?_
    refine lw_sld hx hb hX hbl hbA hS (lw_in hi7 hL (j := 5) (by decide)) ea5 dL_law_424 ?_
    refine lv_i2l (v := a5.toInt64) hx hb dL_law_425 rfl ?_
    refine lv_ldc2 (v := (4294967295 : Int64)) hx hb hown (hts _ in_c42) dL_law_426 ?_
    refine lv_land hx hb dL_law_429 ?_
    refine lv_lor hx hb dL_law_430 ?_
    refine lv_aload_n hx hb dL_law_431 rfl (lv_at hl 1 rfl) ?_
    refine lv_iload hx hb dL_law_432 (lv_at hl 5 rfl) ?_
    refine lv_bipush (v := (6 : Int32)) hx hb dL_law_434 (by decide) ?_
    refine lv_iadd hx hb dL_law_436 ?_
    refine lw_sld hx hb hX hbl hbA hS (lw_in hi7 hL (j := 6) (by decide)) ea6 dL_law_437 ?_
    refine lv_if_eq (tgt := 445) hx hb dL_law_438 (by decide) (fun _ => ?_) (fun h => absurd (c1) h)
    refine lv_iconst (v := (0 : Int32)) hx hb dL_law_445 (by decide) ?_
    refine wq_calll (wc := [(g0, .inr (2, [.int th, .ref r1, .ref r2, .long fa, .long fb, .int ft, .long xl, .long xh, .long yl, .long yh])), (r1, .inl (cC, 16, .inr (.inl lo))), (r2, .inl (cD, 16, .inr (.inl hi)))]) (wr := [(h0, .inr (1, [.ref q1, .ref q2, .ref q3])), (q1, .inl (cA, 16, .inr (.inl lo))), (q2, .inl (cB, 16, .inr (.inl hi))), (q3, .inr (0, [.long f0, .long f1, .long f2, .long f3, .long f4, .long f5])), (o0, .inl (cO, 1, .inr (.inl ((s_L_exact ou a1 ((pl_shl a2.toInt64 (32 : Int32)) ||| (a3.toInt64 &&& (4294967295 : Int64))) ((pl_shl a4.toInt64 (32 : Int32)) ||| (a5.toInt64 &&& (4294967295 : Int64))) (0 : Int32)).2))))]) (w2 := [(h0, .inr (1, [.ref q1, .ref q2, .ref q3])), (q1, .inl (cA, 16, .inr (.inl lo))), (q2, .inl (cB, 16, .inr (.inl hi))), (q3, .inr (0, [.long f0, .long f1, .long f2, .long f3, .long f4, .long f5])), (g0, .inr (2, [.int ((s_X3_exact a1 ((pl_shl a2.toInt64 (32 : Int32)) ||| (a3.toInt64 &&& (4294967295 : Int64))) ((pl_shl a4.toInt64 (32 : Int32)) ||| (a5.toInt64 &&& (4294967295 : Int64))) (0 : Int32)).2), .ref r1, .ref r2, .long fa, .long fb, .int ft, .long xl, .long xh, .long yl, .long yh])), (r1, .inl (cC, 16, .inr (.inl lo))), (r2, .inl (cD, 16, .inr (.inl hi))), (o0, .inl (cO, 1, .inr (.inl ((s_L_exact ou a1 ((pl_shl a2.toInt64 (32 : Int32)) ||| (a3.toInt64 &&& (4294967295 : Int64))) ((pl_shl a4.toInt64 (32 : Int32)) ||| (a5.toInt64 &&& (4294967295 : Int64))) (0 : Int32)).2))))]) (va_runV (As := [.int a1, .long ((pl_shl a2.toInt64 (32 : Int32)) ||| (a3.toInt64 &&& (4294967295 : Int64))), .long ((pl_shl a4.toInt64 (32 : Int32)) ||| (a5.toInt64 &&& (4294967295 : Int64))), .int (0 : Int32)]) (rest := []) ⟨hx, hb, hml, hown, hts⟩ (c_X3_exact l dC dI cC cD g0 r1 r2 H.size th fa fb ft xl xh yl yh lo hi a1 ((pl_shl a2.toInt64 (32 : Int32)) ||| (a3.toInt64 &&& (4294967295 : Int64))) ((pl_shl a4.toInt64 (32 : Int32)) ||| (a5.toInt64 &&& (4294967295 : Int64))) (0 : Int32)) (cwV 4 hts gl_X3_exact rfl rfl rfl ydV_X3_exact ⟨Nat.le_of_ble_eq_true rfl, Nat.le_of_ble_eq_true rfl⟩) (wp_V (hK.sub (tys' := [(cC, .long), (cD, .long)]) [2, 3] rfl) (hP.sub (ws' := [(g0, .inr (2, [.int th, .ref r1, .ref r2, .long fa, .long fb, .int ft, .long xl, .long xh, .long yl, .long yh])), (r1, .inl (cC, 16, .inr (.inl lo))), (r2, .inl (cD, 16, .inr (.inl hi)))]) [4, 5, 6] rfl) (hD.sub (ws' := [(g0, .inr (2, [.int th, .ref r1, .ref r2, .long fa, .long fb, .int ft, .long xl, .long xh, .long yl, .long yh])), (r1, .inl (cC, 16, .inr (.inl lo))), (r2, .inl (cD, 16, .inr (.inl hi)))]) [4, 5, 6] (by decide) rfl)  rfl rfl) rfl rfl hl.1 rfl (lv_room (Nat.le_of_ble_eq_true rfl)) dL_law_446 ⟨(by omega : kc + 1 + 0 ≤ 601024), (by omega : ks + 6 + 0 ≤ 7293034)⟩) hP hD hS hA [4, 5, 6] [0, 1, 2, 3, 7] [0, 1, 2, 3, 5, 6, 7, 4] rfl rfl rfl (by decide) rfl rfl (fun H locs hP hD hS => ?_)
    refine lv_lstore (lv' := [(6, .long ((s_X3_exact a1 ((pl_shl a2.toInt64 (32 : Int32)) ||| (a3.toInt64 &&& (4294967295 : Int64))) ((pl_shl a4.toInt64 (32 : Int32)) ||| (a5.toInt64 &&& (4294967295 : Int64))) (0 : Int32)).1)), (5, .int ((s_L_exact ou a1 ((pl_shl a2.toInt64 (32 : Int32)) ||| (a3.toInt64 &&& (4294967295 : Int64))) ((pl_shl a4.toInt64 (32 : Int32)) ||| (a5.toInt64 &&& (4294967295 : Int64))) (0 : Int32)).1)), (0, .ref b), (1, .ref h0), (2, .ref g0), (3, .ref o0), (4, .int (nI i))]) hx hb dL_law_449 hl (by decide) rfl (fun ls hl => ?_)
    refine lv_aload_n hx hb dL_law_451 rfl (lv_at hl 4 rfl) ?_
    refine pq_calli (va_runV (As := []) (rest := []) ⟨hx, hb, hml, hown, hts⟩ (c_X3_thrown l dC dI g0 r1 r2 ((s_X3_exact a1 ((pl_shl a2.toInt64 (32 : Int32)) ||| (a3.toInt64 &&& (4294967295 : Int64))) ((pl_shl a4.toInt64 (32 : Int32)) ||| (a5.toInt64 &&& (4294967295 : Int64))) (0 : Int32)).2) fa fb ft xl xh yl yh) (cwV 0 hts gl_X3_thrown rfl rfl rfl ydV_X3_thrown ⟨Nat.le_of_ble_eq_true rfl, Nat.le_of_ble_eq_true rfl⟩) (rp_V (hK.sub (tys' := []) [] rfl) (hP.sub (ws' := [(g0, .inr (2, [.int ((s_X3_exact a1 ((pl_shl a2.toInt64 (32 : Int32)) ||| (a3.toInt64 &&& (4294967295 : Int64))) ((pl_shl a4.toInt64 (32 : Int32)) ||| (a5.toInt64 &&& (4294967295 : Int64))) (0 : Int32)).2), .ref r1, .ref r2, .long fa, .long fb, .int ft, .long xl, .long xh, .long yl, .long yh]))]) [4] rfl)  rfl rfl) rfl rfl hl.1 rfl (lv_room (Nat.le_of_ble_eq_true rfl)) dL_law_452 ⟨(by omega : kc + 1 + 0 + 0 ≤ 601024), (by omega : ks + 6 + 0 + 0 ≤ 7293034)⟩) ?_
    refine lv_iload hx hb dL_law_455 (lv_at hl 1 rfl) ?_
    refine lv_icmp_eq (tgt := 462) hx hb dL_law_457 (by decide) (fun _ => ?_) (fun h => absurd ((L_exact_eq ou a1 ((pl_shl a2.toInt64 (32 : Int32)) ||| (a3.toInt64 &&& (4294967295 : Int64))) ((pl_shl a4.toInt64 (32 : Int32)) ||| (a5.toInt64 &&& (4294967295 : Int64))) (0 : Int32)).1) h)
    refine lv_iload hx hb dL_law_462 (lv_at hl 1 rfl) ?_
    refine lv_if_ne (tgt := 478) hx hb dL_law_464 (by decide) (fun c2 => ?_) (fun c2 => ?_)
    · refine lv_goto (tgt := 857) hx hb dL_law_478 (by decide) ?_
      refine lv_iinc (v := nI (i + 7)) (lv' := [(4, .int (nI (i + 7))), (6, .long ((s_X3_exact a1 ((pl_shl a2.toInt64 (32 : Int32)) ||| (a3.toInt64 &&& (4294967295 : Int64))) ((pl_shl a4.toInt64 (32 : Int32)) ||| (a5.toInt64 &&& (4294967295 : Int64))) (0 : Int32)).1)), (5, .int ((s_L_exact ou a1 ((pl_shl a2.toInt64 (32 : Int32)) ||| (a3.toInt64 &&& (4294967295 : Int64))) ((pl_shl a4.toInt64 (32 : Int32)) ||| (a5.toInt64 &&& (4294967295 : Int64))) (0 : Int32)).1)), (0, .ref b), (1, .ref h0), (2, .ref g0), (3, .ref o0)]) hx hb dL_law_857 hl (k := 6) rfl (lw_i7 i) (by decide) rfl (fun ls hl => ?_)
      refine lv_goto (tgt := 23) hx hb dL_law_860 (by decide) ?_
      exact ih _ _ _ _ _ _ _ _ _ _ _ _ _ _ _ _ _ _ _ _ _ _ hok (by omega) (by omega) hP hD hS (lv_sub hl [3, 4, 5, 6, 0] rfl)
    · refine lv_aload_n hx hb dL_law_467 rfl (lv_at hl 5 rfl) ?_
      refine lv_iconst (v := (0 : Int32)) hx hb dL_law_468 (by decide) ?_
      refine va_lald hx hb hK hP 7 4 rfl rfl (by unfold vp_in; decide) dL_law_469 ?_
      refine lv_lload hx hb dL_law_470 (lv_at hl 0 rfl) ?_
      refine pl_eq (tgt := 478) hx hb dL_law_472 dL_law_473 (by decide) (fun _ => ?_) (fun h => absurd ((L_exact_eq ou a1 ((pl_shl a2.toInt64 (32 : Int32)) ||| (a3.toInt64 &&& (4294967295 : Int64))) ((pl_shl a4.toInt64 (32 : Int32)) ||| (a5.toInt64 &&& (4294967295 : Int64))) (0 : Int32)).2 c2) h)
      refine lv_goto (tgt := 857) hx hb dL_law_478 (by decide) ?_
      refine lv_iinc (v := nI (i + 7)) (lv' := [(4, .int (nI (i + 7))), (6, .long ((s_X3_exact a1 ((pl_shl a2.toInt64 (32 : Int32)) ||| (a3.toInt64 &&& (4294967295 : Int64))) ((pl_shl a4.toInt64 (32 : Int32)) ||| (a5.toInt64 &&& (4294967295 : Int64))) (0 : Int32)).1)), (5, .int ((s_L_exact ou a1 ((pl_shl a2.toInt64 (32 : Int32)) ||| (a3.toInt64 &&& (4294967295 : Int64))) ((pl_shl a4.toInt64 (32 : Int32)) ||| (a5.toInt64 &&& (4294967295 : Int64))) (0 : Int32)).1)), (0, .ref b), (1, .ref h0), (2, .ref g0), (3, .ref o0)]) hx hb dL_law_857 hl (k := 6) rfl (lw_i7 i) (by decide) rfl (fun ls hl => ?_)
      refine lv_goto (tgt := 23) hx hb dL_law_860 (by decide) ?_
      exact ih _ _ _ _ _ _ _ _ _ _ _ _ _ _ _ _ _ _ _ _ _ _ hok (by omega) (by omega) hP hD hS (lv_sub hl [3, 4, 5, 6, 0] rfl)
  · refine lv_iconst (v := (1 : Int32)) hx hb dL_law_369 (by decide) ?_
    refine lv_goto (tgt := 374) hx hb dL_law_370 (by decide) ?_
    refine lv_aload_n hx hb dL_law_374 rfl (lv_at hl 3 rfl) ?_
    refine wq_calli (wc := [(h0, .inr (1, [.ref q1, .ref q2, .ref q3])), (o0, .inl (cO, 1, .inr (.inl ou)))]) (wr := [(q1, .inl (cA, 16, .inr (.inl lo))), (q2, .inl (cB, 16, .inr (.inl hi))), (q3, .inr (0, [.long f0, .long f1, .long f2, .long f3, .long f4, .long f5])), (g0, .inr (2, [.int th, .ref r1, .ref r2, .long fa, .long fb, .int ft, .long xl, .long xh, .long yl, .long yh])), (r1, .inl (cC, 16, .inr (.inl lo))), (r2, .inl (cD, 16, .inr (.inl hi)))]) (w2 := [(h0, .inr (1, [.ref q1, .ref q2, .ref q3])), (q1, .inl (cA, 16, .inr (.inl lo))), (q2, .inl (cB, 16, .inr (.inl hi))), (q3, .inr (0, [.long f0, .long f1, .long f2, .long f3, .long f4, .long f5])), (g0, .inr (2, [.int th, .ref r1, .ref r2, .long fa, .long fb, .int ft, .long xl, .long xh, .long yl, .long yh])), (r1, .inl (cC, 16, .inr (.inl lo))), (r2, .inl (cD, 16, .inr (.inl hi))), (o0, .inl (cO, 1, .inr (.inl ((s_L_exact ou a1 ((pl_shl a2.toInt64 (32 : Int32)) ||| (a3.toInt64 &&& (4294967295 : Int64))) ((pl_shl a4.toInt64 (32 : Int32)) ||| (a5.toInt64 &&& (4294967295 : Int64))) (1 : Int32)).2))))]) (vx_runSW (As := [.ref h0, .int a1, .long ((pl_shl a2.toInt64 (32 : Int32)) ||| (a3.toInt64 &&& (4294967295 : Int64))), .long ((pl_shl a4.toInt64 (32 : Int32)) ||| (a5.toInt64 &&& (4294967295 : Int64))), .int (1 : Int32), .ref o0]) (rest := []) ⟨hx, hb, hml, hown, hts⟩ (c_L_exact l S0 hst dC dI cO h0 o0 q1 q2 q3 H.size ou a1 ((pl_shl a2.toInt64 (32 : Int32)) ||| (a3.toInt64 &&& (4294967295 : Int64))) ((pl_shl a4.toInt64 (32 : Int32)) ||| (a5.toInt64 &&& (4294967295 : Int64))) (1 : Int32)) (vx_cwSW 6 hts gl_L_exact rfl rfl rfl ydS_L_exact ⟨Nat.le_of_ble_eq_true rfl, Nat.le_of_ble_eq_true rfl⟩) (twp_S (hK.sub (tys' := [(cO, .long)]) [4] rfl) (hP.sub (ws' := [(h0, .inr (1, [.ref q1, .ref q2, .ref q3])), (o0, .inl (cO, 1, .inr (.inl ou)))]) [0, 7] rfl) (hD.sub (ws' := [(h0, .inr (1, [.ref q1, .ref q2, .ref q3])), (o0, .inl (cO, 1, .inr (.inl ou)))]) [0, 7] (by decide) rfl) (ham.kept (fun a h1 h2 => hS.2.1 a h1 (fun h3 => h2 (hS1 a h3))))) rfl rfl hl.1 rfl (lv_room (Nat.le_of_ble_eq_true rfl)) dL_law_375 ⟨(by omega : kc + 1 ≤ 601024), (by omega : ks + 6 ≤ 7293034)⟩) hP hD hS hA [0, 7] [1, 2, 3, 4, 5, 6] [6, 0, 1, 2, 3, 4, 5, 7] rfl rfl rfl (by decide) rfl rfl (fun H locs hP hD hS => ?_)
    refine lv_istore (lv' := [(5, .int ((s_L_exact ou a1 ((pl_shl a2.toInt64 (32 : Int32)) ||| (a3.toInt64 &&& (4294967295 : Int64))) ((pl_shl a4.toInt64 (32 : Int32)) ||| (a5.toInt64 &&& (4294967295 : Int64))) (1 : Int32)).1)), (0, .ref b), (1, .ref h0), (2, .ref g0), (3, .ref o0), (4, .int (nI i))]) hx hb dL_law_378 hl (by decide) rfl (fun ls hl => ?_)
    refine lv_aload_n hx hb dL_law_380 rfl (lv_at hl 3 rfl) ?_
    refine lv_aload_n hx hb dL_law_381 rfl (lv_at hl 1 rfl) ?_
    refine lv_iload hx hb dL_law_382 (lv_at hl 5 rfl) ?_
    refine lv_iconst (v := (1 : Int32)) hx hb dL_law_384 (by decide) ?_
    refine lv_iadd hx hb dL_law_385 ?_
    refine lw_sld hx hb hX hbl hbA hS (lw_in hi7 hL (j := 1) (by decide)) ea1 dL_law_386 ?_
    refine lv_aload_n hx hb dL_law_387 rfl (lv_at hl 1 rfl) ?_
    refine lv_iload hx hb dL_law_388 (lv_at hl 5 rfl) ?_
    refine lv_iconst (v := (2 : Int32)) hx hb dL_law_390 (by decide) ?_
    refine lv_iadd hx hb dL_law_391 ?_
    refine lw_sld hx hb hX hbl hbA hS (lw_in hi7 hL (j := 2) (by decide)) ea2 dL_law_392 ?_
    refine lv_i2l (v := a2.toInt64) hx hb dL_law_393 rfl ?_
    refine lv_bipush (v := (32 : Int32)) hx hb dL_law_394 (by decide) ?_
    refine lv_lshl (v := pl_shl a2.toInt64 (32 : Int32)) hx hb dL_law_396 rfl ?_
    refine lv_aload_n hx hb dL_law_397 rfl (lv_at hl 1 rfl) ?_
    refine lv_iload hx hb dL_law_398 (lv_at hl 5 rfl) ?_
    refine lv_iconst (v := (3 : Int32)) hx hb dL_law_400 (by decide) ?_
    refine lv_iadd hx hb dL_law_401 ?_
    refine lw_sld hx hb hX hbl hbA hS (lw_in hi7 hL (j := 3) (by decide)) ea3 dL_law_402 ?_
    refine lv_i2l (v := a3.toInt64) hx hb dL_law_403 rfl ?_
    refine lv_ldc2 (v := (4294967295 : Int64)) hx hb hown (hts _ in_c42) dL_law_404 ?_
    refine lv_land hx hb dL_law_407 ?_
    refine lv_lor hx hb dL_law_408 ?_
    refine lv_aload_n hx hb dL_law_409 rfl (lv_at hl 1 rfl) ?_
    refine lv_iload hx hb dL_law_410 (lv_at hl 5 rfl) ?_
    refine lv_iconst (v := (4 : Int32)) hx hb dL_law_412 (by decide) ?_
    refine lv_iadd hx hb dL_law_413 ?_
    refine lw_sld hx hb hX hbl hbA hS (lw_in hi7 hL (j := 4) (by decide)) ea4 dL_law_414 ?_
    refine lv_i2l (v := a4.toInt64) hx hb dL_law_415 rfl ?_
    refine lv_bipush (v := (32 : Int32)) hx hb dL_law_416 (by decide) ?_
    refine lv_lshl (v := pl_shl a4.toInt64 (32 : Int32)) hx hb dL_law_418 rfl ?_
    refine lv_aload_n hx hb dL_law_419 rfl (lv_at hl 1 rfl) ?_
    refine lv_iload hx hb dL_law_420 (lv_at hl 5 rfl) ?_
    refine lv_iconst (v := (5 : Int32)) hx hb dL_law_422 (by decide) ?_
    refine lv_iadd hx hb dL_law_423 ?_
    refine lw_sld hx hb hX hbl hbA hS (lw_in hi7 hL (j := 5) (by decide)) ea5 dL_law_424 ?_
    refine lv_i2l (v := a5.toInt64) hx hb dL_law_425 rfl ?_
    refine lv_ldc2 (v := (4294967295 : Int64)) hx hb hown (hts _ in_c42) dL_law_426 ?_
    refine lv_land hx hb dL_law_429 ?_
    refine lv_lor hx hb dL_law_430 ?_
    refine lv_aload_n hx hb dL_law_431 rfl (lv_at hl 1 rfl) ?_
    refine lv_iload hx hb dL_law_432 (lv_at hl 5 rfl) ?_
    refine lv_bipush (v := (6 : Int32)) hx hb dL_law_434 (by decide) ?_
    refine lv_iadd hx hb dL_law_436 ?_
    refine lw_sld hx hb hX hbl hbA hS (lw_in hi7 hL (j := 6) (by decide)) ea6 dL_law_437 ?_
    refine lv_if_eq (tgt := 445) hx hb dL_law_438 (by decide) (fun h => absurd h (c1)) (fun _ => ?_)
    refine lv_iconst (v := (1 : Int32)) hx hb dL_law_441 (by decide) ?_
    refine lv_goto (tgt := 446) hx hb dL_law_442 (by decide) ?_
    refine wq_calll (wc := [(g0, .inr (2, [.int th, .ref r1, .ref r2, .long fa, .long fb, .int ft, .long xl, .long xh, .long yl, .long yh])), (r1, .inl (cC, 16, .inr (.inl lo))), (r2, .inl (cD, 16, .inr (.inl hi)))]) (wr := [(h0, .inr (1, [.ref q1, .ref q2, .ref q3])), (q1, .inl (cA, 16, .inr (.inl lo))), (q2, .inl (cB, 16, .inr (.inl hi))), (q3, .inr (0, [.long f0, .long f1, .long f2, .long f3, .long f4, .long f5])), (o0, .inl (cO, 1, .inr (.inl ((s_L_exact ou a1 ((pl_shl a2.toInt64 (32 : Int32)) ||| (a3.toInt64 &&& (4294967295 : Int64))) ((pl_shl a4.toInt64 (32 : Int32)) ||| (a5.toInt64 &&& (4294967295 : Int64))) (1 : Int32)).2))))]) (w2 := [(h0, .inr (1, [.ref q1, .ref q2, .ref q3])), (q1, .inl (cA, 16, .inr (.inl lo))), (q2, .inl (cB, 16, .inr (.inl hi))), (q3, .inr (0, [.long f0, .long f1, .long f2, .long f3, .long f4, .long f5])), (g0, .inr (2, [.int ((s_X3_exact a1 ((pl_shl a2.toInt64 (32 : Int32)) ||| (a3.toInt64 &&& (4294967295 : Int64))) ((pl_shl a4.toInt64 (32 : Int32)) ||| (a5.toInt64 &&& (4294967295 : Int64))) (1 : Int32)).2), .ref r1, .ref r2, .long fa, .long fb, .int ft, .long xl, .long xh, .long yl, .long yh])), (r1, .inl (cC, 16, .inr (.inl lo))), (r2, .inl (cD, 16, .inr (.inl hi))), (o0, .inl (cO, 1, .inr (.inl ((s_L_exact ou a1 ((pl_shl a2.toInt64 (32 : Int32)) ||| (a3.toInt64 &&& (4294967295 : Int64))) ((pl_shl a4.toInt64 (32 : Int32)) ||| (a5.toInt64 &&& (4294967295 : Int64))) (1 : Int32)).2))))]) (va_runV (As := [.int a1, .long ((pl_shl a2.toInt64 (32 : Int32)) ||| (a3.toInt64 &&& (4294967295 : Int64))), .long ((pl_shl a4.toInt64 (32 : Int32)) ||| (a5.toInt64 &&& (4294967295 : Int64))), .int (1 : Int32)]) (rest := []) ⟨hx, hb, hml, hown, hts⟩ (c_X3_exact l dC dI cC cD g0 r1 r2 H.size th fa fb ft xl xh yl yh lo hi a1 ((pl_shl a2.toInt64 (32 : Int32)) ||| (a3.toInt64 &&& (4294967295 : Int64))) ((pl_shl a4.toInt64 (32 : Int32)) ||| (a5.toInt64 &&& (4294967295 : Int64))) (1 : Int32)) (cwV 4 hts gl_X3_exact rfl rfl rfl ydV_X3_exact ⟨Nat.le_of_ble_eq_true rfl, Nat.le_of_ble_eq_true rfl⟩) (wp_V (hK.sub (tys' := [(cC, .long), (cD, .long)]) [2, 3] rfl) (hP.sub (ws' := [(g0, .inr (2, [.int th, .ref r1, .ref r2, .long fa, .long fb, .int ft, .long xl, .long xh, .long yl, .long yh])), (r1, .inl (cC, 16, .inr (.inl lo))), (r2, .inl (cD, 16, .inr (.inl hi)))]) [4, 5, 6] rfl) (hD.sub (ws' := [(g0, .inr (2, [.int th, .ref r1, .ref r2, .long fa, .long fb, .int ft, .long xl, .long xh, .long yl, .long yh])), (r1, .inl (cC, 16, .inr (.inl lo))), (r2, .inl (cD, 16, .inr (.inl hi)))]) [4, 5, 6] (by decide) rfl)  rfl rfl) rfl rfl hl.1 rfl (lv_room (Nat.le_of_ble_eq_true rfl)) dL_law_446 ⟨(by omega : kc + 1 + 0 ≤ 601024), (by omega : ks + 6 + 0 ≤ 7293034)⟩) hP hD hS hA [4, 5, 6] [0, 1, 2, 3, 7] [0, 1, 2, 3, 5, 6, 7, 4] rfl rfl rfl (by decide) rfl rfl (fun H locs hP hD hS => ?_)
    refine lv_lstore (lv' := [(6, .long ((s_X3_exact a1 ((pl_shl a2.toInt64 (32 : Int32)) ||| (a3.toInt64 &&& (4294967295 : Int64))) ((pl_shl a4.toInt64 (32 : Int32)) ||| (a5.toInt64 &&& (4294967295 : Int64))) (1 : Int32)).1)), (5, .int ((s_L_exact ou a1 ((pl_shl a2.toInt64 (32 : Int32)) ||| (a3.toInt64 &&& (4294967295 : Int64))) ((pl_shl a4.toInt64 (32 : Int32)) ||| (a5.toInt64 &&& (4294967295 : Int64))) (1 : Int32)).1)), (0, .ref b), (1, .ref h0), (2, .ref g0), (3, .ref o0), (4, .int (nI i))]) hx hb dL_law_449 hl (by decide) rfl (fun ls hl => ?_)
    refine lv_aload_n hx hb dL_law_451 rfl (lv_at hl 4 rfl) ?_
    refine pq_calli (va_runV (As := []) (rest := []) ⟨hx, hb, hml, hown, hts⟩ (c_X3_thrown l dC dI g0 r1 r2 ((s_X3_exact a1 ((pl_shl a2.toInt64 (32 : Int32)) ||| (a3.toInt64 &&& (4294967295 : Int64))) ((pl_shl a4.toInt64 (32 : Int32)) ||| (a5.toInt64 &&& (4294967295 : Int64))) (1 : Int32)).2) fa fb ft xl xh yl yh) (cwV 0 hts gl_X3_thrown rfl rfl rfl ydV_X3_thrown ⟨Nat.le_of_ble_eq_true rfl, Nat.le_of_ble_eq_true rfl⟩) (rp_V (hK.sub (tys' := []) [] rfl) (hP.sub (ws' := [(g0, .inr (2, [.int ((s_X3_exact a1 ((pl_shl a2.toInt64 (32 : Int32)) ||| (a3.toInt64 &&& (4294967295 : Int64))) ((pl_shl a4.toInt64 (32 : Int32)) ||| (a5.toInt64 &&& (4294967295 : Int64))) (1 : Int32)).2), .ref r1, .ref r2, .long fa, .long fb, .int ft, .long xl, .long xh, .long yl, .long yh]))]) [4] rfl)  rfl rfl) rfl rfl hl.1 rfl (lv_room (Nat.le_of_ble_eq_true rfl)) dL_law_452 ⟨(by omega : kc + 1 + 0 + 0 ≤ 601024), (by omega : ks + 6 + 0 + 0 ≤ 7293034)⟩) ?_
    refine lv_iload hx hb dL_law_455 (lv_at hl 1 rfl) ?_
    refine lv_icmp_eq (tgt := 462) hx hb dL_law_457 (by decide) (fun _ => ?_) (fun h => absurd ((L_exact_eq ou a1 ((pl_shl a2.toInt64 (32 : Int32)) ||| (a3.toInt64 &&& (4294967295 : Int64))) ((pl_shl a4.toInt64 (32 : Int32)) ||| (a5.toInt64 &&& (4294967295 : Int64))) (1 : Int32)).1) h)
    refine lv_iload hx hb dL_law_462 (lv_at hl 1 rfl) ?_
    refine lv_if_ne (tgt := 478) hx hb dL_law_464 (by decide) (fun c3 => ?_) (fun c3 => ?_)
    · refine lv_goto (tgt := 857) hx hb dL_law_478 (by decide) ?_
      refine lv_iinc (v := nI (i + 7)) (lv' := [(4, .int (nI (i + 7))), (6, .long ((s_X3_exact a1 ((pl_shl a2.toInt64 (32 : Int32)) ||| (a3.toInt64 &&& (4294967295 : Int64))) ((pl_shl a4.toInt64 (32 : Int32)) ||| (a5.toInt64 &&& (4294967295 : Int64))) (1 : Int32)).1)), (5, .int ((s_L_exact ou a1 ((pl_shl a2.toInt64 (32 : Int32)) ||| (a3.toInt64 &&& (4294967295 : Int64))) ((pl_shl a4.toInt64 (32 : Int32)) ||| (a5.toInt64 &&& (4294967295 : Int64))) (1 : Int32)).1)), (0, .ref b), (1, .ref h0), (2, .ref g0), (3, .ref o0)]) hx hb dL_law_857 hl (k := 6) rfl (lw_i7 i) (by decide) rfl (fun ls hl => ?_)
      refine lv_goto (tgt := 23) hx hb dL_law_860 (by decide) ?_
      exact ih _ _ _ _ _ _ _ _ _ _ _ _ _ _ _ _ _ _ _ _ _ _ hok (by omega) (by omega) hP hD hS (lv_sub hl [3, 4, 5, 6, 0] rfl)
    · refine lv_aload_n hx hb dL_law_467 rfl (lv_at hl 5 rfl) ?_
      refine lv_iconst (v := (0 : Int32)) hx hb dL_law_468 (by decide) ?_
      refine va_lald hx hb hK hP 7 4 rfl rfl (by unfold vp_in; decide) dL_law_469 ?_
      refine lv_lload hx hb dL_law_470 (lv_at hl 0 rfl) ?_
      refine pl_eq (tgt := 478) hx hb dL_law_472 dL_law_473 (by decide) (fun _ => ?_) (fun h => absurd ((L_exact_eq ou a1 ((pl_shl a2.toInt64 (32 : Int32)) ||| (a3.toInt64 &&& (4294967295 : Int64))) ((pl_shl a4.toInt64 (32 : Int32)) ||| (a5.toInt64 &&& (4294967295 : Int64))) (1 : Int32)).2 c3) h)
      refine lv_goto (tgt := 857) hx hb dL_law_478 (by decide) ?_
      refine lv_iinc (v := nI (i + 7)) (lv' := [(4, .int (nI (i + 7))), (6, .long ((s_X3_exact a1 ((pl_shl a2.toInt64 (32 : Int32)) ||| (a3.toInt64 &&& (4294967295 : Int64))) ((pl_shl a4.toInt64 (32 : Int32)) ||| (a5.toInt64 &&& (4294967295 : Int64))) (1 : Int32)).1)), (5, .int ((s_L_exact ou a1 ((pl_shl a2.toInt64 (32 : Int32)) ||| (a3.toInt64 &&& (4294967295 : Int64))) ((pl_shl a4.toInt64 (32 : Int32)) ||| (a5.toInt64 &&& (4294967295 : Int64))) (1 : Int32)).1)), (0, .ref b), (1, .ref h0), (2, .ref g0), (3, .ref o0)]) hx hb dL_law_857 hl (k := 6) rfl (lw_i7 i) (by decide) rfl (fun ls hl => ?_)
      refine lv_goto (tgt := 23) hx hb dL_law_860 (by decide) ?_
      exact ih _ _ _ _ _ _ _ _ _ _ _ _ _ _ _ _ _ _ _ _ _ _ hok (by omega) (by omega) hP hD hS (lv_sub hl [3, 4, 5, 6, 0] rfl)
