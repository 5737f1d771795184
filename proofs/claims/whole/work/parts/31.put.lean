set_option maxHeartbeats 4000000 in
set_option maxRecDepth 100000 in
theorem law_put {p : Program} {l : Launch} {e : Env} {s : State} {m : MethodId} {below : List Frame} {meth : Method} {c : Code} (hst : l.stackTraces = false) (hx : p.tables.exec = Jvm.exec) (hb : c.code = code) (hml : c.maxLocals = 8) (hown : s.vm.findClass RL = some m.cls) {b L : Nat} {xs : Nat → Int32} (hts : ∀ w ∈ lw_tbl, w.before #[Value.ref b] s = true) (hX : va_X b L xs s s.heap) (hbl : b < s.heap.size) {A : Nat → Prop} {S0 : Nat} (hA : ∀ q : Nat, s.heap.size ≤ q → A q) (hS1 : ∀ q, A q → S0 ≤ q) (hbA : ¬ A b) (ham : am S0 s s.heap) {dC : Nat → ClassId} {dI : Nat → Nat → Nat} {h0 q1 q2 q3 g0 r1 r2 o0 : Nat} {cA cB cC cD cO : ClassId} (hK : va_K (dC, dI) vwCl [(cA, .long), (cB, .long), (cC, .long), (cD, .long), (cO, .long)] s) (hL : L ≤ 3584) {n i : Nat} (hi7 : i + 7 ≤ L) (ih : lwK p l e s m below meth c (dC, dI) A b h0 q1 q2 q3 g0 r1 r2 o0 cA cB cC cD cO n (i + 7)) {f0 : Int64} {f1 : Int64} {f2 : Int64} {f3 : Int64} {f4 : Int64} {f5 : Int64} {th : Int32} {fa : Int64} {fb : Int64} {ft : Int32} {xl : Int64} {xh : Int64} {yl : Int64} {yh : Int64} {lo : Nat → Int64} {hi : Nat → Int64} {ou : Nat → Int64} {kc : Nat} {ks : Nat} {H : Heap} {locs : List Loc} {ls : Array Slot} (hok : okR lo hi) (hkc : kc + 8 * (n + 1) ≤ 601024) (hks : ks + 48 * (n + 1) ≤ 7293034) (hP : va_P (dC, dI) vwCl [(h0, .inr (1, [.ref q1, .ref q2, .ref q3])), (q1, .inl (cA, 16, .inr (.inl lo))), (q2, .inl (cB, 16, .inr (.inl hi))), (q3, .inr (0, [.long f0, .long f1, .long f2, .long f3, .long f4, .long f5])), (g0, .inr (2, [.int th, .ref r1, .ref r2, .long fa, .long fb, .int ft, .long xl, .long xh, .long yl, .long yh])), (r1, .inl (cC, 16, .inr (.inl lo))), (r2, .inl (cD, 16, .inr (.inl hi))), (o0, .inl (cO, 1, .inr (.inl ou)))] H) (hD : va_D A [(h0, .inr (1, [.ref q1, .ref q2, .ref q3])), (q1, .inl (cA, 16, .inr (.inl lo))), (q2, .inl (cB, 16, .inr (.inl hi))), (q3, .inr (0, [.long f0, .long f1, .long f2, .long f3, .long f4, .long f5])), (g0, .inr (2, [.int th, .ref r1, .ref r2, .long fa, .long fb, .int ft, .long xl, .long xh, .long yl, .long yh])), (r1, .inl (cC, 16, .inr (.inl lo))), (r2, .inl (cD, 16, .inr (.inl hi))), (o0, .inl (cO, 1, .inr (.inl ou)))]) (hS : va_S A s.heap H locs) (hl : lv_has ls 8 [(0, .ref b), (1, .ref h0), (2, .ref g0), (3, .ref o0), (4, .int (nI i))]) : W p l e room_1 s m #[Value.ref b] below meth c H locs kc ks (lw_Z below #[Value.ref b] s) (F0 m 84 ls []) := by
  obtain ⟨a1, ea1⟩ : ∃ y : Int32, y = xs (nI i + (1 : Int32)).toNatClampNeg := ⟨_, rfl⟩
  obtain ⟨a2, ea2⟩ : ∃ y : Int32, y = xs (nI i + (2 : Int32)).toNatClampNeg := ⟨_, rfl⟩
  obtain ⟨a3, ea3⟩ : ∃ y : Int32, y = xs (nI i + (3 : Int32)).toNatClampNeg := ⟨_, rfl⟩
  obtain ⟨a4, ea4⟩ : ∃ y : Int32, y = xs (nI i + (4 : Int32)).toNatClampNeg := ⟨_, rfl⟩
  obtain ⟨a5, ea5⟩ : ∃ y : Int32, y = xs (nI i + (5 : Int32)).toNatClampNeg := ⟨_, rfl⟩
  refine lv_aload_n hx hb dL_law_84 rfl (lv_at hl 1 rfl) ?_
  refine lv_aload_n hx hb dL_law_85 rfl (lv_at hl 0 rfl) ?_
  refine lv_iload hx hb dL_law_86 (lv_at hl 4 rfl) ?_
  refine lv_iconst (v := (1 : Int32)) hx hb dL_law_88 (by decide) ?_
  refine lv_iadd hx hb dL_law_89 ?_
  refine lw_sld hx hb hX hbl hbA hS (lw_in hi7 hL (j := 1) (by decide)) ea1 dL_law_90 ?_
  refine lv_aload_n hx hb dL_law_91 rfl (lv_at hl 0 rfl) ?_
  refine lv_iload hx hb dL_law_92 (lv_at hl 4 rfl) ?_
  refine lv_iconst (v := (2 : Int32)) hx hb dL_law_94 (by decide) ?_
  refine lv_iadd hx hb dL_law_95 ?_
  refine lw_sld hx hb hX hbl hbA hS (lw_in hi7 hL (j := 2) (by decide)) ea2 dL_law_96 ?_
  refine lv_i2l (v := a2.toInt64) hx hb dL_law_97 rfl ?_
  refine lv_bipush (v := (32 : Int32)) hx hb dL_law_98 (by decide) ?_
  refine lv_lshl (v := pl_shl a2.toInt64 (32 : Int32)) hx hb dL_law_100 rfl ?_
  refine lv_aload_n hx hb dL_law_101 rfl (lv_at hl 0 rfl) ?_
  refine lv_iload hx hb dL_law_102 (lv_at hl 4 rfl) ?_
  refine lv_iconst (v := (3 : Int32)) hx hb dL_law_104 (by decide) ?_
  refine lv_iadd hx hb dL_law_105 ?_
  refine lw_sld hx hb hX hbl hbA hS (lw_in hi7 hL (j := 3) (by decide)) ea3 dL_law_106 ?_
  refine lv_i2l (v := a3.toInt64) hx hb dL_law_107 rfl ?_
  refine lv_ldc2 (v := (4294967295 : Int64)) hx hb hown (hts _ in_c42) dL_law_108 ?_
  refine lv_land hx hb dL_law_111 ?_
  refine lv_lor hx hb dL_law_112 ?_
  refine lv_aload_n hx hb dL_law_113 rfl (lv_at hl 0 rfl) ?_
  refine lv_iload hx hb dL_law_114 (lv_at hl 4 rfl) ?_
  refine lv_iconst (v := (4 : Int32)) hx hb dL_law_116 (by decide) ?_
  refine lv_iadd hx hb dL_law_117 ?_
  refine lw_sld hx hb hX hbl hbA hS (lw_in hi7 hL (j := 4) (by decide)) ea4 dL_law_118 ?_
  refine lv_i2l (v := a4.toInt64) hx hb dL_law_119 rfl ?_
  refine lv_bipush (v := (32 : Int32)) hx hb dL_law_120 (by decide) ?_
  refine lv_lshl (v := pl_shl a4.toInt64 (32 : Int32)) hx hb dL_law_122 rfl ?_
  refine lv_aload_n hx hb dL_law_123 rfl (lv_at hl 0 rfl) ?_
  refine lv_iload hx hb dL_law_124 (lv_at hl 4 rfl) ?_
  refine lv_iconst (v := (5 : Int32)) hx hb dL_law_126 (by decide) ?_
  refine lv_iadd hx hb dL_law_127 ?_
  refine lw_sld hx hb hX hbl hbA hS (lw_in hi7 hL (j := 5) (by decide)) ea5 dL_law_128 ?_
  refine lv_i2l (v := a5.toInt64) hx hb dL_law_129 rfl ?_
  refine lv_ldc2 (v := (4294967295 : Int64)) hx hb hown (hts _ in_c42) dL_law_130 ?_
  refine lv_land hx hb dL_law_133 ?_
  refine lv_lor hx hb dL_law_134 ?_
  refine wq_calli (wc := [(h0, .inr (1, [.ref q1, .ref q2, .ref q3])), (q1, .inl (cA, 16, .inr (.inl lo))), (q2, .inl (cB, 16, .inr (.inl hi)))]) (wr := [(q3, .inr (0, [.long f0, .long f1, .long f2, .long f3, .long f4, .long f5])), (g0, .inr (2, [.int th, .ref r1, .ref r2, .long fa, .long fb, .int ft, .long xl, .long xh, .long yl, .long yh])), (r1, .inl (cC, 16, .inr (.inl lo))), (r2, .inl (cD, 16, .inr (.inl hi))), (o0, .inl (cO, 1, .inr (.inl ou)))]) (w2 := [(h0, .inr (1, [.ref q1, .ref q2, .ref q3])), (q1, .inl (cA, 16, .inr (.inl ((s_L_put lo hi a1 ((pl_shl a2.toInt64 (32 : Int32)) ||| (a3.toInt64 &&& (4294967295 : Int64))) ((pl_shl a4.toInt64 (32 : Int32)) ||| (a5.toInt64 &&& (4294967295 : Int64)))).2.1)))), (q2, .inl (cB, 16, .inr (.inl ((s_L_put lo hi a1 ((pl_shl a2.toInt64 (32 : Int32)) ||| (a3.toInt64 &&& (4294967295 : Int64))) ((pl_shl a4.toInt64 (32 : Int32)) ||| (a5.toInt64 &&& (4294967295 : Int64)))).2.2)))), (q3, .inr (0, [.long f0, .long f1, .long f2, .long f3, .long f4, .long f5])), (g0, .inr (2, [.int th, .ref r1, .ref r2, .long fa, .long fb, .int ft, .long xl, .long xh, .long yl, .long yh])), (r1, .inl (cC, 16, .inr (.inl lo))), (r2, .inl (cD, 16, .inr (.inl hi))), (o0, .inl (cO, 1, .inr (.inl ou)))]) (vx_runSW (As := [.ref h0, .int a1, .long ((pl_shl a2.toInt64 (32 : Int32)) ||| (a3.toInt64 &&& (4294967295 : Int64))), .long ((pl_shl a4.toInt64 (32 : Int32)) ||| (a5.toInt64 &&& (4294967295 : Int64)))]) (rest := []) ⟨hx, hb, hml, hown, hts⟩ (c_L_put l S0 hst dC dI cA cB h0 q1 q2 q3 H.size lo hi a1 ((pl_shl a2.toInt64 (32 : Int32)) ||| (a3.toInt64 &&& (4294967295 : Int64))) ((pl_shl a4.toInt64 (32 : Int32)) ||| (a5.toInt64 &&& (4294967295 : Int64)))) (vx_cwSW 4 hts gl_L_put rfl rfl rfl ydS_L_put ⟨Nat.le_of_ble_eq_true rfl, Nat.le_of_ble_eq_true rfl⟩) (twp_S (hK.sub (tys' := [(cA, .long), (cB, .long)]) [0, 1] rfl) (hP.sub (ws' := [(h0, .inr (1, [.ref q1, .ref q2, .ref q3])), (q1, .inl (cA, 16, .inr (.inl lo))), (q2, .inl (cB, 16, .inr (.inl hi)))]) [0, 1, 2] rfl) (hD.sub (ws' := [(h0, .inr (1, [.ref q1, .ref q2, .ref q3])), (q1, .inl (cA, 16, .inr (.inl lo))), (q2, .inl (cB, 16, .inr (.inl hi)))]) [0, 1, 2] (by decide) rfl) (ham.kept (fun a h1 h2 => hS.2.1 a h1 (fun h3 => h2 (hS1 a h3))))) rfl rfl hl.1 rfl (lv_room (Nat.le_of_ble_eq_true rfl)) dL_law_135 ⟨(by omega : kc + 2 ≤ 601024), (by omega : ks + 12 ≤ 7293034)⟩) hP hD hS hA [0, 1, 2] [3, 4, 5, 6, 7] [5, 6, 7, 0, 1, 2, 3, 4] rfl rfl rfl (by decide) rfl rfl (fun H locs hP hD hS => ?_)
  refine lv_istore (lv' := [(5, .int ((s_L_put lo hi a1 ((pl_shl a2.toInt64 (32 : Int32)) ||| (a3.toInt64 &&& (4294967295 : Int64))) ((pl_shl a4.toInt64 (32 : Int32)) ||| (a5.toInt64 &&& (4294967295 : Int64)))).1)), (0, .ref b), (1, .ref h0), (2, .ref g0), (3, .ref o0), (4, .int (nI i))]) hx hb dL_law_138 hl (by decide) rfl (fun ls hl => ?_)
  refine lv_aload_n hx hb dL_law_140 rfl (lv_at hl 3 rfl) ?_
  refine lv_aload_n hx hb dL_law_141 rfl (lv_at hl 1 rfl) ?_
  refine lv_iload hx hb dL_law_142 (lv_at hl 5 rfl) ?_
  refine lv_iconst (v := (1 : Int32)) hx hb dL_law_144 (by decide) ?_
  refine lv_iadd hx hb dL_law_145 ?_
  refine lw_sld hx hb hX hbl hbA hS (lw_in hi7 hL (j := 1) (by decide)) ea1 dL_law_146 ?_
  refine lv_aload_n hx hb dL_law_147 rfl (lv_at hl 1 rfl) ?_
  refine lv_iload hx hb dL_law_148 (lv_at hl 5 rfl) ?_
  refine lv_iconst (v := (2 : Int32)) hx hb dL_law_150 (by decide) ?_
  refine lv_iadd hx hb dL_law_151 ?_
  refine lw_sld hx hb hX hbl hbA hS (lw_in hi7 hL (j := 2) (by decide)) ea2 dL_law_152 ?_
  refine lv_i2l (v := a2.toInt64) hx hb dL_law_153 rfl ?_
  refine lv_bipush (v := (32 : Int32)) hx hb dL_law_154 (by decide) ?_
  refine lv_lshl (v := pl_shl a2.toInt64 (32 : Int32)) hx hb dL_law_156 rfl ?_
  refine lv_aload_n hx hb dL_law_157 rfl (lv_at hl 1 rfl) ?_
  refine lv_iload hx hb dL_law_158 (lv_at hl 5 rfl) ?_
  refine lv_iconst (v := (3 : Int32)) hx hb dL_law_160 (by decide) ?_
  refine lv_iadd hx hb dL_law_161 ?_
  refine lw_sld hx hb hX hbl hbA hS (lw_in hi7 hL (j := 3) (by decide)) ea3 dL_law_162 ?_
  refine lv_i2l (v := a3.toInt64) hx hb dL_law_163 rfl ?_
  refine lv_ldc2 (v := (4294967295 : Int64)) hx hb hown (hts _ in_c42) dL_law_164 ?_
  refine lv_land hx hb dL_law_167 ?_
  refine lv_lor hx hb dL_law_168 ?_
  refine lv_aload_n hx hb dL_law_169 rfl (lv_at hl 1 rfl) ?_
  refine lv_iload hx hb dL_law_170 (lv_at hl 5 rfl) ?_
  refine lv_iconst (v := (4 : Int32)) hx hb dL_law_172 (by decide) ?_
  refine lv_iadd hx hb dL_law_173 ?_
  refine lw_sld hx hb hX hbl hbA hS (lw_in hi7 hL (j := 4) (by decide)) ea4 dL_law_174 ?_
  refine lv_i2l (v := a4.toInt64) hx hb dL_law_175 rfl ?_
  refine lv_bipush (v := (32 : Int32)) hx hb dL_law_176 (by decide) ?_
  refine lv_lshl (v := pl_shl a4.toInt64 (32 : Int32)) hx hb dL_law_178 rfl ?_
  refine lv_aload_n hx hb dL_law_179 rfl (lv_at hl 1 rfl) ?_
  refine lv_iload hx hb dL_law_180 (lv_at hl 5 rfl) ?_
  refine lv_iconst (v := (5 : Int32)) hx hb dL_law_182 (by decide) ?_
  refine lv_iadd hx hb dL_law_183 ?_
  refine lw_sld hx hb hX hbl hbA hS (lw_in hi7 hL (j := 5) (by decide)) ea5 dL_law_184 ?_
  refine lv_i2l (v := a5.toInt64) hx hb dL_law_185 rfl ?_
  refine lv_ldc2 (v := (4294967295 : Int64)) hx hb hown (hts _ in_c42) dL_law_186 ?_
  refine lv_land hx hb dL_law_189 ?_
  refine lv_lor hx hb dL_law_190 ?_
  refine wq_callv (wc := [(g0, .inr (2, [.int th, .ref r1, .ref r2, .long fa, .long fb, .int ft, .long xl, .long xh, .long yl, .long yh])), (r1, .inl (cC, 16, .inr (.inl lo))), (r2, .inl (cD, 16, .inr (.inl hi)))]) (wr := [(h0, .inr (1, [.ref q1, .ref q2, .ref q3])), (q1, .inl (cA, 16, .inr (.inl ((s_L_put lo hi a1 ((pl_shl a2.toInt64 (32 : Int32)) ||| (a3.toInt64 &&& (4294967295 : Int64))) ((pl_shl a4.toInt64 (32 : Int32)) ||| (a5.toInt64 &&& (4294967295 : Int64)))).2.1)))), (q2, .inl (cB, 16, .inr (.inl ((s_L_put lo hi a1 ((pl_shl a2.toInt64 (32 : Int32)) ||| (a3.toInt64 &&& (4294967295 : Int64))) ((pl_shl a4.toInt64 (32 : Int32)) ||| (a5.toInt64 &&& (4294967295 : Int64)))).2.2)))), (q3, .inr (0, [.long f0, .long f1, .long f2, .long f3, .long f4, .long f5])), (o0, .inl (cO, 1, .inr (.inl ou)))]) (w2 := [(h0, .inr (1, [.ref q1, .ref q2, .ref q3])), (q1, .inl (cA, 16, .inr (.inl ((s_L_put lo hi a1 ((pl_shl a2.toInt64 (32 : Int32)) ||| (a3.toInt64 &&& (4294967295 : Int64))) ((pl_shl a4.toInt64 (32 : Int32)) ||| (a5.toInt64 &&& (4294967295 : Int64)))).2.1)))), (q2, .inl (cB, 16, .inr (.inl ((s_L_put lo hi a1 ((pl_shl a2.toInt64 (32 : Int32)) ||| (a3.toInt64 &&& (4294967295 : Int64))) ((pl_shl a4.toInt64 (32 : Int32)) ||| (a5.toInt64 &&& (4294967295 : Int64)))).2.2)))), (q3, .inr (0, [.long f0, .long f1, .long f2, .long f3, .long f4, .long f5])), (g0, .inr (2, [.int ((s_X3_put lo hi a1 ((pl_shl a2.toInt64 (32 : Int32)) ||| (a3.toInt64 &&& (4294967295 : Int64))) ((pl_shl a4.toInt64 (32 : Int32)) ||| (a5.toInt64 &&& (4294967295 : Int64)))).1), .ref r1, .ref r2, .long fa, .long fb, .int ft, .long xl, .long xh, .long yl, .long yh])), (r1, .inl (cC, 16, .inr (.inl ((s_X3_put lo hi a1 ((pl_shl a2.toInt64 (32 : Int32)) ||| (a3.toInt64 &&& (4294967295 : Int64))) ((pl_shl a4.toInt64 (32 : Int32)) ||| (a5.toInt64 &&& (4294967295 : Int64)))).2.1)))), (r2, .inl (cD, 16, .inr (.inl ((s_X3_put lo hi a1 ((pl_shl a2.toInt64 (32 : Int32)) ||| (a3.toInt64 &&& (4294967295 : Int64))) ((pl_shl a4.toInt64 (32 : Int32)) ||| (a5.toInt64 &&& (4294967295 : Int64)))).2.2)))), (o0, .inl (cO, 1, .inr (.inl ou)))]) (va_runV (As := [.int a1, .long ((pl_shl a2.toInt64 (32 : Int32)) ||| (a3.toInt64 &&& (4294967295 : Int64))), .long ((pl_shl a4.toInt64 (32 : Int32)) ||| (a5.toInt64 &&& (4294967295 : Int64)))]) (rest := []) ⟨hx, hb, hml, hown, hts⟩ (c_X3_put l dC dI cC cD g0 r1 r2 H.size th fa fb ft xl xh yl yh lo hi a1 ((pl_shl a2.toInt64 (32 : Int32)) ||| (a3.toInt64 &&& (4294967295 : Int64))) ((pl_shl a4.toInt64 (32 : Int32)) ||| (a5.toInt64 &&& (4294967295 : Int64)))) (cwV 3 hts gl_X3_put rfl rfl rfl ydV_X3_put ⟨Nat.le_of_ble_eq_true rfl, Nat.le_of_ble_eq_true rfl⟩) (wp_V (hK.sub (tys' := [(cC, .long), (cD, .long)]) [2, 3] rfl) (hP.sub (ws' := [(g0, .inr (2, [.int th, .ref r1, .ref r2, .long fa, .long fb, .int ft, .long xl, .long xh, .long yl, .long yh])), (r1, .inl (cC, 16, .inr (.inl lo))), (r2, .inl (cD, 16, .inr (.inl hi)))]) [4, 5, 6] rfl) (hD.sub (ws' := [(g0, .inr (2, [.int th, .ref r1, .ref r2, .long fa, .long fb, .int ft, .long xl, .long xh, .long yl, .long yh])), (r1, .inl (cC, 16, .inr (.inl lo))), (r2, .inl (cD, 16, .inr (.inl hi)))]) [4, 5, 6] (by decide) rfl)  rfl rfl) rfl rfl hl.1 rfl (lv_room (Nat.le_of_ble_eq_true rfl)) dL_law_191 ⟨(by omega : kc + 2 + 0 ≤ 601024), (by omega : ks + 12 + 0 ≤ 7293034)⟩) hP hD hS hA [4, 5, 6] [0, 1, 2, 3, 7] [0, 1, 2, 3, 5, 6, 7, 4] rfl rfl rfl (by decide) rfl rfl (fun H locs hP hD hS => ?_)
  refine lv_aload_n hx hb dL_law_194 rfl (lv_at hl 3 rfl) ?_
  refine pq_calli (va_runV (As := []) (rest := []) ⟨hx, hb, hml, hown, hts⟩ (c_X3_thrown l dC dI g0 r1 r2 ((s_X3_put lo hi a1 ((pl_shl a2.toInt64 (32 : Int32)) ||| (a3.toInt64 &&& (4294967295 : Int64))) ((pl_shl a4.toInt64 (32 : Int32)) ||| (a5.toInt64 &&& (4294967295 : Int64)))).1) fa fb ft xl xh yl yh) (cwV 0 hts gl_X3_thrown rfl rfl rfl ydV_X3_thrown ⟨Nat.le_of_ble_eq_true rfl, Nat.le_of_ble_eq_true rfl⟩) (rp_V (hK.sub (tys' := []) [] rfl) (hP.sub (ws' := [(g0, .inr (2, [.int ((s_X3_put lo hi a1 ((pl_shl a2.toInt64 (32 : Int32)) ||| (a3.toInt64 &&& (4294967295 : Int64))) ((pl_shl a4.toInt64 (32 : Int32)) ||| (a5.toInt64 &&& (4294967295 : Int64)))).1), .ref r1, .ref r2, .long fa, .long fb, .int ft, .long xl, .long xh, .long yl, .long yh]))]) [4] rfl)  rfl rfl) rfl rfl hl.1 rfl (lv_room (Nat.le_of_ble_eq_true rfl)) dL_law_195 ⟨(by omega : kc + 2 + 0 + 0 ≤ 601024), (by omega : ks + 12 + 0 + 0 ≤ 7293034)⟩) ?_
  refine lv_iload hx hb dL_law_198 (lv_at hl 0 rfl) ?_
  refine lv_icmp_eq (tgt := 205) hx hb dL_law_200 (by decide) (fun _ => ?_) (fun h => absurd ((L_put_eq lo hi hok a1 ((pl_shl a2.toInt64 (32 : Int32)) ||| (a3.toInt64 &&& (4294967295 : Int64))) ((pl_shl a4.toInt64 (32 : Int32)) ||| (a5.toInt64 &&& (4294967295 : Int64)))).1.1) h)
  refine lv_goto (tgt := 857) hx hb dL_law_205 (by decide) ?_
  refine lv_iinc (v := nI (i + 7)) (lv' := [(4, .int (nI (i + 7))), (5, .int ((s_L_put lo hi a1 ((pl_shl a2.toInt64 (32 : Int32)) ||| (a3.toInt64 &&& (4294967295 : Int64))) ((pl_shl a4.toInt64 (32 : Int32)) ||| (a5.toInt64 &&& (4294967295 : Int64)))).1)), (0, .ref b), (1, .ref h0), (2, .ref g0), (3, .ref o0)]) hx hb dL_law_857 hl (k := 5) rfl (lw_i7 i) (by decide) rfl (fun ls hl => ?_)
  refine lv_goto (tgt := 23) hx hb dL_law_860 (by decide) ?_
  have eL := L_put_eq lo hi hok a1 ((pl_shl a2.toInt64 (32 : Int32)) ||| (a3.toInt64 &&& (4294967295 : Int64))) ((pl_shl a4.toInt64 (32 : Int32)) ||| (a5.toInt64 &&& (4294967295 : Int64)))
  rw [eL.1.2.1, eL.1.2.2] at hP hD
  exact ih _ _ _ _ _ _ _ _ _ _ _ _ _ _ _ _ _ _ _ _ _ _ eL.2 (by omega) (by omega) hP hD hS (lv_sub hl [2, 3, 4, 5, 0] rfl)
